theorem dG0_dL_law_18 : (decode cL_law 18 = .ok (.iload_n 3, 1)) ∧ (decode cL_law 19 = .ok (.aload_n 0, 1)) ∧ (decode cL_law 20 = .ok (.arraylength, 1)) ∧ (decode cL_law 21 = .ok (.bipush 6, 2)) ∧ (decode cL_law 23 = .ok (.isub, 1)) ∧ (decode cL_law 24 = .ok (.if_icmp .gt 1677, 3)) ∧ (decode cL_law 27 = .ok (.aload_n 0, 1)) ∧ (decode cL_law 28 = .ok (.iload_n 3, 1)) ∧ (decode cL_law 29 = .ok (.iaload, 1)) ∧ (decode cL_law 30 = .ok (.bipush 63, 2)) ∧ (decode cL_law 32 = .ok (.iand, 1)) ∧ (decode cL_law 33 = .ok (.tableswitch 1662 0 36 #[163, 186, 219, 262, 295, 328, 407, 470, 523, 546, 579, 632, 685, 718, 761, 804, 837, 916, 985, 1008, 1041, 1064, 1107, 1150, 1193, 1216, 1259, 1302, 1345, 1388, 1431, 1464, 1507, 1550, 1613, 1636, 1649], 163)) ∧ (decode cL_law 196 = .ok (.aload_n 1, 1)) ∧ (decode cL_law 197 = .ok (.aload_n 0, 1)) ∧ (decode cL_law 198 = .ok (.iload_n 3, 1)) ∧ (decode cL_law 199 = .ok (.iconst 1, 1)) := by decide +kernel
theorem dL_law_18 : decode cL_law 18 = .ok (.iload_n 3, 1) := dG0_dL_law_18.1
theorem dL_law_19 : decode cL_law 19 = .ok (.aload_n 0, 1) := dG0_dL_law_18.2.1
theorem dL_law_20 : decode cL_law 20 = .ok (.arraylength, 1) := dG0_dL_law_18.2.2.1
theorem dL_law_21 : decode cL_law 21 = .ok (.bipush 6, 2) := dG0_dL_law_18.2.2.2.1
theorem dL_law_23 : decode cL_law 23 = .ok (.isub, 1) := dG0_dL_law_18.2.2.2.2.1
theorem dL_law_24 : decode cL_law 24 = .ok (.if_icmp .gt 1677, 3) := dG0_dL_law_18.2.2.2.2.2.1
theorem dL_law_27 : decode cL_law 27 = .ok (.aload_n 0, 1) := dG0_dL_law_18.2.2.2.2.2.2.1
theorem dL_law_28 : decode cL_law 28 = .ok (.iload_n 3, 1) := dG0_dL_law_18.2.2.2.2.2.2.2.1
theorem dL_law_29 : decode cL_law 29 = .ok (.iaload, 1) := dG0_dL_law_18.2.2.2.2.2.2.2.2.1
theorem dL_law_30 : decode cL_law 30 = .ok (.bipush 63, 2) := dG0_dL_law_18.2.2.2.2.2.2.2.2.2.1
theorem dL_law_32 : decode cL_law 32 = .ok (.iand, 1) := dG0_dL_law_18.2.2.2.2.2.2.2.2.2.2.1
theorem dL_law_33 : decode cL_law 33 = .ok (.tableswitch 1662 0 36 #[163, 186, 219, 262, 295, 328, 407, 470, 523, 546, 579, 632, 685, 718, 761, 804, 837, 916, 985, 1008, 1041, 1064, 1107, 1150, 1193, 1216, 1259, 1302, 1345, 1388, 1431, 1464, 1507, 1550, 1613, 1636, 1649], 163) := dG0_dL_law_18.2.2.2.2.2.2.2.2.2.2.2.1
theorem dL_law_196 : decode cL_law 196 = .ok (.aload_n 1, 1) := dG0_dL_law_18.2.2.2.2.2.2.2.2.2.2.2.2.1
theorem dL_law_197 : decode cL_law 197 = .ok (.aload_n 0, 1) := dG0_dL_law_18.2.2.2.2.2.2.2.2.2.2.2.2.2.1
theorem dL_law_198 : decode cL_law 198 = .ok (.iload_n 3, 1) := dG0_dL_law_18.2.2.2.2.2.2.2.2.2.2.2.2.2.2.1
theorem dL_law_199 : decode cL_law 199 = .ok (.iconst 1, 1) := dG0_dL_law_18.2.2.2.2.2.2.2.2.2.2.2.2.2.2.2
theorem dG1_dL_law_200 : (decode cL_law 200 = .ok (.iadd, 1)) ∧ (decode cL_law 201 = .ok (.iaload, 1)) ∧ (decode cL_law 205 = .ok (.pop, 1)) ∧ (decode cL_law 206 = .ok (.aload_n 2, 1)) ∧ (decode cL_law 207 = .ok (.aload_n 0, 1)) ∧ (decode cL_law 208 = .ok (.iload_n 3, 1)) ∧ (decode cL_law 209 = .ok (.iconst 1, 1)) ∧ (decode cL_law 210 = .ok (.iadd, 1)) ∧ (decode cL_law 211 = .ok (.iaload, 1)) ∧ (decode cL_law 215 = .ok (.pop, 1)) ∧ (decode cL_law 216 = .ok (.goto 1479, 3)) ∧ (decode cL_law 219 = .ok (.aload_n 1, 1)) ∧ (decode cL_law 220 = .ok (.aload_n 0, 1)) ∧ (decode cL_law 221 = .ok (.iload_n 3, 1)) ∧ (decode cL_law 222 = .ok (.iconst 1, 1)) ∧ (decode cL_law 223 = .ok (.iadd, 1)) := by decide +kernel
theorem dL_law_200 : decode cL_law 200 = .ok (.iadd, 1) := dG1_dL_law_200.1
theorem dL_law_201 : decode cL_law 201 = .ok (.iaload, 1) := dG1_dL_law_200.2.1
theorem dL_law_205 : decode cL_law 205 = .ok (.pop, 1) := dG1_dL_law_200.2.2.1
theorem dL_law_206 : decode cL_law 206 = .ok (.aload_n 2, 1) := dG1_dL_law_200.2.2.2.1
theorem dL_law_207 : decode cL_law 207 = .ok (.aload_n 0, 1) := dG1_dL_law_200.2.2.2.2.1
theorem dL_law_208 : decode cL_law 208 = .ok (.iload_n 3, 1) := dG1_dL_law_200.2.2.2.2.2.1
theorem dL_law_209 : decode cL_law 209 = .ok (.iconst 1, 1) := dG1_dL_law_200.2.2.2.2.2.2.1
theorem dL_law_210 : decode cL_law 210 = .ok (.iadd, 1) := dG1_dL_law_200.2.2.2.2.2.2.2.1
theorem dL_law_211 : decode cL_law 211 = .ok (.iaload, 1) := dG1_dL_law_200.2.2.2.2.2.2.2.2.1
theorem dL_law_215 : decode cL_law 215 = .ok (.pop, 1) := dG1_dL_law_200.2.2.2.2.2.2.2.2.2.1
theorem dL_law_216 : decode cL_law 216 = .ok (.goto 1479, 3) := dG1_dL_law_200.2.2.2.2.2.2.2.2.2.2.1
theorem dL_law_219 : decode cL_law 219 = .ok (.aload_n 1, 1) := dG1_dL_law_200.2.2.2.2.2.2.2.2.2.2.2.1
theorem dL_law_220 : decode cL_law 220 = .ok (.aload_n 0, 1) := dG1_dL_law_200.2.2.2.2.2.2.2.2.2.2.2.2.1
theorem dL_law_221 : decode cL_law 221 = .ok (.iload_n 3, 1) := dG1_dL_law_200.2.2.2.2.2.2.2.2.2.2.2.2.2.1
theorem dL_law_222 : decode cL_law 222 = .ok (.iconst 1, 1) := dG1_dL_law_200.2.2.2.2.2.2.2.2.2.2.2.2.2.2.1
theorem dL_law_223 : decode cL_law 223 = .ok (.iadd, 1) := dG1_dL_law_200.2.2.2.2.2.2.2.2.2.2.2.2.2.2.2
theorem dG2_dL_law_224 : (decode cL_law 224 = .ok (.iaload, 1)) ∧ (decode cL_law 225 = .ok (.aload_n 0, 1)) ∧ (decode cL_law 226 = .ok (.iload_n 3, 1)) ∧ (decode cL_law 227 = .ok (.iconst 2, 1)) ∧ (decode cL_law 228 = .ok (.iadd, 1)) ∧ (decode cL_law 229 = .ok (.iaload, 1)) ∧ (decode cL_law 233 = .ok (.pop, 1)) ∧ (decode cL_law 234 = .ok (.aload_n 2, 1)) ∧ (decode cL_law 235 = .ok (.aload_n 0, 1)) ∧ (decode cL_law 236 = .ok (.iload_n 3, 1)) ∧ (decode cL_law 237 = .ok (.iconst 1, 1)) ∧ (decode cL_law 238 = .ok (.iadd, 1)) ∧ (decode cL_law 239 = .ok (.iaload, 1)) ∧ (decode cL_law 240 = .ok (.aload_n 0, 1)) ∧ (decode cL_law 241 = .ok (.iload_n 3, 1)) ∧ (decode cL_law 242 = .ok (.iconst 2, 1)) := by decide +kernel
theorem dL_law_224 : decode cL_law 224 = .ok (.iaload, 1) := dG2_dL_law_224.1
theorem dL_law_225 : decode cL_law 225 = .ok (.aload_n 0, 1) := dG2_dL_law_224.2.1
theorem dL_law_226 : decode cL_law 226 = .ok (.iload_n 3, 1) := dG2_dL_law_224.2.2.1
theorem dL_law_227 : decode cL_law 227 = .ok (.iconst 2, 1) := dG2_dL_law_224.2.2.2.1
theorem dL_law_228 : decode cL_law 228 = .ok (.iadd, 1) := dG2_dL_law_224.2.2.2.2.1
theorem dL_law_229 : decode cL_law 229 = .ok (.iaload, 1) := dG2_dL_law_224.2.2.2.2.2.1
theorem dL_law_233 : decode cL_law 233 = .ok (.pop, 1) := dG2_dL_law_224.2.2.2.2.2.2.1
theorem dL_law_234 : decode cL_law 234 = .ok (.aload_n 2, 1) := dG2_dL_law_224.2.2.2.2.2.2.2.1
theorem dL_law_235 : decode cL_law 235 = .ok (.aload_n 0, 1) := dG2_dL_law_224.2.2.2.2.2.2.2.2.1
theorem dL_law_236 : decode cL_law 236 = .ok (.iload_n 3, 1) := dG2_dL_law_224.2.2.2.2.2.2.2.2.2.1
theorem dL_law_237 : decode cL_law 237 = .ok (.iconst 1, 1) := dG2_dL_law_224.2.2.2.2.2.2.2.2.2.2.1
theorem dL_law_238 : decode cL_law 238 = .ok (.iadd, 1) := dG2_dL_law_224.2.2.2.2.2.2.2.2.2.2.2.1
theorem dL_law_239 : decode cL_law 239 = .ok (.iaload, 1) := dG2_dL_law_224.2.2.2.2.2.2.2.2.2.2.2.2.1
theorem dL_law_240 : decode cL_law 240 = .ok (.aload_n 0, 1) := dG2_dL_law_224.2.2.2.2.2.2.2.2.2.2.2.2.2.1
theorem dL_law_241 : decode cL_law 241 = .ok (.iload_n 3, 1) := dG2_dL_law_224.2.2.2.2.2.2.2.2.2.2.2.2.2.2.1
theorem dL_law_242 : decode cL_law 242 = .ok (.iconst 2, 1) := dG2_dL_law_224.2.2.2.2.2.2.2.2.2.2.2.2.2.2.2
theorem dG3_dL_law_243 : (decode cL_law 243 = .ok (.iadd, 1)) ∧ (decode cL_law 244 = .ok (.iaload, 1)) ∧ (decode cL_law 248 = .ok (.pop, 1)) ∧ (decode cL_law 249 = .ok (.goto 1446, 3)) ∧ (decode cL_law 252 = .ok (.aload_n 1, 1)) ∧ (decode cL_law 253 = .ok (.aload_n 0, 1)) ∧ (decode cL_law 254 = .ok (.iload_n 3, 1)) ∧ (decode cL_law 255 = .ok (.iconst 1, 1)) ∧ (decode cL_law 256 = .ok (.iadd, 1)) ∧ (decode cL_law 257 = .ok (.iaload, 1)) ∧ (decode cL_law 258 = .ok (.aload_n 0, 1)) ∧ (decode cL_law 259 = .ok (.iload_n 3, 1)) ∧ (decode cL_law 260 = .ok (.iconst 2, 1)) ∧ (decode cL_law 261 = .ok (.iadd, 1)) ∧ (decode cL_law 262 = .ok (.iaload, 1)) ∧ (decode cL_law 263 = .ok (.aload_n 0, 1)) := by decide +kernel
theorem dL_law_243 : decode cL_law 243 = .ok (.iadd, 1) := dG3_dL_law_243.1
theorem dL_law_244 : decode cL_law 244 = .ok (.iaload, 1) := dG3_dL_law_243.2.1
theorem dL_law_248 : decode cL_law 248 = .ok (.pop, 1) := dG3_dL_law_243.2.2.1
theorem dL_law_249 : decode cL_law 249 = .ok (.goto 1446, 3) := dG3_dL_law_243.2.2.2.1
theorem dL_law_252 : decode cL_law 252 = .ok (.aload_n 1, 1) := dG3_dL_law_243.2.2.2.2.1
theorem dL_law_253 : decode cL_law 253 = .ok (.aload_n 0, 1) := dG3_dL_law_243.2.2.2.2.2.1
theorem dL_law_254 : decode cL_law 254 = .ok (.iload_n 3, 1) := dG3_dL_law_243.2.2.2.2.2.2.1
theorem dL_law_255 : decode cL_law 255 = .ok (.iconst 1, 1) := dG3_dL_law_243.2.2.2.2.2.2.2.1
theorem dL_law_256 : decode cL_law 256 = .ok (.iadd, 1) := dG3_dL_law_243.2.2.2.2.2.2.2.2.1
theorem dL_law_257 : decode cL_law 257 = .ok (.iaload, 1) := dG3_dL_law_243.2.2.2.2.2.2.2.2.2.1
theorem dL_law_258 : decode cL_law 258 = .ok (.aload_n 0, 1) := dG3_dL_law_243.2.2.2.2.2.2.2.2.2.2.1
theorem dL_law_259 : decode cL_law 259 = .ok (.iload_n 3, 1) := dG3_dL_law_243.2.2.2.2.2.2.2.2.2.2.2.1
theorem dL_law_260 : decode cL_law 260 = .ok (.iconst 2, 1) := dG3_dL_law_243.2.2.2.2.2.2.2.2.2.2.2.2.1
theorem dL_law_261 : decode cL_law 261 = .ok (.iadd, 1) := dG3_dL_law_243.2.2.2.2.2.2.2.2.2.2.2.2.2.1
theorem dL_law_262 : decode cL_law 262 = .ok (.iaload, 1) := dG3_dL_law_243.2.2.2.2.2.2.2.2.2.2.2.2.2.2.1
theorem dL_law_263 : decode cL_law 263 = .ok (.aload_n 0, 1) := dG3_dL_law_243.2.2.2.2.2.2.2.2.2.2.2.2.2.2.2
theorem dG4_dL_law_264 : (decode cL_law 264 = .ok (.iload_n 3, 1)) ∧ (decode cL_law 265 = .ok (.iconst 3, 1)) ∧ (decode cL_law 266 = .ok (.iadd, 1)) ∧ (decode cL_law 267 = .ok (.iaload, 1)) ∧ (decode cL_law 271 = .ok (.pop, 1)) ∧ (decode cL_law 272 = .ok (.aload_n 2, 1)) ∧ (decode cL_law 273 = .ok (.aload_n 0, 1)) ∧ (decode cL_law 274 = .ok (.iload_n 3, 1)) ∧ (decode cL_law 275 = .ok (.iconst 1, 1)) ∧ (decode cL_law 276 = .ok (.iadd, 1)) ∧ (decode cL_law 277 = .ok (.iaload, 1)) ∧ (decode cL_law 278 = .ok (.aload_n 0, 1)) ∧ (decode cL_law 279 = .ok (.iload_n 3, 1)) ∧ (decode cL_law 280 = .ok (.iconst 2, 1)) ∧ (decode cL_law 281 = .ok (.iadd, 1)) ∧ (decode cL_law 282 = .ok (.iaload, 1)) := by decide +kernel
theorem dL_law_264 : decode cL_law 264 = .ok (.iload_n 3, 1) := dG4_dL_law_264.1
theorem dL_law_265 : decode cL_law 265 = .ok (.iconst 3, 1) := dG4_dL_law_264.2.1
theorem dL_law_266 : decode cL_law 266 = .ok (.iadd, 1) := dG4_dL_law_264.2.2.1
theorem dL_law_267 : decode cL_law 267 = .ok (.iaload, 1) := dG4_dL_law_264.2.2.2.1
theorem dL_law_271 : decode cL_law 271 = .ok (.pop, 1) := dG4_dL_law_264.2.2.2.2.1
theorem dL_law_272 : decode cL_law 272 = .ok (.aload_n 2, 1) := dG4_dL_law_264.2.2.2.2.2.1
theorem dL_law_273 : decode cL_law 273 = .ok (.aload_n 0, 1) := dG4_dL_law_264.2.2.2.2.2.2.1
theorem dL_law_274 : decode cL_law 274 = .ok (.iload_n 3, 1) := dG4_dL_law_264.2.2.2.2.2.2.2.1
theorem dL_law_275 : decode cL_law 275 = .ok (.iconst 1, 1) := dG4_dL_law_264.2.2.2.2.2.2.2.2.1
theorem dL_law_276 : decode cL_law 276 = .ok (.iadd, 1) := dG4_dL_law_264.2.2.2.2.2.2.2.2.2.1
theorem dL_law_277 : decode cL_law 277 = .ok (.iaload, 1) := dG4_dL_law_264.2.2.2.2.2.2.2.2.2.2.1
theorem dL_law_278 : decode cL_law 278 = .ok (.aload_n 0, 1) := dG4_dL_law_264.2.2.2.2.2.2.2.2.2.2.2.1
theorem dL_law_279 : decode cL_law 279 = .ok (.iload_n 3, 1) := dG4_dL_law_264.2.2.2.2.2.2.2.2.2.2.2.2.1
theorem dL_law_280 : decode cL_law 280 = .ok (.iconst 2, 1) := dG4_dL_law_264.2.2.2.2.2.2.2.2.2.2.2.2.2.1
theorem dL_law_281 : decode cL_law 281 = .ok (.iadd, 1) := dG4_dL_law_264.2.2.2.2.2.2.2.2.2.2.2.2.2.2.1
theorem dL_law_282 : decode cL_law 282 = .ok (.iaload, 1) := dG4_dL_law_264.2.2.2.2.2.2.2.2.2.2.2.2.2.2.2
theorem dG5_dL_law_283 : (decode cL_law 283 = .ok (.aload_n 0, 1)) ∧ (decode cL_law 284 = .ok (.iload_n 3, 1)) ∧ (decode cL_law 285 = .ok (.iconst 3, 1)) ∧ (decode cL_law 286 = .ok (.iadd, 1)) ∧ (decode cL_law 287 = .ok (.iaload, 1)) ∧ (decode cL_law 291 = .ok (.pop, 1)) ∧ (decode cL_law 292 = .ok (.goto 1403, 3)) ∧ (decode cL_law 295 = .ok (.aload_n 1, 1)) ∧ (decode cL_law 296 = .ok (.aload_n 0, 1)) ∧ (decode cL_law 297 = .ok (.iload_n 3, 1)) ∧ (decode cL_law 298 = .ok (.iconst 1, 1)) ∧ (decode cL_law 299 = .ok (.iadd, 1)) ∧ (decode cL_law 300 = .ok (.iaload, 1)) ∧ (decode cL_law 301 = .ok (.aload_n 0, 1)) ∧ (decode cL_law 302 = .ok (.iload_n 3, 1)) ∧ (decode cL_law 303 = .ok (.iconst 2, 1)) := by decide +kernel
theorem dL_law_283 : decode cL_law 283 = .ok (.aload_n 0, 1) := dG5_dL_law_283.1
theorem dL_law_284 : decode cL_law 284 = .ok (.iload_n 3, 1) := dG5_dL_law_283.2.1
theorem dL_law_285 : decode cL_law 285 = .ok (.iconst 3, 1) := dG5_dL_law_283.2.2.1
theorem dL_law_286 : decode cL_law 286 = .ok (.iadd, 1) := dG5_dL_law_283.2.2.2.1
theorem dL_law_287 : decode cL_law 287 = .ok (.iaload, 1) := dG5_dL_law_283.2.2.2.2.1
theorem dL_law_291 : decode cL_law 291 = .ok (.pop, 1) := dG5_dL_law_283.2.2.2.2.2.1
theorem dL_law_292 : decode cL_law 292 = .ok (.goto 1403, 3) := dG5_dL_law_283.2.2.2.2.2.2.1
theorem dL_law_295 : decode cL_law 295 = .ok (.aload_n 1, 1) := dG5_dL_law_283.2.2.2.2.2.2.2.1
theorem dL_law_296 : decode cL_law 296 = .ok (.aload_n 0, 1) := dG5_dL_law_283.2.2.2.2.2.2.2.2.1
theorem dL_law_297 : decode cL_law 297 = .ok (.iload_n 3, 1) := dG5_dL_law_283.2.2.2.2.2.2.2.2.2.1
theorem dL_law_298 : decode cL_law 298 = .ok (.iconst 1, 1) := dG5_dL_law_283.2.2.2.2.2.2.2.2.2.2.1
theorem dL_law_299 : decode cL_law 299 = .ok (.iadd, 1) := dG5_dL_law_283.2.2.2.2.2.2.2.2.2.2.2.1
theorem dL_law_300 : decode cL_law 300 = .ok (.iaload, 1) := dG5_dL_law_283.2.2.2.2.2.2.2.2.2.2.2.2.1
theorem dL_law_301 : decode cL_law 301 = .ok (.aload_n 0, 1) := dG5_dL_law_283.2.2.2.2.2.2.2.2.2.2.2.2.2.1
theorem dL_law_302 : decode cL_law 302 = .ok (.iload_n 3, 1) := dG5_dL_law_283.2.2.2.2.2.2.2.2.2.2.2.2.2.2.1
theorem dL_law_303 : decode cL_law 303 = .ok (.iconst 2, 1) := dG5_dL_law_283.2.2.2.2.2.2.2.2.2.2.2.2.2.2.2
theorem dG6_dL_law_304 : (decode cL_law 304 = .ok (.iadd, 1)) ∧ (decode cL_law 305 = .ok (.iaload, 1)) ∧ (decode cL_law 309 = .ok (.pop, 1)) ∧ (decode cL_law 310 = .ok (.aload_n 2, 1)) ∧ (decode cL_law 311 = .ok (.aload_n 0, 1)) ∧ (decode cL_law 312 = .ok (.iload_n 3, 1)) ∧ (decode cL_law 313 = .ok (.iconst 1, 1)) ∧ (decode cL_law 314 = .ok (.iadd, 1)) ∧ (decode cL_law 315 = .ok (.iaload, 1)) ∧ (decode cL_law 316 = .ok (.aload_n 0, 1)) ∧ (decode cL_law 317 = .ok (.iload_n 3, 1)) ∧ (decode cL_law 318 = .ok (.iconst 2, 1)) ∧ (decode cL_law 319 = .ok (.iadd, 1)) ∧ (decode cL_law 320 = .ok (.iaload, 1)) ∧ (decode cL_law 324 = .ok (.pop, 1)) ∧ (decode cL_law 325 = .ok (.goto 1370, 3)) := by decide +kernel
theorem dL_law_304 : decode cL_law 304 = .ok (.iadd, 1) := dG6_dL_law_304.1
theorem dL_law_305 : decode cL_law 305 = .ok (.iaload, 1) := dG6_dL_law_304.2.1
theorem dL_law_309 : decode cL_law 309 = .ok (.pop, 1) := dG6_dL_law_304.2.2.1
theorem dL_law_310 : decode cL_law 310 = .ok (.aload_n 2, 1) := dG6_dL_law_304.2.2.2.1
theorem dL_law_311 : decode cL_law 311 = .ok (.aload_n 0, 1) := dG6_dL_law_304.2.2.2.2.1
theorem dL_law_312 : decode cL_law 312 = .ok (.iload_n 3, 1) := dG6_dL_law_304.2.2.2.2.2.1
theorem dL_law_313 : decode cL_law 313 = .ok (.iconst 1, 1) := dG6_dL_law_304.2.2.2.2.2.2.1
theorem dL_law_314 : decode cL_law 314 = .ok (.iadd, 1) := dG6_dL_law_304.2.2.2.2.2.2.2.1
theorem dL_law_315 : decode cL_law 315 = .ok (.iaload, 1) := dG6_dL_law_304.2.2.2.2.2.2.2.2.1
theorem dL_law_316 : decode cL_law 316 = .ok (.aload_n 0, 1) := dG6_dL_law_304.2.2.2.2.2.2.2.2.2.1
theorem dL_law_317 : decode cL_law 317 = .ok (.iload_n 3, 1) := dG6_dL_law_304.2.2.2.2.2.2.2.2.2.2.1
theorem dL_law_318 : decode cL_law 318 = .ok (.iconst 2, 1) := dG6_dL_law_304.2.2.2.2.2.2.2.2.2.2.2.1
theorem dL_law_319 : decode cL_law 319 = .ok (.iadd, 1) := dG6_dL_law_304.2.2.2.2.2.2.2.2.2.2.2.2.1
theorem dL_law_320 : decode cL_law 320 = .ok (.iaload, 1) := dG6_dL_law_304.2.2.2.2.2.2.2.2.2.2.2.2.2.1
theorem dL_law_324 : decode cL_law 324 = .ok (.pop, 1) := dG6_dL_law_304.2.2.2.2.2.2.2.2.2.2.2.2.2.2.1
theorem dL_law_325 : decode cL_law 325 = .ok (.goto 1370, 3) := dG6_dL_law_304.2.2.2.2.2.2.2.2.2.2.2.2.2.2.2
theorem dG7_dL_law_328 : (decode cL_law 328 = .ok (.aload_n 1, 1)) ∧ (decode cL_law 329 = .ok (.aload_n 0, 1)) ∧ (decode cL_law 330 = .ok (.iload_n 3, 1)) ∧ (decode cL_law 331 = .ok (.iconst 1, 1)) ∧ (decode cL_law 332 = .ok (.iadd, 1)) ∧ (decode cL_law 333 = .ok (.iaload, 1)) ∧ (decode cL_law 334 = .ok (.aload_n 0, 1)) ∧ (decode cL_law 335 = .ok (.iload_n 3, 1)) ∧ (decode cL_law 336 = .ok (.iconst 2, 1)) ∧ (decode cL_law 337 = .ok (.iadd, 1)) ∧ (decode cL_law 338 = .ok (.iaload, 1)) ∧ (decode cL_law 342 = .ok (.aload_n 2, 1)) ∧ (decode cL_law 343 = .ok (.aload_n 0, 1)) ∧ (decode cL_law 344 = .ok (.iload_n 3, 1)) ∧ (decode cL_law 345 = .ok (.iconst 1, 1)) ∧ (decode cL_law 346 = .ok (.iadd, 1)) := by decide +kernel
theorem dL_law_328 : decode cL_law 328 = .ok (.aload_n 1, 1) := dG7_dL_law_328.1
theorem dL_law_329 : decode cL_law 329 = .ok (.aload_n 0, 1) := dG7_dL_law_328.2.1
theorem dL_law_330 : decode cL_law 330 = .ok (.iload_n 3, 1) := dG7_dL_law_328.2.2.1
theorem dL_law_331 : decode cL_law 331 = .ok (.iconst 1, 1) := dG7_dL_law_328.2.2.2.1
theorem dL_law_332 : decode cL_law 332 = .ok (.iadd, 1) := dG7_dL_law_328.2.2.2.2.1
theorem dL_law_333 : decode cL_law 333 = .ok (.iaload, 1) := dG7_dL_law_328.2.2.2.2.2.1
theorem dL_law_334 : decode cL_law 334 = .ok (.aload_n 0, 1) := dG7_dL_law_328.2.2.2.2.2.2.1
theorem dL_law_335 : decode cL_law 335 = .ok (.iload_n 3, 1) := dG7_dL_law_328.2.2.2.2.2.2.2.1
theorem dL_law_336 : decode cL_law 336 = .ok (.iconst 2, 1) := dG7_dL_law_328.2.2.2.2.2.2.2.2.1
theorem dL_law_337 : decode cL_law 337 = .ok (.iadd, 1) := dG7_dL_law_328.2.2.2.2.2.2.2.2.2.1
theorem dL_law_338 : decode cL_law 338 = .ok (.iaload, 1) := dG7_dL_law_328.2.2.2.2.2.2.2.2.2.2.1
theorem dL_law_342 : decode cL_law 342 = .ok (.aload_n 2, 1) := dG7_dL_law_328.2.2.2.2.2.2.2.2.2.2.2.1
theorem dL_law_343 : decode cL_law 343 = .ok (.aload_n 0, 1) := dG7_dL_law_328.2.2.2.2.2.2.2.2.2.2.2.2.1
theorem dL_law_344 : decode cL_law 344 = .ok (.iload_n 3, 1) := dG7_dL_law_328.2.2.2.2.2.2.2.2.2.2.2.2.2.1
theorem dL_law_345 : decode cL_law 345 = .ok (.iconst 1, 1) := dG7_dL_law_328.2.2.2.2.2.2.2.2.2.2.2.2.2.2.1
theorem dL_law_346 : decode cL_law 346 = .ok (.iadd, 1) := dG7_dL_law_328.2.2.2.2.2.2.2.2.2.2.2.2.2.2.2
theorem dG8_dL_law_347 : (decode cL_law 347 = .ok (.iaload, 1)) ∧ (decode cL_law 348 = .ok (.aload_n 0, 1)) ∧ (decode cL_law 349 = .ok (.iload_n 3, 1)) ∧ (decode cL_law 350 = .ok (.iconst 2, 1)) ∧ (decode cL_law 351 = .ok (.iadd, 1)) ∧ (decode cL_law 352 = .ok (.iaload, 1)) ∧ (decode cL_law 356 = .ok (.if_icmp .eq 1339, 3)) ∧ (decode cL_law 361 = .ok (.aload_n 1, 1)) ∧ (decode cL_law 362 = .ok (.aload_n 0, 1)) ∧ (decode cL_law 363 = .ok (.iload_n 3, 1)) ∧ (decode cL_law 364 = .ok (.iconst 1, 1)) ∧ (decode cL_law 365 = .ok (.iadd, 1)) ∧ (decode cL_law 366 = .ok (.iaload, 1)) ∧ (decode cL_law 367 = .ok (.aload_n 0, 1)) ∧ (decode cL_law 368 = .ok (.iload_n 3, 1)) ∧ (decode cL_law 369 = .ok (.iconst 2, 1)) := by decide +kernel
theorem dL_law_347 : decode cL_law 347 = .ok (.iaload, 1) := dG8_dL_law_347.1
theorem dL_law_348 : decode cL_law 348 = .ok (.aload_n 0, 1) := dG8_dL_law_347.2.1
theorem dL_law_349 : decode cL_law 349 = .ok (.iload_n 3, 1) := dG8_dL_law_347.2.2.1
theorem dL_law_350 : decode cL_law 350 = .ok (.iconst 2, 1) := dG8_dL_law_347.2.2.2.1
theorem dL_law_351 : decode cL_law 351 = .ok (.iadd, 1) := dG8_dL_law_347.2.2.2.2.1
theorem dL_law_352 : decode cL_law 352 = .ok (.iaload, 1) := dG8_dL_law_347.2.2.2.2.2.1
theorem dL_law_356 : decode cL_law 356 = .ok (.if_icmp .eq 1339, 3) := dG8_dL_law_347.2.2.2.2.2.2.1
theorem dL_law_361 : decode cL_law 361 = .ok (.aload_n 1, 1) := dG8_dL_law_347.2.2.2.2.2.2.2.1
theorem dL_law_362 : decode cL_law 362 = .ok (.aload_n 0, 1) := dG8_dL_law_347.2.2.2.2.2.2.2.2.1
theorem dL_law_363 : decode cL_law 363 = .ok (.iload_n 3, 1) := dG8_dL_law_347.2.2.2.2.2.2.2.2.2.1
theorem dL_law_364 : decode cL_law 364 = .ok (.iconst 1, 1) := dG8_dL_law_347.2.2.2.2.2.2.2.2.2.2.1
theorem dL_law_365 : decode cL_law 365 = .ok (.iadd, 1) := dG8_dL_law_347.2.2.2.2.2.2.2.2.2.2.2.1
theorem dL_law_366 : decode cL_law 366 = .ok (.iaload, 1) := dG8_dL_law_347.2.2.2.2.2.2.2.2.2.2.2.2.1
theorem dL_law_367 : decode cL_law 367 = .ok (.aload_n 0, 1) := dG8_dL_law_347.2.2.2.2.2.2.2.2.2.2.2.2.2.1
theorem dL_law_368 : decode cL_law 368 = .ok (.iload_n 3, 1) := dG8_dL_law_347.2.2.2.2.2.2.2.2.2.2.2.2.2.2.1
theorem dL_law_369 : decode cL_law 369 = .ok (.iconst 2, 1) := dG8_dL_law_347.2.2.2.2.2.2.2.2.2.2.2.2.2.2.2
theorem dG9_dL_law_370 : (decode cL_law 370 = .ok (.iadd, 1)) ∧ (decode cL_law 371 = .ok (.iaload, 1)) ∧ (decode cL_law 372 = .ok (.aload_n 0, 1)) ∧ (decode cL_law 373 = .ok (.iload_n 3, 1)) ∧ (decode cL_law 374 = .ok (.iconst 3, 1)) ∧ (decode cL_law 375 = .ok (.iadd, 1)) ∧ (decode cL_law 376 = .ok (.iaload, 1)) ∧ (decode cL_law 377 = .ok (.aload_n 0, 1)) ∧ (decode cL_law 378 = .ok (.iload_n 3, 1)) ∧ (decode cL_law 379 = .ok (.iconst 4, 1)) ∧ (decode cL_law 380 = .ok (.iadd, 1)) ∧ (decode cL_law 381 = .ok (.iaload, 1)) ∧ (decode cL_law 382 = .ok (.aload_n 0, 1)) ∧ (decode cL_law 383 = .ok (.iload_n 3, 1)) ∧ (decode cL_law 384 = .ok (.iconst 5, 1)) ∧ (decode cL_law 385 = .ok (.iadd, 1)) := by decide +kernel
theorem dL_law_370 : decode cL_law 370 = .ok (.iadd, 1) := dG9_dL_law_370.1
theorem dL_law_371 : decode cL_law 371 = .ok (.iaload, 1) := dG9_dL_law_370.2.1
theorem dL_law_372 : decode cL_law 372 = .ok (.aload_n 0, 1) := dG9_dL_law_370.2.2.1
theorem dL_law_373 : decode cL_law 373 = .ok (.iload_n 3, 1) := dG9_dL_law_370.2.2.2.1
theorem dL_law_374 : decode cL_law 374 = .ok (.iconst 3, 1) := dG9_dL_law_370.2.2.2.2.1
theorem dL_law_375 : decode cL_law 375 = .ok (.iadd, 1) := dG9_dL_law_370.2.2.2.2.2.1
theorem dL_law_376 : decode cL_law 376 = .ok (.iaload, 1) := dG9_dL_law_370.2.2.2.2.2.2.1
theorem dL_law_377 : decode cL_law 377 = .ok (.aload_n 0, 1) := dG9_dL_law_370.2.2.2.2.2.2.2.1
theorem dL_law_378 : decode cL_law 378 = .ok (.iload_n 3, 1) := dG9_dL_law_370.2.2.2.2.2.2.2.2.1
theorem dL_law_379 : decode cL_law 379 = .ok (.iconst 4, 1) := dG9_dL_law_370.2.2.2.2.2.2.2.2.2.1
theorem dL_law_380 : decode cL_law 380 = .ok (.iadd, 1) := dG9_dL_law_370.2.2.2.2.2.2.2.2.2.2.1
theorem dL_law_381 : decode cL_law 381 = .ok (.iaload, 1) := dG9_dL_law_370.2.2.2.2.2.2.2.2.2.2.2.1
theorem dL_law_382 : decode cL_law 382 = .ok (.aload_n 0, 1) := dG9_dL_law_370.2.2.2.2.2.2.2.2.2.2.2.2.1
theorem dL_law_383 : decode cL_law 383 = .ok (.iload_n 3, 1) := dG9_dL_law_370.2.2.2.2.2.2.2.2.2.2.2.2.2.1
theorem dL_law_384 : decode cL_law 384 = .ok (.iconst 5, 1) := dG9_dL_law_370.2.2.2.2.2.2.2.2.2.2.2.2.2.2.1
theorem dL_law_385 : decode cL_law 385 = .ok (.iadd, 1) := dG9_dL_law_370.2.2.2.2.2.2.2.2.2.2.2.2.2.2.2
theorem dG10_dL_law_386 : (decode cL_law 386 = .ok (.iaload, 1)) ∧ (decode cL_law 387 = .ok (.ifCond .eq 7, 3)) ∧ (decode cL_law 390 = .ok (.iconst 1, 1)) ∧ (decode cL_law 391 = .ok (.goto 4, 3)) ∧ (decode cL_law 394 = .ok (.iconst 0, 1)) ∧ (decode cL_law 398 = .ok (.pop, 1)) ∧ (decode cL_law 399 = .ok (.aload_n 2, 1)) ∧ (decode cL_law 400 = .ok (.aload_n 0, 1)) ∧ (decode cL_law 401 = .ok (.iload_n 3, 1)) ∧ (decode cL_law 402 = .ok (.iconst 1, 1)) ∧ (decode cL_law 403 = .ok (.iadd, 1)) ∧ (decode cL_law 404 = .ok (.iaload, 1)) ∧ (decode cL_law 405 = .ok (.aload_n 0, 1)) ∧ (decode cL_law 406 = .ok (.iload_n 3, 1)) ∧ (decode cL_law 407 = .ok (.iconst 2, 1)) ∧ (decode cL_law 408 = .ok (.iadd, 1)) := by decide +kernel
theorem dL_law_386 : decode cL_law 386 = .ok (.iaload, 1) := dG10_dL_law_386.1
theorem dL_law_387 : decode cL_law 387 = .ok (.ifCond .eq 7, 3) := dG10_dL_law_386.2.1
theorem dL_law_390 : decode cL_law 390 = .ok (.iconst 1, 1) := dG10_dL_law_386.2.2.1
theorem dL_law_391 : decode cL_law 391 = .ok (.goto 4, 3) := dG10_dL_law_386.2.2.2.1
theorem dL_law_394 : decode cL_law 394 = .ok (.iconst 0, 1) := dG10_dL_law_386.2.2.2.2.1
theorem dL_law_398 : decode cL_law 398 = .ok (.pop, 1) := dG10_dL_law_386.2.2.2.2.2.1
theorem dL_law_399 : decode cL_law 399 = .ok (.aload_n 2, 1) := dG10_dL_law_386.2.2.2.2.2.2.1
theorem dL_law_400 : decode cL_law 400 = .ok (.aload_n 0, 1) := dG10_dL_law_386.2.2.2.2.2.2.2.1
theorem dL_law_401 : decode cL_law 401 = .ok (.iload_n 3, 1) := dG10_dL_law_386.2.2.2.2.2.2.2.2.1
theorem dL_law_402 : decode cL_law 402 = .ok (.iconst 1, 1) := dG10_dL_law_386.2.2.2.2.2.2.2.2.2.1
theorem dL_law_403 : decode cL_law 403 = .ok (.iadd, 1) := dG10_dL_law_386.2.2.2.2.2.2.2.2.2.2.1
theorem dL_law_404 : decode cL_law 404 = .ok (.iaload, 1) := dG10_dL_law_386.2.2.2.2.2.2.2.2.2.2.2.1
theorem dL_law_405 : decode cL_law 405 = .ok (.aload_n 0, 1) := dG10_dL_law_386.2.2.2.2.2.2.2.2.2.2.2.2.1
theorem dL_law_406 : decode cL_law 406 = .ok (.iload_n 3, 1) := dG10_dL_law_386.2.2.2.2.2.2.2.2.2.2.2.2.2.1
theorem dL_law_407 : decode cL_law 407 = .ok (.iconst 2, 1) := dG10_dL_law_386.2.2.2.2.2.2.2.2.2.2.2.2.2.2.1
theorem dL_law_408 : decode cL_law 408 = .ok (.iadd, 1) := dG10_dL_law_386.2.2.2.2.2.2.2.2.2.2.2.2.2.2.2
theorem dG11_dL_law_409 : (decode cL_law 409 = .ok (.iaload, 1)) ∧ (decode cL_law 410 = .ok (.aload_n 0, 1)) ∧ (decode cL_law 411 = .ok (.iload_n 3, 1)) ∧ (decode cL_law 412 = .ok (.iconst 3, 1)) ∧ (decode cL_law 413 = .ok (.iadd, 1)) ∧ (decode cL_law 414 = .ok (.iaload, 1)) ∧ (decode cL_law 415 = .ok (.aload_n 0, 1)) ∧ (decode cL_law 416 = .ok (.iload_n 3, 1)) ∧ (decode cL_law 417 = .ok (.iconst 4, 1)) ∧ (decode cL_law 418 = .ok (.iadd, 1)) ∧ (decode cL_law 419 = .ok (.iaload, 1)) ∧ (decode cL_law 420 = .ok (.aload_n 0, 1)) ∧ (decode cL_law 421 = .ok (.iload_n 3, 1)) ∧ (decode cL_law 422 = .ok (.iconst 5, 1)) ∧ (decode cL_law 423 = .ok (.iadd, 1)) ∧ (decode cL_law 424 = .ok (.iaload, 1)) := by decide +kernel
theorem dL_law_409 : decode cL_law 409 = .ok (.iaload, 1) := dG11_dL_law_409.1
theorem dL_law_410 : decode cL_law 410 = .ok (.aload_n 0, 1) := dG11_dL_law_409.2.1
theorem dL_law_411 : decode cL_law 411 = .ok (.iload_n 3, 1) := dG11_dL_law_409.2.2.1
theorem dL_law_412 : decode cL_law 412 = .ok (.iconst 3, 1) := dG11_dL_law_409.2.2.2.1
theorem dL_law_413 : decode cL_law 413 = .ok (.iadd, 1) := dG11_dL_law_409.2.2.2.2.1
theorem dL_law_414 : decode cL_law 414 = .ok (.iaload, 1) := dG11_dL_law_409.2.2.2.2.2.1
theorem dL_law_415 : decode cL_law 415 = .ok (.aload_n 0, 1) := dG11_dL_law_409.2.2.2.2.2.2.1
theorem dL_law_416 : decode cL_law 416 = .ok (.iload_n 3, 1) := dG11_dL_law_409.2.2.2.2.2.2.2.1
theorem dL_law_417 : decode cL_law 417 = .ok (.iconst 4, 1) := dG11_dL_law_409.2.2.2.2.2.2.2.2.1
theorem dL_law_418 : decode cL_law 418 = .ok (.iadd, 1) := dG11_dL_law_409.2.2.2.2.2.2.2.2.2.1
theorem dL_law_419 : decode cL_law 419 = .ok (.iaload, 1) := dG11_dL_law_409.2.2.2.2.2.2.2.2.2.2.1
theorem dL_law_420 : decode cL_law 420 = .ok (.aload_n 0, 1) := dG11_dL_law_409.2.2.2.2.2.2.2.2.2.2.2.1
theorem dL_law_421 : decode cL_law 421 = .ok (.iload_n 3, 1) := dG11_dL_law_409.2.2.2.2.2.2.2.2.2.2.2.2.1
theorem dL_law_422 : decode cL_law 422 = .ok (.iconst 5, 1) := dG11_dL_law_409.2.2.2.2.2.2.2.2.2.2.2.2.2.1
theorem dL_law_423 : decode cL_law 423 = .ok (.iadd, 1) := dG11_dL_law_409.2.2.2.2.2.2.2.2.2.2.2.2.2.2.1
theorem dL_law_424 : decode cL_law 424 = .ok (.iaload, 1) := dG11_dL_law_409.2.2.2.2.2.2.2.2.2.2.2.2.2.2.2
theorem dG12_dL_law_425 : (decode cL_law 425 = .ok (.ifCond .eq 7, 3)) ∧ (decode cL_law 428 = .ok (.iconst 1, 1)) ∧ (decode cL_law 429 = .ok (.goto 4, 3)) ∧ (decode cL_law 432 = .ok (.iconst 0, 1)) ∧ (decode cL_law 436 = .ok (.pop, 1)) ∧ (decode cL_law 437 = .ok (.goto 1258, 3)) ∧ (decode cL_law 440 = .ok (.aload_n 1, 1)) ∧ (decode cL_law 441 = .ok (.aload_n 0, 1)) ∧ (decode cL_law 442 = .ok (.iload_n 3, 1)) ∧ (decode cL_law 443 = .ok (.iconst 1, 1)) ∧ (decode cL_law 444 = .ok (.iadd, 1)) ∧ (decode cL_law 445 = .ok (.iaload, 1)) ∧ (decode cL_law 446 = .ok (.aload_n 0, 1)) ∧ (decode cL_law 447 = .ok (.iload_n 3, 1)) ∧ (decode cL_law 448 = .ok (.iconst 2, 1)) ∧ (decode cL_law 449 = .ok (.iadd, 1)) := by decide +kernel
theorem dL_law_425 : decode cL_law 425 = .ok (.ifCond .eq 7, 3) := dG12_dL_law_425.1
theorem dL_law_428 : decode cL_law 428 = .ok (.iconst 1, 1) := dG12_dL_law_425.2.1
theorem dL_law_429 : decode cL_law 429 = .ok (.goto 4, 3) := dG12_dL_law_425.2.2.1
theorem dL_law_432 : decode cL_law 432 = .ok (.iconst 0, 1) := dG12_dL_law_425.2.2.2.1
theorem dL_law_436 : decode cL_law 436 = .ok (.pop, 1) := dG12_dL_law_425.2.2.2.2.1
theorem dL_law_437 : decode cL_law 437 = .ok (.goto 1258, 3) := dG12_dL_law_425.2.2.2.2.2.1
theorem dL_law_440 : decode cL_law 440 = .ok (.aload_n 1, 1) := dG12_dL_law_425.2.2.2.2.2.2.1
theorem dL_law_441 : decode cL_law 441 = .ok (.aload_n 0, 1) := dG12_dL_law_425.2.2.2.2.2.2.2.1
theorem dL_law_442 : decode cL_law 442 = .ok (.iload_n 3, 1) := dG12_dL_law_425.2.2.2.2.2.2.2.2.1
theorem dL_law_443 : decode cL_law 443 = .ok (.iconst 1, 1) := dG12_dL_law_425.2.2.2.2.2.2.2.2.2.1
theorem dL_law_444 : decode cL_law 444 = .ok (.iadd, 1) := dG12_dL_law_425.2.2.2.2.2.2.2.2.2.2.1
theorem dL_law_445 : decode cL_law 445 = .ok (.iaload, 1) := dG12_dL_law_425.2.2.2.2.2.2.2.2.2.2.2.1
theorem dL_law_446 : decode cL_law 446 = .ok (.aload_n 0, 1) := dG12_dL_law_425.2.2.2.2.2.2.2.2.2.2.2.2.1
theorem dL_law_447 : decode cL_law 447 = .ok (.iload_n 3, 1) := dG12_dL_law_425.2.2.2.2.2.2.2.2.2.2.2.2.2.1
theorem dL_law_448 : decode cL_law 448 = .ok (.iconst 2, 1) := dG12_dL_law_425.2.2.2.2.2.2.2.2.2.2.2.2.2.2.1
theorem dL_law_449 : decode cL_law 449 = .ok (.iadd, 1) := dG12_dL_law_425.2.2.2.2.2.2.2.2.2.2.2.2.2.2.2
theorem dG13_dL_law_450 : (decode cL_law 450 = .ok (.iaload, 1)) ∧ (decode cL_law 451 = .ok (.aload_n 0, 1)) ∧ (decode cL_law 452 = .ok (.iload_n 3, 1)) ∧ (decode cL_law 453 = .ok (.iconst 3, 1)) ∧ (decode cL_law 454 = .ok (.iadd, 1)) ∧ (decode cL_law 455 = .ok (.iaload, 1)) ∧ (decode cL_law 456 = .ok (.aload_n 0, 1)) ∧ (decode cL_law 457 = .ok (.iload_n 3, 1)) ∧ (decode cL_law 458 = .ok (.iconst 4, 1)) ∧ (decode cL_law 459 = .ok (.iadd, 1)) ∧ (decode cL_law 460 = .ok (.iaload, 1)) ∧ (decode cL_law 461 = .ok (.aload_n 0, 1)) ∧ (decode cL_law 462 = .ok (.iload_n 3, 1)) ∧ (decode cL_law 463 = .ok (.iconst 5, 1)) ∧ (decode cL_law 464 = .ok (.iadd, 1)) ∧ (decode cL_law 465 = .ok (.iaload, 1)) := by decide +kernel
theorem dL_law_450 : decode cL_law 450 = .ok (.iaload, 1) := dG13_dL_law_450.1
theorem dL_law_451 : decode cL_law 451 = .ok (.aload_n 0, 1) := dG13_dL_law_450.2.1
theorem dL_law_452 : decode cL_law 452 = .ok (.iload_n 3, 1) := dG13_dL_law_450.2.2.1
theorem dL_law_453 : decode cL_law 453 = .ok (.iconst 3, 1) := dG13_dL_law_450.2.2.2.1
theorem dL_law_454 : decode cL_law 454 = .ok (.iadd, 1) := dG13_dL_law_450.2.2.2.2.1
theorem dL_law_455 : decode cL_law 455 = .ok (.iaload, 1) := dG13_dL_law_450.2.2.2.2.2.1
theorem dL_law_456 : decode cL_law 456 = .ok (.aload_n 0, 1) := dG13_dL_law_450.2.2.2.2.2.2.1
theorem dL_law_457 : decode cL_law 457 = .ok (.iload_n 3, 1) := dG13_dL_law_450.2.2.2.2.2.2.2.1
theorem dL_law_458 : decode cL_law 458 = .ok (.iconst 4, 1) := dG13_dL_law_450.2.2.2.2.2.2.2.2.1
theorem dL_law_459 : decode cL_law 459 = .ok (.iadd, 1) := dG13_dL_law_450.2.2.2.2.2.2.2.2.2.1
theorem dL_law_460 : decode cL_law 460 = .ok (.iaload, 1) := dG13_dL_law_450.2.2.2.2.2.2.2.2.2.2.1
theorem dL_law_461 : decode cL_law 461 = .ok (.aload_n 0, 1) := dG13_dL_law_450.2.2.2.2.2.2.2.2.2.2.2.1
theorem dL_law_462 : decode cL_law 462 = .ok (.iload_n 3, 1) := dG13_dL_law_450.2.2.2.2.2.2.2.2.2.2.2.2.1
theorem dL_law_463 : decode cL_law 463 = .ok (.iconst 5, 1) := dG13_dL_law_450.2.2.2.2.2.2.2.2.2.2.2.2.2.1
theorem dL_law_464 : decode cL_law 464 = .ok (.iadd, 1) := dG13_dL_law_450.2.2.2.2.2.2.2.2.2.2.2.2.2.2.1
theorem dL_law_465 : decode cL_law 465 = .ok (.iaload, 1) := dG13_dL_law_450.2.2.2.2.2.2.2.2.2.2.2.2.2.2.2
theorem dG14_dL_law_469 : (decode cL_law 469 = .ok (.pop, 1)) ∧ (decode cL_law 470 = .ok (.aload_n 2, 1)) ∧ (decode cL_law 471 = .ok (.aload_n 0, 1)) ∧ (decode cL_law 472 = .ok (.iload_n 3, 1)) ∧ (decode cL_law 473 = .ok (.iconst 1, 1)) ∧ (decode cL_law 474 = .ok (.iadd, 1)) ∧ (decode cL_law 475 = .ok (.iaload, 1)) ∧ (decode cL_law 476 = .ok (.aload_n 0, 1)) ∧ (decode cL_law 477 = .ok (.iload_n 3, 1)) ∧ (decode cL_law 478 = .ok (.iconst 2, 1)) ∧ (decode cL_law 479 = .ok (.iadd, 1)) ∧ (decode cL_law 480 = .ok (.iaload, 1)) ∧ (decode cL_law 481 = .ok (.aload_n 0, 1)) ∧ (decode cL_law 482 = .ok (.iload_n 3, 1)) ∧ (decode cL_law 483 = .ok (.iconst 3, 1)) ∧ (decode cL_law 484 = .ok (.iadd, 1)) := by decide +kernel
theorem dL_law_469 : decode cL_law 469 = .ok (.pop, 1) := dG14_dL_law_469.1
theorem dL_law_470 : decode cL_law 470 = .ok (.aload_n 2, 1) := dG14_dL_law_469.2.1
theorem dL_law_471 : decode cL_law 471 = .ok (.aload_n 0, 1) := dG14_dL_law_469.2.2.1
theorem dL_law_472 : decode cL_law 472 = .ok (.iload_n 3, 1) := dG14_dL_law_469.2.2.2.1
theorem dL_law_473 : decode cL_law 473 = .ok (.iconst 1, 1) := dG14_dL_law_469.2.2.2.2.1
theorem dL_law_474 : decode cL_law 474 = .ok (.iadd, 1) := dG14_dL_law_469.2.2.2.2.2.1
theorem dL_law_475 : decode cL_law 475 = .ok (.iaload, 1) := dG14_dL_law_469.2.2.2.2.2.2.1
theorem dL_law_476 : decode cL_law 476 = .ok (.aload_n 0, 1) := dG14_dL_law_469.2.2.2.2.2.2.2.1
theorem dL_law_477 : decode cL_law 477 = .ok (.iload_n 3, 1) := dG14_dL_law_469.2.2.2.2.2.2.2.2.1
theorem dL_law_478 : decode cL_law 478 = .ok (.iconst 2, 1) := dG14_dL_law_469.2.2.2.2.2.2.2.2.2.1
theorem dL_law_479 : decode cL_law 479 = .ok (.iadd, 1) := dG14_dL_law_469.2.2.2.2.2.2.2.2.2.2.1
theorem dL_law_480 : decode cL_law 480 = .ok (.iaload, 1) := dG14_dL_law_469.2.2.2.2.2.2.2.2.2.2.2.1
theorem dL_law_481 : decode cL_law 481 = .ok (.aload_n 0, 1) := dG14_dL_law_469.2.2.2.2.2.2.2.2.2.2.2.2.1
theorem dL_law_482 : decode cL_law 482 = .ok (.iload_n 3, 1) := dG14_dL_law_469.2.2.2.2.2.2.2.2.2.2.2.2.2.1
theorem dL_law_483 : decode cL_law 483 = .ok (.iconst 3, 1) := dG14_dL_law_469.2.2.2.2.2.2.2.2.2.2.2.2.2.2.1
theorem dL_law_484 : decode cL_law 484 = .ok (.iadd, 1) := dG14_dL_law_469.2.2.2.2.2.2.2.2.2.2.2.2.2.2.2
theorem dG15_dL_law_485 : (decode cL_law 485 = .ok (.iaload, 1)) ∧ (decode cL_law 486 = .ok (.aload_n 0, 1)) ∧ (decode cL_law 487 = .ok (.iload_n 3, 1)) ∧ (decode cL_law 488 = .ok (.iconst 4, 1)) ∧ (decode cL_law 489 = .ok (.iadd, 1)) ∧ (decode cL_law 490 = .ok (.iaload, 1)) ∧ (decode cL_law 491 = .ok (.aload_n 0, 1)) ∧ (decode cL_law 492 = .ok (.iload_n 3, 1)) ∧ (decode cL_law 493 = .ok (.iconst 5, 1)) ∧ (decode cL_law 494 = .ok (.iadd, 1)) ∧ (decode cL_law 495 = .ok (.iaload, 1)) ∧ (decode cL_law 499 = .ok (.pop, 1)) ∧ (decode cL_law 500 = .ok (.goto 1195, 3)) ∧ (decode cL_law 503 = .ok (.aload_n 1, 1)) ∧ (decode cL_law 504 = .ok (.aload_n 0, 1)) ∧ (decode cL_law 505 = .ok (.iload_n 3, 1)) := by decide +kernel
theorem dL_law_485 : decode cL_law 485 = .ok (.iaload, 1) := dG15_dL_law_485.1
theorem dL_law_486 : decode cL_law 486 = .ok (.aload_n 0, 1) := dG15_dL_law_485.2.1
theorem dL_law_487 : decode cL_law 487 = .ok (.iload_n 3, 1) := dG15_dL_law_485.2.2.1
theorem dL_law_488 : decode cL_law 488 = .ok (.iconst 4, 1) := dG15_dL_law_485.2.2.2.1
theorem dL_law_489 : decode cL_law 489 = .ok (.iadd, 1) := dG15_dL_law_485.2.2.2.2.1
theorem dL_law_490 : decode cL_law 490 = .ok (.iaload, 1) := dG15_dL_law_485.2.2.2.2.2.1
theorem dL_law_491 : decode cL_law 491 = .ok (.aload_n 0, 1) := dG15_dL_law_485.2.2.2.2.2.2.1
theorem dL_law_492 : decode cL_law 492 = .ok (.iload_n 3, 1) := dG15_dL_law_485.2.2.2.2.2.2.2.1
theorem dL_law_493 : decode cL_law 493 = .ok (.iconst 5, 1) := dG15_dL_law_485.2.2.2.2.2.2.2.2.1
theorem dL_law_494 : decode cL_law 494 = .ok (.iadd, 1) := dG15_dL_law_485.2.2.2.2.2.2.2.2.2.1
theorem dL_law_495 : decode cL_law 495 = .ok (.iaload, 1) := dG15_dL_law_485.2.2.2.2.2.2.2.2.2.2.1
theorem dL_law_499 : decode cL_law 499 = .ok (.pop, 1) := dG15_dL_law_485.2.2.2.2.2.2.2.2.2.2.2.1
theorem dL_law_500 : decode cL_law 500 = .ok (.goto 1195, 3) := dG15_dL_law_485.2.2.2.2.2.2.2.2.2.2.2.2.1
theorem dL_law_503 : decode cL_law 503 = .ok (.aload_n 1, 1) := dG15_dL_law_485.2.2.2.2.2.2.2.2.2.2.2.2.2.1
theorem dL_law_504 : decode cL_law 504 = .ok (.aload_n 0, 1) := dG15_dL_law_485.2.2.2.2.2.2.2.2.2.2.2.2.2.2.1
theorem dL_law_505 : decode cL_law 505 = .ok (.iload_n 3, 1) := dG15_dL_law_485.2.2.2.2.2.2.2.2.2.2.2.2.2.2.2
theorem dG16_dL_law_506 : (decode cL_law 506 = .ok (.iconst 1, 1)) ∧ (decode cL_law 507 = .ok (.iadd, 1)) ∧ (decode cL_law 508 = .ok (.iaload, 1)) ∧ (decode cL_law 509 = .ok (.aload_n 0, 1)) ∧ (decode cL_law 510 = .ok (.iload_n 3, 1)) ∧ (decode cL_law 511 = .ok (.iconst 2, 1)) ∧ (decode cL_law 512 = .ok (.iadd, 1)) ∧ (decode cL_law 513 = .ok (.iaload, 1)) ∧ (decode cL_law 514 = .ok (.aload_n 0, 1)) ∧ (decode cL_law 515 = .ok (.iload_n 3, 1)) ∧ (decode cL_law 516 = .ok (.iconst 3, 1)) ∧ (decode cL_law 517 = .ok (.iadd, 1)) ∧ (decode cL_law 518 = .ok (.iaload, 1)) ∧ (decode cL_law 519 = .ok (.aload_n 0, 1)) ∧ (decode cL_law 520 = .ok (.iload_n 3, 1)) ∧ (decode cL_law 521 = .ok (.iconst 4, 1)) := by decide +kernel
theorem dL_law_506 : decode cL_law 506 = .ok (.iconst 1, 1) := dG16_dL_law_506.1
theorem dL_law_507 : decode cL_law 507 = .ok (.iadd, 1) := dG16_dL_law_506.2.1
theorem dL_law_508 : decode cL_law 508 = .ok (.iaload, 1) := dG16_dL_law_506.2.2.1
theorem dL_law_509 : decode cL_law 509 = .ok (.aload_n 0, 1) := dG16_dL_law_506.2.2.2.1
theorem dL_law_510 : decode cL_law 510 = .ok (.iload_n 3, 1) := dG16_dL_law_506.2.2.2.2.1
theorem dL_law_511 : decode cL_law 511 = .ok (.iconst 2, 1) := dG16_dL_law_506.2.2.2.2.2.1
theorem dL_law_512 : decode cL_law 512 = .ok (.iadd, 1) := dG16_dL_law_506.2.2.2.2.2.2.1
theorem dL_law_513 : decode cL_law 513 = .ok (.iaload, 1) := dG16_dL_law_506.2.2.2.2.2.2.2.1
theorem dL_law_514 : decode cL_law 514 = .ok (.aload_n 0, 1) := dG16_dL_law_506.2.2.2.2.2.2.2.2.1
theorem dL_law_515 : decode cL_law 515 = .ok (.iload_n 3, 1) := dG16_dL_law_506.2.2.2.2.2.2.2.2.2.1
theorem dL_law_516 : decode cL_law 516 = .ok (.iconst 3, 1) := dG16_dL_law_506.2.2.2.2.2.2.2.2.2.2.1
theorem dL_law_517 : decode cL_law 517 = .ok (.iadd, 1) := dG16_dL_law_506.2.2.2.2.2.2.2.2.2.2.2.1
theorem dL_law_518 : decode cL_law 518 = .ok (.iaload, 1) := dG16_dL_law_506.2.2.2.2.2.2.2.2.2.2.2.2.1
theorem dL_law_519 : decode cL_law 519 = .ok (.aload_n 0, 1) := dG16_dL_law_506.2.2.2.2.2.2.2.2.2.2.2.2.2.1
theorem dL_law_520 : decode cL_law 520 = .ok (.iload_n 3, 1) := dG16_dL_law_506.2.2.2.2.2.2.2.2.2.2.2.2.2.2.1
theorem dL_law_521 : decode cL_law 521 = .ok (.iconst 4, 1) := dG16_dL_law_506.2.2.2.2.2.2.2.2.2.2.2.2.2.2.2
theorem dG17_dL_law_522 : (decode cL_law 522 = .ok (.iadd, 1)) ∧ (decode cL_law 523 = .ok (.iaload, 1)) ∧ (decode cL_law 527 = .ok (.pop, 1)) ∧ (decode cL_law 528 = .ok (.aload_n 2, 1)) ∧ (decode cL_law 529 = .ok (.aload_n 0, 1)) ∧ (decode cL_law 530 = .ok (.iload_n 3, 1)) ∧ (decode cL_law 531 = .ok (.iconst 1, 1)) ∧ (decode cL_law 532 = .ok (.iadd, 1)) ∧ (decode cL_law 533 = .ok (.iaload, 1)) ∧ (decode cL_law 534 = .ok (.aload_n 0, 1)) ∧ (decode cL_law 535 = .ok (.iload_n 3, 1)) ∧ (decode cL_law 536 = .ok (.iconst 2, 1)) ∧ (decode cL_law 537 = .ok (.iadd, 1)) ∧ (decode cL_law 538 = .ok (.iaload, 1)) ∧ (decode cL_law 539 = .ok (.aload_n 0, 1)) ∧ (decode cL_law 540 = .ok (.iload_n 3, 1)) := by decide +kernel
theorem dL_law_522 : decode cL_law 522 = .ok (.iadd, 1) := dG17_dL_law_522.1
theorem dL_law_523 : decode cL_law 523 = .ok (.iaload, 1) := dG17_dL_law_522.2.1
theorem dL_law_527 : decode cL_law 527 = .ok (.pop, 1) := dG17_dL_law_522.2.2.1
theorem dL_law_528 : decode cL_law 528 = .ok (.aload_n 2, 1) := dG17_dL_law_522.2.2.2.1
theorem dL_law_529 : decode cL_law 529 = .ok (.aload_n 0, 1) := dG17_dL_law_522.2.2.2.2.1
theorem dL_law_530 : decode cL_law 530 = .ok (.iload_n 3, 1) := dG17_dL_law_522.2.2.2.2.2.1
theorem dL_law_531 : decode cL_law 531 = .ok (.iconst 1, 1) := dG17_dL_law_522.2.2.2.2.2.2.1
theorem dL_law_532 : decode cL_law 532 = .ok (.iadd, 1) := dG17_dL_law_522.2.2.2.2.2.2.2.1
theorem dL_law_533 : decode cL_law 533 = .ok (.iaload, 1) := dG17_dL_law_522.2.2.2.2.2.2.2.2.1
theorem dL_law_534 : decode cL_law 534 = .ok (.aload_n 0, 1) := dG17_dL_law_522.2.2.2.2.2.2.2.2.2.1
theorem dL_law_535 : decode cL_law 535 = .ok (.iload_n 3, 1) := dG17_dL_law_522.2.2.2.2.2.2.2.2.2.2.1
theorem dL_law_536 : decode cL_law 536 = .ok (.iconst 2, 1) := dG17_dL_law_522.2.2.2.2.2.2.2.2.2.2.2.1
theorem dL_law_537 : decode cL_law 537 = .ok (.iadd, 1) := dG17_dL_law_522.2.2.2.2.2.2.2.2.2.2.2.2.1
theorem dL_law_538 : decode cL_law 538 = .ok (.iaload, 1) := dG17_dL_law_522.2.2.2.2.2.2.2.2.2.2.2.2.2.1
theorem dL_law_539 : decode cL_law 539 = .ok (.aload_n 0, 1) := dG17_dL_law_522.2.2.2.2.2.2.2.2.2.2.2.2.2.2.1
theorem dL_law_540 : decode cL_law 540 = .ok (.iload_n 3, 1) := dG17_dL_law_522.2.2.2.2.2.2.2.2.2.2.2.2.2.2.2
theorem dG18_dL_law_541 : (decode cL_law 541 = .ok (.iconst 3, 1)) ∧ (decode cL_law 542 = .ok (.iadd, 1)) ∧ (decode cL_law 543 = .ok (.iaload, 1)) ∧ (decode cL_law 544 = .ok (.aload_n 0, 1)) ∧ (decode cL_law 545 = .ok (.iload_n 3, 1)) ∧ (decode cL_law 546 = .ok (.iconst 4, 1)) ∧ (decode cL_law 547 = .ok (.iadd, 1)) ∧ (decode cL_law 548 = .ok (.iaload, 1)) ∧ (decode cL_law 552 = .ok (.pop, 1)) ∧ (decode cL_law 553 = .ok (.goto 1142, 3)) ∧ (decode cL_law 556 = .ok (.aload_n 1, 1)) ∧ (decode cL_law 557 = .ok (.aload_n 0, 1)) ∧ (decode cL_law 558 = .ok (.iload_n 3, 1)) ∧ (decode cL_law 559 = .ok (.iconst 1, 1)) ∧ (decode cL_law 560 = .ok (.iadd, 1)) ∧ (decode cL_law 561 = .ok (.iaload, 1)) := by decide +kernel
theorem dL_law_541 : decode cL_law 541 = .ok (.iconst 3, 1) := dG18_dL_law_541.1
theorem dL_law_542 : decode cL_law 542 = .ok (.iadd, 1) := dG18_dL_law_541.2.1
theorem dL_law_543 : decode cL_law 543 = .ok (.iaload, 1) := dG18_dL_law_541.2.2.1
theorem dL_law_544 : decode cL_law 544 = .ok (.aload_n 0, 1) := dG18_dL_law_541.2.2.2.1
theorem dL_law_545 : decode cL_law 545 = .ok (.iload_n 3, 1) := dG18_dL_law_541.2.2.2.2.1
theorem dL_law_546 : decode cL_law 546 = .ok (.iconst 4, 1) := dG18_dL_law_541.2.2.2.2.2.1
theorem dL_law_547 : decode cL_law 547 = .ok (.iadd, 1) := dG18_dL_law_541.2.2.2.2.2.2.1
theorem dL_law_548 : decode cL_law 548 = .ok (.iaload, 1) := dG18_dL_law_541.2.2.2.2.2.2.2.1
theorem dL_law_552 : decode cL_law 552 = .ok (.pop, 1) := dG18_dL_law_541.2.2.2.2.2.2.2.2.1
theorem dL_law_553 : decode cL_law 553 = .ok (.goto 1142, 3) := dG18_dL_law_541.2.2.2.2.2.2.2.2.2.1
theorem dL_law_556 : decode cL_law 556 = .ok (.aload_n 1, 1) := dG18_dL_law_541.2.2.2.2.2.2.2.2.2.2.1
theorem dL_law_557 : decode cL_law 557 = .ok (.aload_n 0, 1) := dG18_dL_law_541.2.2.2.2.2.2.2.2.2.2.2.1
theorem dL_law_558 : decode cL_law 558 = .ok (.iload_n 3, 1) := dG18_dL_law_541.2.2.2.2.2.2.2.2.2.2.2.2.1
theorem dL_law_559 : decode cL_law 559 = .ok (.iconst 1, 1) := dG18_dL_law_541.2.2.2.2.2.2.2.2.2.2.2.2.2.1
theorem dL_law_560 : decode cL_law 560 = .ok (.iadd, 1) := dG18_dL_law_541.2.2.2.2.2.2.2.2.2.2.2.2.2.2.1
theorem dL_law_561 : decode cL_law 561 = .ok (.iaload, 1) := dG18_dL_law_541.2.2.2.2.2.2.2.2.2.2.2.2.2.2.2
theorem dG19_dL_law_565 : (decode cL_law 565 = .ok (.pop, 1)) ∧ (decode cL_law 566 = .ok (.aload_n 2, 1)) ∧ (decode cL_law 567 = .ok (.aload_n 0, 1)) ∧ (decode cL_law 568 = .ok (.iload_n 3, 1)) ∧ (decode cL_law 569 = .ok (.iconst 1, 1)) ∧ (decode cL_law 570 = .ok (.iadd, 1)) ∧ (decode cL_law 571 = .ok (.iaload, 1)) ∧ (decode cL_law 575 = .ok (.pop, 1)) ∧ (decode cL_law 576 = .ok (.goto 1119, 3)) ∧ (decode cL_law 579 = .ok (.aload_n 1, 1)) ∧ (decode cL_law 580 = .ok (.aload_n 0, 1)) ∧ (decode cL_law 581 = .ok (.iload_n 3, 1)) ∧ (decode cL_law 582 = .ok (.iconst 1, 1)) ∧ (decode cL_law 583 = .ok (.iadd, 1)) ∧ (decode cL_law 584 = .ok (.iaload, 1)) ∧ (decode cL_law 585 = .ok (.aload_n 0, 1)) := by decide +kernel
theorem dL_law_565 : decode cL_law 565 = .ok (.pop, 1) := dG19_dL_law_565.1
theorem dL_law_566 : decode cL_law 566 = .ok (.aload_n 2, 1) := dG19_dL_law_565.2.1
theorem dL_law_567 : decode cL_law 567 = .ok (.aload_n 0, 1) := dG19_dL_law_565.2.2.1
theorem dL_law_568 : decode cL_law 568 = .ok (.iload_n 3, 1) := dG19_dL_law_565.2.2.2.1
theorem dL_law_569 : decode cL_law 569 = .ok (.iconst 1, 1) := dG19_dL_law_565.2.2.2.2.1
theorem dL_law_570 : decode cL_law 570 = .ok (.iadd, 1) := dG19_dL_law_565.2.2.2.2.2.1
theorem dL_law_571 : decode cL_law 571 = .ok (.iaload, 1) := dG19_dL_law_565.2.2.2.2.2.2.1
theorem dL_law_575 : decode cL_law 575 = .ok (.pop, 1) := dG19_dL_law_565.2.2.2.2.2.2.2.1
theorem dL_law_576 : decode cL_law 576 = .ok (.goto 1119, 3) := dG19_dL_law_565.2.2.2.2.2.2.2.2.1
theorem dL_law_579 : decode cL_law 579 = .ok (.aload_n 1, 1) := dG19_dL_law_565.2.2.2.2.2.2.2.2.2.1
theorem dL_law_580 : decode cL_law 580 = .ok (.aload_n 0, 1) := dG19_dL_law_565.2.2.2.2.2.2.2.2.2.2.1
theorem dL_law_581 : decode cL_law 581 = .ok (.iload_n 3, 1) := dG19_dL_law_565.2.2.2.2.2.2.2.2.2.2.2.1
theorem dL_law_582 : decode cL_law 582 = .ok (.iconst 1, 1) := dG19_dL_law_565.2.2.2.2.2.2.2.2.2.2.2.2.1
theorem dL_law_583 : decode cL_law 583 = .ok (.iadd, 1) := dG19_dL_law_565.2.2.2.2.2.2.2.2.2.2.2.2.2.1
theorem dL_law_584 : decode cL_law 584 = .ok (.iaload, 1) := dG19_dL_law_565.2.2.2.2.2.2.2.2.2.2.2.2.2.2.1
theorem dL_law_585 : decode cL_law 585 = .ok (.aload_n 0, 1) := dG19_dL_law_565.2.2.2.2.2.2.2.2.2.2.2.2.2.2.2
theorem dG20_dL_law_586 : (decode cL_law 586 = .ok (.iload_n 3, 1)) ∧ (decode cL_law 587 = .ok (.iconst 2, 1)) ∧ (decode cL_law 588 = .ok (.iadd, 1)) ∧ (decode cL_law 589 = .ok (.iaload, 1)) ∧ (decode cL_law 593 = .ok (.pop, 1)) ∧ (decode cL_law 594 = .ok (.aload_n 2, 1)) ∧ (decode cL_law 595 = .ok (.aload_n 0, 1)) ∧ (decode cL_law 596 = .ok (.iload_n 3, 1)) ∧ (decode cL_law 597 = .ok (.iconst 1, 1)) ∧ (decode cL_law 598 = .ok (.iadd, 1)) ∧ (decode cL_law 599 = .ok (.iaload, 1)) ∧ (decode cL_law 600 = .ok (.aload_n 0, 1)) ∧ (decode cL_law 601 = .ok (.iload_n 3, 1)) ∧ (decode cL_law 602 = .ok (.iconst 2, 1)) ∧ (decode cL_law 603 = .ok (.iadd, 1)) ∧ (decode cL_law 604 = .ok (.iaload, 1)) := by decide +kernel
theorem dL_law_586 : decode cL_law 586 = .ok (.iload_n 3, 1) := dG20_dL_law_586.1
theorem dL_law_587 : decode cL_law 587 = .ok (.iconst 2, 1) := dG20_dL_law_586.2.1
theorem dL_law_588 : decode cL_law 588 = .ok (.iadd, 1) := dG20_dL_law_586.2.2.1
theorem dL_law_589 : decode cL_law 589 = .ok (.iaload, 1) := dG20_dL_law_586.2.2.2.1
theorem dL_law_593 : decode cL_law 593 = .ok (.pop, 1) := dG20_dL_law_586.2.2.2.2.1
theorem dL_law_594 : decode cL_law 594 = .ok (.aload_n 2, 1) := dG20_dL_law_586.2.2.2.2.2.1
theorem dL_law_595 : decode cL_law 595 = .ok (.aload_n 0, 1) := dG20_dL_law_586.2.2.2.2.2.2.1
theorem dL_law_596 : decode cL_law 596 = .ok (.iload_n 3, 1) := dG20_dL_law_586.2.2.2.2.2.2.2.1
theorem dL_law_597 : decode cL_law 597 = .ok (.iconst 1, 1) := dG20_dL_law_586.2.2.2.2.2.2.2.2.1
theorem dL_law_598 : decode cL_law 598 = .ok (.iadd, 1) := dG20_dL_law_586.2.2.2.2.2.2.2.2.2.1
theorem dL_law_599 : decode cL_law 599 = .ok (.iaload, 1) := dG20_dL_law_586.2.2.2.2.2.2.2.2.2.2.1
theorem dL_law_600 : decode cL_law 600 = .ok (.aload_n 0, 1) := dG20_dL_law_586.2.2.2.2.2.2.2.2.2.2.2.1
theorem dL_law_601 : decode cL_law 601 = .ok (.iload_n 3, 1) := dG20_dL_law_586.2.2.2.2.2.2.2.2.2.2.2.2.1
theorem dL_law_602 : decode cL_law 602 = .ok (.iconst 2, 1) := dG20_dL_law_586.2.2.2.2.2.2.2.2.2.2.2.2.2.1
theorem dL_law_603 : decode cL_law 603 = .ok (.iadd, 1) := dG20_dL_law_586.2.2.2.2.2.2.2.2.2.2.2.2.2.2.1
theorem dL_law_604 : decode cL_law 604 = .ok (.iaload, 1) := dG20_dL_law_586.2.2.2.2.2.2.2.2.2.2.2.2.2.2.2
theorem dG21_dL_law_608 : (decode cL_law 608 = .ok (.pop, 1)) ∧ (decode cL_law 609 = .ok (.goto 1086, 3)) ∧ (decode cL_law 612 = .ok (.aload_n 1, 1)) ∧ (decode cL_law 613 = .ok (.aload_n 0, 1)) ∧ (decode cL_law 614 = .ok (.iload_n 3, 1)) ∧ (decode cL_law 615 = .ok (.iconst 1, 1)) ∧ (decode cL_law 616 = .ok (.iadd, 1)) ∧ (decode cL_law 617 = .ok (.iaload, 1)) ∧ (decode cL_law 618 = .ok (.aload_n 0, 1)) ∧ (decode cL_law 619 = .ok (.iload_n 3, 1)) ∧ (decode cL_law 620 = .ok (.iconst 2, 1)) ∧ (decode cL_law 621 = .ok (.iadd, 1)) ∧ (decode cL_law 622 = .ok (.iaload, 1)) ∧ (decode cL_law 623 = .ok (.aload_n 0, 1)) ∧ (decode cL_law 624 = .ok (.iload_n 3, 1)) ∧ (decode cL_law 625 = .ok (.iconst 3, 1)) := by decide +kernel
theorem dL_law_608 : decode cL_law 608 = .ok (.pop, 1) := dG21_dL_law_608.1
theorem dL_law_609 : decode cL_law 609 = .ok (.goto 1086, 3) := dG21_dL_law_608.2.1
theorem dL_law_612 : decode cL_law 612 = .ok (.aload_n 1, 1) := dG21_dL_law_608.2.2.1
theorem dL_law_613 : decode cL_law 613 = .ok (.aload_n 0, 1) := dG21_dL_law_608.2.2.2.1
theorem dL_law_614 : decode cL_law 614 = .ok (.iload_n 3, 1) := dG21_dL_law_608.2.2.2.2.1
theorem dL_law_615 : decode cL_law 615 = .ok (.iconst 1, 1) := dG21_dL_law_608.2.2.2.2.2.1
theorem dL_law_616 : decode cL_law 616 = .ok (.iadd, 1) := dG21_dL_law_608.2.2.2.2.2.2.1
theorem dL_law_617 : decode cL_law 617 = .ok (.iaload, 1) := dG21_dL_law_608.2.2.2.2.2.2.2.1
theorem dL_law_618 : decode cL_law 618 = .ok (.aload_n 0, 1) := dG21_dL_law_608.2.2.2.2.2.2.2.2.1
theorem dL_law_619 : decode cL_law 619 = .ok (.iload_n 3, 1) := dG21_dL_law_608.2.2.2.2.2.2.2.2.2.1
theorem dL_law_620 : decode cL_law 620 = .ok (.iconst 2, 1) := dG21_dL_law_608.2.2.2.2.2.2.2.2.2.2.1
theorem dL_law_621 : decode cL_law 621 = .ok (.iadd, 1) := dG21_dL_law_608.2.2.2.2.2.2.2.2.2.2.2.1
theorem dL_law_622 : decode cL_law 622 = .ok (.iaload, 1) := dG21_dL_law_608.2.2.2.2.2.2.2.2.2.2.2.2.1
theorem dL_law_623 : decode cL_law 623 = .ok (.aload_n 0, 1) := dG21_dL_law_608.2.2.2.2.2.2.2.2.2.2.2.2.2.1
theorem dL_law_624 : decode cL_law 624 = .ok (.iload_n 3, 1) := dG21_dL_law_608.2.2.2.2.2.2.2.2.2.2.2.2.2.2.1
theorem dL_law_625 : decode cL_law 625 = .ok (.iconst 3, 1) := dG21_dL_law_608.2.2.2.2.2.2.2.2.2.2.2.2.2.2.2
theorem dG22_dL_law_626 : (decode cL_law 626 = .ok (.iadd, 1)) ∧ (decode cL_law 627 = .ok (.iaload, 1)) ∧ (decode cL_law 628 = .ok (.aload_n 0, 1)) ∧ (decode cL_law 629 = .ok (.iload_n 3, 1)) ∧ (decode cL_law 630 = .ok (.iconst 4, 1)) ∧ (decode cL_law 631 = .ok (.iadd, 1)) ∧ (decode cL_law 632 = .ok (.iaload, 1)) ∧ (decode cL_law 636 = .ok (.pop, 1)) ∧ (decode cL_law 637 = .ok (.aload_n 2, 1)) ∧ (decode cL_law 638 = .ok (.aload_n 0, 1)) ∧ (decode cL_law 639 = .ok (.iload_n 3, 1)) ∧ (decode cL_law 640 = .ok (.iconst 1, 1)) ∧ (decode cL_law 641 = .ok (.iadd, 1)) ∧ (decode cL_law 642 = .ok (.iaload, 1)) ∧ (decode cL_law 643 = .ok (.aload_n 0, 1)) ∧ (decode cL_law 644 = .ok (.iload_n 3, 1)) := by decide +kernel
theorem dL_law_626 : decode cL_law 626 = .ok (.iadd, 1) := dG22_dL_law_626.1
theorem dL_law_627 : decode cL_law 627 = .ok (.iaload, 1) := dG22_dL_law_626.2.1
theorem dL_law_628 : decode cL_law 628 = .ok (.aload_n 0, 1) := dG22_dL_law_626.2.2.1
theorem dL_law_629 : decode cL_law 629 = .ok (.iload_n 3, 1) := dG22_dL_law_626.2.2.2.1
theorem dL_law_630 : decode cL_law 630 = .ok (.iconst 4, 1) := dG22_dL_law_626.2.2.2.2.1
theorem dL_law_631 : decode cL_law 631 = .ok (.iadd, 1) := dG22_dL_law_626.2.2.2.2.2.1
theorem dL_law_632 : decode cL_law 632 = .ok (.iaload, 1) := dG22_dL_law_626.2.2.2.2.2.2.1
theorem dL_law_636 : decode cL_law 636 = .ok (.pop, 1) := dG22_dL_law_626.2.2.2.2.2.2.2.1
theorem dL_law_637 : decode cL_law 637 = .ok (.aload_n 2, 1) := dG22_dL_law_626.2.2.2.2.2.2.2.2.1
theorem dL_law_638 : decode cL_law 638 = .ok (.aload_n 0, 1) := dG22_dL_law_626.2.2.2.2.2.2.2.2.2.1
theorem dL_law_639 : decode cL_law 639 = .ok (.iload_n 3, 1) := dG22_dL_law_626.2.2.2.2.2.2.2.2.2.2.1
theorem dL_law_640 : decode cL_law 640 = .ok (.iconst 1, 1) := dG22_dL_law_626.2.2.2.2.2.2.2.2.2.2.2.1
theorem dL_law_641 : decode cL_law 641 = .ok (.iadd, 1) := dG22_dL_law_626.2.2.2.2.2.2.2.2.2.2.2.2.1
theorem dL_law_642 : decode cL_law 642 = .ok (.iaload, 1) := dG22_dL_law_626.2.2.2.2.2.2.2.2.2.2.2.2.2.1
theorem dL_law_643 : decode cL_law 643 = .ok (.aload_n 0, 1) := dG22_dL_law_626.2.2.2.2.2.2.2.2.2.2.2.2.2.2.1
theorem dL_law_644 : decode cL_law 644 = .ok (.iload_n 3, 1) := dG22_dL_law_626.2.2.2.2.2.2.2.2.2.2.2.2.2.2.2
theorem dG23_dL_law_645 : (decode cL_law 645 = .ok (.iconst 2, 1)) ∧ (decode cL_law 646 = .ok (.iadd, 1)) ∧ (decode cL_law 647 = .ok (.iaload, 1)) ∧ (decode cL_law 648 = .ok (.aload_n 0, 1)) ∧ (decode cL_law 649 = .ok (.iload_n 3, 1)) ∧ (decode cL_law 650 = .ok (.iconst 3, 1)) ∧ (decode cL_law 651 = .ok (.iadd, 1)) ∧ (decode cL_law 652 = .ok (.iaload, 1)) ∧ (decode cL_law 653 = .ok (.aload_n 0, 1)) ∧ (decode cL_law 654 = .ok (.iload_n 3, 1)) ∧ (decode cL_law 655 = .ok (.iconst 4, 1)) ∧ (decode cL_law 656 = .ok (.iadd, 1)) ∧ (decode cL_law 657 = .ok (.iaload, 1)) ∧ (decode cL_law 661 = .ok (.pop, 1)) ∧ (decode cL_law 662 = .ok (.goto 1033, 3)) ∧ (decode cL_law 665 = .ok (.aload_n 1, 1)) := by decide +kernel
theorem dL_law_645 : decode cL_law 645 = .ok (.iconst 2, 1) := dG23_dL_law_645.1
theorem dL_law_646 : decode cL_law 646 = .ok (.iadd, 1) := dG23_dL_law_645.2.1
theorem dL_law_647 : decode cL_law 647 = .ok (.iaload, 1) := dG23_dL_law_645.2.2.1
theorem dL_law_648 : decode cL_law 648 = .ok (.aload_n 0, 1) := dG23_dL_law_645.2.2.2.1
theorem dL_law_649 : decode cL_law 649 = .ok (.iload_n 3, 1) := dG23_dL_law_645.2.2.2.2.1
theorem dL_law_650 : decode cL_law 650 = .ok (.iconst 3, 1) := dG23_dL_law_645.2.2.2.2.2.1
theorem dL_law_651 : decode cL_law 651 = .ok (.iadd, 1) := dG23_dL_law_645.2.2.2.2.2.2.1
theorem dL_law_652 : decode cL_law 652 = .ok (.iaload, 1) := dG23_dL_law_645.2.2.2.2.2.2.2.1
theorem dL_law_653 : decode cL_law 653 = .ok (.aload_n 0, 1) := dG23_dL_law_645.2.2.2.2.2.2.2.2.1
theorem dL_law_654 : decode cL_law 654 = .ok (.iload_n 3, 1) := dG23_dL_law_645.2.2.2.2.2.2.2.2.2.1
theorem dL_law_655 : decode cL_law 655 = .ok (.iconst 4, 1) := dG23_dL_law_645.2.2.2.2.2.2.2.2.2.2.1
theorem dL_law_656 : decode cL_law 656 = .ok (.iadd, 1) := dG23_dL_law_645.2.2.2.2.2.2.2.2.2.2.2.1
theorem dL_law_657 : decode cL_law 657 = .ok (.iaload, 1) := dG23_dL_law_645.2.2.2.2.2.2.2.2.2.2.2.2.1
theorem dL_law_661 : decode cL_law 661 = .ok (.pop, 1) := dG23_dL_law_645.2.2.2.2.2.2.2.2.2.2.2.2.2.1
theorem dL_law_662 : decode cL_law 662 = .ok (.goto 1033, 3) := dG23_dL_law_645.2.2.2.2.2.2.2.2.2.2.2.2.2.2.1
theorem dL_law_665 : decode cL_law 665 = .ok (.aload_n 1, 1) := dG23_dL_law_645.2.2.2.2.2.2.2.2.2.2.2.2.2.2.2
theorem dG24_dL_law_666 : (decode cL_law 666 = .ok (.aload_n 0, 1)) ∧ (decode cL_law 667 = .ok (.iload_n 3, 1)) ∧ (decode cL_law 668 = .ok (.iconst 1, 1)) ∧ (decode cL_law 669 = .ok (.iadd, 1)) ∧ (decode cL_law 670 = .ok (.iaload, 1)) ∧ (decode cL_law 671 = .ok (.aload_n 0, 1)) ∧ (decode cL_law 672 = .ok (.iload_n 3, 1)) ∧ (decode cL_law 673 = .ok (.iconst 2, 1)) ∧ (decode cL_law 674 = .ok (.iadd, 1)) ∧ (decode cL_law 675 = .ok (.iaload, 1)) ∧ (decode cL_law 676 = .ok (.aload_n 0, 1)) ∧ (decode cL_law 677 = .ok (.iload_n 3, 1)) ∧ (decode cL_law 678 = .ok (.iconst 3, 1)) ∧ (decode cL_law 679 = .ok (.iadd, 1)) ∧ (decode cL_law 680 = .ok (.iaload, 1)) ∧ (decode cL_law 681 = .ok (.aload_n 0, 1)) := by decide +kernel
theorem dL_law_666 : decode cL_law 666 = .ok (.aload_n 0, 1) := dG24_dL_law_666.1
theorem dL_law_667 : decode cL_law 667 = .ok (.iload_n 3, 1) := dG24_dL_law_666.2.1
theorem dL_law_668 : decode cL_law 668 = .ok (.iconst 1, 1) := dG24_dL_law_666.2.2.1
theorem dL_law_669 : decode cL_law 669 = .ok (.iadd, 1) := dG24_dL_law_666.2.2.2.1
theorem dL_law_670 : decode cL_law 670 = .ok (.iaload, 1) := dG24_dL_law_666.2.2.2.2.1
theorem dL_law_671 : decode cL_law 671 = .ok (.aload_n 0, 1) := dG24_dL_law_666.2.2.2.2.2.1
theorem dL_law_672 : decode cL_law 672 = .ok (.iload_n 3, 1) := dG24_dL_law_666.2.2.2.2.2.2.1
theorem dL_law_673 : decode cL_law 673 = .ok (.iconst 2, 1) := dG24_dL_law_666.2.2.2.2.2.2.2.1
theorem dL_law_674 : decode cL_law 674 = .ok (.iadd, 1) := dG24_dL_law_666.2.2.2.2.2.2.2.2.1
theorem dL_law_675 : decode cL_law 675 = .ok (.iaload, 1) := dG24_dL_law_666.2.2.2.2.2.2.2.2.2.1
theorem dL_law_676 : decode cL_law 676 = .ok (.aload_n 0, 1) := dG24_dL_law_666.2.2.2.2.2.2.2.2.2.2.1
theorem dL_law_677 : decode cL_law 677 = .ok (.iload_n 3, 1) := dG24_dL_law_666.2.2.2.2.2.2.2.2.2.2.2.1
theorem dL_law_678 : decode cL_law 678 = .ok (.iconst 3, 1) := dG24_dL_law_666.2.2.2.2.2.2.2.2.2.2.2.2.1
theorem dL_law_679 : decode cL_law 679 = .ok (.iadd, 1) := dG24_dL_law_666.2.2.2.2.2.2.2.2.2.2.2.2.2.1
theorem dL_law_680 : decode cL_law 680 = .ok (.iaload, 1) := dG24_dL_law_666.2.2.2.2.2.2.2.2.2.2.2.2.2.2.1
theorem dL_law_681 : decode cL_law 681 = .ok (.aload_n 0, 1) := dG24_dL_law_666.2.2.2.2.2.2.2.2.2.2.2.2.2.2.2
theorem dG25_dL_law_682 : (decode cL_law 682 = .ok (.iload_n 3, 1)) ∧ (decode cL_law 683 = .ok (.iconst 4, 1)) ∧ (decode cL_law 684 = .ok (.iadd, 1)) ∧ (decode cL_law 685 = .ok (.iaload, 1)) ∧ (decode cL_law 689 = .ok (.pop, 1)) ∧ (decode cL_law 690 = .ok (.aload_n 2, 1)) ∧ (decode cL_law 691 = .ok (.aload_n 0, 1)) ∧ (decode cL_law 692 = .ok (.iload_n 3, 1)) ∧ (decode cL_law 693 = .ok (.iconst 1, 1)) ∧ (decode cL_law 694 = .ok (.iadd, 1)) ∧ (decode cL_law 695 = .ok (.iaload, 1)) ∧ (decode cL_law 696 = .ok (.aload_n 0, 1)) ∧ (decode cL_law 697 = .ok (.iload_n 3, 1)) ∧ (decode cL_law 698 = .ok (.iconst 2, 1)) ∧ (decode cL_law 699 = .ok (.iadd, 1)) ∧ (decode cL_law 700 = .ok (.iaload, 1)) := by decide +kernel
theorem dL_law_682 : decode cL_law 682 = .ok (.iload_n 3, 1) := dG25_dL_law_682.1
theorem dL_law_683 : decode cL_law 683 = .ok (.iconst 4, 1) := dG25_dL_law_682.2.1
theorem dL_law_684 : decode cL_law 684 = .ok (.iadd, 1) := dG25_dL_law_682.2.2.1
theorem dL_law_685 : decode cL_law 685 = .ok (.iaload, 1) := dG25_dL_law_682.2.2.2.1
theorem dL_law_689 : decode cL_law 689 = .ok (.pop, 1) := dG25_dL_law_682.2.2.2.2.1
theorem dL_law_690 : decode cL_law 690 = .ok (.aload_n 2, 1) := dG25_dL_law_682.2.2.2.2.2.1
theorem dL_law_691 : decode cL_law 691 = .ok (.aload_n 0, 1) := dG25_dL_law_682.2.2.2.2.2.2.1
theorem dL_law_692 : decode cL_law 692 = .ok (.iload_n 3, 1) := dG25_dL_law_682.2.2.2.2.2.2.2.1
theorem dL_law_693 : decode cL_law 693 = .ok (.iconst 1, 1) := dG25_dL_law_682.2.2.2.2.2.2.2.2.1
theorem dL_law_694 : decode cL_law 694 = .ok (.iadd, 1) := dG25_dL_law_682.2.2.2.2.2.2.2.2.2.1
theorem dL_law_695 : decode cL_law 695 = .ok (.iaload, 1) := dG25_dL_law_682.2.2.2.2.2.2.2.2.2.2.1
theorem dL_law_696 : decode cL_law 696 = .ok (.aload_n 0, 1) := dG25_dL_law_682.2.2.2.2.2.2.2.2.2.2.2.1
theorem dL_law_697 : decode cL_law 697 = .ok (.iload_n 3, 1) := dG25_dL_law_682.2.2.2.2.2.2.2.2.2.2.2.2.1
theorem dL_law_698 : decode cL_law 698 = .ok (.iconst 2, 1) := dG25_dL_law_682.2.2.2.2.2.2.2.2.2.2.2.2.2.1
theorem dL_law_699 : decode cL_law 699 = .ok (.iadd, 1) := dG25_dL_law_682.2.2.2.2.2.2.2.2.2.2.2.2.2.2.1
theorem dL_law_700 : decode cL_law 700 = .ok (.iaload, 1) := dG25_dL_law_682.2.2.2.2.2.2.2.2.2.2.2.2.2.2.2
theorem dG26_dL_law_701 : (decode cL_law 701 = .ok (.aload_n 0, 1)) ∧ (decode cL_law 702 = .ok (.iload_n 3, 1)) ∧ (decode cL_law 703 = .ok (.iconst 3, 1)) ∧ (decode cL_law 704 = .ok (.iadd, 1)) ∧ (decode cL_law 705 = .ok (.iaload, 1)) ∧ (decode cL_law 706 = .ok (.aload_n 0, 1)) ∧ (decode cL_law 707 = .ok (.iload_n 3, 1)) ∧ (decode cL_law 708 = .ok (.iconst 4, 1)) ∧ (decode cL_law 709 = .ok (.iadd, 1)) ∧ (decode cL_law 710 = .ok (.iaload, 1)) ∧ (decode cL_law 714 = .ok (.pop, 1)) ∧ (decode cL_law 715 = .ok (.goto 980, 3)) ∧ (decode cL_law 718 = .ok (.aload_n 1, 1)) ∧ (decode cL_law 719 = .ok (.aload_n 0, 1)) ∧ (decode cL_law 720 = .ok (.iload_n 3, 1)) ∧ (decode cL_law 721 = .ok (.iconst 1, 1)) := by decide +kernel
theorem dL_law_701 : decode cL_law 701 = .ok (.aload_n 0, 1) := dG26_dL_law_701.1
theorem dL_law_702 : decode cL_law 702 = .ok (.iload_n 3, 1) := dG26_dL_law_701.2.1
theorem dL_law_703 : decode cL_law 703 = .ok (.iconst 3, 1) := dG26_dL_law_701.2.2.1
theorem dL_law_704 : decode cL_law 704 = .ok (.iadd, 1) := dG26_dL_law_701.2.2.2.1
theorem dL_law_705 : decode cL_law 705 = .ok (.iaload, 1) := dG26_dL_law_701.2.2.2.2.1
theorem dL_law_706 : decode cL_law 706 = .ok (.aload_n 0, 1) := dG26_dL_law_701.2.2.2.2.2.1
theorem dL_law_707 : decode cL_law 707 = .ok (.iload_n 3, 1) := dG26_dL_law_701.2.2.2.2.2.2.1
theorem dL_law_708 : decode cL_law 708 = .ok (.iconst 4, 1) := dG26_dL_law_701.2.2.2.2.2.2.2.1
theorem dL_law_709 : decode cL_law 709 = .ok (.iadd, 1) := dG26_dL_law_701.2.2.2.2.2.2.2.2.1
theorem dL_law_710 : decode cL_law 710 = .ok (.iaload, 1) := dG26_dL_law_701.2.2.2.2.2.2.2.2.2.1
theorem dL_law_714 : decode cL_law 714 = .ok (.pop, 1) := dG26_dL_law_701.2.2.2.2.2.2.2.2.2.2.1
theorem dL_law_715 : decode cL_law 715 = .ok (.goto 980, 3) := dG26_dL_law_701.2.2.2.2.2.2.2.2.2.2.2.1
theorem dL_law_718 : decode cL_law 718 = .ok (.aload_n 1, 1) := dG26_dL_law_701.2.2.2.2.2.2.2.2.2.2.2.2.1
theorem dL_law_719 : decode cL_law 719 = .ok (.aload_n 0, 1) := dG26_dL_law_701.2.2.2.2.2.2.2.2.2.2.2.2.2.1
theorem dL_law_720 : decode cL_law 720 = .ok (.iload_n 3, 1) := dG26_dL_law_701.2.2.2.2.2.2.2.2.2.2.2.2.2.2.1
theorem dL_law_721 : decode cL_law 721 = .ok (.iconst 1, 1) := dG26_dL_law_701.2.2.2.2.2.2.2.2.2.2.2.2.2.2.2
theorem dG27_dL_law_722 : (decode cL_law 722 = .ok (.iadd, 1)) ∧ (decode cL_law 723 = .ok (.iaload, 1)) ∧ (decode cL_law 724 = .ok (.aload_n 0, 1)) ∧ (decode cL_law 725 = .ok (.iload_n 3, 1)) ∧ (decode cL_law 726 = .ok (.iconst 2, 1)) ∧ (decode cL_law 727 = .ok (.iadd, 1)) ∧ (decode cL_law 728 = .ok (.iaload, 1)) ∧ (decode cL_law 732 = .ok (.pop, 1)) ∧ (decode cL_law 733 = .ok (.aload_n 2, 1)) ∧ (decode cL_law 734 = .ok (.aload_n 0, 1)) ∧ (decode cL_law 735 = .ok (.iload_n 3, 1)) ∧ (decode cL_law 736 = .ok (.iconst 1, 1)) ∧ (decode cL_law 737 = .ok (.iadd, 1)) ∧ (decode cL_law 738 = .ok (.iaload, 1)) ∧ (decode cL_law 739 = .ok (.aload_n 0, 1)) ∧ (decode cL_law 740 = .ok (.iload_n 3, 1)) := by decide +kernel
theorem dL_law_722 : decode cL_law 722 = .ok (.iadd, 1) := dG27_dL_law_722.1
theorem dL_law_723 : decode cL_law 723 = .ok (.iaload, 1) := dG27_dL_law_722.2.1
theorem dL_law_724 : decode cL_law 724 = .ok (.aload_n 0, 1) := dG27_dL_law_722.2.2.1
theorem dL_law_725 : decode cL_law 725 = .ok (.iload_n 3, 1) := dG27_dL_law_722.2.2.2.1
theorem dL_law_726 : decode cL_law 726 = .ok (.iconst 2, 1) := dG27_dL_law_722.2.2.2.2.1
theorem dL_law_727 : decode cL_law 727 = .ok (.iadd, 1) := dG27_dL_law_722.2.2.2.2.2.1
theorem dL_law_728 : decode cL_law 728 = .ok (.iaload, 1) := dG27_dL_law_722.2.2.2.2.2.2.1
theorem dL_law_732 : decode cL_law 732 = .ok (.pop, 1) := dG27_dL_law_722.2.2.2.2.2.2.2.1
theorem dL_law_733 : decode cL_law 733 = .ok (.aload_n 2, 1) := dG27_dL_law_722.2.2.2.2.2.2.2.2.1
theorem dL_law_734 : decode cL_law 734 = .ok (.aload_n 0, 1) := dG27_dL_law_722.2.2.2.2.2.2.2.2.2.1
theorem dL_law_735 : decode cL_law 735 = .ok (.iload_n 3, 1) := dG27_dL_law_722.2.2.2.2.2.2.2.2.2.2.1
theorem dL_law_736 : decode cL_law 736 = .ok (.iconst 1, 1) := dG27_dL_law_722.2.2.2.2.2.2.2.2.2.2.2.1
theorem dL_law_737 : decode cL_law 737 = .ok (.iadd, 1) := dG27_dL_law_722.2.2.2.2.2.2.2.2.2.2.2.2.1
theorem dL_law_738 : decode cL_law 738 = .ok (.iaload, 1) := dG27_dL_law_722.2.2.2.2.2.2.2.2.2.2.2.2.2.1
theorem dL_law_739 : decode cL_law 739 = .ok (.aload_n 0, 1) := dG27_dL_law_722.2.2.2.2.2.2.2.2.2.2.2.2.2.2.1
theorem dL_law_740 : decode cL_law 740 = .ok (.iload_n 3, 1) := dG27_dL_law_722.2.2.2.2.2.2.2.2.2.2.2.2.2.2.2
theorem dG28_dL_law_741 : (decode cL_law 741 = .ok (.iconst 2, 1)) ∧ (decode cL_law 742 = .ok (.iadd, 1)) ∧ (decode cL_law 743 = .ok (.iaload, 1)) ∧ (decode cL_law 747 = .ok (.pop, 1)) ∧ (decode cL_law 748 = .ok (.goto 947, 3)) ∧ (decode cL_law 751 = .ok (.aload_n 1, 1)) ∧ (decode cL_law 752 = .ok (.aload_n 0, 1)) ∧ (decode cL_law 753 = .ok (.iload_n 3, 1)) ∧ (decode cL_law 754 = .ok (.iconst 1, 1)) ∧ (decode cL_law 755 = .ok (.iadd, 1)) ∧ (decode cL_law 756 = .ok (.iaload, 1)) ∧ (decode cL_law 757 = .ok (.aload_n 0, 1)) ∧ (decode cL_law 758 = .ok (.iload_n 3, 1)) ∧ (decode cL_law 759 = .ok (.iconst 2, 1)) ∧ (decode cL_law 760 = .ok (.iadd, 1)) ∧ (decode cL_law 761 = .ok (.iaload, 1)) := by decide +kernel
theorem dL_law_741 : decode cL_law 741 = .ok (.iconst 2, 1) := dG28_dL_law_741.1
theorem dL_law_742 : decode cL_law 742 = .ok (.iadd, 1) := dG28_dL_law_741.2.1
theorem dL_law_743 : decode cL_law 743 = .ok (.iaload, 1) := dG28_dL_law_741.2.2.1
theorem dL_law_747 : decode cL_law 747 = .ok (.pop, 1) := dG28_dL_law_741.2.2.2.1
theorem dL_law_748 : decode cL_law 748 = .ok (.goto 947, 3) := dG28_dL_law_741.2.2.2.2.1
theorem dL_law_751 : decode cL_law 751 = .ok (.aload_n 1, 1) := dG28_dL_law_741.2.2.2.2.2.1
theorem dL_law_752 : decode cL_law 752 = .ok (.aload_n 0, 1) := dG28_dL_law_741.2.2.2.2.2.2.1
theorem dL_law_753 : decode cL_law 753 = .ok (.iload_n 3, 1) := dG28_dL_law_741.2.2.2.2.2.2.2.1
theorem dL_law_754 : decode cL_law 754 = .ok (.iconst 1, 1) := dG28_dL_law_741.2.2.2.2.2.2.2.2.1
theorem dL_law_755 : decode cL_law 755 = .ok (.iadd, 1) := dG28_dL_law_741.2.2.2.2.2.2.2.2.2.1
theorem dL_law_756 : decode cL_law 756 = .ok (.iaload, 1) := dG28_dL_law_741.2.2.2.2.2.2.2.2.2.2.1
theorem dL_law_757 : decode cL_law 757 = .ok (.aload_n 0, 1) := dG28_dL_law_741.2.2.2.2.2.2.2.2.2.2.2.1
theorem dL_law_758 : decode cL_law 758 = .ok (.iload_n 3, 1) := dG28_dL_law_741.2.2.2.2.2.2.2.2.2.2.2.2.1
theorem dL_law_759 : decode cL_law 759 = .ok (.iconst 2, 1) := dG28_dL_law_741.2.2.2.2.2.2.2.2.2.2.2.2.2.1
theorem dL_law_760 : decode cL_law 760 = .ok (.iadd, 1) := dG28_dL_law_741.2.2.2.2.2.2.2.2.2.2.2.2.2.2.1
theorem dL_law_761 : decode cL_law 761 = .ok (.iaload, 1) := dG28_dL_law_741.2.2.2.2.2.2.2.2.2.2.2.2.2.2.2
theorem dG29_dL_law_762 : (decode cL_law 762 = .ok (.aload_n 0, 1)) ∧ (decode cL_law 763 = .ok (.iload_n 3, 1)) ∧ (decode cL_law 764 = .ok (.iconst 3, 1)) ∧ (decode cL_law 765 = .ok (.iadd, 1)) ∧ (decode cL_law 766 = .ok (.iaload, 1)) ∧ (decode cL_law 770 = .ok (.pop, 1)) ∧ (decode cL_law 771 = .ok (.aload_n 2, 1)) ∧ (decode cL_law 772 = .ok (.aload_n 0, 1)) ∧ (decode cL_law 773 = .ok (.iload_n 3, 1)) ∧ (decode cL_law 774 = .ok (.iconst 1, 1)) ∧ (decode cL_law 775 = .ok (.iadd, 1)) ∧ (decode cL_law 776 = .ok (.iaload, 1)) ∧ (decode cL_law 777 = .ok (.aload_n 0, 1)) ∧ (decode cL_law 778 = .ok (.iload_n 3, 1)) ∧ (decode cL_law 779 = .ok (.iconst 2, 1)) ∧ (decode cL_law 780 = .ok (.iadd, 1)) := by decide +kernel
theorem dL_law_762 : decode cL_law 762 = .ok (.aload_n 0, 1) := dG29_dL_law_762.1
theorem dL_law_763 : decode cL_law 763 = .ok (.iload_n 3, 1) := dG29_dL_law_762.2.1
theorem dL_law_764 : decode cL_law 764 = .ok (.iconst 3, 1) := dG29_dL_law_762.2.2.1
theorem dL_law_765 : decode cL_law 765 = .ok (.iadd, 1) := dG29_dL_law_762.2.2.2.1
theorem dL_law_766 : decode cL_law 766 = .ok (.iaload, 1) := dG29_dL_law_762.2.2.2.2.1
theorem dL_law_770 : decode cL_law 770 = .ok (.pop, 1) := dG29_dL_law_762.2.2.2.2.2.1
theorem dL_law_771 : decode cL_law 771 = .ok (.aload_n 2, 1) := dG29_dL_law_762.2.2.2.2.2.2.1
theorem dL_law_772 : decode cL_law 772 = .ok (.aload_n 0, 1) := dG29_dL_law_762.2.2.2.2.2.2.2.1
theorem dL_law_773 : decode cL_law 773 = .ok (.iload_n 3, 1) := dG29_dL_law_762.2.2.2.2.2.2.2.2.1
theorem dL_law_774 : decode cL_law 774 = .ok (.iconst 1, 1) := dG29_dL_law_762.2.2.2.2.2.2.2.2.2.1
theorem dL_law_775 : decode cL_law 775 = .ok (.iadd, 1) := dG29_dL_law_762.2.2.2.2.2.2.2.2.2.2.1
theorem dL_law_776 : decode cL_law 776 = .ok (.iaload, 1) := dG29_dL_law_762.2.2.2.2.2.2.2.2.2.2.2.1
theorem dL_law_777 : decode cL_law 777 = .ok (.aload_n 0, 1) := dG29_dL_law_762.2.2.2.2.2.2.2.2.2.2.2.2.1
theorem dL_law_778 : decode cL_law 778 = .ok (.iload_n 3, 1) := dG29_dL_law_762.2.2.2.2.2.2.2.2.2.2.2.2.2.1
theorem dL_law_779 : decode cL_law 779 = .ok (.iconst 2, 1) := dG29_dL_law_762.2.2.2.2.2.2.2.2.2.2.2.2.2.2.1
theorem dL_law_780 : decode cL_law 780 = .ok (.iadd, 1) := dG29_dL_law_762.2.2.2.2.2.2.2.2.2.2.2.2.2.2.2
theorem dG30_dL_law_781 : (decode cL_law 781 = .ok (.iaload, 1)) ∧ (decode cL_law 782 = .ok (.aload_n 0, 1)) ∧ (decode cL_law 783 = .ok (.iload_n 3, 1)) ∧ (decode cL_law 784 = .ok (.iconst 3, 1)) ∧ (decode cL_law 785 = .ok (.iadd, 1)) ∧ (decode cL_law 786 = .ok (.iaload, 1)) ∧ (decode cL_law 790 = .ok (.pop, 1)) ∧ (decode cL_law 791 = .ok (.goto 904, 3)) ∧ (decode cL_law 794 = .ok (.aload_n 1, 1)) ∧ (decode cL_law 795 = .ok (.aload_n 0, 1)) ∧ (decode cL_law 796 = .ok (.iload_n 3, 1)) ∧ (decode cL_law 797 = .ok (.iconst 1, 1)) ∧ (decode cL_law 798 = .ok (.iadd, 1)) ∧ (decode cL_law 799 = .ok (.iaload, 1)) ∧ (decode cL_law 800 = .ok (.aload_n 0, 1)) ∧ (decode cL_law 801 = .ok (.iload_n 3, 1)) := by decide +kernel
theorem dL_law_781 : decode cL_law 781 = .ok (.iaload, 1) := dG30_dL_law_781.1
theorem dL_law_782 : decode cL_law 782 = .ok (.aload_n 0, 1) := dG30_dL_law_781.2.1
theorem dL_law_783 : decode cL_law 783 = .ok (.iload_n 3, 1) := dG30_dL_law_781.2.2.1
theorem dL_law_784 : decode cL_law 784 = .ok (.iconst 3, 1) := dG30_dL_law_781.2.2.2.1
theorem dL_law_785 : decode cL_law 785 = .ok (.iadd, 1) := dG30_dL_law_781.2.2.2.2.1
theorem dL_law_786 : decode cL_law 786 = .ok (.iaload, 1) := dG30_dL_law_781.2.2.2.2.2.1
theorem dL_law_790 : decode cL_law 790 = .ok (.pop, 1) := dG30_dL_law_781.2.2.2.2.2.2.1
theorem dL_law_791 : decode cL_law 791 = .ok (.goto 904, 3) := dG30_dL_law_781.2.2.2.2.2.2.2.1
theorem dL_law_794 : decode cL_law 794 = .ok (.aload_n 1, 1) := dG30_dL_law_781.2.2.2.2.2.2.2.2.1
theorem dL_law_795 : decode cL_law 795 = .ok (.aload_n 0, 1) := dG30_dL_law_781.2.2.2.2.2.2.2.2.2.1
theorem dL_law_796 : decode cL_law 796 = .ok (.iload_n 3, 1) := dG30_dL_law_781.2.2.2.2.2.2.2.2.2.2.1
theorem dL_law_797 : decode cL_law 797 = .ok (.iconst 1, 1) := dG30_dL_law_781.2.2.2.2.2.2.2.2.2.2.2.1
theorem dL_law_798 : decode cL_law 798 = .ok (.iadd, 1) := dG30_dL_law_781.2.2.2.2.2.2.2.2.2.2.2.2.1
theorem dL_law_799 : decode cL_law 799 = .ok (.iaload, 1) := dG30_dL_law_781.2.2.2.2.2.2.2.2.2.2.2.2.2.1
theorem dL_law_800 : decode cL_law 800 = .ok (.aload_n 0, 1) := dG30_dL_law_781.2.2.2.2.2.2.2.2.2.2.2.2.2.2.1
theorem dL_law_801 : decode cL_law 801 = .ok (.iload_n 3, 1) := dG30_dL_law_781.2.2.2.2.2.2.2.2.2.2.2.2.2.2.2
theorem dG31_dL_law_802 : (decode cL_law 802 = .ok (.iconst 2, 1)) ∧ (decode cL_law 803 = .ok (.iadd, 1)) ∧ (decode cL_law 804 = .ok (.iaload, 1)) ∧ (decode cL_law 805 = .ok (.aload_n 0, 1)) ∧ (decode cL_law 806 = .ok (.iload_n 3, 1)) ∧ (decode cL_law 807 = .ok (.iconst 3, 1)) ∧ (decode cL_law 808 = .ok (.iadd, 1)) ∧ (decode cL_law 809 = .ok (.iaload, 1)) ∧ (decode cL_law 813 = .ok (.pop, 1)) ∧ (decode cL_law 814 = .ok (.aload_n 2, 1)) ∧ (decode cL_law 815 = .ok (.aload_n 0, 1)) ∧ (decode cL_law 816 = .ok (.iload_n 3, 1)) ∧ (decode cL_law 817 = .ok (.iconst 1, 1)) ∧ (decode cL_law 818 = .ok (.iadd, 1)) ∧ (decode cL_law 819 = .ok (.iaload, 1)) ∧ (decode cL_law 820 = .ok (.aload_n 0, 1)) := by decide +kernel
theorem dL_law_802 : decode cL_law 802 = .ok (.iconst 2, 1) := dG31_dL_law_802.1
theorem dL_law_803 : decode cL_law 803 = .ok (.iadd, 1) := dG31_dL_law_802.2.1
theorem dL_law_804 : decode cL_law 804 = .ok (.iaload, 1) := dG31_dL_law_802.2.2.1
theorem dL_law_805 : decode cL_law 805 = .ok (.aload_n 0, 1) := dG31_dL_law_802.2.2.2.1
theorem dL_law_806 : decode cL_law 806 = .ok (.iload_n 3, 1) := dG31_dL_law_802.2.2.2.2.1
theorem dL_law_807 : decode cL_law 807 = .ok (.iconst 3, 1) := dG31_dL_law_802.2.2.2.2.2.1
theorem dL_law_808 : decode cL_law 808 = .ok (.iadd, 1) := dG31_dL_law_802.2.2.2.2.2.2.1
theorem dL_law_809 : decode cL_law 809 = .ok (.iaload, 1) := dG31_dL_law_802.2.2.2.2.2.2.2.1
theorem dL_law_813 : decode cL_law 813 = .ok (.pop, 1) := dG31_dL_law_802.2.2.2.2.2.2.2.2.1
theorem dL_law_814 : decode cL_law 814 = .ok (.aload_n 2, 1) := dG31_dL_law_802.2.2.2.2.2.2.2.2.2.1
theorem dL_law_815 : decode cL_law 815 = .ok (.aload_n 0, 1) := dG31_dL_law_802.2.2.2.2.2.2.2.2.2.2.1
theorem dL_law_816 : decode cL_law 816 = .ok (.iload_n 3, 1) := dG31_dL_law_802.2.2.2.2.2.2.2.2.2.2.2.1
theorem dL_law_817 : decode cL_law 817 = .ok (.iconst 1, 1) := dG31_dL_law_802.2.2.2.2.2.2.2.2.2.2.2.2.1
theorem dL_law_818 : decode cL_law 818 = .ok (.iadd, 1) := dG31_dL_law_802.2.2.2.2.2.2.2.2.2.2.2.2.2.1
theorem dL_law_819 : decode cL_law 819 = .ok (.iaload, 1) := dG31_dL_law_802.2.2.2.2.2.2.2.2.2.2.2.2.2.2.1
theorem dL_law_820 : decode cL_law 820 = .ok (.aload_n 0, 1) := dG31_dL_law_802.2.2.2.2.2.2.2.2.2.2.2.2.2.2.2
theorem dG32_dL_law_821 : (decode cL_law 821 = .ok (.iload_n 3, 1)) ∧ (decode cL_law 822 = .ok (.iconst 2, 1)) ∧ (decode cL_law 823 = .ok (.iadd, 1)) ∧ (decode cL_law 824 = .ok (.iaload, 1)) ∧ (decode cL_law 825 = .ok (.aload_n 0, 1)) ∧ (decode cL_law 826 = .ok (.iload_n 3, 1)) ∧ (decode cL_law 827 = .ok (.iconst 3, 1)) ∧ (decode cL_law 828 = .ok (.iadd, 1)) ∧ (decode cL_law 829 = .ok (.iaload, 1)) ∧ (decode cL_law 833 = .ok (.pop, 1)) ∧ (decode cL_law 834 = .ok (.goto 861, 3)) ∧ (decode cL_law 837 = .ok (.aload_n 1, 1)) ∧ (decode cL_law 838 = .ok (.aload_n 0, 1)) ∧ (decode cL_law 839 = .ok (.iload_n 3, 1)) ∧ (decode cL_law 840 = .ok (.iconst 1, 1)) ∧ (decode cL_law 841 = .ok (.iadd, 1)) := by decide +kernel
theorem dL_law_821 : decode cL_law 821 = .ok (.iload_n 3, 1) := dG32_dL_law_821.1
theorem dL_law_822 : decode cL_law 822 = .ok (.iconst 2, 1) := dG32_dL_law_821.2.1
theorem dL_law_823 : decode cL_law 823 = .ok (.iadd, 1) := dG32_dL_law_821.2.2.1
theorem dL_law_824 : decode cL_law 824 = .ok (.iaload, 1) := dG32_dL_law_821.2.2.2.1
theorem dL_law_825 : decode cL_law 825 = .ok (.aload_n 0, 1) := dG32_dL_law_821.2.2.2.2.1
theorem dL_law_826 : decode cL_law 826 = .ok (.iload_n 3, 1) := dG32_dL_law_821.2.2.2.2.2.1
theorem dL_law_827 : decode cL_law 827 = .ok (.iconst 3, 1) := dG32_dL_law_821.2.2.2.2.2.2.1
theorem dL_law_828 : decode cL_law 828 = .ok (.iadd, 1) := dG32_dL_law_821.2.2.2.2.2.2.2.1
theorem dL_law_829 : decode cL_law 829 = .ok (.iaload, 1) := dG32_dL_law_821.2.2.2.2.2.2.2.2.1
theorem dL_law_833 : decode cL_law 833 = .ok (.pop, 1) := dG32_dL_law_821.2.2.2.2.2.2.2.2.2.1
theorem dL_law_834 : decode cL_law 834 = .ok (.goto 861, 3) := dG32_dL_law_821.2.2.2.2.2.2.2.2.2.2.1
theorem dL_law_837 : decode cL_law 837 = .ok (.aload_n 1, 1) := dG32_dL_law_821.2.2.2.2.2.2.2.2.2.2.2.1
theorem dL_law_838 : decode cL_law 838 = .ok (.aload_n 0, 1) := dG32_dL_law_821.2.2.2.2.2.2.2.2.2.2.2.2.1
theorem dL_law_839 : decode cL_law 839 = .ok (.iload_n 3, 1) := dG32_dL_law_821.2.2.2.2.2.2.2.2.2.2.2.2.2.1
theorem dL_law_840 : decode cL_law 840 = .ok (.iconst 1, 1) := dG32_dL_law_821.2.2.2.2.2.2.2.2.2.2.2.2.2.2.1
theorem dL_law_841 : decode cL_law 841 = .ok (.iadd, 1) := dG32_dL_law_821.2.2.2.2.2.2.2.2.2.2.2.2.2.2.2
theorem dG33_dL_law_842 : (decode cL_law 842 = .ok (.iaload, 1)) ∧ (decode cL_law 843 = .ok (.aload_n 0, 1)) ∧ (decode cL_law 844 = .ok (.iload_n 3, 1)) ∧ (decode cL_law 845 = .ok (.iconst 2, 1)) ∧ (decode cL_law 846 = .ok (.iadd, 1)) ∧ (decode cL_law 847 = .ok (.iaload, 1)) ∧ (decode cL_law 851 = .ok (.pop, 1)) ∧ (decode cL_law 852 = .ok (.aload_n 2, 1)) ∧ (decode cL_law 853 = .ok (.aload_n 0, 1)) ∧ (decode cL_law 854 = .ok (.iload_n 3, 1)) ∧ (decode cL_law 855 = .ok (.iconst 1, 1)) ∧ (decode cL_law 856 = .ok (.iadd, 1)) ∧ (decode cL_law 857 = .ok (.iaload, 1)) ∧ (decode cL_law 858 = .ok (.aload_n 0, 1)) ∧ (decode cL_law 859 = .ok (.iload_n 3, 1)) ∧ (decode cL_law 860 = .ok (.iconst 2, 1)) := by decide +kernel
theorem dL_law_842 : decode cL_law 842 = .ok (.iaload, 1) := dG33_dL_law_842.1
theorem dL_law_843 : decode cL_law 843 = .ok (.aload_n 0, 1) := dG33_dL_law_842.2.1
theorem dL_law_844 : decode cL_law 844 = .ok (.iload_n 3, 1) := dG33_dL_law_842.2.2.1
theorem dL_law_845 : decode cL_law 845 = .ok (.iconst 2, 1) := dG33_dL_law_842.2.2.2.1
theorem dL_law_846 : decode cL_law 846 = .ok (.iadd, 1) := dG33_dL_law_842.2.2.2.2.1
theorem dL_law_847 : decode cL_law 847 = .ok (.iaload, 1) := dG33_dL_law_842.2.2.2.2.2.1
theorem dL_law_851 : decode cL_law 851 = .ok (.pop, 1) := dG33_dL_law_842.2.2.2.2.2.2.1
theorem dL_law_852 : decode cL_law 852 = .ok (.aload_n 2, 1) := dG33_dL_law_842.2.2.2.2.2.2.2.1
theorem dL_law_853 : decode cL_law 853 = .ok (.aload_n 0, 1) := dG33_dL_law_842.2.2.2.2.2.2.2.2.1
theorem dL_law_854 : decode cL_law 854 = .ok (.iload_n 3, 1) := dG33_dL_law_842.2.2.2.2.2.2.2.2.2.1
theorem dL_law_855 : decode cL_law 855 = .ok (.iconst 1, 1) := dG33_dL_law_842.2.2.2.2.2.2.2.2.2.2.1
theorem dL_law_856 : decode cL_law 856 = .ok (.iadd, 1) := dG33_dL_law_842.2.2.2.2.2.2.2.2.2.2.2.1
theorem dL_law_857 : decode cL_law 857 = .ok (.iaload, 1) := dG33_dL_law_842.2.2.2.2.2.2.2.2.2.2.2.2.1
theorem dL_law_858 : decode cL_law 858 = .ok (.aload_n 0, 1) := dG33_dL_law_842.2.2.2.2.2.2.2.2.2.2.2.2.2.1
theorem dL_law_859 : decode cL_law 859 = .ok (.iload_n 3, 1) := dG33_dL_law_842.2.2.2.2.2.2.2.2.2.2.2.2.2.2.1
theorem dL_law_860 : decode cL_law 860 = .ok (.iconst 2, 1) := dG33_dL_law_842.2.2.2.2.2.2.2.2.2.2.2.2.2.2.2
theorem dG34_dL_law_861 : (decode cL_law 861 = .ok (.iadd, 1)) ∧ (decode cL_law 862 = .ok (.iaload, 1)) ∧ (decode cL_law 866 = .ok (.pop, 1)) ∧ (decode cL_law 867 = .ok (.goto 828, 3)) ∧ (decode cL_law 870 = .ok (.aload_n 1, 1)) ∧ (decode cL_law 871 = .ok (.aload_n 0, 1)) ∧ (decode cL_law 872 = .ok (.iload_n 3, 1)) ∧ (decode cL_law 873 = .ok (.iconst 1, 1)) ∧ (decode cL_law 874 = .ok (.iadd, 1)) ∧ (decode cL_law 875 = .ok (.iaload, 1)) ∧ (decode cL_law 876 = .ok (.aload_n 0, 1)) ∧ (decode cL_law 877 = .ok (.iload_n 3, 1)) ∧ (decode cL_law 878 = .ok (.iconst 2, 1)) ∧ (decode cL_law 879 = .ok (.iadd, 1)) ∧ (decode cL_law 880 = .ok (.iaload, 1)) ∧ (decode cL_law 881 = .ok (.aload_n 0, 1)) := by decide +kernel
theorem dL_law_861 : decode cL_law 861 = .ok (.iadd, 1) := dG34_dL_law_861.1
theorem dL_law_862 : decode cL_law 862 = .ok (.iaload, 1) := dG34_dL_law_861.2.1
theorem dL_law_866 : decode cL_law 866 = .ok (.pop, 1) := dG34_dL_law_861.2.2.1
theorem dL_law_867 : decode cL_law 867 = .ok (.goto 828, 3) := dG34_dL_law_861.2.2.2.1
theorem dL_law_870 : decode cL_law 870 = .ok (.aload_n 1, 1) := dG34_dL_law_861.2.2.2.2.1
theorem dL_law_871 : decode cL_law 871 = .ok (.aload_n 0, 1) := dG34_dL_law_861.2.2.2.2.2.1
theorem dL_law_872 : decode cL_law 872 = .ok (.iload_n 3, 1) := dG34_dL_law_861.2.2.2.2.2.2.1
theorem dL_law_873 : decode cL_law 873 = .ok (.iconst 1, 1) := dG34_dL_law_861.2.2.2.2.2.2.2.1
theorem dL_law_874 : decode cL_law 874 = .ok (.iadd, 1) := dG34_dL_law_861.2.2.2.2.2.2.2.2.1
theorem dL_law_875 : decode cL_law 875 = .ok (.iaload, 1) := dG34_dL_law_861.2.2.2.2.2.2.2.2.2.1
theorem dL_law_876 : decode cL_law 876 = .ok (.aload_n 0, 1) := dG34_dL_law_861.2.2.2.2.2.2.2.2.2.2.1
theorem dL_law_877 : decode cL_law 877 = .ok (.iload_n 3, 1) := dG34_dL_law_861.2.2.2.2.2.2.2.2.2.2.2.1
theorem dL_law_878 : decode cL_law 878 = .ok (.iconst 2, 1) := dG34_dL_law_861.2.2.2.2.2.2.2.2.2.2.2.2.1
theorem dL_law_879 : decode cL_law 879 = .ok (.iadd, 1) := dG34_dL_law_861.2.2.2.2.2.2.2.2.2.2.2.2.2.1
theorem dL_law_880 : decode cL_law 880 = .ok (.iaload, 1) := dG34_dL_law_861.2.2.2.2.2.2.2.2.2.2.2.2.2.2.1
theorem dL_law_881 : decode cL_law 881 = .ok (.aload_n 0, 1) := dG34_dL_law_861.2.2.2.2.2.2.2.2.2.2.2.2.2.2.2
theorem dG35_dL_law_882 : (decode cL_law 882 = .ok (.iload_n 3, 1)) ∧ (decode cL_law 883 = .ok (.iconst 3, 1)) ∧ (decode cL_law 884 = .ok (.iadd, 1)) ∧ (decode cL_law 885 = .ok (.iaload, 1)) ∧ (decode cL_law 886 = .ok (.aload_n 0, 1)) ∧ (decode cL_law 887 = .ok (.iload_n 3, 1)) ∧ (decode cL_law 888 = .ok (.iconst 4, 1)) ∧ (decode cL_law 889 = .ok (.iadd, 1)) ∧ (decode cL_law 890 = .ok (.iaload, 1)) ∧ (decode cL_law 891 = .ok (.aload_n 0, 1)) ∧ (decode cL_law 892 = .ok (.iload_n 3, 1)) ∧ (decode cL_law 893 = .ok (.iconst 5, 1)) ∧ (decode cL_law 894 = .ok (.iadd, 1)) ∧ (decode cL_law 895 = .ok (.iaload, 1)) ∧ (decode cL_law 896 = .ok (.ifCond .eq 7, 3)) ∧ (decode cL_law 899 = .ok (.iconst 1, 1)) := by decide +kernel
theorem dL_law_882 : decode cL_law 882 = .ok (.iload_n 3, 1) := dG35_dL_law_882.1
theorem dL_law_883 : decode cL_law 883 = .ok (.iconst 3, 1) := dG35_dL_law_882.2.1
theorem dL_law_884 : decode cL_law 884 = .ok (.iadd, 1) := dG35_dL_law_882.2.2.1
theorem dL_law_885 : decode cL_law 885 = .ok (.iaload, 1) := dG35_dL_law_882.2.2.2.1
theorem dL_law_886 : decode cL_law 886 = .ok (.aload_n 0, 1) := dG35_dL_law_882.2.2.2.2.1
theorem dL_law_887 : decode cL_law 887 = .ok (.iload_n 3, 1) := dG35_dL_law_882.2.2.2.2.2.1
theorem dL_law_888 : decode cL_law 888 = .ok (.iconst 4, 1) := dG35_dL_law_882.2.2.2.2.2.2.1
theorem dL_law_889 : decode cL_law 889 = .ok (.iadd, 1) := dG35_dL_law_882.2.2.2.2.2.2.2.1
theorem dL_law_890 : decode cL_law 890 = .ok (.iaload, 1) := dG35_dL_law_882.2.2.2.2.2.2.2.2.1
theorem dL_law_891 : decode cL_law 891 = .ok (.aload_n 0, 1) := dG35_dL_law_882.2.2.2.2.2.2.2.2.2.1
theorem dL_law_892 : decode cL_law 892 = .ok (.iload_n 3, 1) := dG35_dL_law_882.2.2.2.2.2.2.2.2.2.2.1
theorem dL_law_893 : decode cL_law 893 = .ok (.iconst 5, 1) := dG35_dL_law_882.2.2.2.2.2.2.2.2.2.2.2.1
theorem dL_law_894 : decode cL_law 894 = .ok (.iadd, 1) := dG35_dL_law_882.2.2.2.2.2.2.2.2.2.2.2.2.1
theorem dL_law_895 : decode cL_law 895 = .ok (.iaload, 1) := dG35_dL_law_882.2.2.2.2.2.2.2.2.2.2.2.2.2.1
theorem dL_law_896 : decode cL_law 896 = .ok (.ifCond .eq 7, 3) := dG35_dL_law_882.2.2.2.2.2.2.2.2.2.2.2.2.2.2.1
theorem dL_law_899 : decode cL_law 899 = .ok (.iconst 1, 1) := dG35_dL_law_882.2.2.2.2.2.2.2.2.2.2.2.2.2.2.2
theorem dG36_dL_law_900 : (decode cL_law 900 = .ok (.goto 4, 3)) ∧ (decode cL_law 903 = .ok (.iconst 0, 1)) ∧ (decode cL_law 907 = .ok (.pop, 1)) ∧ (decode cL_law 908 = .ok (.aload_n 2, 1)) ∧ (decode cL_law 909 = .ok (.aload_n 0, 1)) ∧ (decode cL_law 910 = .ok (.iload_n 3, 1)) ∧ (decode cL_law 911 = .ok (.iconst 1, 1)) ∧ (decode cL_law 912 = .ok (.iadd, 1)) ∧ (decode cL_law 913 = .ok (.iaload, 1)) ∧ (decode cL_law 914 = .ok (.aload_n 0, 1)) ∧ (decode cL_law 915 = .ok (.iload_n 3, 1)) ∧ (decode cL_law 916 = .ok (.iconst 2, 1)) ∧ (decode cL_law 917 = .ok (.iadd, 1)) ∧ (decode cL_law 918 = .ok (.iaload, 1)) ∧ (decode cL_law 919 = .ok (.aload_n 0, 1)) ∧ (decode cL_law 920 = .ok (.iload_n 3, 1)) := by decide +kernel
theorem dL_law_900 : decode cL_law 900 = .ok (.goto 4, 3) := dG36_dL_law_900.1
theorem dL_law_903 : decode cL_law 903 = .ok (.iconst 0, 1) := dG36_dL_law_900.2.1
theorem dL_law_907 : decode cL_law 907 = .ok (.pop, 1) := dG36_dL_law_900.2.2.1
theorem dL_law_908 : decode cL_law 908 = .ok (.aload_n 2, 1) := dG36_dL_law_900.2.2.2.1
theorem dL_law_909 : decode cL_law 909 = .ok (.aload_n 0, 1) := dG36_dL_law_900.2.2.2.2.1
theorem dL_law_910 : decode cL_law 910 = .ok (.iload_n 3, 1) := dG36_dL_law_900.2.2.2.2.2.1
theorem dL_law_911 : decode cL_law 911 = .ok (.iconst 1, 1) := dG36_dL_law_900.2.2.2.2.2.2.1
theorem dL_law_912 : decode cL_law 912 = .ok (.iadd, 1) := dG36_dL_law_900.2.2.2.2.2.2.2.1
theorem dL_law_913 : decode cL_law 913 = .ok (.iaload, 1) := dG36_dL_law_900.2.2.2.2.2.2.2.2.1
theorem dL_law_914 : decode cL_law 914 = .ok (.aload_n 0, 1) := dG36_dL_law_900.2.2.2.2.2.2.2.2.2.1
theorem dL_law_915 : decode cL_law 915 = .ok (.iload_n 3, 1) := dG36_dL_law_900.2.2.2.2.2.2.2.2.2.2.1
theorem dL_law_916 : decode cL_law 916 = .ok (.iconst 2, 1) := dG36_dL_law_900.2.2.2.2.2.2.2.2.2.2.2.1
theorem dL_law_917 : decode cL_law 917 = .ok (.iadd, 1) := dG36_dL_law_900.2.2.2.2.2.2.2.2.2.2.2.2.1
theorem dL_law_918 : decode cL_law 918 = .ok (.iaload, 1) := dG36_dL_law_900.2.2.2.2.2.2.2.2.2.2.2.2.2.1
theorem dL_law_919 : decode cL_law 919 = .ok (.aload_n 0, 1) := dG36_dL_law_900.2.2.2.2.2.2.2.2.2.2.2.2.2.2.1
theorem dL_law_920 : decode cL_law 920 = .ok (.iload_n 3, 1) := dG36_dL_law_900.2.2.2.2.2.2.2.2.2.2.2.2.2.2.2
theorem dG37_dL_law_921 : (decode cL_law 921 = .ok (.iconst 3, 1)) ∧ (decode cL_law 922 = .ok (.iadd, 1)) ∧ (decode cL_law 923 = .ok (.iaload, 1)) ∧ (decode cL_law 924 = .ok (.aload_n 0, 1)) ∧ (decode cL_law 925 = .ok (.iload_n 3, 1)) ∧ (decode cL_law 926 = .ok (.iconst 4, 1)) ∧ (decode cL_law 927 = .ok (.iadd, 1)) ∧ (decode cL_law 928 = .ok (.iaload, 1)) ∧ (decode cL_law 929 = .ok (.aload_n 0, 1)) ∧ (decode cL_law 930 = .ok (.iload_n 3, 1)) ∧ (decode cL_law 931 = .ok (.iconst 5, 1)) ∧ (decode cL_law 932 = .ok (.iadd, 1)) ∧ (decode cL_law 933 = .ok (.iaload, 1)) ∧ (decode cL_law 934 = .ok (.ifCond .eq 7, 3)) ∧ (decode cL_law 937 = .ok (.iconst 1, 1)) ∧ (decode cL_law 938 = .ok (.goto 4, 3)) := by decide +kernel
theorem dL_law_921 : decode cL_law 921 = .ok (.iconst 3, 1) := dG37_dL_law_921.1
theorem dL_law_922 : decode cL_law 922 = .ok (.iadd, 1) := dG37_dL_law_921.2.1
theorem dL_law_923 : decode cL_law 923 = .ok (.iaload, 1) := dG37_dL_law_921.2.2.1
theorem dL_law_924 : decode cL_law 924 = .ok (.aload_n 0, 1) := dG37_dL_law_921.2.2.2.1
theorem dL_law_925 : decode cL_law 925 = .ok (.iload_n 3, 1) := dG37_dL_law_921.2.2.2.2.1
theorem dL_law_926 : decode cL_law 926 = .ok (.iconst 4, 1) := dG37_dL_law_921.2.2.2.2.2.1
theorem dL_law_927 : decode cL_law 927 = .ok (.iadd, 1) := dG37_dL_law_921.2.2.2.2.2.2.1
theorem dL_law_928 : decode cL_law 928 = .ok (.iaload, 1) := dG37_dL_law_921.2.2.2.2.2.2.2.1
theorem dL_law_929 : decode cL_law 929 = .ok (.aload_n 0, 1) := dG37_dL_law_921.2.2.2.2.2.2.2.2.1
theorem dL_law_930 : decode cL_law 930 = .ok (.iload_n 3, 1) := dG37_dL_law_921.2.2.2.2.2.2.2.2.2.1
theorem dL_law_931 : decode cL_law 931 = .ok (.iconst 5, 1) := dG37_dL_law_921.2.2.2.2.2.2.2.2.2.2.1
theorem dL_law_932 : decode cL_law 932 = .ok (.iadd, 1) := dG37_dL_law_921.2.2.2.2.2.2.2.2.2.2.2.1
theorem dL_law_933 : decode cL_law 933 = .ok (.iaload, 1) := dG37_dL_law_921.2.2.2.2.2.2.2.2.2.2.2.2.1
theorem dL_law_934 : decode cL_law 934 = .ok (.ifCond .eq 7, 3) := dG37_dL_law_921.2.2.2.2.2.2.2.2.2.2.2.2.2.1
theorem dL_law_937 : decode cL_law 937 = .ok (.iconst 1, 1) := dG37_dL_law_921.2.2.2.2.2.2.2.2.2.2.2.2.2.2.1
theorem dL_law_938 : decode cL_law 938 = .ok (.goto 4, 3) := dG37_dL_law_921.2.2.2.2.2.2.2.2.2.2.2.2.2.2.2
theorem dG38_dL_law_941 : (decode cL_law 941 = .ok (.iconst 0, 1)) ∧ (decode cL_law 945 = .ok (.pop, 1)) ∧ (decode cL_law 946 = .ok (.goto 749, 3)) ∧ (decode cL_law 949 = .ok (.aload_n 1, 1)) ∧ (decode cL_law 950 = .ok (.aload_n 0, 1)) ∧ (decode cL_law 951 = .ok (.iload_n 3, 1)) ∧ (decode cL_law 952 = .ok (.iconst 1, 1)) ∧ (decode cL_law 953 = .ok (.iadd, 1)) ∧ (decode cL_law 954 = .ok (.iaload, 1)) ∧ (decode cL_law 955 = .ok (.aload_n 0, 1)) ∧ (decode cL_law 956 = .ok (.iload_n 3, 1)) ∧ (decode cL_law 957 = .ok (.iconst 2, 1)) ∧ (decode cL_law 958 = .ok (.iadd, 1)) ∧ (decode cL_law 959 = .ok (.iaload, 1)) ∧ (decode cL_law 960 = .ok (.aload_n 0, 1)) ∧ (decode cL_law 961 = .ok (.iload_n 3, 1)) := by decide +kernel
theorem dL_law_941 : decode cL_law 941 = .ok (.iconst 0, 1) := dG38_dL_law_941.1
theorem dL_law_945 : decode cL_law 945 = .ok (.pop, 1) := dG38_dL_law_941.2.1
theorem dL_law_946 : decode cL_law 946 = .ok (.goto 749, 3) := dG38_dL_law_941.2.2.1
theorem dL_law_949 : decode cL_law 949 = .ok (.aload_n 1, 1) := dG38_dL_law_941.2.2.2.1
theorem dL_law_950 : decode cL_law 950 = .ok (.aload_n 0, 1) := dG38_dL_law_941.2.2.2.2.1
theorem dL_law_951 : decode cL_law 951 = .ok (.iload_n 3, 1) := dG38_dL_law_941.2.2.2.2.2.1
theorem dL_law_952 : decode cL_law 952 = .ok (.iconst 1, 1) := dG38_dL_law_941.2.2.2.2.2.2.1
theorem dL_law_953 : decode cL_law 953 = .ok (.iadd, 1) := dG38_dL_law_941.2.2.2.2.2.2.2.1
theorem dL_law_954 : decode cL_law 954 = .ok (.iaload, 1) := dG38_dL_law_941.2.2.2.2.2.2.2.2.1
theorem dL_law_955 : decode cL_law 955 = .ok (.aload_n 0, 1) := dG38_dL_law_941.2.2.2.2.2.2.2.2.2.1
theorem dL_law_956 : decode cL_law 956 = .ok (.iload_n 3, 1) := dG38_dL_law_941.2.2.2.2.2.2.2.2.2.2.1
theorem dL_law_957 : decode cL_law 957 = .ok (.iconst 2, 1) := dG38_dL_law_941.2.2.2.2.2.2.2.2.2.2.2.1
theorem dL_law_958 : decode cL_law 958 = .ok (.iadd, 1) := dG38_dL_law_941.2.2.2.2.2.2.2.2.2.2.2.2.1
theorem dL_law_959 : decode cL_law 959 = .ok (.iaload, 1) := dG38_dL_law_941.2.2.2.2.2.2.2.2.2.2.2.2.2.1
theorem dL_law_960 : decode cL_law 960 = .ok (.aload_n 0, 1) := dG38_dL_law_941.2.2.2.2.2.2.2.2.2.2.2.2.2.2.1
theorem dL_law_961 : decode cL_law 961 = .ok (.iload_n 3, 1) := dG38_dL_law_941.2.2.2.2.2.2.2.2.2.2.2.2.2.2.2
theorem dG39_dL_law_962 : (decode cL_law 962 = .ok (.iconst 3, 1)) ∧ (decode cL_law 963 = .ok (.iadd, 1)) ∧ (decode cL_law 964 = .ok (.iaload, 1)) ∧ (decode cL_law 965 = .ok (.aload_n 0, 1)) ∧ (decode cL_law 966 = .ok (.iload_n 3, 1)) ∧ (decode cL_law 967 = .ok (.iconst 4, 1)) ∧ (decode cL_law 968 = .ok (.iadd, 1)) ∧ (decode cL_law 969 = .ok (.iaload, 1)) ∧ (decode cL_law 970 = .ok (.ifCond .eq 7, 3)) ∧ (decode cL_law 973 = .ok (.iconst 1, 1)) ∧ (decode cL_law 974 = .ok (.goto 4, 3)) ∧ (decode cL_law 977 = .ok (.iconst 0, 1)) ∧ (decode cL_law 981 = .ok (.pop, 1)) ∧ (decode cL_law 982 = .ok (.aload_n 2, 1)) ∧ (decode cL_law 983 = .ok (.aload_n 0, 1)) ∧ (decode cL_law 984 = .ok (.iload_n 3, 1)) := by decide +kernel
theorem dL_law_962 : decode cL_law 962 = .ok (.iconst 3, 1) := dG39_dL_law_962.1
theorem dL_law_963 : decode cL_law 963 = .ok (.iadd, 1) := dG39_dL_law_962.2.1
theorem dL_law_964 : decode cL_law 964 = .ok (.iaload, 1) := dG39_dL_law_962.2.2.1
theorem dL_law_965 : decode cL_law 965 = .ok (.aload_n 0, 1) := dG39_dL_law_962.2.2.2.1
theorem dL_law_966 : decode cL_law 966 = .ok (.iload_n 3, 1) := dG39_dL_law_962.2.2.2.2.1
theorem dL_law_967 : decode cL_law 967 = .ok (.iconst 4, 1) := dG39_dL_law_962.2.2.2.2.2.1
theorem dL_law_968 : decode cL_law 968 = .ok (.iadd, 1) := dG39_dL_law_962.2.2.2.2.2.2.1
theorem dL_law_969 : decode cL_law 969 = .ok (.iaload, 1) := dG39_dL_law_962.2.2.2.2.2.2.2.1
theorem dL_law_970 : decode cL_law 970 = .ok (.ifCond .eq 7, 3) := dG39_dL_law_962.2.2.2.2.2.2.2.2.1
theorem dL_law_973 : decode cL_law 973 = .ok (.iconst 1, 1) := dG39_dL_law_962.2.2.2.2.2.2.2.2.2.1
theorem dL_law_974 : decode cL_law 974 = .ok (.goto 4, 3) := dG39_dL_law_962.2.2.2.2.2.2.2.2.2.2.1
theorem dL_law_977 : decode cL_law 977 = .ok (.iconst 0, 1) := dG39_dL_law_962.2.2.2.2.2.2.2.2.2.2.2.1
theorem dL_law_981 : decode cL_law 981 = .ok (.pop, 1) := dG39_dL_law_962.2.2.2.2.2.2.2.2.2.2.2.2.1
theorem dL_law_982 : decode cL_law 982 = .ok (.aload_n 2, 1) := dG39_dL_law_962.2.2.2.2.2.2.2.2.2.2.2.2.2.1
theorem dL_law_983 : decode cL_law 983 = .ok (.aload_n 0, 1) := dG39_dL_law_962.2.2.2.2.2.2.2.2.2.2.2.2.2.2.1
theorem dL_law_984 : decode cL_law 984 = .ok (.iload_n 3, 1) := dG39_dL_law_962.2.2.2.2.2.2.2.2.2.2.2.2.2.2.2
theorem dG40_dL_law_985 : (decode cL_law 985 = .ok (.iconst 1, 1)) ∧ (decode cL_law 986 = .ok (.iadd, 1)) ∧ (decode cL_law 987 = .ok (.iaload, 1)) ∧ (decode cL_law 988 = .ok (.aload_n 0, 1)) ∧ (decode cL_law 989 = .ok (.iload_n 3, 1)) ∧ (decode cL_law 990 = .ok (.iconst 2, 1)) ∧ (decode cL_law 991 = .ok (.iadd, 1)) ∧ (decode cL_law 992 = .ok (.iaload, 1)) ∧ (decode cL_law 993 = .ok (.aload_n 0, 1)) ∧ (decode cL_law 994 = .ok (.iload_n 3, 1)) ∧ (decode cL_law 995 = .ok (.iconst 3, 1)) ∧ (decode cL_law 996 = .ok (.iadd, 1)) ∧ (decode cL_law 997 = .ok (.iaload, 1)) ∧ (decode cL_law 998 = .ok (.aload_n 0, 1)) ∧ (decode cL_law 999 = .ok (.iload_n 3, 1)) ∧ (decode cL_law 1000 = .ok (.iconst 4, 1)) := by decide +kernel
theorem dL_law_985 : decode cL_law 985 = .ok (.iconst 1, 1) := dG40_dL_law_985.1
theorem dL_law_986 : decode cL_law 986 = .ok (.iadd, 1) := dG40_dL_law_985.2.1
theorem dL_law_987 : decode cL_law 987 = .ok (.iaload, 1) := dG40_dL_law_985.2.2.1
theorem dL_law_988 : decode cL_law 988 = .ok (.aload_n 0, 1) := dG40_dL_law_985.2.2.2.1
theorem dL_law_989 : decode cL_law 989 = .ok (.iload_n 3, 1) := dG40_dL_law_985.2.2.2.2.1
theorem dL_law_990 : decode cL_law 990 = .ok (.iconst 2, 1) := dG40_dL_law_985.2.2.2.2.2.1
theorem dL_law_991 : decode cL_law 991 = .ok (.iadd, 1) := dG40_dL_law_985.2.2.2.2.2.2.1
theorem dL_law_992 : decode cL_law 992 = .ok (.iaload, 1) := dG40_dL_law_985.2.2.2.2.2.2.2.1
theorem dL_law_993 : decode cL_law 993 = .ok (.aload_n 0, 1) := dG40_dL_law_985.2.2.2.2.2.2.2.2.1
theorem dL_law_994 : decode cL_law 994 = .ok (.iload_n 3, 1) := dG40_dL_law_985.2.2.2.2.2.2.2.2.2.1
theorem dL_law_995 : decode cL_law 995 = .ok (.iconst 3, 1) := dG40_dL_law_985.2.2.2.2.2.2.2.2.2.2.1
theorem dL_law_996 : decode cL_law 996 = .ok (.iadd, 1) := dG40_dL_law_985.2.2.2.2.2.2.2.2.2.2.2.1
theorem dL_law_997 : decode cL_law 997 = .ok (.iaload, 1) := dG40_dL_law_985.2.2.2.2.2.2.2.2.2.2.2.2.1
theorem dL_law_998 : decode cL_law 998 = .ok (.aload_n 0, 1) := dG40_dL_law_985.2.2.2.2.2.2.2.2.2.2.2.2.2.1
theorem dL_law_999 : decode cL_law 999 = .ok (.iload_n 3, 1) := dG40_dL_law_985.2.2.2.2.2.2.2.2.2.2.2.2.2.2.1
theorem dL_law_1000 : decode cL_law 1000 = .ok (.iconst 4, 1) := dG40_dL_law_985.2.2.2.2.2.2.2.2.2.2.2.2.2.2.2
theorem dG41_dL_law_1001 : (decode cL_law 1001 = .ok (.iadd, 1)) ∧ (decode cL_law 1002 = .ok (.iaload, 1)) ∧ (decode cL_law 1003 = .ok (.ifCond .eq 7, 3)) ∧ (decode cL_law 1006 = .ok (.iconst 1, 1)) ∧ (decode cL_law 1007 = .ok (.goto 4, 3)) ∧ (decode cL_law 1010 = .ok (.iconst 0, 1)) ∧ (decode cL_law 1014 = .ok (.pop, 1)) ∧ (decode cL_law 1015 = .ok (.goto 680, 3)) ∧ (decode cL_law 1018 = .ok (.aload_n 1, 1)) ∧ (decode cL_law 1019 = .ok (.aload_n 0, 1)) ∧ (decode cL_law 1020 = .ok (.iload_n 3, 1)) ∧ (decode cL_law 1021 = .ok (.iconst 1, 1)) ∧ (decode cL_law 1022 = .ok (.iadd, 1)) ∧ (decode cL_law 1023 = .ok (.iaload, 1)) ∧ (decode cL_law 1027 = .ok (.pop, 1)) ∧ (decode cL_law 1028 = .ok (.aload_n 2, 1)) := by decide +kernel
theorem dL_law_1001 : decode cL_law 1001 = .ok (.iadd, 1) := dG41_dL_law_1001.1
theorem dL_law_1002 : decode cL_law 1002 = .ok (.iaload, 1) := dG41_dL_law_1001.2.1
theorem dL_law_1003 : decode cL_law 1003 = .ok (.ifCond .eq 7, 3) := dG41_dL_law_1001.2.2.1
theorem dL_law_1006 : decode cL_law 1006 = .ok (.iconst 1, 1) := dG41_dL_law_1001.2.2.2.1
theorem dL_law_1007 : decode cL_law 1007 = .ok (.goto 4, 3) := dG41_dL_law_1001.2.2.2.2.1
theorem dL_law_1010 : decode cL_law 1010 = .ok (.iconst 0, 1) := dG41_dL_law_1001.2.2.2.2.2.1
theorem dL_law_1014 : decode cL_law 1014 = .ok (.pop, 1) := dG41_dL_law_1001.2.2.2.2.2.2.1
theorem dL_law_1015 : decode cL_law 1015 = .ok (.goto 680, 3) := dG41_dL_law_1001.2.2.2.2.2.2.2.1
theorem dL_law_1018 : decode cL_law 1018 = .ok (.aload_n 1, 1) := dG41_dL_law_1001.2.2.2.2.2.2.2.2.1
theorem dL_law_1019 : decode cL_law 1019 = .ok (.aload_n 0, 1) := dG41_dL_law_1001.2.2.2.2.2.2.2.2.2.1
theorem dL_law_1020 : decode cL_law 1020 = .ok (.iload_n 3, 1) := dG41_dL_law_1001.2.2.2.2.2.2.2.2.2.2.1
theorem dL_law_1021 : decode cL_law 1021 = .ok (.iconst 1, 1) := dG41_dL_law_1001.2.2.2.2.2.2.2.2.2.2.2.1
theorem dL_law_1022 : decode cL_law 1022 = .ok (.iadd, 1) := dG41_dL_law_1001.2.2.2.2.2.2.2.2.2.2.2.2.1
theorem dL_law_1023 : decode cL_law 1023 = .ok (.iaload, 1) := dG41_dL_law_1001.2.2.2.2.2.2.2.2.2.2.2.2.2.1
theorem dL_law_1027 : decode cL_law 1027 = .ok (.pop, 1) := dG41_dL_law_1001.2.2.2.2.2.2.2.2.2.2.2.2.2.2.1
theorem dL_law_1028 : decode cL_law 1028 = .ok (.aload_n 2, 1) := dG41_dL_law_1001.2.2.2.2.2.2.2.2.2.2.2.2.2.2.2
theorem dG42_dL_law_1029 : (decode cL_law 1029 = .ok (.aload_n 0, 1)) ∧ (decode cL_law 1030 = .ok (.iload_n 3, 1)) ∧ (decode cL_law 1031 = .ok (.iconst 1, 1)) ∧ (decode cL_law 1032 = .ok (.iadd, 1)) ∧ (decode cL_law 1033 = .ok (.iaload, 1)) ∧ (decode cL_law 1037 = .ok (.pop, 1)) ∧ (decode cL_law 1038 = .ok (.goto 657, 3)) ∧ (decode cL_law 1041 = .ok (.aload_n 1, 1)) ∧ (decode cL_law 1042 = .ok (.aload_n 0, 1)) ∧ (decode cL_law 1043 = .ok (.iload_n 3, 1)) ∧ (decode cL_law 1044 = .ok (.iconst 1, 1)) ∧ (decode cL_law 1045 = .ok (.iadd, 1)) ∧ (decode cL_law 1046 = .ok (.iaload, 1)) ∧ (decode cL_law 1047 = .ok (.aload_n 0, 1)) ∧ (decode cL_law 1048 = .ok (.iload_n 3, 1)) ∧ (decode cL_law 1049 = .ok (.iconst 2, 1)) := by decide +kernel
theorem dL_law_1029 : decode cL_law 1029 = .ok (.aload_n 0, 1) := dG42_dL_law_1029.1
theorem dL_law_1030 : decode cL_law 1030 = .ok (.iload_n 3, 1) := dG42_dL_law_1029.2.1
theorem dL_law_1031 : decode cL_law 1031 = .ok (.iconst 1, 1) := dG42_dL_law_1029.2.2.1
theorem dL_law_1032 : decode cL_law 1032 = .ok (.iadd, 1) := dG42_dL_law_1029.2.2.2.1
theorem dL_law_1033 : decode cL_law 1033 = .ok (.iaload, 1) := dG42_dL_law_1029.2.2.2.2.1
theorem dL_law_1037 : decode cL_law 1037 = .ok (.pop, 1) := dG42_dL_law_1029.2.2.2.2.2.1
theorem dL_law_1038 : decode cL_law 1038 = .ok (.goto 657, 3) := dG42_dL_law_1029.2.2.2.2.2.2.1
theorem dL_law_1041 : decode cL_law 1041 = .ok (.aload_n 1, 1) := dG42_dL_law_1029.2.2.2.2.2.2.2.1
theorem dL_law_1042 : decode cL_law 1042 = .ok (.aload_n 0, 1) := dG42_dL_law_1029.2.2.2.2.2.2.2.2.1
theorem dL_law_1043 : decode cL_law 1043 = .ok (.iload_n 3, 1) := dG42_dL_law_1029.2.2.2.2.2.2.2.2.2.1
theorem dL_law_1044 : decode cL_law 1044 = .ok (.iconst 1, 1) := dG42_dL_law_1029.2.2.2.2.2.2.2.2.2.2.1
theorem dL_law_1045 : decode cL_law 1045 = .ok (.iadd, 1) := dG42_dL_law_1029.2.2.2.2.2.2.2.2.2.2.2.1
theorem dL_law_1046 : decode cL_law 1046 = .ok (.iaload, 1) := dG42_dL_law_1029.2.2.2.2.2.2.2.2.2.2.2.2.1
theorem dL_law_1047 : decode cL_law 1047 = .ok (.aload_n 0, 1) := dG42_dL_law_1029.2.2.2.2.2.2.2.2.2.2.2.2.2.1
theorem dL_law_1048 : decode cL_law 1048 = .ok (.iload_n 3, 1) := dG42_dL_law_1029.2.2.2.2.2.2.2.2.2.2.2.2.2.2.1
theorem dL_law_1049 : decode cL_law 1049 = .ok (.iconst 2, 1) := dG42_dL_law_1029.2.2.2.2.2.2.2.2.2.2.2.2.2.2.2
theorem dG43_dL_law_1050 : (decode cL_law 1050 = .ok (.iadd, 1)) ∧ (decode cL_law 1051 = .ok (.iaload, 1)) ∧ (decode cL_law 1055 = .ok (.pop, 1)) ∧ (decode cL_law 1056 = .ok (.aload_n 2, 1)) ∧ (decode cL_law 1057 = .ok (.aload_n 0, 1)) ∧ (decode cL_law 1058 = .ok (.iload_n 3, 1)) ∧ (decode cL_law 1059 = .ok (.iconst 1, 1)) ∧ (decode cL_law 1060 = .ok (.iadd, 1)) ∧ (decode cL_law 1061 = .ok (.iaload, 1)) ∧ (decode cL_law 1062 = .ok (.aload_n 0, 1)) ∧ (decode cL_law 1063 = .ok (.iload_n 3, 1)) ∧ (decode cL_law 1064 = .ok (.iconst 2, 1)) ∧ (decode cL_law 1065 = .ok (.iadd, 1)) ∧ (decode cL_law 1066 = .ok (.iaload, 1)) ∧ (decode cL_law 1070 = .ok (.pop, 1)) ∧ (decode cL_law 1071 = .ok (.goto 624, 3)) := by decide +kernel
theorem dL_law_1050 : decode cL_law 1050 = .ok (.iadd, 1) := dG43_dL_law_1050.1
theorem dL_law_1051 : decode cL_law 1051 = .ok (.iaload, 1) := dG43_dL_law_1050.2.1
theorem dL_law_1055 : decode cL_law 1055 = .ok (.pop, 1) := dG43_dL_law_1050.2.2.1
theorem dL_law_1056 : decode cL_law 1056 = .ok (.aload_n 2, 1) := dG43_dL_law_1050.2.2.2.1
theorem dL_law_1057 : decode cL_law 1057 = .ok (.aload_n 0, 1) := dG43_dL_law_1050.2.2.2.2.1
theorem dL_law_1058 : decode cL_law 1058 = .ok (.iload_n 3, 1) := dG43_dL_law_1050.2.2.2.2.2.1
theorem dL_law_1059 : decode cL_law 1059 = .ok (.iconst 1, 1) := dG43_dL_law_1050.2.2.2.2.2.2.1
theorem dL_law_1060 : decode cL_law 1060 = .ok (.iadd, 1) := dG43_dL_law_1050.2.2.2.2.2.2.2.1
theorem dL_law_1061 : decode cL_law 1061 = .ok (.iaload, 1) := dG43_dL_law_1050.2.2.2.2.2.2.2.2.1
theorem dL_law_1062 : decode cL_law 1062 = .ok (.aload_n 0, 1) := dG43_dL_law_1050.2.2.2.2.2.2.2.2.2.1
theorem dL_law_1063 : decode cL_law 1063 = .ok (.iload_n 3, 1) := dG43_dL_law_1050.2.2.2.2.2.2.2.2.2.2.1
theorem dL_law_1064 : decode cL_law 1064 = .ok (.iconst 2, 1) := dG43_dL_law_1050.2.2.2.2.2.2.2.2.2.2.2.1
theorem dL_law_1065 : decode cL_law 1065 = .ok (.iadd, 1) := dG43_dL_law_1050.2.2.2.2.2.2.2.2.2.2.2.2.1
theorem dL_law_1066 : decode cL_law 1066 = .ok (.iaload, 1) := dG43_dL_law_1050.2.2.2.2.2.2.2.2.2.2.2.2.2.1
theorem dL_law_1070 : decode cL_law 1070 = .ok (.pop, 1) := dG43_dL_law_1050.2.2.2.2.2.2.2.2.2.2.2.2.2.2.1
theorem dL_law_1071 : decode cL_law 1071 = .ok (.goto 624, 3) := dG43_dL_law_1050.2.2.2.2.2.2.2.2.2.2.2.2.2.2.2
theorem dG44_dL_law_1074 : (decode cL_law 1074 = .ok (.aload_n 1, 1)) ∧ (decode cL_law 1075 = .ok (.aload_n 0, 1)) ∧ (decode cL_law 1076 = .ok (.iload_n 3, 1)) ∧ (decode cL_law 1077 = .ok (.iconst 1, 1)) ∧ (decode cL_law 1078 = .ok (.iadd, 1)) ∧ (decode cL_law 1079 = .ok (.iaload, 1)) ∧ (decode cL_law 1083 = .ok (.pop, 1)) ∧ (decode cL_law 1084 = .ok (.aload_n 2, 1)) ∧ (decode cL_law 1085 = .ok (.aload_n 0, 1)) ∧ (decode cL_law 1086 = .ok (.iload_n 3, 1)) ∧ (decode cL_law 1087 = .ok (.iconst 1, 1)) ∧ (decode cL_law 1088 = .ok (.iadd, 1)) ∧ (decode cL_law 1089 = .ok (.iaload, 1)) ∧ (decode cL_law 1093 = .ok (.pop, 1)) ∧ (decode cL_law 1094 = .ok (.goto 601, 3)) ∧ (decode cL_law 1097 = .ok (.aload_n 1, 1)) := by decide +kernel
theorem dL_law_1074 : decode cL_law 1074 = .ok (.aload_n 1, 1) := dG44_dL_law_1074.1
theorem dL_law_1075 : decode cL_law 1075 = .ok (.aload_n 0, 1) := dG44_dL_law_1074.2.1
theorem dL_law_1076 : decode cL_law 1076 = .ok (.iload_n 3, 1) := dG44_dL_law_1074.2.2.1
theorem dL_law_1077 : decode cL_law 1077 = .ok (.iconst 1, 1) := dG44_dL_law_1074.2.2.2.1
theorem dL_law_1078 : decode cL_law 1078 = .ok (.iadd, 1) := dG44_dL_law_1074.2.2.2.2.1
theorem dL_law_1079 : decode cL_law 1079 = .ok (.iaload, 1) := dG44_dL_law_1074.2.2.2.2.2.1
theorem dL_law_1083 : decode cL_law 1083 = .ok (.pop, 1) := dG44_dL_law_1074.2.2.2.2.2.2.1
theorem dL_law_1084 : decode cL_law 1084 = .ok (.aload_n 2, 1) := dG44_dL_law_1074.2.2.2.2.2.2.2.1
theorem dL_law_1085 : decode cL_law 1085 = .ok (.aload_n 0, 1) := dG44_dL_law_1074.2.2.2.2.2.2.2.2.1
theorem dL_law_1086 : decode cL_law 1086 = .ok (.iload_n 3, 1) := dG44_dL_law_1074.2.2.2.2.2.2.2.2.2.1
theorem dL_law_1087 : decode cL_law 1087 = .ok (.iconst 1, 1) := dG44_dL_law_1074.2.2.2.2.2.2.2.2.2.2.1
theorem dL_law_1088 : decode cL_law 1088 = .ok (.iadd, 1) := dG44_dL_law_1074.2.2.2.2.2.2.2.2.2.2.2.1
theorem dL_law_1089 : decode cL_law 1089 = .ok (.iaload, 1) := dG44_dL_law_1074.2.2.2.2.2.2.2.2.2.2.2.2.1
theorem dL_law_1093 : decode cL_law 1093 = .ok (.pop, 1) := dG44_dL_law_1074.2.2.2.2.2.2.2.2.2.2.2.2.2.1
theorem dL_law_1094 : decode cL_law 1094 = .ok (.goto 601, 3) := dG44_dL_law_1074.2.2.2.2.2.2.2.2.2.2.2.2.2.2.1
theorem dL_law_1097 : decode cL_law 1097 = .ok (.aload_n 1, 1) := dG44_dL_law_1074.2.2.2.2.2.2.2.2.2.2.2.2.2.2.2
theorem dG45_dL_law_1098 : (decode cL_law 1098 = .ok (.aload_n 0, 1)) ∧ (decode cL_law 1099 = .ok (.iload_n 3, 1)) ∧ (decode cL_law 1100 = .ok (.iconst 1, 1)) ∧ (decode cL_law 1101 = .ok (.iadd, 1)) ∧ (decode cL_law 1102 = .ok (.iaload, 1)) ∧ (decode cL_law 1103 = .ok (.aload_n 0, 1)) ∧ (decode cL_law 1104 = .ok (.iload_n 3, 1)) ∧ (decode cL_law 1105 = .ok (.iconst 2, 1)) ∧ (decode cL_law 1106 = .ok (.iadd, 1)) ∧ (decode cL_law 1107 = .ok (.iaload, 1)) ∧ (decode cL_law 1108 = .ok (.aload_n 0, 1)) ∧ (decode cL_law 1109 = .ok (.iload_n 3, 1)) ∧ (decode cL_law 1110 = .ok (.iconst 3, 1)) ∧ (decode cL_law 1111 = .ok (.iadd, 1)) ∧ (decode cL_law 1112 = .ok (.iaload, 1)) ∧ (decode cL_law 1116 = .ok (.pop, 1)) := by decide +kernel
theorem dL_law_1098 : decode cL_law 1098 = .ok (.aload_n 0, 1) := dG45_dL_law_1098.1
theorem dL_law_1099 : decode cL_law 1099 = .ok (.iload_n 3, 1) := dG45_dL_law_1098.2.1
theorem dL_law_1100 : decode cL_law 1100 = .ok (.iconst 1, 1) := dG45_dL_law_1098.2.2.1
theorem dL_law_1101 : decode cL_law 1101 = .ok (.iadd, 1) := dG45_dL_law_1098.2.2.2.1
theorem dL_law_1102 : decode cL_law 1102 = .ok (.iaload, 1) := dG45_dL_law_1098.2.2.2.2.1
theorem dL_law_1103 : decode cL_law 1103 = .ok (.aload_n 0, 1) := dG45_dL_law_1098.2.2.2.2.2.1
theorem dL_law_1104 : decode cL_law 1104 = .ok (.iload_n 3, 1) := dG45_dL_law_1098.2.2.2.2.2.2.1
theorem dL_law_1105 : decode cL_law 1105 = .ok (.iconst 2, 1) := dG45_dL_law_1098.2.2.2.2.2.2.2.1
theorem dL_law_1106 : decode cL_law 1106 = .ok (.iadd, 1) := dG45_dL_law_1098.2.2.2.2.2.2.2.2.1
theorem dL_law_1107 : decode cL_law 1107 = .ok (.iaload, 1) := dG45_dL_law_1098.2.2.2.2.2.2.2.2.2.1
theorem dL_law_1108 : decode cL_law 1108 = .ok (.aload_n 0, 1) := dG45_dL_law_1098.2.2.2.2.2.2.2.2.2.2.1
theorem dL_law_1109 : decode cL_law 1109 = .ok (.iload_n 3, 1) := dG45_dL_law_1098.2.2.2.2.2.2.2.2.2.2.2.1
theorem dL_law_1110 : decode cL_law 1110 = .ok (.iconst 3, 1) := dG45_dL_law_1098.2.2.2.2.2.2.2.2.2.2.2.2.1
theorem dL_law_1111 : decode cL_law 1111 = .ok (.iadd, 1) := dG45_dL_law_1098.2.2.2.2.2.2.2.2.2.2.2.2.2.1
theorem dL_law_1112 : decode cL_law 1112 = .ok (.iaload, 1) := dG45_dL_law_1098.2.2.2.2.2.2.2.2.2.2.2.2.2.2.1
theorem dL_law_1116 : decode cL_law 1116 = .ok (.pop, 1) := dG45_dL_law_1098.2.2.2.2.2.2.2.2.2.2.2.2.2.2.2
theorem dG46_dL_law_1117 : (decode cL_law 1117 = .ok (.aload_n 2, 1)) ∧ (decode cL_law 1118 = .ok (.aload_n 0, 1)) ∧ (decode cL_law 1119 = .ok (.iload_n 3, 1)) ∧ (decode cL_law 1120 = .ok (.iconst 1, 1)) ∧ (decode cL_law 1121 = .ok (.iadd, 1)) ∧ (decode cL_law 1122 = .ok (.iaload, 1)) ∧ (decode cL_law 1123 = .ok (.aload_n 0, 1)) ∧ (decode cL_law 1124 = .ok (.iload_n 3, 1)) ∧ (decode cL_law 1125 = .ok (.iconst 2, 1)) ∧ (decode cL_law 1126 = .ok (.iadd, 1)) ∧ (decode cL_law 1127 = .ok (.iaload, 1)) ∧ (decode cL_law 1128 = .ok (.aload_n 0, 1)) ∧ (decode cL_law 1129 = .ok (.iload_n 3, 1)) ∧ (decode cL_law 1130 = .ok (.iconst 3, 1)) ∧ (decode cL_law 1131 = .ok (.iadd, 1)) ∧ (decode cL_law 1132 = .ok (.iaload, 1)) := by decide +kernel
theorem dL_law_1117 : decode cL_law 1117 = .ok (.aload_n 2, 1) := dG46_dL_law_1117.1
theorem dL_law_1118 : decode cL_law 1118 = .ok (.aload_n 0, 1) := dG46_dL_law_1117.2.1
theorem dL_law_1119 : decode cL_law 1119 = .ok (.iload_n 3, 1) := dG46_dL_law_1117.2.2.1
theorem dL_law_1120 : decode cL_law 1120 = .ok (.iconst 1, 1) := dG46_dL_law_1117.2.2.2.1
theorem dL_law_1121 : decode cL_law 1121 = .ok (.iadd, 1) := dG46_dL_law_1117.2.2.2.2.1
theorem dL_law_1122 : decode cL_law 1122 = .ok (.iaload, 1) := dG46_dL_law_1117.2.2.2.2.2.1
theorem dL_law_1123 : decode cL_law 1123 = .ok (.aload_n 0, 1) := dG46_dL_law_1117.2.2.2.2.2.2.1
theorem dL_law_1124 : decode cL_law 1124 = .ok (.iload_n 3, 1) := dG46_dL_law_1117.2.2.2.2.2.2.2.1
theorem dL_law_1125 : decode cL_law 1125 = .ok (.iconst 2, 1) := dG46_dL_law_1117.2.2.2.2.2.2.2.2.1
theorem dL_law_1126 : decode cL_law 1126 = .ok (.iadd, 1) := dG46_dL_law_1117.2.2.2.2.2.2.2.2.2.1
theorem dL_law_1127 : decode cL_law 1127 = .ok (.iaload, 1) := dG46_dL_law_1117.2.2.2.2.2.2.2.2.2.2.1
theorem dL_law_1128 : decode cL_law 1128 = .ok (.aload_n 0, 1) := dG46_dL_law_1117.2.2.2.2.2.2.2.2.2.2.2.1
theorem dL_law_1129 : decode cL_law 1129 = .ok (.iload_n 3, 1) := dG46_dL_law_1117.2.2.2.2.2.2.2.2.2.2.2.2.1
theorem dL_law_1130 : decode cL_law 1130 = .ok (.iconst 3, 1) := dG46_dL_law_1117.2.2.2.2.2.2.2.2.2.2.2.2.2.1
theorem dL_law_1131 : decode cL_law 1131 = .ok (.iadd, 1) := dG46_dL_law_1117.2.2.2.2.2.2.2.2.2.2.2.2.2.2.1
theorem dL_law_1132 : decode cL_law 1132 = .ok (.iaload, 1) := dG46_dL_law_1117.2.2.2.2.2.2.2.2.2.2.2.2.2.2.2
theorem dG47_dL_law_1136 : (decode cL_law 1136 = .ok (.pop, 1)) ∧ (decode cL_law 1137 = .ok (.goto 558, 3)) ∧ (decode cL_law 1140 = .ok (.aload_n 1, 1)) ∧ (decode cL_law 1141 = .ok (.aload_n 0, 1)) ∧ (decode cL_law 1142 = .ok (.iload_n 3, 1)) ∧ (decode cL_law 1143 = .ok (.iconst 1, 1)) ∧ (decode cL_law 1144 = .ok (.iadd, 1)) ∧ (decode cL_law 1145 = .ok (.iaload, 1)) ∧ (decode cL_law 1146 = .ok (.aload_n 0, 1)) ∧ (decode cL_law 1147 = .ok (.iload_n 3, 1)) ∧ (decode cL_law 1148 = .ok (.iconst 2, 1)) ∧ (decode cL_law 1149 = .ok (.iadd, 1)) ∧ (decode cL_law 1150 = .ok (.iaload, 1)) ∧ (decode cL_law 1151 = .ok (.aload_n 0, 1)) ∧ (decode cL_law 1152 = .ok (.iload_n 3, 1)) ∧ (decode cL_law 1153 = .ok (.iconst 3, 1)) := by decide +kernel
theorem dL_law_1136 : decode cL_law 1136 = .ok (.pop, 1) := dG47_dL_law_1136.1
theorem dL_law_1137 : decode cL_law 1137 = .ok (.goto 558, 3) := dG47_dL_law_1136.2.1
theorem dL_law_1140 : decode cL_law 1140 = .ok (.aload_n 1, 1) := dG47_dL_law_1136.2.2.1
theorem dL_law_1141 : decode cL_law 1141 = .ok (.aload_n 0, 1) := dG47_dL_law_1136.2.2.2.1
theorem dL_law_1142 : decode cL_law 1142 = .ok (.iload_n 3, 1) := dG47_dL_law_1136.2.2.2.2.1
theorem dL_law_1143 : decode cL_law 1143 = .ok (.iconst 1, 1) := dG47_dL_law_1136.2.2.2.2.2.1
theorem dL_law_1144 : decode cL_law 1144 = .ok (.iadd, 1) := dG47_dL_law_1136.2.2.2.2.2.2.1
theorem dL_law_1145 : decode cL_law 1145 = .ok (.iaload, 1) := dG47_dL_law_1136.2.2.2.2.2.2.2.1
theorem dL_law_1146 : decode cL_law 1146 = .ok (.aload_n 0, 1) := dG47_dL_law_1136.2.2.2.2.2.2.2.2.1
theorem dL_law_1147 : decode cL_law 1147 = .ok (.iload_n 3, 1) := dG47_dL_law_1136.2.2.2.2.2.2.2.2.2.1
theorem dL_law_1148 : decode cL_law 1148 = .ok (.iconst 2, 1) := dG47_dL_law_1136.2.2.2.2.2.2.2.2.2.2.1
theorem dL_law_1149 : decode cL_law 1149 = .ok (.iadd, 1) := dG47_dL_law_1136.2.2.2.2.2.2.2.2.2.2.2.1
theorem dL_law_1150 : decode cL_law 1150 = .ok (.iaload, 1) := dG47_dL_law_1136.2.2.2.2.2.2.2.2.2.2.2.2.1
theorem dL_law_1151 : decode cL_law 1151 = .ok (.aload_n 0, 1) := dG47_dL_law_1136.2.2.2.2.2.2.2.2.2.2.2.2.2.1
theorem dL_law_1152 : decode cL_law 1152 = .ok (.iload_n 3, 1) := dG47_dL_law_1136.2.2.2.2.2.2.2.2.2.2.2.2.2.2.1
theorem dL_law_1153 : decode cL_law 1153 = .ok (.iconst 3, 1) := dG47_dL_law_1136.2.2.2.2.2.2.2.2.2.2.2.2.2.2.2
theorem dG48_dL_law_1154 : (decode cL_law 1154 = .ok (.iadd, 1)) ∧ (decode cL_law 1155 = .ok (.iaload, 1)) ∧ (decode cL_law 1159 = .ok (.pop, 1)) ∧ (decode cL_law 1160 = .ok (.aload_n 2, 1)) ∧ (decode cL_law 1161 = .ok (.aload_n 0, 1)) ∧ (decode cL_law 1162 = .ok (.iload_n 3, 1)) ∧ (decode cL_law 1163 = .ok (.iconst 1, 1)) ∧ (decode cL_law 1164 = .ok (.iadd, 1)) ∧ (decode cL_law 1165 = .ok (.iaload, 1)) ∧ (decode cL_law 1166 = .ok (.aload_n 0, 1)) ∧ (decode cL_law 1167 = .ok (.iload_n 3, 1)) ∧ (decode cL_law 1168 = .ok (.iconst 2, 1)) ∧ (decode cL_law 1169 = .ok (.iadd, 1)) ∧ (decode cL_law 1170 = .ok (.iaload, 1)) ∧ (decode cL_law 1171 = .ok (.aload_n 0, 1)) ∧ (decode cL_law 1172 = .ok (.iload_n 3, 1)) := by decide +kernel
theorem dL_law_1154 : decode cL_law 1154 = .ok (.iadd, 1) := dG48_dL_law_1154.1
theorem dL_law_1155 : decode cL_law 1155 = .ok (.iaload, 1) := dG48_dL_law_1154.2.1
theorem dL_law_1159 : decode cL_law 1159 = .ok (.pop, 1) := dG48_dL_law_1154.2.2.1
theorem dL_law_1160 : decode cL_law 1160 = .ok (.aload_n 2, 1) := dG48_dL_law_1154.2.2.2.1
theorem dL_law_1161 : decode cL_law 1161 = .ok (.aload_n 0, 1) := dG48_dL_law_1154.2.2.2.2.1
theorem dL_law_1162 : decode cL_law 1162 = .ok (.iload_n 3, 1) := dG48_dL_law_1154.2.2.2.2.2.1
theorem dL_law_1163 : decode cL_law 1163 = .ok (.iconst 1, 1) := dG48_dL_law_1154.2.2.2.2.2.2.1
theorem dL_law_1164 : decode cL_law 1164 = .ok (.iadd, 1) := dG48_dL_law_1154.2.2.2.2.2.2.2.1
theorem dL_law_1165 : decode cL_law 1165 = .ok (.iaload, 1) := dG48_dL_law_1154.2.2.2.2.2.2.2.2.1
theorem dL_law_1166 : decode cL_law 1166 = .ok (.aload_n 0, 1) := dG48_dL_law_1154.2.2.2.2.2.2.2.2.2.1
theorem dL_law_1167 : decode cL_law 1167 = .ok (.iload_n 3, 1) := dG48_dL_law_1154.2.2.2.2.2.2.2.2.2.2.1
theorem dL_law_1168 : decode cL_law 1168 = .ok (.iconst 2, 1) := dG48_dL_law_1154.2.2.2.2.2.2.2.2.2.2.2.1
theorem dL_law_1169 : decode cL_law 1169 = .ok (.iadd, 1) := dG48_dL_law_1154.2.2.2.2.2.2.2.2.2.2.2.2.1
theorem dL_law_1170 : decode cL_law 1170 = .ok (.iaload, 1) := dG48_dL_law_1154.2.2.2.2.2.2.2.2.2.2.2.2.2.1
theorem dL_law_1171 : decode cL_law 1171 = .ok (.aload_n 0, 1) := dG48_dL_law_1154.2.2.2.2.2.2.2.2.2.2.2.2.2.2.1
theorem dL_law_1172 : decode cL_law 1172 = .ok (.iload_n 3, 1) := dG48_dL_law_1154.2.2.2.2.2.2.2.2.2.2.2.2.2.2.2
theorem dG49_dL_law_1173 : (decode cL_law 1173 = .ok (.iconst 3, 1)) ∧ (decode cL_law 1174 = .ok (.iadd, 1)) ∧ (decode cL_law 1175 = .ok (.iaload, 1)) ∧ (decode cL_law 1179 = .ok (.pop, 1)) ∧ (decode cL_law 1180 = .ok (.goto 515, 3)) ∧ (decode cL_law 1183 = .ok (.aload_n 1, 1)) ∧ (decode cL_law 1184 = .ok (.aload_n 0, 1)) ∧ (decode cL_law 1185 = .ok (.iload_n 3, 1)) ∧ (decode cL_law 1186 = .ok (.iconst 1, 1)) ∧ (decode cL_law 1187 = .ok (.iadd, 1)) ∧ (decode cL_law 1188 = .ok (.iaload, 1)) ∧ (decode cL_law 1189 = .ok (.aload_n 0, 1)) ∧ (decode cL_law 1190 = .ok (.iload_n 3, 1)) ∧ (decode cL_law 1191 = .ok (.iconst 2, 1)) ∧ (decode cL_law 1192 = .ok (.iadd, 1)) ∧ (decode cL_law 1193 = .ok (.iaload, 1)) := by decide +kernel
theorem dL_law_1173 : decode cL_law 1173 = .ok (.iconst 3, 1) := dG49_dL_law_1173.1
theorem dL_law_1174 : decode cL_law 1174 = .ok (.iadd, 1) := dG49_dL_law_1173.2.1
theorem dL_law_1175 : decode cL_law 1175 = .ok (.iaload, 1) := dG49_dL_law_1173.2.2.1
theorem dL_law_1179 : decode cL_law 1179 = .ok (.pop, 1) := dG49_dL_law_1173.2.2.2.1
theorem dL_law_1180 : decode cL_law 1180 = .ok (.goto 515, 3) := dG49_dL_law_1173.2.2.2.2.1
theorem dL_law_1183 : decode cL_law 1183 = .ok (.aload_n 1, 1) := dG49_dL_law_1173.2.2.2.2.2.1
theorem dL_law_1184 : decode cL_law 1184 = .ok (.aload_n 0, 1) := dG49_dL_law_1173.2.2.2.2.2.2.1
theorem dL_law_1185 : decode cL_law 1185 = .ok (.iload_n 3, 1) := dG49_dL_law_1173.2.2.2.2.2.2.2.1
theorem dL_law_1186 : decode cL_law 1186 = .ok (.iconst 1, 1) := dG49_dL_law_1173.2.2.2.2.2.2.2.2.1
theorem dL_law_1187 : decode cL_law 1187 = .ok (.iadd, 1) := dG49_dL_law_1173.2.2.2.2.2.2.2.2.2.1
theorem dL_law_1188 : decode cL_law 1188 = .ok (.iaload, 1) := dG49_dL_law_1173.2.2.2.2.2.2.2.2.2.2.1
theorem dL_law_1189 : decode cL_law 1189 = .ok (.aload_n 0, 1) := dG49_dL_law_1173.2.2.2.2.2.2.2.2.2.2.2.1
theorem dL_law_1190 : decode cL_law 1190 = .ok (.iload_n 3, 1) := dG49_dL_law_1173.2.2.2.2.2.2.2.2.2.2.2.2.1
theorem dL_law_1191 : decode cL_law 1191 = .ok (.iconst 2, 1) := dG49_dL_law_1173.2.2.2.2.2.2.2.2.2.2.2.2.2.1
theorem dL_law_1192 : decode cL_law 1192 = .ok (.iadd, 1) := dG49_dL_law_1173.2.2.2.2.2.2.2.2.2.2.2.2.2.2.1
theorem dL_law_1193 : decode cL_law 1193 = .ok (.iaload, 1) := dG49_dL_law_1173.2.2.2.2.2.2.2.2.2.2.2.2.2.2.2
theorem dG50_dL_law_1194 : (decode cL_law 1194 = .ok (.aload_n 0, 1)) ∧ (decode cL_law 1195 = .ok (.iload_n 3, 1)) ∧ (decode cL_law 1196 = .ok (.iconst 3, 1)) ∧ (decode cL_law 1197 = .ok (.iadd, 1)) ∧ (decode cL_law 1198 = .ok (.iaload, 1)) ∧ (decode cL_law 1202 = .ok (.pop, 1)) ∧ (decode cL_law 1203 = .ok (.aload_n 2, 1)) ∧ (decode cL_law 1204 = .ok (.aload_n 0, 1)) ∧ (decode cL_law 1205 = .ok (.iload_n 3, 1)) ∧ (decode cL_law 1206 = .ok (.iconst 1, 1)) ∧ (decode cL_law 1207 = .ok (.iadd, 1)) ∧ (decode cL_law 1208 = .ok (.iaload, 1)) ∧ (decode cL_law 1209 = .ok (.aload_n 0, 1)) ∧ (decode cL_law 1210 = .ok (.iload_n 3, 1)) ∧ (decode cL_law 1211 = .ok (.iconst 2, 1)) ∧ (decode cL_law 1212 = .ok (.iadd, 1)) := by decide +kernel
theorem dL_law_1194 : decode cL_law 1194 = .ok (.aload_n 0, 1) := dG50_dL_law_1194.1
theorem dL_law_1195 : decode cL_law 1195 = .ok (.iload_n 3, 1) := dG50_dL_law_1194.2.1
theorem dL_law_1196 : decode cL_law 1196 = .ok (.iconst 3, 1) := dG50_dL_law_1194.2.2.1
theorem dL_law_1197 : decode cL_law 1197 = .ok (.iadd, 1) := dG50_dL_law_1194.2.2.2.1
theorem dL_law_1198 : decode cL_law 1198 = .ok (.iaload, 1) := dG50_dL_law_1194.2.2.2.2.1
theorem dL_law_1202 : decode cL_law 1202 = .ok (.pop, 1) := dG50_dL_law_1194.2.2.2.2.2.1
theorem dL_law_1203 : decode cL_law 1203 = .ok (.aload_n 2, 1) := dG50_dL_law_1194.2.2.2.2.2.2.1
theorem dL_law_1204 : decode cL_law 1204 = .ok (.aload_n 0, 1) := dG50_dL_law_1194.2.2.2.2.2.2.2.1
theorem dL_law_1205 : decode cL_law 1205 = .ok (.iload_n 3, 1) := dG50_dL_law_1194.2.2.2.2.2.2.2.2.1
theorem dL_law_1206 : decode cL_law 1206 = .ok (.iconst 1, 1) := dG50_dL_law_1194.2.2.2.2.2.2.2.2.2.1
theorem dL_law_1207 : decode cL_law 1207 = .ok (.iadd, 1) := dG50_dL_law_1194.2.2.2.2.2.2.2.2.2.2.1
theorem dL_law_1208 : decode cL_law 1208 = .ok (.iaload, 1) := dG50_dL_law_1194.2.2.2.2.2.2.2.2.2.2.2.1
theorem dL_law_1209 : decode cL_law 1209 = .ok (.aload_n 0, 1) := dG50_dL_law_1194.2.2.2.2.2.2.2.2.2.2.2.2.1
theorem dL_law_1210 : decode cL_law 1210 = .ok (.iload_n 3, 1) := dG50_dL_law_1194.2.2.2.2.2.2.2.2.2.2.2.2.2.1
theorem dL_law_1211 : decode cL_law 1211 = .ok (.iconst 2, 1) := dG50_dL_law_1194.2.2.2.2.2.2.2.2.2.2.2.2.2.2.1
theorem dL_law_1212 : decode cL_law 1212 = .ok (.iadd, 1) := dG50_dL_law_1194.2.2.2.2.2.2.2.2.2.2.2.2.2.2.2
theorem dG51_dL_law_1213 : (decode cL_law 1213 = .ok (.iaload, 1)) ∧ (decode cL_law 1214 = .ok (.aload_n 0, 1)) ∧ (decode cL_law 1215 = .ok (.iload_n 3, 1)) ∧ (decode cL_law 1216 = .ok (.iconst 3, 1)) ∧ (decode cL_law 1217 = .ok (.iadd, 1)) ∧ (decode cL_law 1218 = .ok (.iaload, 1)) ∧ (decode cL_law 1222 = .ok (.pop, 1)) ∧ (decode cL_law 1223 = .ok (.goto 472, 3)) ∧ (decode cL_law 1226 = .ok (.aload_n 1, 1)) ∧ (decode cL_law 1227 = .ok (.aload_n 0, 1)) ∧ (decode cL_law 1228 = .ok (.iload_n 3, 1)) ∧ (decode cL_law 1229 = .ok (.iconst 1, 1)) ∧ (decode cL_law 1230 = .ok (.iadd, 1)) ∧ (decode cL_law 1231 = .ok (.iaload, 1)) ∧ (decode cL_law 1235 = .ok (.pop, 1)) ∧ (decode cL_law 1236 = .ok (.aload_n 2, 1)) := by decide +kernel
theorem dL_law_1213 : decode cL_law 1213 = .ok (.iaload, 1) := dG51_dL_law_1213.1
theorem dL_law_1214 : decode cL_law 1214 = .ok (.aload_n 0, 1) := dG51_dL_law_1213.2.1
theorem dL_law_1215 : decode cL_law 1215 = .ok (.iload_n 3, 1) := dG51_dL_law_1213.2.2.1
theorem dL_law_1216 : decode cL_law 1216 = .ok (.iconst 3, 1) := dG51_dL_law_1213.2.2.2.1
theorem dL_law_1217 : decode cL_law 1217 = .ok (.iadd, 1) := dG51_dL_law_1213.2.2.2.2.1
theorem dL_law_1218 : decode cL_law 1218 = .ok (.iaload, 1) := dG51_dL_law_1213.2.2.2.2.2.1
theorem dL_law_1222 : decode cL_law 1222 = .ok (.pop, 1) := dG51_dL_law_1213.2.2.2.2.2.2.1
theorem dL_law_1223 : decode cL_law 1223 = .ok (.goto 472, 3) := dG51_dL_law_1213.2.2.2.2.2.2.2.1
theorem dL_law_1226 : decode cL_law 1226 = .ok (.aload_n 1, 1) := dG51_dL_law_1213.2.2.2.2.2.2.2.2.1
theorem dL_law_1227 : decode cL_law 1227 = .ok (.aload_n 0, 1) := dG51_dL_law_1213.2.2.2.2.2.2.2.2.2.1
theorem dL_law_1228 : decode cL_law 1228 = .ok (.iload_n 3, 1) := dG51_dL_law_1213.2.2.2.2.2.2.2.2.2.2.1
theorem dL_law_1229 : decode cL_law 1229 = .ok (.iconst 1, 1) := dG51_dL_law_1213.2.2.2.2.2.2.2.2.2.2.2.1
theorem dL_law_1230 : decode cL_law 1230 = .ok (.iadd, 1) := dG51_dL_law_1213.2.2.2.2.2.2.2.2.2.2.2.2.1
theorem dL_law_1231 : decode cL_law 1231 = .ok (.iaload, 1) := dG51_dL_law_1213.2.2.2.2.2.2.2.2.2.2.2.2.2.1
theorem dL_law_1235 : decode cL_law 1235 = .ok (.pop, 1) := dG51_dL_law_1213.2.2.2.2.2.2.2.2.2.2.2.2.2.2.1
theorem dL_law_1236 : decode cL_law 1236 = .ok (.aload_n 2, 1) := dG51_dL_law_1213.2.2.2.2.2.2.2.2.2.2.2.2.2.2.2
theorem dG52_dL_law_1237 : (decode cL_law 1237 = .ok (.aload_n 0, 1)) ∧ (decode cL_law 1238 = .ok (.iload_n 3, 1)) ∧ (decode cL_law 1239 = .ok (.iconst 1, 1)) ∧ (decode cL_law 1240 = .ok (.iadd, 1)) ∧ (decode cL_law 1241 = .ok (.iaload, 1)) ∧ (decode cL_law 1245 = .ok (.pop, 1)) ∧ (decode cL_law 1246 = .ok (.goto 449, 3)) ∧ (decode cL_law 1249 = .ok (.aload_n 1, 1)) ∧ (decode cL_law 1250 = .ok (.aload_n 0, 1)) ∧ (decode cL_law 1251 = .ok (.iload_n 3, 1)) ∧ (decode cL_law 1252 = .ok (.iconst 1, 1)) ∧ (decode cL_law 1253 = .ok (.iadd, 1)) ∧ (decode cL_law 1254 = .ok (.iaload, 1)) ∧ (decode cL_law 1255 = .ok (.aload_n 0, 1)) ∧ (decode cL_law 1256 = .ok (.iload_n 3, 1)) ∧ (decode cL_law 1257 = .ok (.iconst 2, 1)) := by decide +kernel
theorem dL_law_1237 : decode cL_law 1237 = .ok (.aload_n 0, 1) := dG52_dL_law_1237.1
theorem dL_law_1238 : decode cL_law 1238 = .ok (.iload_n 3, 1) := dG52_dL_law_1237.2.1
theorem dL_law_1239 : decode cL_law 1239 = .ok (.iconst 1, 1) := dG52_dL_law_1237.2.2.1
theorem dL_law_1240 : decode cL_law 1240 = .ok (.iadd, 1) := dG52_dL_law_1237.2.2.2.1
theorem dL_law_1241 : decode cL_law 1241 = .ok (.iaload, 1) := dG52_dL_law_1237.2.2.2.2.1
theorem dL_law_1245 : decode cL_law 1245 = .ok (.pop, 1) := dG52_dL_law_1237.2.2.2.2.2.1
theorem dL_law_1246 : decode cL_law 1246 = .ok (.goto 449, 3) := dG52_dL_law_1237.2.2.2.2.2.2.1
theorem dL_law_1249 : decode cL_law 1249 = .ok (.aload_n 1, 1) := dG52_dL_law_1237.2.2.2.2.2.2.2.1
theorem dL_law_1250 : decode cL_law 1250 = .ok (.aload_n 0, 1) := dG52_dL_law_1237.2.2.2.2.2.2.2.2.1
theorem dL_law_1251 : decode cL_law 1251 = .ok (.iload_n 3, 1) := dG52_dL_law_1237.2.2.2.2.2.2.2.2.2.1
theorem dL_law_1252 : decode cL_law 1252 = .ok (.iconst 1, 1) := dG52_dL_law_1237.2.2.2.2.2.2.2.2.2.2.1
theorem dL_law_1253 : decode cL_law 1253 = .ok (.iadd, 1) := dG52_dL_law_1237.2.2.2.2.2.2.2.2.2.2.2.1
theorem dL_law_1254 : decode cL_law 1254 = .ok (.iaload, 1) := dG52_dL_law_1237.2.2.2.2.2.2.2.2.2.2.2.2.1
theorem dL_law_1255 : decode cL_law 1255 = .ok (.aload_n 0, 1) := dG52_dL_law_1237.2.2.2.2.2.2.2.2.2.2.2.2.2.1
theorem dL_law_1256 : decode cL_law 1256 = .ok (.iload_n 3, 1) := dG52_dL_law_1237.2.2.2.2.2.2.2.2.2.2.2.2.2.2.1
theorem dL_law_1257 : decode cL_law 1257 = .ok (.iconst 2, 1) := dG52_dL_law_1237.2.2.2.2.2.2.2.2.2.2.2.2.2.2.2
theorem dG53_dL_law_1258 : (decode cL_law 1258 = .ok (.iadd, 1)) ∧ (decode cL_law 1259 = .ok (.iaload, 1)) ∧ (decode cL_law 1260 = .ok (.aload_n 0, 1)) ∧ (decode cL_law 1261 = .ok (.iload_n 3, 1)) ∧ (decode cL_law 1262 = .ok (.iconst 3, 1)) ∧ (decode cL_law 1263 = .ok (.iadd, 1)) ∧ (decode cL_law 1264 = .ok (.iaload, 1)) ∧ (decode cL_law 1268 = .ok (.pop2, 1)) ∧ (decode cL_law 1269 = .ok (.aload_n 2, 1)) ∧ (decode cL_law 1270 = .ok (.aload_n 0, 1)) ∧ (decode cL_law 1271 = .ok (.iload_n 3, 1)) ∧ (decode cL_law 1272 = .ok (.iconst 1, 1)) ∧ (decode cL_law 1273 = .ok (.iadd, 1)) ∧ (decode cL_law 1274 = .ok (.iaload, 1)) ∧ (decode cL_law 1275 = .ok (.aload_n 0, 1)) ∧ (decode cL_law 1276 = .ok (.iload_n 3, 1)) := by decide +kernel
theorem dL_law_1258 : decode cL_law 1258 = .ok (.iadd, 1) := dG53_dL_law_1258.1
theorem dL_law_1259 : decode cL_law 1259 = .ok (.iaload, 1) := dG53_dL_law_1258.2.1
theorem dL_law_1260 : decode cL_law 1260 = .ok (.aload_n 0, 1) := dG53_dL_law_1258.2.2.1
theorem dL_law_1261 : decode cL_law 1261 = .ok (.iload_n 3, 1) := dG53_dL_law_1258.2.2.2.1
theorem dL_law_1262 : decode cL_law 1262 = .ok (.iconst 3, 1) := dG53_dL_law_1258.2.2.2.2.1
theorem dL_law_1263 : decode cL_law 1263 = .ok (.iadd, 1) := dG53_dL_law_1258.2.2.2.2.2.1
theorem dL_law_1264 : decode cL_law 1264 = .ok (.iaload, 1) := dG53_dL_law_1258.2.2.2.2.2.2.1
theorem dL_law_1268 : decode cL_law 1268 = .ok (.pop2, 1) := dG53_dL_law_1258.2.2.2.2.2.2.2.1
theorem dL_law_1269 : decode cL_law 1269 = .ok (.aload_n 2, 1) := dG53_dL_law_1258.2.2.2.2.2.2.2.2.1
theorem dL_law_1270 : decode cL_law 1270 = .ok (.aload_n 0, 1) := dG53_dL_law_1258.2.2.2.2.2.2.2.2.2.1
theorem dL_law_1271 : decode cL_law 1271 = .ok (.iload_n 3, 1) := dG53_dL_law_1258.2.2.2.2.2.2.2.2.2.2.1
theorem dL_law_1272 : decode cL_law 1272 = .ok (.iconst 1, 1) := dG53_dL_law_1258.2.2.2.2.2.2.2.2.2.2.2.1
theorem dL_law_1273 : decode cL_law 1273 = .ok (.iadd, 1) := dG53_dL_law_1258.2.2.2.2.2.2.2.2.2.2.2.2.1
theorem dL_law_1274 : decode cL_law 1274 = .ok (.iaload, 1) := dG53_dL_law_1258.2.2.2.2.2.2.2.2.2.2.2.2.2.1
theorem dL_law_1275 : decode cL_law 1275 = .ok (.aload_n 0, 1) := dG53_dL_law_1258.2.2.2.2.2.2.2.2.2.2.2.2.2.2.1
theorem dL_law_1276 : decode cL_law 1276 = .ok (.iload_n 3, 1) := dG53_dL_law_1258.2.2.2.2.2.2.2.2.2.2.2.2.2.2.2
theorem dG54_dL_law_1277 : (decode cL_law 1277 = .ok (.iconst 2, 1)) ∧ (decode cL_law 1278 = .ok (.iadd, 1)) ∧ (decode cL_law 1279 = .ok (.iaload, 1)) ∧ (decode cL_law 1280 = .ok (.aload_n 0, 1)) ∧ (decode cL_law 1281 = .ok (.iload_n 3, 1)) ∧ (decode cL_law 1282 = .ok (.iconst 3, 1)) ∧ (decode cL_law 1283 = .ok (.iadd, 1)) ∧ (decode cL_law 1284 = .ok (.iaload, 1)) ∧ (decode cL_law 1288 = .ok (.pop2, 1)) ∧ (decode cL_law 1289 = .ok (.goto 406, 3)) ∧ (decode cL_law 1292 = .ok (.aload_n 1, 1)) ∧ (decode cL_law 1293 = .ok (.aload_n 0, 1)) ∧ (decode cL_law 1294 = .ok (.iload_n 3, 1)) ∧ (decode cL_law 1295 = .ok (.iconst 1, 1)) ∧ (decode cL_law 1296 = .ok (.iadd, 1)) ∧ (decode cL_law 1297 = .ok (.iaload, 1)) := by decide +kernel
theorem dL_law_1277 : decode cL_law 1277 = .ok (.iconst 2, 1) := dG54_dL_law_1277.1
theorem dL_law_1278 : decode cL_law 1278 = .ok (.iadd, 1) := dG54_dL_law_1277.2.1
theorem dL_law_1279 : decode cL_law 1279 = .ok (.iaload, 1) := dG54_dL_law_1277.2.2.1
theorem dL_law_1280 : decode cL_law 1280 = .ok (.aload_n 0, 1) := dG54_dL_law_1277.2.2.2.1
theorem dL_law_1281 : decode cL_law 1281 = .ok (.iload_n 3, 1) := dG54_dL_law_1277.2.2.2.2.1
theorem dL_law_1282 : decode cL_law 1282 = .ok (.iconst 3, 1) := dG54_dL_law_1277.2.2.2.2.2.1
theorem dL_law_1283 : decode cL_law 1283 = .ok (.iadd, 1) := dG54_dL_law_1277.2.2.2.2.2.2.1
theorem dL_law_1284 : decode cL_law 1284 = .ok (.iaload, 1) := dG54_dL_law_1277.2.2.2.2.2.2.2.1
theorem dL_law_1288 : decode cL_law 1288 = .ok (.pop2, 1) := dG54_dL_law_1277.2.2.2.2.2.2.2.2.1
theorem dL_law_1289 : decode cL_law 1289 = .ok (.goto 406, 3) := dG54_dL_law_1277.2.2.2.2.2.2.2.2.2.1
theorem dL_law_1292 : decode cL_law 1292 = .ok (.aload_n 1, 1) := dG54_dL_law_1277.2.2.2.2.2.2.2.2.2.2.1
theorem dL_law_1293 : decode cL_law 1293 = .ok (.aload_n 0, 1) := dG54_dL_law_1277.2.2.2.2.2.2.2.2.2.2.2.1
theorem dL_law_1294 : decode cL_law 1294 = .ok (.iload_n 3, 1) := dG54_dL_law_1277.2.2.2.2.2.2.2.2.2.2.2.2.1
theorem dL_law_1295 : decode cL_law 1295 = .ok (.iconst 1, 1) := dG54_dL_law_1277.2.2.2.2.2.2.2.2.2.2.2.2.2.1
theorem dL_law_1296 : decode cL_law 1296 = .ok (.iadd, 1) := dG54_dL_law_1277.2.2.2.2.2.2.2.2.2.2.2.2.2.2.1
theorem dL_law_1297 : decode cL_law 1297 = .ok (.iaload, 1) := dG54_dL_law_1277.2.2.2.2.2.2.2.2.2.2.2.2.2.2.2
theorem dG55_dL_law_1298 : (decode cL_law 1298 = .ok (.aload_n 0, 1)) ∧ (decode cL_law 1299 = .ok (.iload_n 3, 1)) ∧ (decode cL_law 1300 = .ok (.iconst 2, 1)) ∧ (decode cL_law 1301 = .ok (.iadd, 1)) ∧ (decode cL_law 1302 = .ok (.iaload, 1)) ∧ (decode cL_law 1303 = .ok (.aload_n 0, 1)) ∧ (decode cL_law 1304 = .ok (.iload_n 3, 1)) ∧ (decode cL_law 1305 = .ok (.iconst 3, 1)) ∧ (decode cL_law 1306 = .ok (.iadd, 1)) ∧ (decode cL_law 1307 = .ok (.iaload, 1)) ∧ (decode cL_law 1311 = .ok (.pop, 1)) ∧ (decode cL_law 1312 = .ok (.aload_n 2, 1)) ∧ (decode cL_law 1313 = .ok (.aload_n 0, 1)) ∧ (decode cL_law 1314 = .ok (.iload_n 3, 1)) ∧ (decode cL_law 1315 = .ok (.iconst 1, 1)) ∧ (decode cL_law 1316 = .ok (.iadd, 1)) := by decide +kernel
theorem dL_law_1298 : decode cL_law 1298 = .ok (.aload_n 0, 1) := dG55_dL_law_1298.1
theorem dL_law_1299 : decode cL_law 1299 = .ok (.iload_n 3, 1) := dG55_dL_law_1298.2.1
theorem dL_law_1300 : decode cL_law 1300 = .ok (.iconst 2, 1) := dG55_dL_law_1298.2.2.1
theorem dL_law_1301 : decode cL_law 1301 = .ok (.iadd, 1) := dG55_dL_law_1298.2.2.2.1
theorem dL_law_1302 : decode cL_law 1302 = .ok (.iaload, 1) := dG55_dL_law_1298.2.2.2.2.1
theorem dL_law_1303 : decode cL_law 1303 = .ok (.aload_n 0, 1) := dG55_dL_law_1298.2.2.2.2.2.1
theorem dL_law_1304 : decode cL_law 1304 = .ok (.iload_n 3, 1) := dG55_dL_law_1298.2.2.2.2.2.2.1
theorem dL_law_1305 : decode cL_law 1305 = .ok (.iconst 3, 1) := dG55_dL_law_1298.2.2.2.2.2.2.2.1
theorem dL_law_1306 : decode cL_law 1306 = .ok (.iadd, 1) := dG55_dL_law_1298.2.2.2.2.2.2.2.2.1
theorem dL_law_1307 : decode cL_law 1307 = .ok (.iaload, 1) := dG55_dL_law_1298.2.2.2.2.2.2.2.2.2.1
theorem dL_law_1311 : decode cL_law 1311 = .ok (.pop, 1) := dG55_dL_law_1298.2.2.2.2.2.2.2.2.2.2.1
theorem dL_law_1312 : decode cL_law 1312 = .ok (.aload_n 2, 1) := dG55_dL_law_1298.2.2.2.2.2.2.2.2.2.2.2.1
theorem dL_law_1313 : decode cL_law 1313 = .ok (.aload_n 0, 1) := dG55_dL_law_1298.2.2.2.2.2.2.2.2.2.2.2.2.1
theorem dL_law_1314 : decode cL_law 1314 = .ok (.iload_n 3, 1) := dG55_dL_law_1298.2.2.2.2.2.2.2.2.2.2.2.2.2.1
theorem dL_law_1315 : decode cL_law 1315 = .ok (.iconst 1, 1) := dG55_dL_law_1298.2.2.2.2.2.2.2.2.2.2.2.2.2.2.1
theorem dL_law_1316 : decode cL_law 1316 = .ok (.iadd, 1) := dG55_dL_law_1298.2.2.2.2.2.2.2.2.2.2.2.2.2.2.2
theorem dG56_dL_law_1317 : (decode cL_law 1317 = .ok (.iaload, 1)) ∧ (decode cL_law 1318 = .ok (.aload_n 0, 1)) ∧ (decode cL_law 1319 = .ok (.iload_n 3, 1)) ∧ (decode cL_law 1320 = .ok (.iconst 2, 1)) ∧ (decode cL_law 1321 = .ok (.iadd, 1)) ∧ (decode cL_law 1322 = .ok (.iaload, 1)) ∧ (decode cL_law 1323 = .ok (.aload_n 0, 1)) ∧ (decode cL_law 1324 = .ok (.iload_n 3, 1)) ∧ (decode cL_law 1325 = .ok (.iconst 3, 1)) ∧ (decode cL_law 1326 = .ok (.iadd, 1)) ∧ (decode cL_law 1327 = .ok (.iaload, 1)) ∧ (decode cL_law 1331 = .ok (.pop, 1)) ∧ (decode cL_law 1332 = .ok (.goto 363, 3)) ∧ (decode cL_law 1335 = .ok (.aload_n 1, 1)) ∧ (decode cL_law 1336 = .ok (.aload_n 0, 1)) ∧ (decode cL_law 1337 = .ok (.iload_n 3, 1)) := by decide +kernel
theorem dL_law_1317 : decode cL_law 1317 = .ok (.iaload, 1) := dG56_dL_law_1317.1
theorem dL_law_1318 : decode cL_law 1318 = .ok (.aload_n 0, 1) := dG56_dL_law_1317.2.1
theorem dL_law_1319 : decode cL_law 1319 = .ok (.iload_n 3, 1) := dG56_dL_law_1317.2.2.1
theorem dL_law_1320 : decode cL_law 1320 = .ok (.iconst 2, 1) := dG56_dL_law_1317.2.2.2.1
theorem dL_law_1321 : decode cL_law 1321 = .ok (.iadd, 1) := dG56_dL_law_1317.2.2.2.2.1
theorem dL_law_1322 : decode cL_law 1322 = .ok (.iaload, 1) := dG56_dL_law_1317.2.2.2.2.2.1
theorem dL_law_1323 : decode cL_law 1323 = .ok (.aload_n 0, 1) := dG56_dL_law_1317.2.2.2.2.2.2.1
theorem dL_law_1324 : decode cL_law 1324 = .ok (.iload_n 3, 1) := dG56_dL_law_1317.2.2.2.2.2.2.2.1
theorem dL_law_1325 : decode cL_law 1325 = .ok (.iconst 3, 1) := dG56_dL_law_1317.2.2.2.2.2.2.2.2.1
theorem dL_law_1326 : decode cL_law 1326 = .ok (.iadd, 1) := dG56_dL_law_1317.2.2.2.2.2.2.2.2.2.1
theorem dL_law_1327 : decode cL_law 1327 = .ok (.iaload, 1) := dG56_dL_law_1317.2.2.2.2.2.2.2.2.2.2.1
theorem dL_law_1331 : decode cL_law 1331 = .ok (.pop, 1) := dG56_dL_law_1317.2.2.2.2.2.2.2.2.2.2.2.1
theorem dL_law_1332 : decode cL_law 1332 = .ok (.goto 363, 3) := dG56_dL_law_1317.2.2.2.2.2.2.2.2.2.2.2.2.1
theorem dL_law_1335 : decode cL_law 1335 = .ok (.aload_n 1, 1) := dG56_dL_law_1317.2.2.2.2.2.2.2.2.2.2.2.2.2.1
theorem dL_law_1336 : decode cL_law 1336 = .ok (.aload_n 0, 1) := dG56_dL_law_1317.2.2.2.2.2.2.2.2.2.2.2.2.2.2.1
theorem dL_law_1337 : decode cL_law 1337 = .ok (.iload_n 3, 1) := dG56_dL_law_1317.2.2.2.2.2.2.2.2.2.2.2.2.2.2.2
theorem dG57_dL_law_1338 : (decode cL_law 1338 = .ok (.iconst 1, 1)) ∧ (decode cL_law 1339 = .ok (.iadd, 1)) ∧ (decode cL_law 1340 = .ok (.iaload, 1)) ∧ (decode cL_law 1341 = .ok (.aload_n 0, 1)) ∧ (decode cL_law 1342 = .ok (.iload_n 3, 1)) ∧ (decode cL_law 1343 = .ok (.iconst 2, 1)) ∧ (decode cL_law 1344 = .ok (.iadd, 1)) ∧ (decode cL_law 1345 = .ok (.iaload, 1)) ∧ (decode cL_law 1346 = .ok (.aload_n 0, 1)) ∧ (decode cL_law 1347 = .ok (.iload_n 3, 1)) ∧ (decode cL_law 1348 = .ok (.iconst 3, 1)) ∧ (decode cL_law 1349 = .ok (.iadd, 1)) ∧ (decode cL_law 1350 = .ok (.iaload, 1)) ∧ (decode cL_law 1354 = .ok (.pop, 1)) ∧ (decode cL_law 1355 = .ok (.aload_n 2, 1)) ∧ (decode cL_law 1356 = .ok (.aload_n 0, 1)) := by decide +kernel
theorem dL_law_1338 : decode cL_law 1338 = .ok (.iconst 1, 1) := dG57_dL_law_1338.1
theorem dL_law_1339 : decode cL_law 1339 = .ok (.iadd, 1) := dG57_dL_law_1338.2.1
theorem dL_law_1340 : decode cL_law 1340 = .ok (.iaload, 1) := dG57_dL_law_1338.2.2.1
theorem dL_law_1341 : decode cL_law 1341 = .ok (.aload_n 0, 1) := dG57_dL_law_1338.2.2.2.1
theorem dL_law_1342 : decode cL_law 1342 = .ok (.iload_n 3, 1) := dG57_dL_law_1338.2.2.2.2.1
theorem dL_law_1343 : decode cL_law 1343 = .ok (.iconst 2, 1) := dG57_dL_law_1338.2.2.2.2.2.1
theorem dL_law_1344 : decode cL_law 1344 = .ok (.iadd, 1) := dG57_dL_law_1338.2.2.2.2.2.2.1
theorem dL_law_1345 : decode cL_law 1345 = .ok (.iaload, 1) := dG57_dL_law_1338.2.2.2.2.2.2.2.1
theorem dL_law_1346 : decode cL_law 1346 = .ok (.aload_n 0, 1) := dG57_dL_law_1338.2.2.2.2.2.2.2.2.1
theorem dL_law_1347 : decode cL_law 1347 = .ok (.iload_n 3, 1) := dG57_dL_law_1338.2.2.2.2.2.2.2.2.2.1
theorem dL_law_1348 : decode cL_law 1348 = .ok (.iconst 3, 1) := dG57_dL_law_1338.2.2.2.2.2.2.2.2.2.2.1
theorem dL_law_1349 : decode cL_law 1349 = .ok (.iadd, 1) := dG57_dL_law_1338.2.2.2.2.2.2.2.2.2.2.2.1
theorem dL_law_1350 : decode cL_law 1350 = .ok (.iaload, 1) := dG57_dL_law_1338.2.2.2.2.2.2.2.2.2.2.2.2.1
theorem dL_law_1354 : decode cL_law 1354 = .ok (.pop, 1) := dG57_dL_law_1338.2.2.2.2.2.2.2.2.2.2.2.2.2.1
theorem dL_law_1355 : decode cL_law 1355 = .ok (.aload_n 2, 1) := dG57_dL_law_1338.2.2.2.2.2.2.2.2.2.2.2.2.2.2.1
theorem dL_law_1356 : decode cL_law 1356 = .ok (.aload_n 0, 1) := dG57_dL_law_1338.2.2.2.2.2.2.2.2.2.2.2.2.2.2.2
theorem dG58_dL_law_1357 : (decode cL_law 1357 = .ok (.iload_n 3, 1)) ∧ (decode cL_law 1358 = .ok (.iconst 1, 1)) ∧ (decode cL_law 1359 = .ok (.iadd, 1)) ∧ (decode cL_law 1360 = .ok (.iaload, 1)) ∧ (decode cL_law 1361 = .ok (.aload_n 0, 1)) ∧ (decode cL_law 1362 = .ok (.iload_n 3, 1)) ∧ (decode cL_law 1363 = .ok (.iconst 2, 1)) ∧ (decode cL_law 1364 = .ok (.iadd, 1)) ∧ (decode cL_law 1365 = .ok (.iaload, 1)) ∧ (decode cL_law 1366 = .ok (.aload_n 0, 1)) ∧ (decode cL_law 1367 = .ok (.iload_n 3, 1)) ∧ (decode cL_law 1368 = .ok (.iconst 3, 1)) ∧ (decode cL_law 1369 = .ok (.iadd, 1)) ∧ (decode cL_law 1370 = .ok (.iaload, 1)) ∧ (decode cL_law 1374 = .ok (.pop, 1)) ∧ (decode cL_law 1375 = .ok (.goto 320, 3)) := by decide +kernel
theorem dL_law_1357 : decode cL_law 1357 = .ok (.iload_n 3, 1) := dG58_dL_law_1357.1
theorem dL_law_1358 : decode cL_law 1358 = .ok (.iconst 1, 1) := dG58_dL_law_1357.2.1
theorem dL_law_1359 : decode cL_law 1359 = .ok (.iadd, 1) := dG58_dL_law_1357.2.2.1
theorem dL_law_1360 : decode cL_law 1360 = .ok (.iaload, 1) := dG58_dL_law_1357.2.2.2.1
theorem dL_law_1361 : decode cL_law 1361 = .ok (.aload_n 0, 1) := dG58_dL_law_1357.2.2.2.2.1
theorem dL_law_1362 : decode cL_law 1362 = .ok (.iload_n 3, 1) := dG58_dL_law_1357.2.2.2.2.2.1
theorem dL_law_1363 : decode cL_law 1363 = .ok (.iconst 2, 1) := dG58_dL_law_1357.2.2.2.2.2.2.1
theorem dL_law_1364 : decode cL_law 1364 = .ok (.iadd, 1) := dG58_dL_law_1357.2.2.2.2.2.2.2.1
theorem dL_law_1365 : decode cL_law 1365 = .ok (.iaload, 1) := dG58_dL_law_1357.2.2.2.2.2.2.2.2.1
theorem dL_law_1366 : decode cL_law 1366 = .ok (.aload_n 0, 1) := dG58_dL_law_1357.2.2.2.2.2.2.2.2.2.1
theorem dL_law_1367 : decode cL_law 1367 = .ok (.iload_n 3, 1) := dG58_dL_law_1357.2.2.2.2.2.2.2.2.2.2.1
theorem dL_law_1368 : decode cL_law 1368 = .ok (.iconst 3, 1) := dG58_dL_law_1357.2.2.2.2.2.2.2.2.2.2.2.1
theorem dL_law_1369 : decode cL_law 1369 = .ok (.iadd, 1) := dG58_dL_law_1357.2.2.2.2.2.2.2.2.2.2.2.2.1
theorem dL_law_1370 : decode cL_law 1370 = .ok (.iaload, 1) := dG58_dL_law_1357.2.2.2.2.2.2.2.2.2.2.2.2.2.1
theorem dL_law_1374 : decode cL_law 1374 = .ok (.pop, 1) := dG58_dL_law_1357.2.2.2.2.2.2.2.2.2.2.2.2.2.2.1
theorem dL_law_1375 : decode cL_law 1375 = .ok (.goto 320, 3) := dG58_dL_law_1357.2.2.2.2.2.2.2.2.2.2.2.2.2.2.2
theorem dG59_dL_law_1378 : (decode cL_law 1378 = .ok (.aload_n 1, 1)) ∧ (decode cL_law 1379 = .ok (.aload_n 0, 1)) ∧ (decode cL_law 1380 = .ok (.iload_n 3, 1)) ∧ (decode cL_law 1381 = .ok (.iconst 1, 1)) ∧ (decode cL_law 1382 = .ok (.iadd, 1)) ∧ (decode cL_law 1383 = .ok (.iaload, 1)) ∧ (decode cL_law 1384 = .ok (.aload_n 0, 1)) ∧ (decode cL_law 1385 = .ok (.iload_n 3, 1)) ∧ (decode cL_law 1386 = .ok (.iconst 2, 1)) ∧ (decode cL_law 1387 = .ok (.iadd, 1)) ∧ (decode cL_law 1388 = .ok (.iaload, 1)) ∧ (decode cL_law 1389 = .ok (.aload_n 0, 1)) ∧ (decode cL_law 1390 = .ok (.iload_n 3, 1)) ∧ (decode cL_law 1391 = .ok (.iconst 3, 1)) ∧ (decode cL_law 1392 = .ok (.iadd, 1)) ∧ (decode cL_law 1393 = .ok (.iaload, 1)) := by decide +kernel
theorem dL_law_1378 : decode cL_law 1378 = .ok (.aload_n 1, 1) := dG59_dL_law_1378.1
theorem dL_law_1379 : decode cL_law 1379 = .ok (.aload_n 0, 1) := dG59_dL_law_1378.2.1
theorem dL_law_1380 : decode cL_law 1380 = .ok (.iload_n 3, 1) := dG59_dL_law_1378.2.2.1
theorem dL_law_1381 : decode cL_law 1381 = .ok (.iconst 1, 1) := dG59_dL_law_1378.2.2.2.1
theorem dL_law_1382 : decode cL_law 1382 = .ok (.iadd, 1) := dG59_dL_law_1378.2.2.2.2.1
theorem dL_law_1383 : decode cL_law 1383 = .ok (.iaload, 1) := dG59_dL_law_1378.2.2.2.2.2.1
theorem dL_law_1384 : decode cL_law 1384 = .ok (.aload_n 0, 1) := dG59_dL_law_1378.2.2.2.2.2.2.1
theorem dL_law_1385 : decode cL_law 1385 = .ok (.iload_n 3, 1) := dG59_dL_law_1378.2.2.2.2.2.2.2.1
theorem dL_law_1386 : decode cL_law 1386 = .ok (.iconst 2, 1) := dG59_dL_law_1378.2.2.2.2.2.2.2.2.1
theorem dL_law_1387 : decode cL_law 1387 = .ok (.iadd, 1) := dG59_dL_law_1378.2.2.2.2.2.2.2.2.2.1
theorem dL_law_1388 : decode cL_law 1388 = .ok (.iaload, 1) := dG59_dL_law_1378.2.2.2.2.2.2.2.2.2.2.1
theorem dL_law_1389 : decode cL_law 1389 = .ok (.aload_n 0, 1) := dG59_dL_law_1378.2.2.2.2.2.2.2.2.2.2.2.1
theorem dL_law_1390 : decode cL_law 1390 = .ok (.iload_n 3, 1) := dG59_dL_law_1378.2.2.2.2.2.2.2.2.2.2.2.2.1
theorem dL_law_1391 : decode cL_law 1391 = .ok (.iconst 3, 1) := dG59_dL_law_1378.2.2.2.2.2.2.2.2.2.2.2.2.2.1
theorem dL_law_1392 : decode cL_law 1392 = .ok (.iadd, 1) := dG59_dL_law_1378.2.2.2.2.2.2.2.2.2.2.2.2.2.2.1
theorem dL_law_1393 : decode cL_law 1393 = .ok (.iaload, 1) := dG59_dL_law_1378.2.2.2.2.2.2.2.2.2.2.2.2.2.2.2
theorem dG60_dL_law_1397 : (decode cL_law 1397 = .ok (.pop2, 1)) ∧ (decode cL_law 1398 = .ok (.aload_n 2, 1)) ∧ (decode cL_law 1399 = .ok (.aload_n 0, 1)) ∧ (decode cL_law 1400 = .ok (.iload_n 3, 1)) ∧ (decode cL_law 1401 = .ok (.iconst 1, 1)) ∧ (decode cL_law 1402 = .ok (.iadd, 1)) ∧ (decode cL_law 1403 = .ok (.iaload, 1)) ∧ (decode cL_law 1404 = .ok (.aload_n 0, 1)) ∧ (decode cL_law 1405 = .ok (.iload_n 3, 1)) ∧ (decode cL_law 1406 = .ok (.iconst 2, 1)) ∧ (decode cL_law 1407 = .ok (.iadd, 1)) ∧ (decode cL_law 1408 = .ok (.iaload, 1)) ∧ (decode cL_law 1409 = .ok (.aload_n 0, 1)) ∧ (decode cL_law 1410 = .ok (.iload_n 3, 1)) ∧ (decode cL_law 1411 = .ok (.iconst 3, 1)) ∧ (decode cL_law 1412 = .ok (.iadd, 1)) := by decide +kernel
theorem dL_law_1397 : decode cL_law 1397 = .ok (.pop2, 1) := dG60_dL_law_1397.1
theorem dL_law_1398 : decode cL_law 1398 = .ok (.aload_n 2, 1) := dG60_dL_law_1397.2.1
theorem dL_law_1399 : decode cL_law 1399 = .ok (.aload_n 0, 1) := dG60_dL_law_1397.2.2.1
theorem dL_law_1400 : decode cL_law 1400 = .ok (.iload_n 3, 1) := dG60_dL_law_1397.2.2.2.1
theorem dL_law_1401 : decode cL_law 1401 = .ok (.iconst 1, 1) := dG60_dL_law_1397.2.2.2.2.1
theorem dL_law_1402 : decode cL_law 1402 = .ok (.iadd, 1) := dG60_dL_law_1397.2.2.2.2.2.1
theorem dL_law_1403 : decode cL_law 1403 = .ok (.iaload, 1) := dG60_dL_law_1397.2.2.2.2.2.2.1
theorem dL_law_1404 : decode cL_law 1404 = .ok (.aload_n 0, 1) := dG60_dL_law_1397.2.2.2.2.2.2.2.1
theorem dL_law_1405 : decode cL_law 1405 = .ok (.iload_n 3, 1) := dG60_dL_law_1397.2.2.2.2.2.2.2.2.1
theorem dL_law_1406 : decode cL_law 1406 = .ok (.iconst 2, 1) := dG60_dL_law_1397.2.2.2.2.2.2.2.2.2.1
theorem dL_law_1407 : decode cL_law 1407 = .ok (.iadd, 1) := dG60_dL_law_1397.2.2.2.2.2.2.2.2.2.2.1
theorem dL_law_1408 : decode cL_law 1408 = .ok (.iaload, 1) := dG60_dL_law_1397.2.2.2.2.2.2.2.2.2.2.2.1
theorem dL_law_1409 : decode cL_law 1409 = .ok (.aload_n 0, 1) := dG60_dL_law_1397.2.2.2.2.2.2.2.2.2.2.2.2.1
theorem dL_law_1410 : decode cL_law 1410 = .ok (.iload_n 3, 1) := dG60_dL_law_1397.2.2.2.2.2.2.2.2.2.2.2.2.2.1
theorem dL_law_1411 : decode cL_law 1411 = .ok (.iconst 3, 1) := dG60_dL_law_1397.2.2.2.2.2.2.2.2.2.2.2.2.2.2.1
theorem dL_law_1412 : decode cL_law 1412 = .ok (.iadd, 1) := dG60_dL_law_1397.2.2.2.2.2.2.2.2.2.2.2.2.2.2.2
theorem dG61_dL_law_1413 : (decode cL_law 1413 = .ok (.iaload, 1)) ∧ (decode cL_law 1417 = .ok (.pop2, 1)) ∧ (decode cL_law 1418 = .ok (.goto 277, 3)) ∧ (decode cL_law 1421 = .ok (.aload_n 1, 1)) ∧ (decode cL_law 1422 = .ok (.aload_n 0, 1)) ∧ (decode cL_law 1423 = .ok (.iload_n 3, 1)) ∧ (decode cL_law 1424 = .ok (.iconst 1, 1)) ∧ (decode cL_law 1425 = .ok (.iadd, 1)) ∧ (decode cL_law 1426 = .ok (.iaload, 1)) ∧ (decode cL_law 1427 = .ok (.aload_n 0, 1)) ∧ (decode cL_law 1428 = .ok (.iload_n 3, 1)) ∧ (decode cL_law 1429 = .ok (.iconst 2, 1)) ∧ (decode cL_law 1430 = .ok (.iadd, 1)) ∧ (decode cL_law 1431 = .ok (.iaload, 1)) ∧ (decode cL_law 1432 = .ok (.aload_n 0, 1)) ∧ (decode cL_law 1433 = .ok (.iload_n 3, 1)) := by decide +kernel
theorem dL_law_1413 : decode cL_law 1413 = .ok (.iaload, 1) := dG61_dL_law_1413.1
theorem dL_law_1417 : decode cL_law 1417 = .ok (.pop2, 1) := dG61_dL_law_1413.2.1
theorem dL_law_1418 : decode cL_law 1418 = .ok (.goto 277, 3) := dG61_dL_law_1413.2.2.1
theorem dL_law_1421 : decode cL_law 1421 = .ok (.aload_n 1, 1) := dG61_dL_law_1413.2.2.2.1
theorem dL_law_1422 : decode cL_law 1422 = .ok (.aload_n 0, 1) := dG61_dL_law_1413.2.2.2.2.1
theorem dL_law_1423 : decode cL_law 1423 = .ok (.iload_n 3, 1) := dG61_dL_law_1413.2.2.2.2.2.1
theorem dL_law_1424 : decode cL_law 1424 = .ok (.iconst 1, 1) := dG61_dL_law_1413.2.2.2.2.2.2.1
theorem dL_law_1425 : decode cL_law 1425 = .ok (.iadd, 1) := dG61_dL_law_1413.2.2.2.2.2.2.2.1
theorem dL_law_1426 : decode cL_law 1426 = .ok (.iaload, 1) := dG61_dL_law_1413.2.2.2.2.2.2.2.2.1
theorem dL_law_1427 : decode cL_law 1427 = .ok (.aload_n 0, 1) := dG61_dL_law_1413.2.2.2.2.2.2.2.2.2.1
theorem dL_law_1428 : decode cL_law 1428 = .ok (.iload_n 3, 1) := dG61_dL_law_1413.2.2.2.2.2.2.2.2.2.2.1
theorem dL_law_1429 : decode cL_law 1429 = .ok (.iconst 2, 1) := dG61_dL_law_1413.2.2.2.2.2.2.2.2.2.2.2.1
theorem dL_law_1430 : decode cL_law 1430 = .ok (.iadd, 1) := dG61_dL_law_1413.2.2.2.2.2.2.2.2.2.2.2.2.1
theorem dL_law_1431 : decode cL_law 1431 = .ok (.iaload, 1) := dG61_dL_law_1413.2.2.2.2.2.2.2.2.2.2.2.2.2.1
theorem dL_law_1432 : decode cL_law 1432 = .ok (.aload_n 0, 1) := dG61_dL_law_1413.2.2.2.2.2.2.2.2.2.2.2.2.2.2.1
theorem dL_law_1433 : decode cL_law 1433 = .ok (.iload_n 3, 1) := dG61_dL_law_1413.2.2.2.2.2.2.2.2.2.2.2.2.2.2.2
theorem dG62_dL_law_1434 : (decode cL_law 1434 = .ok (.iconst 3, 1)) ∧ (decode cL_law 1435 = .ok (.iadd, 1)) ∧ (decode cL_law 1436 = .ok (.iaload, 1)) ∧ (decode cL_law 1440 = .ok (.pop2, 1)) ∧ (decode cL_law 1441 = .ok (.aload_n 2, 1)) ∧ (decode cL_law 1442 = .ok (.aload_n 0, 1)) ∧ (decode cL_law 1443 = .ok (.iload_n 3, 1)) ∧ (decode cL_law 1444 = .ok (.iconst 1, 1)) ∧ (decode cL_law 1445 = .ok (.iadd, 1)) ∧ (decode cL_law 1446 = .ok (.iaload, 1)) ∧ (decode cL_law 1447 = .ok (.aload_n 0, 1)) ∧ (decode cL_law 1448 = .ok (.iload_n 3, 1)) ∧ (decode cL_law 1449 = .ok (.iconst 2, 1)) ∧ (decode cL_law 1450 = .ok (.iadd, 1)) ∧ (decode cL_law 1451 = .ok (.iaload, 1)) ∧ (decode cL_law 1452 = .ok (.aload_n 0, 1)) := by decide +kernel
theorem dL_law_1434 : decode cL_law 1434 = .ok (.iconst 3, 1) := dG62_dL_law_1434.1
theorem dL_law_1435 : decode cL_law 1435 = .ok (.iadd, 1) := dG62_dL_law_1434.2.1
theorem dL_law_1436 : decode cL_law 1436 = .ok (.iaload, 1) := dG62_dL_law_1434.2.2.1
theorem dL_law_1440 : decode cL_law 1440 = .ok (.pop2, 1) := dG62_dL_law_1434.2.2.2.1
theorem dL_law_1441 : decode cL_law 1441 = .ok (.aload_n 2, 1) := dG62_dL_law_1434.2.2.2.2.1
theorem dL_law_1442 : decode cL_law 1442 = .ok (.aload_n 0, 1) := dG62_dL_law_1434.2.2.2.2.2.1
theorem dL_law_1443 : decode cL_law 1443 = .ok (.iload_n 3, 1) := dG62_dL_law_1434.2.2.2.2.2.2.1
theorem dL_law_1444 : decode cL_law 1444 = .ok (.iconst 1, 1) := dG62_dL_law_1434.2.2.2.2.2.2.2.1
theorem dL_law_1445 : decode cL_law 1445 = .ok (.iadd, 1) := dG62_dL_law_1434.2.2.2.2.2.2.2.2.1
theorem dL_law_1446 : decode cL_law 1446 = .ok (.iaload, 1) := dG62_dL_law_1434.2.2.2.2.2.2.2.2.2.1
theorem dL_law_1447 : decode cL_law 1447 = .ok (.aload_n 0, 1) := dG62_dL_law_1434.2.2.2.2.2.2.2.2.2.2.1
theorem dL_law_1448 : decode cL_law 1448 = .ok (.iload_n 3, 1) := dG62_dL_law_1434.2.2.2.2.2.2.2.2.2.2.2.1
theorem dL_law_1449 : decode cL_law 1449 = .ok (.iconst 2, 1) := dG62_dL_law_1434.2.2.2.2.2.2.2.2.2.2.2.2.1
theorem dL_law_1450 : decode cL_law 1450 = .ok (.iadd, 1) := dG62_dL_law_1434.2.2.2.2.2.2.2.2.2.2.2.2.2.1
theorem dL_law_1451 : decode cL_law 1451 = .ok (.iaload, 1) := dG62_dL_law_1434.2.2.2.2.2.2.2.2.2.2.2.2.2.2.1
theorem dL_law_1452 : decode cL_law 1452 = .ok (.aload_n 0, 1) := dG62_dL_law_1434.2.2.2.2.2.2.2.2.2.2.2.2.2.2.2
theorem dG63_dL_law_1453 : (decode cL_law 1453 = .ok (.iload_n 3, 1)) ∧ (decode cL_law 1454 = .ok (.iconst 3, 1)) ∧ (decode cL_law 1455 = .ok (.iadd, 1)) ∧ (decode cL_law 1456 = .ok (.iaload, 1)) ∧ (decode cL_law 1460 = .ok (.pop2, 1)) ∧ (decode cL_law 1461 = .ok (.goto 234, 3)) ∧ (decode cL_law 1464 = .ok (.aload_n 1, 1)) ∧ (decode cL_law 1465 = .ok (.aload_n 0, 1)) ∧ (decode cL_law 1466 = .ok (.iload_n 3, 1)) ∧ (decode cL_law 1467 = .ok (.iconst 1, 1)) ∧ (decode cL_law 1468 = .ok (.iadd, 1)) ∧ (decode cL_law 1469 = .ok (.iaload, 1)) ∧ (decode cL_law 1470 = .ok (.aload_n 0, 1)) ∧ (decode cL_law 1471 = .ok (.iload_n 3, 1)) ∧ (decode cL_law 1472 = .ok (.iconst 2, 1)) ∧ (decode cL_law 1473 = .ok (.iadd, 1)) := by decide +kernel
theorem dL_law_1453 : decode cL_law 1453 = .ok (.iload_n 3, 1) := dG63_dL_law_1453.1
theorem dL_law_1454 : decode cL_law 1454 = .ok (.iconst 3, 1) := dG63_dL_law_1453.2.1
theorem dL_law_1455 : decode cL_law 1455 = .ok (.iadd, 1) := dG63_dL_law_1453.2.2.1
theorem dL_law_1456 : decode cL_law 1456 = .ok (.iaload, 1) := dG63_dL_law_1453.2.2.2.1
theorem dL_law_1460 : decode cL_law 1460 = .ok (.pop2, 1) := dG63_dL_law_1453.2.2.2.2.1
theorem dL_law_1461 : decode cL_law 1461 = .ok (.goto 234, 3) := dG63_dL_law_1453.2.2.2.2.2.1
theorem dL_law_1464 : decode cL_law 1464 = .ok (.aload_n 1, 1) := dG63_dL_law_1453.2.2.2.2.2.2.1
theorem dL_law_1465 : decode cL_law 1465 = .ok (.aload_n 0, 1) := dG63_dL_law_1453.2.2.2.2.2.2.2.1
theorem dL_law_1466 : decode cL_law 1466 = .ok (.iload_n 3, 1) := dG63_dL_law_1453.2.2.2.2.2.2.2.2.1
theorem dL_law_1467 : decode cL_law 1467 = .ok (.iconst 1, 1) := dG63_dL_law_1453.2.2.2.2.2.2.2.2.2.1
theorem dL_law_1468 : decode cL_law 1468 = .ok (.iadd, 1) := dG63_dL_law_1453.2.2.2.2.2.2.2.2.2.2.1
theorem dL_law_1469 : decode cL_law 1469 = .ok (.iaload, 1) := dG63_dL_law_1453.2.2.2.2.2.2.2.2.2.2.2.1
theorem dL_law_1470 : decode cL_law 1470 = .ok (.aload_n 0, 1) := dG63_dL_law_1453.2.2.2.2.2.2.2.2.2.2.2.2.1
theorem dL_law_1471 : decode cL_law 1471 = .ok (.iload_n 3, 1) := dG63_dL_law_1453.2.2.2.2.2.2.2.2.2.2.2.2.2.1
theorem dL_law_1472 : decode cL_law 1472 = .ok (.iconst 2, 1) := dG63_dL_law_1453.2.2.2.2.2.2.2.2.2.2.2.2.2.2.1
theorem dL_law_1473 : decode cL_law 1473 = .ok (.iadd, 1) := dG63_dL_law_1453.2.2.2.2.2.2.2.2.2.2.2.2.2.2.2
theorem dG64_dL_law_1474 : (decode cL_law 1474 = .ok (.iaload, 1)) ∧ (decode cL_law 1478 = .ok (.pop, 1)) ∧ (decode cL_law 1479 = .ok (.aload_n 2, 1)) ∧ (decode cL_law 1480 = .ok (.aload_n 0, 1)) ∧ (decode cL_law 1481 = .ok (.iload_n 3, 1)) ∧ (decode cL_law 1482 = .ok (.iconst 1, 1)) ∧ (decode cL_law 1483 = .ok (.iadd, 1)) ∧ (decode cL_law 1484 = .ok (.iaload, 1)) ∧ (decode cL_law 1485 = .ok (.aload_n 0, 1)) ∧ (decode cL_law 1486 = .ok (.iload_n 3, 1)) ∧ (decode cL_law 1487 = .ok (.iconst 2, 1)) ∧ (decode cL_law 1488 = .ok (.iadd, 1)) ∧ (decode cL_law 1489 = .ok (.iaload, 1)) ∧ (decode cL_law 1493 = .ok (.pop, 1)) ∧ (decode cL_law 1494 = .ok (.goto 201, 3)) ∧ (decode cL_law 1497 = .ok (.aload_n 1, 1)) := by decide +kernel
theorem dL_law_1474 : decode cL_law 1474 = .ok (.iaload, 1) := dG64_dL_law_1474.1
theorem dL_law_1478 : decode cL_law 1478 = .ok (.pop, 1) := dG64_dL_law_1474.2.1
theorem dL_law_1479 : decode cL_law 1479 = .ok (.aload_n 2, 1) := dG64_dL_law_1474.2.2.1
theorem dL_law_1480 : decode cL_law 1480 = .ok (.aload_n 0, 1) := dG64_dL_law_1474.2.2.2.1
theorem dL_law_1481 : decode cL_law 1481 = .ok (.iload_n 3, 1) := dG64_dL_law_1474.2.2.2.2.1
theorem dL_law_1482 : decode cL_law 1482 = .ok (.iconst 1, 1) := dG64_dL_law_1474.2.2.2.2.2.1
theorem dL_law_1483 : decode cL_law 1483 = .ok (.iadd, 1) := dG64_dL_law_1474.2.2.2.2.2.2.1
theorem dL_law_1484 : decode cL_law 1484 = .ok (.iaload, 1) := dG64_dL_law_1474.2.2.2.2.2.2.2.1
theorem dL_law_1485 : decode cL_law 1485 = .ok (.aload_n 0, 1) := dG64_dL_law_1474.2.2.2.2.2.2.2.2.1
theorem dL_law_1486 : decode cL_law 1486 = .ok (.iload_n 3, 1) := dG64_dL_law_1474.2.2.2.2.2.2.2.2.2.1
theorem dL_law_1487 : decode cL_law 1487 = .ok (.iconst 2, 1) := dG64_dL_law_1474.2.2.2.2.2.2.2.2.2.2.1
theorem dL_law_1488 : decode cL_law 1488 = .ok (.iadd, 1) := dG64_dL_law_1474.2.2.2.2.2.2.2.2.2.2.2.1
theorem dL_law_1489 : decode cL_law 1489 = .ok (.iaload, 1) := dG64_dL_law_1474.2.2.2.2.2.2.2.2.2.2.2.2.1
theorem dL_law_1493 : decode cL_law 1493 = .ok (.pop, 1) := dG64_dL_law_1474.2.2.2.2.2.2.2.2.2.2.2.2.2.1
theorem dL_law_1494 : decode cL_law 1494 = .ok (.goto 201, 3) := dG64_dL_law_1474.2.2.2.2.2.2.2.2.2.2.2.2.2.2.1
theorem dL_law_1497 : decode cL_law 1497 = .ok (.aload_n 1, 1) := dG64_dL_law_1474.2.2.2.2.2.2.2.2.2.2.2.2.2.2.2
theorem dG65_dL_law_1498 : (decode cL_law 1498 = .ok (.aload_n 0, 1)) ∧ (decode cL_law 1499 = .ok (.iload_n 3, 1)) ∧ (decode cL_law 1500 = .ok (.iconst 1, 1)) ∧ (decode cL_law 1501 = .ok (.iadd, 1)) ∧ (decode cL_law 1502 = .ok (.iaload, 1)) ∧ (decode cL_law 1503 = .ok (.aload_n 0, 1)) ∧ (decode cL_law 1504 = .ok (.iload_n 3, 1)) ∧ (decode cL_law 1505 = .ok (.iconst 2, 1)) ∧ (decode cL_law 1506 = .ok (.iadd, 1)) ∧ (decode cL_law 1507 = .ok (.iaload, 1)) ∧ (decode cL_law 1508 = .ok (.aload_n 0, 1)) ∧ (decode cL_law 1509 = .ok (.iload_n 3, 1)) ∧ (decode cL_law 1510 = .ok (.iconst 3, 1)) ∧ (decode cL_law 1511 = .ok (.iadd, 1)) ∧ (decode cL_law 1512 = .ok (.iaload, 1)) ∧ (decode cL_law 1516 = .ok (.pop2, 1)) := by decide +kernel
theorem dL_law_1498 : decode cL_law 1498 = .ok (.aload_n 0, 1) := dG65_dL_law_1498.1
theorem dL_law_1499 : decode cL_law 1499 = .ok (.iload_n 3, 1) := dG65_dL_law_1498.2.1
theorem dL_law_1500 : decode cL_law 1500 = .ok (.iconst 1, 1) := dG65_dL_law_1498.2.2.1
theorem dL_law_1501 : decode cL_law 1501 = .ok (.iadd, 1) := dG65_dL_law_1498.2.2.2.1
theorem dL_law_1502 : decode cL_law 1502 = .ok (.iaload, 1) := dG65_dL_law_1498.2.2.2.2.1
theorem dL_law_1503 : decode cL_law 1503 = .ok (.aload_n 0, 1) := dG65_dL_law_1498.2.2.2.2.2.1
theorem dL_law_1504 : decode cL_law 1504 = .ok (.iload_n 3, 1) := dG65_dL_law_1498.2.2.2.2.2.2.1
theorem dL_law_1505 : decode cL_law 1505 = .ok (.iconst 2, 1) := dG65_dL_law_1498.2.2.2.2.2.2.2.1
theorem dL_law_1506 : decode cL_law 1506 = .ok (.iadd, 1) := dG65_dL_law_1498.2.2.2.2.2.2.2.2.1
theorem dL_law_1507 : decode cL_law 1507 = .ok (.iaload, 1) := dG65_dL_law_1498.2.2.2.2.2.2.2.2.2.1
theorem dL_law_1508 : decode cL_law 1508 = .ok (.aload_n 0, 1) := dG65_dL_law_1498.2.2.2.2.2.2.2.2.2.2.1
theorem dL_law_1509 : decode cL_law 1509 = .ok (.iload_n 3, 1) := dG65_dL_law_1498.2.2.2.2.2.2.2.2.2.2.2.1
theorem dL_law_1510 : decode cL_law 1510 = .ok (.iconst 3, 1) := dG65_dL_law_1498.2.2.2.2.2.2.2.2.2.2.2.2.1
theorem dL_law_1511 : decode cL_law 1511 = .ok (.iadd, 1) := dG65_dL_law_1498.2.2.2.2.2.2.2.2.2.2.2.2.2.1
theorem dL_law_1512 : decode cL_law 1512 = .ok (.iaload, 1) := dG65_dL_law_1498.2.2.2.2.2.2.2.2.2.2.2.2.2.2.1
theorem dL_law_1516 : decode cL_law 1516 = .ok (.pop2, 1) := dG65_dL_law_1498.2.2.2.2.2.2.2.2.2.2.2.2.2.2.2
theorem dG66_dL_law_1517 : (decode cL_law 1517 = .ok (.aload_n 2, 1)) ∧ (decode cL_law 1518 = .ok (.aload_n 0, 1)) ∧ (decode cL_law 1519 = .ok (.iload_n 3, 1)) ∧ (decode cL_law 1520 = .ok (.iconst 1, 1)) ∧ (decode cL_law 1521 = .ok (.iadd, 1)) ∧ (decode cL_law 1522 = .ok (.iaload, 1)) ∧ (decode cL_law 1523 = .ok (.aload_n 0, 1)) ∧ (decode cL_law 1524 = .ok (.iload_n 3, 1)) ∧ (decode cL_law 1525 = .ok (.iconst 2, 1)) ∧ (decode cL_law 1526 = .ok (.iadd, 1)) ∧ (decode cL_law 1527 = .ok (.iaload, 1)) ∧ (decode cL_law 1528 = .ok (.aload_n 0, 1)) ∧ (decode cL_law 1529 = .ok (.iload_n 3, 1)) ∧ (decode cL_law 1530 = .ok (.iconst 3, 1)) ∧ (decode cL_law 1531 = .ok (.iadd, 1)) ∧ (decode cL_law 1532 = .ok (.iaload, 1)) := by decide +kernel
theorem dL_law_1517 : decode cL_law 1517 = .ok (.aload_n 2, 1) := dG66_dL_law_1517.1
theorem dL_law_1518 : decode cL_law 1518 = .ok (.aload_n 0, 1) := dG66_dL_law_1517.2.1
theorem dL_law_1519 : decode cL_law 1519 = .ok (.iload_n 3, 1) := dG66_dL_law_1517.2.2.1
theorem dL_law_1520 : decode cL_law 1520 = .ok (.iconst 1, 1) := dG66_dL_law_1517.2.2.2.1
theorem dL_law_1521 : decode cL_law 1521 = .ok (.iadd, 1) := dG66_dL_law_1517.2.2.2.2.1
theorem dL_law_1522 : decode cL_law 1522 = .ok (.iaload, 1) := dG66_dL_law_1517.2.2.2.2.2.1
theorem dL_law_1523 : decode cL_law 1523 = .ok (.aload_n 0, 1) := dG66_dL_law_1517.2.2.2.2.2.2.1
theorem dL_law_1524 : decode cL_law 1524 = .ok (.iload_n 3, 1) := dG66_dL_law_1517.2.2.2.2.2.2.2.1
theorem dL_law_1525 : decode cL_law 1525 = .ok (.iconst 2, 1) := dG66_dL_law_1517.2.2.2.2.2.2.2.2.1
theorem dL_law_1526 : decode cL_law 1526 = .ok (.iadd, 1) := dG66_dL_law_1517.2.2.2.2.2.2.2.2.2.1
theorem dL_law_1527 : decode cL_law 1527 = .ok (.iaload, 1) := dG66_dL_law_1517.2.2.2.2.2.2.2.2.2.2.1
theorem dL_law_1528 : decode cL_law 1528 = .ok (.aload_n 0, 1) := dG66_dL_law_1517.2.2.2.2.2.2.2.2.2.2.2.1
theorem dL_law_1529 : decode cL_law 1529 = .ok (.iload_n 3, 1) := dG66_dL_law_1517.2.2.2.2.2.2.2.2.2.2.2.2.1
theorem dL_law_1530 : decode cL_law 1530 = .ok (.iconst 3, 1) := dG66_dL_law_1517.2.2.2.2.2.2.2.2.2.2.2.2.2.1
theorem dL_law_1531 : decode cL_law 1531 = .ok (.iadd, 1) := dG66_dL_law_1517.2.2.2.2.2.2.2.2.2.2.2.2.2.2.1
theorem dL_law_1532 : decode cL_law 1532 = .ok (.iaload, 1) := dG66_dL_law_1517.2.2.2.2.2.2.2.2.2.2.2.2.2.2.2
theorem dG67_dL_law_1536 : (decode cL_law 1536 = .ok (.pop2, 1)) ∧ (decode cL_law 1537 = .ok (.goto 158, 3)) ∧ (decode cL_law 1540 = .ok (.aload_n 1, 1)) ∧ (decode cL_law 1541 = .ok (.aload_n 0, 1)) ∧ (decode cL_law 1542 = .ok (.iload_n 3, 1)) ∧ (decode cL_law 1543 = .ok (.iconst 1, 1)) ∧ (decode cL_law 1544 = .ok (.iadd, 1)) ∧ (decode cL_law 1545 = .ok (.iaload, 1)) ∧ (decode cL_law 1546 = .ok (.aload_n 0, 1)) ∧ (decode cL_law 1547 = .ok (.iload_n 3, 1)) ∧ (decode cL_law 1548 = .ok (.iconst 2, 1)) ∧ (decode cL_law 1549 = .ok (.iadd, 1)) ∧ (decode cL_law 1550 = .ok (.iaload, 1)) ∧ (decode cL_law 1551 = .ok (.aload_n 0, 1)) ∧ (decode cL_law 1552 = .ok (.iload_n 3, 1)) ∧ (decode cL_law 1553 = .ok (.iconst 3, 1)) := by decide +kernel
theorem dL_law_1536 : decode cL_law 1536 = .ok (.pop2, 1) := dG67_dL_law_1536.1
theorem dL_law_1537 : decode cL_law 1537 = .ok (.goto 158, 3) := dG67_dL_law_1536.2.1
theorem dL_law_1540 : decode cL_law 1540 = .ok (.aload_n 1, 1) := dG67_dL_law_1536.2.2.1
theorem dL_law_1541 : decode cL_law 1541 = .ok (.aload_n 0, 1) := dG67_dL_law_1536.2.2.2.1
theorem dL_law_1542 : decode cL_law 1542 = .ok (.iload_n 3, 1) := dG67_dL_law_1536.2.2.2.2.1
theorem dL_law_1543 : decode cL_law 1543 = .ok (.iconst 1, 1) := dG67_dL_law_1536.2.2.2.2.2.1
theorem dL_law_1544 : decode cL_law 1544 = .ok (.iadd, 1) := dG67_dL_law_1536.2.2.2.2.2.2.1
theorem dL_law_1545 : decode cL_law 1545 = .ok (.iaload, 1) := dG67_dL_law_1536.2.2.2.2.2.2.2.1
theorem dL_law_1546 : decode cL_law 1546 = .ok (.aload_n 0, 1) := dG67_dL_law_1536.2.2.2.2.2.2.2.2.1
theorem dL_law_1547 : decode cL_law 1547 = .ok (.iload_n 3, 1) := dG67_dL_law_1536.2.2.2.2.2.2.2.2.2.1
theorem dL_law_1548 : decode cL_law 1548 = .ok (.iconst 2, 1) := dG67_dL_law_1536.2.2.2.2.2.2.2.2.2.2.1
theorem dL_law_1549 : decode cL_law 1549 = .ok (.iadd, 1) := dG67_dL_law_1536.2.2.2.2.2.2.2.2.2.2.2.1
theorem dL_law_1550 : decode cL_law 1550 = .ok (.iaload, 1) := dG67_dL_law_1536.2.2.2.2.2.2.2.2.2.2.2.2.1
theorem dL_law_1551 : decode cL_law 1551 = .ok (.aload_n 0, 1) := dG67_dL_law_1536.2.2.2.2.2.2.2.2.2.2.2.2.2.1
theorem dL_law_1552 : decode cL_law 1552 = .ok (.iload_n 3, 1) := dG67_dL_law_1536.2.2.2.2.2.2.2.2.2.2.2.2.2.2.1
theorem dL_law_1553 : decode cL_law 1553 = .ok (.iconst 3, 1) := dG67_dL_law_1536.2.2.2.2.2.2.2.2.2.2.2.2.2.2.2
theorem dG68_dL_law_1554 : (decode cL_law 1554 = .ok (.iadd, 1)) ∧ (decode cL_law 1555 = .ok (.iaload, 1)) ∧ (decode cL_law 1559 = .ok (.pop2, 1)) ∧ (decode cL_law 1560 = .ok (.aload_n 2, 1)) ∧ (decode cL_law 1561 = .ok (.aload_n 0, 1)) ∧ (decode cL_law 1562 = .ok (.iload_n 3, 1)) ∧ (decode cL_law 1563 = .ok (.iconst 1, 1)) ∧ (decode cL_law 1564 = .ok (.iadd, 1)) ∧ (decode cL_law 1565 = .ok (.iaload, 1)) ∧ (decode cL_law 1566 = .ok (.aload_n 0, 1)) ∧ (decode cL_law 1567 = .ok (.iload_n 3, 1)) ∧ (decode cL_law 1568 = .ok (.iconst 2, 1)) ∧ (decode cL_law 1569 = .ok (.iadd, 1)) ∧ (decode cL_law 1570 = .ok (.iaload, 1)) ∧ (decode cL_law 1571 = .ok (.aload_n 0, 1)) ∧ (decode cL_law 1572 = .ok (.iload_n 3, 1)) := by decide +kernel
theorem dL_law_1554 : decode cL_law 1554 = .ok (.iadd, 1) := dG68_dL_law_1554.1
theorem dL_law_1555 : decode cL_law 1555 = .ok (.iaload, 1) := dG68_dL_law_1554.2.1
theorem dL_law_1559 : decode cL_law 1559 = .ok (.pop2, 1) := dG68_dL_law_1554.2.2.1
theorem dL_law_1560 : decode cL_law 1560 = .ok (.aload_n 2, 1) := dG68_dL_law_1554.2.2.2.1
theorem dL_law_1561 : decode cL_law 1561 = .ok (.aload_n 0, 1) := dG68_dL_law_1554.2.2.2.2.1
theorem dL_law_1562 : decode cL_law 1562 = .ok (.iload_n 3, 1) := dG68_dL_law_1554.2.2.2.2.2.1
theorem dL_law_1563 : decode cL_law 1563 = .ok (.iconst 1, 1) := dG68_dL_law_1554.2.2.2.2.2.2.1
theorem dL_law_1564 : decode cL_law 1564 = .ok (.iadd, 1) := dG68_dL_law_1554.2.2.2.2.2.2.2.1
theorem dL_law_1565 : decode cL_law 1565 = .ok (.iaload, 1) := dG68_dL_law_1554.2.2.2.2.2.2.2.2.1
theorem dL_law_1566 : decode cL_law 1566 = .ok (.aload_n 0, 1) := dG68_dL_law_1554.2.2.2.2.2.2.2.2.2.1
theorem dL_law_1567 : decode cL_law 1567 = .ok (.iload_n 3, 1) := dG68_dL_law_1554.2.2.2.2.2.2.2.2.2.2.1
theorem dL_law_1568 : decode cL_law 1568 = .ok (.iconst 2, 1) := dG68_dL_law_1554.2.2.2.2.2.2.2.2.2.2.2.1
theorem dL_law_1569 : decode cL_law 1569 = .ok (.iadd, 1) := dG68_dL_law_1554.2.2.2.2.2.2.2.2.2.2.2.2.1
theorem dL_law_1570 : decode cL_law 1570 = .ok (.iaload, 1) := dG68_dL_law_1554.2.2.2.2.2.2.2.2.2.2.2.2.2.1
theorem dL_law_1571 : decode cL_law 1571 = .ok (.aload_n 0, 1) := dG68_dL_law_1554.2.2.2.2.2.2.2.2.2.2.2.2.2.2.1
theorem dL_law_1572 : decode cL_law 1572 = .ok (.iload_n 3, 1) := dG68_dL_law_1554.2.2.2.2.2.2.2.2.2.2.2.2.2.2.2
theorem dG69_dL_law_1573 : (decode cL_law 1573 = .ok (.iconst 3, 1)) ∧ (decode cL_law 1574 = .ok (.iadd, 1)) ∧ (decode cL_law 1575 = .ok (.iaload, 1)) ∧ (decode cL_law 1579 = .ok (.pop2, 1)) ∧ (decode cL_law 1580 = .ok (.goto 115, 3)) ∧ (decode cL_law 1583 = .ok (.aload_n 1, 1)) ∧ (decode cL_law 1584 = .ok (.aload_n 0, 1)) ∧ (decode cL_law 1585 = .ok (.iload_n 3, 1)) ∧ (decode cL_law 1586 = .ok (.iconst 1, 1)) ∧ (decode cL_law 1587 = .ok (.iadd, 1)) ∧ (decode cL_law 1588 = .ok (.iaload, 1)) ∧ (decode cL_law 1589 = .ok (.aload_n 0, 1)) ∧ (decode cL_law 1590 = .ok (.iload_n 3, 1)) ∧ (decode cL_law 1591 = .ok (.iconst 2, 1)) ∧ (decode cL_law 1592 = .ok (.iadd, 1)) ∧ (decode cL_law 1593 = .ok (.iaload, 1)) := by decide +kernel
theorem dL_law_1573 : decode cL_law 1573 = .ok (.iconst 3, 1) := dG69_dL_law_1573.1
theorem dL_law_1574 : decode cL_law 1574 = .ok (.iadd, 1) := dG69_dL_law_1573.2.1
theorem dL_law_1575 : decode cL_law 1575 = .ok (.iaload, 1) := dG69_dL_law_1573.2.2.1
theorem dL_law_1579 : decode cL_law 1579 = .ok (.pop2, 1) := dG69_dL_law_1573.2.2.2.1
theorem dL_law_1580 : decode cL_law 1580 = .ok (.goto 115, 3) := dG69_dL_law_1573.2.2.2.2.1
theorem dL_law_1583 : decode cL_law 1583 = .ok (.aload_n 1, 1) := dG69_dL_law_1573.2.2.2.2.2.1
theorem dL_law_1584 : decode cL_law 1584 = .ok (.aload_n 0, 1) := dG69_dL_law_1573.2.2.2.2.2.2.1
theorem dL_law_1585 : decode cL_law 1585 = .ok (.iload_n 3, 1) := dG69_dL_law_1573.2.2.2.2.2.2.2.1
theorem dL_law_1586 : decode cL_law 1586 = .ok (.iconst 1, 1) := dG69_dL_law_1573.2.2.2.2.2.2.2.2.1
theorem dL_law_1587 : decode cL_law 1587 = .ok (.iadd, 1) := dG69_dL_law_1573.2.2.2.2.2.2.2.2.2.1
theorem dL_law_1588 : decode cL_law 1588 = .ok (.iaload, 1) := dG69_dL_law_1573.2.2.2.2.2.2.2.2.2.2.1
theorem dL_law_1589 : decode cL_law 1589 = .ok (.aload_n 0, 1) := dG69_dL_law_1573.2.2.2.2.2.2.2.2.2.2.2.1
theorem dL_law_1590 : decode cL_law 1590 = .ok (.iload_n 3, 1) := dG69_dL_law_1573.2.2.2.2.2.2.2.2.2.2.2.2.1
theorem dL_law_1591 : decode cL_law 1591 = .ok (.iconst 2, 1) := dG69_dL_law_1573.2.2.2.2.2.2.2.2.2.2.2.2.2.1
theorem dL_law_1592 : decode cL_law 1592 = .ok (.iadd, 1) := dG69_dL_law_1573.2.2.2.2.2.2.2.2.2.2.2.2.2.2.1
theorem dL_law_1593 : decode cL_law 1593 = .ok (.iaload, 1) := dG69_dL_law_1573.2.2.2.2.2.2.2.2.2.2.2.2.2.2.2
theorem dG70_dL_law_1594 : (decode cL_law 1594 = .ok (.i2l, 1)) ∧ (decode cL_law 1595 = .ok (.bipush 32, 2)) ∧ (decode cL_law 1597 = .ok (.lshl, 1)) ∧ (decode cL_law 1598 = .ok (.aload_n 0, 1)) ∧ (decode cL_law 1599 = .ok (.iload_n 3, 1)) ∧ (decode cL_law 1600 = .ok (.iconst 3, 1)) ∧ (decode cL_law 1601 = .ok (.iadd, 1)) ∧ (decode cL_law 1602 = .ok (.iaload, 1)) ∧ (decode cL_law 1603 = .ok (.i2l, 1)) ∧ (decode cL_law 1604 = .ok (.ldc2_w 153, 3)) ∧ (decode cL_law 1607 = .ok (.land, 1)) ∧ (decode cL_law 1608 = .ok (.lor, 1)) ∧ (decode cL_law 1612 = .ok (.pop, 1)) ∧ (decode cL_law 1613 = .ok (.aload_n 2, 1)) ∧ (decode cL_law 1614 = .ok (.aload_n 0, 1)) ∧ (decode cL_law 1615 = .ok (.iload_n 3, 1)) := by decide +kernel
theorem dL_law_1594 : decode cL_law 1594 = .ok (.i2l, 1) := dG70_dL_law_1594.1
theorem dL_law_1595 : decode cL_law 1595 = .ok (.bipush 32, 2) := dG70_dL_law_1594.2.1
theorem dL_law_1597 : decode cL_law 1597 = .ok (.lshl, 1) := dG70_dL_law_1594.2.2.1
theorem dL_law_1598 : decode cL_law 1598 = .ok (.aload_n 0, 1) := dG70_dL_law_1594.2.2.2.1
theorem dL_law_1599 : decode cL_law 1599 = .ok (.iload_n 3, 1) := dG70_dL_law_1594.2.2.2.2.1
theorem dL_law_1600 : decode cL_law 1600 = .ok (.iconst 3, 1) := dG70_dL_law_1594.2.2.2.2.2.1
theorem dL_law_1601 : decode cL_law 1601 = .ok (.iadd, 1) := dG70_dL_law_1594.2.2.2.2.2.2.1
theorem dL_law_1602 : decode cL_law 1602 = .ok (.iaload, 1) := dG70_dL_law_1594.2.2.2.2.2.2.2.1
theorem dL_law_1603 : decode cL_law 1603 = .ok (.i2l, 1) := dG70_dL_law_1594.2.2.2.2.2.2.2.2.1
theorem dL_law_1604 : decode cL_law 1604 = .ok (.ldc2_w 153, 3) := dG70_dL_law_1594.2.2.2.2.2.2.2.2.2.1
theorem dL_law_1607 : decode cL_law 1607 = .ok (.land, 1) := dG70_dL_law_1594.2.2.2.2.2.2.2.2.2.2.1
theorem dL_law_1608 : decode cL_law 1608 = .ok (.lor, 1) := dG70_dL_law_1594.2.2.2.2.2.2.2.2.2.2.2.1
theorem dL_law_1612 : decode cL_law 1612 = .ok (.pop, 1) := dG70_dL_law_1594.2.2.2.2.2.2.2.2.2.2.2.2.1
theorem dL_law_1613 : decode cL_law 1613 = .ok (.aload_n 2, 1) := dG70_dL_law_1594.2.2.2.2.2.2.2.2.2.2.2.2.2.1
theorem dL_law_1614 : decode cL_law 1614 = .ok (.aload_n 0, 1) := dG70_dL_law_1594.2.2.2.2.2.2.2.2.2.2.2.2.2.2.1
theorem dL_law_1615 : decode cL_law 1615 = .ok (.iload_n 3, 1) := dG70_dL_law_1594.2.2.2.2.2.2.2.2.2.2.2.2.2.2.2
theorem dG71_dL_law_1616 : (decode cL_law 1616 = .ok (.iconst 1, 1)) ∧ (decode cL_law 1617 = .ok (.iadd, 1)) ∧ (decode cL_law 1618 = .ok (.iaload, 1)) ∧ (decode cL_law 1619 = .ok (.aload_n 0, 1)) ∧ (decode cL_law 1620 = .ok (.iload_n 3, 1)) ∧ (decode cL_law 1621 = .ok (.iconst 2, 1)) ∧ (decode cL_law 1622 = .ok (.iadd, 1)) ∧ (decode cL_law 1623 = .ok (.iaload, 1)) ∧ (decode cL_law 1624 = .ok (.i2l, 1)) ∧ (decode cL_law 1625 = .ok (.bipush 32, 2)) ∧ (decode cL_law 1627 = .ok (.lshl, 1)) ∧ (decode cL_law 1628 = .ok (.aload_n 0, 1)) ∧ (decode cL_law 1629 = .ok (.iload_n 3, 1)) ∧ (decode cL_law 1630 = .ok (.iconst 3, 1)) ∧ (decode cL_law 1631 = .ok (.iadd, 1)) ∧ (decode cL_law 1632 = .ok (.iaload, 1)) := by decide +kernel
theorem dL_law_1616 : decode cL_law 1616 = .ok (.iconst 1, 1) := dG71_dL_law_1616.1
theorem dL_law_1617 : decode cL_law 1617 = .ok (.iadd, 1) := dG71_dL_law_1616.2.1
theorem dL_law_1618 : decode cL_law 1618 = .ok (.iaload, 1) := dG71_dL_law_1616.2.2.1
theorem dL_law_1619 : decode cL_law 1619 = .ok (.aload_n 0, 1) := dG71_dL_law_1616.2.2.2.1
theorem dL_law_1620 : decode cL_law 1620 = .ok (.iload_n 3, 1) := dG71_dL_law_1616.2.2.2.2.1
theorem dL_law_1621 : decode cL_law 1621 = .ok (.iconst 2, 1) := dG71_dL_law_1616.2.2.2.2.2.1
theorem dL_law_1622 : decode cL_law 1622 = .ok (.iadd, 1) := dG71_dL_law_1616.2.2.2.2.2.2.1
theorem dL_law_1623 : decode cL_law 1623 = .ok (.iaload, 1) := dG71_dL_law_1616.2.2.2.2.2.2.2.1
theorem dL_law_1624 : decode cL_law 1624 = .ok (.i2l, 1) := dG71_dL_law_1616.2.2.2.2.2.2.2.2.1
theorem dL_law_1625 : decode cL_law 1625 = .ok (.bipush 32, 2) := dG71_dL_law_1616.2.2.2.2.2.2.2.2.2.1
theorem dL_law_1627 : decode cL_law 1627 = .ok (.lshl, 1) := dG71_dL_law_1616.2.2.2.2.2.2.2.2.2.2.1
theorem dL_law_1628 : decode cL_law 1628 = .ok (.aload_n 0, 1) := dG71_dL_law_1616.2.2.2.2.2.2.2.2.2.2.2.1
theorem dL_law_1629 : decode cL_law 1629 = .ok (.iload_n 3, 1) := dG71_dL_law_1616.2.2.2.2.2.2.2.2.2.2.2.2.1
theorem dL_law_1630 : decode cL_law 1630 = .ok (.iconst 3, 1) := dG71_dL_law_1616.2.2.2.2.2.2.2.2.2.2.2.2.2.1
theorem dL_law_1631 : decode cL_law 1631 = .ok (.iadd, 1) := dG71_dL_law_1616.2.2.2.2.2.2.2.2.2.2.2.2.2.2.1
theorem dL_law_1632 : decode cL_law 1632 = .ok (.iaload, 1) := dG71_dL_law_1616.2.2.2.2.2.2.2.2.2.2.2.2.2.2.2
theorem dG72_dL_law_1633 : (decode cL_law 1633 = .ok (.i2l, 1)) ∧ (decode cL_law 1634 = .ok (.ldc2_w 153, 3)) ∧ (decode cL_law 1637 = .ok (.land, 1)) ∧ (decode cL_law 1638 = .ok (.lor, 1)) ∧ (decode cL_law 1642 = .ok (.pop, 1)) ∧ (decode cL_law 1643 = .ok (.goto 52, 3)) ∧ (decode cL_law 1646 = .ok (.aload_n 1, 1)) ∧ (decode cL_law 1647 = .ok (.aload_n 0, 1)) ∧ (decode cL_law 1648 = .ok (.iload_n 3, 1)) ∧ (decode cL_law 1649 = .ok (.iconst 1, 1)) ∧ (decode cL_law 1650 = .ok (.iadd, 1)) ∧ (decode cL_law 1651 = .ok (.iaload, 1)) ∧ (decode cL_law 1655 = .ok (.pop, 1)) ∧ (decode cL_law 1656 = .ok (.aload_n 2, 1)) ∧ (decode cL_law 1657 = .ok (.aload_n 0, 1)) ∧ (decode cL_law 1658 = .ok (.iload_n 3, 1)) := by decide +kernel
theorem dL_law_1633 : decode cL_law 1633 = .ok (.i2l, 1) := dG72_dL_law_1633.1
theorem dL_law_1634 : decode cL_law 1634 = .ok (.ldc2_w 153, 3) := dG72_dL_law_1633.2.1
theorem dL_law_1637 : decode cL_law 1637 = .ok (.land, 1) := dG72_dL_law_1633.2.2.1
theorem dL_law_1638 : decode cL_law 1638 = .ok (.lor, 1) := dG72_dL_law_1633.2.2.2.1
theorem dL_law_1642 : decode cL_law 1642 = .ok (.pop, 1) := dG72_dL_law_1633.2.2.2.2.1
theorem dL_law_1643 : decode cL_law 1643 = .ok (.goto 52, 3) := dG72_dL_law_1633.2.2.2.2.2.1
theorem dL_law_1646 : decode cL_law 1646 = .ok (.aload_n 1, 1) := dG72_dL_law_1633.2.2.2.2.2.2.1
theorem dL_law_1647 : decode cL_law 1647 = .ok (.aload_n 0, 1) := dG72_dL_law_1633.2.2.2.2.2.2.2.1
theorem dL_law_1648 : decode cL_law 1648 = .ok (.iload_n 3, 1) := dG72_dL_law_1633.2.2.2.2.2.2.2.2.1
theorem dL_law_1649 : decode cL_law 1649 = .ok (.iconst 1, 1) := dG72_dL_law_1633.2.2.2.2.2.2.2.2.2.1
theorem dL_law_1650 : decode cL_law 1650 = .ok (.iadd, 1) := dG72_dL_law_1633.2.2.2.2.2.2.2.2.2.2.1
theorem dL_law_1651 : decode cL_law 1651 = .ok (.iaload, 1) := dG72_dL_law_1633.2.2.2.2.2.2.2.2.2.2.2.1
theorem dL_law_1655 : decode cL_law 1655 = .ok (.pop, 1) := dG72_dL_law_1633.2.2.2.2.2.2.2.2.2.2.2.2.1
theorem dL_law_1656 : decode cL_law 1656 = .ok (.aload_n 2, 1) := dG72_dL_law_1633.2.2.2.2.2.2.2.2.2.2.2.2.2.1
theorem dL_law_1657 : decode cL_law 1657 = .ok (.aload_n 0, 1) := dG72_dL_law_1633.2.2.2.2.2.2.2.2.2.2.2.2.2.2.1
theorem dL_law_1658 : decode cL_law 1658 = .ok (.iload_n 3, 1) := dG72_dL_law_1633.2.2.2.2.2.2.2.2.2.2.2.2.2.2.2
theorem dG73_dL_law_1659 : (decode cL_law 1659 = .ok (.iconst 1, 1)) ∧ (decode cL_law 1660 = .ok (.iadd, 1)) ∧ (decode cL_law 1661 = .ok (.iaload, 1)) ∧ (decode cL_law 1665 = .ok (.pop, 1)) ∧ (decode cL_law 1666 = .ok (.goto 29, 3)) ∧ (decode cL_law 1669 = .ok (.aload_n 1, 1)) ∧ (decode cL_law 1673 = .ok (.pop, 1)) ∧ (decode cL_law 1674 = .ok (.aload_n 2, 1)) ∧ (decode cL_law 1678 = .ok (.pop, 1)) ∧ (decode cL_law 1679 = .ok (.goto 16, 3)) ∧ (decode cL_law 1682 = .ok (.aload_n 1, 1)) ∧ (decode cL_law 1686 = .ok (.pop, 1)) ∧ (decode cL_law 1687 = .ok (.aload_n 2, 1)) ∧ (decode cL_law 1691 = .ok (.pop, 1)) ∧ (decode cL_law 1692 = .ok (.goto 3, 3)) ∧ (decode cL_law 1695 = .ok (.iinc 3 6, 3)) := by decide +kernel
theorem dL_law_1659 : decode cL_law 1659 = .ok (.iconst 1, 1) := dG73_dL_law_1659.1
theorem dL_law_1660 : decode cL_law 1660 = .ok (.iadd, 1) := dG73_dL_law_1659.2.1
theorem dL_law_1661 : decode cL_law 1661 = .ok (.iaload, 1) := dG73_dL_law_1659.2.2.1
theorem dL_law_1665 : decode cL_law 1665 = .ok (.pop, 1) := dG73_dL_law_1659.2.2.2.1
theorem dL_law_1666 : decode cL_law 1666 = .ok (.goto 29, 3) := dG73_dL_law_1659.2.2.2.2.1
theorem dL_law_1669 : decode cL_law 1669 = .ok (.aload_n 1, 1) := dG73_dL_law_1659.2.2.2.2.2.1
theorem dL_law_1673 : decode cL_law 1673 = .ok (.pop, 1) := dG73_dL_law_1659.2.2.2.2.2.2.1
theorem dL_law_1674 : decode cL_law 1674 = .ok (.aload_n 2, 1) := dG73_dL_law_1659.2.2.2.2.2.2.2.1
theorem dL_law_1678 : decode cL_law 1678 = .ok (.pop, 1) := dG73_dL_law_1659.2.2.2.2.2.2.2.2.1
theorem dL_law_1679 : decode cL_law 1679 = .ok (.goto 16, 3) := dG73_dL_law_1659.2.2.2.2.2.2.2.2.2.1
theorem dL_law_1682 : decode cL_law 1682 = .ok (.aload_n 1, 1) := dG73_dL_law_1659.2.2.2.2.2.2.2.2.2.2.1
theorem dL_law_1686 : decode cL_law 1686 = .ok (.pop, 1) := dG73_dL_law_1659.2.2.2.2.2.2.2.2.2.2.2.1
theorem dL_law_1687 : decode cL_law 1687 = .ok (.aload_n 2, 1) := dG73_dL_law_1659.2.2.2.2.2.2.2.2.2.2.2.2.1
theorem dL_law_1691 : decode cL_law 1691 = .ok (.pop, 1) := dG73_dL_law_1659.2.2.2.2.2.2.2.2.2.2.2.2.2.1
theorem dL_law_1692 : decode cL_law 1692 = .ok (.goto 3, 3) := dG73_dL_law_1659.2.2.2.2.2.2.2.2.2.2.2.2.2.2.1
theorem dL_law_1695 : decode cL_law 1695 = .ok (.iinc 3 6, 3) := dG73_dL_law_1659.2.2.2.2.2.2.2.2.2.2.2.2.2.2.2
theorem dG74_dL_law_1698 : (decode cL_law 1698 = .ok (.goto (-1680), 3)) ∧ (decode cL_law 1701 = .ok (.iconst 1, 1)) ∧ (decode cL_law 1702 = .ok (.ireturn, 1)) := by decide +kernel
theorem dL_law_1698 : decode cL_law 1698 = .ok (.goto (-1680), 3) := dG74_dL_law_1698.1
theorem dL_law_1701 : decode cL_law 1701 = .ok (.iconst 1, 1) := dG74_dL_law_1698.2.1
theorem dL_law_1702 : decode cL_law 1702 = .ok (.ireturn, 1) := dG74_dL_law_1698.2.2
theorem wd_1227 : Cond.constantLong RL 153 4294967295 ∈ lw_good := mem_t7 191 (by decide +kernel) rfl
