/-! ===== the law: its rows decoded (by wip/whole/gen_decLaw.py) ===== -/
def mLaw_law : pmMeth := (x, code, 7, ret, [], 13, 1, 11, 392)
theorem dLaw_law_0 : decode mLaw_law.2.1 0 = .ok (.new 8, 3) := by decide +kernel
theorem dLaw_law_3 : decode mLaw_law.2.1 3 = .ok (.dup, 1) := by decide +kernel
theorem dLaw_law_4 : decode mLaw_law.2.1 4 = .ok (.invokespecial 75, 3) := by decide +kernel
theorem dLaw_law_7 : decode mLaw_law.2.1 7 = .ok (.astore_n 1, 1) := by decide +kernel
theorem dLaw_law_8 : decode mLaw_law.2.1 8 = .ok (.new 76, 3) := by decide +kernel
theorem dLaw_law_11 : decode mLaw_law.2.1 11 = .ok (.dup, 1) := by decide +kernel
theorem dLaw_law_12 : decode mLaw_law.2.1 12 = .ok (.invokespecial 78, 3) := by decide +kernel
theorem dLaw_law_15 : decode mLaw_law.2.1 15 = .ok (.astore_n 2, 1) := by decide +kernel
theorem dLaw_law_16 : decode mLaw_law.2.1 16 = .ok (.iconst 1, 1) := by decide +kernel
theorem dLaw_law_17 : decode mLaw_law.2.1 17 = .ok (.newarray .long, 2) := by decide +kernel
theorem dLaw_law_19 : decode mLaw_law.2.1 19 = .ok (.astore_n 3, 1) := by decide +kernel
theorem dLaw_law_20 : decode mLaw_law.2.1 20 = .ok (.iconst 0, 1) := by decide +kernel
theorem dLaw_law_21 : decode mLaw_law.2.1 21 = .ok (.istore 4, 2) := by decide +kernel
theorem dLaw_law_23 : decode mLaw_law.2.1 23 = .ok (.iload 4, 2) := by decide +kernel
theorem dLaw_law_25 : decode mLaw_law.2.1 25 = .ok (.aload_n 0, 1) := by decide +kernel
theorem dLaw_law_26 : decode mLaw_law.2.1 26 = .ok (.arraylength, 1) := by decide +kernel
theorem dLaw_law_27 : decode mLaw_law.2.1 27 = .ok (.iconst 5, 1) := by decide +kernel
theorem dLaw_law_28 : decode mLaw_law.2.1 28 = .ok (.isub, 1) := by decide +kernel
theorem dLaw_law_29 : decode mLaw_law.2.1 29 = .ok (.if_icmp .gt 1266, 3) := by decide +kernel
theorem dLaw_law_32 : decode mLaw_law.2.1 32 = .ok (.aload_n 0, 1) := by decide +kernel
theorem dLaw_law_33 : decode mLaw_law.2.1 33 = .ok (.iload 4, 2) := by decide +kernel
theorem dLaw_law_35 : decode mLaw_law.2.1 35 = .ok (.iaload, 1) := by decide +kernel
theorem dLaw_law_36 : decode mLaw_law.2.1 36 = .ok (.bipush 31, 2) := by decide +kernel
theorem dLaw_law_38 : decode mLaw_law.2.1 38 = .ok (.iand, 1) := by decide +kernel
theorem dLaw_law_39 : decode mLaw_law.2.1 39 = .ok (.tableswitch 1250 0 19 #[93, 165, 257, 349, 417, 473, 541, 585, 629, 685, 741, 809, 905, 918, 998, 1054, 1122, 1190, 1214, 1239], 93) := by decide +kernel
theorem dLaw_law_132 : decode mLaw_law.2.1 132 = .ok (.aload_n 1, 1) := by decide +kernel
theorem dLaw_law_133 : decode mLaw_law.2.1 133 = .ok (.aload_n 0, 1) := by decide +kernel
theorem dLaw_law_134 : decode mLaw_law.2.1 134 = .ok (.iload 4, 2) := by decide +kernel
theorem dLaw_law_136 : decode mLaw_law.2.1 136 = .ok (.iconst 1, 1) := by decide +kernel
theorem dLaw_law_137 : decode mLaw_law.2.1 137 = .ok (.iadd, 1) := by decide +kernel
theorem dLaw_law_138 : decode mLaw_law.2.1 138 = .ok (.iaload, 1) := by decide +kernel
theorem dLaw_law_139 : decode mLaw_law.2.1 139 = .ok (.aload_n 0, 1) := by decide +kernel
theorem dLaw_law_140 : decode mLaw_law.2.1 140 = .ok (.iload 4, 2) := by decide +kernel
theorem dLaw_law_142 : decode mLaw_law.2.1 142 = .ok (.iconst 2, 1) := by decide +kernel
theorem dLaw_law_143 : decode mLaw_law.2.1 143 = .ok (.iadd, 1) := by decide +kernel
theorem dLaw_law_144 : decode mLaw_law.2.1 144 = .ok (.iaload, 1) := by decide +kernel
theorem dLaw_law_145 : decode mLaw_law.2.1 145 = .ok (.aload_n 0, 1) := by decide +kernel
theorem dLaw_law_146 : decode mLaw_law.2.1 146 = .ok (.iload 4, 2) := by decide +kernel
theorem dLaw_law_148 : decode mLaw_law.2.1 148 = .ok (.iconst 3, 1) := by decide +kernel
theorem dLaw_law_149 : decode mLaw_law.2.1 149 = .ok (.iadd, 1) := by decide +kernel
theorem dLaw_law_150 : decode mLaw_law.2.1 150 = .ok (.iaload, 1) := by decide +kernel
theorem dLaw_law_151 : decode mLaw_law.2.1 151 = .ok (.aload_n 0, 1) := by decide +kernel
theorem dLaw_law_152 : decode mLaw_law.2.1 152 = .ok (.iload 4, 2) := by decide +kernel
theorem dLaw_law_154 : decode mLaw_law.2.1 154 = .ok (.iconst 4, 1) := by decide +kernel
theorem dLaw_law_155 : decode mLaw_law.2.1 155 = .ok (.iadd, 1) := by decide +kernel
theorem dLaw_law_156 : decode mLaw_law.2.1 156 = .ok (.iaload, 1) := by decide +kernel
theorem dLaw_law_157 : decode mLaw_law.2.1 157 = .ok (.invokestatic 79, 3) := by decide +kernel
theorem dLaw_law_160 : decode mLaw_law.2.1 160 = .ok (.istore 5, 2) := by decide +kernel
theorem dLaw_law_162 : decode mLaw_law.2.1 162 = .ok (.aload_n 2, 1) := by decide +kernel
theorem dLaw_law_163 : decode mLaw_law.2.1 163 = .ok (.aload_n 0, 1) := by decide +kernel
theorem dLaw_law_164 : decode mLaw_law.2.1 164 = .ok (.iload 4, 2) := by decide +kernel
theorem dLaw_law_166 : decode mLaw_law.2.1 166 = .ok (.iconst 1, 1) := by decide +kernel
theorem dLaw_law_167 : decode mLaw_law.2.1 167 = .ok (.iadd, 1) := by decide +kernel
theorem dLaw_law_168 : decode mLaw_law.2.1 168 = .ok (.iaload, 1) := by decide +kernel
theorem dLaw_law_169 : decode mLaw_law.2.1 169 = .ok (.aload_n 0, 1) := by decide +kernel
theorem dLaw_law_170 : decode mLaw_law.2.1 170 = .ok (.iload 4, 2) := by decide +kernel
theorem dLaw_law_172 : decode mLaw_law.2.1 172 = .ok (.iconst 2, 1) := by decide +kernel
theorem dLaw_law_173 : decode mLaw_law.2.1 173 = .ok (.iadd, 1) := by decide +kernel
theorem dLaw_law_174 : decode mLaw_law.2.1 174 = .ok (.iaload, 1) := by decide +kernel
theorem dLaw_law_175 : decode mLaw_law.2.1 175 = .ok (.aload_n 0, 1) := by decide +kernel
theorem dLaw_law_176 : decode mLaw_law.2.1 176 = .ok (.iload 4, 2) := by decide +kernel
theorem dLaw_law_178 : decode mLaw_law.2.1 178 = .ok (.iconst 3, 1) := by decide +kernel
theorem dLaw_law_179 : decode mLaw_law.2.1 179 = .ok (.iadd, 1) := by decide +kernel
theorem dLaw_law_180 : decode mLaw_law.2.1 180 = .ok (.iaload, 1) := by decide +kernel
theorem dLaw_law_181 : decode mLaw_law.2.1 181 = .ok (.aload_n 0, 1) := by decide +kernel
theorem dLaw_law_182 : decode mLaw_law.2.1 182 = .ok (.iload 4, 2) := by decide +kernel
theorem dLaw_law_184 : decode mLaw_law.2.1 184 = .ok (.iconst 4, 1) := by decide +kernel
theorem dLaw_law_185 : decode mLaw_law.2.1 185 = .ok (.iadd, 1) := by decide +kernel
theorem dLaw_law_186 : decode mLaw_law.2.1 186 = .ok (.iaload, 1) := by decide +kernel
theorem dLaw_law_187 : decode mLaw_law.2.1 187 = .ok (.invokevirtual 84, 3) := by decide +kernel
theorem dLaw_law_190 : decode mLaw_law.2.1 190 = .ok (.aload_n 2, 1) := by decide +kernel
theorem dLaw_law_191 : decode mLaw_law.2.1 191 = .ok (.invokevirtual 85, 3) := by decide +kernel
theorem dLaw_law_194 : decode mLaw_law.2.1 194 = .ok (.iload 5, 2) := by decide +kernel
theorem dLaw_law_196 : decode mLaw_law.2.1 196 = .ok (.if_icmp .eq 5, 3) := by decide +kernel
theorem dLaw_law_199 : decode mLaw_law.2.1 199 = .ok (.iconst 0, 1) := by decide +kernel
theorem dLaw_law_200 : decode mLaw_law.2.1 200 = .ok (.ireturn, 1) := by decide +kernel
theorem dLaw_law_201 : decode mLaw_law.2.1 201 = .ok (.goto 1088, 3) := by decide +kernel
theorem dLaw_law_204 : decode mLaw_law.2.1 204 = .ok (.aload_n 1, 1) := by decide +kernel
theorem dLaw_law_205 : decode mLaw_law.2.1 205 = .ok (.aload_n 0, 1) := by decide +kernel
theorem dLaw_law_206 : decode mLaw_law.2.1 206 = .ok (.iload 4, 2) := by decide +kernel
theorem dLaw_law_208 : decode mLaw_law.2.1 208 = .ok (.iconst 1, 1) := by decide +kernel
theorem dLaw_law_209 : decode mLaw_law.2.1 209 = .ok (.iadd, 1) := by decide +kernel
theorem dLaw_law_210 : decode mLaw_law.2.1 210 = .ok (.iaload, 1) := by decide +kernel
theorem dLaw_law_211 : decode mLaw_law.2.1 211 = .ok (.aload_n 0, 1) := by decide +kernel
theorem dLaw_law_212 : decode mLaw_law.2.1 212 = .ok (.iload 4, 2) := by decide +kernel
theorem dLaw_law_214 : decode mLaw_law.2.1 214 = .ok (.iconst 2, 1) := by decide +kernel
theorem dLaw_law_215 : decode mLaw_law.2.1 215 = .ok (.iadd, 1) := by decide +kernel
theorem dLaw_law_216 : decode mLaw_law.2.1 216 = .ok (.iaload, 1) := by decide +kernel
theorem dLaw_law_217 : decode mLaw_law.2.1 217 = .ok (.aload_n 0, 1) := by decide +kernel
theorem dLaw_law_218 : decode mLaw_law.2.1 218 = .ok (.iload 4, 2) := by decide +kernel
theorem dLaw_law_220 : decode mLaw_law.2.1 220 = .ok (.iconst 3, 1) := by decide +kernel
theorem dLaw_law_221 : decode mLaw_law.2.1 221 = .ok (.iadd, 1) := by decide +kernel
theorem dLaw_law_222 : decode mLaw_law.2.1 222 = .ok (.iaload, 1) := by decide +kernel
theorem dLaw_law_223 : decode mLaw_law.2.1 223 = .ok (.aload_n 0, 1) := by decide +kernel
theorem dLaw_law_224 : decode mLaw_law.2.1 224 = .ok (.iload 4, 2) := by decide +kernel
theorem dLaw_law_226 : decode mLaw_law.2.1 226 = .ok (.iconst 4, 1) := by decide +kernel
theorem dLaw_law_227 : decode mLaw_law.2.1 227 = .ok (.iadd, 1) := by decide +kernel
theorem dLaw_law_228 : decode mLaw_law.2.1 228 = .ok (.iaload, 1) := by decide +kernel
theorem dLaw_law_229 : decode mLaw_law.2.1 229 = .ok (.aload_n 3, 1) := by decide +kernel
theorem dLaw_law_230 : decode mLaw_law.2.1 230 = .ok (.invokestatic 88, 3) := by decide +kernel
theorem dLaw_law_233 : decode mLaw_law.2.1 233 = .ok (.istore 5, 2) := by decide +kernel
theorem dLaw_law_235 : decode mLaw_law.2.1 235 = .ok (.aload_n 2, 1) := by decide +kernel
theorem dLaw_law_236 : decode mLaw_law.2.1 236 = .ok (.aload_n 0, 1) := by decide +kernel
theorem dLaw_law_237 : decode mLaw_law.2.1 237 = .ok (.iload 4, 2) := by decide +kernel
theorem dLaw_law_239 : decode mLaw_law.2.1 239 = .ok (.iconst 1, 1) := by decide +kernel
theorem dLaw_law_240 : decode mLaw_law.2.1 240 = .ok (.iadd, 1) := by decide +kernel
theorem dLaw_law_241 : decode mLaw_law.2.1 241 = .ok (.iaload, 1) := by decide +kernel
theorem dLaw_law_242 : decode mLaw_law.2.1 242 = .ok (.aload_n 0, 1) := by decide +kernel
theorem dLaw_law_243 : decode mLaw_law.2.1 243 = .ok (.iload 4, 2) := by decide +kernel
theorem dLaw_law_245 : decode mLaw_law.2.1 245 = .ok (.iconst 2, 1) := by decide +kernel
theorem dLaw_law_246 : decode mLaw_law.2.1 246 = .ok (.iadd, 1) := by decide +kernel
theorem dLaw_law_247 : decode mLaw_law.2.1 247 = .ok (.iaload, 1) := by decide +kernel
theorem dLaw_law_248 : decode mLaw_law.2.1 248 = .ok (.aload_n 0, 1) := by decide +kernel
theorem dLaw_law_249 : decode mLaw_law.2.1 249 = .ok (.iload 4, 2) := by decide +kernel
theorem dLaw_law_251 : decode mLaw_law.2.1 251 = .ok (.iconst 3, 1) := by decide +kernel
theorem dLaw_law_252 : decode mLaw_law.2.1 252 = .ok (.iadd, 1) := by decide +kernel
theorem dLaw_law_253 : decode mLaw_law.2.1 253 = .ok (.iaload, 1) := by decide +kernel
theorem dLaw_law_254 : decode mLaw_law.2.1 254 = .ok (.aload_n 0, 1) := by decide +kernel
theorem dLaw_law_255 : decode mLaw_law.2.1 255 = .ok (.iload 4, 2) := by decide +kernel
theorem dLaw_law_257 : decode mLaw_law.2.1 257 = .ok (.iconst 4, 1) := by decide +kernel
theorem dLaw_law_258 : decode mLaw_law.2.1 258 = .ok (.iadd, 1) := by decide +kernel
theorem dLaw_law_259 : decode mLaw_law.2.1 259 = .ok (.iaload, 1) := by decide +kernel
theorem dLaw_law_260 : decode mLaw_law.2.1 260 = .ok (.invokevirtual 91, 3) := by decide +kernel
theorem dLaw_law_263 : decode mLaw_law.2.1 263 = .ok (.istore 6, 2) := by decide +kernel
theorem dLaw_law_265 : decode mLaw_law.2.1 265 = .ok (.aload_n 2, 1) := by decide +kernel
theorem dLaw_law_266 : decode mLaw_law.2.1 266 = .ok (.invokevirtual 85, 3) := by decide +kernel
theorem dLaw_law_269 : decode mLaw_law.2.1 269 = .ok (.iload 5, 2) := by decide +kernel
theorem dLaw_law_271 : decode mLaw_law.2.1 271 = .ok (.if_icmp .eq 5, 3) := by decide +kernel
theorem dLaw_law_274 : decode mLaw_law.2.1 274 = .ok (.iconst 0, 1) := by decide +kernel
theorem dLaw_law_275 : decode mLaw_law.2.1 275 = .ok (.ireturn, 1) := by decide +kernel
theorem dLaw_law_276 : decode mLaw_law.2.1 276 = .ok (.iload 5, 2) := by decide +kernel
theorem dLaw_law_278 : decode mLaw_law.2.1 278 = .ok (.ifCond .ne 15, 3) := by decide +kernel
theorem dLaw_law_281 : decode mLaw_law.2.1 281 = .ok (.aload_n 3, 1) := by decide +kernel
theorem dLaw_law_282 : decode mLaw_law.2.1 282 = .ok (.iconst 0, 1) := by decide +kernel
theorem dLaw_law_283 : decode mLaw_law.2.1 283 = .ok (.laload, 1) := by decide +kernel
theorem dLaw_law_284 : decode mLaw_law.2.1 284 = .ok (.iload 6, 2) := by decide +kernel
theorem dLaw_law_286 : decode mLaw_law.2.1 286 = .ok (.i2l, 1) := by decide +kernel
theorem dLaw_law_287 : decode mLaw_law.2.1 287 = .ok (.lcmp, 1) := by decide +kernel
theorem dLaw_law_288 : decode mLaw_law.2.1 288 = .ok (.ifCond .eq 5, 3) := by decide +kernel
theorem dLaw_law_291 : decode mLaw_law.2.1 291 = .ok (.iconst 0, 1) := by decide +kernel
theorem dLaw_law_292 : decode mLaw_law.2.1 292 = .ok (.ireturn, 1) := by decide +kernel
theorem dLaw_law_293 : decode mLaw_law.2.1 293 = .ok (.goto 996, 3) := by decide +kernel
theorem dLaw_law_296 : decode mLaw_law.2.1 296 = .ok (.aload_n 1, 1) := by decide +kernel
theorem dLaw_law_297 : decode mLaw_law.2.1 297 = .ok (.aload_n 0, 1) := by decide +kernel
theorem dLaw_law_298 : decode mLaw_law.2.1 298 = .ok (.iload 4, 2) := by decide +kernel
theorem dLaw_law_300 : decode mLaw_law.2.1 300 = .ok (.iconst 1, 1) := by decide +kernel
theorem dLaw_law_301 : decode mLaw_law.2.1 301 = .ok (.iadd, 1) := by decide +kernel
theorem dLaw_law_302 : decode mLaw_law.2.1 302 = .ok (.iaload, 1) := by decide +kernel
theorem dLaw_law_303 : decode mLaw_law.2.1 303 = .ok (.aload_n 0, 1) := by decide +kernel
theorem dLaw_law_304 : decode mLaw_law.2.1 304 = .ok (.iload 4, 2) := by decide +kernel
theorem dLaw_law_306 : decode mLaw_law.2.1 306 = .ok (.iconst 2, 1) := by decide +kernel
theorem dLaw_law_307 : decode mLaw_law.2.1 307 = .ok (.iadd, 1) := by decide +kernel
theorem dLaw_law_308 : decode mLaw_law.2.1 308 = .ok (.iaload, 1) := by decide +kernel
theorem dLaw_law_309 : decode mLaw_law.2.1 309 = .ok (.aload_n 0, 1) := by decide +kernel
theorem dLaw_law_310 : decode mLaw_law.2.1 310 = .ok (.iload 4, 2) := by decide +kernel
theorem dLaw_law_312 : decode mLaw_law.2.1 312 = .ok (.iconst 3, 1) := by decide +kernel
theorem dLaw_law_313 : decode mLaw_law.2.1 313 = .ok (.iadd, 1) := by decide +kernel
theorem dLaw_law_314 : decode mLaw_law.2.1 314 = .ok (.iaload, 1) := by decide +kernel
theorem dLaw_law_315 : decode mLaw_law.2.1 315 = .ok (.aload_n 0, 1) := by decide +kernel
theorem dLaw_law_316 : decode mLaw_law.2.1 316 = .ok (.iload 4, 2) := by decide +kernel
theorem dLaw_law_318 : decode mLaw_law.2.1 318 = .ok (.iconst 4, 1) := by decide +kernel
theorem dLaw_law_319 : decode mLaw_law.2.1 319 = .ok (.iadd, 1) := by decide +kernel
theorem dLaw_law_320 : decode mLaw_law.2.1 320 = .ok (.iaload, 1) := by decide +kernel
theorem dLaw_law_321 : decode mLaw_law.2.1 321 = .ok (.aload_n 3, 1) := by decide +kernel
theorem dLaw_law_322 : decode mLaw_law.2.1 322 = .ok (.invokestatic 92, 3) := by decide +kernel
theorem dLaw_law_325 : decode mLaw_law.2.1 325 = .ok (.istore 5, 2) := by decide +kernel
theorem dLaw_law_327 : decode mLaw_law.2.1 327 = .ok (.aload_n 2, 1) := by decide +kernel
theorem dLaw_law_328 : decode mLaw_law.2.1 328 = .ok (.aload_n 0, 1) := by decide +kernel
theorem dLaw_law_329 : decode mLaw_law.2.1 329 = .ok (.iload 4, 2) := by decide +kernel
theorem dLaw_law_331 : decode mLaw_law.2.1 331 = .ok (.iconst 1, 1) := by decide +kernel
theorem dLaw_law_332 : decode mLaw_law.2.1 332 = .ok (.iadd, 1) := by decide +kernel
theorem dLaw_law_333 : decode mLaw_law.2.1 333 = .ok (.iaload, 1) := by decide +kernel
theorem dLaw_law_334 : decode mLaw_law.2.1 334 = .ok (.aload_n 0, 1) := by decide +kernel
theorem dLaw_law_335 : decode mLaw_law.2.1 335 = .ok (.iload 4, 2) := by decide +kernel
theorem dLaw_law_337 : decode mLaw_law.2.1 337 = .ok (.iconst 2, 1) := by decide +kernel
theorem dLaw_law_338 : decode mLaw_law.2.1 338 = .ok (.iadd, 1) := by decide +kernel
theorem dLaw_law_339 : decode mLaw_law.2.1 339 = .ok (.iaload, 1) := by decide +kernel
theorem dLaw_law_340 : decode mLaw_law.2.1 340 = .ok (.aload_n 0, 1) := by decide +kernel
theorem dLaw_law_341 : decode mLaw_law.2.1 341 = .ok (.iload 4, 2) := by decide +kernel
theorem dLaw_law_343 : decode mLaw_law.2.1 343 = .ok (.iconst 3, 1) := by decide +kernel
theorem dLaw_law_344 : decode mLaw_law.2.1 344 = .ok (.iadd, 1) := by decide +kernel
theorem dLaw_law_345 : decode mLaw_law.2.1 345 = .ok (.iaload, 1) := by decide +kernel
theorem dLaw_law_346 : decode mLaw_law.2.1 346 = .ok (.aload_n 0, 1) := by decide +kernel
theorem dLaw_law_347 : decode mLaw_law.2.1 347 = .ok (.iload 4, 2) := by decide +kernel
theorem dLaw_law_349 : decode mLaw_law.2.1 349 = .ok (.iconst 4, 1) := by decide +kernel
theorem dLaw_law_350 : decode mLaw_law.2.1 350 = .ok (.iadd, 1) := by decide +kernel
theorem dLaw_law_351 : decode mLaw_law.2.1 351 = .ok (.iaload, 1) := by decide +kernel
theorem dLaw_law_352 : decode mLaw_law.2.1 352 = .ok (.invokevirtual 94, 3) := by decide +kernel
theorem dLaw_law_355 : decode mLaw_law.2.1 355 = .ok (.istore 6, 2) := by decide +kernel
theorem dLaw_law_357 : decode mLaw_law.2.1 357 = .ok (.aload_n 2, 1) := by decide +kernel
theorem dLaw_law_358 : decode mLaw_law.2.1 358 = .ok (.invokevirtual 85, 3) := by decide +kernel
theorem dLaw_law_361 : decode mLaw_law.2.1 361 = .ok (.iload 5, 2) := by decide +kernel
theorem dLaw_law_363 : decode mLaw_law.2.1 363 = .ok (.if_icmp .eq 5, 3) := by decide +kernel
theorem dLaw_law_366 : decode mLaw_law.2.1 366 = .ok (.iconst 0, 1) := by decide +kernel
theorem dLaw_law_367 : decode mLaw_law.2.1 367 = .ok (.ireturn, 1) := by decide +kernel
theorem dLaw_law_368 : decode mLaw_law.2.1 368 = .ok (.iload 5, 2) := by decide +kernel
theorem dLaw_law_370 : decode mLaw_law.2.1 370 = .ok (.ifCond .ne 15, 3) := by decide +kernel
theorem dLaw_law_373 : decode mLaw_law.2.1 373 = .ok (.aload_n 3, 1) := by decide +kernel
theorem dLaw_law_374 : decode mLaw_law.2.1 374 = .ok (.iconst 0, 1) := by decide +kernel
theorem dLaw_law_375 : decode mLaw_law.2.1 375 = .ok (.laload, 1) := by decide +kernel
theorem dLaw_law_376 : decode mLaw_law.2.1 376 = .ok (.iload 6, 2) := by decide +kernel
theorem dLaw_law_378 : decode mLaw_law.2.1 378 = .ok (.i2l, 1) := by decide +kernel
theorem dLaw_law_379 : decode mLaw_law.2.1 379 = .ok (.lcmp, 1) := by decide +kernel
theorem dLaw_law_380 : decode mLaw_law.2.1 380 = .ok (.ifCond .eq 5, 3) := by decide +kernel
theorem dLaw_law_383 : decode mLaw_law.2.1 383 = .ok (.iconst 0, 1) := by decide +kernel
theorem dLaw_law_384 : decode mLaw_law.2.1 384 = .ok (.ireturn, 1) := by decide +kernel
theorem dLaw_law_385 : decode mLaw_law.2.1 385 = .ok (.goto 904, 3) := by decide +kernel
theorem dLaw_law_388 : decode mLaw_law.2.1 388 = .ok (.aload_n 1, 1) := by decide +kernel
theorem dLaw_law_389 : decode mLaw_law.2.1 389 = .ok (.aload_n 0, 1) := by decide +kernel
theorem dLaw_law_390 : decode mLaw_law.2.1 390 = .ok (.iload 4, 2) := by decide +kernel
theorem dLaw_law_392 : decode mLaw_law.2.1 392 = .ok (.iconst 1, 1) := by decide +kernel
theorem dLaw_law_393 : decode mLaw_law.2.1 393 = .ok (.iadd, 1) := by decide +kernel
theorem dLaw_law_394 : decode mLaw_law.2.1 394 = .ok (.iaload, 1) := by decide +kernel
theorem dLaw_law_395 : decode mLaw_law.2.1 395 = .ok (.aload_n 0, 1) := by decide +kernel
theorem dLaw_law_396 : decode mLaw_law.2.1 396 = .ok (.iload 4, 2) := by decide +kernel
theorem dLaw_law_398 : decode mLaw_law.2.1 398 = .ok (.iconst 2, 1) := by decide +kernel
theorem dLaw_law_399 : decode mLaw_law.2.1 399 = .ok (.iadd, 1) := by decide +kernel
theorem dLaw_law_400 : decode mLaw_law.2.1 400 = .ok (.iaload, 1) := by decide +kernel
theorem dLaw_law_401 : decode mLaw_law.2.1 401 = .ok (.aload_n 3, 1) := by decide +kernel
theorem dLaw_law_402 : decode mLaw_law.2.1 402 = .ok (.invokestatic 95, 3) := by decide +kernel
theorem dLaw_law_405 : decode mLaw_law.2.1 405 = .ok (.istore 5, 2) := by decide +kernel
theorem dLaw_law_407 : decode mLaw_law.2.1 407 = .ok (.aload_n 2, 1) := by decide +kernel
theorem dLaw_law_408 : decode mLaw_law.2.1 408 = .ok (.aload_n 0, 1) := by decide +kernel
theorem dLaw_law_409 : decode mLaw_law.2.1 409 = .ok (.iload 4, 2) := by decide +kernel
theorem dLaw_law_411 : decode mLaw_law.2.1 411 = .ok (.iconst 1, 1) := by decide +kernel
theorem dLaw_law_412 : decode mLaw_law.2.1 412 = .ok (.iadd, 1) := by decide +kernel
theorem dLaw_law_413 : decode mLaw_law.2.1 413 = .ok (.iaload, 1) := by decide +kernel
theorem dLaw_law_414 : decode mLaw_law.2.1 414 = .ok (.aload_n 0, 1) := by decide +kernel
theorem dLaw_law_415 : decode mLaw_law.2.1 415 = .ok (.iload 4, 2) := by decide +kernel
theorem dLaw_law_417 : decode mLaw_law.2.1 417 = .ok (.iconst 2, 1) := by decide +kernel
theorem dLaw_law_418 : decode mLaw_law.2.1 418 = .ok (.iadd, 1) := by decide +kernel
theorem dLaw_law_419 : decode mLaw_law.2.1 419 = .ok (.iaload, 1) := by decide +kernel
theorem dLaw_law_420 : decode mLaw_law.2.1 420 = .ok (.invokevirtual 98, 3) := by decide +kernel
theorem dLaw_law_423 : decode mLaw_law.2.1 423 = .ok (.istore 6, 2) := by decide +kernel
theorem dLaw_law_425 : decode mLaw_law.2.1 425 = .ok (.aload_n 2, 1) := by decide +kernel
theorem dLaw_law_426 : decode mLaw_law.2.1 426 = .ok (.invokevirtual 85, 3) := by decide +kernel
theorem dLaw_law_429 : decode mLaw_law.2.1 429 = .ok (.iload 5, 2) := by decide +kernel
theorem dLaw_law_431 : decode mLaw_law.2.1 431 = .ok (.if_icmp .eq 5, 3) := by decide +kernel
theorem dLaw_law_434 : decode mLaw_law.2.1 434 = .ok (.iconst 0, 1) := by decide +kernel
theorem dLaw_law_435 : decode mLaw_law.2.1 435 = .ok (.ireturn, 1) := by decide +kernel
theorem dLaw_law_436 : decode mLaw_law.2.1 436 = .ok (.iload 5, 2) := by decide +kernel
theorem dLaw_law_438 : decode mLaw_law.2.1 438 = .ok (.ifCond .ne 15, 3) := by decide +kernel
theorem dLaw_law_441 : decode mLaw_law.2.1 441 = .ok (.aload_n 3, 1) := by decide +kernel
theorem dLaw_law_442 : decode mLaw_law.2.1 442 = .ok (.iconst 0, 1) := by decide +kernel
theorem dLaw_law_443 : decode mLaw_law.2.1 443 = .ok (.laload, 1) := by decide +kernel
theorem dLaw_law_444 : decode mLaw_law.2.1 444 = .ok (.iload 6, 2) := by decide +kernel
theorem dLaw_law_446 : decode mLaw_law.2.1 446 = .ok (.i2l, 1) := by decide +kernel
theorem dLaw_law_447 : decode mLaw_law.2.1 447 = .ok (.lcmp, 1) := by decide +kernel
theorem dLaw_law_448 : decode mLaw_law.2.1 448 = .ok (.ifCond .eq 5, 3) := by decide +kernel
theorem dLaw_law_451 : decode mLaw_law.2.1 451 = .ok (.iconst 0, 1) := by decide +kernel
theorem dLaw_law_452 : decode mLaw_law.2.1 452 = .ok (.ireturn, 1) := by decide +kernel
theorem dLaw_law_453 : decode mLaw_law.2.1 453 = .ok (.goto 836, 3) := by decide +kernel
theorem dLaw_law_456 : decode mLaw_law.2.1 456 = .ok (.aload_n 1, 1) := by decide +kernel
theorem dLaw_law_457 : decode mLaw_law.2.1 457 = .ok (.aload_n 0, 1) := by decide +kernel
theorem dLaw_law_458 : decode mLaw_law.2.1 458 = .ok (.iload 4, 2) := by decide +kernel
theorem dLaw_law_460 : decode mLaw_law.2.1 460 = .ok (.iconst 1, 1) := by decide +kernel
theorem dLaw_law_461 : decode mLaw_law.2.1 461 = .ok (.iadd, 1) := by decide +kernel
theorem dLaw_law_462 : decode mLaw_law.2.1 462 = .ok (.iaload, 1) := by decide +kernel
theorem dLaw_law_463 : decode mLaw_law.2.1 463 = .ok (.aload_n 3, 1) := by decide +kernel
theorem dLaw_law_464 : decode mLaw_law.2.1 464 = .ok (.invokestatic 99, 3) := by decide +kernel
theorem dLaw_law_467 : decode mLaw_law.2.1 467 = .ok (.istore 5, 2) := by decide +kernel
theorem dLaw_law_469 : decode mLaw_law.2.1 469 = .ok (.aload_n 2, 1) := by decide +kernel
theorem dLaw_law_470 : decode mLaw_law.2.1 470 = .ok (.aload_n 0, 1) := by decide +kernel
theorem dLaw_law_471 : decode mLaw_law.2.1 471 = .ok (.iload 4, 2) := by decide +kernel
theorem dLaw_law_473 : decode mLaw_law.2.1 473 = .ok (.iconst 1, 1) := by decide +kernel
theorem dLaw_law_474 : decode mLaw_law.2.1 474 = .ok (.iadd, 1) := by decide +kernel
theorem dLaw_law_475 : decode mLaw_law.2.1 475 = .ok (.iaload, 1) := by decide +kernel
theorem dLaw_law_476 : decode mLaw_law.2.1 476 = .ok (.invokevirtual 102, 3) := by decide +kernel
theorem dLaw_law_479 : decode mLaw_law.2.1 479 = .ok (.istore 6, 2) := by decide +kernel
theorem dLaw_law_481 : decode mLaw_law.2.1 481 = .ok (.aload_n 2, 1) := by decide +kernel
theorem dLaw_law_482 : decode mLaw_law.2.1 482 = .ok (.invokevirtual 85, 3) := by decide +kernel
theorem dLaw_law_485 : decode mLaw_law.2.1 485 = .ok (.iload 5, 2) := by decide +kernel
theorem dLaw_law_487 : decode mLaw_law.2.1 487 = .ok (.if_icmp .eq 5, 3) := by decide +kernel
theorem dLaw_law_490 : decode mLaw_law.2.1 490 = .ok (.iconst 0, 1) := by decide +kernel
theorem dLaw_law_491 : decode mLaw_law.2.1 491 = .ok (.ireturn, 1) := by decide +kernel
theorem dLaw_law_492 : decode mLaw_law.2.1 492 = .ok (.iload 5, 2) := by decide +kernel
theorem dLaw_law_494 : decode mLaw_law.2.1 494 = .ok (.ifCond .ne 15, 3) := by decide +kernel
theorem dLaw_law_497 : decode mLaw_law.2.1 497 = .ok (.aload_n 3, 1) := by decide +kernel
theorem dLaw_law_498 : decode mLaw_law.2.1 498 = .ok (.iconst 0, 1) := by decide +kernel
theorem dLaw_law_499 : decode mLaw_law.2.1 499 = .ok (.laload, 1) := by decide +kernel
theorem dLaw_law_500 : decode mLaw_law.2.1 500 = .ok (.iload 6, 2) := by decide +kernel
theorem dLaw_law_502 : decode mLaw_law.2.1 502 = .ok (.i2l, 1) := by decide +kernel
theorem dLaw_law_503 : decode mLaw_law.2.1 503 = .ok (.lcmp, 1) := by decide +kernel
theorem dLaw_law_504 : decode mLaw_law.2.1 504 = .ok (.ifCond .eq 5, 3) := by decide +kernel
theorem dLaw_law_507 : decode mLaw_law.2.1 507 = .ok (.iconst 0, 1) := by decide +kernel
theorem dLaw_law_508 : decode mLaw_law.2.1 508 = .ok (.ireturn, 1) := by decide +kernel
theorem dLaw_law_509 : decode mLaw_law.2.1 509 = .ok (.goto 780, 3) := by decide +kernel
theorem dLaw_law_512 : decode mLaw_law.2.1 512 = .ok (.aload_n 1, 1) := by decide +kernel
theorem dLaw_law_513 : decode mLaw_law.2.1 513 = .ok (.aload_n 0, 1) := by decide +kernel
theorem dLaw_law_514 : decode mLaw_law.2.1 514 = .ok (.iload 4, 2) := by decide +kernel
theorem dLaw_law_516 : decode mLaw_law.2.1 516 = .ok (.iconst 1, 1) := by decide +kernel
theorem dLaw_law_517 : decode mLaw_law.2.1 517 = .ok (.iadd, 1) := by decide +kernel
theorem dLaw_law_518 : decode mLaw_law.2.1 518 = .ok (.iaload, 1) := by decide +kernel
theorem dLaw_law_519 : decode mLaw_law.2.1 519 = .ok (.aload_n 0, 1) := by decide +kernel
theorem dLaw_law_520 : decode mLaw_law.2.1 520 = .ok (.iload 4, 2) := by decide +kernel
theorem dLaw_law_522 : decode mLaw_law.2.1 522 = .ok (.iconst 2, 1) := by decide +kernel
theorem dLaw_law_523 : decode mLaw_law.2.1 523 = .ok (.iadd, 1) := by decide +kernel
theorem dLaw_law_524 : decode mLaw_law.2.1 524 = .ok (.iaload, 1) := by decide +kernel
theorem dLaw_law_525 : decode mLaw_law.2.1 525 = .ok (.aload_n 3, 1) := by decide +kernel
theorem dLaw_law_526 : decode mLaw_law.2.1 526 = .ok (.invokestatic 103, 3) := by decide +kernel
theorem dLaw_law_529 : decode mLaw_law.2.1 529 = .ok (.istore 5, 2) := by decide +kernel
theorem dLaw_law_531 : decode mLaw_law.2.1 531 = .ok (.aload_n 2, 1) := by decide +kernel
theorem dLaw_law_532 : decode mLaw_law.2.1 532 = .ok (.aload_n 0, 1) := by decide +kernel
theorem dLaw_law_533 : decode mLaw_law.2.1 533 = .ok (.iload 4, 2) := by decide +kernel
theorem dLaw_law_535 : decode mLaw_law.2.1 535 = .ok (.iconst 1, 1) := by decide +kernel
theorem dLaw_law_536 : decode mLaw_law.2.1 536 = .ok (.iadd, 1) := by decide +kernel
theorem dLaw_law_537 : decode mLaw_law.2.1 537 = .ok (.iaload, 1) := by decide +kernel
theorem dLaw_law_538 : decode mLaw_law.2.1 538 = .ok (.aload_n 0, 1) := by decide +kernel
theorem dLaw_law_539 : decode mLaw_law.2.1 539 = .ok (.iload 4, 2) := by decide +kernel
theorem dLaw_law_541 : decode mLaw_law.2.1 541 = .ok (.iconst 2, 1) := by decide +kernel
theorem dLaw_law_542 : decode mLaw_law.2.1 542 = .ok (.iadd, 1) := by decide +kernel
theorem dLaw_law_543 : decode mLaw_law.2.1 543 = .ok (.iaload, 1) := by decide +kernel
theorem dLaw_law_544 : decode mLaw_law.2.1 544 = .ok (.invokevirtual 105, 3) := by decide +kernel
theorem dLaw_law_547 : decode mLaw_law.2.1 547 = .ok (.istore 6, 2) := by decide +kernel
theorem dLaw_law_549 : decode mLaw_law.2.1 549 = .ok (.aload_n 2, 1) := by decide +kernel
theorem dLaw_law_550 : decode mLaw_law.2.1 550 = .ok (.invokevirtual 85, 3) := by decide +kernel
theorem dLaw_law_553 : decode mLaw_law.2.1 553 = .ok (.iload 5, 2) := by decide +kernel
theorem dLaw_law_555 : decode mLaw_law.2.1 555 = .ok (.if_icmp .eq 5, 3) := by decide +kernel
theorem dLaw_law_558 : decode mLaw_law.2.1 558 = .ok (.iconst 0, 1) := by decide +kernel
theorem dLaw_law_559 : decode mLaw_law.2.1 559 = .ok (.ireturn, 1) := by decide +kernel
theorem dLaw_law_560 : decode mLaw_law.2.1 560 = .ok (.iload 5, 2) := by decide +kernel
theorem dLaw_law_562 : decode mLaw_law.2.1 562 = .ok (.ifCond .ne 15, 3) := by decide +kernel
theorem dLaw_law_565 : decode mLaw_law.2.1 565 = .ok (.aload_n 3, 1) := by decide +kernel
theorem dLaw_law_566 : decode mLaw_law.2.1 566 = .ok (.iconst 0, 1) := by decide +kernel
theorem dLaw_law_567 : decode mLaw_law.2.1 567 = .ok (.laload, 1) := by decide +kernel
theorem dLaw_law_568 : decode mLaw_law.2.1 568 = .ok (.iload 6, 2) := by decide +kernel
theorem dLaw_law_570 : decode mLaw_law.2.1 570 = .ok (.i2l, 1) := by decide +kernel
theorem dLaw_law_571 : decode mLaw_law.2.1 571 = .ok (.lcmp, 1) := by decide +kernel
theorem dLaw_law_572 : decode mLaw_law.2.1 572 = .ok (.ifCond .eq 5, 3) := by decide +kernel
theorem dLaw_law_575 : decode mLaw_law.2.1 575 = .ok (.iconst 0, 1) := by decide +kernel
theorem dLaw_law_576 : decode mLaw_law.2.1 576 = .ok (.ireturn, 1) := by decide +kernel
theorem dLaw_law_577 : decode mLaw_law.2.1 577 = .ok (.goto 712, 3) := by decide +kernel
theorem dLaw_law_580 : decode mLaw_law.2.1 580 = .ok (.aload_n 1, 1) := by decide +kernel
theorem dLaw_law_581 : decode mLaw_law.2.1 581 = .ok (.aload_n 3, 1) := by decide +kernel
theorem dLaw_law_582 : decode mLaw_law.2.1 582 = .ok (.invokestatic 106, 3) := by decide +kernel
theorem dLaw_law_585 : decode mLaw_law.2.1 585 = .ok (.istore 5, 2) := by decide +kernel
theorem dLaw_law_587 : decode mLaw_law.2.1 587 = .ok (.aload_n 2, 1) := by decide +kernel
theorem dLaw_law_588 : decode mLaw_law.2.1 588 = .ok (.invokevirtual 109, 3) := by decide +kernel
theorem dLaw_law_591 : decode mLaw_law.2.1 591 = .ok (.istore 6, 2) := by decide +kernel
theorem dLaw_law_593 : decode mLaw_law.2.1 593 = .ok (.aload_n 2, 1) := by decide +kernel
theorem dLaw_law_594 : decode mLaw_law.2.1 594 = .ok (.invokevirtual 85, 3) := by decide +kernel
theorem dLaw_law_597 : decode mLaw_law.2.1 597 = .ok (.iload 5, 2) := by decide +kernel
theorem dLaw_law_599 : decode mLaw_law.2.1 599 = .ok (.if_icmp .eq 5, 3) := by decide +kernel
theorem dLaw_law_602 : decode mLaw_law.2.1 602 = .ok (.iconst 0, 1) := by decide +kernel
theorem dLaw_law_603 : decode mLaw_law.2.1 603 = .ok (.ireturn, 1) := by decide +kernel
theorem dLaw_law_604 : decode mLaw_law.2.1 604 = .ok (.iload 5, 2) := by decide +kernel
theorem dLaw_law_606 : decode mLaw_law.2.1 606 = .ok (.ifCond .ne 15, 3) := by decide +kernel
theorem dLaw_law_609 : decode mLaw_law.2.1 609 = .ok (.aload_n 3, 1) := by decide +kernel
theorem dLaw_law_610 : decode mLaw_law.2.1 610 = .ok (.iconst 0, 1) := by decide +kernel
theorem dLaw_law_611 : decode mLaw_law.2.1 611 = .ok (.laload, 1) := by decide +kernel
theorem dLaw_law_612 : decode mLaw_law.2.1 612 = .ok (.iload 6, 2) := by decide +kernel
theorem dLaw_law_614 : decode mLaw_law.2.1 614 = .ok (.i2l, 1) := by decide +kernel
theorem dLaw_law_615 : decode mLaw_law.2.1 615 = .ok (.lcmp, 1) := by decide +kernel
theorem dLaw_law_616 : decode mLaw_law.2.1 616 = .ok (.ifCond .eq 5, 3) := by decide +kernel
theorem dLaw_law_619 : decode mLaw_law.2.1 619 = .ok (.iconst 0, 1) := by decide +kernel
theorem dLaw_law_620 : decode mLaw_law.2.1 620 = .ok (.ireturn, 1) := by decide +kernel
theorem dLaw_law_621 : decode mLaw_law.2.1 621 = .ok (.goto 668, 3) := by decide +kernel
theorem dLaw_law_624 : decode mLaw_law.2.1 624 = .ok (.aload_n 1, 1) := by decide +kernel
theorem dLaw_law_625 : decode mLaw_law.2.1 625 = .ok (.aload_n 3, 1) := by decide +kernel
theorem dLaw_law_626 : decode mLaw_law.2.1 626 = .ok (.invokestatic 110, 3) := by decide +kernel
theorem dLaw_law_629 : decode mLaw_law.2.1 629 = .ok (.istore 5, 2) := by decide +kernel
theorem dLaw_law_631 : decode mLaw_law.2.1 631 = .ok (.aload_n 2, 1) := by decide +kernel
theorem dLaw_law_632 : decode mLaw_law.2.1 632 = .ok (.invokevirtual 112, 3) := by decide +kernel
theorem dLaw_law_635 : decode mLaw_law.2.1 635 = .ok (.istore 6, 2) := by decide +kernel
theorem dLaw_law_637 : decode mLaw_law.2.1 637 = .ok (.aload_n 2, 1) := by decide +kernel
theorem dLaw_law_638 : decode mLaw_law.2.1 638 = .ok (.invokevirtual 85, 3) := by decide +kernel
theorem dLaw_law_641 : decode mLaw_law.2.1 641 = .ok (.iload 5, 2) := by decide +kernel
theorem dLaw_law_643 : decode mLaw_law.2.1 643 = .ok (.if_icmp .eq 5, 3) := by decide +kernel
theorem dLaw_law_646 : decode mLaw_law.2.1 646 = .ok (.iconst 0, 1) := by decide +kernel
theorem dLaw_law_647 : decode mLaw_law.2.1 647 = .ok (.ireturn, 1) := by decide +kernel
theorem dLaw_law_648 : decode mLaw_law.2.1 648 = .ok (.iload 5, 2) := by decide +kernel
theorem dLaw_law_650 : decode mLaw_law.2.1 650 = .ok (.ifCond .ne 15, 3) := by decide +kernel
theorem dLaw_law_653 : decode mLaw_law.2.1 653 = .ok (.aload_n 3, 1) := by decide +kernel
theorem dLaw_law_654 : decode mLaw_law.2.1 654 = .ok (.iconst 0, 1) := by decide +kernel
theorem dLaw_law_655 : decode mLaw_law.2.1 655 = .ok (.laload, 1) := by decide +kernel
theorem dLaw_law_656 : decode mLaw_law.2.1 656 = .ok (.iload 6, 2) := by decide +kernel
theorem dLaw_law_658 : decode mLaw_law.2.1 658 = .ok (.i2l, 1) := by decide +kernel
theorem dLaw_law_659 : decode mLaw_law.2.1 659 = .ok (.lcmp, 1) := by decide +kernel
theorem dLaw_law_660 : decode mLaw_law.2.1 660 = .ok (.ifCond .eq 5, 3) := by decide +kernel
theorem dLaw_law_663 : decode mLaw_law.2.1 663 = .ok (.iconst 0, 1) := by decide +kernel
theorem dLaw_law_664 : decode mLaw_law.2.1 664 = .ok (.ireturn, 1) := by decide +kernel
theorem dLaw_law_665 : decode mLaw_law.2.1 665 = .ok (.goto 624, 3) := by decide +kernel
theorem dLaw_law_668 : decode mLaw_law.2.1 668 = .ok (.aload_n 1, 1) := by decide +kernel
theorem dLaw_law_669 : decode mLaw_law.2.1 669 = .ok (.aload_n 0, 1) := by decide +kernel
theorem dLaw_law_670 : decode mLaw_law.2.1 670 = .ok (.iload 4, 2) := by decide +kernel
theorem dLaw_law_672 : decode mLaw_law.2.1 672 = .ok (.iconst 1, 1) := by decide +kernel
theorem dLaw_law_673 : decode mLaw_law.2.1 673 = .ok (.iadd, 1) := by decide +kernel
theorem dLaw_law_674 : decode mLaw_law.2.1 674 = .ok (.iaload, 1) := by decide +kernel
theorem dLaw_law_675 : decode mLaw_law.2.1 675 = .ok (.aload_n 3, 1) := by decide +kernel
theorem dLaw_law_676 : decode mLaw_law.2.1 676 = .ok (.invokestatic 113, 3) := by decide +kernel
theorem dLaw_law_679 : decode mLaw_law.2.1 679 = .ok (.istore 5, 2) := by decide +kernel
theorem dLaw_law_681 : decode mLaw_law.2.1 681 = .ok (.aload_n 2, 1) := by decide +kernel
theorem dLaw_law_682 : decode mLaw_law.2.1 682 = .ok (.aload_n 0, 1) := by decide +kernel
theorem dLaw_law_683 : decode mLaw_law.2.1 683 = .ok (.iload 4, 2) := by decide +kernel
theorem dLaw_law_685 : decode mLaw_law.2.1 685 = .ok (.iconst 1, 1) := by decide +kernel
theorem dLaw_law_686 : decode mLaw_law.2.1 686 = .ok (.iadd, 1) := by decide +kernel
theorem dLaw_law_687 : decode mLaw_law.2.1 687 = .ok (.iaload, 1) := by decide +kernel
theorem dLaw_law_688 : decode mLaw_law.2.1 688 = .ok (.invokevirtual 115, 3) := by decide +kernel
theorem dLaw_law_691 : decode mLaw_law.2.1 691 = .ok (.istore 6, 2) := by decide +kernel
theorem dLaw_law_693 : decode mLaw_law.2.1 693 = .ok (.aload_n 2, 1) := by decide +kernel
theorem dLaw_law_694 : decode mLaw_law.2.1 694 = .ok (.invokevirtual 85, 3) := by decide +kernel
theorem dLaw_law_697 : decode mLaw_law.2.1 697 = .ok (.iload 5, 2) := by decide +kernel
theorem dLaw_law_699 : decode mLaw_law.2.1 699 = .ok (.if_icmp .eq 5, 3) := by decide +kernel
theorem dLaw_law_702 : decode mLaw_law.2.1 702 = .ok (.iconst 0, 1) := by decide +kernel
theorem dLaw_law_703 : decode mLaw_law.2.1 703 = .ok (.ireturn, 1) := by decide +kernel
theorem dLaw_law_704 : decode mLaw_law.2.1 704 = .ok (.iload 5, 2) := by decide +kernel
theorem dLaw_law_706 : decode mLaw_law.2.1 706 = .ok (.ifCond .ne 15, 3) := by decide +kernel
theorem dLaw_law_709 : decode mLaw_law.2.1 709 = .ok (.aload_n 3, 1) := by decide +kernel
theorem dLaw_law_710 : decode mLaw_law.2.1 710 = .ok (.iconst 0, 1) := by decide +kernel
theorem dLaw_law_711 : decode mLaw_law.2.1 711 = .ok (.laload, 1) := by decide +kernel
theorem dLaw_law_712 : decode mLaw_law.2.1 712 = .ok (.iload 6, 2) := by decide +kernel
theorem dLaw_law_714 : decode mLaw_law.2.1 714 = .ok (.i2l, 1) := by decide +kernel
theorem dLaw_law_715 : decode mLaw_law.2.1 715 = .ok (.lcmp, 1) := by decide +kernel
theorem dLaw_law_716 : decode mLaw_law.2.1 716 = .ok (.ifCond .eq 5, 3) := by decide +kernel
theorem dLaw_law_719 : decode mLaw_law.2.1 719 = .ok (.iconst 0, 1) := by decide +kernel
theorem dLaw_law_720 : decode mLaw_law.2.1 720 = .ok (.ireturn, 1) := by decide +kernel
theorem dLaw_law_721 : decode mLaw_law.2.1 721 = .ok (.goto 568, 3) := by decide +kernel
theorem dLaw_law_724 : decode mLaw_law.2.1 724 = .ok (.aload_n 1, 1) := by decide +kernel
theorem dLaw_law_725 : decode mLaw_law.2.1 725 = .ok (.aload_n 0, 1) := by decide +kernel
theorem dLaw_law_726 : decode mLaw_law.2.1 726 = .ok (.iload 4, 2) := by decide +kernel
theorem dLaw_law_728 : decode mLaw_law.2.1 728 = .ok (.iconst 1, 1) := by decide +kernel
theorem dLaw_law_729 : decode mLaw_law.2.1 729 = .ok (.iadd, 1) := by decide +kernel
theorem dLaw_law_730 : decode mLaw_law.2.1 730 = .ok (.iaload, 1) := by decide +kernel
theorem dLaw_law_731 : decode mLaw_law.2.1 731 = .ok (.aload_n 3, 1) := by decide +kernel
theorem dLaw_law_732 : decode mLaw_law.2.1 732 = .ok (.invokestatic 116, 3) := by decide +kernel
theorem dLaw_law_735 : decode mLaw_law.2.1 735 = .ok (.istore 5, 2) := by decide +kernel
theorem dLaw_law_737 : decode mLaw_law.2.1 737 = .ok (.aload_n 2, 1) := by decide +kernel
theorem dLaw_law_738 : decode mLaw_law.2.1 738 = .ok (.aload_n 0, 1) := by decide +kernel
theorem dLaw_law_739 : decode mLaw_law.2.1 739 = .ok (.iload 4, 2) := by decide +kernel
theorem dLaw_law_741 : decode mLaw_law.2.1 741 = .ok (.iconst 1, 1) := by decide +kernel
theorem dLaw_law_742 : decode mLaw_law.2.1 742 = .ok (.iadd, 1) := by decide +kernel
theorem dLaw_law_743 : decode mLaw_law.2.1 743 = .ok (.iaload, 1) := by decide +kernel
theorem dLaw_law_744 : decode mLaw_law.2.1 744 = .ok (.invokevirtual 118, 3) := by decide +kernel
theorem dLaw_law_747 : decode mLaw_law.2.1 747 = .ok (.istore 6, 2) := by decide +kernel
theorem dLaw_law_749 : decode mLaw_law.2.1 749 = .ok (.aload_n 2, 1) := by decide +kernel
theorem dLaw_law_750 : decode mLaw_law.2.1 750 = .ok (.invokevirtual 85, 3) := by decide +kernel
theorem dLaw_law_753 : decode mLaw_law.2.1 753 = .ok (.iload 5, 2) := by decide +kernel
theorem dLaw_law_755 : decode mLaw_law.2.1 755 = .ok (.if_icmp .eq 5, 3) := by decide +kernel
theorem dLaw_law_758 : decode mLaw_law.2.1 758 = .ok (.iconst 0, 1) := by decide +kernel
theorem dLaw_law_759 : decode mLaw_law.2.1 759 = .ok (.ireturn, 1) := by decide +kernel
theorem dLaw_law_760 : decode mLaw_law.2.1 760 = .ok (.iload 5, 2) := by decide +kernel
theorem dLaw_law_762 : decode mLaw_law.2.1 762 = .ok (.ifCond .ne 15, 3) := by decide +kernel
theorem dLaw_law_765 : decode mLaw_law.2.1 765 = .ok (.aload_n 3, 1) := by decide +kernel
theorem dLaw_law_766 : decode mLaw_law.2.1 766 = .ok (.iconst 0, 1) := by decide +kernel
theorem dLaw_law_767 : decode mLaw_law.2.1 767 = .ok (.laload, 1) := by decide +kernel
theorem dLaw_law_768 : decode mLaw_law.2.1 768 = .ok (.iload 6, 2) := by decide +kernel
theorem dLaw_law_770 : decode mLaw_law.2.1 770 = .ok (.i2l, 1) := by decide +kernel
theorem dLaw_law_771 : decode mLaw_law.2.1 771 = .ok (.lcmp, 1) := by decide +kernel
theorem dLaw_law_772 : decode mLaw_law.2.1 772 = .ok (.ifCond .eq 5, 3) := by decide +kernel
theorem dLaw_law_775 : decode mLaw_law.2.1 775 = .ok (.iconst 0, 1) := by decide +kernel
theorem dLaw_law_776 : decode mLaw_law.2.1 776 = .ok (.ireturn, 1) := by decide +kernel
theorem dLaw_law_777 : decode mLaw_law.2.1 777 = .ok (.goto 512, 3) := by decide +kernel
theorem dLaw_law_780 : decode mLaw_law.2.1 780 = .ok (.aload_n 1, 1) := by decide +kernel
theorem dLaw_law_781 : decode mLaw_law.2.1 781 = .ok (.aload_n 0, 1) := by decide +kernel
theorem dLaw_law_782 : decode mLaw_law.2.1 782 = .ok (.iload 4, 2) := by decide +kernel
theorem dLaw_law_784 : decode mLaw_law.2.1 784 = .ok (.iconst 1, 1) := by decide +kernel
theorem dLaw_law_785 : decode mLaw_law.2.1 785 = .ok (.iadd, 1) := by decide +kernel
theorem dLaw_law_786 : decode mLaw_law.2.1 786 = .ok (.iaload, 1) := by decide +kernel
theorem dLaw_law_787 : decode mLaw_law.2.1 787 = .ok (.aload_n 0, 1) := by decide +kernel
theorem dLaw_law_788 : decode mLaw_law.2.1 788 = .ok (.iload 4, 2) := by decide +kernel
theorem dLaw_law_790 : decode mLaw_law.2.1 790 = .ok (.iconst 2, 1) := by decide +kernel
theorem dLaw_law_791 : decode mLaw_law.2.1 791 = .ok (.iadd, 1) := by decide +kernel
theorem dLaw_law_792 : decode mLaw_law.2.1 792 = .ok (.iaload, 1) := by decide +kernel
theorem dLaw_law_793 : decode mLaw_law.2.1 793 = .ok (.aload_n 3, 1) := by decide +kernel
theorem dLaw_law_794 : decode mLaw_law.2.1 794 = .ok (.invokestatic 119, 3) := by decide +kernel
theorem dLaw_law_797 : decode mLaw_law.2.1 797 = .ok (.istore 5, 2) := by decide +kernel
theorem dLaw_law_799 : decode mLaw_law.2.1 799 = .ok (.aload_n 2, 1) := by decide +kernel
theorem dLaw_law_800 : decode mLaw_law.2.1 800 = .ok (.aload_n 0, 1) := by decide +kernel
theorem dLaw_law_801 : decode mLaw_law.2.1 801 = .ok (.iload 4, 2) := by decide +kernel
theorem dLaw_law_803 : decode mLaw_law.2.1 803 = .ok (.iconst 1, 1) := by decide +kernel
theorem dLaw_law_804 : decode mLaw_law.2.1 804 = .ok (.iadd, 1) := by decide +kernel
theorem dLaw_law_805 : decode mLaw_law.2.1 805 = .ok (.iaload, 1) := by decide +kernel
theorem dLaw_law_806 : decode mLaw_law.2.1 806 = .ok (.aload_n 0, 1) := by decide +kernel
theorem dLaw_law_807 : decode mLaw_law.2.1 807 = .ok (.iload 4, 2) := by decide +kernel
theorem dLaw_law_809 : decode mLaw_law.2.1 809 = .ok (.iconst 2, 1) := by decide +kernel
theorem dLaw_law_810 : decode mLaw_law.2.1 810 = .ok (.iadd, 1) := by decide +kernel
theorem dLaw_law_811 : decode mLaw_law.2.1 811 = .ok (.iaload, 1) := by decide +kernel
theorem dLaw_law_812 : decode mLaw_law.2.1 812 = .ok (.invokevirtual 121, 3) := by decide +kernel
theorem dLaw_law_815 : decode mLaw_law.2.1 815 = .ok (.istore 6, 2) := by decide +kernel
theorem dLaw_law_817 : decode mLaw_law.2.1 817 = .ok (.aload_n 2, 1) := by decide +kernel
theorem dLaw_law_818 : decode mLaw_law.2.1 818 = .ok (.invokevirtual 85, 3) := by decide +kernel
theorem dLaw_law_821 : decode mLaw_law.2.1 821 = .ok (.iload 5, 2) := by decide +kernel
theorem dLaw_law_823 : decode mLaw_law.2.1 823 = .ok (.if_icmp .eq 5, 3) := by decide +kernel
theorem dLaw_law_826 : decode mLaw_law.2.1 826 = .ok (.iconst 0, 1) := by decide +kernel
theorem dLaw_law_827 : decode mLaw_law.2.1 827 = .ok (.ireturn, 1) := by decide +kernel
theorem dLaw_law_828 : decode mLaw_law.2.1 828 = .ok (.iload 5, 2) := by decide +kernel
theorem dLaw_law_830 : decode mLaw_law.2.1 830 = .ok (.ifCond .ne 15, 3) := by decide +kernel
theorem dLaw_law_833 : decode mLaw_law.2.1 833 = .ok (.aload_n 3, 1) := by decide +kernel
theorem dLaw_law_834 : decode mLaw_law.2.1 834 = .ok (.iconst 0, 1) := by decide +kernel
theorem dLaw_law_835 : decode mLaw_law.2.1 835 = .ok (.laload, 1) := by decide +kernel
theorem dLaw_law_836 : decode mLaw_law.2.1 836 = .ok (.iload 6, 2) := by decide +kernel
theorem dLaw_law_838 : decode mLaw_law.2.1 838 = .ok (.i2l, 1) := by decide +kernel
theorem dLaw_law_839 : decode mLaw_law.2.1 839 = .ok (.lcmp, 1) := by decide +kernel
theorem dLaw_law_840 : decode mLaw_law.2.1 840 = .ok (.ifCond .eq 5, 3) := by decide +kernel
theorem dLaw_law_843 : decode mLaw_law.2.1 843 = .ok (.iconst 0, 1) := by decide +kernel
theorem dLaw_law_844 : decode mLaw_law.2.1 844 = .ok (.ireturn, 1) := by decide +kernel
theorem dLaw_law_845 : decode mLaw_law.2.1 845 = .ok (.goto 444, 3) := by decide +kernel
theorem dLaw_law_848 : decode mLaw_law.2.1 848 = .ok (.aload_n 1, 1) := by decide +kernel
theorem dLaw_law_849 : decode mLaw_law.2.1 849 = .ok (.aload_n 0, 1) := by decide +kernel
theorem dLaw_law_850 : decode mLaw_law.2.1 850 = .ok (.iload 4, 2) := by decide +kernel
theorem dLaw_law_852 : decode mLaw_law.2.1 852 = .ok (.iconst 1, 1) := by decide +kernel
theorem dLaw_law_853 : decode mLaw_law.2.1 853 = .ok (.iadd, 1) := by decide +kernel
theorem dLaw_law_854 : decode mLaw_law.2.1 854 = .ok (.iaload, 1) := by decide +kernel
theorem dLaw_law_855 : decode mLaw_law.2.1 855 = .ok (.aload_n 0, 1) := by decide +kernel
theorem dLaw_law_856 : decode mLaw_law.2.1 856 = .ok (.iload 4, 2) := by decide +kernel
theorem dLaw_law_858 : decode mLaw_law.2.1 858 = .ok (.iconst 2, 1) := by decide +kernel
theorem dLaw_law_859 : decode mLaw_law.2.1 859 = .ok (.iadd, 1) := by decide +kernel
theorem dLaw_law_860 : decode mLaw_law.2.1 860 = .ok (.iaload, 1) := by decide +kernel
theorem dLaw_law_861 : decode mLaw_law.2.1 861 = .ok (.aload_n 0, 1) := by decide +kernel
theorem dLaw_law_862 : decode mLaw_law.2.1 862 = .ok (.iload 4, 2) := by decide +kernel
theorem dLaw_law_864 : decode mLaw_law.2.1 864 = .ok (.iconst 3, 1) := by decide +kernel
theorem dLaw_law_865 : decode mLaw_law.2.1 865 = .ok (.iadd, 1) := by decide +kernel
theorem dLaw_law_866 : decode mLaw_law.2.1 866 = .ok (.iaload, 1) := by decide +kernel
theorem dLaw_law_867 : decode mLaw_law.2.1 867 = .ok (.ifCond .eq 7, 3) := by decide +kernel
theorem dLaw_law_870 : decode mLaw_law.2.1 870 = .ok (.iconst 1, 1) := by decide +kernel
theorem dLaw_law_871 : decode mLaw_law.2.1 871 = .ok (.goto 4, 3) := by decide +kernel
theorem dLaw_law_874 : decode mLaw_law.2.1 874 = .ok (.iconst 0, 1) := by decide +kernel
theorem dLaw_law_875 : decode mLaw_law.2.1 875 = .ok (.aload_n 3, 1) := by decide +kernel
theorem dLaw_law_876 : decode mLaw_law.2.1 876 = .ok (.invokestatic 122, 3) := by decide +kernel
theorem dLaw_law_879 : decode mLaw_law.2.1 879 = .ok (.istore 5, 2) := by decide +kernel
theorem dLaw_law_881 : decode mLaw_law.2.1 881 = .ok (.aload_n 2, 1) := by decide +kernel
theorem dLaw_law_882 : decode mLaw_law.2.1 882 = .ok (.aload_n 0, 1) := by decide +kernel
theorem dLaw_law_883 : decode mLaw_law.2.1 883 = .ok (.iload 4, 2) := by decide +kernel
theorem dLaw_law_885 : decode mLaw_law.2.1 885 = .ok (.iconst 1, 1) := by decide +kernel
theorem dLaw_law_886 : decode mLaw_law.2.1 886 = .ok (.iadd, 1) := by decide +kernel
theorem dLaw_law_887 : decode mLaw_law.2.1 887 = .ok (.iaload, 1) := by decide +kernel
theorem dLaw_law_888 : decode mLaw_law.2.1 888 = .ok (.aload_n 0, 1) := by decide +kernel
theorem dLaw_law_889 : decode mLaw_law.2.1 889 = .ok (.iload 4, 2) := by decide +kernel
theorem dLaw_law_891 : decode mLaw_law.2.1 891 = .ok (.iconst 2, 1) := by decide +kernel
theorem dLaw_law_892 : decode mLaw_law.2.1 892 = .ok (.iadd, 1) := by decide +kernel
theorem dLaw_law_893 : decode mLaw_law.2.1 893 = .ok (.iaload, 1) := by decide +kernel
theorem dLaw_law_894 : decode mLaw_law.2.1 894 = .ok (.aload_n 0, 1) := by decide +kernel
theorem dLaw_law_895 : decode mLaw_law.2.1 895 = .ok (.iload 4, 2) := by decide +kernel
theorem dLaw_law_897 : decode mLaw_law.2.1 897 = .ok (.iconst 3, 1) := by decide +kernel
theorem dLaw_law_898 : decode mLaw_law.2.1 898 = .ok (.iadd, 1) := by decide +kernel
theorem dLaw_law_899 : decode mLaw_law.2.1 899 = .ok (.iaload, 1) := by decide +kernel
theorem dLaw_law_900 : decode mLaw_law.2.1 900 = .ok (.ifCond .eq 7, 3) := by decide +kernel
theorem dLaw_law_903 : decode mLaw_law.2.1 903 = .ok (.iconst 1, 1) := by decide +kernel
theorem dLaw_law_904 : decode mLaw_law.2.1 904 = .ok (.goto 4, 3) := by decide +kernel
theorem dLaw_law_907 : decode mLaw_law.2.1 907 = .ok (.iconst 0, 1) := by decide +kernel
theorem dLaw_law_908 : decode mLaw_law.2.1 908 = .ok (.invokevirtual 125, 3) := by decide +kernel
theorem dLaw_law_911 : decode mLaw_law.2.1 911 = .ok (.istore 6, 2) := by decide +kernel
theorem dLaw_law_913 : decode mLaw_law.2.1 913 = .ok (.aload_n 2, 1) := by decide +kernel
theorem dLaw_law_914 : decode mLaw_law.2.1 914 = .ok (.invokevirtual 85, 3) := by decide +kernel
theorem dLaw_law_917 : decode mLaw_law.2.1 917 = .ok (.iload 5, 2) := by decide +kernel
theorem dLaw_law_919 : decode mLaw_law.2.1 919 = .ok (.if_icmp .eq 5, 3) := by decide +kernel
theorem dLaw_law_922 : decode mLaw_law.2.1 922 = .ok (.iconst 0, 1) := by decide +kernel
theorem dLaw_law_923 : decode mLaw_law.2.1 923 = .ok (.ireturn, 1) := by decide +kernel
theorem dLaw_law_924 : decode mLaw_law.2.1 924 = .ok (.iload 5, 2) := by decide +kernel
theorem dLaw_law_926 : decode mLaw_law.2.1 926 = .ok (.ifCond .ne 15, 3) := by decide +kernel
theorem dLaw_law_929 : decode mLaw_law.2.1 929 = .ok (.aload_n 3, 1) := by decide +kernel
theorem dLaw_law_930 : decode mLaw_law.2.1 930 = .ok (.iconst 0, 1) := by decide +kernel
theorem dLaw_law_931 : decode mLaw_law.2.1 931 = .ok (.laload, 1) := by decide +kernel
theorem dLaw_law_932 : decode mLaw_law.2.1 932 = .ok (.iload 6, 2) := by decide +kernel
theorem dLaw_law_934 : decode mLaw_law.2.1 934 = .ok (.i2l, 1) := by decide +kernel
theorem dLaw_law_935 : decode mLaw_law.2.1 935 = .ok (.lcmp, 1) := by decide +kernel
theorem dLaw_law_936 : decode mLaw_law.2.1 936 = .ok (.ifCond .eq 5, 3) := by decide +kernel
theorem dLaw_law_939 : decode mLaw_law.2.1 939 = .ok (.iconst 0, 1) := by decide +kernel
theorem dLaw_law_940 : decode mLaw_law.2.1 940 = .ok (.ireturn, 1) := by decide +kernel
theorem dLaw_law_941 : decode mLaw_law.2.1 941 = .ok (.goto 348, 3) := by decide +kernel
theorem dLaw_law_944 : decode mLaw_law.2.1 944 = .ok (.aload_n 1, 1) := by decide +kernel
theorem dLaw_law_945 : decode mLaw_law.2.1 945 = .ok (.invokevirtual 126, 3) := by decide +kernel
theorem dLaw_law_948 : decode mLaw_law.2.1 948 = .ok (.aload_n 2, 1) := by decide +kernel
theorem dLaw_law_949 : decode mLaw_law.2.1 949 = .ok (.invokevirtual 129, 3) := by decide +kernel
theorem dLaw_law_952 : decode mLaw_law.2.1 952 = .ok (.if_icmp .eq 337, 3) := by decide +kernel
theorem dLaw_law_955 : decode mLaw_law.2.1 955 = .ok (.iconst 0, 1) := by decide +kernel
theorem dLaw_law_956 : decode mLaw_law.2.1 956 = .ok (.ireturn, 1) := by decide +kernel
theorem dLaw_law_957 : decode mLaw_law.2.1 957 = .ok (.aload_n 1, 1) := by decide +kernel
theorem dLaw_law_958 : decode mLaw_law.2.1 958 = .ok (.aload_n 0, 1) := by decide +kernel
theorem dLaw_law_959 : decode mLaw_law.2.1 959 = .ok (.iload 4, 2) := by decide +kernel
theorem dLaw_law_961 : decode mLaw_law.2.1 961 = .ok (.iconst 1, 1) := by decide +kernel
theorem dLaw_law_962 : decode mLaw_law.2.1 962 = .ok (.iadd, 1) := by decide +kernel
theorem dLaw_law_963 : decode mLaw_law.2.1 963 = .ok (.iaload, 1) := by decide +kernel
theorem dLaw_law_964 : decode mLaw_law.2.1 964 = .ok (.aload_n 0, 1) := by decide +kernel
theorem dLaw_law_965 : decode mLaw_law.2.1 965 = .ok (.iload 4, 2) := by decide +kernel
theorem dLaw_law_967 : decode mLaw_law.2.1 967 = .ok (.iconst 2, 1) := by decide +kernel
theorem dLaw_law_968 : decode mLaw_law.2.1 968 = .ok (.iadd, 1) := by decide +kernel
theorem dLaw_law_969 : decode mLaw_law.2.1 969 = .ok (.iaload, 1) := by decide +kernel
theorem dLaw_law_970 : decode mLaw_law.2.1 970 = .ok (.aload_n 0, 1) := by decide +kernel
theorem dLaw_law_971 : decode mLaw_law.2.1 971 = .ok (.iload 4, 2) := by decide +kernel
theorem dLaw_law_973 : decode mLaw_law.2.1 973 = .ok (.iconst 3, 1) := by decide +kernel
theorem dLaw_law_974 : decode mLaw_law.2.1 974 = .ok (.iadd, 1) := by decide +kernel
theorem dLaw_law_975 : decode mLaw_law.2.1 975 = .ok (.iaload, 1) := by decide +kernel
theorem dLaw_law_976 : decode mLaw_law.2.1 976 = .ok (.aload_n 3, 1) := by decide +kernel
theorem dLaw_law_977 : decode mLaw_law.2.1 977 = .ok (.invokestatic 130, 3) := by decide +kernel
theorem dLaw_law_980 : decode mLaw_law.2.1 980 = .ok (.istore 5, 2) := by decide +kernel
theorem dLaw_law_982 : decode mLaw_law.2.1 982 = .ok (.aload_n 2, 1) := by decide +kernel
theorem dLaw_law_983 : decode mLaw_law.2.1 983 = .ok (.aload_n 0, 1) := by decide +kernel
theorem dLaw_law_984 : decode mLaw_law.2.1 984 = .ok (.iload 4, 2) := by decide +kernel
theorem dLaw_law_986 : decode mLaw_law.2.1 986 = .ok (.iconst 1, 1) := by decide +kernel
theorem dLaw_law_987 : decode mLaw_law.2.1 987 = .ok (.iadd, 1) := by decide +kernel
theorem dLaw_law_988 : decode mLaw_law.2.1 988 = .ok (.iaload, 1) := by decide +kernel
theorem dLaw_law_989 : decode mLaw_law.2.1 989 = .ok (.aload_n 0, 1) := by decide +kernel
theorem dLaw_law_990 : decode mLaw_law.2.1 990 = .ok (.iload 4, 2) := by decide +kernel
theorem dLaw_law_992 : decode mLaw_law.2.1 992 = .ok (.iconst 2, 1) := by decide +kernel
theorem dLaw_law_993 : decode mLaw_law.2.1 993 = .ok (.iadd, 1) := by decide +kernel
theorem dLaw_law_994 : decode mLaw_law.2.1 994 = .ok (.iaload, 1) := by decide +kernel
theorem dLaw_law_995 : decode mLaw_law.2.1 995 = .ok (.aload_n 0, 1) := by decide +kernel
theorem dLaw_law_996 : decode mLaw_law.2.1 996 = .ok (.iload 4, 2) := by decide +kernel
theorem dLaw_law_998 : decode mLaw_law.2.1 998 = .ok (.iconst 3, 1) := by decide +kernel
theorem dLaw_law_999 : decode mLaw_law.2.1 999 = .ok (.iadd, 1) := by decide +kernel
theorem dLaw_law_1000 : decode mLaw_law.2.1 1000 = .ok (.iaload, 1) := by decide +kernel
theorem dLaw_law_1001 : decode mLaw_law.2.1 1001 = .ok (.invokevirtual 133, 3) := by decide +kernel
theorem dLaw_law_1004 : decode mLaw_law.2.1 1004 = .ok (.istore 6, 2) := by decide +kernel
theorem dLaw_law_1006 : decode mLaw_law.2.1 1006 = .ok (.aload_n 2, 1) := by decide +kernel
theorem dLaw_law_1007 : decode mLaw_law.2.1 1007 = .ok (.invokevirtual 85, 3) := by decide +kernel
theorem dLaw_law_1010 : decode mLaw_law.2.1 1010 = .ok (.iload 5, 2) := by decide +kernel
theorem dLaw_law_1012 : decode mLaw_law.2.1 1012 = .ok (.if_icmp .eq 5, 3) := by decide +kernel
theorem dLaw_law_1015 : decode mLaw_law.2.1 1015 = .ok (.iconst 0, 1) := by decide +kernel
theorem dLaw_law_1016 : decode mLaw_law.2.1 1016 = .ok (.ireturn, 1) := by decide +kernel
theorem dLaw_law_1017 : decode mLaw_law.2.1 1017 = .ok (.iload 5, 2) := by decide +kernel
theorem dLaw_law_1019 : decode mLaw_law.2.1 1019 = .ok (.ifCond .ne 15, 3) := by decide +kernel
theorem dLaw_law_1022 : decode mLaw_law.2.1 1022 = .ok (.aload_n 3, 1) := by decide +kernel
theorem dLaw_law_1023 : decode mLaw_law.2.1 1023 = .ok (.iconst 0, 1) := by decide +kernel
theorem dLaw_law_1024 : decode mLaw_law.2.1 1024 = .ok (.laload, 1) := by decide +kernel
theorem dLaw_law_1025 : decode mLaw_law.2.1 1025 = .ok (.iload 6, 2) := by decide +kernel
theorem dLaw_law_1027 : decode mLaw_law.2.1 1027 = .ok (.i2l, 1) := by decide +kernel
theorem dLaw_law_1028 : decode mLaw_law.2.1 1028 = .ok (.lcmp, 1) := by decide +kernel
theorem dLaw_law_1029 : decode mLaw_law.2.1 1029 = .ok (.ifCond .eq 5, 3) := by decide +kernel
theorem dLaw_law_1032 : decode mLaw_law.2.1 1032 = .ok (.iconst 0, 1) := by decide +kernel
theorem dLaw_law_1033 : decode mLaw_law.2.1 1033 = .ok (.ireturn, 1) := by decide +kernel
theorem dLaw_law_1034 : decode mLaw_law.2.1 1034 = .ok (.goto 255, 3) := by decide +kernel
theorem dLaw_law_1037 : decode mLaw_law.2.1 1037 = .ok (.aload_n 1, 1) := by decide +kernel
theorem dLaw_law_1038 : decode mLaw_law.2.1 1038 = .ok (.aload_n 0, 1) := by decide +kernel
theorem dLaw_law_1039 : decode mLaw_law.2.1 1039 = .ok (.iload 4, 2) := by decide +kernel
theorem dLaw_law_1041 : decode mLaw_law.2.1 1041 = .ok (.iconst 1, 1) := by decide +kernel
theorem dLaw_law_1042 : decode mLaw_law.2.1 1042 = .ok (.iadd, 1) := by decide +kernel
theorem dLaw_law_1043 : decode mLaw_law.2.1 1043 = .ok (.iaload, 1) := by decide +kernel
theorem dLaw_law_1044 : decode mLaw_law.2.1 1044 = .ok (.aload_n 3, 1) := by decide +kernel
theorem dLaw_law_1045 : decode mLaw_law.2.1 1045 = .ok (.invokestatic 134, 3) := by decide +kernel
theorem dLaw_law_1048 : decode mLaw_law.2.1 1048 = .ok (.istore 5, 2) := by decide +kernel
theorem dLaw_law_1050 : decode mLaw_law.2.1 1050 = .ok (.aload_n 2, 1) := by decide +kernel
theorem dLaw_law_1051 : decode mLaw_law.2.1 1051 = .ok (.aload_n 0, 1) := by decide +kernel
theorem dLaw_law_1052 : decode mLaw_law.2.1 1052 = .ok (.iload 4, 2) := by decide +kernel
theorem dLaw_law_1054 : decode mLaw_law.2.1 1054 = .ok (.iconst 1, 1) := by decide +kernel
theorem dLaw_law_1055 : decode mLaw_law.2.1 1055 = .ok (.iadd, 1) := by decide +kernel
theorem dLaw_law_1056 : decode mLaw_law.2.1 1056 = .ok (.iaload, 1) := by decide +kernel
theorem dLaw_law_1057 : decode mLaw_law.2.1 1057 = .ok (.invokevirtual 136, 3) := by decide +kernel
theorem dLaw_law_1060 : decode mLaw_law.2.1 1060 = .ok (.istore 6, 2) := by decide +kernel
theorem dLaw_law_1062 : decode mLaw_law.2.1 1062 = .ok (.aload_n 2, 1) := by decide +kernel
theorem dLaw_law_1063 : decode mLaw_law.2.1 1063 = .ok (.invokevirtual 85, 3) := by decide +kernel
theorem dLaw_law_1066 : decode mLaw_law.2.1 1066 = .ok (.iload 5, 2) := by decide +kernel
theorem dLaw_law_1068 : decode mLaw_law.2.1 1068 = .ok (.if_icmp .eq 5, 3) := by decide +kernel
theorem dLaw_law_1071 : decode mLaw_law.2.1 1071 = .ok (.iconst 0, 1) := by decide +kernel
theorem dLaw_law_1072 : decode mLaw_law.2.1 1072 = .ok (.ireturn, 1) := by decide +kernel
theorem dLaw_law_1073 : decode mLaw_law.2.1 1073 = .ok (.iload 5, 2) := by decide +kernel
theorem dLaw_law_1075 : decode mLaw_law.2.1 1075 = .ok (.ifCond .ne 15, 3) := by decide +kernel
theorem dLaw_law_1078 : decode mLaw_law.2.1 1078 = .ok (.aload_n 3, 1) := by decide +kernel
theorem dLaw_law_1079 : decode mLaw_law.2.1 1079 = .ok (.iconst 0, 1) := by decide +kernel
theorem dLaw_law_1080 : decode mLaw_law.2.1 1080 = .ok (.laload, 1) := by decide +kernel
theorem dLaw_law_1081 : decode mLaw_law.2.1 1081 = .ok (.iload 6, 2) := by decide +kernel
theorem dLaw_law_1083 : decode mLaw_law.2.1 1083 = .ok (.i2l, 1) := by decide +kernel
theorem dLaw_law_1084 : decode mLaw_law.2.1 1084 = .ok (.lcmp, 1) := by decide +kernel
theorem dLaw_law_1085 : decode mLaw_law.2.1 1085 = .ok (.ifCond .eq 5, 3) := by decide +kernel
theorem dLaw_law_1088 : decode mLaw_law.2.1 1088 = .ok (.iconst 0, 1) := by decide +kernel
theorem dLaw_law_1089 : decode mLaw_law.2.1 1089 = .ok (.ireturn, 1) := by decide +kernel
theorem dLaw_law_1090 : decode mLaw_law.2.1 1090 = .ok (.goto 199, 3) := by decide +kernel
theorem dLaw_law_1093 : decode mLaw_law.2.1 1093 = .ok (.aload_n 1, 1) := by decide +kernel
theorem dLaw_law_1094 : decode mLaw_law.2.1 1094 = .ok (.aload_n 0, 1) := by decide +kernel
theorem dLaw_law_1095 : decode mLaw_law.2.1 1095 = .ok (.iload 4, 2) := by decide +kernel
theorem dLaw_law_1097 : decode mLaw_law.2.1 1097 = .ok (.iconst 1, 1) := by decide +kernel
theorem dLaw_law_1098 : decode mLaw_law.2.1 1098 = .ok (.iadd, 1) := by decide +kernel
theorem dLaw_law_1099 : decode mLaw_law.2.1 1099 = .ok (.iaload, 1) := by decide +kernel
theorem dLaw_law_1100 : decode mLaw_law.2.1 1100 = .ok (.aload_n 0, 1) := by decide +kernel
theorem dLaw_law_1101 : decode mLaw_law.2.1 1101 = .ok (.iload 4, 2) := by decide +kernel
theorem dLaw_law_1103 : decode mLaw_law.2.1 1103 = .ok (.iconst 2, 1) := by decide +kernel
theorem dLaw_law_1104 : decode mLaw_law.2.1 1104 = .ok (.iadd, 1) := by decide +kernel
theorem dLaw_law_1105 : decode mLaw_law.2.1 1105 = .ok (.iaload, 1) := by decide +kernel
theorem dLaw_law_1106 : decode mLaw_law.2.1 1106 = .ok (.aload_n 3, 1) := by decide +kernel
theorem dLaw_law_1107 : decode mLaw_law.2.1 1107 = .ok (.invokestatic 137, 3) := by decide +kernel
theorem dLaw_law_1110 : decode mLaw_law.2.1 1110 = .ok (.istore 5, 2) := by decide +kernel
theorem dLaw_law_1112 : decode mLaw_law.2.1 1112 = .ok (.aload_n 2, 1) := by decide +kernel
theorem dLaw_law_1113 : decode mLaw_law.2.1 1113 = .ok (.aload_n 0, 1) := by decide +kernel
theorem dLaw_law_1114 : decode mLaw_law.2.1 1114 = .ok (.iload 4, 2) := by decide +kernel
theorem dLaw_law_1116 : decode mLaw_law.2.1 1116 = .ok (.iconst 1, 1) := by decide +kernel
theorem dLaw_law_1117 : decode mLaw_law.2.1 1117 = .ok (.iadd, 1) := by decide +kernel
theorem dLaw_law_1118 : decode mLaw_law.2.1 1118 = .ok (.iaload, 1) := by decide +kernel
theorem dLaw_law_1119 : decode mLaw_law.2.1 1119 = .ok (.aload_n 0, 1) := by decide +kernel
theorem dLaw_law_1120 : decode mLaw_law.2.1 1120 = .ok (.iload 4, 2) := by decide +kernel
theorem dLaw_law_1122 : decode mLaw_law.2.1 1122 = .ok (.iconst 2, 1) := by decide +kernel
theorem dLaw_law_1123 : decode mLaw_law.2.1 1123 = .ok (.iadd, 1) := by decide +kernel
theorem dLaw_law_1124 : decode mLaw_law.2.1 1124 = .ok (.iaload, 1) := by decide +kernel
theorem dLaw_law_1125 : decode mLaw_law.2.1 1125 = .ok (.invokevirtual 139, 3) := by decide +kernel
theorem dLaw_law_1128 : decode mLaw_law.2.1 1128 = .ok (.istore 6, 2) := by decide +kernel
theorem dLaw_law_1130 : decode mLaw_law.2.1 1130 = .ok (.aload_n 2, 1) := by decide +kernel
theorem dLaw_law_1131 : decode mLaw_law.2.1 1131 = .ok (.invokevirtual 85, 3) := by decide +kernel
theorem dLaw_law_1134 : decode mLaw_law.2.1 1134 = .ok (.iload 5, 2) := by decide +kernel
theorem dLaw_law_1136 : decode mLaw_law.2.1 1136 = .ok (.if_icmp .eq 5, 3) := by decide +kernel
theorem dLaw_law_1139 : decode mLaw_law.2.1 1139 = .ok (.iconst 0, 1) := by decide +kernel
theorem dLaw_law_1140 : decode mLaw_law.2.1 1140 = .ok (.ireturn, 1) := by decide +kernel
theorem dLaw_law_1141 : decode mLaw_law.2.1 1141 = .ok (.iload 5, 2) := by decide +kernel
theorem dLaw_law_1143 : decode mLaw_law.2.1 1143 = .ok (.ifCond .ne 15, 3) := by decide +kernel
theorem dLaw_law_1146 : decode mLaw_law.2.1 1146 = .ok (.aload_n 3, 1) := by decide +kernel
theorem dLaw_law_1147 : decode mLaw_law.2.1 1147 = .ok (.iconst 0, 1) := by decide +kernel
theorem dLaw_law_1148 : decode mLaw_law.2.1 1148 = .ok (.laload, 1) := by decide +kernel
theorem dLaw_law_1149 : decode mLaw_law.2.1 1149 = .ok (.iload 6, 2) := by decide +kernel
theorem dLaw_law_1151 : decode mLaw_law.2.1 1151 = .ok (.i2l, 1) := by decide +kernel
theorem dLaw_law_1152 : decode mLaw_law.2.1 1152 = .ok (.lcmp, 1) := by decide +kernel
theorem dLaw_law_1153 : decode mLaw_law.2.1 1153 = .ok (.ifCond .eq 5, 3) := by decide +kernel
theorem dLaw_law_1156 : decode mLaw_law.2.1 1156 = .ok (.iconst 0, 1) := by decide +kernel
theorem dLaw_law_1157 : decode mLaw_law.2.1 1157 = .ok (.ireturn, 1) := by decide +kernel
theorem dLaw_law_1158 : decode mLaw_law.2.1 1158 = .ok (.goto 131, 3) := by decide +kernel
theorem dLaw_law_1161 : decode mLaw_law.2.1 1161 = .ok (.aload_n 1, 1) := by decide +kernel
theorem dLaw_law_1162 : decode mLaw_law.2.1 1162 = .ok (.aload_n 0, 1) := by decide +kernel
theorem dLaw_law_1163 : decode mLaw_law.2.1 1163 = .ok (.iload 4, 2) := by decide +kernel
theorem dLaw_law_1165 : decode mLaw_law.2.1 1165 = .ok (.iconst 1, 1) := by decide +kernel
theorem dLaw_law_1166 : decode mLaw_law.2.1 1166 = .ok (.iadd, 1) := by decide +kernel
theorem dLaw_law_1167 : decode mLaw_law.2.1 1167 = .ok (.iaload, 1) := by decide +kernel
theorem dLaw_law_1168 : decode mLaw_law.2.1 1168 = .ok (.aload_n 0, 1) := by decide +kernel
theorem dLaw_law_1169 : decode mLaw_law.2.1 1169 = .ok (.iload 4, 2) := by decide +kernel
theorem dLaw_law_1171 : decode mLaw_law.2.1 1171 = .ok (.iconst 2, 1) := by decide +kernel
theorem dLaw_law_1172 : decode mLaw_law.2.1 1172 = .ok (.iadd, 1) := by decide +kernel
theorem dLaw_law_1173 : decode mLaw_law.2.1 1173 = .ok (.iaload, 1) := by decide +kernel
theorem dLaw_law_1174 : decode mLaw_law.2.1 1174 = .ok (.aload_n 3, 1) := by decide +kernel
theorem dLaw_law_1175 : decode mLaw_law.2.1 1175 = .ok (.invokestatic 140, 3) := by decide +kernel
theorem dLaw_law_1178 : decode mLaw_law.2.1 1178 = .ok (.istore 5, 2) := by decide +kernel
theorem dLaw_law_1180 : decode mLaw_law.2.1 1180 = .ok (.aload_n 2, 1) := by decide +kernel
theorem dLaw_law_1181 : decode mLaw_law.2.1 1181 = .ok (.aload_n 0, 1) := by decide +kernel
theorem dLaw_law_1182 : decode mLaw_law.2.1 1182 = .ok (.iload 4, 2) := by decide +kernel
theorem dLaw_law_1184 : decode mLaw_law.2.1 1184 = .ok (.iconst 1, 1) := by decide +kernel
theorem dLaw_law_1185 : decode mLaw_law.2.1 1185 = .ok (.iadd, 1) := by decide +kernel
theorem dLaw_law_1186 : decode mLaw_law.2.1 1186 = .ok (.iaload, 1) := by decide +kernel
theorem dLaw_law_1187 : decode mLaw_law.2.1 1187 = .ok (.aload_n 0, 1) := by decide +kernel
theorem dLaw_law_1188 : decode mLaw_law.2.1 1188 = .ok (.iload 4, 2) := by decide +kernel
theorem dLaw_law_1190 : decode mLaw_law.2.1 1190 = .ok (.iconst 2, 1) := by decide +kernel
theorem dLaw_law_1191 : decode mLaw_law.2.1 1191 = .ok (.iadd, 1) := by decide +kernel
theorem dLaw_law_1192 : decode mLaw_law.2.1 1192 = .ok (.iaload, 1) := by decide +kernel
theorem dLaw_law_1193 : decode mLaw_law.2.1 1193 = .ok (.invokevirtual 142, 3) := by decide +kernel
theorem dLaw_law_1196 : decode mLaw_law.2.1 1196 = .ok (.istore 6, 2) := by decide +kernel
theorem dLaw_law_1198 : decode mLaw_law.2.1 1198 = .ok (.aload_n 2, 1) := by decide +kernel
theorem dLaw_law_1199 : decode mLaw_law.2.1 1199 = .ok (.invokevirtual 85, 3) := by decide +kernel
theorem dLaw_law_1202 : decode mLaw_law.2.1 1202 = .ok (.iload 5, 2) := by decide +kernel
theorem dLaw_law_1204 : decode mLaw_law.2.1 1204 = .ok (.if_icmp .eq 5, 3) := by decide +kernel
theorem dLaw_law_1207 : decode mLaw_law.2.1 1207 = .ok (.iconst 0, 1) := by decide +kernel
theorem dLaw_law_1208 : decode mLaw_law.2.1 1208 = .ok (.ireturn, 1) := by decide +kernel
theorem dLaw_law_1209 : decode mLaw_law.2.1 1209 = .ok (.iload 5, 2) := by decide +kernel
theorem dLaw_law_1211 : decode mLaw_law.2.1 1211 = .ok (.ifCond .ne 15, 3) := by decide +kernel
theorem dLaw_law_1214 : decode mLaw_law.2.1 1214 = .ok (.aload_n 3, 1) := by decide +kernel
theorem dLaw_law_1215 : decode mLaw_law.2.1 1215 = .ok (.iconst 0, 1) := by decide +kernel
theorem dLaw_law_1216 : decode mLaw_law.2.1 1216 = .ok (.laload, 1) := by decide +kernel
theorem dLaw_law_1217 : decode mLaw_law.2.1 1217 = .ok (.iload 6, 2) := by decide +kernel
theorem dLaw_law_1219 : decode mLaw_law.2.1 1219 = .ok (.i2l, 1) := by decide +kernel
theorem dLaw_law_1220 : decode mLaw_law.2.1 1220 = .ok (.lcmp, 1) := by decide +kernel
theorem dLaw_law_1221 : decode mLaw_law.2.1 1221 = .ok (.ifCond .eq 5, 3) := by decide +kernel
theorem dLaw_law_1224 : decode mLaw_law.2.1 1224 = .ok (.iconst 0, 1) := by decide +kernel
theorem dLaw_law_1225 : decode mLaw_law.2.1 1225 = .ok (.ireturn, 1) := by decide +kernel
theorem dLaw_law_1226 : decode mLaw_law.2.1 1226 = .ok (.goto 63, 3) := by decide +kernel
theorem dLaw_law_1229 : decode mLaw_law.2.1 1229 = .ok (.aload_n 1, 1) := by decide +kernel
theorem dLaw_law_1230 : decode mLaw_law.2.1 1230 = .ok (.invokestatic 143, 3) := by decide +kernel
theorem dLaw_law_1233 : decode mLaw_law.2.1 1233 = .ok (.istore 5, 2) := by decide +kernel
theorem dLaw_law_1235 : decode mLaw_law.2.1 1235 = .ok (.aload_n 2, 1) := by decide +kernel
theorem dLaw_law_1236 : decode mLaw_law.2.1 1236 = .ok (.invokevirtual 146, 3) := by decide +kernel
theorem dLaw_law_1239 : decode mLaw_law.2.1 1239 = .ok (.aload_n 2, 1) := by decide +kernel
theorem dLaw_law_1240 : decode mLaw_law.2.1 1240 = .ok (.invokevirtual 85, 3) := by decide +kernel
theorem dLaw_law_1243 : decode mLaw_law.2.1 1243 = .ok (.iload 5, 2) := by decide +kernel
theorem dLaw_law_1245 : decode mLaw_law.2.1 1245 = .ok (.if_icmp .eq 5, 3) := by decide +kernel
theorem dLaw_law_1248 : decode mLaw_law.2.1 1248 = .ok (.iconst 0, 1) := by decide +kernel
theorem dLaw_law_1249 : decode mLaw_law.2.1 1249 = .ok (.ireturn, 1) := by decide +kernel
theorem dLaw_law_1250 : decode mLaw_law.2.1 1250 = .ok (.goto 39, 3) := by decide +kernel
theorem dLaw_law_1253 : decode mLaw_law.2.1 1253 = .ok (.aload_n 1, 1) := by decide +kernel
theorem dLaw_law_1254 : decode mLaw_law.2.1 1254 = .ok (.aload_n 0, 1) := by decide +kernel
theorem dLaw_law_1255 : decode mLaw_law.2.1 1255 = .ok (.iload 4, 2) := by decide +kernel
theorem dLaw_law_1257 : decode mLaw_law.2.1 1257 = .ok (.iconst 1, 1) := by decide +kernel
theorem dLaw_law_1258 : decode mLaw_law.2.1 1258 = .ok (.iadd, 1) := by decide +kernel
theorem dLaw_law_1259 : decode mLaw_law.2.1 1259 = .ok (.iaload, 1) := by decide +kernel
theorem dLaw_law_1260 : decode mLaw_law.2.1 1260 = .ok (.invokevirtual 147, 3) := by decide +kernel
theorem dLaw_law_1263 : decode mLaw_law.2.1 1263 = .ok (.aload_n 2, 1) := by decide +kernel
theorem dLaw_law_1264 : decode mLaw_law.2.1 1264 = .ok (.aload_n 0, 1) := by decide +kernel
theorem dLaw_law_1265 : decode mLaw_law.2.1 1265 = .ok (.iload 4, 2) := by decide +kernel
theorem dLaw_law_1267 : decode mLaw_law.2.1 1267 = .ok (.iconst 1, 1) := by decide +kernel
theorem dLaw_law_1268 : decode mLaw_law.2.1 1268 = .ok (.iadd, 1) := by decide +kernel
theorem dLaw_law_1269 : decode mLaw_law.2.1 1269 = .ok (.iaload, 1) := by decide +kernel
theorem dLaw_law_1270 : decode mLaw_law.2.1 1270 = .ok (.invokevirtual 150, 3) := by decide +kernel
theorem dLaw_law_1273 : decode mLaw_law.2.1 1273 = .ok (.if_icmp .eq 16, 3) := by decide +kernel
theorem dLaw_law_1276 : decode mLaw_law.2.1 1276 = .ok (.iconst 0, 1) := by decide +kernel
theorem dLaw_law_1277 : decode mLaw_law.2.1 1277 = .ok (.ireturn, 1) := by decide +kernel
theorem dLaw_law_1278 : decode mLaw_law.2.1 1278 = .ok (.aload_n 1, 1) := by decide +kernel
theorem dLaw_law_1279 : decode mLaw_law.2.1 1279 = .ok (.invokevirtual 151, 3) := by decide +kernel
theorem dLaw_law_1282 : decode mLaw_law.2.1 1282 = .ok (.aload_n 2, 1) := by decide +kernel
theorem dLaw_law_1283 : decode mLaw_law.2.1 1283 = .ok (.invokevirtual 154, 3) := by decide +kernel
theorem dLaw_law_1286 : decode mLaw_law.2.1 1286 = .ok (.goto 3, 3) := by decide +kernel
theorem dLaw_law_1289 : decode mLaw_law.2.1 1289 = .ok (.iinc 4 5, 3) := by decide +kernel
theorem dLaw_law_1292 : decode mLaw_law.2.1 1292 = .ok (.goto (-1269), 3) := by decide +kernel
theorem dLaw_law_1295 : decode mLaw_law.2.1 1295 = .ok (.iconst 1, 1) := by decide +kernel
theorem dLaw_law_1296 : decode mLaw_law.2.1 1296 = .ok (.ireturn, 1) := by decide +kernel
