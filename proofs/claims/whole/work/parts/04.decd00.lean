theorem d_L_law_0 : decode code 0 = .ok (.new 8, 3) := by decide +kernel
theorem d_L_law_3 : decode code 3 = .ok (.dup, 1) := by decide +kernel
theorem d_L_law_4 : decode code 4 = .ok (.invokespecial 21, 3) := by decide +kernel
theorem d_L_law_7 : decode code 7 = .ok (.astore_n 1, 1) := by decide +kernel
theorem d_L_law_8 : decode code 8 = .ok (.new 22, 3) := by decide +kernel
theorem d_L_law_11 : decode code 11 = .ok (.dup, 1) := by decide +kernel
theorem d_L_law_12 : decode code 12 = .ok (.invokespecial 24, 3) := by decide +kernel
theorem d_L_law_15 : decode code 15 = .ok (.astore_n 2, 1) := by decide +kernel
theorem d_L_law_16 : decode code 16 = .ok (.iconst 1, 1) := by decide +kernel
theorem d_L_law_17 : decode code 17 = .ok (.newarray .long, 2) := by decide +kernel
theorem d_L_law_19 : decode code 19 = .ok (.astore_n 3, 1) := by decide +kernel
theorem d_L_law_20 : decode code 20 = .ok (.iconst 0, 1) := by decide +kernel
theorem d_L_law_21 : decode code 21 = .ok (.istore 4, 2) := by decide +kernel
theorem d_L_law_23 : decode code 23 = .ok (.iload 4, 2) := by decide +kernel
theorem d_L_law_25 : decode code 25 = .ok (.aload_n 0, 1) := by decide +kernel
theorem d_L_law_26 : decode code 26 = .ok (.arraylength, 1) := by decide +kernel
theorem d_L_law_27 : decode code 27 = .ok (.iconst 5, 1) := by decide +kernel
theorem d_L_law_28 : decode code 28 = .ok (.isub, 1) := by decide +kernel
theorem d_L_law_29 : decode code 29 = .ok (.if_icmp .gt 843, 3) := by decide +kernel
theorem d_L_law_32 : decode code 32 = .ok (.aload_n 0, 1) := by decide +kernel
theorem d_L_law_33 : decode code 33 = .ok (.iload 4, 2) := by decide +kernel
theorem d_L_law_35 : decode code 35 = .ok (.iaload, 1) := by decide +kernel
theorem d_L_law_36 : decode code 36 = .ok (.bipush 31, 2) := by decide +kernel
theorem d_L_law_38 : decode code 38 = .ok (.iand, 1) := by decide +kernel
theorem d_L_law_39 : decode code 39 = .ok (.tableswitch 827 0 16 #[81, 142, 191, 240, 265, 333, 382, 419, 456, 493, 530, 598, 623, 691, 728, 765, 802], 81) := by decide +kernel
theorem d_L_law_120 : decode code 120 = .ok (.aload_n 1, 1) := by decide +kernel
theorem d_L_law_121 : decode code 121 = .ok (.aload_n 0, 1) := by decide +kernel
theorem d_L_law_122 : decode code 122 = .ok (.iload 4, 2) := by decide +kernel
theorem d_L_law_124 : decode code 124 = .ok (.iconst 1, 1) := by decide +kernel
theorem d_L_law_125 : decode code 125 = .ok (.iadd, 1) := by decide +kernel
theorem d_L_law_126 : decode code 126 = .ok (.iaload, 1) := by decide +kernel
theorem d_L_law_127 : decode code 127 = .ok (.aload_n 0, 1) := by decide +kernel
theorem d_L_law_128 : decode code 128 = .ok (.iload 4, 2) := by decide +kernel
theorem d_L_law_130 : decode code 130 = .ok (.iconst 2, 1) := by decide +kernel
theorem d_L_law_131 : decode code 131 = .ok (.iadd, 1) := by decide +kernel
theorem d_L_law_132 : decode code 132 = .ok (.iaload, 1) := by decide +kernel
theorem d_L_law_133 : decode code 133 = .ok (.aload_n 0, 1) := by decide +kernel
theorem d_L_law_134 : decode code 134 = .ok (.iload 4, 2) := by decide +kernel
theorem d_L_law_136 : decode code 136 = .ok (.iconst 3, 1) := by decide +kernel
theorem d_L_law_137 : decode code 137 = .ok (.iadd, 1) := by decide +kernel
theorem d_L_law_138 : decode code 138 = .ok (.iaload, 1) := by decide +kernel
theorem d_L_law_139 : decode code 139 = .ok (.aload_n 0, 1) := by decide +kernel
theorem d_L_law_140 : decode code 140 = .ok (.iload 4, 2) := by decide +kernel
theorem d_L_law_142 : decode code 142 = .ok (.iconst 4, 1) := by decide +kernel
theorem d_L_law_143 : decode code 143 = .ok (.iadd, 1) := by decide +kernel
theorem d_L_law_144 : decode code 144 = .ok (.iaload, 1) := by decide +kernel
theorem d_L_law_145 : decode code 145 = .ok (.invokevirtual 25, 3) := by decide +kernel
theorem d_L_law_148 : decode code 148 = .ok (.aload_n 2, 1) := by decide +kernel
theorem d_L_law_149 : decode code 149 = .ok (.aload_n 0, 1) := by decide +kernel
theorem d_L_law_150 : decode code 150 = .ok (.iload 4, 2) := by decide +kernel
theorem d_L_law_152 : decode code 152 = .ok (.iconst 1, 1) := by decide +kernel
theorem d_L_law_153 : decode code 153 = .ok (.iadd, 1) := by decide +kernel
theorem d_L_law_154 : decode code 154 = .ok (.iaload, 1) := by decide +kernel
theorem d_L_law_155 : decode code 155 = .ok (.aload_n 0, 1) := by decide +kernel
theorem d_L_law_156 : decode code 156 = .ok (.iload 4, 2) := by decide +kernel
theorem d_L_law_158 : decode code 158 = .ok (.iconst 2, 1) := by decide +kernel
theorem d_L_law_159 : decode code 159 = .ok (.iadd, 1) := by decide +kernel
theorem d_L_law_160 : decode code 160 = .ok (.iaload, 1) := by decide +kernel
theorem d_L_law_161 : decode code 161 = .ok (.aload_n 0, 1) := by decide +kernel
theorem d_L_law_162 : decode code 162 = .ok (.iload 4, 2) := by decide +kernel
theorem d_L_law_164 : decode code 164 = .ok (.iconst 3, 1) := by decide +kernel
theorem d_L_law_165 : decode code 165 = .ok (.iadd, 1) := by decide +kernel
theorem d_L_law_166 : decode code 166 = .ok (.iaload, 1) := by decide +kernel
theorem d_L_law_167 : decode code 167 = .ok (.aload_n 0, 1) := by decide +kernel
theorem d_L_law_168 : decode code 168 = .ok (.iload 4, 2) := by decide +kernel
theorem d_L_law_170 : decode code 170 = .ok (.iconst 4, 1) := by decide +kernel
theorem d_L_law_171 : decode code 171 = .ok (.iadd, 1) := by decide +kernel
theorem d_L_law_172 : decode code 172 = .ok (.iaload, 1) := by decide +kernel
theorem d_L_law_173 : decode code 173 = .ok (.invokevirtual 29, 3) := by decide +kernel
theorem d_L_law_176 : decode code 176 = .ok (.if_icmp .eq 690, 3) := by decide +kernel
theorem d_L_law_179 : decode code 179 = .ok (.iconst 0, 1) := by decide +kernel
theorem d_L_law_180 : decode code 180 = .ok (.ireturn, 1) := by decide +kernel
theorem d_L_law_181 : decode code 181 = .ok (.aload_n 1, 1) := by decide +kernel
theorem d_L_law_182 : decode code 182 = .ok (.aload_n 0, 1) := by decide +kernel
theorem d_L_law_183 : decode code 183 = .ok (.iload 4, 2) := by decide +kernel
theorem d_L_law_185 : decode code 185 = .ok (.iconst 1, 1) := by decide +kernel
theorem d_L_law_186 : decode code 186 = .ok (.iadd, 1) := by decide +kernel
theorem d_L_law_187 : decode code 187 = .ok (.iaload, 1) := by decide +kernel
theorem d_L_law_188 : decode code 188 = .ok (.aload_n 0, 1) := by decide +kernel
theorem d_L_law_189 : decode code 189 = .ok (.iload 4, 2) := by decide +kernel
theorem d_L_law_191 : decode code 191 = .ok (.iconst 2, 1) := by decide +kernel
theorem d_L_law_192 : decode code 192 = .ok (.iadd, 1) := by decide +kernel
theorem d_L_law_193 : decode code 193 = .ok (.iaload, 1) := by decide +kernel
theorem d_L_law_194 : decode code 194 = .ok (.aload_n 0, 1) := by decide +kernel
theorem d_L_law_195 : decode code 195 = .ok (.iload 4, 2) := by decide +kernel
theorem d_L_law_197 : decode code 197 = .ok (.iconst 3, 1) := by decide +kernel
theorem d_L_law_198 : decode code 198 = .ok (.iadd, 1) := by decide +kernel
theorem d_L_law_199 : decode code 199 = .ok (.iaload, 1) := by decide +kernel
theorem d_L_law_200 : decode code 200 = .ok (.invokevirtual 30, 3) := by decide +kernel
theorem d_L_law_203 : decode code 203 = .ok (.aload_n 2, 1) := by decide +kernel
theorem d_L_law_204 : decode code 204 = .ok (.aload_n 0, 1) := by decide +kernel
theorem d_L_law_205 : decode code 205 = .ok (.iload 4, 2) := by decide +kernel
theorem d_L_law_207 : decode code 207 = .ok (.iconst 1, 1) := by decide +kernel
theorem d_L_law_208 : decode code 208 = .ok (.iadd, 1) := by decide +kernel
theorem d_L_law_209 : decode code 209 = .ok (.iaload, 1) := by decide +kernel
theorem d_L_law_210 : decode code 210 = .ok (.aload_n 0, 1) := by decide +kernel
theorem d_L_law_211 : decode code 211 = .ok (.iload 4, 2) := by decide +kernel
theorem d_L_law_213 : decode code 213 = .ok (.iconst 2, 1) := by decide +kernel
theorem d_L_law_214 : decode code 214 = .ok (.iadd, 1) := by decide +kernel
theorem d_L_law_215 : decode code 215 = .ok (.iaload, 1) := by decide +kernel
theorem d_L_law_216 : decode code 216 = .ok (.aload_n 0, 1) := by decide +kernel
theorem d_L_law_217 : decode code 217 = .ok (.iload 4, 2) := by decide +kernel
theorem d_L_law_219 : decode code 219 = .ok (.iconst 3, 1) := by decide +kernel
theorem d_L_law_220 : decode code 220 = .ok (.iadd, 1) := by decide +kernel
theorem d_L_law_221 : decode code 221 = .ok (.iaload, 1) := by decide +kernel
theorem d_L_law_222 : decode code 222 = .ok (.invokevirtual 34, 3) := by decide +kernel
theorem d_L_law_225 : decode code 225 = .ok (.if_icmp .eq 641, 3) := by decide +kernel
theorem d_L_law_228 : decode code 228 = .ok (.iconst 0, 1) := by decide +kernel
theorem d_L_law_229 : decode code 229 = .ok (.ireturn, 1) := by decide +kernel
theorem d_L_law_230 : decode code 230 = .ok (.aload_n 1, 1) := by decide +kernel
theorem d_L_law_231 : decode code 231 = .ok (.aload_n 0, 1) := by decide +kernel
theorem d_L_law_232 : decode code 232 = .ok (.iload 4, 2) := by decide +kernel
theorem d_L_law_234 : decode code 234 = .ok (.iconst 1, 1) := by decide +kernel
theorem d_L_law_235 : decode code 235 = .ok (.iadd, 1) := by decide +kernel
theorem d_L_law_236 : decode code 236 = .ok (.iaload, 1) := by decide +kernel
theorem d_L_law_237 : decode code 237 = .ok (.aload_n 0, 1) := by decide +kernel
theorem d_L_law_238 : decode code 238 = .ok (.iload 4, 2) := by decide +kernel
theorem d_L_law_240 : decode code 240 = .ok (.iconst 2, 1) := by decide +kernel
theorem d_L_law_241 : decode code 241 = .ok (.iadd, 1) := by decide +kernel
theorem d_L_law_242 : decode code 242 = .ok (.iaload, 1) := by decide +kernel
theorem d_L_law_243 : decode code 243 = .ok (.aload_n 0, 1) := by decide +kernel
theorem d_L_law_244 : decode code 244 = .ok (.iload 4, 2) := by decide +kernel
theorem d_L_law_246 : decode code 246 = .ok (.iconst 3, 1) := by decide +kernel
theorem d_L_law_247 : decode code 247 = .ok (.iadd, 1) := by decide +kernel
theorem d_L_law_248 : decode code 248 = .ok (.iaload, 1) := by decide +kernel
theorem d_L_law_249 : decode code 249 = .ok (.invokevirtual 35, 3) := by decide +kernel
theorem d_L_law_252 : decode code 252 = .ok (.aload_n 2, 1) := by decide +kernel
theorem d_L_law_253 : decode code 253 = .ok (.aload_n 0, 1) := by decide +kernel
theorem d_L_law_254 : decode code 254 = .ok (.iload 4, 2) := by decide +kernel
theorem d_L_law_256 : decode code 256 = .ok (.iconst 1, 1) := by decide +kernel
theorem d_L_law_257 : decode code 257 = .ok (.iadd, 1) := by decide +kernel
theorem d_L_law_258 : decode code 258 = .ok (.iaload, 1) := by decide +kernel
theorem d_L_law_259 : decode code 259 = .ok (.aload_n 0, 1) := by decide +kernel
theorem d_L_law_260 : decode code 260 = .ok (.iload 4, 2) := by decide +kernel
theorem d_L_law_262 : decode code 262 = .ok (.iconst 2, 1) := by decide +kernel
theorem d_L_law_263 : decode code 263 = .ok (.iadd, 1) := by decide +kernel
theorem d_L_law_264 : decode code 264 = .ok (.iaload, 1) := by decide +kernel
theorem d_L_law_265 : decode code 265 = .ok (.aload_n 0, 1) := by decide +kernel
theorem d_L_law_266 : decode code 266 = .ok (.iload 4, 2) := by decide +kernel
theorem d_L_law_268 : decode code 268 = .ok (.iconst 3, 1) := by decide +kernel
theorem d_L_law_269 : decode code 269 = .ok (.iadd, 1) := by decide +kernel
theorem d_L_law_270 : decode code 270 = .ok (.iaload, 1) := by decide +kernel
theorem d_L_law_271 : decode code 271 = .ok (.invokevirtual 38, 3) := by decide +kernel
theorem d_L_law_274 : decode code 274 = .ok (.if_icmp .eq 592, 3) := by decide +kernel
theorem d_L_law_277 : decode code 277 = .ok (.iconst 0, 1) := by decide +kernel
theorem d_L_law_278 : decode code 278 = .ok (.ireturn, 1) := by decide +kernel
theorem d_L_law_279 : decode code 279 = .ok (.aload_n 1, 1) := by decide +kernel
theorem d_L_law_280 : decode code 280 = .ok (.aload_n 0, 1) := by decide +kernel
theorem d_L_law_281 : decode code 281 = .ok (.iload 4, 2) := by decide +kernel
theorem d_L_law_283 : decode code 283 = .ok (.iconst 1, 1) := by decide +kernel
theorem d_L_law_284 : decode code 284 = .ok (.iadd, 1) := by decide +kernel
theorem d_L_law_285 : decode code 285 = .ok (.iaload, 1) := by decide +kernel
theorem d_L_law_286 : decode code 286 = .ok (.invokevirtual 39, 3) := by decide +kernel
theorem d_L_law_289 : decode code 289 = .ok (.aload_n 2, 1) := by decide +kernel
theorem d_L_law_290 : decode code 290 = .ok (.aload_n 0, 1) := by decide +kernel
theorem d_L_law_291 : decode code 291 = .ok (.iload 4, 2) := by decide +kernel
theorem d_L_law_293 : decode code 293 = .ok (.iconst 1, 1) := by decide +kernel
theorem d_L_law_294 : decode code 294 = .ok (.iadd, 1) := by decide +kernel
theorem d_L_law_295 : decode code 295 = .ok (.iaload, 1) := by decide +kernel
theorem d_L_law_296 : decode code 296 = .ok (.invokevirtual 43, 3) := by decide +kernel
theorem d_L_law_299 : decode code 299 = .ok (.if_icmp .eq 567, 3) := by decide +kernel
theorem d_L_law_302 : decode code 302 = .ok (.iconst 0, 1) := by decide +kernel
theorem d_L_law_303 : decode code 303 = .ok (.ireturn, 1) := by decide +kernel
theorem d_L_law_304 : decode code 304 = .ok (.aload_n 1, 1) := by decide +kernel
theorem d_L_law_305 : decode code 305 = .ok (.aload_n 0, 1) := by decide +kernel
theorem d_L_law_306 : decode code 306 = .ok (.iload 4, 2) := by decide +kernel
theorem d_L_law_308 : decode code 308 = .ok (.iconst 1, 1) := by decide +kernel
theorem d_L_law_309 : decode code 309 = .ok (.iadd, 1) := by decide +kernel
theorem d_L_law_310 : decode code 310 = .ok (.iaload, 1) := by decide +kernel
theorem d_L_law_311 : decode code 311 = .ok (.aload_n 0, 1) := by decide +kernel
theorem d_L_law_312 : decode code 312 = .ok (.iload 4, 2) := by decide +kernel
theorem d_L_law_314 : decode code 314 = .ok (.iconst 2, 1) := by decide +kernel
theorem d_L_law_315 : decode code 315 = .ok (.iadd, 1) := by decide +kernel
theorem d_L_law_316 : decode code 316 = .ok (.iaload, 1) := by decide +kernel
theorem d_L_law_317 : decode code 317 = .ok (.aload_n 3, 1) := by decide +kernel
theorem d_L_law_318 : decode code 318 = .ok (.invokestatic 44, 3) := by decide +kernel
theorem d_L_law_321 : decode code 321 = .ok (.istore 5, 2) := by decide +kernel
theorem d_L_law_323 : decode code 323 = .ok (.aload_n 2, 1) := by decide +kernel
theorem d_L_law_324 : decode code 324 = .ok (.aload_n 0, 1) := by decide +kernel
theorem d_L_law_325 : decode code 325 = .ok (.iload 4, 2) := by decide +kernel
theorem d_L_law_327 : decode code 327 = .ok (.iconst 1, 1) := by decide +kernel
theorem d_L_law_328 : decode code 328 = .ok (.iadd, 1) := by decide +kernel
theorem d_L_law_329 : decode code 329 = .ok (.iaload, 1) := by decide +kernel
theorem d_L_law_330 : decode code 330 = .ok (.aload_n 0, 1) := by decide +kernel
theorem d_L_law_331 : decode code 331 = .ok (.iload 4, 2) := by decide +kernel
theorem d_L_law_333 : decode code 333 = .ok (.iconst 2, 1) := by decide +kernel
theorem d_L_law_334 : decode code 334 = .ok (.iadd, 1) := by decide +kernel
theorem d_L_law_335 : decode code 335 = .ok (.iaload, 1) := by decide +kernel
theorem d_L_law_336 : decode code 336 = .ok (.invokevirtual 49, 3) := by decide +kernel
theorem d_L_law_339 : decode code 339 = .ok (.istore 6, 2) := by decide +kernel
theorem d_L_law_341 : decode code 341 = .ok (.aload_n 2, 1) := by decide +kernel
theorem d_L_law_342 : decode code 342 = .ok (.invokevirtual 50, 3) := by decide +kernel
theorem d_L_law_345 : decode code 345 = .ok (.iload 5, 2) := by decide +kernel
theorem d_L_law_347 : decode code 347 = .ok (.if_icmp .eq 5, 3) := by decide +kernel
theorem d_L_law_350 : decode code 350 = .ok (.iconst 0, 1) := by decide +kernel
theorem d_L_law_351 : decode code 351 = .ok (.ireturn, 1) := by decide +kernel
theorem d_L_law_352 : decode code 352 = .ok (.iload 5, 2) := by decide +kernel
theorem d_L_law_354 : decode code 354 = .ok (.ifCond .ne 15, 3) := by decide +kernel
theorem d_L_law_357 : decode code 357 = .ok (.aload_n 3, 1) := by decide +kernel
theorem d_L_law_358 : decode code 358 = .ok (.iconst 0, 1) := by decide +kernel
theorem d_L_law_359 : decode code 359 = .ok (.laload, 1) := by decide +kernel
theorem d_L_law_360 : decode code 360 = .ok (.iload 6, 2) := by decide +kernel
theorem d_L_law_362 : decode code 362 = .ok (.i2l, 1) := by decide +kernel
theorem d_L_law_363 : decode code 363 = .ok (.lcmp, 1) := by decide +kernel
theorem d_L_law_364 : decode code 364 = .ok (.ifCond .eq 5, 3) := by decide +kernel
theorem d_L_law_367 : decode code 367 = .ok (.iconst 0, 1) := by decide +kernel
theorem d_L_law_368 : decode code 368 = .ok (.ireturn, 1) := by decide +kernel
theorem d_L_law_369 : decode code 369 = .ok (.goto 497, 3) := by decide +kernel
theorem d_L_law_372 : decode code 372 = .ok (.aload_n 1, 1) := by decide +kernel
theorem d_L_law_373 : decode code 373 = .ok (.aload_n 0, 1) := by decide +kernel
theorem d_L_law_374 : decode code 374 = .ok (.iload 4, 2) := by decide +kernel
theorem d_L_law_376 : decode code 376 = .ok (.iconst 1, 1) := by decide +kernel
theorem d_L_law_377 : decode code 377 = .ok (.iadd, 1) := by decide +kernel
theorem d_L_law_378 : decode code 378 = .ok (.iaload, 1) := by decide +kernel
theorem d_L_law_379 : decode code 379 = .ok (.aload_n 0, 1) := by decide +kernel
theorem d_L_law_380 : decode code 380 = .ok (.iload 4, 2) := by decide +kernel
theorem d_L_law_382 : decode code 382 = .ok (.iconst 2, 1) := by decide +kernel
theorem d_L_law_383 : decode code 383 = .ok (.iadd, 1) := by decide +kernel
theorem d_L_law_384 : decode code 384 = .ok (.iaload, 1) := by decide +kernel
theorem d_L_law_385 : decode code 385 = .ok (.aload_n 0, 1) := by decide +kernel
theorem d_L_law_386 : decode code 386 = .ok (.iload 4, 2) := by decide +kernel
theorem d_L_law_388 : decode code 388 = .ok (.iconst 3, 1) := by decide +kernel
theorem d_L_law_389 : decode code 389 = .ok (.iadd, 1) := by decide +kernel
theorem d_L_law_390 : decode code 390 = .ok (.iaload, 1) := by decide +kernel
theorem d_L_law_391 : decode code 391 = .ok (.invokevirtual 54, 3) := by decide +kernel
theorem d_L_law_394 : decode code 394 = .ok (.aload_n 2, 1) := by decide +kernel
theorem d_L_law_395 : decode code 395 = .ok (.aload_n 0, 1) := by decide +kernel
theorem d_L_law_396 : decode code 396 = .ok (.iload 4, 2) := by decide +kernel
theorem d_L_law_398 : decode code 398 = .ok (.iconst 1, 1) := by decide +kernel
theorem d_L_law_399 : decode code 399 = .ok (.iadd, 1) := by decide +kernel
theorem d_L_law_400 : decode code 400 = .ok (.iaload, 1) := by decide +kernel
theorem d_L_law_401 : decode code 401 = .ok (.aload_n 0, 1) := by decide +kernel
theorem d_L_law_402 : decode code 402 = .ok (.iload 4, 2) := by decide +kernel
theorem d_L_law_404 : decode code 404 = .ok (.iconst 2, 1) := by decide +kernel
theorem d_L_law_405 : decode code 405 = .ok (.iadd, 1) := by decide +kernel
theorem d_L_law_406 : decode code 406 = .ok (.iaload, 1) := by decide +kernel
theorem d_L_law_407 : decode code 407 = .ok (.aload_n 0, 1) := by decide +kernel
theorem d_L_law_408 : decode code 408 = .ok (.iload 4, 2) := by decide +kernel
theorem d_L_law_410 : decode code 410 = .ok (.iconst 3, 1) := by decide +kernel
theorem d_L_law_411 : decode code 411 = .ok (.iadd, 1) := by decide +kernel
theorem d_L_law_412 : decode code 412 = .ok (.iaload, 1) := by decide +kernel
theorem d_L_law_413 : decode code 413 = .ok (.invokevirtual 57, 3) := by decide +kernel
theorem d_L_law_416 : decode code 416 = .ok (.if_icmp .eq 450, 3) := by decide +kernel
theorem d_L_law_419 : decode code 419 = .ok (.iconst 0, 1) := by decide +kernel
theorem d_L_law_420 : decode code 420 = .ok (.ireturn, 1) := by decide +kernel
theorem d_L_law_421 : decode code 421 = .ok (.aload_n 1, 1) := by decide +kernel
theorem d_L_law_422 : decode code 422 = .ok (.aload_n 0, 1) := by decide +kernel
theorem d_L_law_423 : decode code 423 = .ok (.iload 4, 2) := by decide +kernel
theorem d_L_law_425 : decode code 425 = .ok (.iconst 1, 1) := by decide +kernel
theorem d_L_law_426 : decode code 426 = .ok (.iadd, 1) := by decide +kernel
theorem d_L_law_427 : decode code 427 = .ok (.iaload, 1) := by decide +kernel
theorem d_L_law_428 : decode code 428 = .ok (.aload_n 0, 1) := by decide +kernel
theorem d_L_law_429 : decode code 429 = .ok (.iload 4, 2) := by decide +kernel
theorem d_L_law_431 : decode code 431 = .ok (.iconst 2, 1) := by decide +kernel
theorem d_L_law_432 : decode code 432 = .ok (.iadd, 1) := by decide +kernel
theorem d_L_law_433 : decode code 433 = .ok (.iaload, 1) := by decide +kernel
theorem d_L_law_434 : decode code 434 = .ok (.invokevirtual 58, 3) := by decide +kernel
theorem d_L_law_437 : decode code 437 = .ok (.aload_n 2, 1) := by decide +kernel
theorem d_L_law_438 : decode code 438 = .ok (.aload_n 0, 1) := by decide +kernel
theorem d_L_law_439 : decode code 439 = .ok (.iload 4, 2) := by decide +kernel
theorem d_L_law_441 : decode code 441 = .ok (.iconst 1, 1) := by decide +kernel
theorem d_L_law_442 : decode code 442 = .ok (.iadd, 1) := by decide +kernel
theorem d_L_law_443 : decode code 443 = .ok (.iaload, 1) := by decide +kernel
theorem d_L_law_444 : decode code 444 = .ok (.aload_n 0, 1) := by decide +kernel
theorem d_L_law_445 : decode code 445 = .ok (.iload 4, 2) := by decide +kernel
theorem d_L_law_447 : decode code 447 = .ok (.iconst 2, 1) := by decide +kernel
theorem d_L_law_448 : decode code 448 = .ok (.iadd, 1) := by decide +kernel
theorem d_L_law_449 : decode code 449 = .ok (.iaload, 1) := by decide +kernel
theorem d_L_law_450 : decode code 450 = .ok (.invokevirtual 61, 3) := by decide +kernel
theorem d_L_law_453 : decode code 453 = .ok (.if_icmp .eq 413, 3) := by decide +kernel
theorem d_L_law_456 : decode code 456 = .ok (.iconst 0, 1) := by decide +kernel
theorem d_L_law_457 : decode code 457 = .ok (.ireturn, 1) := by decide +kernel
theorem d_L_law_458 : decode code 458 = .ok (.aload_n 1, 1) := by decide +kernel
theorem d_L_law_459 : decode code 459 = .ok (.aload_n 0, 1) := by decide +kernel
theorem d_L_law_460 : decode code 460 = .ok (.iload 4, 2) := by decide +kernel
theorem d_L_law_462 : decode code 462 = .ok (.iconst 1, 1) := by decide +kernel
theorem d_L_law_463 : decode code 463 = .ok (.iadd, 1) := by decide +kernel
theorem d_L_law_464 : decode code 464 = .ok (.iaload, 1) := by decide +kernel
theorem d_L_law_465 : decode code 465 = .ok (.aload_n 0, 1) := by decide +kernel
theorem d_L_law_466 : decode code 466 = .ok (.iload 4, 2) := by decide +kernel
theorem d_L_law_468 : decode code 468 = .ok (.iconst 2, 1) := by decide +kernel
theorem d_L_law_469 : decode code 469 = .ok (.iadd, 1) := by decide +kernel
theorem d_L_law_470 : decode code 470 = .ok (.iaload, 1) := by decide +kernel
theorem d_L_law_471 : decode code 471 = .ok (.invokevirtual 62, 3) := by decide +kernel
theorem d_L_law_474 : decode code 474 = .ok (.aload_n 2, 1) := by decide +kernel
theorem d_L_law_475 : decode code 475 = .ok (.aload_n 0, 1) := by decide +kernel
theorem d_L_law_476 : decode code 476 = .ok (.iload 4, 2) := by decide +kernel
theorem d_L_law_478 : decode code 478 = .ok (.iconst 1, 1) := by decide +kernel
theorem d_L_law_479 : decode code 479 = .ok (.iadd, 1) := by decide +kernel
theorem d_L_law_480 : decode code 480 = .ok (.iaload, 1) := by decide +kernel
theorem d_L_law_481 : decode code 481 = .ok (.aload_n 0, 1) := by decide +kernel
theorem d_L_law_482 : decode code 482 = .ok (.iload 4, 2) := by decide +kernel
theorem d_L_law_484 : decode code 484 = .ok (.iconst 2, 1) := by decide +kernel
theorem d_L_law_485 : decode code 485 = .ok (.iadd, 1) := by decide +kernel
theorem d_L_law_486 : decode code 486 = .ok (.iaload, 1) := by decide +kernel
theorem d_L_law_487 : decode code 487 = .ok (.invokevirtual 65, 3) := by decide +kernel
theorem d_L_law_490 : decode code 490 = .ok (.if_icmp .eq 376, 3) := by decide +kernel
theorem d_L_law_493 : decode code 493 = .ok (.iconst 0, 1) := by decide +kernel
theorem d_L_law_494 : decode code 494 = .ok (.ireturn, 1) := by decide +kernel
theorem d_L_law_495 : decode code 495 = .ok (.aload_n 1, 1) := by decide +kernel
theorem d_L_law_496 : decode code 496 = .ok (.aload_n 0, 1) := by decide +kernel
theorem d_L_law_497 : decode code 497 = .ok (.iload 4, 2) := by decide +kernel
theorem d_L_law_499 : decode code 499 = .ok (.iconst 1, 1) := by decide +kernel
theorem d_L_law_500 : decode code 500 = .ok (.iadd, 1) := by decide +kernel
theorem d_L_law_501 : decode code 501 = .ok (.iaload, 1) := by decide +kernel
theorem d_L_law_502 : decode code 502 = .ok (.aload_n 0, 1) := by decide +kernel
theorem d_L_law_503 : decode code 503 = .ok (.iload 4, 2) := by decide +kernel
theorem d_L_law_505 : decode code 505 = .ok (.iconst 2, 1) := by decide +kernel
theorem d_L_law_506 : decode code 506 = .ok (.iadd, 1) := by decide +kernel
theorem d_L_law_507 : decode code 507 = .ok (.iaload, 1) := by decide +kernel
theorem d_L_law_508 : decode code 508 = .ok (.invokevirtual 66, 3) := by decide +kernel
theorem d_L_law_511 : decode code 511 = .ok (.aload_n 2, 1) := by decide +kernel
theorem d_L_law_512 : decode code 512 = .ok (.aload_n 0, 1) := by decide +kernel
theorem d_L_law_513 : decode code 513 = .ok (.iload 4, 2) := by decide +kernel
theorem d_L_law_515 : decode code 515 = .ok (.iconst 1, 1) := by decide +kernel
theorem d_L_law_516 : decode code 516 = .ok (.iadd, 1) := by decide +kernel
theorem d_L_law_517 : decode code 517 = .ok (.iaload, 1) := by decide +kernel
theorem d_L_law_518 : decode code 518 = .ok (.aload_n 0, 1) := by decide +kernel
theorem d_L_law_519 : decode code 519 = .ok (.iload 4, 2) := by decide +kernel
theorem d_L_law_521 : decode code 521 = .ok (.iconst 2, 1) := by decide +kernel
theorem d_L_law_522 : decode code 522 = .ok (.iadd, 1) := by decide +kernel
theorem d_L_law_523 : decode code 523 = .ok (.iaload, 1) := by decide +kernel
theorem d_L_law_524 : decode code 524 = .ok (.invokevirtual 69, 3) := by decide +kernel
theorem d_L_law_527 : decode code 527 = .ok (.if_icmp .eq 339, 3) := by decide +kernel
theorem d_L_law_530 : decode code 530 = .ok (.iconst 0, 1) := by decide +kernel
theorem d_L_law_531 : decode code 531 = .ok (.ireturn, 1) := by decide +kernel
theorem d_L_law_532 : decode code 532 = .ok (.aload_n 1, 1) := by decide +kernel
theorem d_L_law_533 : decode code 533 = .ok (.aload_n 0, 1) := by decide +kernel
theorem d_L_law_534 : decode code 534 = .ok (.iload 4, 2) := by decide +kernel
theorem d_L_law_536 : decode code 536 = .ok (.iconst 1, 1) := by decide +kernel
theorem d_L_law_537 : decode code 537 = .ok (.iadd, 1) := by decide +kernel
theorem d_L_law_538 : decode code 538 = .ok (.iaload, 1) := by decide +kernel
theorem d_L_law_539 : decode code 539 = .ok (.aload_n 0, 1) := by decide +kernel
theorem d_L_law_540 : decode code 540 = .ok (.iload 4, 2) := by decide +kernel
theorem d_L_law_542 : decode code 542 = .ok (.iconst 2, 1) := by decide +kernel
theorem d_L_law_543 : decode code 543 = .ok (.iadd, 1) := by decide +kernel
theorem d_L_law_544 : decode code 544 = .ok (.iaload, 1) := by decide +kernel
theorem d_L_law_545 : decode code 545 = .ok (.invokevirtual 70, 3) := by decide +kernel
theorem d_L_law_548 : decode code 548 = .ok (.aload_n 2, 1) := by decide +kernel
theorem d_L_law_549 : decode code 549 = .ok (.aload_n 0, 1) := by decide +kernel
theorem d_L_law_550 : decode code 550 = .ok (.iload 4, 2) := by decide +kernel
theorem d_L_law_552 : decode code 552 = .ok (.iconst 1, 1) := by decide +kernel
theorem d_L_law_553 : decode code 553 = .ok (.iadd, 1) := by decide +kernel
theorem d_L_law_554 : decode code 554 = .ok (.iaload, 1) := by decide +kernel
theorem d_L_law_555 : decode code 555 = .ok (.aload_n 0, 1) := by decide +kernel
theorem d_L_law_556 : decode code 556 = .ok (.iload 4, 2) := by decide +kernel
theorem d_L_law_558 : decode code 558 = .ok (.iconst 2, 1) := by decide +kernel
theorem d_L_law_559 : decode code 559 = .ok (.iadd, 1) := by decide +kernel
theorem d_L_law_560 : decode code 560 = .ok (.iaload, 1) := by decide +kernel
theorem d_L_law_561 : decode code 561 = .ok (.invokevirtual 73, 3) := by decide +kernel
