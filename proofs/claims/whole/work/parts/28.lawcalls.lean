/-! THE LAW, 2: its 25 calls. -/
theorem dL_law_0 : decode cL_law 0 = .ok (.new 7, 3) := by decide +kernel
theorem dL_law_3 : decode cL_law 3 = .ok (.dup, 1) := by decide +kernel
theorem dL_law_4 : decode cL_law 4 = .ok (.invokespecial 9, 3) := by decide +kernel
theorem dL_law_7 : decode cL_law 7 = .ok (.astore_n 1, 1) := by decide +kernel
theorem dL_law_8 : decode cL_law 8 = .ok (.new 10, 3) := by decide +kernel
theorem dL_law_11 : decode cL_law 11 = .ok (.dup, 1) := by decide +kernel
theorem dL_law_12 : decode cL_law 12 = .ok (.invokespecial 12, 3) := by decide +kernel
theorem dL_law_15 : decode cL_law 15 = .ok (.astore_n 2, 1) := by decide +kernel
theorem dL_law_16 : decode cL_law 16 = .ok (.iconst 0, 1) := by decide +kernel
theorem dL_law_17 : decode cL_law 17 = .ok (.istore_n 3, 1) := by decide +kernel
theorem dL_law_18 : decode cL_law 18 = .ok (.iload_n 3, 1) := by decide +kernel
theorem dL_law_19 : decode cL_law 19 = .ok (.aload_n 0, 1) := by decide +kernel
theorem dL_law_20 : decode cL_law 20 = .ok (.arraylength, 1) := by decide +kernel
theorem dL_law_21 : decode cL_law 21 = .ok (.iconst 4, 1) := by decide +kernel
theorem dL_law_22 : decode cL_law 22 = .ok (.isub, 1) := by decide +kernel
theorem dL_law_23 : decode cL_law 23 = .ok (.if_icmp .gt 800, 3) := by decide +kernel
theorem dL_law_26 : decode cL_law 26 = .ok (.aload_n 0, 1) := by decide +kernel
theorem dL_law_27 : decode cL_law 27 = .ok (.iload_n 3, 1) := by decide +kernel
theorem dL_law_28 : decode cL_law 28 = .ok (.iaload, 1) := by decide +kernel
theorem dL_law_29 : decode cL_law 29 = .ok (.bipush 31, 2) := by decide +kernel
theorem dL_law_31 : decode cL_law 31 = .ok (.iand, 1) := by decide +kernel
theorem dL_law_32 : decode cL_law 32 = .ok (.tableswitch 785 0 24 #[116, 149, 182, 225, 258, 271, 294, 317, 340, 373, 396, 419, 452, 485, 508, 521, 544, 557, 600, 613, 627, 651, 685, 729, 752], 116) := by decide +kernel
theorem dL_law_148 : decode cL_law 148 = .ok (.aload_n 1, 1) := by decide +kernel
theorem dL_law_149 : decode cL_law 149 = .ok (.aload_n 0, 1) := by decide +kernel
theorem dL_law_150 : decode cL_law 150 = .ok (.iload_n 3, 1) := by decide +kernel
theorem dL_law_151 : decode cL_law 151 = .ok (.iconst 1, 1) := by decide +kernel
theorem dL_law_152 : decode cL_law 152 = .ok (.iadd, 1) := by decide +kernel
theorem dL_law_153 : decode cL_law 153 = .ok (.iaload, 1) := by decide +kernel
theorem dL_law_154 : decode cL_law 154 = .ok (.aload_n 0, 1) := by decide +kernel
theorem dL_law_155 : decode cL_law 155 = .ok (.iload_n 3, 1) := by decide +kernel
theorem dL_law_156 : decode cL_law 156 = .ok (.iconst 2, 1) := by decide +kernel
theorem dL_law_157 : decode cL_law 157 = .ok (.iadd, 1) := by decide +kernel
theorem dL_law_158 : decode cL_law 158 = .ok (.iaload, 1) := by decide +kernel
theorem dL_law_159 : decode cL_law 159 = .ok (.invokevirtual 13, 3) := by decide +kernel
theorem dL_law_162 : decode cL_law 162 = .ok (.aload_n 2, 1) := by decide +kernel
theorem dL_law_163 : decode cL_law 163 = .ok (.aload_n 0, 1) := by decide +kernel
theorem dL_law_164 : decode cL_law 164 = .ok (.iload_n 3, 1) := by decide +kernel
theorem dL_law_165 : decode cL_law 165 = .ok (.iconst 1, 1) := by decide +kernel
theorem dL_law_166 : decode cL_law 166 = .ok (.iadd, 1) := by decide +kernel
theorem dL_law_167 : decode cL_law 167 = .ok (.iaload, 1) := by decide +kernel
theorem dL_law_168 : decode cL_law 168 = .ok (.aload_n 0, 1) := by decide +kernel
theorem dL_law_169 : decode cL_law 169 = .ok (.iload_n 3, 1) := by decide +kernel
theorem dL_law_170 : decode cL_law 170 = .ok (.iconst 2, 1) := by decide +kernel
theorem dL_law_171 : decode cL_law 171 = .ok (.iadd, 1) := by decide +kernel
theorem dL_law_172 : decode cL_law 172 = .ok (.iaload, 1) := by decide +kernel
theorem dL_law_173 : decode cL_law 173 = .ok (.invokevirtual 17, 3) := by decide +kernel
theorem dL_law_176 : decode cL_law 176 = .ok (.if_icmp .eq 641, 3) := by decide +kernel
theorem dL_law_179 : decode cL_law 179 = .ok (.iconst 0, 1) := by decide +kernel
theorem dL_law_180 : decode cL_law 180 = .ok (.ireturn, 1) := by decide +kernel
theorem dL_law_181 : decode cL_law 181 = .ok (.aload_n 1, 1) := by decide +kernel
theorem dL_law_182 : decode cL_law 182 = .ok (.aload_n 0, 1) := by decide +kernel
theorem dL_law_183 : decode cL_law 183 = .ok (.iload_n 3, 1) := by decide +kernel
theorem dL_law_184 : decode cL_law 184 = .ok (.iconst 1, 1) := by decide +kernel
theorem dL_law_185 : decode cL_law 185 = .ok (.iadd, 1) := by decide +kernel
theorem dL_law_186 : decode cL_law 186 = .ok (.iaload, 1) := by decide +kernel
theorem dL_law_187 : decode cL_law 187 = .ok (.aload_n 0, 1) := by decide +kernel
theorem dL_law_188 : decode cL_law 188 = .ok (.iload_n 3, 1) := by decide +kernel
theorem dL_law_189 : decode cL_law 189 = .ok (.iconst 2, 1) := by decide +kernel
theorem dL_law_190 : decode cL_law 190 = .ok (.iadd, 1) := by decide +kernel
theorem dL_law_191 : decode cL_law 191 = .ok (.iaload, 1) := by decide +kernel
theorem dL_law_192 : decode cL_law 192 = .ok (.invokevirtual 18, 3) := by decide +kernel
theorem dL_law_195 : decode cL_law 195 = .ok (.aload_n 2, 1) := by decide +kernel
theorem dL_law_196 : decode cL_law 196 = .ok (.aload_n 0, 1) := by decide +kernel
theorem dL_law_197 : decode cL_law 197 = .ok (.iload_n 3, 1) := by decide +kernel
theorem dL_law_198 : decode cL_law 198 = .ok (.iconst 1, 1) := by decide +kernel
theorem dL_law_199 : decode cL_law 199 = .ok (.iadd, 1) := by decide +kernel
theorem dL_law_200 : decode cL_law 200 = .ok (.iaload, 1) := by decide +kernel
theorem dL_law_201 : decode cL_law 201 = .ok (.aload_n 0, 1) := by decide +kernel
theorem dL_law_202 : decode cL_law 202 = .ok (.iload_n 3, 1) := by decide +kernel
theorem dL_law_203 : decode cL_law 203 = .ok (.iconst 2, 1) := by decide +kernel
theorem dL_law_204 : decode cL_law 204 = .ok (.iadd, 1) := by decide +kernel
theorem dL_law_205 : decode cL_law 205 = .ok (.iaload, 1) := by decide +kernel
theorem dL_law_206 : decode cL_law 206 = .ok (.invokevirtual 21, 3) := by decide +kernel
theorem dL_law_209 : decode cL_law 209 = .ok (.if_icmp .eq 608, 3) := by decide +kernel
theorem dL_law_212 : decode cL_law 212 = .ok (.iconst 0, 1) := by decide +kernel
theorem dL_law_213 : decode cL_law 213 = .ok (.ireturn, 1) := by decide +kernel
theorem dL_law_214 : decode cL_law 214 = .ok (.aload_n 1, 1) := by decide +kernel
theorem dL_law_215 : decode cL_law 215 = .ok (.aload_n 0, 1) := by decide +kernel
theorem dL_law_216 : decode cL_law 216 = .ok (.iload_n 3, 1) := by decide +kernel
theorem dL_law_217 : decode cL_law 217 = .ok (.iconst 1, 1) := by decide +kernel
theorem dL_law_218 : decode cL_law 218 = .ok (.iadd, 1) := by decide +kernel
theorem dL_law_219 : decode cL_law 219 = .ok (.iaload, 1) := by decide +kernel
theorem dL_law_220 : decode cL_law 220 = .ok (.aload_n 0, 1) := by decide +kernel
theorem dL_law_221 : decode cL_law 221 = .ok (.iload_n 3, 1) := by decide +kernel
theorem dL_law_222 : decode cL_law 222 = .ok (.iconst 2, 1) := by decide +kernel
theorem dL_law_223 : decode cL_law 223 = .ok (.iadd, 1) := by decide +kernel
theorem dL_law_224 : decode cL_law 224 = .ok (.iaload, 1) := by decide +kernel
theorem dL_law_225 : decode cL_law 225 = .ok (.aload_n 0, 1) := by decide +kernel
theorem dL_law_226 : decode cL_law 226 = .ok (.iload_n 3, 1) := by decide +kernel
theorem dL_law_227 : decode cL_law 227 = .ok (.iconst 3, 1) := by decide +kernel
theorem dL_law_228 : decode cL_law 228 = .ok (.iadd, 1) := by decide +kernel
theorem dL_law_229 : decode cL_law 229 = .ok (.iaload, 1) := by decide +kernel
theorem dL_law_230 : decode cL_law 230 = .ok (.invokevirtual 22, 3) := by decide +kernel
theorem dL_law_233 : decode cL_law 233 = .ok (.aload_n 2, 1) := by decide +kernel
theorem dL_law_234 : decode cL_law 234 = .ok (.aload_n 0, 1) := by decide +kernel
theorem dL_law_235 : decode cL_law 235 = .ok (.iload_n 3, 1) := by decide +kernel
theorem dL_law_236 : decode cL_law 236 = .ok (.iconst 1, 1) := by decide +kernel
theorem dL_law_237 : decode cL_law 237 = .ok (.iadd, 1) := by decide +kernel
theorem dL_law_238 : decode cL_law 238 = .ok (.iaload, 1) := by decide +kernel
theorem dL_law_239 : decode cL_law 239 = .ok (.aload_n 0, 1) := by decide +kernel
theorem dL_law_240 : decode cL_law 240 = .ok (.iload_n 3, 1) := by decide +kernel
theorem dL_law_241 : decode cL_law 241 = .ok (.iconst 2, 1) := by decide +kernel
theorem dL_law_242 : decode cL_law 242 = .ok (.iadd, 1) := by decide +kernel
theorem dL_law_243 : decode cL_law 243 = .ok (.iaload, 1) := by decide +kernel
theorem dL_law_244 : decode cL_law 244 = .ok (.aload_n 0, 1) := by decide +kernel
theorem dL_law_245 : decode cL_law 245 = .ok (.iload_n 3, 1) := by decide +kernel
theorem dL_law_246 : decode cL_law 246 = .ok (.iconst 3, 1) := by decide +kernel
theorem dL_law_247 : decode cL_law 247 = .ok (.iadd, 1) := by decide +kernel
theorem dL_law_248 : decode cL_law 248 = .ok (.iaload, 1) := by decide +kernel
theorem dL_law_249 : decode cL_law 249 = .ok (.invokevirtual 26, 3) := by decide +kernel
theorem dL_law_252 : decode cL_law 252 = .ok (.if_icmp .eq 565, 3) := by decide +kernel
theorem dL_law_255 : decode cL_law 255 = .ok (.iconst 0, 1) := by decide +kernel
theorem dL_law_256 : decode cL_law 256 = .ok (.ireturn, 1) := by decide +kernel
theorem dL_law_257 : decode cL_law 257 = .ok (.aload_n 1, 1) := by decide +kernel
theorem dL_law_258 : decode cL_law 258 = .ok (.aload_n 0, 1) := by decide +kernel
theorem dL_law_259 : decode cL_law 259 = .ok (.iload_n 3, 1) := by decide +kernel
theorem dL_law_260 : decode cL_law 260 = .ok (.iconst 1, 1) := by decide +kernel
theorem dL_law_261 : decode cL_law 261 = .ok (.iadd, 1) := by decide +kernel
theorem dL_law_262 : decode cL_law 262 = .ok (.iaload, 1) := by decide +kernel
theorem dL_law_263 : decode cL_law 263 = .ok (.aload_n 0, 1) := by decide +kernel
theorem dL_law_264 : decode cL_law 264 = .ok (.iload_n 3, 1) := by decide +kernel
theorem dL_law_265 : decode cL_law 265 = .ok (.iconst 2, 1) := by decide +kernel
theorem dL_law_266 : decode cL_law 266 = .ok (.iadd, 1) := by decide +kernel
theorem dL_law_267 : decode cL_law 267 = .ok (.iaload, 1) := by decide +kernel
theorem dL_law_268 : decode cL_law 268 = .ok (.invokevirtual 27, 3) := by decide +kernel
theorem dL_law_271 : decode cL_law 271 = .ok (.aload_n 2, 1) := by decide +kernel
theorem dL_law_272 : decode cL_law 272 = .ok (.aload_n 0, 1) := by decide +kernel
theorem dL_law_273 : decode cL_law 273 = .ok (.iload_n 3, 1) := by decide +kernel
theorem dL_law_274 : decode cL_law 274 = .ok (.iconst 1, 1) := by decide +kernel
theorem dL_law_275 : decode cL_law 275 = .ok (.iadd, 1) := by decide +kernel
theorem dL_law_276 : decode cL_law 276 = .ok (.iaload, 1) := by decide +kernel
theorem dL_law_277 : decode cL_law 277 = .ok (.aload_n 0, 1) := by decide +kernel
theorem dL_law_278 : decode cL_law 278 = .ok (.iload_n 3, 1) := by decide +kernel
theorem dL_law_279 : decode cL_law 279 = .ok (.iconst 2, 1) := by decide +kernel
theorem dL_law_280 : decode cL_law 280 = .ok (.iadd, 1) := by decide +kernel
theorem dL_law_281 : decode cL_law 281 = .ok (.iaload, 1) := by decide +kernel
theorem dL_law_282 : decode cL_law 282 = .ok (.invokevirtual 30, 3) := by decide +kernel
theorem dL_law_285 : decode cL_law 285 = .ok (.if_icmp .eq 532, 3) := by decide +kernel
theorem dL_law_288 : decode cL_law 288 = .ok (.iconst 0, 1) := by decide +kernel
theorem dL_law_289 : decode cL_law 289 = .ok (.ireturn, 1) := by decide +kernel
theorem dL_law_290 : decode cL_law 290 = .ok (.aload_n 1, 1) := by decide +kernel
theorem dL_law_291 : decode cL_law 291 = .ok (.invokevirtual 31, 3) := by decide +kernel
theorem dL_law_294 : decode cL_law 294 = .ok (.aload_n 2, 1) := by decide +kernel
theorem dL_law_295 : decode cL_law 295 = .ok (.invokevirtual 35, 3) := by decide +kernel
theorem dL_law_298 : decode cL_law 298 = .ok (.if_icmp .eq 519, 3) := by decide +kernel
theorem dL_law_301 : decode cL_law 301 = .ok (.iconst 0, 1) := by decide +kernel
theorem dL_law_302 : decode cL_law 302 = .ok (.ireturn, 1) := by decide +kernel
theorem dL_law_303 : decode cL_law 303 = .ok (.aload_n 1, 1) := by decide +kernel
theorem dL_law_304 : decode cL_law 304 = .ok (.aload_n 0, 1) := by decide +kernel
theorem dL_law_305 : decode cL_law 305 = .ok (.iload_n 3, 1) := by decide +kernel
theorem dL_law_306 : decode cL_law 306 = .ok (.iconst 1, 1) := by decide +kernel
theorem dL_law_307 : decode cL_law 307 = .ok (.iadd, 1) := by decide +kernel
theorem dL_law_308 : decode cL_law 308 = .ok (.iaload, 1) := by decide +kernel
theorem dL_law_309 : decode cL_law 309 = .ok (.invokevirtual 36, 3) := by decide +kernel
theorem dL_law_312 : decode cL_law 312 = .ok (.aload_n 2, 1) := by decide +kernel
theorem dL_law_313 : decode cL_law 313 = .ok (.aload_n 0, 1) := by decide +kernel
theorem dL_law_314 : decode cL_law 314 = .ok (.iload_n 3, 1) := by decide +kernel
theorem dL_law_315 : decode cL_law 315 = .ok (.iconst 1, 1) := by decide +kernel
theorem dL_law_316 : decode cL_law 316 = .ok (.iadd, 1) := by decide +kernel
theorem dL_law_317 : decode cL_law 317 = .ok (.iaload, 1) := by decide +kernel
theorem dL_law_318 : decode cL_law 318 = .ok (.invokevirtual 40, 3) := by decide +kernel
theorem dL_law_321 : decode cL_law 321 = .ok (.if_icmp .eq 496, 3) := by decide +kernel
theorem dL_law_324 : decode cL_law 324 = .ok (.iconst 0, 1) := by decide +kernel
theorem dL_law_325 : decode cL_law 325 = .ok (.ireturn, 1) := by decide +kernel
theorem dL_law_326 : decode cL_law 326 = .ok (.aload_n 1, 1) := by decide +kernel
theorem dL_law_327 : decode cL_law 327 = .ok (.aload_n 0, 1) := by decide +kernel
theorem dL_law_328 : decode cL_law 328 = .ok (.iload_n 3, 1) := by decide +kernel
theorem dL_law_329 : decode cL_law 329 = .ok (.iconst 1, 1) := by decide +kernel
theorem dL_law_330 : decode cL_law 330 = .ok (.iadd, 1) := by decide +kernel
theorem dL_law_331 : decode cL_law 331 = .ok (.iaload, 1) := by decide +kernel
theorem dL_law_332 : decode cL_law 332 = .ok (.invokevirtual 41, 3) := by decide +kernel
theorem dL_law_335 : decode cL_law 335 = .ok (.aload_n 2, 1) := by decide +kernel
theorem dL_law_336 : decode cL_law 336 = .ok (.aload_n 0, 1) := by decide +kernel
theorem dL_law_337 : decode cL_law 337 = .ok (.iload_n 3, 1) := by decide +kernel
theorem dL_law_338 : decode cL_law 338 = .ok (.iconst 1, 1) := by decide +kernel
theorem dL_law_339 : decode cL_law 339 = .ok (.iadd, 1) := by decide +kernel
theorem dL_law_340 : decode cL_law 340 = .ok (.iaload, 1) := by decide +kernel
theorem dL_law_341 : decode cL_law 341 = .ok (.invokevirtual 44, 3) := by decide +kernel
theorem dL_law_344 : decode cL_law 344 = .ok (.if_icmp .eq 473, 3) := by decide +kernel
theorem dL_law_347 : decode cL_law 347 = .ok (.iconst 0, 1) := by decide +kernel
theorem dL_law_348 : decode cL_law 348 = .ok (.ireturn, 1) := by decide +kernel
theorem dL_law_349 : decode cL_law 349 = .ok (.aload_n 1, 1) := by decide +kernel
theorem dL_law_350 : decode cL_law 350 = .ok (.aload_n 0, 1) := by decide +kernel
theorem dL_law_351 : decode cL_law 351 = .ok (.iload_n 3, 1) := by decide +kernel
theorem dL_law_352 : decode cL_law 352 = .ok (.iconst 1, 1) := by decide +kernel
theorem dL_law_353 : decode cL_law 353 = .ok (.iadd, 1) := by decide +kernel
theorem dL_law_354 : decode cL_law 354 = .ok (.iaload, 1) := by decide +kernel
theorem dL_law_355 : decode cL_law 355 = .ok (.invokevirtual 45, 3) := by decide +kernel
theorem dL_law_358 : decode cL_law 358 = .ok (.aload_n 2, 1) := by decide +kernel
theorem dL_law_359 : decode cL_law 359 = .ok (.aload_n 0, 1) := by decide +kernel
theorem dL_law_360 : decode cL_law 360 = .ok (.iload_n 3, 1) := by decide +kernel
theorem dL_law_361 : decode cL_law 361 = .ok (.iconst 1, 1) := by decide +kernel
theorem dL_law_362 : decode cL_law 362 = .ok (.iadd, 1) := by decide +kernel
theorem dL_law_363 : decode cL_law 363 = .ok (.iaload, 1) := by decide +kernel
theorem dL_law_364 : decode cL_law 364 = .ok (.invokevirtual 48, 3) := by decide +kernel
theorem dL_law_367 : decode cL_law 367 = .ok (.if_icmp .eq 450, 3) := by decide +kernel
theorem dL_law_370 : decode cL_law 370 = .ok (.iconst 0, 1) := by decide +kernel
theorem dL_law_371 : decode cL_law 371 = .ok (.ireturn, 1) := by decide +kernel
theorem dL_law_372 : decode cL_law 372 = .ok (.aload_n 1, 1) := by decide +kernel
theorem dL_law_373 : decode cL_law 373 = .ok (.aload_n 0, 1) := by decide +kernel
theorem dL_law_374 : decode cL_law 374 = .ok (.iload_n 3, 1) := by decide +kernel
theorem dL_law_375 : decode cL_law 375 = .ok (.iconst 1, 1) := by decide +kernel
theorem dL_law_376 : decode cL_law 376 = .ok (.iadd, 1) := by decide +kernel
theorem dL_law_377 : decode cL_law 377 = .ok (.iaload, 1) := by decide +kernel
theorem dL_law_378 : decode cL_law 378 = .ok (.aload_n 0, 1) := by decide +kernel
theorem dL_law_379 : decode cL_law 379 = .ok (.iload_n 3, 1) := by decide +kernel
theorem dL_law_380 : decode cL_law 380 = .ok (.iconst 2, 1) := by decide +kernel
theorem dL_law_381 : decode cL_law 381 = .ok (.iadd, 1) := by decide +kernel
theorem dL_law_382 : decode cL_law 382 = .ok (.iaload, 1) := by decide +kernel
theorem dL_law_383 : decode cL_law 383 = .ok (.invokevirtual 49, 3) := by decide +kernel
theorem dL_law_386 : decode cL_law 386 = .ok (.aload_n 2, 1) := by decide +kernel
theorem dL_law_387 : decode cL_law 387 = .ok (.aload_n 0, 1) := by decide +kernel
theorem dL_law_388 : decode cL_law 388 = .ok (.iload_n 3, 1) := by decide +kernel
theorem dL_law_389 : decode cL_law 389 = .ok (.iconst 1, 1) := by decide +kernel
theorem dL_law_390 : decode cL_law 390 = .ok (.iadd, 1) := by decide +kernel
theorem dL_law_391 : decode cL_law 391 = .ok (.iaload, 1) := by decide +kernel
theorem dL_law_392 : decode cL_law 392 = .ok (.aload_n 0, 1) := by decide +kernel
theorem dL_law_393 : decode cL_law 393 = .ok (.iload_n 3, 1) := by decide +kernel
theorem dL_law_394 : decode cL_law 394 = .ok (.iconst 2, 1) := by decide +kernel
theorem dL_law_395 : decode cL_law 395 = .ok (.iadd, 1) := by decide +kernel
theorem dL_law_396 : decode cL_law 396 = .ok (.iaload, 1) := by decide +kernel
theorem dL_law_397 : decode cL_law 397 = .ok (.invokevirtual 52, 3) := by decide +kernel
theorem dL_law_400 : decode cL_law 400 = .ok (.if_icmp .eq 417, 3) := by decide +kernel
theorem dL_law_403 : decode cL_law 403 = .ok (.iconst 0, 1) := by decide +kernel
theorem dL_law_404 : decode cL_law 404 = .ok (.ireturn, 1) := by decide +kernel
theorem dL_law_405 : decode cL_law 405 = .ok (.aload_n 1, 1) := by decide +kernel
theorem dL_law_406 : decode cL_law 406 = .ok (.aload_n 0, 1) := by decide +kernel
theorem dL_law_407 : decode cL_law 407 = .ok (.iload_n 3, 1) := by decide +kernel
theorem dL_law_408 : decode cL_law 408 = .ok (.iconst 1, 1) := by decide +kernel
theorem dL_law_409 : decode cL_law 409 = .ok (.iadd, 1) := by decide +kernel
theorem dL_law_410 : decode cL_law 410 = .ok (.iaload, 1) := by decide +kernel
theorem dL_law_411 : decode cL_law 411 = .ok (.invokevirtual 53, 3) := by decide +kernel
theorem dL_law_414 : decode cL_law 414 = .ok (.aload_n 2, 1) := by decide +kernel
theorem dL_law_415 : decode cL_law 415 = .ok (.aload_n 0, 1) := by decide +kernel
theorem dL_law_416 : decode cL_law 416 = .ok (.iload_n 3, 1) := by decide +kernel
theorem dL_law_417 : decode cL_law 417 = .ok (.iconst 1, 1) := by decide +kernel
theorem dL_law_418 : decode cL_law 418 = .ok (.iadd, 1) := by decide +kernel
theorem dL_law_419 : decode cL_law 419 = .ok (.iaload, 1) := by decide +kernel
theorem dL_law_420 : decode cL_law 420 = .ok (.invokevirtual 56, 3) := by decide +kernel
theorem dL_law_423 : decode cL_law 423 = .ok (.if_icmp .eq 394, 3) := by decide +kernel
theorem dL_law_426 : decode cL_law 426 = .ok (.iconst 0, 1) := by decide +kernel
theorem dL_law_427 : decode cL_law 427 = .ok (.ireturn, 1) := by decide +kernel
theorem dL_law_428 : decode cL_law 428 = .ok (.aload_n 1, 1) := by decide +kernel
theorem dL_law_429 : decode cL_law 429 = .ok (.aload_n 0, 1) := by decide +kernel
theorem dL_law_430 : decode cL_law 430 = .ok (.iload_n 3, 1) := by decide +kernel
theorem dL_law_431 : decode cL_law 431 = .ok (.iconst 1, 1) := by decide +kernel
theorem dL_law_432 : decode cL_law 432 = .ok (.iadd, 1) := by decide +kernel
theorem dL_law_433 : decode cL_law 433 = .ok (.iaload, 1) := by decide +kernel
theorem dL_law_434 : decode cL_law 434 = .ok (.invokevirtual 57, 3) := by decide +kernel
theorem dL_law_437 : decode cL_law 437 = .ok (.aload_n 2, 1) := by decide +kernel
theorem dL_law_438 : decode cL_law 438 = .ok (.aload_n 0, 1) := by decide +kernel
theorem dL_law_439 : decode cL_law 439 = .ok (.iload_n 3, 1) := by decide +kernel
theorem dL_law_440 : decode cL_law 440 = .ok (.iconst 1, 1) := by decide +kernel
theorem dL_law_441 : decode cL_law 441 = .ok (.iadd, 1) := by decide +kernel
theorem dL_law_442 : decode cL_law 442 = .ok (.iaload, 1) := by decide +kernel
theorem dL_law_443 : decode cL_law 443 = .ok (.invokevirtual 60, 3) := by decide +kernel
theorem dL_law_446 : decode cL_law 446 = .ok (.if_icmp .eq 371, 3) := by decide +kernel
theorem dL_law_449 : decode cL_law 449 = .ok (.iconst 0, 1) := by decide +kernel
theorem dL_law_450 : decode cL_law 450 = .ok (.ireturn, 1) := by decide +kernel
theorem dL_law_451 : decode cL_law 451 = .ok (.aload_n 1, 1) := by decide +kernel
theorem dL_law_452 : decode cL_law 452 = .ok (.aload_n 0, 1) := by decide +kernel
theorem dL_law_453 : decode cL_law 453 = .ok (.iload_n 3, 1) := by decide +kernel
theorem dL_law_454 : decode cL_law 454 = .ok (.iconst 1, 1) := by decide +kernel
theorem dL_law_455 : decode cL_law 455 = .ok (.iadd, 1) := by decide +kernel
theorem dL_law_456 : decode cL_law 456 = .ok (.iaload, 1) := by decide +kernel
theorem dL_law_457 : decode cL_law 457 = .ok (.aload_n 0, 1) := by decide +kernel
theorem dL_law_458 : decode cL_law 458 = .ok (.iload_n 3, 1) := by decide +kernel
theorem dL_law_459 : decode cL_law 459 = .ok (.iconst 2, 1) := by decide +kernel
theorem dL_law_460 : decode cL_law 460 = .ok (.iadd, 1) := by decide +kernel
theorem dL_law_461 : decode cL_law 461 = .ok (.iaload, 1) := by decide +kernel
theorem dL_law_462 : decode cL_law 462 = .ok (.invokevirtual 61, 3) := by decide +kernel
theorem dL_law_465 : decode cL_law 465 = .ok (.aload_n 2, 1) := by decide +kernel
theorem dL_law_466 : decode cL_law 466 = .ok (.aload_n 0, 1) := by decide +kernel
theorem dL_law_467 : decode cL_law 467 = .ok (.iload_n 3, 1) := by decide +kernel
theorem dL_law_468 : decode cL_law 468 = .ok (.iconst 1, 1) := by decide +kernel
theorem dL_law_469 : decode cL_law 469 = .ok (.iadd, 1) := by decide +kernel
theorem dL_law_470 : decode cL_law 470 = .ok (.iaload, 1) := by decide +kernel
theorem dL_law_471 : decode cL_law 471 = .ok (.aload_n 0, 1) := by decide +kernel
theorem dL_law_472 : decode cL_law 472 = .ok (.iload_n 3, 1) := by decide +kernel
theorem dL_law_473 : decode cL_law 473 = .ok (.iconst 2, 1) := by decide +kernel
theorem dL_law_474 : decode cL_law 474 = .ok (.iadd, 1) := by decide +kernel
theorem dL_law_475 : decode cL_law 475 = .ok (.iaload, 1) := by decide +kernel
theorem dL_law_476 : decode cL_law 476 = .ok (.invokevirtual 64, 3) := by decide +kernel
theorem dL_law_479 : decode cL_law 479 = .ok (.if_icmp .eq 338, 3) := by decide +kernel
theorem dL_law_482 : decode cL_law 482 = .ok (.iconst 0, 1) := by decide +kernel
theorem dL_law_483 : decode cL_law 483 = .ok (.ireturn, 1) := by decide +kernel
theorem dL_law_484 : decode cL_law 484 = .ok (.aload_n 1, 1) := by decide +kernel
theorem dL_law_485 : decode cL_law 485 = .ok (.aload_n 0, 1) := by decide +kernel
theorem dL_law_486 : decode cL_law 486 = .ok (.iload_n 3, 1) := by decide +kernel
theorem dL_law_487 : decode cL_law 487 = .ok (.iconst 1, 1) := by decide +kernel
theorem dL_law_488 : decode cL_law 488 = .ok (.iadd, 1) := by decide +kernel
theorem dL_law_489 : decode cL_law 489 = .ok (.iaload, 1) := by decide +kernel
theorem dL_law_490 : decode cL_law 490 = .ok (.aload_n 0, 1) := by decide +kernel
theorem dL_law_491 : decode cL_law 491 = .ok (.iload_n 3, 1) := by decide +kernel
theorem dL_law_492 : decode cL_law 492 = .ok (.iconst 2, 1) := by decide +kernel
theorem dL_law_493 : decode cL_law 493 = .ok (.iadd, 1) := by decide +kernel
theorem dL_law_494 : decode cL_law 494 = .ok (.iaload, 1) := by decide +kernel
theorem dL_law_495 : decode cL_law 495 = .ok (.invokevirtual 65, 3) := by decide +kernel
theorem dL_law_498 : decode cL_law 498 = .ok (.aload_n 2, 1) := by decide +kernel
theorem dL_law_499 : decode cL_law 499 = .ok (.aload_n 0, 1) := by decide +kernel
theorem dL_law_500 : decode cL_law 500 = .ok (.iload_n 3, 1) := by decide +kernel
theorem dL_law_501 : decode cL_law 501 = .ok (.iconst 1, 1) := by decide +kernel
theorem dL_law_502 : decode cL_law 502 = .ok (.iadd, 1) := by decide +kernel
theorem dL_law_503 : decode cL_law 503 = .ok (.iaload, 1) := by decide +kernel
theorem dL_law_504 : decode cL_law 504 = .ok (.aload_n 0, 1) := by decide +kernel
theorem dL_law_505 : decode cL_law 505 = .ok (.iload_n 3, 1) := by decide +kernel
theorem dL_law_506 : decode cL_law 506 = .ok (.iconst 2, 1) := by decide +kernel
theorem dL_law_507 : decode cL_law 507 = .ok (.iadd, 1) := by decide +kernel
theorem dL_law_508 : decode cL_law 508 = .ok (.iaload, 1) := by decide +kernel
theorem dL_law_509 : decode cL_law 509 = .ok (.invokevirtual 68, 3) := by decide +kernel
theorem dL_law_512 : decode cL_law 512 = .ok (.if_icmp .eq 305, 3) := by decide +kernel
theorem dL_law_515 : decode cL_law 515 = .ok (.iconst 0, 1) := by decide +kernel
theorem dL_law_516 : decode cL_law 516 = .ok (.ireturn, 1) := by decide +kernel
theorem dL_law_517 : decode cL_law 517 = .ok (.aload_n 1, 1) := by decide +kernel
theorem dL_law_518 : decode cL_law 518 = .ok (.aload_n 0, 1) := by decide +kernel
theorem dL_law_519 : decode cL_law 519 = .ok (.iload_n 3, 1) := by decide +kernel
theorem dL_law_520 : decode cL_law 520 = .ok (.iconst 1, 1) := by decide +kernel
theorem dL_law_521 : decode cL_law 521 = .ok (.iadd, 1) := by decide +kernel
theorem dL_law_522 : decode cL_law 522 = .ok (.iaload, 1) := by decide +kernel
theorem dL_law_523 : decode cL_law 523 = .ok (.invokevirtual 69, 3) := by decide +kernel
theorem dL_law_526 : decode cL_law 526 = .ok (.aload_n 2, 1) := by decide +kernel
theorem dL_law_527 : decode cL_law 527 = .ok (.aload_n 0, 1) := by decide +kernel
theorem dL_law_528 : decode cL_law 528 = .ok (.iload_n 3, 1) := by decide +kernel
theorem dL_law_529 : decode cL_law 529 = .ok (.iconst 1, 1) := by decide +kernel
theorem dL_law_530 : decode cL_law 530 = .ok (.iadd, 1) := by decide +kernel
theorem dL_law_531 : decode cL_law 531 = .ok (.iaload, 1) := by decide +kernel
theorem dL_law_532 : decode cL_law 532 = .ok (.invokevirtual 72, 3) := by decide +kernel
theorem dL_law_535 : decode cL_law 535 = .ok (.if_icmp .eq 282, 3) := by decide +kernel
theorem dL_law_538 : decode cL_law 538 = .ok (.iconst 0, 1) := by decide +kernel
theorem dL_law_539 : decode cL_law 539 = .ok (.ireturn, 1) := by decide +kernel
theorem dL_law_540 : decode cL_law 540 = .ok (.aload_n 1, 1) := by decide +kernel
theorem dL_law_541 : decode cL_law 541 = .ok (.invokevirtual 73, 3) := by decide +kernel
theorem dL_law_544 : decode cL_law 544 = .ok (.aload_n 2, 1) := by decide +kernel
theorem dL_law_545 : decode cL_law 545 = .ok (.invokevirtual 76, 3) := by decide +kernel
theorem dL_law_548 : decode cL_law 548 = .ok (.if_icmp .eq 269, 3) := by decide +kernel
theorem dL_law_551 : decode cL_law 551 = .ok (.iconst 0, 1) := by decide +kernel
theorem dL_law_552 : decode cL_law 552 = .ok (.ireturn, 1) := by decide +kernel
theorem dL_law_553 : decode cL_law 553 = .ok (.aload_n 1, 1) := by decide +kernel
theorem dL_law_554 : decode cL_law 554 = .ok (.aload_n 0, 1) := by decide +kernel
theorem dL_law_555 : decode cL_law 555 = .ok (.iload_n 3, 1) := by decide +kernel
theorem dL_law_556 : decode cL_law 556 = .ok (.iconst 1, 1) := by decide +kernel
theorem dL_law_557 : decode cL_law 557 = .ok (.iadd, 1) := by decide +kernel
theorem dL_law_558 : decode cL_law 558 = .ok (.iaload, 1) := by decide +kernel
theorem dL_law_559 : decode cL_law 559 = .ok (.invokevirtual 77, 3) := by decide +kernel
theorem dL_law_562 : decode cL_law 562 = .ok (.aload_n 2, 1) := by decide +kernel
theorem dL_law_563 : decode cL_law 563 = .ok (.aload_n 0, 1) := by decide +kernel
theorem dL_law_564 : decode cL_law 564 = .ok (.iload_n 3, 1) := by decide +kernel
theorem dL_law_565 : decode cL_law 565 = .ok (.iconst 1, 1) := by decide +kernel
theorem dL_law_566 : decode cL_law 566 = .ok (.iadd, 1) := by decide +kernel
theorem dL_law_567 : decode cL_law 567 = .ok (.iaload, 1) := by decide +kernel
theorem dL_law_568 : decode cL_law 568 = .ok (.invokevirtual 80, 3) := by decide +kernel
theorem dL_law_571 : decode cL_law 571 = .ok (.if_icmp .eq 246, 3) := by decide +kernel
theorem dL_law_574 : decode cL_law 574 = .ok (.iconst 0, 1) := by decide +kernel
theorem dL_law_575 : decode cL_law 575 = .ok (.ireturn, 1) := by decide +kernel
theorem dL_law_576 : decode cL_law 576 = .ok (.aload_n 1, 1) := by decide +kernel
theorem dL_law_577 : decode cL_law 577 = .ok (.invokevirtual 81, 3) := by decide +kernel
theorem dL_law_580 : decode cL_law 580 = .ok (.aload_n 2, 1) := by decide +kernel
theorem dL_law_581 : decode cL_law 581 = .ok (.invokevirtual 84, 3) := by decide +kernel
theorem dL_law_584 : decode cL_law 584 = .ok (.if_icmp .eq 233, 3) := by decide +kernel
theorem dL_law_587 : decode cL_law 587 = .ok (.iconst 0, 1) := by decide +kernel
theorem dL_law_588 : decode cL_law 588 = .ok (.ireturn, 1) := by decide +kernel
theorem dL_law_589 : decode cL_law 589 = .ok (.aload_n 1, 1) := by decide +kernel
theorem dL_law_590 : decode cL_law 590 = .ok (.aload_n 0, 1) := by decide +kernel
theorem dL_law_591 : decode cL_law 591 = .ok (.iload_n 3, 1) := by decide +kernel
theorem dL_law_592 : decode cL_law 592 = .ok (.iconst 1, 1) := by decide +kernel
theorem dL_law_593 : decode cL_law 593 = .ok (.iadd, 1) := by decide +kernel
theorem dL_law_594 : decode cL_law 594 = .ok (.iaload, 1) := by decide +kernel
theorem dL_law_595 : decode cL_law 595 = .ok (.aload_n 0, 1) := by decide +kernel
theorem dL_law_596 : decode cL_law 596 = .ok (.iload_n 3, 1) := by decide +kernel
theorem dL_law_597 : decode cL_law 597 = .ok (.iconst 2, 1) := by decide +kernel
theorem dL_law_598 : decode cL_law 598 = .ok (.iadd, 1) := by decide +kernel
theorem dL_law_599 : decode cL_law 599 = .ok (.iaload, 1) := by decide +kernel
theorem dL_law_600 : decode cL_law 600 = .ok (.aload_n 0, 1) := by decide +kernel
theorem dL_law_601 : decode cL_law 601 = .ok (.iload_n 3, 1) := by decide +kernel
theorem dL_law_602 : decode cL_law 602 = .ok (.iconst 3, 1) := by decide +kernel
theorem dL_law_603 : decode cL_law 603 = .ok (.iadd, 1) := by decide +kernel
theorem dL_law_604 : decode cL_law 604 = .ok (.iaload, 1) := by decide +kernel
theorem dL_law_605 : decode cL_law 605 = .ok (.invokevirtual 85, 3) := by decide +kernel
theorem dL_law_608 : decode cL_law 608 = .ok (.aload_n 2, 1) := by decide +kernel
theorem dL_law_609 : decode cL_law 609 = .ok (.aload_n 0, 1) := by decide +kernel
theorem dL_law_610 : decode cL_law 610 = .ok (.iload_n 3, 1) := by decide +kernel
theorem dL_law_611 : decode cL_law 611 = .ok (.iconst 1, 1) := by decide +kernel
theorem dL_law_612 : decode cL_law 612 = .ok (.iadd, 1) := by decide +kernel
theorem dL_law_613 : decode cL_law 613 = .ok (.iaload, 1) := by decide +kernel
theorem dL_law_614 : decode cL_law 614 = .ok (.aload_n 0, 1) := by decide +kernel
theorem dL_law_615 : decode cL_law 615 = .ok (.iload_n 3, 1) := by decide +kernel
theorem dL_law_616 : decode cL_law 616 = .ok (.iconst 2, 1) := by decide +kernel
theorem dL_law_617 : decode cL_law 617 = .ok (.iadd, 1) := by decide +kernel
theorem dL_law_618 : decode cL_law 618 = .ok (.iaload, 1) := by decide +kernel
theorem dL_law_619 : decode cL_law 619 = .ok (.aload_n 0, 1) := by decide +kernel
theorem dL_law_620 : decode cL_law 620 = .ok (.iload_n 3, 1) := by decide +kernel
theorem dL_law_621 : decode cL_law 621 = .ok (.iconst 3, 1) := by decide +kernel
theorem dL_law_622 : decode cL_law 622 = .ok (.iadd, 1) := by decide +kernel
theorem dL_law_623 : decode cL_law 623 = .ok (.iaload, 1) := by decide +kernel
theorem dL_law_624 : decode cL_law 624 = .ok (.invokevirtual 88, 3) := by decide +kernel
theorem dL_law_627 : decode cL_law 627 = .ok (.if_icmp .eq 190, 3) := by decide +kernel
theorem dL_law_630 : decode cL_law 630 = .ok (.iconst 0, 1) := by decide +kernel
theorem dL_law_631 : decode cL_law 631 = .ok (.ireturn, 1) := by decide +kernel
theorem dL_law_632 : decode cL_law 632 = .ok (.aload_n 1, 1) := by decide +kernel
theorem dL_law_633 : decode cL_law 633 = .ok (.invokevirtual 89, 3) := by decide +kernel
theorem dL_law_636 : decode cL_law 636 = .ok (.aload_n 2, 1) := by decide +kernel
theorem dL_law_637 : decode cL_law 637 = .ok (.invokevirtual 92, 3) := by decide +kernel
theorem dL_law_640 : decode cL_law 640 = .ok (.if_icmp .eq 177, 3) := by decide +kernel
theorem dL_law_643 : decode cL_law 643 = .ok (.iconst 0, 1) := by decide +kernel
theorem dL_law_644 : decode cL_law 644 = .ok (.ireturn, 1) := by decide +kernel
theorem dL_law_645 : decode cL_law 645 = .ok (.aload_n 1, 1) := by decide +kernel
theorem dL_law_646 : decode cL_law 646 = .ok (.invokevirtual 93, 3) := by decide +kernel
theorem dL_law_649 : decode cL_law 649 = .ok (.aload_n 2, 1) := by decide +kernel
theorem dL_law_650 : decode cL_law 650 = .ok (.invokevirtual 97, 3) := by decide +kernel
theorem dL_law_653 : decode cL_law 653 = .ok (.lcmp, 1) := by decide +kernel
theorem dL_law_654 : decode cL_law 654 = .ok (.ifCond .eq 163, 3) := by decide +kernel
theorem dL_law_657 : decode cL_law 657 = .ok (.iconst 0, 1) := by decide +kernel
theorem dL_law_658 : decode cL_law 658 = .ok (.ireturn, 1) := by decide +kernel
theorem dL_law_659 : decode cL_law 659 = .ok (.aload_n 1, 1) := by decide +kernel
theorem dL_law_660 : decode cL_law 660 = .ok (.aload_n 0, 1) := by decide +kernel
theorem dL_law_661 : decode cL_law 661 = .ok (.iload_n 3, 1) := by decide +kernel
theorem dL_law_662 : decode cL_law 662 = .ok (.iconst 1, 1) := by decide +kernel
theorem dL_law_663 : decode cL_law 663 = .ok (.iadd, 1) := by decide +kernel
theorem dL_law_664 : decode cL_law 664 = .ok (.iaload, 1) := by decide +kernel
theorem dL_law_665 : decode cL_law 665 = .ok (.invokevirtual 98, 3) := by decide +kernel
theorem dL_law_668 : decode cL_law 668 = .ok (.aload_n 2, 1) := by decide +kernel
theorem dL_law_669 : decode cL_law 669 = .ok (.aload_n 0, 1) := by decide +kernel
theorem dL_law_670 : decode cL_law 670 = .ok (.iload_n 3, 1) := by decide +kernel
theorem dL_law_671 : decode cL_law 671 = .ok (.iconst 1, 1) := by decide +kernel
theorem dL_law_672 : decode cL_law 672 = .ok (.iadd, 1) := by decide +kernel
theorem dL_law_673 : decode cL_law 673 = .ok (.iaload, 1) := by decide +kernel
theorem dL_law_674 : decode cL_law 674 = .ok (.invokevirtual 102, 3) := by decide +kernel
theorem dL_law_677 : decode cL_law 677 = .ok (.lcmp, 1) := by decide +kernel
theorem dL_law_678 : decode cL_law 678 = .ok (.ifCond .eq 139, 3) := by decide +kernel
theorem dL_law_681 : decode cL_law 681 = .ok (.iconst 0, 1) := by decide +kernel
theorem dL_law_682 : decode cL_law 682 = .ok (.ireturn, 1) := by decide +kernel
theorem dL_law_683 : decode cL_law 683 = .ok (.aload_n 1, 1) := by decide +kernel
theorem dL_law_684 : decode cL_law 684 = .ok (.aload_n 0, 1) := by decide +kernel
theorem dL_law_685 : decode cL_law 685 = .ok (.iload_n 3, 1) := by decide +kernel
theorem dL_law_686 : decode cL_law 686 = .ok (.iconst 1, 1) := by decide +kernel
theorem dL_law_687 : decode cL_law 687 = .ok (.iadd, 1) := by decide +kernel
theorem dL_law_688 : decode cL_law 688 = .ok (.iaload, 1) := by decide +kernel
theorem dL_law_689 : decode cL_law 689 = .ok (.aload_n 0, 1) := by decide +kernel
theorem dL_law_690 : decode cL_law 690 = .ok (.iload_n 3, 1) := by decide +kernel
theorem dL_law_691 : decode cL_law 691 = .ok (.iconst 2, 1) := by decide +kernel
theorem dL_law_692 : decode cL_law 692 = .ok (.iadd, 1) := by decide +kernel
theorem dL_law_693 : decode cL_law 693 = .ok (.iaload, 1) := by decide +kernel
theorem dL_law_694 : decode cL_law 694 = .ok (.invokevirtual 103, 3) := by decide +kernel
theorem dL_law_697 : decode cL_law 697 = .ok (.aload_n 2, 1) := by decide +kernel
theorem dL_law_698 : decode cL_law 698 = .ok (.aload_n 0, 1) := by decide +kernel
theorem dL_law_699 : decode cL_law 699 = .ok (.iload_n 3, 1) := by decide +kernel
theorem dL_law_700 : decode cL_law 700 = .ok (.iconst 1, 1) := by decide +kernel
theorem dL_law_701 : decode cL_law 701 = .ok (.iadd, 1) := by decide +kernel
theorem dL_law_702 : decode cL_law 702 = .ok (.iaload, 1) := by decide +kernel
theorem dL_law_703 : decode cL_law 703 = .ok (.aload_n 0, 1) := by decide +kernel
theorem dL_law_704 : decode cL_law 704 = .ok (.iload_n 3, 1) := by decide +kernel
theorem dL_law_705 : decode cL_law 705 = .ok (.iconst 2, 1) := by decide +kernel
theorem dL_law_706 : decode cL_law 706 = .ok (.iadd, 1) := by decide +kernel
theorem dL_law_707 : decode cL_law 707 = .ok (.iaload, 1) := by decide +kernel
theorem dL_law_708 : decode cL_law 708 = .ok (.invokevirtual 107, 3) := by decide +kernel
theorem dL_law_711 : decode cL_law 711 = .ok (.lcmp, 1) := by decide +kernel
theorem dL_law_712 : decode cL_law 712 = .ok (.ifCond .eq 105, 3) := by decide +kernel
theorem dL_law_715 : decode cL_law 715 = .ok (.iconst 0, 1) := by decide +kernel
theorem dL_law_716 : decode cL_law 716 = .ok (.ireturn, 1) := by decide +kernel
theorem dL_law_717 : decode cL_law 717 = .ok (.aload_n 1, 1) := by decide +kernel
theorem dL_law_718 : decode cL_law 718 = .ok (.aload_n 0, 1) := by decide +kernel
theorem dL_law_719 : decode cL_law 719 = .ok (.iload_n 3, 1) := by decide +kernel
theorem dL_law_720 : decode cL_law 720 = .ok (.iconst 1, 1) := by decide +kernel
theorem dL_law_721 : decode cL_law 721 = .ok (.iadd, 1) := by decide +kernel
theorem dL_law_722 : decode cL_law 722 = .ok (.iaload, 1) := by decide +kernel
theorem dL_law_723 : decode cL_law 723 = .ok (.aload_n 0, 1) := by decide +kernel
theorem dL_law_724 : decode cL_law 724 = .ok (.iload_n 3, 1) := by decide +kernel
theorem dL_law_725 : decode cL_law 725 = .ok (.iconst 2, 1) := by decide +kernel
theorem dL_law_726 : decode cL_law 726 = .ok (.iadd, 1) := by decide +kernel
theorem dL_law_727 : decode cL_law 727 = .ok (.iaload, 1) := by decide +kernel
theorem dL_law_728 : decode cL_law 728 = .ok (.aload_n 0, 1) := by decide +kernel
theorem dL_law_729 : decode cL_law 729 = .ok (.iload_n 3, 1) := by decide +kernel
theorem dL_law_730 : decode cL_law 730 = .ok (.iconst 3, 1) := by decide +kernel
theorem dL_law_731 : decode cL_law 731 = .ok (.iadd, 1) := by decide +kernel
theorem dL_law_732 : decode cL_law 732 = .ok (.iaload, 1) := by decide +kernel
theorem dL_law_733 : decode cL_law 733 = .ok (.invokevirtual 108, 3) := by decide +kernel
theorem dL_law_736 : decode cL_law 736 = .ok (.aload_n 2, 1) := by decide +kernel
theorem dL_law_737 : decode cL_law 737 = .ok (.aload_n 0, 1) := by decide +kernel
theorem dL_law_738 : decode cL_law 738 = .ok (.iload_n 3, 1) := by decide +kernel
theorem dL_law_739 : decode cL_law 739 = .ok (.iconst 1, 1) := by decide +kernel
theorem dL_law_740 : decode cL_law 740 = .ok (.iadd, 1) := by decide +kernel
theorem dL_law_741 : decode cL_law 741 = .ok (.iaload, 1) := by decide +kernel
theorem dL_law_742 : decode cL_law 742 = .ok (.aload_n 0, 1) := by decide +kernel
theorem dL_law_743 : decode cL_law 743 = .ok (.iload_n 3, 1) := by decide +kernel
theorem dL_law_744 : decode cL_law 744 = .ok (.iconst 2, 1) := by decide +kernel
theorem dL_law_745 : decode cL_law 745 = .ok (.iadd, 1) := by decide +kernel
theorem dL_law_746 : decode cL_law 746 = .ok (.iaload, 1) := by decide +kernel
theorem dL_law_747 : decode cL_law 747 = .ok (.aload_n 0, 1) := by decide +kernel
theorem dL_law_748 : decode cL_law 748 = .ok (.iload_n 3, 1) := by decide +kernel
theorem dL_law_749 : decode cL_law 749 = .ok (.iconst 3, 1) := by decide +kernel
theorem dL_law_750 : decode cL_law 750 = .ok (.iadd, 1) := by decide +kernel
theorem dL_law_751 : decode cL_law 751 = .ok (.iaload, 1) := by decide +kernel
theorem dL_law_752 : decode cL_law 752 = .ok (.invokevirtual 112, 3) := by decide +kernel
theorem dL_law_755 : decode cL_law 755 = .ok (.lcmp, 1) := by decide +kernel
theorem dL_law_756 : decode cL_law 756 = .ok (.ifCond .eq 61, 3) := by decide +kernel
theorem dL_law_759 : decode cL_law 759 = .ok (.iconst 0, 1) := by decide +kernel
theorem dL_law_760 : decode cL_law 760 = .ok (.ireturn, 1) := by decide +kernel
theorem dL_law_761 : decode cL_law 761 = .ok (.aload_n 1, 1) := by decide +kernel
theorem dL_law_762 : decode cL_law 762 = .ok (.aload_n 0, 1) := by decide +kernel
theorem dL_law_763 : decode cL_law 763 = .ok (.iload_n 3, 1) := by decide +kernel
theorem dL_law_764 : decode cL_law 764 = .ok (.iconst 1, 1) := by decide +kernel
theorem dL_law_765 : decode cL_law 765 = .ok (.iadd, 1) := by decide +kernel
theorem dL_law_766 : decode cL_law 766 = .ok (.iaload, 1) := by decide +kernel
theorem dL_law_767 : decode cL_law 767 = .ok (.invokevirtual 113, 3) := by decide +kernel
theorem dL_law_770 : decode cL_law 770 = .ok (.aload_n 2, 1) := by decide +kernel
theorem dL_law_771 : decode cL_law 771 = .ok (.aload_n 0, 1) := by decide +kernel
theorem dL_law_772 : decode cL_law 772 = .ok (.iload_n 3, 1) := by decide +kernel
theorem dL_law_773 : decode cL_law 773 = .ok (.iconst 1, 1) := by decide +kernel
theorem dL_law_774 : decode cL_law 774 = .ok (.iadd, 1) := by decide +kernel
theorem dL_law_775 : decode cL_law 775 = .ok (.iaload, 1) := by decide +kernel
theorem dL_law_776 : decode cL_law 776 = .ok (.invokevirtual 116, 3) := by decide +kernel
theorem dL_law_779 : decode cL_law 779 = .ok (.if_icmp .eq 38, 3) := by decide +kernel
theorem dL_law_782 : decode cL_law 782 = .ok (.iconst 0, 1) := by decide +kernel
theorem dL_law_783 : decode cL_law 783 = .ok (.ireturn, 1) := by decide +kernel
theorem dL_law_784 : decode cL_law 784 = .ok (.aload_n 1, 1) := by decide +kernel
theorem dL_law_785 : decode cL_law 785 = .ok (.aload_n 0, 1) := by decide +kernel
theorem dL_law_786 : decode cL_law 786 = .ok (.iload_n 3, 1) := by decide +kernel
theorem dL_law_787 : decode cL_law 787 = .ok (.iconst 1, 1) := by decide +kernel
theorem dL_law_788 : decode cL_law 788 = .ok (.iadd, 1) := by decide +kernel
theorem dL_law_789 : decode cL_law 789 = .ok (.iaload, 1) := by decide +kernel
theorem dL_law_790 : decode cL_law 790 = .ok (.aload_n 0, 1) := by decide +kernel
theorem dL_law_791 : decode cL_law 791 = .ok (.iload_n 3, 1) := by decide +kernel
theorem dL_law_792 : decode cL_law 792 = .ok (.iconst 2, 1) := by decide +kernel
theorem dL_law_793 : decode cL_law 793 = .ok (.iadd, 1) := by decide +kernel
theorem dL_law_794 : decode cL_law 794 = .ok (.iaload, 1) := by decide +kernel
theorem dL_law_795 : decode cL_law 795 = .ok (.invokevirtual 117, 3) := by decide +kernel
theorem dL_law_798 : decode cL_law 798 = .ok (.aload_n 2, 1) := by decide +kernel
theorem dL_law_799 : decode cL_law 799 = .ok (.aload_n 0, 1) := by decide +kernel
theorem dL_law_800 : decode cL_law 800 = .ok (.iload_n 3, 1) := by decide +kernel
theorem dL_law_801 : decode cL_law 801 = .ok (.iconst 1, 1) := by decide +kernel
theorem dL_law_802 : decode cL_law 802 = .ok (.iadd, 1) := by decide +kernel
theorem dL_law_803 : decode cL_law 803 = .ok (.iaload, 1) := by decide +kernel
theorem dL_law_804 : decode cL_law 804 = .ok (.aload_n 0, 1) := by decide +kernel
theorem dL_law_805 : decode cL_law 805 = .ok (.iload_n 3, 1) := by decide +kernel
theorem dL_law_806 : decode cL_law 806 = .ok (.iconst 2, 1) := by decide +kernel
theorem dL_law_807 : decode cL_law 807 = .ok (.iadd, 1) := by decide +kernel
theorem dL_law_808 : decode cL_law 808 = .ok (.iaload, 1) := by decide +kernel
theorem dL_law_809 : decode cL_law 809 = .ok (.invokevirtual 120, 3) := by decide +kernel
theorem dL_law_812 : decode cL_law 812 = .ok (.if_icmp .eq 5, 3) := by decide +kernel
theorem dL_law_815 : decode cL_law 815 = .ok (.iconst 0, 1) := by decide +kernel
theorem dL_law_816 : decode cL_law 816 = .ok (.ireturn, 1) := by decide +kernel
theorem dL_law_817 : decode cL_law 817 = .ok (.iinc 3 4, 3) := by decide +kernel
theorem dL_law_820 : decode cL_law 820 = .ok (.goto (-802), 3) := by decide +kernel
theorem dL_law_823 : decode cL_law 823 = .ok (.iconst 1, 1) := by decide +kernel
theorem dL_law_824 : decode cL_law 824 = .ok (.ireturn, 1) := by decide +kernel
section LAWCALLS
variable {X : XC} {l : Launch} {D : va_G} {t : Nat → ClassId} {b L : Nat} {xs : Nat → Int32} {a m : Nat → Nat} {i : Nat}
theorem lc_0 (C : XK X l D t cL_law RL room_1 4) (S : XS X b L xs) (hi : i + 4 ≤ L) (hL : L ≤ 2048) (hN : ∀ σ, LWS X t a m b i σ 817) : ∀ σ, LWS X t a m b i σ 148 := by
  intro σ I F Lg I' F' hI hX hM
  obtain ⟨K, sd, hd, dk, dw, mt⟩ := σ
  obtain ⟨z, hz⟩ := isI_place (K := K) (sd := sd) (hd := hd) (dk := dk) (dw := dw) (mt := mt) (xs (i + 1)) (xs (i + 2))
  refine xaload_n C 2 rfl dL_law_148 ?_
  refine xarg C S hL 1 (by decide) (by omega) rfl rfl dL_law_149 dL_law_150 dL_law_151 dL_law_152 dL_law_153 ?_
  refine xarg C S hL 2 (by decide) (by omega) rfl rfl dL_law_154 dL_law_155 dL_law_156 dL_law_157 dL_law_158 ?_
  refine xcallV (As := [.int (xs (i + 1)), .int (xs (i + 2))]) (rest := []) C (c_X5_place hI hX (xs (i + 1)) (xs (i + 2))) 0 rfl rfl xml_L_13 xim_X5_place xse_X5_place xin_X5 xco_X5_place ⟨by decide +kernel, by decide +kernel, (show (parseMethodDescriptor yX5_place.desc).map (fun d => d.parameters.length) = some 2 from by decide +kernel)⟩ ⟨Nat.le_of_ble_eq_true rfl, Nat.le_of_ble_eq_true rfl⟩ ⟨rfl, rfl⟩ ⟨Nat.le_of_ble_eq_true rfl, Nat.le_of_ble_eq_true rfl⟩ rfl (Nat.le_of_ble_eq_true rfl) dL_law_159 (fun vE wE hE => ?_)
  obtain ⟨v1, rfl, I1, F1, L1, rfl, hv, hX1⟩ := hE
  rw [hz] at hv
  subst hv
  refine xaload_n C 1 rfl dL_law_162 ?_
  refine xarg C S hL 1 (by decide) (by omega) rfl rfl dL_law_163 dL_law_164 dL_law_165 dL_law_166 dL_law_167 ?_
  refine xarg C S hL 2 (by decide) (by omega) rfl rfl dL_law_168 dL_law_169 dL_law_170 dL_law_171 dL_law_172 ?_
  refine xrot ?_
  refine xcallV (As := [.int (xs (i + 1)), .int (xs (i + 2))]) (rest := [.int z]) C (c_X6_place hI hM (xs (i + 1)) (xs (i + 2))) 0 rfl rfl xml_L_17 xim_X6_place xse_X6_place xin_X6 xco_X6_place ⟨by decide +kernel, by decide +kernel, (show (parseMethodDescriptor yX6_place.desc).map (fun d => d.parameters.length) = some 2 from by decide +kernel)⟩ ⟨Nat.le_of_ble_eq_true rfl, Nat.le_of_ble_eq_true rfl⟩ ⟨rfl, rfl⟩ ⟨Nat.le_of_ble_eq_true rfl, Nat.le_of_ble_eq_true rfl⟩ rfl (Nat.le_of_ble_eq_true rfl) dL_law_173 (fun vE wE hE => ?_)
  obtain ⟨v2, rfl, I2, F2, rfl, hv, hM1⟩ := hE
  rw [hz] at hv
  subst hv
  refine xrot ?_
  refine xeq (st' := [.int z, .int z]) rfl rfl rfl rfl ?_
  refine xicmp_eq C 817 dL_law_176 (by decide) (fun _ => ?_) (fun h => absurd rfl h)
  exact hN _ I1 F1 L1 I2 F2 (iv_place hI _ _) hX1 hM1
theorem lc_1 (C : XK X l D t cL_law RL room_1 4) (S : XS X b L xs) (hi : i + 4 ≤ L) (hL : L ≤ 2048) (hN : ∀ σ, LWS X t a m b i σ 817) : ∀ σ, LWS X t a m b i σ 181 := by
  intro σ I F Lg I' F' hI hX hM
  obtain ⟨K, sd, hd, dk, dw, mt⟩ := σ
  obtain ⟨z, hz⟩ := isI_link (K := K) (sd := sd) (hd := hd) (dk := dk) (dw := dw) (mt := mt) (xs (i + 1)) (xs (i + 2))
  refine xaload_n C 2 rfl dL_law_181 ?_
  refine xarg C S hL 1 (by decide) (by omega) rfl rfl dL_law_182 dL_law_183 dL_law_184 dL_law_185 dL_law_186 ?_
  refine xarg C S hL 2 (by decide) (by omega) rfl rfl dL_law_187 dL_law_188 dL_law_189 dL_law_190 dL_law_191 ?_
  refine xcallV (As := [.int (xs (i + 1)), .int (xs (i + 2))]) (rest := []) C (c_X5_link hI hX (xs (i + 1)) (xs (i + 2))) 0 rfl rfl xml_L_18 xim_X5_link xse_X5_link xin_X5 xco_X5_link ⟨by decide +kernel, by decide +kernel, (show (parseMethodDescriptor yX5_link.desc).map (fun d => d.parameters.length) = some 2 from by decide +kernel)⟩ ⟨Nat.le_of_ble_eq_true rfl, Nat.le_of_ble_eq_true rfl⟩ ⟨rfl, rfl⟩ ⟨Nat.le_of_ble_eq_true rfl, Nat.le_of_ble_eq_true rfl⟩ rfl (Nat.le_of_ble_eq_true rfl) dL_law_192 (fun vE wE hE => ?_)
  obtain ⟨v1, rfl, I1, F1, L1, rfl, hv, hX1⟩ := hE
  rw [hz] at hv
  subst hv
  refine xaload_n C 1 rfl dL_law_195 ?_
  refine xarg C S hL 1 (by decide) (by omega) rfl rfl dL_law_196 dL_law_197 dL_law_198 dL_law_199 dL_law_200 ?_
  refine xarg C S hL 2 (by decide) (by omega) rfl rfl dL_law_201 dL_law_202 dL_law_203 dL_law_204 dL_law_205 ?_
  refine xrot ?_
  refine xcallV (As := [.int (xs (i + 1)), .int (xs (i + 2))]) (rest := [.int z]) C (c_X6_link hI hM (xs (i + 1)) (xs (i + 2))) 0 rfl rfl xml_L_21 xim_X6_link xse_X6_link xin_X6 xco_X6_link ⟨by decide +kernel, by decide +kernel, (show (parseMethodDescriptor yX6_link.desc).map (fun d => d.parameters.length) = some 2 from by decide +kernel)⟩ ⟨Nat.le_of_ble_eq_true rfl, Nat.le_of_ble_eq_true rfl⟩ ⟨rfl, rfl⟩ ⟨Nat.le_of_ble_eq_true rfl, Nat.le_of_ble_eq_true rfl⟩ rfl (Nat.le_of_ble_eq_true rfl) dL_law_206 (fun vE wE hE => ?_)
  obtain ⟨v2, rfl, I2, F2, rfl, hv, hM1⟩ := hE
  rw [hz] at hv
  subst hv
  refine xrot ?_
  refine xeq (st' := [.int z, .int z]) rfl rfl rfl rfl ?_
  refine xicmp_eq C 817 dL_law_209 (by decide) (fun _ => ?_) (fun h => absurd rfl h)
  exact hN _ I1 F1 L1 I2 F2 (iv_link hI _ _) hX1 hM1
theorem lc_2 (C : XK X l D t cL_law RL room_1 4) (S : XS X b L xs) (hi : i + 4 ≤ L) (hL : L ≤ 2048) (hN : ∀ σ, LWS X t a m b i σ 817) : ∀ σ, LWS X t a m b i σ 214 := by
  intro σ I F Lg I' F' hI hX hM
  obtain ⟨K, sd, hd, dk, dw, mt⟩ := σ
  obtain ⟨z, hz⟩ := isI_kind (K := K) (sd := sd) (hd := hd) (dk := dk) (dw := dw) (mt := mt) (xs (i + 1)) (xs (i + 2)) (xs (i + 3))
  refine xaload_n C 2 rfl dL_law_214 ?_
  refine xarg C S hL 1 (by decide) (by omega) rfl rfl dL_law_215 dL_law_216 dL_law_217 dL_law_218 dL_law_219 ?_
  refine xarg C S hL 2 (by decide) (by omega) rfl rfl dL_law_220 dL_law_221 dL_law_222 dL_law_223 dL_law_224 ?_
  refine xarg C S hL 3 (by decide) (by omega) rfl rfl dL_law_225 dL_law_226 dL_law_227 dL_law_228 dL_law_229 ?_
  refine xcallV (As := [.int (xs (i + 1)), .int (xs (i + 2)), .int (xs (i + 3))]) (rest := []) C (c_X5_kind hI hX (xs (i + 1)) (xs (i + 2)) (xs (i + 3))) 0 rfl rfl xml_L_22 xim_X5_kind xse_X5_kind xin_X5 xco_X5_kind ⟨by decide +kernel, by decide +kernel, (show (parseMethodDescriptor yX5_kind.desc).map (fun d => d.parameters.length) = some 3 from by decide +kernel)⟩ ⟨Nat.le_of_ble_eq_true rfl, Nat.le_of_ble_eq_true rfl⟩ ⟨rfl, rfl⟩ ⟨Nat.le_of_ble_eq_true rfl, Nat.le_of_ble_eq_true rfl⟩ rfl (Nat.le_of_ble_eq_true rfl) dL_law_230 (fun vE wE hE => ?_)
  obtain ⟨v1, rfl, I1, F1, L1, rfl, hv, hX1⟩ := hE
  rw [hz] at hv
  subst hv
  refine xaload_n C 1 rfl dL_law_233 ?_
  refine xarg C S hL 1 (by decide) (by omega) rfl rfl dL_law_234 dL_law_235 dL_law_236 dL_law_237 dL_law_238 ?_
  refine xarg C S hL 2 (by decide) (by omega) rfl rfl dL_law_239 dL_law_240 dL_law_241 dL_law_242 dL_law_243 ?_
  refine xarg C S hL 3 (by decide) (by omega) rfl rfl dL_law_244 dL_law_245 dL_law_246 dL_law_247 dL_law_248 ?_
  refine xrot ?_
  refine xcallV (As := [.int (xs (i + 1)), .int (xs (i + 2)), .int (xs (i + 3))]) (rest := [.int z]) C (c_X6_kind hI hM (xs (i + 1)) (xs (i + 2)) (xs (i + 3))) 0 rfl rfl xml_L_26 xim_X6_kind xse_X6_kind xin_X6 xco_X6_kind ⟨by decide +kernel, by decide +kernel, (show (parseMethodDescriptor yX6_kind.desc).map (fun d => d.parameters.length) = some 3 from by decide +kernel)⟩ ⟨Nat.le_of_ble_eq_true rfl, Nat.le_of_ble_eq_true rfl⟩ ⟨rfl, rfl⟩ ⟨Nat.le_of_ble_eq_true rfl, Nat.le_of_ble_eq_true rfl⟩ rfl (Nat.le_of_ble_eq_true rfl) dL_law_249 (fun vE wE hE => ?_)
  obtain ⟨v2, rfl, I2, F2, rfl, hv, hM1⟩ := hE
  rw [hz] at hv
  subst hv
  refine xrot ?_
  refine xeq (st' := [.int z, .int z]) rfl rfl rfl rfl ?_
  refine xicmp_eq C 817 dL_law_252 (by decide) (fun _ => ?_) (fun h => absurd rfl h)
  exact hN _ I1 F1 L1 I2 F2 (iv_kind hI _ _ _) hX1 hM1
theorem lc_3 (C : XK X l D t cL_law RL room_1 4) (S : XS X b L xs) (hi : i + 4 ≤ L) (hL : L ≤ 2048) (hN : ∀ σ, LWS X t a m b i σ 817) : ∀ σ, LWS X t a m b i σ 257 := by
  intro σ I F Lg I' F' hI hX hM
  obtain ⟨K, sd, hd, dk, dw, mt⟩ := σ
  obtain ⟨z, hz⟩ := isI_hold (K := K) (sd := sd) (hd := hd) (dk := dk) (dw := dw) (mt := mt) (xs (i + 1)) (xs (i + 2))
  refine xaload_n C 2 rfl dL_law_257 ?_
  refine xarg C S hL 1 (by decide) (by omega) rfl rfl dL_law_258 dL_law_259 dL_law_260 dL_law_261 dL_law_262 ?_
  refine xarg C S hL 2 (by decide) (by omega) rfl rfl dL_law_263 dL_law_264 dL_law_265 dL_law_266 dL_law_267 ?_
  refine xcallV (As := [.int (xs (i + 1)), .int (xs (i + 2))]) (rest := []) C (c_X5_hold hI hX (xs (i + 1)) (xs (i + 2))) 0 rfl rfl xml_L_27 xim_X5_hold xse_X5_hold xin_X5 xco_X5_hold ⟨by decide +kernel, by decide +kernel, (show (parseMethodDescriptor yX5_hold.desc).map (fun d => d.parameters.length) = some 2 from by decide +kernel)⟩ ⟨Nat.le_of_ble_eq_true rfl, Nat.le_of_ble_eq_true rfl⟩ ⟨rfl, rfl⟩ ⟨Nat.le_of_ble_eq_true rfl, Nat.le_of_ble_eq_true rfl⟩ rfl (Nat.le_of_ble_eq_true rfl) dL_law_268 (fun vE wE hE => ?_)
  obtain ⟨v1, rfl, I1, F1, L1, rfl, hv, hX1⟩ := hE
  rw [hz] at hv
  subst hv
  refine xaload_n C 1 rfl dL_law_271 ?_
  refine xarg C S hL 1 (by decide) (by omega) rfl rfl dL_law_272 dL_law_273 dL_law_274 dL_law_275 dL_law_276 ?_
  refine xarg C S hL 2 (by decide) (by omega) rfl rfl dL_law_277 dL_law_278 dL_law_279 dL_law_280 dL_law_281 ?_
  refine xrot ?_
  refine xcallV (As := [.int (xs (i + 1)), .int (xs (i + 2))]) (rest := [.int z]) C (c_X6_hold hI hM (xs (i + 1)) (xs (i + 2))) 0 rfl rfl xml_L_30 xim_X6_hold xse_X6_hold xin_X6 xco_X6_hold ⟨by decide +kernel, by decide +kernel, (show (parseMethodDescriptor yX6_hold.desc).map (fun d => d.parameters.length) = some 2 from by decide +kernel)⟩ ⟨Nat.le_of_ble_eq_true rfl, Nat.le_of_ble_eq_true rfl⟩ ⟨rfl, rfl⟩ ⟨Nat.le_of_ble_eq_true rfl, Nat.le_of_ble_eq_true rfl⟩ rfl (Nat.le_of_ble_eq_true rfl) dL_law_282 (fun vE wE hE => ?_)
  obtain ⟨v2, rfl, I2, F2, rfl, hv, hM1⟩ := hE
  rw [hz] at hv
  subst hv
  refine xrot ?_
  refine xeq (st' := [.int z, .int z]) rfl rfl rfl rfl ?_
  refine xicmp_eq C 817 dL_law_285 (by decide) (fun _ => ?_) (fun h => absurd rfl h)
  exact hN _ I1 F1 L1 I2 F2 (iv_hold hI _ _) hX1 hM1
theorem lc_4 (C : XK X l D t cL_law RL room_1 4) (S : XS X b L xs) (hi : i + 4 ≤ L) (hL : L ≤ 2048) (hN : ∀ σ, LWS X t a m b i σ 817) : ∀ σ, LWS X t a m b i σ 290 := by
  intro σ I F Lg I' F' hI hX hM
  obtain ⟨K, sd, hd, dk, dw, mt⟩ := σ
  obtain ⟨z, hz⟩ := isI_good (K := K) (sd := sd) (hd := hd) (dk := dk) (dw := dw) (mt := mt)
  refine xaload_n C 2 rfl dL_law_290 ?_
  refine xcallV (As := []) (rest := []) C (c_X5_good hI hX) 0 rfl rfl xml_L_31 xim_X5_good xse_X5_good xin_X5 xco_X5_good ⟨by decide +kernel, by decide +kernel, (show (parseMethodDescriptor yX5_good.desc).map (fun d => d.parameters.length) = some 0 from by decide +kernel)⟩ ⟨Nat.le_of_ble_eq_true rfl, Nat.le_of_ble_eq_true rfl⟩ ⟨rfl, rfl⟩ ⟨Nat.le_of_ble_eq_true rfl, Nat.le_of_ble_eq_true rfl⟩ rfl (Nat.le_of_ble_eq_true rfl) dL_law_291 (fun vE wE hE => ?_)
  obtain ⟨v1, rfl, I1, F1, L1, rfl, hv, hX1⟩ := hE
  rw [hz] at hv
  subst hv
  refine xaload_n C 1 rfl dL_law_294 ?_
  refine xrot ?_
  refine xcallV (As := []) (rest := [.int z]) C (c_X6_good hI hM) 0 rfl rfl xml_L_35 xim_X6_good xse_X6_good xin_X6 xco_X6_good ⟨by decide +kernel, by decide +kernel, (show (parseMethodDescriptor yX6_good.desc).map (fun d => d.parameters.length) = some 0 from by decide +kernel)⟩ ⟨Nat.le_of_ble_eq_true rfl, Nat.le_of_ble_eq_true rfl⟩ ⟨rfl, rfl⟩ ⟨Nat.le_of_ble_eq_true rfl, Nat.le_of_ble_eq_true rfl⟩ rfl (Nat.le_of_ble_eq_true rfl) dL_law_295 (fun vE wE hE => ?_)
  obtain ⟨v2, rfl, I2, F2, rfl, hv, hM1⟩ := hE
  rw [hz] at hv
  subst hv
  refine xrot ?_
  refine xeq (st' := [.int z, .int z]) rfl rfl rfl rfl ?_
  refine xicmp_eq C 817 dL_law_298 (by decide) (fun _ => ?_) (fun h => absurd rfl h)
  exact hN _ I1 F1 L1 I2 F2 (iv_good hI) hX1 hM1
theorem lc_5 (C : XK X l D t cL_law RL room_1 4) (S : XS X b L xs) (hi : i + 4 ≤ L) (hL : L ≤ 2048) (hN : ∀ σ, LWS X t a m b i σ 817) : ∀ σ, LWS X t a m b i σ 303 := by
  intro σ I F Lg I' F' hI hX hM
  obtain ⟨K, sd, hd, dk, dw, mt⟩ := σ
  obtain ⟨z, hz⟩ := isI_highest (K := K) (sd := sd) (hd := hd) (dk := dk) (dw := dw) (mt := mt) (xs (i + 1))
  refine xaload_n C 2 rfl dL_law_303 ?_
  refine xarg C S hL 1 (by decide) (by omega) rfl rfl dL_law_304 dL_law_305 dL_law_306 dL_law_307 dL_law_308 ?_
  refine xcallV (As := [.int (xs (i + 1))]) (rest := []) C (c_X5_highest hI hX (xs (i + 1))) 0 rfl rfl xml_L_36 xim_X5_highest xse_X5_highest xin_X5 xco_X5_highest ⟨by decide +kernel, by decide +kernel, (show (parseMethodDescriptor yX5_highest.desc).map (fun d => d.parameters.length) = some 1 from by decide +kernel)⟩ ⟨Nat.le_of_ble_eq_true rfl, Nat.le_of_ble_eq_true rfl⟩ ⟨rfl, rfl⟩ ⟨Nat.le_of_ble_eq_true rfl, Nat.le_of_ble_eq_true rfl⟩ rfl (Nat.le_of_ble_eq_true rfl) dL_law_309 (fun vE wE hE => ?_)
  obtain ⟨v1, rfl, I1, F1, L1, rfl, hv, hX1⟩ := hE
  rw [hz] at hv
  subst hv
  refine xaload_n C 1 rfl dL_law_312 ?_
  refine xarg C S hL 1 (by decide) (by omega) rfl rfl dL_law_313 dL_law_314 dL_law_315 dL_law_316 dL_law_317 ?_
  refine xrot ?_
  refine xcallV (As := [.int (xs (i + 1))]) (rest := [.int z]) C (c_X6_highest hI hM (xs (i + 1))) 0 rfl rfl xml_L_40 xim_X6_highest xse_X6_highest xin_X6 xco_X6_highest ⟨by decide +kernel, by decide +kernel, (show (parseMethodDescriptor yX6_highest.desc).map (fun d => d.parameters.length) = some 1 from by decide +kernel)⟩ ⟨Nat.le_of_ble_eq_true rfl, Nat.le_of_ble_eq_true rfl⟩ ⟨rfl, rfl⟩ ⟨Nat.le_of_ble_eq_true rfl, Nat.le_of_ble_eq_true rfl⟩ rfl (Nat.le_of_ble_eq_true rfl) dL_law_318 (fun vE wE hE => ?_)
  obtain ⟨v2, rfl, I2, F2, rfl, hv, hM1⟩ := hE
  rw [hz] at hv
  subst hv
  refine xrot ?_
  refine xeq (st' := [.int z, .int z]) rfl rfl rfl rfl ?_
  refine xicmp_eq C 817 dL_law_321 (by decide) (fun _ => ?_) (fun h => absurd rfl h)
  exact hN _ I1 F1 L1 I2 F2 (iv_high hI _) hX1 hM1
theorem lc_6 (C : XK X l D t cL_law RL room_1 4) (S : XS X b L xs) (hi : i + 4 ≤ L) (hL : L ≤ 2048) (hN : ∀ σ, LWS X t a m b i σ 817) : ∀ σ, LWS X t a m b i σ 326 := by
  intro σ I F Lg I' F' hI hX hM
  obtain ⟨K, sd, hd, dk, dw, mt⟩ := σ
  obtain ⟨z, hz⟩ := isI_lowest (K := K) (sd := sd) (hd := hd) (dk := dk) (dw := dw) (mt := mt) (xs (i + 1))
  refine xaload_n C 2 rfl dL_law_326 ?_
  refine xarg C S hL 1 (by decide) (by omega) rfl rfl dL_law_327 dL_law_328 dL_law_329 dL_law_330 dL_law_331 ?_
  refine xcallV (As := [.int (xs (i + 1))]) (rest := []) C (c_X5_lowest hI hX (xs (i + 1))) 0 rfl rfl xml_L_41 xim_X5_lowest xse_X5_lowest xin_X5 xco_X5_lowest ⟨by decide +kernel, by decide +kernel, (show (parseMethodDescriptor yX5_lowest.desc).map (fun d => d.parameters.length) = some 1 from by decide +kernel)⟩ ⟨Nat.le_of_ble_eq_true rfl, Nat.le_of_ble_eq_true rfl⟩ ⟨rfl, rfl⟩ ⟨Nat.le_of_ble_eq_true rfl, Nat.le_of_ble_eq_true rfl⟩ rfl (Nat.le_of_ble_eq_true rfl) dL_law_332 (fun vE wE hE => ?_)
  obtain ⟨v1, rfl, I1, F1, L1, rfl, hv, hX1⟩ := hE
  rw [hz] at hv
  subst hv
  refine xaload_n C 1 rfl dL_law_335 ?_
  refine xarg C S hL 1 (by decide) (by omega) rfl rfl dL_law_336 dL_law_337 dL_law_338 dL_law_339 dL_law_340 ?_
  refine xrot ?_
  refine xcallV (As := [.int (xs (i + 1))]) (rest := [.int z]) C (c_X6_lowest hI hM (xs (i + 1))) 0 rfl rfl xml_L_44 xim_X6_lowest xse_X6_lowest xin_X6 xco_X6_lowest ⟨by decide +kernel, by decide +kernel, (show (parseMethodDescriptor yX6_lowest.desc).map (fun d => d.parameters.length) = some 1 from by decide +kernel)⟩ ⟨Nat.le_of_ble_eq_true rfl, Nat.le_of_ble_eq_true rfl⟩ ⟨rfl, rfl⟩ ⟨Nat.le_of_ble_eq_true rfl, Nat.le_of_ble_eq_true rfl⟩ rfl (Nat.le_of_ble_eq_true rfl) dL_law_341 (fun vE wE hE => ?_)
  obtain ⟨v2, rfl, I2, F2, rfl, hv, hM1⟩ := hE
  rw [hz] at hv
  subst hv
  refine xrot ?_
  refine xeq (st' := [.int z, .int z]) rfl rfl rfl rfl ?_
  refine xicmp_eq C 817 dL_law_344 (by decide) (fun _ => ?_) (fun h => absurd rfl h)
  exact hN _ I1 F1 L1 I2 F2 (iv_low hI _) hX1 hM1
theorem lc_7 (C : XK X l D t cL_law RL room_1 4) (S : XS X b L xs) (hi : i + 4 ≤ L) (hL : L ≤ 2048) (hN : ∀ σ, LWS X t a m b i σ 817) : ∀ σ, LWS X t a m b i σ 349 := by
  intro σ I F Lg I' F' hI hX hM
  obtain ⟨K, sd, hd, dk, dw, mt⟩ := σ
  obtain ⟨z, hz⟩ := isI_at (K := K) (sd := sd) (hd := hd) (dk := dk) (dw := dw) (mt := mt) (xs (i + 1))
  refine xaload_n C 2 rfl dL_law_349 ?_
  refine xarg C S hL 1 (by decide) (by omega) rfl rfl dL_law_350 dL_law_351 dL_law_352 dL_law_353 dL_law_354 ?_
  refine xcallV (As := [.int (xs (i + 1))]) (rest := []) C (c_X5_at hI hX (xs (i + 1))) 0 rfl rfl xml_L_45 xim_X5_at xse_X5_at xin_X5 xco_X5_at ⟨by decide +kernel, by decide +kernel, (show (parseMethodDescriptor yX5_at.desc).map (fun d => d.parameters.length) = some 1 from by decide +kernel)⟩ ⟨Nat.le_of_ble_eq_true rfl, Nat.le_of_ble_eq_true rfl⟩ ⟨rfl, rfl⟩ ⟨Nat.le_of_ble_eq_true rfl, Nat.le_of_ble_eq_true rfl⟩ rfl (Nat.le_of_ble_eq_true rfl) dL_law_355 (fun vE wE hE => ?_)
  obtain ⟨v1, rfl, I1, F1, L1, rfl, hv, hX1⟩ := hE
  rw [hz] at hv
  subst hv
  refine xaload_n C 1 rfl dL_law_358 ?_
  refine xarg C S hL 1 (by decide) (by omega) rfl rfl dL_law_359 dL_law_360 dL_law_361 dL_law_362 dL_law_363 ?_
  refine xrot ?_
  refine xcallV (As := [.int (xs (i + 1))]) (rest := [.int z]) C (c_X6_at hI hM (xs (i + 1))) 0 rfl rfl xml_L_48 xim_X6_at xse_X6_at xin_X6 xco_X6_at ⟨by decide +kernel, by decide +kernel, (show (parseMethodDescriptor yX6_at.desc).map (fun d => d.parameters.length) = some 1 from by decide +kernel)⟩ ⟨Nat.le_of_ble_eq_true rfl, Nat.le_of_ble_eq_true rfl⟩ ⟨rfl, rfl⟩ ⟨Nat.le_of_ble_eq_true rfl, Nat.le_of_ble_eq_true rfl⟩ rfl (Nat.le_of_ble_eq_true rfl) dL_law_364 (fun vE wE hE => ?_)
  obtain ⟨v2, rfl, I2, F2, rfl, hv, hM1⟩ := hE
  rw [hz] at hv
  subst hv
  refine xrot ?_
  refine xeq (st' := [.int z, .int z]) rfl rfl rfl rfl ?_
  refine xicmp_eq C 817 dL_law_367 (by decide) (fun _ => ?_) (fun h => absurd rfl h)
  exact hN _ I1 F1 L1 I2 F2 (iv_at hI _) hX1 hM1
theorem lc_8 (C : XK X l D t cL_law RL room_1 4) (S : XS X b L xs) (hi : i + 4 ≤ L) (hL : L ≤ 2048) (hN : ∀ σ, LWS X t a m b i σ 817) : ∀ σ, LWS X t a m b i σ 372 := by
  intro σ I F Lg I' F' hI hX hM
  obtain ⟨K, sd, hd, dk, dw, mt⟩ := σ
  obtain ⟨z, hz⟩ := isI_put (K := K) (sd := sd) (hd := hd) (dk := dk) (dw := dw) (mt := mt) (xs (i + 1)) (xs (i + 2))
  refine xaload_n C 2 rfl dL_law_372 ?_
  refine xarg C S hL 1 (by decide) (by omega) rfl rfl dL_law_373 dL_law_374 dL_law_375 dL_law_376 dL_law_377 ?_
  refine xarg C S hL 2 (by decide) (by omega) rfl rfl dL_law_378 dL_law_379 dL_law_380 dL_law_381 dL_law_382 ?_
  refine xcallV (As := [.int (xs (i + 1)), .int (xs (i + 2))]) (rest := []) C (c_X5_put hI hX (xs (i + 1)) (xs (i + 2))) 0 rfl rfl xml_L_49 xim_X5_put xse_X5_put xin_X5 xco_X5_put ⟨by decide +kernel, by decide +kernel, (show (parseMethodDescriptor yX5_put.desc).map (fun d => d.parameters.length) = some 2 from by decide +kernel)⟩ ⟨Nat.le_of_ble_eq_true rfl, Nat.le_of_ble_eq_true rfl⟩ ⟨rfl, rfl⟩ ⟨Nat.le_of_ble_eq_true rfl, Nat.le_of_ble_eq_true rfl⟩ rfl (Nat.le_of_ble_eq_true rfl) dL_law_383 (fun vE wE hE => ?_)
  obtain ⟨v1, rfl, I1, F1, L1, rfl, hv, hX1⟩ := hE
  rw [hz] at hv
  subst hv
  refine xaload_n C 1 rfl dL_law_386 ?_
  refine xarg C S hL 1 (by decide) (by omega) rfl rfl dL_law_387 dL_law_388 dL_law_389 dL_law_390 dL_law_391 ?_
  refine xarg C S hL 2 (by decide) (by omega) rfl rfl dL_law_392 dL_law_393 dL_law_394 dL_law_395 dL_law_396 ?_
  refine xrot ?_
  refine xcallV (As := [.int (xs (i + 1)), .int (xs (i + 2))]) (rest := [.int z]) C (c_X6_put hI hM (xs (i + 1)) (xs (i + 2))) 0 rfl rfl xml_L_52 xim_X6_put xse_X6_put xin_X6 xco_X6_put ⟨by decide +kernel, by decide +kernel, (show (parseMethodDescriptor yX6_put.desc).map (fun d => d.parameters.length) = some 2 from by decide +kernel)⟩ ⟨Nat.le_of_ble_eq_true rfl, Nat.le_of_ble_eq_true rfl⟩ ⟨rfl, rfl⟩ ⟨Nat.le_of_ble_eq_true rfl, Nat.le_of_ble_eq_true rfl⟩ rfl (Nat.le_of_ble_eq_true rfl) dL_law_397 (fun vE wE hE => ?_)
  obtain ⟨v2, rfl, I2, F2, rfl, hv, hM1⟩ := hE
  rw [hz] at hv
  subst hv
  refine xrot ?_
  refine xeq (st' := [.int z, .int z]) rfl rfl rfl rfl ?_
  refine xicmp_eq C 817 dL_law_400 (by decide) (fun _ => ?_) (fun h => absurd rfl h)
  exact hN _ I1 F1 L1 I2 F2 (iv_put hI _ _) hX1 hM1
theorem lc_9 (C : XK X l D t cL_law RL room_1 4) (S : XS X b L xs) (hi : i + 4 ≤ L) (hL : L ≤ 2048) (hN : ∀ σ, LWS X t a m b i σ 817) : ∀ σ, LWS X t a m b i σ 405 := by
  intro σ I F Lg I' F' hI hX hM
  obtain ⟨K, sd, hd, dk, dw, mt⟩ := σ
  obtain ⟨z, hz⟩ := isI_take (K := K) (sd := sd) (hd := hd) (dk := dk) (dw := dw) (mt := mt) (xs (i + 1))
  refine xaload_n C 2 rfl dL_law_405 ?_
  refine xarg C S hL 1 (by decide) (by omega) rfl rfl dL_law_406 dL_law_407 dL_law_408 dL_law_409 dL_law_410 ?_
  refine xcallV (As := [.int (xs (i + 1))]) (rest := []) C (c_X5_take hI hX (xs (i + 1))) 0 rfl rfl xml_L_53 xim_X5_take xse_X5_take xin_X5 xco_X5_take ⟨by decide +kernel, by decide +kernel, (show (parseMethodDescriptor yX5_take.desc).map (fun d => d.parameters.length) = some 1 from by decide +kernel)⟩ ⟨Nat.le_of_ble_eq_true rfl, Nat.le_of_ble_eq_true rfl⟩ ⟨rfl, rfl⟩ ⟨Nat.le_of_ble_eq_true rfl, Nat.le_of_ble_eq_true rfl⟩ rfl (Nat.le_of_ble_eq_true rfl) dL_law_411 (fun vE wE hE => ?_)
  obtain ⟨v1, rfl, I1, F1, L1, rfl, hv, hX1⟩ := hE
  rw [hz] at hv
  subst hv
  refine xaload_n C 1 rfl dL_law_414 ?_
  refine xarg C S hL 1 (by decide) (by omega) rfl rfl dL_law_415 dL_law_416 dL_law_417 dL_law_418 dL_law_419 ?_
  refine xrot ?_
  refine xcallV (As := [.int (xs (i + 1))]) (rest := [.int z]) C (c_X6_take hI hM (xs (i + 1))) 0 rfl rfl xml_L_56 xim_X6_take xse_X6_take xin_X6 xco_X6_take ⟨by decide +kernel, by decide +kernel, (show (parseMethodDescriptor yX6_take.desc).map (fun d => d.parameters.length) = some 1 from by decide +kernel)⟩ ⟨Nat.le_of_ble_eq_true rfl, Nat.le_of_ble_eq_true rfl⟩ ⟨rfl, rfl⟩ ⟨Nat.le_of_ble_eq_true rfl, Nat.le_of_ble_eq_true rfl⟩ rfl (Nat.le_of_ble_eq_true rfl) dL_law_420 (fun vE wE hE => ?_)
  obtain ⟨v2, rfl, I2, F2, rfl, hv, hM1⟩ := hE
  rw [hz] at hv
  subst hv
  refine xrot ?_
  refine xeq (st' := [.int z, .int z]) rfl rfl rfl rfl ?_
  refine xicmp_eq C 817 dL_law_423 (by decide) (fun _ => ?_) (fun h => absurd rfl h)
  exact hN _ I1 F1 L1 I2 F2 (iv_take hI _) hX1 hM1
theorem lc_10 (C : XK X l D t cL_law RL room_1 4) (S : XS X b L xs) (hi : i + 4 ≤ L) (hL : L ≤ 2048) (hN : ∀ σ, LWS X t a m b i σ 817) : ∀ σ, LWS X t a m b i σ 428 := by
  intro σ I F Lg I' F' hI hX hM
  obtain ⟨K, sd, hd, dk, dw, mt⟩ := σ
  obtain ⟨z, hz⟩ := isI_seed (K := K) (sd := sd) (hd := hd) (dk := dk) (dw := dw) (mt := mt) (xs (i + 1))
  refine xaload_n C 2 rfl dL_law_428 ?_
  refine xarg C S hL 1 (by decide) (by omega) rfl rfl dL_law_429 dL_law_430 dL_law_431 dL_law_432 dL_law_433 ?_
  refine xcallV (As := [.int (xs (i + 1))]) (rest := []) C (c_X5_seed hI hX (xs (i + 1))) 0 rfl rfl xml_L_57 xim_X5_seed xse_X5_seed xin_X5 xco_X5_seed ⟨by decide +kernel, by decide +kernel, (show (parseMethodDescriptor yX5_seed.desc).map (fun d => d.parameters.length) = some 1 from by decide +kernel)⟩ ⟨Nat.le_of_ble_eq_true rfl, Nat.le_of_ble_eq_true rfl⟩ ⟨rfl, rfl⟩ ⟨Nat.le_of_ble_eq_true rfl, Nat.le_of_ble_eq_true rfl⟩ rfl (Nat.le_of_ble_eq_true rfl) dL_law_434 (fun vE wE hE => ?_)
  obtain ⟨v1, rfl, I1, F1, L1, rfl, hv, hX1⟩ := hE
  rw [hz] at hv
  subst hv
  refine xaload_n C 1 rfl dL_law_437 ?_
  refine xarg C S hL 1 (by decide) (by omega) rfl rfl dL_law_438 dL_law_439 dL_law_440 dL_law_441 dL_law_442 ?_
  refine xrot ?_
  refine xcallV (As := [.int (xs (i + 1))]) (rest := [.int z]) C (c_X6_seed hI hM (xs (i + 1))) 0 rfl rfl xml_L_60 xim_X6_seed xse_X6_seed xin_X6 xco_X6_seed ⟨by decide +kernel, by decide +kernel, (show (parseMethodDescriptor yX6_seed.desc).map (fun d => d.parameters.length) = some 1 from by decide +kernel)⟩ ⟨Nat.le_of_ble_eq_true rfl, Nat.le_of_ble_eq_true rfl⟩ ⟨rfl, rfl⟩ ⟨Nat.le_of_ble_eq_true rfl, Nat.le_of_ble_eq_true rfl⟩ rfl (Nat.le_of_ble_eq_true rfl) dL_law_443 (fun vE wE hE => ?_)
  obtain ⟨v2, rfl, I2, F2, rfl, hv, hM1⟩ := hE
  rw [hz] at hv
  subst hv
  refine xrot ?_
  refine xeq (st' := [.int z, .int z]) rfl rfl rfl rfl ?_
  refine xicmp_eq C 817 dL_law_446 (by decide) (fun _ => ?_) (fun h => absurd rfl h)
  exact hN _ I1 F1 L1 I2 F2 (iv_seed hI _) hX1 hM1
theorem lc_11 (C : XK X l D t cL_law RL room_1 4) (S : XS X b L xs) (hi : i + 4 ≤ L) (hL : L ≤ 2048) (hN : ∀ σ, LWS X t a m b i σ 817) : ∀ σ, LWS X t a m b i σ 451 := by
  intro σ I F Lg I' F' hI hX hM
  obtain ⟨K, sd, hd, dk, dw, mt⟩ := σ
  obtain ⟨z, hz⟩ := isI_tick (K := K) (sd := sd) (hd := hd) (dk := dk) (dw := dw) (mt := mt) (xs (i + 1)) (xs (i + 2))
  refine xaload_n C 2 rfl dL_law_451 ?_
  refine xarg C S hL 1 (by decide) (by omega) rfl rfl dL_law_452 dL_law_453 dL_law_454 dL_law_455 dL_law_456 ?_
  refine xarg C S hL 2 (by decide) (by omega) rfl rfl dL_law_457 dL_law_458 dL_law_459 dL_law_460 dL_law_461 ?_
  refine xcallV (As := [.int (xs (i + 1)), .int (xs (i + 2))]) (rest := []) C (c_X5_tick hI hX (xs (i + 1)) (xs (i + 2))) 0 rfl rfl xml_L_61 xim_X5_tick xse_X5_tick xin_X5 xco_X5_tick ⟨by decide +kernel, by decide +kernel, (show (parseMethodDescriptor yX5_tick.desc).map (fun d => d.parameters.length) = some 2 from by decide +kernel)⟩ ⟨Nat.le_of_ble_eq_true rfl, Nat.le_of_ble_eq_true rfl⟩ ⟨rfl, rfl⟩ ⟨Nat.le_of_ble_eq_true rfl, Nat.le_of_ble_eq_true rfl⟩ rfl (Nat.le_of_ble_eq_true rfl) dL_law_462 (fun vE wE hE => ?_)
  obtain ⟨v1, rfl, I1, F1, L1, rfl, hv, hX1⟩ := hE
  rw [hz] at hv
  subst hv
  refine xaload_n C 1 rfl dL_law_465 ?_
  refine xarg C S hL 1 (by decide) (by omega) rfl rfl dL_law_466 dL_law_467 dL_law_468 dL_law_469 dL_law_470 ?_
  refine xarg C S hL 2 (by decide) (by omega) rfl rfl dL_law_471 dL_law_472 dL_law_473 dL_law_474 dL_law_475 ?_
  refine xrot ?_
  refine xcallV (As := [.int (xs (i + 1)), .int (xs (i + 2))]) (rest := [.int z]) C (c_X6_tick hI hM (xs (i + 1)) (xs (i + 2))) 0 rfl rfl xml_L_64 xim_X6_tick xse_X6_tick xin_X6 xco_X6_tick ⟨by decide +kernel, by decide +kernel, (show (parseMethodDescriptor yX6_tick.desc).map (fun d => d.parameters.length) = some 2 from by decide +kernel)⟩ ⟨Nat.le_of_ble_eq_true rfl, Nat.le_of_ble_eq_true rfl⟩ ⟨rfl, rfl⟩ ⟨Nat.le_of_ble_eq_true rfl, Nat.le_of_ble_eq_true rfl⟩ rfl (Nat.le_of_ble_eq_true rfl) dL_law_476 (fun vE wE hE => ?_)
  obtain ⟨v2, rfl, I2, F2, rfl, hv, hM1⟩ := hE
  rw [hz] at hv
  subst hv
  refine xrot ?_
  refine xeq (st' := [.int z, .int z]) rfl rfl rfl rfl ?_
  refine xicmp_eq C 817 dL_law_479 (by decide) (fun _ => ?_) (fun h => absurd rfl h)
  exact hN _ I1 F1 L1 I2 F2 (iv_tick hI _ _) hX1 hM1
theorem lc_12 (C : XK X l D t cL_law RL room_1 4) (S : XS X b L xs) (hi : i + 4 ≤ L) (hL : L ≤ 2048) (hN : ∀ σ, LWS X t a m b i σ 817) : ∀ σ, LWS X t a m b i σ 484 := by
  intro σ I F Lg I' F' hI hX hM
  obtain ⟨K, sd, hd, dk, dw, mt⟩ := σ
  obtain ⟨z, hz⟩ := isI_run (K := K) (sd := sd) (hd := hd) (dk := dk) (dw := dw) (mt := mt) (xs (i + 1)) (xs (i + 2))
  refine xaload_n C 2 rfl dL_law_484 ?_
  refine xarg C S hL 1 (by decide) (by omega) rfl rfl dL_law_485 dL_law_486 dL_law_487 dL_law_488 dL_law_489 ?_
  refine xarg C S hL 2 (by decide) (by omega) rfl rfl dL_law_490 dL_law_491 dL_law_492 dL_law_493 dL_law_494 ?_
  refine xcallV (As := [.int (xs (i + 1)), .int (xs (i + 2))]) (rest := []) C (c_X5_run hI hX (xs (i + 1)) (xs (i + 2))) 0 rfl rfl xml_L_65 xim_X5_run xse_X5_run xin_X5 xco_X5_run ⟨by decide +kernel, by decide +kernel, (show (parseMethodDescriptor yX5_run.desc).map (fun d => d.parameters.length) = some 2 from by decide +kernel)⟩ ⟨Nat.le_of_ble_eq_true rfl, Nat.le_of_ble_eq_true rfl⟩ ⟨rfl, rfl⟩ ⟨Nat.le_of_ble_eq_true rfl, Nat.le_of_ble_eq_true rfl⟩ rfl (Nat.le_of_ble_eq_true rfl) dL_law_495 (fun vE wE hE => ?_)
  obtain ⟨v1, rfl, I1, F1, L1, rfl, hv, hX1⟩ := hE
  rw [hz] at hv
  subst hv
  refine xaload_n C 1 rfl dL_law_498 ?_
  refine xarg C S hL 1 (by decide) (by omega) rfl rfl dL_law_499 dL_law_500 dL_law_501 dL_law_502 dL_law_503 ?_
  refine xarg C S hL 2 (by decide) (by omega) rfl rfl dL_law_504 dL_law_505 dL_law_506 dL_law_507 dL_law_508 ?_
  refine xrot ?_
  refine xcallV (As := [.int (xs (i + 1)), .int (xs (i + 2))]) (rest := [.int z]) C (c_X6_run hI hM (xs (i + 1)) (xs (i + 2))) 0 rfl rfl xml_L_68 xim_X6_run xse_X6_run xin_X6 xco_X6_run ⟨by decide +kernel, by decide +kernel, (show (parseMethodDescriptor yX6_run.desc).map (fun d => d.parameters.length) = some 2 from by decide +kernel)⟩ ⟨Nat.le_of_ble_eq_true rfl, Nat.le_of_ble_eq_true rfl⟩ ⟨rfl, rfl⟩ ⟨Nat.le_of_ble_eq_true rfl, Nat.le_of_ble_eq_true rfl⟩ rfl (Nat.le_of_ble_eq_true rfl) dL_law_509 (fun vE wE hE => ?_)
  obtain ⟨v2, rfl, I2, F2, rfl, hv, hM1⟩ := hE
  rw [hz] at hv
  subst hv
  refine xrot ?_
  refine xeq (st' := [.int z, .int z]) rfl rfl rfl rfl ?_
  refine xicmp_eq C 817 dL_law_512 (by decide) (fun _ => ?_) (fun h => absurd rfl h)
  exact hN _ I1 F1 L1 I2 F2 (iv_run hI _ _) hX1 hM1
theorem lc_13 (C : XK X l D t cL_law RL room_1 4) (S : XS X b L xs) (hi : i + 4 ≤ L) (hL : L ≤ 2048) (hN : ∀ σ, LWS X t a m b i σ 817) : ∀ σ, LWS X t a m b i σ 517 := by
  intro σ I F Lg I' F' hI hX hM
  obtain ⟨K, sd, hd, dk, dw, mt⟩ := σ
  obtain ⟨z, hz⟩ := isI_gap (K := K) (sd := sd) (hd := hd) (dk := dk) (dw := dw) (mt := mt) (xs (i + 1))
  refine xaload_n C 2 rfl dL_law_517 ?_
  refine xarg C S hL 1 (by decide) (by omega) rfl rfl dL_law_518 dL_law_519 dL_law_520 dL_law_521 dL_law_522 ?_
  refine xcallV (As := [.int (xs (i + 1))]) (rest := []) C (c_X5_gap hI hX (xs (i + 1))) 0 rfl rfl xml_L_69 xim_X5_gap xse_X5_gap xin_X5 xco_X5_gap ⟨by decide +kernel, by decide +kernel, (show (parseMethodDescriptor yX5_gap.desc).map (fun d => d.parameters.length) = some 1 from by decide +kernel)⟩ ⟨Nat.le_of_ble_eq_true rfl, Nat.le_of_ble_eq_true rfl⟩ ⟨rfl, rfl⟩ ⟨Nat.le_of_ble_eq_true rfl, Nat.le_of_ble_eq_true rfl⟩ rfl (Nat.le_of_ble_eq_true rfl) dL_law_523 (fun vE wE hE => ?_)
  obtain ⟨v1, rfl, I1, F1, L1, rfl, hv, hX1⟩ := hE
  rw [hz] at hv
  subst hv
  refine xaload_n C 1 rfl dL_law_526 ?_
  refine xarg C S hL 1 (by decide) (by omega) rfl rfl dL_law_527 dL_law_528 dL_law_529 dL_law_530 dL_law_531 ?_
  refine xrot ?_
  refine xcallV (As := [.int (xs (i + 1))]) (rest := [.int z]) C (c_X6_gap hI hM (xs (i + 1))) 0 rfl rfl xml_L_72 xim_X6_gap xse_X6_gap xin_X6 xco_X6_gap ⟨by decide +kernel, by decide +kernel, (show (parseMethodDescriptor yX6_gap.desc).map (fun d => d.parameters.length) = some 1 from by decide +kernel)⟩ ⟨Nat.le_of_ble_eq_true rfl, Nat.le_of_ble_eq_true rfl⟩ ⟨rfl, rfl⟩ ⟨Nat.le_of_ble_eq_true rfl, Nat.le_of_ble_eq_true rfl⟩ rfl (Nat.le_of_ble_eq_true rfl) dL_law_532 (fun vE wE hE => ?_)
  obtain ⟨v2, rfl, I2, F2, rfl, hv, hM1⟩ := hE
  rw [hz] at hv
  subst hv
  refine xrot ?_
  refine xeq (st' := [.int z, .int z]) rfl rfl rfl rfl ?_
  refine xicmp_eq C 817 dL_law_535 (by decide) (fun _ => ?_) (fun h => absurd rfl h)
  exact hN _ I1 F1 L1 I2 F2 (iv_gap hI _) hX1 hM1
theorem lc_14 (C : XK X l D t cL_law RL room_1 4) (S : XS X b L xs) (hi : i + 4 ≤ L) (hL : L ≤ 2048) (hN : ∀ σ, LWS X t a m b i σ 817) : ∀ σ, LWS X t a m b i σ 540 := by
  intro σ I F Lg I' F' hI hX hM
  obtain ⟨K, sd, hd, dk, dw, mt⟩ := σ
  obtain ⟨z, hz⟩ := isI_draw (K := K) (sd := sd) (hd := hd) (dk := dk) (dw := dw) (mt := mt)
  refine xaload_n C 2 rfl dL_law_540 ?_
  refine xcallV (As := []) (rest := []) C (c_X5_draw hI hX) 0 rfl rfl xml_L_73 xim_X5_draw xse_X5_draw xin_X5 xco_X5_draw ⟨by decide +kernel, by decide +kernel, (show (parseMethodDescriptor yX5_draw.desc).map (fun d => d.parameters.length) = some 0 from by decide +kernel)⟩ ⟨Nat.le_of_ble_eq_true rfl, Nat.le_of_ble_eq_true rfl⟩ ⟨rfl, rfl⟩ ⟨Nat.le_of_ble_eq_true rfl, Nat.le_of_ble_eq_true rfl⟩ rfl (Nat.le_of_ble_eq_true rfl) dL_law_541 (fun vE wE hE => ?_)
  obtain ⟨v1, rfl, I1, F1, L1, rfl, hv, hX1⟩ := hE
  rw [hz] at hv
  subst hv
  refine xaload_n C 1 rfl dL_law_544 ?_
  refine xrot ?_
  refine xcallV (As := []) (rest := [.int z]) C (c_X6_draw hI hM) 0 rfl rfl xml_L_76 xim_X6_draw xse_X6_draw xin_X6 xco_X6_draw ⟨by decide +kernel, by decide +kernel, (show (parseMethodDescriptor yX6_draw.desc).map (fun d => d.parameters.length) = some 0 from by decide +kernel)⟩ ⟨Nat.le_of_ble_eq_true rfl, Nat.le_of_ble_eq_true rfl⟩ ⟨rfl, rfl⟩ ⟨Nat.le_of_ble_eq_true rfl, Nat.le_of_ble_eq_true rfl⟩ rfl (Nat.le_of_ble_eq_true rfl) dL_law_545 (fun vE wE hE => ?_)
  obtain ⟨v2, rfl, I2, F2, rfl, hv, hM1⟩ := hE
  rw [hz] at hv
  subst hv
  refine xrot ?_
  refine xeq (st' := [.int z, .int z]) rfl rfl rfl rfl ?_
  refine xicmp_eq C 817 dL_law_548 (by decide) (fun _ => ?_) (fun h => absurd rfl h)
  exact hN _ I1 F1 L1 I2 F2 (iv_draw hI) hX1 hM1
theorem lc_15 (C : XK X l D t cL_law RL room_1 4) (S : XS X b L xs) (hi : i + 4 ≤ L) (hL : L ≤ 2048) (hN : ∀ σ, LWS X t a m b i σ 817) : ∀ σ, LWS X t a m b i σ 553 := by
  intro σ I F Lg I' F' hI hX hM
  obtain ⟨K, sd, hd, dk, dw, mt⟩ := σ
  obtain ⟨z, hz⟩ := isI_drawn (K := K) (sd := sd) (hd := hd) (dk := dk) (dw := dw) (mt := mt) (xs (i + 1))
  refine xaload_n C 2 rfl dL_law_553 ?_
  refine xarg C S hL 1 (by decide) (by omega) rfl rfl dL_law_554 dL_law_555 dL_law_556 dL_law_557 dL_law_558 ?_
  refine xcallV (As := [.int (xs (i + 1))]) (rest := []) C (c_X5_drawn hI hX (xs (i + 1))) 0 rfl rfl xml_L_77 xim_X5_drawn xse_X5_drawn xin_X5 xco_X5_drawn ⟨by decide +kernel, by decide +kernel, (show (parseMethodDescriptor yX5_drawn.desc).map (fun d => d.parameters.length) = some 1 from by decide +kernel)⟩ ⟨Nat.le_of_ble_eq_true rfl, Nat.le_of_ble_eq_true rfl⟩ ⟨rfl, rfl⟩ ⟨Nat.le_of_ble_eq_true rfl, Nat.le_of_ble_eq_true rfl⟩ rfl (Nat.le_of_ble_eq_true rfl) dL_law_559 (fun vE wE hE => ?_)
  obtain ⟨v1, rfl, I1, F1, L1, rfl, hv, hX1⟩ := hE
  rw [hz] at hv
  subst hv
  refine xaload_n C 1 rfl dL_law_562 ?_
  refine xarg C S hL 1 (by decide) (by omega) rfl rfl dL_law_563 dL_law_564 dL_law_565 dL_law_566 dL_law_567 ?_
  refine xrot ?_
  refine xcallV (As := [.int (xs (i + 1))]) (rest := [.int z]) C (c_X6_drawn hI hM (xs (i + 1))) 0 rfl rfl xml_L_80 xim_X6_drawn xse_X6_drawn xin_X6 xco_X6_drawn ⟨by decide +kernel, by decide +kernel, (show (parseMethodDescriptor yX6_drawn.desc).map (fun d => d.parameters.length) = some 1 from by decide +kernel)⟩ ⟨Nat.le_of_ble_eq_true rfl, Nat.le_of_ble_eq_true rfl⟩ ⟨rfl, rfl⟩ ⟨Nat.le_of_ble_eq_true rfl, Nat.le_of_ble_eq_true rfl⟩ rfl (Nat.le_of_ble_eq_true rfl) dL_law_568 (fun vE wE hE => ?_)
  obtain ⟨v2, rfl, I2, F2, rfl, hv, hM1⟩ := hE
  rw [hz] at hv
  subst hv
  refine xrot ?_
  refine xeq (st' := [.int z, .int z]) rfl rfl rfl rfl ?_
  refine xicmp_eq C 817 dL_law_571 (by decide) (fun _ => ?_) (fun h => absurd rfl h)
  exact hN _ I1 F1 L1 I2 F2 (iv_drawn hI _) hX1 hM1
theorem lc_16 (C : XK X l D t cL_law RL room_1 4) (S : XS X b L xs) (hi : i + 4 ≤ L) (hL : L ≤ 2048) (hN : ∀ σ, LWS X t a m b i σ 817) : ∀ σ, LWS X t a m b i σ 576 := by
  intro σ I F Lg I' F' hI hX hM
  obtain ⟨K, sd, hd, dk, dw, mt⟩ := σ
  obtain ⟨z, hz⟩ := isI_met (K := K) (sd := sd) (hd := hd) (dk := dk) (dw := dw) (mt := mt)
  refine xaload_n C 2 rfl dL_law_576 ?_
  refine xcallV (As := []) (rest := []) C (c_X5_met hI hX) 0 rfl rfl xml_L_81 xim_X5_met xse_X5_met xin_X5 xco_X5_met ⟨by decide +kernel, by decide +kernel, (show (parseMethodDescriptor yX5_met.desc).map (fun d => d.parameters.length) = some 0 from by decide +kernel)⟩ ⟨Nat.le_of_ble_eq_true rfl, Nat.le_of_ble_eq_true rfl⟩ ⟨rfl, rfl⟩ ⟨Nat.le_of_ble_eq_true rfl, Nat.le_of_ble_eq_true rfl⟩ rfl (Nat.le_of_ble_eq_true rfl) dL_law_577 (fun vE wE hE => ?_)
  obtain ⟨v1, rfl, I1, F1, L1, rfl, hv, hX1⟩ := hE
  rw [hz] at hv
  subst hv
  refine xaload_n C 1 rfl dL_law_580 ?_
  refine xrot ?_
  refine xcallV (As := []) (rest := [.int z]) C (c_X6_met hI hM) 0 rfl rfl xml_L_84 xim_X6_met xse_X6_met xin_X6 xco_X6_met ⟨by decide +kernel, by decide +kernel, (show (parseMethodDescriptor yX6_met.desc).map (fun d => d.parameters.length) = some 0 from by decide +kernel)⟩ ⟨Nat.le_of_ble_eq_true rfl, Nat.le_of_ble_eq_true rfl⟩ ⟨rfl, rfl⟩ ⟨Nat.le_of_ble_eq_true rfl, Nat.le_of_ble_eq_true rfl⟩ rfl (Nat.le_of_ble_eq_true rfl) dL_law_581 (fun vE wE hE => ?_)
  obtain ⟨v2, rfl, I2, F2, rfl, hv, hM1⟩ := hE
  rw [hz] at hv
  subst hv
  refine xrot ?_
  refine xeq (st' := [.int z, .int z]) rfl rfl rfl rfl ?_
  refine xicmp_eq C 817 dL_law_584 (by decide) (fun _ => ?_) (fun h => absurd rfl h)
  exact hN _ I1 F1 L1 I2 F2 (iv_met hI) hX1 hM1
theorem lc_17 (C : XK X l D t cL_law RL room_1 4) (S : XS X b L xs) (hi : i + 4 ≤ L) (hL : L ≤ 2048) (hN : ∀ σ, LWS X t a m b i σ 817) : ∀ σ, LWS X t a m b i σ 589 := by
  intro σ I F Lg I' F' hI hX hM
  obtain ⟨K, sd, hd, dk, dw, mt⟩ := σ
  obtain ⟨z, hz⟩ := isI_tally (K := K) (sd := sd) (hd := hd) (dk := dk) (dw := dw) (mt := mt) (xs (i + 1)) (xs (i + 2)) (xs (i + 3))
  refine xaload_n C 2 rfl dL_law_589 ?_
  refine xarg C S hL 1 (by decide) (by omega) rfl rfl dL_law_590 dL_law_591 dL_law_592 dL_law_593 dL_law_594 ?_
  refine xarg C S hL 2 (by decide) (by omega) rfl rfl dL_law_595 dL_law_596 dL_law_597 dL_law_598 dL_law_599 ?_
  refine xarg C S hL 3 (by decide) (by omega) rfl rfl dL_law_600 dL_law_601 dL_law_602 dL_law_603 dL_law_604 ?_
  refine xcallV (As := [.int (xs (i + 1)), .int (xs (i + 2)), .int (xs (i + 3))]) (rest := []) C (c_X5_tally hI hX (xs (i + 1)) (xs (i + 2)) (xs (i + 3))) 0 rfl rfl xml_L_85 xim_X5_tally xse_X5_tally xin_X5 xco_X5_tally ⟨by decide +kernel, by decide +kernel, (show (parseMethodDescriptor yX5_tally.desc).map (fun d => d.parameters.length) = some 3 from by decide +kernel)⟩ ⟨Nat.le_of_ble_eq_true rfl, Nat.le_of_ble_eq_true rfl⟩ ⟨rfl, rfl⟩ ⟨Nat.le_of_ble_eq_true rfl, Nat.le_of_ble_eq_true rfl⟩ rfl (Nat.le_of_ble_eq_true rfl) dL_law_605 (fun vE wE hE => ?_)
  obtain ⟨v1, rfl, I1, F1, L1, rfl, hv, hX1⟩ := hE
  rw [hz] at hv
  subst hv
  refine xaload_n C 1 rfl dL_law_608 ?_
  refine xarg C S hL 1 (by decide) (by omega) rfl rfl dL_law_609 dL_law_610 dL_law_611 dL_law_612 dL_law_613 ?_
  refine xarg C S hL 2 (by decide) (by omega) rfl rfl dL_law_614 dL_law_615 dL_law_616 dL_law_617 dL_law_618 ?_
  refine xarg C S hL 3 (by decide) (by omega) rfl rfl dL_law_619 dL_law_620 dL_law_621 dL_law_622 dL_law_623 ?_
  refine xrot ?_
  refine xcallV (As := [.int (xs (i + 1)), .int (xs (i + 2)), .int (xs (i + 3))]) (rest := [.int z]) C (c_X6_tally hI hM (xs (i + 1)) (xs (i + 2)) (xs (i + 3))) 0 rfl rfl xml_L_88 xim_X6_tally xse_X6_tally xin_X6 xco_X6_tally ⟨by decide +kernel, by decide +kernel, (show (parseMethodDescriptor yX6_tally.desc).map (fun d => d.parameters.length) = some 3 from by decide +kernel)⟩ ⟨Nat.le_of_ble_eq_true rfl, Nat.le_of_ble_eq_true rfl⟩ ⟨rfl, rfl⟩ ⟨Nat.le_of_ble_eq_true rfl, Nat.le_of_ble_eq_true rfl⟩ rfl (Nat.le_of_ble_eq_true rfl) dL_law_624 (fun vE wE hE => ?_)
  obtain ⟨v2, rfl, I2, F2, rfl, hv, hM1⟩ := hE
  rw [hz] at hv
  subst hv
  refine xrot ?_
  refine xeq (st' := [.int z, .int z]) rfl rfl rfl rfl ?_
  refine xicmp_eq C 817 dL_law_627 (by decide) (fun _ => ?_) (fun h => absurd rfl h)
  exact hN _ I1 F1 L1 I2 F2 (iv_tally hI _ _ _) hX1 hM1
theorem lc_18 (C : XK X l D t cL_law RL room_1 4) (S : XS X b L xs) (hi : i + 4 ≤ L) (hL : L ≤ 2048) (hN : ∀ σ, LWS X t a m b i σ 817) : ∀ σ, LWS X t a m b i σ 632 := by
  intro σ I F Lg I' F' hI hX hM
  obtain ⟨K, sd, hd, dk, dw, mt⟩ := σ
  obtain ⟨z, hz⟩ := isI_many (K := K) (sd := sd) (hd := hd) (dk := dk) (dw := dw) (mt := mt)
  refine xaload_n C 2 rfl dL_law_632 ?_
  refine xcallV (As := []) (rest := []) C (c_X5_many hI hX) 0 rfl rfl xml_L_89 xim_X5_many xse_X5_many xin_X5 xco_X5_many ⟨by decide +kernel, by decide +kernel, (show (parseMethodDescriptor yX5_many.desc).map (fun d => d.parameters.length) = some 0 from by decide +kernel)⟩ ⟨Nat.le_of_ble_eq_true rfl, Nat.le_of_ble_eq_true rfl⟩ ⟨rfl, rfl⟩ ⟨Nat.le_of_ble_eq_true rfl, Nat.le_of_ble_eq_true rfl⟩ rfl (Nat.le_of_ble_eq_true rfl) dL_law_633 (fun vE wE hE => ?_)
  obtain ⟨v1, rfl, I1, F1, L1, rfl, hv, hX1⟩ := hE
  rw [hz] at hv
  subst hv
  refine xaload_n C 1 rfl dL_law_636 ?_
  refine xrot ?_
  refine xcallV (As := []) (rest := [.int z]) C (c_X6_many hI hM) 0 rfl rfl xml_L_92 xim_X6_many xse_X6_many xin_X6 xco_X6_many ⟨by decide +kernel, by decide +kernel, (show (parseMethodDescriptor yX6_many.desc).map (fun d => d.parameters.length) = some 0 from by decide +kernel)⟩ ⟨Nat.le_of_ble_eq_true rfl, Nat.le_of_ble_eq_true rfl⟩ ⟨rfl, rfl⟩ ⟨Nat.le_of_ble_eq_true rfl, Nat.le_of_ble_eq_true rfl⟩ rfl (Nat.le_of_ble_eq_true rfl) dL_law_637 (fun vE wE hE => ?_)
  obtain ⟨v2, rfl, I2, F2, rfl, hv, hM1⟩ := hE
  rw [hz] at hv
  subst hv
  refine xrot ?_
  refine xeq (st' := [.int z, .int z]) rfl rfl rfl rfl ?_
  refine xicmp_eq C 817 dL_law_640 (by decide) (fun _ => ?_) (fun h => absurd rfl h)
  exact hN _ I1 F1 L1 I2 F2 (iv_many hI) hX1 hM1
theorem lc_19 (C : XK X l D t cL_law RL room_1 4) (S : XS X b L xs) (hi : i + 4 ≤ L) (hL : L ≤ 2048) (hN : ∀ σ, LWS X t a m b i σ 817) : ∀ σ, LWS X t a m b i σ 645 := by
  intro σ I F Lg I' F' hI hX hM
  obtain ⟨K, sd, hd, dk, dw, mt⟩ := σ
  obtain ⟨z, hz⟩ := isL_all (K := K) (sd := sd) (hd := hd) (dk := dk) (dw := dw) (mt := mt)
  refine xaload_n C 2 rfl dL_law_645 ?_
  refine xcallV (As := []) (rest := []) C (c_X5_all hI hX) 0 rfl rfl xml_L_93 xim_X5_all xse_X5_all xin_X5 xco_X5_all ⟨by decide +kernel, by decide +kernel, (show (parseMethodDescriptor yX5_all.desc).map (fun d => d.parameters.length) = some 0 from by decide +kernel)⟩ ⟨Nat.le_of_ble_eq_true rfl, Nat.le_of_ble_eq_true rfl⟩ ⟨rfl, rfl⟩ ⟨Nat.le_of_ble_eq_true rfl, Nat.le_of_ble_eq_true rfl⟩ rfl (Nat.le_of_ble_eq_true rfl) dL_law_646 (fun vE wE hE => ?_)
  obtain ⟨v1, rfl, I1, F1, L1, rfl, hv, hX1⟩ := hE
  rw [hz] at hv
  subst hv
  refine xaload_n C 1 rfl dL_law_649 ?_
  refine xrot ?_
  refine xcallV (As := []) (rest := [.long z]) C (c_X6_all hI hM) 0 rfl rfl xml_L_97 xim_X6_all xse_X6_all xin_X6 xco_X6_all ⟨by decide +kernel, by decide +kernel, (show (parseMethodDescriptor yX6_all.desc).map (fun d => d.parameters.length) = some 0 from by decide +kernel)⟩ ⟨Nat.le_of_ble_eq_true rfl, Nat.le_of_ble_eq_true rfl⟩ ⟨rfl, rfl⟩ ⟨Nat.le_of_ble_eq_true rfl, Nat.le_of_ble_eq_true rfl⟩ rfl (Nat.le_of_ble_eq_true rfl) dL_law_650 (fun vE wE hE => ?_)
  obtain ⟨v2, rfl, I2, F2, rfl, hv, hM1⟩ := hE
  rw [hz] at hv
  subst hv
  refine xrot ?_
  refine xeq (st' := [.long z, .long z]) rfl rfl rfl rfl ?_
  refine xlcmp C dL_law_653 ?_
  refine xif_eq C 817 dL_law_654 (by decide) (fun _ => ?_) (fun h => absurd ((lg_cmp_eq z z).mpr rfl) h)
  exact hN _ I1 F1 L1 I2 F2 (iv_all hI) hX1 hM1
theorem lc_20 (C : XK X l D t cL_law RL room_1 4) (S : XS X b L xs) (hi : i + 4 ≤ L) (hL : L ≤ 2048) (hN : ∀ σ, LWS X t a m b i σ 817) : ∀ σ, LWS X t a m b i σ 659 := by
  intro σ I F Lg I' F' hI hX hM
  obtain ⟨K, sd, hd, dk, dw, mt⟩ := σ
  obtain ⟨z, hz⟩ := isL_chance (K := K) (sd := sd) (hd := hd) (dk := dk) (dw := dw) (mt := mt) (xs (i + 1))
  refine xaload_n C 2 rfl dL_law_659 ?_
  refine xarg C S hL 1 (by decide) (by omega) rfl rfl dL_law_660 dL_law_661 dL_law_662 dL_law_663 dL_law_664 ?_
  refine xcallV (As := [.int (xs (i + 1))]) (rest := []) C (c_X5_chance hI hX (xs (i + 1))) 0 rfl rfl xml_L_98 xim_X5_chance xse_X5_chance xin_X5 xco_X5_chance ⟨by decide +kernel, by decide +kernel, (show (parseMethodDescriptor yX5_chance.desc).map (fun d => d.parameters.length) = some 1 from by decide +kernel)⟩ ⟨Nat.le_of_ble_eq_true rfl, Nat.le_of_ble_eq_true rfl⟩ ⟨rfl, rfl⟩ ⟨Nat.le_of_ble_eq_true rfl, Nat.le_of_ble_eq_true rfl⟩ rfl (Nat.le_of_ble_eq_true rfl) dL_law_665 (fun vE wE hE => ?_)
  obtain ⟨v1, rfl, I1, F1, L1, rfl, hv, hX1⟩ := hE
  rw [hz] at hv
  subst hv
  refine xaload_n C 1 rfl dL_law_668 ?_
  refine xarg C S hL 1 (by decide) (by omega) rfl rfl dL_law_669 dL_law_670 dL_law_671 dL_law_672 dL_law_673 ?_
  refine xrot ?_
  refine xcallV (As := [.int (xs (i + 1))]) (rest := [.long z]) C (c_X6_chance hI hM (xs (i + 1))) 0 rfl rfl xml_L_102 xim_X6_chance xse_X6_chance xin_X6 xco_X6_chance ⟨by decide +kernel, by decide +kernel, (show (parseMethodDescriptor yX6_chance.desc).map (fun d => d.parameters.length) = some 1 from by decide +kernel)⟩ ⟨Nat.le_of_ble_eq_true rfl, Nat.le_of_ble_eq_true rfl⟩ ⟨rfl, rfl⟩ ⟨Nat.le_of_ble_eq_true rfl, Nat.le_of_ble_eq_true rfl⟩ rfl (Nat.le_of_ble_eq_true rfl) dL_law_674 (fun vE wE hE => ?_)
  obtain ⟨v2, rfl, I2, F2, rfl, hv, hM1⟩ := hE
  rw [hz] at hv
  subst hv
  refine xrot ?_
  refine xeq (st' := [.long z, .long z]) rfl rfl rfl rfl ?_
  refine xlcmp C dL_law_677 ?_
  refine xif_eq C 817 dL_law_678 (by decide) (fun _ => ?_) (fun h => absurd ((lg_cmp_eq z z).mpr rfl) h)
  exact hN _ I1 F1 L1 I2 F2 (iv_chance hI _) hX1 hM1
theorem lc_21 (C : XK X l D t cL_law RL room_1 4) (S : XS X b L xs) (hi : i + 4 ≤ L) (hL : L ≤ 2048) (hN : ∀ σ, LWS X t a m b i σ 817) : ∀ σ, LWS X t a m b i σ 683 := by
  intro σ I F Lg I' F' hI hX hM
  obtain ⟨K, sd, hd, dk, dw, mt⟩ := σ
  obtain ⟨z, hz⟩ := isL_mean (K := K) (sd := sd) (hd := hd) (dk := dk) (dw := dw) (mt := mt) (xs (i + 1)) (xs (i + 2))
  refine xaload_n C 2 rfl dL_law_683 ?_
  refine xarg C S hL 1 (by decide) (by omega) rfl rfl dL_law_684 dL_law_685 dL_law_686 dL_law_687 dL_law_688 ?_
  refine xarg C S hL 2 (by decide) (by omega) rfl rfl dL_law_689 dL_law_690 dL_law_691 dL_law_692 dL_law_693 ?_
  refine xcallV (As := [.int (xs (i + 1)), .int (xs (i + 2))]) (rest := []) C (c_X5_mean hI hX (xs (i + 1)) (xs (i + 2))) 0 rfl rfl xml_L_103 xim_X5_mean xse_X5_mean xin_X5 xco_X5_mean ⟨by decide +kernel, by decide +kernel, (show (parseMethodDescriptor yX5_mean.desc).map (fun d => d.parameters.length) = some 2 from by decide +kernel)⟩ ⟨Nat.le_of_ble_eq_true rfl, Nat.le_of_ble_eq_true rfl⟩ ⟨rfl, rfl⟩ ⟨Nat.le_of_ble_eq_true rfl, Nat.le_of_ble_eq_true rfl⟩ rfl (Nat.le_of_ble_eq_true rfl) dL_law_694 (fun vE wE hE => ?_)
  obtain ⟨v1, rfl, I1, F1, L1, rfl, hv, hX1⟩ := hE
  rw [hz] at hv
  subst hv
  refine xaload_n C 1 rfl dL_law_697 ?_
  refine xarg C S hL 1 (by decide) (by omega) rfl rfl dL_law_698 dL_law_699 dL_law_700 dL_law_701 dL_law_702 ?_
  refine xarg C S hL 2 (by decide) (by omega) rfl rfl dL_law_703 dL_law_704 dL_law_705 dL_law_706 dL_law_707 ?_
  refine xrot ?_
  refine xcallV (As := [.int (xs (i + 1)), .int (xs (i + 2))]) (rest := [.long z]) C (c_X6_mean hI hM (xs (i + 1)) (xs (i + 2))) 0 rfl rfl xml_L_107 xim_X6_mean xse_X6_mean xin_X6 xco_X6_mean ⟨by decide +kernel, by decide +kernel, (show (parseMethodDescriptor yX6_mean.desc).map (fun d => d.parameters.length) = some 2 from by decide +kernel)⟩ ⟨Nat.le_of_ble_eq_true rfl, Nat.le_of_ble_eq_true rfl⟩ ⟨rfl, rfl⟩ ⟨Nat.le_of_ble_eq_true rfl, Nat.le_of_ble_eq_true rfl⟩ rfl (Nat.le_of_ble_eq_true rfl) dL_law_708 (fun vE wE hE => ?_)
  obtain ⟨v2, rfl, I2, F2, rfl, hv, hM1⟩ := hE
  rw [hz] at hv
  subst hv
  refine xrot ?_
  refine xeq (st' := [.long z, .long z]) rfl rfl rfl rfl ?_
  refine xlcmp C dL_law_711 ?_
  refine xif_eq C 817 dL_law_712 (by decide) (fun _ => ?_) (fun h => absurd ((lg_cmp_eq z z).mpr rfl) h)
  exact hN _ I1 F1 L1 I2 F2 (iv_mean hI _ _) hX1 hM1
theorem lc_22 (C : XK X l D t cL_law RL room_1 4) (S : XS X b L xs) (hi : i + 4 ≤ L) (hL : L ≤ 2048) (hN : ∀ σ, LWS X t a m b i σ 817) : ∀ σ, LWS X t a m b i σ 717 := by
  intro σ I F Lg I' F' hI hX hM
  obtain ⟨K, sd, hd, dk, dw, mt⟩ := σ
  obtain ⟨z, hz⟩ := isL_alike (K := K) (sd := sd) (hd := hd) (dk := dk) (dw := dw) (mt := mt) (xs (i + 1)) (xs (i + 2)) (xs (i + 3))
  refine xaload_n C 2 rfl dL_law_717 ?_
  refine xarg C S hL 1 (by decide) (by omega) rfl rfl dL_law_718 dL_law_719 dL_law_720 dL_law_721 dL_law_722 ?_
  refine xarg C S hL 2 (by decide) (by omega) rfl rfl dL_law_723 dL_law_724 dL_law_725 dL_law_726 dL_law_727 ?_
  refine xarg C S hL 3 (by decide) (by omega) rfl rfl dL_law_728 dL_law_729 dL_law_730 dL_law_731 dL_law_732 ?_
  refine xcallV (As := [.int (xs (i + 1)), .int (xs (i + 2)), .int (xs (i + 3))]) (rest := []) C (c_X5_alike hI hX (xs (i + 1)) (xs (i + 2)) (xs (i + 3))) 0 rfl rfl xml_L_108 xim_X5_alike xse_X5_alike xin_X5 xco_X5_alike ⟨by decide +kernel, by decide +kernel, (show (parseMethodDescriptor yX5_alike.desc).map (fun d => d.parameters.length) = some 3 from by decide +kernel)⟩ ⟨Nat.le_of_ble_eq_true rfl, Nat.le_of_ble_eq_true rfl⟩ ⟨rfl, rfl⟩ ⟨Nat.le_of_ble_eq_true rfl, Nat.le_of_ble_eq_true rfl⟩ rfl (Nat.le_of_ble_eq_true rfl) dL_law_733 (fun vE wE hE => ?_)
  obtain ⟨v1, rfl, I1, F1, L1, rfl, hv, hX1⟩ := hE
  rw [hz] at hv
  subst hv
  refine xaload_n C 1 rfl dL_law_736 ?_
  refine xarg C S hL 1 (by decide) (by omega) rfl rfl dL_law_737 dL_law_738 dL_law_739 dL_law_740 dL_law_741 ?_
  refine xarg C S hL 2 (by decide) (by omega) rfl rfl dL_law_742 dL_law_743 dL_law_744 dL_law_745 dL_law_746 ?_
  refine xarg C S hL 3 (by decide) (by omega) rfl rfl dL_law_747 dL_law_748 dL_law_749 dL_law_750 dL_law_751 ?_
  refine xrot ?_
  refine xcallV (As := [.int (xs (i + 1)), .int (xs (i + 2)), .int (xs (i + 3))]) (rest := [.long z]) C (c_X6_alike hI hM (xs (i + 1)) (xs (i + 2)) (xs (i + 3))) 0 rfl rfl xml_L_112 xim_X6_alike xse_X6_alike xin_X6 xco_X6_alike ⟨by decide +kernel, by decide +kernel, (show (parseMethodDescriptor yX6_alike.desc).map (fun d => d.parameters.length) = some 3 from by decide +kernel)⟩ ⟨Nat.le_of_ble_eq_true rfl, Nat.le_of_ble_eq_true rfl⟩ ⟨rfl, rfl⟩ ⟨Nat.le_of_ble_eq_true rfl, Nat.le_of_ble_eq_true rfl⟩ rfl (Nat.le_of_ble_eq_true rfl) dL_law_752 (fun vE wE hE => ?_)
  obtain ⟨v2, rfl, I2, F2, rfl, hv, hM1⟩ := hE
  rw [hz] at hv
  subst hv
  refine xrot ?_
  refine xeq (st' := [.long z, .long z]) rfl rfl rfl rfl ?_
  refine xlcmp C dL_law_755 ?_
  refine xif_eq C 817 dL_law_756 (by decide) (fun _ => ?_) (fun h => absurd ((lg_cmp_eq z z).mpr rfl) h)
  exact hN _ I1 F1 L1 I2 F2 (iv_alike hI _ _ _) hX1 hM1
theorem lc_23 (C : XK X l D t cL_law RL room_1 4) (S : XS X b L xs) (hi : i + 4 ≤ L) (hL : L ≤ 2048) (hN : ∀ σ, LWS X t a m b i σ 817) : ∀ σ, LWS X t a m b i σ 761 := by
  intro σ I F Lg I' F' hI hX hM
  obtain ⟨K, sd, hd, dk, dw, mt⟩ := σ
  obtain ⟨z, hz⟩ := isI_told (K := K) (sd := sd) (hd := hd) (dk := dk) (dw := dw) (mt := mt) (xs (i + 1))
  refine xaload_n C 2 rfl dL_law_761 ?_
  refine xarg C S hL 1 (by decide) (by omega) rfl rfl dL_law_762 dL_law_763 dL_law_764 dL_law_765 dL_law_766 ?_
  refine xcallV (As := [.int (xs (i + 1))]) (rest := []) C (c_X5_told hI hX (xs (i + 1))) 0 rfl rfl xml_L_113 xim_X5_told xse_X5_told xin_X5 xco_X5_told ⟨by decide +kernel, by decide +kernel, (show (parseMethodDescriptor yX5_told.desc).map (fun d => d.parameters.length) = some 1 from by decide +kernel)⟩ ⟨Nat.le_of_ble_eq_true rfl, Nat.le_of_ble_eq_true rfl⟩ ⟨rfl, rfl⟩ ⟨Nat.le_of_ble_eq_true rfl, Nat.le_of_ble_eq_true rfl⟩ rfl (Nat.le_of_ble_eq_true rfl) dL_law_767 (fun vE wE hE => ?_)
  obtain ⟨v1, rfl, I1, F1, L1, rfl, hv, hX1⟩ := hE
  rw [hz] at hv
  subst hv
  refine xaload_n C 1 rfl dL_law_770 ?_
  refine xarg C S hL 1 (by decide) (by omega) rfl rfl dL_law_771 dL_law_772 dL_law_773 dL_law_774 dL_law_775 ?_
  refine xrot ?_
  refine xcallV (As := [.int (xs (i + 1))]) (rest := [.int z]) C (c_X6_told hI hM (xs (i + 1))) 0 rfl rfl xml_L_116 xim_X6_told xse_X6_told xin_X6 xco_X6_told ⟨by decide +kernel, by decide +kernel, (show (parseMethodDescriptor yX6_told.desc).map (fun d => d.parameters.length) = some 1 from by decide +kernel)⟩ ⟨Nat.le_of_ble_eq_true rfl, Nat.le_of_ble_eq_true rfl⟩ ⟨rfl, rfl⟩ ⟨Nat.le_of_ble_eq_true rfl, Nat.le_of_ble_eq_true rfl⟩ rfl (Nat.le_of_ble_eq_true rfl) dL_law_776 (fun vE wE hE => ?_)
  obtain ⟨v2, rfl, I2, F2, rfl, hv, hM1⟩ := hE
  rw [hz] at hv
  subst hv
  refine xrot ?_
  refine xeq (st' := [.int z, .int z]) rfl rfl rfl rfl ?_
  refine xicmp_eq C 817 dL_law_779 (by decide) (fun _ => ?_) (fun h => absurd rfl h)
  exact hN _ I1 F1 L1 I2 F2 (iv_told hI _) hX1 hM1
theorem lc_24 (C : XK X l D t cL_law RL room_1 4) (S : XS X b L xs) (hi : i + 4 ≤ L) (hL : L ≤ 2048) (hN : ∀ σ, LWS X t a m b i σ 817) : ∀ σ, LWS X t a m b i σ 784 := by
  intro σ I F Lg I' F' hI hX hM
  obtain ⟨K, sd, hd, dk, dw, mt⟩ := σ
  obtain ⟨z, hz⟩ := isI_about (K := K) (sd := sd) (hd := hd) (dk := dk) (dw := dw) (mt := mt) (xs (i + 1)) (xs (i + 2))
  refine xaload_n C 2 rfl dL_law_784 ?_
  refine xarg C S hL 1 (by decide) (by omega) rfl rfl dL_law_785 dL_law_786 dL_law_787 dL_law_788 dL_law_789 ?_
  refine xarg C S hL 2 (by decide) (by omega) rfl rfl dL_law_790 dL_law_791 dL_law_792 dL_law_793 dL_law_794 ?_
  refine xcallV (As := [.int (xs (i + 1)), .int (xs (i + 2))]) (rest := []) C (c_X5_about hI hX (xs (i + 1)) (xs (i + 2))) 0 rfl rfl xml_L_117 xim_X5_about xse_X5_about xin_X5 xco_X5_about ⟨by decide +kernel, by decide +kernel, (show (parseMethodDescriptor yX5_about.desc).map (fun d => d.parameters.length) = some 2 from by decide +kernel)⟩ ⟨Nat.le_of_ble_eq_true rfl, Nat.le_of_ble_eq_true rfl⟩ ⟨rfl, rfl⟩ ⟨Nat.le_of_ble_eq_true rfl, Nat.le_of_ble_eq_true rfl⟩ rfl (Nat.le_of_ble_eq_true rfl) dL_law_795 (fun vE wE hE => ?_)
  obtain ⟨v1, rfl, I1, F1, L1, rfl, hv, hX1⟩ := hE
  rw [hz] at hv
  subst hv
  refine xaload_n C 1 rfl dL_law_798 ?_
  refine xarg C S hL 1 (by decide) (by omega) rfl rfl dL_law_799 dL_law_800 dL_law_801 dL_law_802 dL_law_803 ?_
  refine xarg C S hL 2 (by decide) (by omega) rfl rfl dL_law_804 dL_law_805 dL_law_806 dL_law_807 dL_law_808 ?_
  refine xrot ?_
  refine xcallV (As := [.int (xs (i + 1)), .int (xs (i + 2))]) (rest := [.int z]) C (c_X6_about hI hM (xs (i + 1)) (xs (i + 2))) 0 rfl rfl xml_L_120 xim_X6_about xse_X6_about xin_X6 xco_X6_about ⟨by decide +kernel, by decide +kernel, (show (parseMethodDescriptor yX6_about.desc).map (fun d => d.parameters.length) = some 2 from by decide +kernel)⟩ ⟨Nat.le_of_ble_eq_true rfl, Nat.le_of_ble_eq_true rfl⟩ ⟨rfl, rfl⟩ ⟨Nat.le_of_ble_eq_true rfl, Nat.le_of_ble_eq_true rfl⟩ rfl (Nat.le_of_ble_eq_true rfl) dL_law_809 (fun vE wE hE => ?_)
  obtain ⟨v2, rfl, I2, F2, rfl, hv, hM1⟩ := hE
  rw [hz] at hv
  subst hv
  refine xrot ?_
  refine xeq (st' := [.int z, .int z]) rfl rfl rfl rfl ?_
  refine xicmp_eq C 817 dL_law_812 (by decide) (fun _ => ?_) (fun h => absurd rfl h)
  exact hN _ I1 F1 L1 I2 F2 (iv_about hI _ _) hX1 hM1
end LAWCALLS
