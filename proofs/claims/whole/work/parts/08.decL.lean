/-! DECODE ROWS, by program out of the listing -/
theorem d_L_law_0 : decode I_L_law.2.1 0 = .ok (.new 7, 3) := by decide +kernel
theorem d_L_law_3 : decode I_L_law.2.1 3 = .ok (.dup, 1) := by decide +kernel
theorem d_L_law_4 : decode I_L_law.2.1 4 = .ok (.invokespecial 9, 3) := by decide +kernel
theorem d_L_law_7 : decode I_L_law.2.1 7 = .ok (.astore_n 1, 1) := by decide +kernel
theorem d_L_law_8 : decode I_L_law.2.1 8 = .ok (.new 10, 3) := by decide +kernel
theorem d_L_law_11 : decode I_L_law.2.1 11 = .ok (.dup, 1) := by decide +kernel
theorem d_L_law_12 : decode I_L_law.2.1 12 = .ok (.invokespecial 12, 3) := by decide +kernel
theorem d_L_law_15 : decode I_L_law.2.1 15 = .ok (.astore_n 2, 1) := by decide +kernel
theorem d_L_law_16 : decode I_L_law.2.1 16 = .ok (.iconst 0, 1) := by decide +kernel
theorem d_L_law_17 : decode I_L_law.2.1 17 = .ok (.istore_n 3, 1) := by decide +kernel
theorem d_L_law_18 : decode I_L_law.2.1 18 = .ok (.iload_n 3, 1) := by decide +kernel
theorem d_L_law_19 : decode I_L_law.2.1 19 = .ok (.aload_n 0, 1) := by decide +kernel
theorem d_L_law_20 : decode I_L_law.2.1 20 = .ok (.arraylength, 1) := by decide +kernel
theorem d_L_law_21 : decode I_L_law.2.1 21 = .ok (.bipush 6, 2) := by decide +kernel
theorem d_L_law_23 : decode I_L_law.2.1 23 = .ok (.isub, 1) := by decide +kernel
theorem d_L_law_24 : decode I_L_law.2.1 24 = .ok (.if_icmp .gt 1241, 3) := by decide +kernel
theorem d_L_law_27 : decode I_L_law.2.1 27 = .ok (.aload_n 0, 1) := by decide +kernel
theorem d_L_law_28 : decode I_L_law.2.1 28 = .ok (.iload_n 3, 1) := by decide +kernel
theorem d_L_law_29 : decode I_L_law.2.1 29 = .ok (.iaload, 1) := by decide +kernel
theorem d_L_law_30 : decode I_L_law.2.1 30 = .ok (.bipush 63, 2) := by decide +kernel
theorem d_L_law_32 : decode I_L_law.2.1 32 = .ok (.iand, 1) := by decide +kernel
theorem d_L_law_33 : decode I_L_law.2.1 33 = .ok (.tableswitch 1226 0 33 #[151, 174, 187, 200, 213, 246, 289, 322, 365, 378, 401, 444, 477, 521, 544, 557, 570, 613, 666, 699, 712, 735, 768, 781, 835, 888, 931, 974, 997, 1050, 1093, 1156, 1189, 1212], 151) := by decide +kernel
theorem d_L_law_184 : decode I_L_law.2.1 184 = .ok (.aload_n 1, 1) := by decide +kernel
theorem d_L_law_185 : decode I_L_law.2.1 185 = .ok (.aload_n 0, 1) := by decide +kernel
theorem d_L_law_186 : decode I_L_law.2.1 186 = .ok (.iload_n 3, 1) := by decide +kernel
theorem d_L_law_187 : decode I_L_law.2.1 187 = .ok (.iconst 1, 1) := by decide +kernel
theorem d_L_law_188 : decode I_L_law.2.1 188 = .ok (.iadd, 1) := by decide +kernel
theorem d_L_law_189 : decode I_L_law.2.1 189 = .ok (.iaload, 1) := by decide +kernel
theorem d_L_law_190 : decode I_L_law.2.1 190 = .ok (.invokevirtual 13, 3) := by decide +kernel
theorem d_L_law_193 : decode I_L_law.2.1 193 = .ok (.aload_n 2, 1) := by decide +kernel
theorem d_L_law_194 : decode I_L_law.2.1 194 = .ok (.aload_n 0, 1) := by decide +kernel
theorem d_L_law_195 : decode I_L_law.2.1 195 = .ok (.iload_n 3, 1) := by decide +kernel
theorem d_L_law_196 : decode I_L_law.2.1 196 = .ok (.iconst 1, 1) := by decide +kernel
theorem d_L_law_197 : decode I_L_law.2.1 197 = .ok (.iadd, 1) := by decide +kernel
theorem d_L_law_198 : decode I_L_law.2.1 198 = .ok (.iaload, 1) := by decide +kernel
theorem d_L_law_199 : decode I_L_law.2.1 199 = .ok (.invokevirtual 17, 3) := by decide +kernel
theorem d_L_law_202 : decode I_L_law.2.1 202 = .ok (.if_icmp .eq 1057, 3) := by decide +kernel
theorem d_L_law_205 : decode I_L_law.2.1 205 = .ok (.iconst 0, 1) := by decide +kernel
theorem d_L_law_206 : decode I_L_law.2.1 206 = .ok (.ireturn, 1) := by decide +kernel
theorem d_L_law_207 : decode I_L_law.2.1 207 = .ok (.aload_n 1, 1) := by decide +kernel
theorem d_L_law_208 : decode I_L_law.2.1 208 = .ok (.invokevirtual 18, 3) := by decide +kernel
theorem d_L_law_211 : decode I_L_law.2.1 211 = .ok (.aload_n 2, 1) := by decide +kernel
theorem d_L_law_212 : decode I_L_law.2.1 212 = .ok (.invokevirtual 22, 3) := by decide +kernel
theorem d_L_law_215 : decode I_L_law.2.1 215 = .ok (.if_icmp .eq 1044, 3) := by decide +kernel
theorem d_L_law_218 : decode I_L_law.2.1 218 = .ok (.iconst 0, 1) := by decide +kernel
theorem d_L_law_219 : decode I_L_law.2.1 219 = .ok (.ireturn, 1) := by decide +kernel
theorem d_L_law_220 : decode I_L_law.2.1 220 = .ok (.aload_n 1, 1) := by decide +kernel
theorem d_L_law_221 : decode I_L_law.2.1 221 = .ok (.invokevirtual 23, 3) := by decide +kernel
theorem d_L_law_224 : decode I_L_law.2.1 224 = .ok (.aload_n 2, 1) := by decide +kernel
theorem d_L_law_225 : decode I_L_law.2.1 225 = .ok (.invokevirtual 26, 3) := by decide +kernel
theorem d_L_law_228 : decode I_L_law.2.1 228 = .ok (.if_icmp .eq 1031, 3) := by decide +kernel
theorem d_L_law_231 : decode I_L_law.2.1 231 = .ok (.iconst 0, 1) := by decide +kernel
theorem d_L_law_232 : decode I_L_law.2.1 232 = .ok (.ireturn, 1) := by decide +kernel
theorem d_L_law_233 : decode I_L_law.2.1 233 = .ok (.aload_n 1, 1) := by decide +kernel
theorem d_L_law_234 : decode I_L_law.2.1 234 = .ok (.invokevirtual 27, 3) := by decide +kernel
theorem d_L_law_237 : decode I_L_law.2.1 237 = .ok (.aload_n 2, 1) := by decide +kernel
theorem d_L_law_238 : decode I_L_law.2.1 238 = .ok (.invokevirtual 30, 3) := by decide +kernel
theorem d_L_law_241 : decode I_L_law.2.1 241 = .ok (.if_icmp .eq 1018, 3) := by decide +kernel
theorem d_L_law_244 : decode I_L_law.2.1 244 = .ok (.iconst 0, 1) := by decide +kernel
theorem d_L_law_245 : decode I_L_law.2.1 245 = .ok (.ireturn, 1) := by decide +kernel
theorem d_L_law_246 : decode I_L_law.2.1 246 = .ok (.aload_n 1, 1) := by decide +kernel
theorem d_L_law_247 : decode I_L_law.2.1 247 = .ok (.aload_n 0, 1) := by decide +kernel
theorem d_L_law_248 : decode I_L_law.2.1 248 = .ok (.iload_n 3, 1) := by decide +kernel
theorem d_L_law_249 : decode I_L_law.2.1 249 = .ok (.iconst 1, 1) := by decide +kernel
theorem d_L_law_250 : decode I_L_law.2.1 250 = .ok (.iadd, 1) := by decide +kernel
theorem d_L_law_251 : decode I_L_law.2.1 251 = .ok (.iaload, 1) := by decide +kernel
theorem d_L_law_252 : decode I_L_law.2.1 252 = .ok (.aload_n 0, 1) := by decide +kernel
theorem d_L_law_253 : decode I_L_law.2.1 253 = .ok (.iload_n 3, 1) := by decide +kernel
theorem d_L_law_254 : decode I_L_law.2.1 254 = .ok (.iconst 2, 1) := by decide +kernel
theorem d_L_law_255 : decode I_L_law.2.1 255 = .ok (.iadd, 1) := by decide +kernel
theorem d_L_law_256 : decode I_L_law.2.1 256 = .ok (.iaload, 1) := by decide +kernel
theorem d_L_law_257 : decode I_L_law.2.1 257 = .ok (.invokevirtual 31, 3) := by decide +kernel
theorem d_L_law_260 : decode I_L_law.2.1 260 = .ok (.aload_n 2, 1) := by decide +kernel
theorem d_L_law_261 : decode I_L_law.2.1 261 = .ok (.aload_n 0, 1) := by decide +kernel
theorem d_L_law_262 : decode I_L_law.2.1 262 = .ok (.iload_n 3, 1) := by decide +kernel
theorem d_L_law_263 : decode I_L_law.2.1 263 = .ok (.iconst 1, 1) := by decide +kernel
theorem d_L_law_264 : decode I_L_law.2.1 264 = .ok (.iadd, 1) := by decide +kernel
theorem d_L_law_265 : decode I_L_law.2.1 265 = .ok (.iaload, 1) := by decide +kernel
theorem d_L_law_266 : decode I_L_law.2.1 266 = .ok (.aload_n 0, 1) := by decide +kernel
theorem d_L_law_267 : decode I_L_law.2.1 267 = .ok (.iload_n 3, 1) := by decide +kernel
theorem d_L_law_268 : decode I_L_law.2.1 268 = .ok (.iconst 2, 1) := by decide +kernel
theorem d_L_law_269 : decode I_L_law.2.1 269 = .ok (.iadd, 1) := by decide +kernel
theorem d_L_law_270 : decode I_L_law.2.1 270 = .ok (.iaload, 1) := by decide +kernel
theorem d_L_law_271 : decode I_L_law.2.1 271 = .ok (.invokevirtual 35, 3) := by decide +kernel
theorem d_L_law_274 : decode I_L_law.2.1 274 = .ok (.if_icmp .eq 985, 3) := by decide +kernel
theorem d_L_law_277 : decode I_L_law.2.1 277 = .ok (.iconst 0, 1) := by decide +kernel
theorem d_L_law_278 : decode I_L_law.2.1 278 = .ok (.ireturn, 1) := by decide +kernel
theorem d_L_law_279 : decode I_L_law.2.1 279 = .ok (.aload_n 1, 1) := by decide +kernel
theorem d_L_law_280 : decode I_L_law.2.1 280 = .ok (.aload_n 0, 1) := by decide +kernel
theorem d_L_law_281 : decode I_L_law.2.1 281 = .ok (.iload_n 3, 1) := by decide +kernel
theorem d_L_law_282 : decode I_L_law.2.1 282 = .ok (.iconst 1, 1) := by decide +kernel
theorem d_L_law_283 : decode I_L_law.2.1 283 = .ok (.iadd, 1) := by decide +kernel
theorem d_L_law_284 : decode I_L_law.2.1 284 = .ok (.iaload, 1) := by decide +kernel
theorem d_L_law_285 : decode I_L_law.2.1 285 = .ok (.aload_n 0, 1) := by decide +kernel
theorem d_L_law_286 : decode I_L_law.2.1 286 = .ok (.iload_n 3, 1) := by decide +kernel
theorem d_L_law_287 : decode I_L_law.2.1 287 = .ok (.iconst 2, 1) := by decide +kernel
theorem d_L_law_288 : decode I_L_law.2.1 288 = .ok (.iadd, 1) := by decide +kernel
theorem d_L_law_289 : decode I_L_law.2.1 289 = .ok (.iaload, 1) := by decide +kernel
theorem d_L_law_290 : decode I_L_law.2.1 290 = .ok (.aload_n 0, 1) := by decide +kernel
theorem d_L_law_291 : decode I_L_law.2.1 291 = .ok (.iload_n 3, 1) := by decide +kernel
theorem d_L_law_292 : decode I_L_law.2.1 292 = .ok (.iconst 3, 1) := by decide +kernel
theorem d_L_law_293 : decode I_L_law.2.1 293 = .ok (.iadd, 1) := by decide +kernel
theorem d_L_law_294 : decode I_L_law.2.1 294 = .ok (.iaload, 1) := by decide +kernel
theorem d_L_law_295 : decode I_L_law.2.1 295 = .ok (.invokevirtual 36, 3) := by decide +kernel
theorem d_L_law_298 : decode I_L_law.2.1 298 = .ok (.aload_n 2, 1) := by decide +kernel
theorem d_L_law_299 : decode I_L_law.2.1 299 = .ok (.aload_n 0, 1) := by decide +kernel
theorem d_L_law_300 : decode I_L_law.2.1 300 = .ok (.iload_n 3, 1) := by decide +kernel
theorem d_L_law_301 : decode I_L_law.2.1 301 = .ok (.iconst 1, 1) := by decide +kernel
theorem d_L_law_302 : decode I_L_law.2.1 302 = .ok (.iadd, 1) := by decide +kernel
theorem d_L_law_303 : decode I_L_law.2.1 303 = .ok (.iaload, 1) := by decide +kernel
theorem d_L_law_304 : decode I_L_law.2.1 304 = .ok (.aload_n 0, 1) := by decide +kernel
theorem d_L_law_305 : decode I_L_law.2.1 305 = .ok (.iload_n 3, 1) := by decide +kernel
theorem d_L_law_306 : decode I_L_law.2.1 306 = .ok (.iconst 2, 1) := by decide +kernel
theorem d_L_law_307 : decode I_L_law.2.1 307 = .ok (.iadd, 1) := by decide +kernel
theorem d_L_law_308 : decode I_L_law.2.1 308 = .ok (.iaload, 1) := by decide +kernel
theorem d_L_law_309 : decode I_L_law.2.1 309 = .ok (.aload_n 0, 1) := by decide +kernel
theorem d_L_law_310 : decode I_L_law.2.1 310 = .ok (.iload_n 3, 1) := by decide +kernel
theorem d_L_law_311 : decode I_L_law.2.1 311 = .ok (.iconst 3, 1) := by decide +kernel
theorem d_L_law_312 : decode I_L_law.2.1 312 = .ok (.iadd, 1) := by decide +kernel
theorem d_L_law_313 : decode I_L_law.2.1 313 = .ok (.iaload, 1) := by decide +kernel
theorem d_L_law_314 : decode I_L_law.2.1 314 = .ok (.invokevirtual 40, 3) := by decide +kernel
theorem d_L_law_317 : decode I_L_law.2.1 317 = .ok (.if_icmp .eq 942, 3) := by decide +kernel
theorem d_L_law_320 : decode I_L_law.2.1 320 = .ok (.iconst 0, 1) := by decide +kernel
theorem d_L_law_321 : decode I_L_law.2.1 321 = .ok (.ireturn, 1) := by decide +kernel
theorem d_L_law_322 : decode I_L_law.2.1 322 = .ok (.aload_n 1, 1) := by decide +kernel
theorem d_L_law_323 : decode I_L_law.2.1 323 = .ok (.aload_n 0, 1) := by decide +kernel
theorem d_L_law_324 : decode I_L_law.2.1 324 = .ok (.iload_n 3, 1) := by decide +kernel
theorem d_L_law_325 : decode I_L_law.2.1 325 = .ok (.iconst 1, 1) := by decide +kernel
theorem d_L_law_326 : decode I_L_law.2.1 326 = .ok (.iadd, 1) := by decide +kernel
theorem d_L_law_327 : decode I_L_law.2.1 327 = .ok (.iaload, 1) := by decide +kernel
theorem d_L_law_328 : decode I_L_law.2.1 328 = .ok (.aload_n 0, 1) := by decide +kernel
theorem d_L_law_329 : decode I_L_law.2.1 329 = .ok (.iload_n 3, 1) := by decide +kernel
theorem d_L_law_330 : decode I_L_law.2.1 330 = .ok (.iconst 2, 1) := by decide +kernel
theorem d_L_law_331 : decode I_L_law.2.1 331 = .ok (.iadd, 1) := by decide +kernel
theorem d_L_law_332 : decode I_L_law.2.1 332 = .ok (.iaload, 1) := by decide +kernel
theorem d_L_law_333 : decode I_L_law.2.1 333 = .ok (.invokevirtual 41, 3) := by decide +kernel
theorem d_L_law_336 : decode I_L_law.2.1 336 = .ok (.aload_n 2, 1) := by decide +kernel
theorem d_L_law_337 : decode I_L_law.2.1 337 = .ok (.aload_n 0, 1) := by decide +kernel
theorem d_L_law_338 : decode I_L_law.2.1 338 = .ok (.iload_n 3, 1) := by decide +kernel
theorem d_L_law_339 : decode I_L_law.2.1 339 = .ok (.iconst 1, 1) := by decide +kernel
theorem d_L_law_340 : decode I_L_law.2.1 340 = .ok (.iadd, 1) := by decide +kernel
theorem d_L_law_341 : decode I_L_law.2.1 341 = .ok (.iaload, 1) := by decide +kernel
theorem d_L_law_342 : decode I_L_law.2.1 342 = .ok (.aload_n 0, 1) := by decide +kernel
theorem d_L_law_343 : decode I_L_law.2.1 343 = .ok (.iload_n 3, 1) := by decide +kernel
theorem d_L_law_344 : decode I_L_law.2.1 344 = .ok (.iconst 2, 1) := by decide +kernel
theorem d_L_law_345 : decode I_L_law.2.1 345 = .ok (.iadd, 1) := by decide +kernel
theorem d_L_law_346 : decode I_L_law.2.1 346 = .ok (.iaload, 1) := by decide +kernel
theorem d_L_law_347 : decode I_L_law.2.1 347 = .ok (.invokevirtual 44, 3) := by decide +kernel
theorem d_L_law_350 : decode I_L_law.2.1 350 = .ok (.if_icmp .eq 909, 3) := by decide +kernel
theorem d_L_law_353 : decode I_L_law.2.1 353 = .ok (.iconst 0, 1) := by decide +kernel
theorem d_L_law_354 : decode I_L_law.2.1 354 = .ok (.ireturn, 1) := by decide +kernel
theorem d_L_law_355 : decode I_L_law.2.1 355 = .ok (.aload_n 1, 1) := by decide +kernel
theorem d_L_law_356 : decode I_L_law.2.1 356 = .ok (.aload_n 0, 1) := by decide +kernel
theorem d_L_law_357 : decode I_L_law.2.1 357 = .ok (.iload_n 3, 1) := by decide +kernel
theorem d_L_law_358 : decode I_L_law.2.1 358 = .ok (.iconst 1, 1) := by decide +kernel
theorem d_L_law_359 : decode I_L_law.2.1 359 = .ok (.iadd, 1) := by decide +kernel
theorem d_L_law_360 : decode I_L_law.2.1 360 = .ok (.iaload, 1) := by decide +kernel
theorem d_L_law_361 : decode I_L_law.2.1 361 = .ok (.aload_n 0, 1) := by decide +kernel
theorem d_L_law_362 : decode I_L_law.2.1 362 = .ok (.iload_n 3, 1) := by decide +kernel
theorem d_L_law_363 : decode I_L_law.2.1 363 = .ok (.iconst 2, 1) := by decide +kernel
theorem d_L_law_364 : decode I_L_law.2.1 364 = .ok (.iadd, 1) := by decide +kernel
theorem d_L_law_365 : decode I_L_law.2.1 365 = .ok (.iaload, 1) := by decide +kernel
theorem d_L_law_366 : decode I_L_law.2.1 366 = .ok (.aload_n 0, 1) := by decide +kernel
theorem d_L_law_367 : decode I_L_law.2.1 367 = .ok (.iload_n 3, 1) := by decide +kernel
theorem d_L_law_368 : decode I_L_law.2.1 368 = .ok (.iconst 3, 1) := by decide +kernel
theorem d_L_law_369 : decode I_L_law.2.1 369 = .ok (.iadd, 1) := by decide +kernel
theorem d_L_law_370 : decode I_L_law.2.1 370 = .ok (.iaload, 1) := by decide +kernel
theorem d_L_law_371 : decode I_L_law.2.1 371 = .ok (.invokevirtual 45, 3) := by decide +kernel
theorem d_L_law_374 : decode I_L_law.2.1 374 = .ok (.aload_n 2, 1) := by decide +kernel
theorem d_L_law_375 : decode I_L_law.2.1 375 = .ok (.aload_n 0, 1) := by decide +kernel
theorem d_L_law_376 : decode I_L_law.2.1 376 = .ok (.iload_n 3, 1) := by decide +kernel
theorem d_L_law_377 : decode I_L_law.2.1 377 = .ok (.iconst 1, 1) := by decide +kernel
theorem d_L_law_378 : decode I_L_law.2.1 378 = .ok (.iadd, 1) := by decide +kernel
theorem d_L_law_379 : decode I_L_law.2.1 379 = .ok (.iaload, 1) := by decide +kernel
theorem d_L_law_380 : decode I_L_law.2.1 380 = .ok (.aload_n 0, 1) := by decide +kernel
theorem d_L_law_381 : decode I_L_law.2.1 381 = .ok (.iload_n 3, 1) := by decide +kernel
theorem d_L_law_382 : decode I_L_law.2.1 382 = .ok (.iconst 2, 1) := by decide +kernel
theorem d_L_law_383 : decode I_L_law.2.1 383 = .ok (.iadd, 1) := by decide +kernel
theorem d_L_law_384 : decode I_L_law.2.1 384 = .ok (.iaload, 1) := by decide +kernel
theorem d_L_law_385 : decode I_L_law.2.1 385 = .ok (.aload_n 0, 1) := by decide +kernel
theorem d_L_law_386 : decode I_L_law.2.1 386 = .ok (.iload_n 3, 1) := by decide +kernel
theorem d_L_law_387 : decode I_L_law.2.1 387 = .ok (.iconst 3, 1) := by decide +kernel
theorem d_L_law_388 : decode I_L_law.2.1 388 = .ok (.iadd, 1) := by decide +kernel
theorem d_L_law_389 : decode I_L_law.2.1 389 = .ok (.iaload, 1) := by decide +kernel
theorem d_L_law_390 : decode I_L_law.2.1 390 = .ok (.invokevirtual 48, 3) := by decide +kernel
theorem d_L_law_393 : decode I_L_law.2.1 393 = .ok (.if_icmp .eq 866, 3) := by decide +kernel
theorem d_L_law_396 : decode I_L_law.2.1 396 = .ok (.iconst 0, 1) := by decide +kernel
theorem d_L_law_397 : decode I_L_law.2.1 397 = .ok (.ireturn, 1) := by decide +kernel
theorem d_L_law_398 : decode I_L_law.2.1 398 = .ok (.aload_n 1, 1) := by decide +kernel
theorem d_L_law_399 : decode I_L_law.2.1 399 = .ok (.invokevirtual 49, 3) := by decide +kernel
theorem d_L_law_402 : decode I_L_law.2.1 402 = .ok (.aload_n 2, 1) := by decide +kernel
theorem d_L_law_403 : decode I_L_law.2.1 403 = .ok (.invokevirtual 52, 3) := by decide +kernel
theorem d_L_law_406 : decode I_L_law.2.1 406 = .ok (.if_icmp .eq 853, 3) := by decide +kernel
theorem d_L_law_409 : decode I_L_law.2.1 409 = .ok (.iconst 0, 1) := by decide +kernel
theorem d_L_law_410 : decode I_L_law.2.1 410 = .ok (.ireturn, 1) := by decide +kernel
theorem d_L_law_411 : decode I_L_law.2.1 411 = .ok (.aload_n 1, 1) := by decide +kernel
theorem d_L_law_412 : decode I_L_law.2.1 412 = .ok (.aload_n 0, 1) := by decide +kernel
theorem d_L_law_413 : decode I_L_law.2.1 413 = .ok (.iload_n 3, 1) := by decide +kernel
theorem d_L_law_414 : decode I_L_law.2.1 414 = .ok (.iconst 1, 1) := by decide +kernel
theorem d_L_law_415 : decode I_L_law.2.1 415 = .ok (.iadd, 1) := by decide +kernel
theorem d_L_law_416 : decode I_L_law.2.1 416 = .ok (.iaload, 1) := by decide +kernel
theorem d_L_law_417 : decode I_L_law.2.1 417 = .ok (.invokevirtual 53, 3) := by decide +kernel
theorem d_L_law_420 : decode I_L_law.2.1 420 = .ok (.aload_n 2, 1) := by decide +kernel
theorem d_L_law_421 : decode I_L_law.2.1 421 = .ok (.aload_n 0, 1) := by decide +kernel
theorem d_L_law_422 : decode I_L_law.2.1 422 = .ok (.iload_n 3, 1) := by decide +kernel
theorem d_L_law_423 : decode I_L_law.2.1 423 = .ok (.iconst 1, 1) := by decide +kernel
theorem d_L_law_424 : decode I_L_law.2.1 424 = .ok (.iadd, 1) := by decide +kernel
theorem d_L_law_425 : decode I_L_law.2.1 425 = .ok (.iaload, 1) := by decide +kernel
theorem d_L_law_426 : decode I_L_law.2.1 426 = .ok (.invokevirtual 56, 3) := by decide +kernel
theorem d_L_law_429 : decode I_L_law.2.1 429 = .ok (.if_icmp .eq 830, 3) := by decide +kernel
theorem d_L_law_432 : decode I_L_law.2.1 432 = .ok (.iconst 0, 1) := by decide +kernel
theorem d_L_law_433 : decode I_L_law.2.1 433 = .ok (.ireturn, 1) := by decide +kernel
theorem d_L_law_434 : decode I_L_law.2.1 434 = .ok (.aload_n 1, 1) := by decide +kernel
theorem d_L_law_435 : decode I_L_law.2.1 435 = .ok (.aload_n 0, 1) := by decide +kernel
theorem d_L_law_436 : decode I_L_law.2.1 436 = .ok (.iload_n 3, 1) := by decide +kernel
theorem d_L_law_437 : decode I_L_law.2.1 437 = .ok (.iconst 1, 1) := by decide +kernel
theorem d_L_law_438 : decode I_L_law.2.1 438 = .ok (.iadd, 1) := by decide +kernel
theorem d_L_law_439 : decode I_L_law.2.1 439 = .ok (.iaload, 1) := by decide +kernel
theorem d_L_law_440 : decode I_L_law.2.1 440 = .ok (.aload_n 0, 1) := by decide +kernel
theorem d_L_law_441 : decode I_L_law.2.1 441 = .ok (.iload_n 3, 1) := by decide +kernel
theorem d_L_law_442 : decode I_L_law.2.1 442 = .ok (.iconst 2, 1) := by decide +kernel
theorem d_L_law_443 : decode I_L_law.2.1 443 = .ok (.iadd, 1) := by decide +kernel
theorem d_L_law_444 : decode I_L_law.2.1 444 = .ok (.iaload, 1) := by decide +kernel
theorem d_L_law_445 : decode I_L_law.2.1 445 = .ok (.aload_n 0, 1) := by decide +kernel
theorem d_L_law_446 : decode I_L_law.2.1 446 = .ok (.iload_n 3, 1) := by decide +kernel
theorem d_L_law_447 : decode I_L_law.2.1 447 = .ok (.iconst 3, 1) := by decide +kernel
theorem d_L_law_448 : decode I_L_law.2.1 448 = .ok (.iadd, 1) := by decide +kernel
theorem d_L_law_449 : decode I_L_law.2.1 449 = .ok (.iaload, 1) := by decide +kernel
theorem d_L_law_450 : decode I_L_law.2.1 450 = .ok (.invokevirtual 57, 3) := by decide +kernel
theorem d_L_law_453 : decode I_L_law.2.1 453 = .ok (.aload_n 2, 1) := by decide +kernel
theorem d_L_law_454 : decode I_L_law.2.1 454 = .ok (.aload_n 0, 1) := by decide +kernel
theorem d_L_law_455 : decode I_L_law.2.1 455 = .ok (.iload_n 3, 1) := by decide +kernel
theorem d_L_law_456 : decode I_L_law.2.1 456 = .ok (.iconst 1, 1) := by decide +kernel
theorem d_L_law_457 : decode I_L_law.2.1 457 = .ok (.iadd, 1) := by decide +kernel
theorem d_L_law_458 : decode I_L_law.2.1 458 = .ok (.iaload, 1) := by decide +kernel
theorem d_L_law_459 : decode I_L_law.2.1 459 = .ok (.aload_n 0, 1) := by decide +kernel
theorem d_L_law_460 : decode I_L_law.2.1 460 = .ok (.iload_n 3, 1) := by decide +kernel
theorem d_L_law_461 : decode I_L_law.2.1 461 = .ok (.iconst 2, 1) := by decide +kernel
theorem d_L_law_462 : decode I_L_law.2.1 462 = .ok (.iadd, 1) := by decide +kernel
theorem d_L_law_463 : decode I_L_law.2.1 463 = .ok (.iaload, 1) := by decide +kernel
theorem d_L_law_464 : decode I_L_law.2.1 464 = .ok (.aload_n 0, 1) := by decide +kernel
theorem d_L_law_465 : decode I_L_law.2.1 465 = .ok (.iload_n 3, 1) := by decide +kernel
theorem d_L_law_466 : decode I_L_law.2.1 466 = .ok (.iconst 3, 1) := by decide +kernel
theorem d_L_law_467 : decode I_L_law.2.1 467 = .ok (.iadd, 1) := by decide +kernel
theorem d_L_law_468 : decode I_L_law.2.1 468 = .ok (.iaload, 1) := by decide +kernel
theorem d_L_law_469 : decode I_L_law.2.1 469 = .ok (.invokevirtual 60, 3) := by decide +kernel
theorem d_L_law_472 : decode I_L_law.2.1 472 = .ok (.if_icmp .eq 787, 3) := by decide +kernel
theorem d_L_law_475 : decode I_L_law.2.1 475 = .ok (.iconst 0, 1) := by decide +kernel
theorem d_L_law_476 : decode I_L_law.2.1 476 = .ok (.ireturn, 1) := by decide +kernel
theorem d_L_law_477 : decode I_L_law.2.1 477 = .ok (.aload_n 1, 1) := by decide +kernel
theorem d_L_law_478 : decode I_L_law.2.1 478 = .ok (.aload_n 0, 1) := by decide +kernel
theorem d_L_law_479 : decode I_L_law.2.1 479 = .ok (.iload_n 3, 1) := by decide +kernel
theorem d_L_law_480 : decode I_L_law.2.1 480 = .ok (.iconst 1, 1) := by decide +kernel
theorem d_L_law_481 : decode I_L_law.2.1 481 = .ok (.iadd, 1) := by decide +kernel
theorem d_L_law_482 : decode I_L_law.2.1 482 = .ok (.iaload, 1) := by decide +kernel
theorem d_L_law_483 : decode I_L_law.2.1 483 = .ok (.aload_n 0, 1) := by decide +kernel
theorem d_L_law_484 : decode I_L_law.2.1 484 = .ok (.iload_n 3, 1) := by decide +kernel
theorem d_L_law_485 : decode I_L_law.2.1 485 = .ok (.iconst 2, 1) := by decide +kernel
theorem d_L_law_486 : decode I_L_law.2.1 486 = .ok (.iadd, 1) := by decide +kernel
theorem d_L_law_487 : decode I_L_law.2.1 487 = .ok (.iaload, 1) := by decide +kernel
theorem d_L_law_488 : decode I_L_law.2.1 488 = .ok (.invokevirtual 61, 3) := by decide +kernel
theorem d_L_law_491 : decode I_L_law.2.1 491 = .ok (.aload_n 2, 1) := by decide +kernel
theorem d_L_law_492 : decode I_L_law.2.1 492 = .ok (.aload_n 0, 1) := by decide +kernel
theorem d_L_law_493 : decode I_L_law.2.1 493 = .ok (.iload_n 3, 1) := by decide +kernel
theorem d_L_law_494 : decode I_L_law.2.1 494 = .ok (.iconst 1, 1) := by decide +kernel
theorem d_L_law_495 : decode I_L_law.2.1 495 = .ok (.iadd, 1) := by decide +kernel
theorem d_L_law_496 : decode I_L_law.2.1 496 = .ok (.iaload, 1) := by decide +kernel
theorem d_L_law_497 : decode I_L_law.2.1 497 = .ok (.aload_n 0, 1) := by decide +kernel
theorem d_L_law_498 : decode I_L_law.2.1 498 = .ok (.iload_n 3, 1) := by decide +kernel
theorem d_L_law_499 : decode I_L_law.2.1 499 = .ok (.iconst 2, 1) := by decide +kernel
theorem d_L_law_500 : decode I_L_law.2.1 500 = .ok (.iadd, 1) := by decide +kernel
theorem d_L_law_501 : decode I_L_law.2.1 501 = .ok (.iaload, 1) := by decide +kernel
theorem d_L_law_502 : decode I_L_law.2.1 502 = .ok (.invokevirtual 64, 3) := by decide +kernel
theorem d_L_law_505 : decode I_L_law.2.1 505 = .ok (.if_icmp .eq 754, 3) := by decide +kernel
theorem d_L_law_508 : decode I_L_law.2.1 508 = .ok (.iconst 0, 1) := by decide +kernel
theorem d_L_law_509 : decode I_L_law.2.1 509 = .ok (.ireturn, 1) := by decide +kernel
theorem d_L_law_510 : decode I_L_law.2.1 510 = .ok (.aload_n 1, 1) := by decide +kernel
theorem d_L_law_511 : decode I_L_law.2.1 511 = .ok (.aload_n 0, 1) := by decide +kernel
theorem d_L_law_512 : decode I_L_law.2.1 512 = .ok (.iload_n 3, 1) := by decide +kernel
theorem d_L_law_513 : decode I_L_law.2.1 513 = .ok (.iconst 1, 1) := by decide +kernel
theorem d_L_law_514 : decode I_L_law.2.1 514 = .ok (.iadd, 1) := by decide +kernel
theorem d_L_law_515 : decode I_L_law.2.1 515 = .ok (.iaload, 1) := by decide +kernel
theorem d_L_law_516 : decode I_L_law.2.1 516 = .ok (.aload_n 0, 1) := by decide +kernel
theorem d_L_law_517 : decode I_L_law.2.1 517 = .ok (.iload_n 3, 1) := by decide +kernel
theorem d_L_law_518 : decode I_L_law.2.1 518 = .ok (.iconst 2, 1) := by decide +kernel
theorem d_L_law_519 : decode I_L_law.2.1 519 = .ok (.iadd, 1) := by decide +kernel
theorem d_L_law_520 : decode I_L_law.2.1 520 = .ok (.iaload, 1) := by decide +kernel
theorem d_L_law_521 : decode I_L_law.2.1 521 = .ok (.aload_n 0, 1) := by decide +kernel
theorem d_L_law_522 : decode I_L_law.2.1 522 = .ok (.iload_n 3, 1) := by decide +kernel
theorem d_L_law_523 : decode I_L_law.2.1 523 = .ok (.iconst 3, 1) := by decide +kernel
theorem d_L_law_524 : decode I_L_law.2.1 524 = .ok (.iadd, 1) := by decide +kernel
theorem d_L_law_525 : decode I_L_law.2.1 525 = .ok (.iaload, 1) := by decide +kernel
theorem d_L_law_526 : decode I_L_law.2.1 526 = .ok (.invokevirtual 65, 3) := by decide +kernel
theorem d_L_law_529 : decode I_L_law.2.1 529 = .ok (.aload_n 2, 1) := by decide +kernel
theorem d_L_law_530 : decode I_L_law.2.1 530 = .ok (.aload_n 0, 1) := by decide +kernel
theorem d_L_law_531 : decode I_L_law.2.1 531 = .ok (.iload_n 3, 1) := by decide +kernel
theorem d_L_law_532 : decode I_L_law.2.1 532 = .ok (.iconst 1, 1) := by decide +kernel
theorem d_L_law_533 : decode I_L_law.2.1 533 = .ok (.iadd, 1) := by decide +kernel
theorem d_L_law_534 : decode I_L_law.2.1 534 = .ok (.iaload, 1) := by decide +kernel
theorem d_L_law_535 : decode I_L_law.2.1 535 = .ok (.aload_n 0, 1) := by decide +kernel
theorem d_L_law_536 : decode I_L_law.2.1 536 = .ok (.iload_n 3, 1) := by decide +kernel
theorem d_L_law_537 : decode I_L_law.2.1 537 = .ok (.iconst 2, 1) := by decide +kernel
theorem d_L_law_538 : decode I_L_law.2.1 538 = .ok (.iadd, 1) := by decide +kernel
theorem d_L_law_539 : decode I_L_law.2.1 539 = .ok (.iaload, 1) := by decide +kernel
theorem d_L_law_540 : decode I_L_law.2.1 540 = .ok (.aload_n 0, 1) := by decide +kernel
theorem d_L_law_541 : decode I_L_law.2.1 541 = .ok (.iload_n 3, 1) := by decide +kernel
theorem d_L_law_542 : decode I_L_law.2.1 542 = .ok (.iconst 3, 1) := by decide +kernel
theorem d_L_law_543 : decode I_L_law.2.1 543 = .ok (.iadd, 1) := by decide +kernel
theorem d_L_law_544 : decode I_L_law.2.1 544 = .ok (.iaload, 1) := by decide +kernel
theorem d_L_law_545 : decode I_L_law.2.1 545 = .ok (.invokevirtual 69, 3) := by decide +kernel
theorem d_L_law_548 : decode I_L_law.2.1 548 = .ok (.lcmp, 1) := by decide +kernel
theorem d_L_law_549 : decode I_L_law.2.1 549 = .ok (.ifCond .eq 710, 3) := by decide +kernel
theorem d_L_law_552 : decode I_L_law.2.1 552 = .ok (.iconst 0, 1) := by decide +kernel
theorem d_L_law_553 : decode I_L_law.2.1 553 = .ok (.ireturn, 1) := by decide +kernel
theorem d_L_law_554 : decode I_L_law.2.1 554 = .ok (.aload_n 1, 1) := by decide +kernel
theorem d_L_law_555 : decode I_L_law.2.1 555 = .ok (.aload_n 0, 1) := by decide +kernel
theorem d_L_law_556 : decode I_L_law.2.1 556 = .ok (.iload_n 3, 1) := by decide +kernel
theorem d_L_law_557 : decode I_L_law.2.1 557 = .ok (.iconst 1, 1) := by decide +kernel
theorem d_L_law_558 : decode I_L_law.2.1 558 = .ok (.iadd, 1) := by decide +kernel
theorem d_L_law_559 : decode I_L_law.2.1 559 = .ok (.iaload, 1) := by decide +kernel
theorem d_L_law_560 : decode I_L_law.2.1 560 = .ok (.invokevirtual 70, 3) := by decide +kernel
theorem d_L_law_563 : decode I_L_law.2.1 563 = .ok (.aload_n 2, 1) := by decide +kernel
theorem d_L_law_564 : decode I_L_law.2.1 564 = .ok (.aload_n 0, 1) := by decide +kernel
theorem d_L_law_565 : decode I_L_law.2.1 565 = .ok (.iload_n 3, 1) := by decide +kernel
theorem d_L_law_566 : decode I_L_law.2.1 566 = .ok (.iconst 1, 1) := by decide +kernel
theorem d_L_law_567 : decode I_L_law.2.1 567 = .ok (.iadd, 1) := by decide +kernel
theorem d_L_law_568 : decode I_L_law.2.1 568 = .ok (.iaload, 1) := by decide +kernel
theorem d_L_law_569 : decode I_L_law.2.1 569 = .ok (.invokevirtual 73, 3) := by decide +kernel
theorem d_L_law_572 : decode I_L_law.2.1 572 = .ok (.if_icmp .eq 687, 3) := by decide +kernel
theorem d_L_law_575 : decode I_L_law.2.1 575 = .ok (.iconst 0, 1) := by decide +kernel
theorem d_L_law_576 : decode I_L_law.2.1 576 = .ok (.ireturn, 1) := by decide +kernel
theorem d_L_law_577 : decode I_L_law.2.1 577 = .ok (.aload_n 1, 1) := by decide +kernel
theorem d_L_law_578 : decode I_L_law.2.1 578 = .ok (.invokevirtual 74, 3) := by decide +kernel
theorem d_L_law_581 : decode I_L_law.2.1 581 = .ok (.aload_n 2, 1) := by decide +kernel
theorem d_L_law_582 : decode I_L_law.2.1 582 = .ok (.invokevirtual 77, 3) := by decide +kernel
theorem d_L_law_585 : decode I_L_law.2.1 585 = .ok (.if_icmp .eq 674, 3) := by decide +kernel
theorem d_L_law_588 : decode I_L_law.2.1 588 = .ok (.iconst 0, 1) := by decide +kernel
theorem d_L_law_589 : decode I_L_law.2.1 589 = .ok (.ireturn, 1) := by decide +kernel
theorem d_L_law_590 : decode I_L_law.2.1 590 = .ok (.aload_n 1, 1) := by decide +kernel
theorem d_L_law_591 : decode I_L_law.2.1 591 = .ok (.invokevirtual 78, 3) := by decide +kernel
theorem d_L_law_594 : decode I_L_law.2.1 594 = .ok (.aload_n 2, 1) := by decide +kernel
theorem d_L_law_595 : decode I_L_law.2.1 595 = .ok (.invokevirtual 81, 3) := by decide +kernel
theorem d_L_law_598 : decode I_L_law.2.1 598 = .ok (.if_icmp .eq 661, 3) := by decide +kernel
theorem d_L_law_601 : decode I_L_law.2.1 601 = .ok (.iconst 0, 1) := by decide +kernel
theorem d_L_law_602 : decode I_L_law.2.1 602 = .ok (.ireturn, 1) := by decide +kernel
theorem d_L_law_603 : decode I_L_law.2.1 603 = .ok (.aload_n 1, 1) := by decide +kernel
theorem d_L_law_604 : decode I_L_law.2.1 604 = .ok (.aload_n 0, 1) := by decide +kernel
theorem d_L_law_605 : decode I_L_law.2.1 605 = .ok (.iload_n 3, 1) := by decide +kernel
theorem d_L_law_606 : decode I_L_law.2.1 606 = .ok (.iconst 1, 1) := by decide +kernel
theorem d_L_law_607 : decode I_L_law.2.1 607 = .ok (.iadd, 1) := by decide +kernel
theorem d_L_law_608 : decode I_L_law.2.1 608 = .ok (.iaload, 1) := by decide +kernel
theorem d_L_law_609 : decode I_L_law.2.1 609 = .ok (.aload_n 0, 1) := by decide +kernel
theorem d_L_law_610 : decode I_L_law.2.1 610 = .ok (.iload_n 3, 1) := by decide +kernel
theorem d_L_law_611 : decode I_L_law.2.1 611 = .ok (.iconst 2, 1) := by decide +kernel
theorem d_L_law_612 : decode I_L_law.2.1 612 = .ok (.iadd, 1) := by decide +kernel
theorem d_L_law_613 : decode I_L_law.2.1 613 = .ok (.iaload, 1) := by decide +kernel
theorem d_L_law_614 : decode I_L_law.2.1 614 = .ok (.aload_n 0, 1) := by decide +kernel
theorem d_L_law_615 : decode I_L_law.2.1 615 = .ok (.iload_n 3, 1) := by decide +kernel
theorem d_L_law_616 : decode I_L_law.2.1 616 = .ok (.iconst 3, 1) := by decide +kernel
theorem d_L_law_617 : decode I_L_law.2.1 617 = .ok (.iadd, 1) := by decide +kernel
theorem d_L_law_618 : decode I_L_law.2.1 618 = .ok (.iaload, 1) := by decide +kernel
theorem d_L_law_619 : decode I_L_law.2.1 619 = .ok (.invokevirtual 82, 3) := by decide +kernel
theorem d_L_law_622 : decode I_L_law.2.1 622 = .ok (.aload_n 2, 1) := by decide +kernel
theorem d_L_law_623 : decode I_L_law.2.1 623 = .ok (.aload_n 0, 1) := by decide +kernel
theorem d_L_law_624 : decode I_L_law.2.1 624 = .ok (.iload_n 3, 1) := by decide +kernel
theorem d_L_law_625 : decode I_L_law.2.1 625 = .ok (.iconst 1, 1) := by decide +kernel
theorem d_L_law_626 : decode I_L_law.2.1 626 = .ok (.iadd, 1) := by decide +kernel
theorem d_L_law_627 : decode I_L_law.2.1 627 = .ok (.iaload, 1) := by decide +kernel
theorem d_L_law_628 : decode I_L_law.2.1 628 = .ok (.aload_n 0, 1) := by decide +kernel
theorem d_L_law_629 : decode I_L_law.2.1 629 = .ok (.iload_n 3, 1) := by decide +kernel
theorem d_L_law_630 : decode I_L_law.2.1 630 = .ok (.iconst 2, 1) := by decide +kernel
theorem d_L_law_631 : decode I_L_law.2.1 631 = .ok (.iadd, 1) := by decide +kernel
theorem d_L_law_632 : decode I_L_law.2.1 632 = .ok (.iaload, 1) := by decide +kernel
theorem d_L_law_633 : decode I_L_law.2.1 633 = .ok (.aload_n 0, 1) := by decide +kernel
theorem d_L_law_634 : decode I_L_law.2.1 634 = .ok (.iload_n 3, 1) := by decide +kernel
theorem d_L_law_635 : decode I_L_law.2.1 635 = .ok (.iconst 3, 1) := by decide +kernel
theorem d_L_law_636 : decode I_L_law.2.1 636 = .ok (.iadd, 1) := by decide +kernel
theorem d_L_law_637 : decode I_L_law.2.1 637 = .ok (.iaload, 1) := by decide +kernel
theorem d_L_law_638 : decode I_L_law.2.1 638 = .ok (.invokevirtual 85, 3) := by decide +kernel
theorem d_L_law_641 : decode I_L_law.2.1 641 = .ok (.if_icmp .eq 618, 3) := by decide +kernel
theorem d_L_law_644 : decode I_L_law.2.1 644 = .ok (.iconst 0, 1) := by decide +kernel
theorem d_L_law_645 : decode I_L_law.2.1 645 = .ok (.ireturn, 1) := by decide +kernel
theorem d_L_law_646 : decode I_L_law.2.1 646 = .ok (.aload_n 1, 1) := by decide +kernel
theorem d_L_law_647 : decode I_L_law.2.1 647 = .ok (.aload_n 0, 1) := by decide +kernel
theorem d_L_law_648 : decode I_L_law.2.1 648 = .ok (.iload_n 3, 1) := by decide +kernel
theorem d_L_law_649 : decode I_L_law.2.1 649 = .ok (.iconst 1, 1) := by decide +kernel
theorem d_L_law_650 : decode I_L_law.2.1 650 = .ok (.iadd, 1) := by decide +kernel
theorem d_L_law_651 : decode I_L_law.2.1 651 = .ok (.iaload, 1) := by decide +kernel
theorem d_L_law_652 : decode I_L_law.2.1 652 = .ok (.aload_n 0, 1) := by decide +kernel
theorem d_L_law_653 : decode I_L_law.2.1 653 = .ok (.iload_n 3, 1) := by decide +kernel
theorem d_L_law_654 : decode I_L_law.2.1 654 = .ok (.iconst 2, 1) := by decide +kernel
theorem d_L_law_655 : decode I_L_law.2.1 655 = .ok (.iadd, 1) := by decide +kernel
theorem d_L_law_656 : decode I_L_law.2.1 656 = .ok (.iaload, 1) := by decide +kernel
theorem d_L_law_657 : decode I_L_law.2.1 657 = .ok (.aload_n 0, 1) := by decide +kernel
theorem d_L_law_658 : decode I_L_law.2.1 658 = .ok (.iload_n 3, 1) := by decide +kernel
theorem d_L_law_659 : decode I_L_law.2.1 659 = .ok (.iconst 3, 1) := by decide +kernel
theorem d_L_law_660 : decode I_L_law.2.1 660 = .ok (.iadd, 1) := by decide +kernel
theorem d_L_law_661 : decode I_L_law.2.1 661 = .ok (.iaload, 1) := by decide +kernel
theorem d_L_law_662 : decode I_L_law.2.1 662 = .ok (.aload_n 0, 1) := by decide +kernel
theorem d_L_law_663 : decode I_L_law.2.1 663 = .ok (.iload_n 3, 1) := by decide +kernel
theorem d_L_law_664 : decode I_L_law.2.1 664 = .ok (.iconst 4, 1) := by decide +kernel
theorem d_L_law_665 : decode I_L_law.2.1 665 = .ok (.iadd, 1) := by decide +kernel
theorem d_L_law_666 : decode I_L_law.2.1 666 = .ok (.iaload, 1) := by decide +kernel
theorem d_L_law_667 : decode I_L_law.2.1 667 = .ok (.invokevirtual 86, 3) := by decide +kernel
theorem d_L_law_670 : decode I_L_law.2.1 670 = .ok (.aload_n 2, 1) := by decide +kernel
theorem d_L_law_671 : decode I_L_law.2.1 671 = .ok (.aload_n 0, 1) := by decide +kernel
theorem d_L_law_672 : decode I_L_law.2.1 672 = .ok (.iload_n 3, 1) := by decide +kernel
theorem d_L_law_673 : decode I_L_law.2.1 673 = .ok (.iconst 1, 1) := by decide +kernel
theorem d_L_law_674 : decode I_L_law.2.1 674 = .ok (.iadd, 1) := by decide +kernel
theorem d_L_law_675 : decode I_L_law.2.1 675 = .ok (.iaload, 1) := by decide +kernel
theorem d_L_law_676 : decode I_L_law.2.1 676 = .ok (.aload_n 0, 1) := by decide +kernel
theorem d_L_law_677 : decode I_L_law.2.1 677 = .ok (.iload_n 3, 1) := by decide +kernel
theorem d_L_law_678 : decode I_L_law.2.1 678 = .ok (.iconst 2, 1) := by decide +kernel
theorem d_L_law_679 : decode I_L_law.2.1 679 = .ok (.iadd, 1) := by decide +kernel
theorem d_L_law_680 : decode I_L_law.2.1 680 = .ok (.iaload, 1) := by decide +kernel
theorem d_L_law_681 : decode I_L_law.2.1 681 = .ok (.aload_n 0, 1) := by decide +kernel
theorem d_L_law_682 : decode I_L_law.2.1 682 = .ok (.iload_n 3, 1) := by decide +kernel
theorem d_L_law_683 : decode I_L_law.2.1 683 = .ok (.iconst 3, 1) := by decide +kernel
theorem d_L_law_684 : decode I_L_law.2.1 684 = .ok (.iadd, 1) := by decide +kernel
theorem d_L_law_685 : decode I_L_law.2.1 685 = .ok (.iaload, 1) := by decide +kernel
theorem d_L_law_686 : decode I_L_law.2.1 686 = .ok (.aload_n 0, 1) := by decide +kernel
theorem d_L_law_687 : decode I_L_law.2.1 687 = .ok (.iload_n 3, 1) := by decide +kernel
theorem d_L_law_688 : decode I_L_law.2.1 688 = .ok (.iconst 4, 1) := by decide +kernel
theorem d_L_law_689 : decode I_L_law.2.1 689 = .ok (.iadd, 1) := by decide +kernel
theorem d_L_law_690 : decode I_L_law.2.1 690 = .ok (.iaload, 1) := by decide +kernel
theorem d_L_law_691 : decode I_L_law.2.1 691 = .ok (.invokevirtual 90, 3) := by decide +kernel
theorem d_L_law_694 : decode I_L_law.2.1 694 = .ok (.if_icmp .eq 565, 3) := by decide +kernel
theorem d_L_law_697 : decode I_L_law.2.1 697 = .ok (.iconst 0, 1) := by decide +kernel
theorem d_L_law_698 : decode I_L_law.2.1 698 = .ok (.ireturn, 1) := by decide +kernel
theorem d_L_law_699 : decode I_L_law.2.1 699 = .ok (.aload_n 1, 1) := by decide +kernel
theorem d_L_law_700 : decode I_L_law.2.1 700 = .ok (.aload_n 0, 1) := by decide +kernel
theorem d_L_law_701 : decode I_L_law.2.1 701 = .ok (.iload_n 3, 1) := by decide +kernel
theorem d_L_law_702 : decode I_L_law.2.1 702 = .ok (.iconst 1, 1) := by decide +kernel
theorem d_L_law_703 : decode I_L_law.2.1 703 = .ok (.iadd, 1) := by decide +kernel
theorem d_L_law_704 : decode I_L_law.2.1 704 = .ok (.iaload, 1) := by decide +kernel
theorem d_L_law_705 : decode I_L_law.2.1 705 = .ok (.aload_n 0, 1) := by decide +kernel
theorem d_L_law_706 : decode I_L_law.2.1 706 = .ok (.iload_n 3, 1) := by decide +kernel
theorem d_L_law_707 : decode I_L_law.2.1 707 = .ok (.iconst 2, 1) := by decide +kernel
theorem d_L_law_708 : decode I_L_law.2.1 708 = .ok (.iadd, 1) := by decide +kernel
theorem d_L_law_709 : decode I_L_law.2.1 709 = .ok (.iaload, 1) := by decide +kernel
theorem d_L_law_710 : decode I_L_law.2.1 710 = .ok (.invokevirtual 91, 3) := by decide +kernel
theorem d_L_law_713 : decode I_L_law.2.1 713 = .ok (.aload_n 2, 1) := by decide +kernel
theorem d_L_law_714 : decode I_L_law.2.1 714 = .ok (.aload_n 0, 1) := by decide +kernel
theorem d_L_law_715 : decode I_L_law.2.1 715 = .ok (.iload_n 3, 1) := by decide +kernel
theorem d_L_law_716 : decode I_L_law.2.1 716 = .ok (.iconst 1, 1) := by decide +kernel
theorem d_L_law_717 : decode I_L_law.2.1 717 = .ok (.iadd, 1) := by decide +kernel
theorem d_L_law_718 : decode I_L_law.2.1 718 = .ok (.iaload, 1) := by decide +kernel
theorem d_L_law_719 : decode I_L_law.2.1 719 = .ok (.aload_n 0, 1) := by decide +kernel
theorem d_L_law_720 : decode I_L_law.2.1 720 = .ok (.iload_n 3, 1) := by decide +kernel
theorem d_L_law_721 : decode I_L_law.2.1 721 = .ok (.iconst 2, 1) := by decide +kernel
theorem d_L_law_722 : decode I_L_law.2.1 722 = .ok (.iadd, 1) := by decide +kernel
theorem d_L_law_723 : decode I_L_law.2.1 723 = .ok (.iaload, 1) := by decide +kernel
theorem d_L_law_724 : decode I_L_law.2.1 724 = .ok (.invokevirtual 94, 3) := by decide +kernel
theorem d_L_law_727 : decode I_L_law.2.1 727 = .ok (.if_icmp .eq 532, 3) := by decide +kernel
theorem d_L_law_730 : decode I_L_law.2.1 730 = .ok (.iconst 0, 1) := by decide +kernel
theorem d_L_law_731 : decode I_L_law.2.1 731 = .ok (.ireturn, 1) := by decide +kernel
theorem d_L_law_732 : decode I_L_law.2.1 732 = .ok (.aload_n 1, 1) := by decide +kernel
theorem d_L_law_733 : decode I_L_law.2.1 733 = .ok (.invokevirtual 95, 3) := by decide +kernel
theorem d_L_law_736 : decode I_L_law.2.1 736 = .ok (.aload_n 2, 1) := by decide +kernel
theorem d_L_law_737 : decode I_L_law.2.1 737 = .ok (.invokevirtual 98, 3) := by decide +kernel
theorem d_L_law_740 : decode I_L_law.2.1 740 = .ok (.if_icmp .eq 519, 3) := by decide +kernel
theorem d_L_law_743 : decode I_L_law.2.1 743 = .ok (.iconst 0, 1) := by decide +kernel
theorem d_L_law_744 : decode I_L_law.2.1 744 = .ok (.ireturn, 1) := by decide +kernel
theorem d_L_law_745 : decode I_L_law.2.1 745 = .ok (.aload_n 1, 1) := by decide +kernel
theorem d_L_law_746 : decode I_L_law.2.1 746 = .ok (.aload_n 0, 1) := by decide +kernel
theorem d_L_law_747 : decode I_L_law.2.1 747 = .ok (.iload_n 3, 1) := by decide +kernel
theorem d_L_law_748 : decode I_L_law.2.1 748 = .ok (.iconst 1, 1) := by decide +kernel
theorem d_L_law_749 : decode I_L_law.2.1 749 = .ok (.iadd, 1) := by decide +kernel
theorem d_L_law_750 : decode I_L_law.2.1 750 = .ok (.iaload, 1) := by decide +kernel
theorem d_L_law_751 : decode I_L_law.2.1 751 = .ok (.invokevirtual 99, 3) := by decide +kernel
theorem d_L_law_754 : decode I_L_law.2.1 754 = .ok (.aload_n 2, 1) := by decide +kernel
theorem d_L_law_755 : decode I_L_law.2.1 755 = .ok (.aload_n 0, 1) := by decide +kernel
theorem d_L_law_756 : decode I_L_law.2.1 756 = .ok (.iload_n 3, 1) := by decide +kernel
theorem d_L_law_757 : decode I_L_law.2.1 757 = .ok (.iconst 1, 1) := by decide +kernel
theorem d_L_law_758 : decode I_L_law.2.1 758 = .ok (.iadd, 1) := by decide +kernel
theorem d_L_law_759 : decode I_L_law.2.1 759 = .ok (.iaload, 1) := by decide +kernel
theorem d_L_law_760 : decode I_L_law.2.1 760 = .ok (.invokevirtual 102, 3) := by decide +kernel
theorem d_L_law_763 : decode I_L_law.2.1 763 = .ok (.if_icmp .eq 496, 3) := by decide +kernel
theorem d_L_law_766 : decode I_L_law.2.1 766 = .ok (.iconst 0, 1) := by decide +kernel
theorem d_L_law_767 : decode I_L_law.2.1 767 = .ok (.ireturn, 1) := by decide +kernel
theorem d_L_law_768 : decode I_L_law.2.1 768 = .ok (.aload_n 1, 1) := by decide +kernel
theorem d_L_law_769 : decode I_L_law.2.1 769 = .ok (.aload_n 0, 1) := by decide +kernel
theorem d_L_law_770 : decode I_L_law.2.1 770 = .ok (.iload_n 3, 1) := by decide +kernel
theorem d_L_law_771 : decode I_L_law.2.1 771 = .ok (.iconst 1, 1) := by decide +kernel
theorem d_L_law_772 : decode I_L_law.2.1 772 = .ok (.iadd, 1) := by decide +kernel
theorem d_L_law_773 : decode I_L_law.2.1 773 = .ok (.iaload, 1) := by decide +kernel
theorem d_L_law_774 : decode I_L_law.2.1 774 = .ok (.aload_n 0, 1) := by decide +kernel
theorem d_L_law_775 : decode I_L_law.2.1 775 = .ok (.iload_n 3, 1) := by decide +kernel
theorem d_L_law_776 : decode I_L_law.2.1 776 = .ok (.iconst 2, 1) := by decide +kernel
theorem d_L_law_777 : decode I_L_law.2.1 777 = .ok (.iadd, 1) := by decide +kernel
theorem d_L_law_778 : decode I_L_law.2.1 778 = .ok (.iaload, 1) := by decide +kernel
theorem d_L_law_779 : decode I_L_law.2.1 779 = .ok (.invokevirtual 103, 3) := by decide +kernel
theorem d_L_law_782 : decode I_L_law.2.1 782 = .ok (.aload_n 2, 1) := by decide +kernel
theorem d_L_law_783 : decode I_L_law.2.1 783 = .ok (.aload_n 0, 1) := by decide +kernel
theorem d_L_law_784 : decode I_L_law.2.1 784 = .ok (.iload_n 3, 1) := by decide +kernel
theorem d_L_law_785 : decode I_L_law.2.1 785 = .ok (.iconst 1, 1) := by decide +kernel
theorem d_L_law_786 : decode I_L_law.2.1 786 = .ok (.iadd, 1) := by decide +kernel
theorem d_L_law_787 : decode I_L_law.2.1 787 = .ok (.iaload, 1) := by decide +kernel
theorem d_L_law_788 : decode I_L_law.2.1 788 = .ok (.aload_n 0, 1) := by decide +kernel
theorem d_L_law_789 : decode I_L_law.2.1 789 = .ok (.iload_n 3, 1) := by decide +kernel
theorem d_L_law_790 : decode I_L_law.2.1 790 = .ok (.iconst 2, 1) := by decide +kernel
theorem d_L_law_791 : decode I_L_law.2.1 791 = .ok (.iadd, 1) := by decide +kernel
theorem d_L_law_792 : decode I_L_law.2.1 792 = .ok (.iaload, 1) := by decide +kernel
theorem d_L_law_793 : decode I_L_law.2.1 793 = .ok (.invokevirtual 106, 3) := by decide +kernel
theorem d_L_law_796 : decode I_L_law.2.1 796 = .ok (.if_icmp .eq 463, 3) := by decide +kernel
theorem d_L_law_799 : decode I_L_law.2.1 799 = .ok (.iconst 0, 1) := by decide +kernel
theorem d_L_law_800 : decode I_L_law.2.1 800 = .ok (.ireturn, 1) := by decide +kernel
theorem d_L_law_801 : decode I_L_law.2.1 801 = .ok (.aload_n 1, 1) := by decide +kernel
theorem d_L_law_802 : decode I_L_law.2.1 802 = .ok (.invokevirtual 107, 3) := by decide +kernel
theorem d_L_law_805 : decode I_L_law.2.1 805 = .ok (.aload_n 2, 1) := by decide +kernel
theorem d_L_law_806 : decode I_L_law.2.1 806 = .ok (.invokevirtual 110, 3) := by decide +kernel
theorem d_L_law_809 : decode I_L_law.2.1 809 = .ok (.if_icmp .eq 450, 3) := by decide +kernel
theorem d_L_law_812 : decode I_L_law.2.1 812 = .ok (.iconst 0, 1) := by decide +kernel
theorem d_L_law_813 : decode I_L_law.2.1 813 = .ok (.ireturn, 1) := by decide +kernel
theorem d_L_law_814 : decode I_L_law.2.1 814 = .ok (.aload_n 1, 1) := by decide +kernel
theorem d_L_law_815 : decode I_L_law.2.1 815 = .ok (.aload_n 0, 1) := by decide +kernel
theorem d_L_law_816 : decode I_L_law.2.1 816 = .ok (.iload_n 3, 1) := by decide +kernel
theorem d_L_law_817 : decode I_L_law.2.1 817 = .ok (.iconst 1, 1) := by decide +kernel
theorem d_L_law_818 : decode I_L_law.2.1 818 = .ok (.iadd, 1) := by decide +kernel
theorem d_L_law_819 : decode I_L_law.2.1 819 = .ok (.iaload, 1) := by decide +kernel
theorem d_L_law_820 : decode I_L_law.2.1 820 = .ok (.aload_n 0, 1) := by decide +kernel
theorem d_L_law_821 : decode I_L_law.2.1 821 = .ok (.iload_n 3, 1) := by decide +kernel
theorem d_L_law_822 : decode I_L_law.2.1 822 = .ok (.iconst 2, 1) := by decide +kernel
theorem d_L_law_823 : decode I_L_law.2.1 823 = .ok (.iadd, 1) := by decide +kernel
theorem d_L_law_824 : decode I_L_law.2.1 824 = .ok (.iaload, 1) := by decide +kernel
theorem d_L_law_825 : decode I_L_law.2.1 825 = .ok (.aload_n 0, 1) := by decide +kernel
theorem d_L_law_826 : decode I_L_law.2.1 826 = .ok (.iload_n 3, 1) := by decide +kernel
theorem d_L_law_827 : decode I_L_law.2.1 827 = .ok (.iconst 3, 1) := by decide +kernel
theorem d_L_law_828 : decode I_L_law.2.1 828 = .ok (.iadd, 1) := by decide +kernel
theorem d_L_law_829 : decode I_L_law.2.1 829 = .ok (.iaload, 1) := by decide +kernel
theorem d_L_law_830 : decode I_L_law.2.1 830 = .ok (.aload_n 0, 1) := by decide +kernel
theorem d_L_law_831 : decode I_L_law.2.1 831 = .ok (.iload_n 3, 1) := by decide +kernel
theorem d_L_law_832 : decode I_L_law.2.1 832 = .ok (.iconst 4, 1) := by decide +kernel
theorem d_L_law_833 : decode I_L_law.2.1 833 = .ok (.iadd, 1) := by decide +kernel
theorem d_L_law_834 : decode I_L_law.2.1 834 = .ok (.iaload, 1) := by decide +kernel
theorem d_L_law_835 : decode I_L_law.2.1 835 = .ok (.invokevirtual 111, 3) := by decide +kernel
theorem d_L_law_838 : decode I_L_law.2.1 838 = .ok (.aload_n 2, 1) := by decide +kernel
theorem d_L_law_839 : decode I_L_law.2.1 839 = .ok (.aload_n 0, 1) := by decide +kernel
theorem d_L_law_840 : decode I_L_law.2.1 840 = .ok (.iload_n 3, 1) := by decide +kernel
theorem d_L_law_841 : decode I_L_law.2.1 841 = .ok (.iconst 1, 1) := by decide +kernel
theorem d_L_law_842 : decode I_L_law.2.1 842 = .ok (.iadd, 1) := by decide +kernel
theorem d_L_law_843 : decode I_L_law.2.1 843 = .ok (.iaload, 1) := by decide +kernel
theorem d_L_law_844 : decode I_L_law.2.1 844 = .ok (.aload_n 0, 1) := by decide +kernel
theorem d_L_law_845 : decode I_L_law.2.1 845 = .ok (.iload_n 3, 1) := by decide +kernel
theorem d_L_law_846 : decode I_L_law.2.1 846 = .ok (.iconst 2, 1) := by decide +kernel
theorem d_L_law_847 : decode I_L_law.2.1 847 = .ok (.iadd, 1) := by decide +kernel
theorem d_L_law_848 : decode I_L_law.2.1 848 = .ok (.iaload, 1) := by decide +kernel
theorem d_L_law_849 : decode I_L_law.2.1 849 = .ok (.aload_n 0, 1) := by decide +kernel
theorem d_L_law_850 : decode I_L_law.2.1 850 = .ok (.iload_n 3, 1) := by decide +kernel
theorem d_L_law_851 : decode I_L_law.2.1 851 = .ok (.iconst 3, 1) := by decide +kernel
theorem d_L_law_852 : decode I_L_law.2.1 852 = .ok (.iadd, 1) := by decide +kernel
theorem d_L_law_853 : decode I_L_law.2.1 853 = .ok (.iaload, 1) := by decide +kernel
theorem d_L_law_854 : decode I_L_law.2.1 854 = .ok (.aload_n 0, 1) := by decide +kernel
theorem d_L_law_855 : decode I_L_law.2.1 855 = .ok (.iload_n 3, 1) := by decide +kernel
theorem d_L_law_856 : decode I_L_law.2.1 856 = .ok (.iconst 4, 1) := by decide +kernel
theorem d_L_law_857 : decode I_L_law.2.1 857 = .ok (.iadd, 1) := by decide +kernel
theorem d_L_law_858 : decode I_L_law.2.1 858 = .ok (.iaload, 1) := by decide +kernel
theorem d_L_law_859 : decode I_L_law.2.1 859 = .ok (.invokevirtual 115, 3) := by decide +kernel
theorem d_L_law_862 : decode I_L_law.2.1 862 = .ok (.lcmp, 1) := by decide +kernel
theorem d_L_law_863 : decode I_L_law.2.1 863 = .ok (.ifCond .eq 396, 3) := by decide +kernel
theorem d_L_law_866 : decode I_L_law.2.1 866 = .ok (.iconst 0, 1) := by decide +kernel
theorem d_L_law_867 : decode I_L_law.2.1 867 = .ok (.ireturn, 1) := by decide +kernel
theorem d_L_law_868 : decode I_L_law.2.1 868 = .ok (.aload_n 1, 1) := by decide +kernel
theorem d_L_law_869 : decode I_L_law.2.1 869 = .ok (.aload_n 0, 1) := by decide +kernel
theorem d_L_law_870 : decode I_L_law.2.1 870 = .ok (.iload_n 3, 1) := by decide +kernel
theorem d_L_law_871 : decode I_L_law.2.1 871 = .ok (.iconst 1, 1) := by decide +kernel
theorem d_L_law_872 : decode I_L_law.2.1 872 = .ok (.iadd, 1) := by decide +kernel
theorem d_L_law_873 : decode I_L_law.2.1 873 = .ok (.iaload, 1) := by decide +kernel
theorem d_L_law_874 : decode I_L_law.2.1 874 = .ok (.aload_n 0, 1) := by decide +kernel
theorem d_L_law_875 : decode I_L_law.2.1 875 = .ok (.iload_n 3, 1) := by decide +kernel
theorem d_L_law_876 : decode I_L_law.2.1 876 = .ok (.iconst 2, 1) := by decide +kernel
theorem d_L_law_877 : decode I_L_law.2.1 877 = .ok (.iadd, 1) := by decide +kernel
theorem d_L_law_878 : decode I_L_law.2.1 878 = .ok (.iaload, 1) := by decide +kernel
theorem d_L_law_879 : decode I_L_law.2.1 879 = .ok (.aload_n 0, 1) := by decide +kernel
theorem d_L_law_880 : decode I_L_law.2.1 880 = .ok (.iload_n 3, 1) := by decide +kernel
theorem d_L_law_881 : decode I_L_law.2.1 881 = .ok (.iconst 3, 1) := by decide +kernel
theorem d_L_law_882 : decode I_L_law.2.1 882 = .ok (.iadd, 1) := by decide +kernel
theorem d_L_law_883 : decode I_L_law.2.1 883 = .ok (.iaload, 1) := by decide +kernel
theorem d_L_law_884 : decode I_L_law.2.1 884 = .ok (.aload_n 0, 1) := by decide +kernel
theorem d_L_law_885 : decode I_L_law.2.1 885 = .ok (.iload_n 3, 1) := by decide +kernel
theorem d_L_law_886 : decode I_L_law.2.1 886 = .ok (.iconst 4, 1) := by decide +kernel
theorem d_L_law_887 : decode I_L_law.2.1 887 = .ok (.iadd, 1) := by decide +kernel
theorem d_L_law_888 : decode I_L_law.2.1 888 = .ok (.iaload, 1) := by decide +kernel
theorem d_L_law_889 : decode I_L_law.2.1 889 = .ok (.invokevirtual 116, 3) := by decide +kernel
theorem d_L_law_892 : decode I_L_law.2.1 892 = .ok (.aload_n 2, 1) := by decide +kernel
theorem d_L_law_893 : decode I_L_law.2.1 893 = .ok (.aload_n 0, 1) := by decide +kernel
theorem d_L_law_894 : decode I_L_law.2.1 894 = .ok (.iload_n 3, 1) := by decide +kernel
theorem d_L_law_895 : decode I_L_law.2.1 895 = .ok (.iconst 1, 1) := by decide +kernel
theorem d_L_law_896 : decode I_L_law.2.1 896 = .ok (.iadd, 1) := by decide +kernel
theorem d_L_law_897 : decode I_L_law.2.1 897 = .ok (.iaload, 1) := by decide +kernel
theorem d_L_law_898 : decode I_L_law.2.1 898 = .ok (.aload_n 0, 1) := by decide +kernel
theorem d_L_law_899 : decode I_L_law.2.1 899 = .ok (.iload_n 3, 1) := by decide +kernel
theorem d_L_law_900 : decode I_L_law.2.1 900 = .ok (.iconst 2, 1) := by decide +kernel
theorem d_L_law_901 : decode I_L_law.2.1 901 = .ok (.iadd, 1) := by decide +kernel
theorem d_L_law_902 : decode I_L_law.2.1 902 = .ok (.iaload, 1) := by decide +kernel
theorem d_L_law_903 : decode I_L_law.2.1 903 = .ok (.aload_n 0, 1) := by decide +kernel
theorem d_L_law_904 : decode I_L_law.2.1 904 = .ok (.iload_n 3, 1) := by decide +kernel
theorem d_L_law_905 : decode I_L_law.2.1 905 = .ok (.iconst 3, 1) := by decide +kernel
theorem d_L_law_906 : decode I_L_law.2.1 906 = .ok (.iadd, 1) := by decide +kernel
theorem d_L_law_907 : decode I_L_law.2.1 907 = .ok (.iaload, 1) := by decide +kernel
theorem d_L_law_908 : decode I_L_law.2.1 908 = .ok (.aload_n 0, 1) := by decide +kernel
theorem d_L_law_909 : decode I_L_law.2.1 909 = .ok (.iload_n 3, 1) := by decide +kernel
theorem d_L_law_910 : decode I_L_law.2.1 910 = .ok (.iconst 4, 1) := by decide +kernel
theorem d_L_law_911 : decode I_L_law.2.1 911 = .ok (.iadd, 1) := by decide +kernel
theorem d_L_law_912 : decode I_L_law.2.1 912 = .ok (.iaload, 1) := by decide +kernel
theorem d_L_law_913 : decode I_L_law.2.1 913 = .ok (.invokevirtual 119, 3) := by decide +kernel
theorem d_L_law_916 : decode I_L_law.2.1 916 = .ok (.if_icmp .eq 343, 3) := by decide +kernel
theorem d_L_law_919 : decode I_L_law.2.1 919 = .ok (.iconst 0, 1) := by decide +kernel
theorem d_L_law_920 : decode I_L_law.2.1 920 = .ok (.ireturn, 1) := by decide +kernel
theorem d_L_law_921 : decode I_L_law.2.1 921 = .ok (.aload_n 1, 1) := by decide +kernel
theorem d_L_law_922 : decode I_L_law.2.1 922 = .ok (.aload_n 0, 1) := by decide +kernel
theorem d_L_law_923 : decode I_L_law.2.1 923 = .ok (.iload_n 3, 1) := by decide +kernel
theorem d_L_law_924 : decode I_L_law.2.1 924 = .ok (.iconst 1, 1) := by decide +kernel
theorem d_L_law_925 : decode I_L_law.2.1 925 = .ok (.iadd, 1) := by decide +kernel
theorem d_L_law_926 : decode I_L_law.2.1 926 = .ok (.iaload, 1) := by decide +kernel
theorem d_L_law_927 : decode I_L_law.2.1 927 = .ok (.aload_n 0, 1) := by decide +kernel
theorem d_L_law_928 : decode I_L_law.2.1 928 = .ok (.iload_n 3, 1) := by decide +kernel
theorem d_L_law_929 : decode I_L_law.2.1 929 = .ok (.iconst 2, 1) := by decide +kernel
theorem d_L_law_930 : decode I_L_law.2.1 930 = .ok (.iadd, 1) := by decide +kernel
theorem d_L_law_931 : decode I_L_law.2.1 931 = .ok (.iaload, 1) := by decide +kernel
theorem d_L_law_932 : decode I_L_law.2.1 932 = .ok (.aload_n 0, 1) := by decide +kernel
theorem d_L_law_933 : decode I_L_law.2.1 933 = .ok (.iload_n 3, 1) := by decide +kernel
theorem d_L_law_934 : decode I_L_law.2.1 934 = .ok (.iconst 3, 1) := by decide +kernel
theorem d_L_law_935 : decode I_L_law.2.1 935 = .ok (.iadd, 1) := by decide +kernel
theorem d_L_law_936 : decode I_L_law.2.1 936 = .ok (.iaload, 1) := by decide +kernel
theorem d_L_law_937 : decode I_L_law.2.1 937 = .ok (.invokevirtual 120, 3) := by decide +kernel
theorem d_L_law_940 : decode I_L_law.2.1 940 = .ok (.aload_n 2, 1) := by decide +kernel
theorem d_L_law_941 : decode I_L_law.2.1 941 = .ok (.aload_n 0, 1) := by decide +kernel
theorem d_L_law_942 : decode I_L_law.2.1 942 = .ok (.iload_n 3, 1) := by decide +kernel
theorem d_L_law_943 : decode I_L_law.2.1 943 = .ok (.iconst 1, 1) := by decide +kernel
theorem d_L_law_944 : decode I_L_law.2.1 944 = .ok (.iadd, 1) := by decide +kernel
theorem d_L_law_945 : decode I_L_law.2.1 945 = .ok (.iaload, 1) := by decide +kernel
theorem d_L_law_946 : decode I_L_law.2.1 946 = .ok (.aload_n 0, 1) := by decide +kernel
theorem d_L_law_947 : decode I_L_law.2.1 947 = .ok (.iload_n 3, 1) := by decide +kernel
theorem d_L_law_948 : decode I_L_law.2.1 948 = .ok (.iconst 2, 1) := by decide +kernel
theorem d_L_law_949 : decode I_L_law.2.1 949 = .ok (.iadd, 1) := by decide +kernel
theorem d_L_law_950 : decode I_L_law.2.1 950 = .ok (.iaload, 1) := by decide +kernel
theorem d_L_law_951 : decode I_L_law.2.1 951 = .ok (.aload_n 0, 1) := by decide +kernel
theorem d_L_law_952 : decode I_L_law.2.1 952 = .ok (.iload_n 3, 1) := by decide +kernel
theorem d_L_law_953 : decode I_L_law.2.1 953 = .ok (.iconst 3, 1) := by decide +kernel
theorem d_L_law_954 : decode I_L_law.2.1 954 = .ok (.iadd, 1) := by decide +kernel
theorem d_L_law_955 : decode I_L_law.2.1 955 = .ok (.iaload, 1) := by decide +kernel
theorem d_L_law_956 : decode I_L_law.2.1 956 = .ok (.invokevirtual 123, 3) := by decide +kernel
theorem d_L_law_959 : decode I_L_law.2.1 959 = .ok (.if_icmp .eq 300, 3) := by decide +kernel
theorem d_L_law_962 : decode I_L_law.2.1 962 = .ok (.iconst 0, 1) := by decide +kernel
theorem d_L_law_963 : decode I_L_law.2.1 963 = .ok (.ireturn, 1) := by decide +kernel
theorem d_L_law_964 : decode I_L_law.2.1 964 = .ok (.aload_n 1, 1) := by decide +kernel
theorem d_L_law_965 : decode I_L_law.2.1 965 = .ok (.aload_n 0, 1) := by decide +kernel
theorem d_L_law_966 : decode I_L_law.2.1 966 = .ok (.iload_n 3, 1) := by decide +kernel
theorem d_L_law_967 : decode I_L_law.2.1 967 = .ok (.iconst 1, 1) := by decide +kernel
theorem d_L_law_968 : decode I_L_law.2.1 968 = .ok (.iadd, 1) := by decide +kernel
theorem d_L_law_969 : decode I_L_law.2.1 969 = .ok (.iaload, 1) := by decide +kernel
theorem d_L_law_970 : decode I_L_law.2.1 970 = .ok (.aload_n 0, 1) := by decide +kernel
theorem d_L_law_971 : decode I_L_law.2.1 971 = .ok (.iload_n 3, 1) := by decide +kernel
theorem d_L_law_972 : decode I_L_law.2.1 972 = .ok (.iconst 2, 1) := by decide +kernel
theorem d_L_law_973 : decode I_L_law.2.1 973 = .ok (.iadd, 1) := by decide +kernel
theorem d_L_law_974 : decode I_L_law.2.1 974 = .ok (.iaload, 1) := by decide +kernel
theorem d_L_law_975 : decode I_L_law.2.1 975 = .ok (.aload_n 0, 1) := by decide +kernel
theorem d_L_law_976 : decode I_L_law.2.1 976 = .ok (.iload_n 3, 1) := by decide +kernel
theorem d_L_law_977 : decode I_L_law.2.1 977 = .ok (.iconst 3, 1) := by decide +kernel
theorem d_L_law_978 : decode I_L_law.2.1 978 = .ok (.iadd, 1) := by decide +kernel
theorem d_L_law_979 : decode I_L_law.2.1 979 = .ok (.iaload, 1) := by decide +kernel
theorem d_L_law_980 : decode I_L_law.2.1 980 = .ok (.invokevirtual 124, 3) := by decide +kernel
theorem d_L_law_983 : decode I_L_law.2.1 983 = .ok (.aload_n 2, 1) := by decide +kernel
theorem d_L_law_984 : decode I_L_law.2.1 984 = .ok (.aload_n 0, 1) := by decide +kernel
theorem d_L_law_985 : decode I_L_law.2.1 985 = .ok (.iload_n 3, 1) := by decide +kernel
theorem d_L_law_986 : decode I_L_law.2.1 986 = .ok (.iconst 1, 1) := by decide +kernel
theorem d_L_law_987 : decode I_L_law.2.1 987 = .ok (.iadd, 1) := by decide +kernel
theorem d_L_law_988 : decode I_L_law.2.1 988 = .ok (.iaload, 1) := by decide +kernel
theorem d_L_law_989 : decode I_L_law.2.1 989 = .ok (.aload_n 0, 1) := by decide +kernel
theorem d_L_law_990 : decode I_L_law.2.1 990 = .ok (.iload_n 3, 1) := by decide +kernel
theorem d_L_law_991 : decode I_L_law.2.1 991 = .ok (.iconst 2, 1) := by decide +kernel
theorem d_L_law_992 : decode I_L_law.2.1 992 = .ok (.iadd, 1) := by decide +kernel
theorem d_L_law_993 : decode I_L_law.2.1 993 = .ok (.iaload, 1) := by decide +kernel
theorem d_L_law_994 : decode I_L_law.2.1 994 = .ok (.aload_n 0, 1) := by decide +kernel
theorem d_L_law_995 : decode I_L_law.2.1 995 = .ok (.iload_n 3, 1) := by decide +kernel
theorem d_L_law_996 : decode I_L_law.2.1 996 = .ok (.iconst 3, 1) := by decide +kernel
theorem d_L_law_997 : decode I_L_law.2.1 997 = .ok (.iadd, 1) := by decide +kernel
theorem d_L_law_998 : decode I_L_law.2.1 998 = .ok (.iaload, 1) := by decide +kernel
theorem d_L_law_999 : decode I_L_law.2.1 999 = .ok (.invokevirtual 127, 3) := by decide +kernel
theorem d_L_law_1002 : decode I_L_law.2.1 1002 = .ok (.if_icmp .eq 257, 3) := by decide +kernel
theorem d_L_law_1005 : decode I_L_law.2.1 1005 = .ok (.iconst 0, 1) := by decide +kernel
theorem d_L_law_1006 : decode I_L_law.2.1 1006 = .ok (.ireturn, 1) := by decide +kernel
theorem d_L_law_1007 : decode I_L_law.2.1 1007 = .ok (.aload_n 1, 1) := by decide +kernel
theorem d_L_law_1008 : decode I_L_law.2.1 1008 = .ok (.aload_n 0, 1) := by decide +kernel
theorem d_L_law_1009 : decode I_L_law.2.1 1009 = .ok (.iload_n 3, 1) := by decide +kernel
theorem d_L_law_1010 : decode I_L_law.2.1 1010 = .ok (.iconst 1, 1) := by decide +kernel
theorem d_L_law_1011 : decode I_L_law.2.1 1011 = .ok (.iadd, 1) := by decide +kernel
theorem d_L_law_1012 : decode I_L_law.2.1 1012 = .ok (.iaload, 1) := by decide +kernel
theorem d_L_law_1013 : decode I_L_law.2.1 1013 = .ok (.invokevirtual 128, 3) := by decide +kernel
theorem d_L_law_1016 : decode I_L_law.2.1 1016 = .ok (.aload_n 2, 1) := by decide +kernel
theorem d_L_law_1017 : decode I_L_law.2.1 1017 = .ok (.aload_n 0, 1) := by decide +kernel
theorem d_L_law_1018 : decode I_L_law.2.1 1018 = .ok (.iload_n 3, 1) := by decide +kernel
theorem d_L_law_1019 : decode I_L_law.2.1 1019 = .ok (.iconst 1, 1) := by decide +kernel
theorem d_L_law_1020 : decode I_L_law.2.1 1020 = .ok (.iadd, 1) := by decide +kernel
theorem d_L_law_1021 : decode I_L_law.2.1 1021 = .ok (.iaload, 1) := by decide +kernel
theorem d_L_law_1022 : decode I_L_law.2.1 1022 = .ok (.invokevirtual 131, 3) := by decide +kernel
theorem d_L_law_1025 : decode I_L_law.2.1 1025 = .ok (.if_icmp .eq 234, 3) := by decide +kernel
theorem d_L_law_1028 : decode I_L_law.2.1 1028 = .ok (.iconst 0, 1) := by decide +kernel
theorem d_L_law_1029 : decode I_L_law.2.1 1029 = .ok (.ireturn, 1) := by decide +kernel
theorem d_L_law_1030 : decode I_L_law.2.1 1030 = .ok (.aload_n 1, 1) := by decide +kernel
theorem d_L_law_1031 : decode I_L_law.2.1 1031 = .ok (.aload_n 0, 1) := by decide +kernel
theorem d_L_law_1032 : decode I_L_law.2.1 1032 = .ok (.iload_n 3, 1) := by decide +kernel
theorem d_L_law_1033 : decode I_L_law.2.1 1033 = .ok (.iconst 1, 1) := by decide +kernel
theorem d_L_law_1034 : decode I_L_law.2.1 1034 = .ok (.iadd, 1) := by decide +kernel
theorem d_L_law_1035 : decode I_L_law.2.1 1035 = .ok (.iaload, 1) := by decide +kernel
theorem d_L_law_1036 : decode I_L_law.2.1 1036 = .ok (.aload_n 0, 1) := by decide +kernel
theorem d_L_law_1037 : decode I_L_law.2.1 1037 = .ok (.iload_n 3, 1) := by decide +kernel
theorem d_L_law_1038 : decode I_L_law.2.1 1038 = .ok (.iconst 2, 1) := by decide +kernel
theorem d_L_law_1039 : decode I_L_law.2.1 1039 = .ok (.iadd, 1) := by decide +kernel
theorem d_L_law_1040 : decode I_L_law.2.1 1040 = .ok (.iaload, 1) := by decide +kernel
theorem d_L_law_1041 : decode I_L_law.2.1 1041 = .ok (.aload_n 0, 1) := by decide +kernel
theorem d_L_law_1042 : decode I_L_law.2.1 1042 = .ok (.iload_n 3, 1) := by decide +kernel
theorem d_L_law_1043 : decode I_L_law.2.1 1043 = .ok (.iconst 3, 1) := by decide +kernel
theorem d_L_law_1044 : decode I_L_law.2.1 1044 = .ok (.iadd, 1) := by decide +kernel
theorem d_L_law_1045 : decode I_L_law.2.1 1045 = .ok (.iaload, 1) := by decide +kernel
theorem d_L_law_1046 : decode I_L_law.2.1 1046 = .ok (.aload_n 0, 1) := by decide +kernel
theorem d_L_law_1047 : decode I_L_law.2.1 1047 = .ok (.iload_n 3, 1) := by decide +kernel
theorem d_L_law_1048 : decode I_L_law.2.1 1048 = .ok (.iconst 4, 1) := by decide +kernel
theorem d_L_law_1049 : decode I_L_law.2.1 1049 = .ok (.iadd, 1) := by decide +kernel
theorem d_L_law_1050 : decode I_L_law.2.1 1050 = .ok (.iaload, 1) := by decide +kernel
theorem d_L_law_1051 : decode I_L_law.2.1 1051 = .ok (.invokevirtual 132, 3) := by decide +kernel
theorem d_L_law_1054 : decode I_L_law.2.1 1054 = .ok (.aload_n 2, 1) := by decide +kernel
theorem d_L_law_1055 : decode I_L_law.2.1 1055 = .ok (.aload_n 0, 1) := by decide +kernel
theorem d_L_law_1056 : decode I_L_law.2.1 1056 = .ok (.iload_n 3, 1) := by decide +kernel
theorem d_L_law_1057 : decode I_L_law.2.1 1057 = .ok (.iconst 1, 1) := by decide +kernel
theorem d_L_law_1058 : decode I_L_law.2.1 1058 = .ok (.iadd, 1) := by decide +kernel
theorem d_L_law_1059 : decode I_L_law.2.1 1059 = .ok (.iaload, 1) := by decide +kernel
theorem d_L_law_1060 : decode I_L_law.2.1 1060 = .ok (.aload_n 0, 1) := by decide +kernel
theorem d_L_law_1061 : decode I_L_law.2.1 1061 = .ok (.iload_n 3, 1) := by decide +kernel
theorem d_L_law_1062 : decode I_L_law.2.1 1062 = .ok (.iconst 2, 1) := by decide +kernel
theorem d_L_law_1063 : decode I_L_law.2.1 1063 = .ok (.iadd, 1) := by decide +kernel
theorem d_L_law_1064 : decode I_L_law.2.1 1064 = .ok (.iaload, 1) := by decide +kernel
theorem d_L_law_1065 : decode I_L_law.2.1 1065 = .ok (.aload_n 0, 1) := by decide +kernel
theorem d_L_law_1066 : decode I_L_law.2.1 1066 = .ok (.iload_n 3, 1) := by decide +kernel
theorem d_L_law_1067 : decode I_L_law.2.1 1067 = .ok (.iconst 3, 1) := by decide +kernel
theorem d_L_law_1068 : decode I_L_law.2.1 1068 = .ok (.iadd, 1) := by decide +kernel
theorem d_L_law_1069 : decode I_L_law.2.1 1069 = .ok (.iaload, 1) := by decide +kernel
theorem d_L_law_1070 : decode I_L_law.2.1 1070 = .ok (.aload_n 0, 1) := by decide +kernel
theorem d_L_law_1071 : decode I_L_law.2.1 1071 = .ok (.iload_n 3, 1) := by decide +kernel
theorem d_L_law_1072 : decode I_L_law.2.1 1072 = .ok (.iconst 4, 1) := by decide +kernel
theorem d_L_law_1073 : decode I_L_law.2.1 1073 = .ok (.iadd, 1) := by decide +kernel
theorem d_L_law_1074 : decode I_L_law.2.1 1074 = .ok (.iaload, 1) := by decide +kernel
theorem d_L_law_1075 : decode I_L_law.2.1 1075 = .ok (.invokevirtual 135, 3) := by decide +kernel
theorem d_L_law_1078 : decode I_L_law.2.1 1078 = .ok (.if_icmp .eq 181, 3) := by decide +kernel
theorem d_L_law_1081 : decode I_L_law.2.1 1081 = .ok (.iconst 0, 1) := by decide +kernel
theorem d_L_law_1082 : decode I_L_law.2.1 1082 = .ok (.ireturn, 1) := by decide +kernel
theorem d_L_law_1083 : decode I_L_law.2.1 1083 = .ok (.aload_n 1, 1) := by decide +kernel
theorem d_L_law_1084 : decode I_L_law.2.1 1084 = .ok (.aload_n 0, 1) := by decide +kernel
theorem d_L_law_1085 : decode I_L_law.2.1 1085 = .ok (.iload_n 3, 1) := by decide +kernel
theorem d_L_law_1086 : decode I_L_law.2.1 1086 = .ok (.iconst 1, 1) := by decide +kernel
theorem d_L_law_1087 : decode I_L_law.2.1 1087 = .ok (.iadd, 1) := by decide +kernel
theorem d_L_law_1088 : decode I_L_law.2.1 1088 = .ok (.iaload, 1) := by decide +kernel
theorem d_L_law_1089 : decode I_L_law.2.1 1089 = .ok (.aload_n 0, 1) := by decide +kernel
theorem d_L_law_1090 : decode I_L_law.2.1 1090 = .ok (.iload_n 3, 1) := by decide +kernel
theorem d_L_law_1091 : decode I_L_law.2.1 1091 = .ok (.iconst 2, 1) := by decide +kernel
theorem d_L_law_1092 : decode I_L_law.2.1 1092 = .ok (.iadd, 1) := by decide +kernel
theorem d_L_law_1093 : decode I_L_law.2.1 1093 = .ok (.iaload, 1) := by decide +kernel
theorem d_L_law_1094 : decode I_L_law.2.1 1094 = .ok (.aload_n 0, 1) := by decide +kernel
theorem d_L_law_1095 : decode I_L_law.2.1 1095 = .ok (.iload_n 3, 1) := by decide +kernel
theorem d_L_law_1096 : decode I_L_law.2.1 1096 = .ok (.iconst 3, 1) := by decide +kernel
theorem d_L_law_1097 : decode I_L_law.2.1 1097 = .ok (.iadd, 1) := by decide +kernel
theorem d_L_law_1098 : decode I_L_law.2.1 1098 = .ok (.iaload, 1) := by decide +kernel
theorem d_L_law_1099 : decode I_L_law.2.1 1099 = .ok (.invokevirtual 136, 3) := by decide +kernel
theorem d_L_law_1102 : decode I_L_law.2.1 1102 = .ok (.aload_n 2, 1) := by decide +kernel
theorem d_L_law_1103 : decode I_L_law.2.1 1103 = .ok (.aload_n 0, 1) := by decide +kernel
theorem d_L_law_1104 : decode I_L_law.2.1 1104 = .ok (.iload_n 3, 1) := by decide +kernel
theorem d_L_law_1105 : decode I_L_law.2.1 1105 = .ok (.iconst 1, 1) := by decide +kernel
theorem d_L_law_1106 : decode I_L_law.2.1 1106 = .ok (.iadd, 1) := by decide +kernel
theorem d_L_law_1107 : decode I_L_law.2.1 1107 = .ok (.iaload, 1) := by decide +kernel
theorem d_L_law_1108 : decode I_L_law.2.1 1108 = .ok (.aload_n 0, 1) := by decide +kernel
theorem d_L_law_1109 : decode I_L_law.2.1 1109 = .ok (.iload_n 3, 1) := by decide +kernel
theorem d_L_law_1110 : decode I_L_law.2.1 1110 = .ok (.iconst 2, 1) := by decide +kernel
theorem d_L_law_1111 : decode I_L_law.2.1 1111 = .ok (.iadd, 1) := by decide +kernel
theorem d_L_law_1112 : decode I_L_law.2.1 1112 = .ok (.iaload, 1) := by decide +kernel
theorem d_L_law_1113 : decode I_L_law.2.1 1113 = .ok (.aload_n 0, 1) := by decide +kernel
theorem d_L_law_1114 : decode I_L_law.2.1 1114 = .ok (.iload_n 3, 1) := by decide +kernel
theorem d_L_law_1115 : decode I_L_law.2.1 1115 = .ok (.iconst 3, 1) := by decide +kernel
theorem d_L_law_1116 : decode I_L_law.2.1 1116 = .ok (.iadd, 1) := by decide +kernel
theorem d_L_law_1117 : decode I_L_law.2.1 1117 = .ok (.iaload, 1) := by decide +kernel
theorem d_L_law_1118 : decode I_L_law.2.1 1118 = .ok (.invokevirtual 139, 3) := by decide +kernel
theorem d_L_law_1121 : decode I_L_law.2.1 1121 = .ok (.if_icmp .eq 138, 3) := by decide +kernel
theorem d_L_law_1124 : decode I_L_law.2.1 1124 = .ok (.iconst 0, 1) := by decide +kernel
theorem d_L_law_1125 : decode I_L_law.2.1 1125 = .ok (.ireturn, 1) := by decide +kernel
theorem d_L_law_1126 : decode I_L_law.2.1 1126 = .ok (.aload_n 1, 1) := by decide +kernel
theorem d_L_law_1127 : decode I_L_law.2.1 1127 = .ok (.aload_n 0, 1) := by decide +kernel
theorem d_L_law_1128 : decode I_L_law.2.1 1128 = .ok (.iload_n 3, 1) := by decide +kernel
theorem d_L_law_1129 : decode I_L_law.2.1 1129 = .ok (.iconst 1, 1) := by decide +kernel
theorem d_L_law_1130 : decode I_L_law.2.1 1130 = .ok (.iadd, 1) := by decide +kernel
theorem d_L_law_1131 : decode I_L_law.2.1 1131 = .ok (.iaload, 1) := by decide +kernel
theorem d_L_law_1132 : decode I_L_law.2.1 1132 = .ok (.aload_n 0, 1) := by decide +kernel
theorem d_L_law_1133 : decode I_L_law.2.1 1133 = .ok (.iload_n 3, 1) := by decide +kernel
theorem d_L_law_1134 : decode I_L_law.2.1 1134 = .ok (.iconst 2, 1) := by decide +kernel
theorem d_L_law_1135 : decode I_L_law.2.1 1135 = .ok (.iadd, 1) := by decide +kernel
theorem d_L_law_1136 : decode I_L_law.2.1 1136 = .ok (.iaload, 1) := by decide +kernel
theorem d_L_law_1137 : decode I_L_law.2.1 1137 = .ok (.aload_n 0, 1) := by decide +kernel
theorem d_L_law_1138 : decode I_L_law.2.1 1138 = .ok (.iload_n 3, 1) := by decide +kernel
theorem d_L_law_1139 : decode I_L_law.2.1 1139 = .ok (.iconst 3, 1) := by decide +kernel
theorem d_L_law_1140 : decode I_L_law.2.1 1140 = .ok (.iadd, 1) := by decide +kernel
theorem d_L_law_1141 : decode I_L_law.2.1 1141 = .ok (.iaload, 1) := by decide +kernel
theorem d_L_law_1142 : decode I_L_law.2.1 1142 = .ok (.aload_n 0, 1) := by decide +kernel
theorem d_L_law_1143 : decode I_L_law.2.1 1143 = .ok (.iload_n 3, 1) := by decide +kernel
theorem d_L_law_1144 : decode I_L_law.2.1 1144 = .ok (.iconst 4, 1) := by decide +kernel
theorem d_L_law_1145 : decode I_L_law.2.1 1145 = .ok (.iadd, 1) := by decide +kernel
theorem d_L_law_1146 : decode I_L_law.2.1 1146 = .ok (.iaload, 1) := by decide +kernel
theorem d_L_law_1147 : decode I_L_law.2.1 1147 = .ok (.aload_n 0, 1) := by decide +kernel
theorem d_L_law_1148 : decode I_L_law.2.1 1148 = .ok (.iload_n 3, 1) := by decide +kernel
theorem d_L_law_1149 : decode I_L_law.2.1 1149 = .ok (.iconst 5, 1) := by decide +kernel
theorem d_L_law_1150 : decode I_L_law.2.1 1150 = .ok (.iadd, 1) := by decide +kernel
theorem d_L_law_1151 : decode I_L_law.2.1 1151 = .ok (.iaload, 1) := by decide +kernel
theorem d_L_law_1152 : decode I_L_law.2.1 1152 = .ok (.invokevirtual 140, 3) := by decide +kernel
theorem d_L_law_1155 : decode I_L_law.2.1 1155 = .ok (.aload_n 2, 1) := by decide +kernel
theorem d_L_law_1156 : decode I_L_law.2.1 1156 = .ok (.aload_n 0, 1) := by decide +kernel
theorem d_L_law_1157 : decode I_L_law.2.1 1157 = .ok (.iload_n 3, 1) := by decide +kernel
theorem d_L_law_1158 : decode I_L_law.2.1 1158 = .ok (.iconst 1, 1) := by decide +kernel
theorem d_L_law_1159 : decode I_L_law.2.1 1159 = .ok (.iadd, 1) := by decide +kernel
theorem d_L_law_1160 : decode I_L_law.2.1 1160 = .ok (.iaload, 1) := by decide +kernel
theorem d_L_law_1161 : decode I_L_law.2.1 1161 = .ok (.aload_n 0, 1) := by decide +kernel
theorem d_L_law_1162 : decode I_L_law.2.1 1162 = .ok (.iload_n 3, 1) := by decide +kernel
theorem d_L_law_1163 : decode I_L_law.2.1 1163 = .ok (.iconst 2, 1) := by decide +kernel
theorem d_L_law_1164 : decode I_L_law.2.1 1164 = .ok (.iadd, 1) := by decide +kernel
theorem d_L_law_1165 : decode I_L_law.2.1 1165 = .ok (.iaload, 1) := by decide +kernel
theorem d_L_law_1166 : decode I_L_law.2.1 1166 = .ok (.aload_n 0, 1) := by decide +kernel
theorem d_L_law_1167 : decode I_L_law.2.1 1167 = .ok (.iload_n 3, 1) := by decide +kernel
theorem d_L_law_1168 : decode I_L_law.2.1 1168 = .ok (.iconst 3, 1) := by decide +kernel
theorem d_L_law_1169 : decode I_L_law.2.1 1169 = .ok (.iadd, 1) := by decide +kernel
theorem d_L_law_1170 : decode I_L_law.2.1 1170 = .ok (.iaload, 1) := by decide +kernel
theorem d_L_law_1171 : decode I_L_law.2.1 1171 = .ok (.aload_n 0, 1) := by decide +kernel
theorem d_L_law_1172 : decode I_L_law.2.1 1172 = .ok (.iload_n 3, 1) := by decide +kernel
theorem d_L_law_1173 : decode I_L_law.2.1 1173 = .ok (.iconst 4, 1) := by decide +kernel
theorem d_L_law_1174 : decode I_L_law.2.1 1174 = .ok (.iadd, 1) := by decide +kernel
theorem d_L_law_1175 : decode I_L_law.2.1 1175 = .ok (.iaload, 1) := by decide +kernel
theorem d_L_law_1176 : decode I_L_law.2.1 1176 = .ok (.aload_n 0, 1) := by decide +kernel
theorem d_L_law_1177 : decode I_L_law.2.1 1177 = .ok (.iload_n 3, 1) := by decide +kernel
theorem d_L_law_1178 : decode I_L_law.2.1 1178 = .ok (.iconst 5, 1) := by decide +kernel
theorem d_L_law_1179 : decode I_L_law.2.1 1179 = .ok (.iadd, 1) := by decide +kernel
theorem d_L_law_1180 : decode I_L_law.2.1 1180 = .ok (.iaload, 1) := by decide +kernel
theorem d_L_law_1181 : decode I_L_law.2.1 1181 = .ok (.invokevirtual 144, 3) := by decide +kernel
theorem d_L_law_1184 : decode I_L_law.2.1 1184 = .ok (.if_icmp .eq 75, 3) := by decide +kernel
theorem d_L_law_1187 : decode I_L_law.2.1 1187 = .ok (.iconst 0, 1) := by decide +kernel
theorem d_L_law_1188 : decode I_L_law.2.1 1188 = .ok (.ireturn, 1) := by decide +kernel
theorem d_L_law_1189 : decode I_L_law.2.1 1189 = .ok (.aload_n 1, 1) := by decide +kernel
theorem d_L_law_1190 : decode I_L_law.2.1 1190 = .ok (.aload_n 0, 1) := by decide +kernel
theorem d_L_law_1191 : decode I_L_law.2.1 1191 = .ok (.iload_n 3, 1) := by decide +kernel
theorem d_L_law_1192 : decode I_L_law.2.1 1192 = .ok (.iconst 1, 1) := by decide +kernel
theorem d_L_law_1193 : decode I_L_law.2.1 1193 = .ok (.iadd, 1) := by decide +kernel
theorem d_L_law_1194 : decode I_L_law.2.1 1194 = .ok (.iaload, 1) := by decide +kernel
theorem d_L_law_1195 : decode I_L_law.2.1 1195 = .ok (.aload_n 0, 1) := by decide +kernel
theorem d_L_law_1196 : decode I_L_law.2.1 1196 = .ok (.iload_n 3, 1) := by decide +kernel
theorem d_L_law_1197 : decode I_L_law.2.1 1197 = .ok (.iconst 2, 1) := by decide +kernel
theorem d_L_law_1198 : decode I_L_law.2.1 1198 = .ok (.iadd, 1) := by decide +kernel
theorem d_L_law_1199 : decode I_L_law.2.1 1199 = .ok (.iaload, 1) := by decide +kernel
theorem d_L_law_1200 : decode I_L_law.2.1 1200 = .ok (.invokevirtual 145, 3) := by decide +kernel
theorem d_L_law_1203 : decode I_L_law.2.1 1203 = .ok (.aload_n 2, 1) := by decide +kernel
theorem d_L_law_1204 : decode I_L_law.2.1 1204 = .ok (.aload_n 0, 1) := by decide +kernel
theorem d_L_law_1205 : decode I_L_law.2.1 1205 = .ok (.iload_n 3, 1) := by decide +kernel
theorem d_L_law_1206 : decode I_L_law.2.1 1206 = .ok (.iconst 1, 1) := by decide +kernel
theorem d_L_law_1207 : decode I_L_law.2.1 1207 = .ok (.iadd, 1) := by decide +kernel
theorem d_L_law_1208 : decode I_L_law.2.1 1208 = .ok (.iaload, 1) := by decide +kernel
theorem d_L_law_1209 : decode I_L_law.2.1 1209 = .ok (.aload_n 0, 1) := by decide +kernel
theorem d_L_law_1210 : decode I_L_law.2.1 1210 = .ok (.iload_n 3, 1) := by decide +kernel
theorem d_L_law_1211 : decode I_L_law.2.1 1211 = .ok (.iconst 2, 1) := by decide +kernel
theorem d_L_law_1212 : decode I_L_law.2.1 1212 = .ok (.iadd, 1) := by decide +kernel
theorem d_L_law_1213 : decode I_L_law.2.1 1213 = .ok (.iaload, 1) := by decide +kernel
theorem d_L_law_1214 : decode I_L_law.2.1 1214 = .ok (.invokevirtual 148, 3) := by decide +kernel
theorem d_L_law_1217 : decode I_L_law.2.1 1217 = .ok (.if_icmp .eq 42, 3) := by decide +kernel
theorem d_L_law_1220 : decode I_L_law.2.1 1220 = .ok (.iconst 0, 1) := by decide +kernel
theorem d_L_law_1221 : decode I_L_law.2.1 1221 = .ok (.ireturn, 1) := by decide +kernel
theorem d_L_law_1222 : decode I_L_law.2.1 1222 = .ok (.aload_n 1, 1) := by decide +kernel
theorem d_L_law_1223 : decode I_L_law.2.1 1223 = .ok (.aload_n 0, 1) := by decide +kernel
theorem d_L_law_1224 : decode I_L_law.2.1 1224 = .ok (.iload_n 3, 1) := by decide +kernel
theorem d_L_law_1225 : decode I_L_law.2.1 1225 = .ok (.iconst 1, 1) := by decide +kernel
theorem d_L_law_1226 : decode I_L_law.2.1 1226 = .ok (.iadd, 1) := by decide +kernel
theorem d_L_law_1227 : decode I_L_law.2.1 1227 = .ok (.iaload, 1) := by decide +kernel
theorem d_L_law_1228 : decode I_L_law.2.1 1228 = .ok (.invokevirtual 149, 3) := by decide +kernel
theorem d_L_law_1231 : decode I_L_law.2.1 1231 = .ok (.aload_n 2, 1) := by decide +kernel
theorem d_L_law_1232 : decode I_L_law.2.1 1232 = .ok (.aload_n 0, 1) := by decide +kernel
theorem d_L_law_1233 : decode I_L_law.2.1 1233 = .ok (.iload_n 3, 1) := by decide +kernel
theorem d_L_law_1234 : decode I_L_law.2.1 1234 = .ok (.iconst 1, 1) := by decide +kernel
theorem d_L_law_1235 : decode I_L_law.2.1 1235 = .ok (.iadd, 1) := by decide +kernel
theorem d_L_law_1236 : decode I_L_law.2.1 1236 = .ok (.iaload, 1) := by decide +kernel
theorem d_L_law_1237 : decode I_L_law.2.1 1237 = .ok (.invokevirtual 152, 3) := by decide +kernel
theorem d_L_law_1240 : decode I_L_law.2.1 1240 = .ok (.if_icmp .eq 19, 3) := by decide +kernel
theorem d_L_law_1243 : decode I_L_law.2.1 1243 = .ok (.iconst 0, 1) := by decide +kernel
theorem d_L_law_1244 : decode I_L_law.2.1 1244 = .ok (.ireturn, 1) := by decide +kernel
theorem d_L_law_1245 : decode I_L_law.2.1 1245 = .ok (.aload_n 1, 1) := by decide +kernel
theorem d_L_law_1246 : decode I_L_law.2.1 1246 = .ok (.invokevirtual 153, 3) := by decide +kernel
theorem d_L_law_1249 : decode I_L_law.2.1 1249 = .ok (.aload_n 2, 1) := by decide +kernel
theorem d_L_law_1250 : decode I_L_law.2.1 1250 = .ok (.invokevirtual 157, 3) := by decide +kernel
theorem d_L_law_1253 : decode I_L_law.2.1 1253 = .ok (.lcmp, 1) := by decide +kernel
theorem d_L_law_1254 : decode I_L_law.2.1 1254 = .ok (.ifCond .eq 5, 3) := by decide +kernel
theorem d_L_law_1257 : decode I_L_law.2.1 1257 = .ok (.iconst 0, 1) := by decide +kernel
theorem d_L_law_1258 : decode I_L_law.2.1 1258 = .ok (.ireturn, 1) := by decide +kernel
theorem d_L_law_1259 : decode I_L_law.2.1 1259 = .ok (.iinc 3 6, 3) := by decide +kernel
theorem d_L_law_1262 : decode I_L_law.2.1 1262 = .ok (.goto (-1244), 3) := by decide +kernel
theorem d_L_law_1265 : decode I_L_law.2.1 1265 = .ok (.iconst 1, 1) := by decide +kernel
theorem d_L_law_1266 : decode I_L_law.2.1 1266 = .ok (.ireturn, 1) := by decide +kernel
