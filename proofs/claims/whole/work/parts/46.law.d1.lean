theorem d_LW_law_237 : decode b_LW_law 237 = .ok (.iaload, 1) := by decide +kernel
theorem d_LW_law_238 : decode b_LW_law 238 = .ok (.aload_n 0, 1) := by decide +kernel
theorem d_LW_law_239 : decode b_LW_law 239 = .ok (.iload 4, 2) := by decide +kernel
theorem d_LW_law_241 : decode b_LW_law 241 = .ok (.iconst 2, 1) := by decide +kernel
theorem d_LW_law_242 : decode b_LW_law 242 = .ok (.iadd, 1) := by decide +kernel
theorem d_LW_law_243 : decode b_LW_law 243 = .ok (.iaload, 1) := by decide +kernel
theorem d_LW_law_244 : decode b_LW_law 244 = .ok (.aload_n 0, 1) := by decide +kernel
theorem d_LW_law_245 : decode b_LW_law 245 = .ok (.iload 4, 2) := by decide +kernel
theorem d_LW_law_247 : decode b_LW_law 247 = .ok (.iconst 3, 1) := by decide +kernel
theorem d_LW_law_248 : decode b_LW_law 248 = .ok (.iadd, 1) := by decide +kernel
theorem d_LW_law_249 : decode b_LW_law 249 = .ok (.iaload, 1) := by decide +kernel
theorem d_LW_law_250 : decode b_LW_law 250 = .ok (.aload_n 0, 1) := by decide +kernel
theorem d_LW_law_251 : decode b_LW_law 251 = .ok (.iload 4, 2) := by decide +kernel
theorem d_LW_law_253 : decode b_LW_law 253 = .ok (.iconst 4, 1) := by decide +kernel
theorem d_LW_law_254 : decode b_LW_law 254 = .ok (.iadd, 1) := by decide +kernel
theorem d_LW_law_255 : decode b_LW_law 255 = .ok (.iaload, 1) := by decide +kernel
theorem d_LW_law_256 : decode b_LW_law 256 = .ok (.aload_n 0, 1) := by decide +kernel
theorem d_LW_law_257 : decode b_LW_law 257 = .ok (.iload 4, 2) := by decide +kernel
theorem d_LW_law_259 : decode b_LW_law 259 = .ok (.iconst 5, 1) := by decide +kernel
theorem d_LW_law_260 : decode b_LW_law 260 = .ok (.iadd, 1) := by decide +kernel
theorem d_LW_law_261 : decode b_LW_law 261 = .ok (.iaload, 1) := by decide +kernel
theorem d_LW_law_262 : decode b_LW_law 262 = .ok (.aload_n 3, 1) := by decide +kernel
theorem d_LW_law_263 : decode b_LW_law 263 = .ok (.invokestatic 63, 3) := by decide +kernel
theorem d_LW_law_266 : decode b_LW_law 266 = .ok (.istore 5, 2) := by decide +kernel
theorem d_LW_law_268 : decode b_LW_law 268 = .ok (.aload_n 2, 1) := by decide +kernel
theorem d_LW_law_269 : decode b_LW_law 269 = .ok (.aload_n 0, 1) := by decide +kernel
theorem d_LW_law_270 : decode b_LW_law 270 = .ok (.iload 4, 2) := by decide +kernel
theorem d_LW_law_272 : decode b_LW_law 272 = .ok (.iconst 1, 1) := by decide +kernel
theorem d_LW_law_273 : decode b_LW_law 273 = .ok (.iadd, 1) := by decide +kernel
theorem d_LW_law_274 : decode b_LW_law 274 = .ok (.iaload, 1) := by decide +kernel
theorem d_LW_law_275 : decode b_LW_law 275 = .ok (.aload_n 0, 1) := by decide +kernel
theorem d_LW_law_276 : decode b_LW_law 276 = .ok (.iload 4, 2) := by decide +kernel
theorem d_LW_law_278 : decode b_LW_law 278 = .ok (.iconst 2, 1) := by decide +kernel
theorem d_LW_law_279 : decode b_LW_law 279 = .ok (.iadd, 1) := by decide +kernel
theorem d_LW_law_280 : decode b_LW_law 280 = .ok (.iaload, 1) := by decide +kernel
theorem d_LW_law_281 : decode b_LW_law 281 = .ok (.aload_n 0, 1) := by decide +kernel
theorem d_LW_law_282 : decode b_LW_law 282 = .ok (.iload 4, 2) := by decide +kernel
theorem d_LW_law_284 : decode b_LW_law 284 = .ok (.iconst 3, 1) := by decide +kernel
theorem d_LW_law_285 : decode b_LW_law 285 = .ok (.iadd, 1) := by decide +kernel
theorem d_LW_law_286 : decode b_LW_law 286 = .ok (.iaload, 1) := by decide +kernel
theorem d_LW_law_287 : decode b_LW_law 287 = .ok (.aload_n 0, 1) := by decide +kernel
theorem d_LW_law_288 : decode b_LW_law 288 = .ok (.iload 4, 2) := by decide +kernel
theorem d_LW_law_290 : decode b_LW_law 290 = .ok (.iconst 4, 1) := by decide +kernel
theorem d_LW_law_291 : decode b_LW_law 291 = .ok (.iadd, 1) := by decide +kernel
theorem d_LW_law_292 : decode b_LW_law 292 = .ok (.iaload, 1) := by decide +kernel
theorem d_LW_law_293 : decode b_LW_law 293 = .ok (.aload_n 0, 1) := by decide +kernel
theorem d_LW_law_294 : decode b_LW_law 294 = .ok (.iload 4, 2) := by decide +kernel
theorem d_LW_law_296 : decode b_LW_law 296 = .ok (.iconst 5, 1) := by decide +kernel
theorem d_LW_law_297 : decode b_LW_law 297 = .ok (.iadd, 1) := by decide +kernel
theorem d_LW_law_298 : decode b_LW_law 298 = .ok (.iaload, 1) := by decide +kernel
theorem d_LW_law_299 : decode b_LW_law 299 = .ok (.invokevirtual 66, 3) := by decide +kernel
theorem d_LW_law_302 : decode b_LW_law 302 = .ok (.istore 6, 2) := by decide +kernel
theorem d_LW_law_304 : decode b_LW_law 304 = .ok (.aload_n 2, 1) := by decide +kernel
theorem d_LW_law_305 : decode b_LW_law 305 = .ok (.invokevirtual 60, 3) := by decide +kernel
theorem d_LW_law_308 : decode b_LW_law 308 = .ok (.iload 5, 2) := by decide +kernel
theorem d_LW_law_310 : decode b_LW_law 310 = .ok (.if_icmp .eq 5, 3) := by decide +kernel
theorem d_LW_law_313 : decode b_LW_law 313 = .ok (.iconst 0, 1) := by decide +kernel
theorem d_LW_law_314 : decode b_LW_law 314 = .ok (.ireturn, 1) := by decide +kernel
theorem d_LW_law_315 : decode b_LW_law 315 = .ok (.iload 5, 2) := by decide +kernel
theorem d_LW_law_317 : decode b_LW_law 317 = .ok (.ifCond .ne 15, 3) := by decide +kernel
theorem d_LW_law_320 : decode b_LW_law 320 = .ok (.aload_n 3, 1) := by decide +kernel
theorem d_LW_law_321 : decode b_LW_law 321 = .ok (.iconst 0, 1) := by decide +kernel
theorem d_LW_law_322 : decode b_LW_law 322 = .ok (.laload, 1) := by decide +kernel
theorem d_LW_law_323 : decode b_LW_law 323 = .ok (.iload 6, 2) := by decide +kernel
theorem d_LW_law_325 : decode b_LW_law 325 = .ok (.i2l, 1) := by decide +kernel
theorem d_LW_law_326 : decode b_LW_law 326 = .ok (.lcmp, 1) := by decide +kernel
theorem d_LW_law_327 : decode b_LW_law 327 = .ok (.ifCond .eq 5, 3) := by decide +kernel
theorem d_LW_law_330 : decode b_LW_law 330 = .ok (.iconst 0, 1) := by decide +kernel
theorem d_LW_law_331 : decode b_LW_law 331 = .ok (.ireturn, 1) := by decide +kernel
theorem d_LW_law_332 : decode b_LW_law 332 = .ok (.goto 509, 3) := by decide +kernel
theorem d_LW_law_335 : decode b_LW_law 335 = .ok (.aload_n 1, 1) := by decide +kernel
theorem d_LW_law_336 : decode b_LW_law 336 = .ok (.aload_n 0, 1) := by decide +kernel
theorem d_LW_law_337 : decode b_LW_law 337 = .ok (.iload 4, 2) := by decide +kernel
theorem d_LW_law_339 : decode b_LW_law 339 = .ok (.iconst 1, 1) := by decide +kernel
theorem d_LW_law_340 : decode b_LW_law 340 = .ok (.iadd, 1) := by decide +kernel
theorem d_LW_law_341 : decode b_LW_law 341 = .ok (.iaload, 1) := by decide +kernel
theorem d_LW_law_342 : decode b_LW_law 342 = .ok (.aload_n 0, 1) := by decide +kernel
theorem d_LW_law_343 : decode b_LW_law 343 = .ok (.iload 4, 2) := by decide +kernel
theorem d_LW_law_345 : decode b_LW_law 345 = .ok (.iconst 2, 1) := by decide +kernel
theorem d_LW_law_346 : decode b_LW_law 346 = .ok (.iadd, 1) := by decide +kernel
theorem d_LW_law_347 : decode b_LW_law 347 = .ok (.iaload, 1) := by decide +kernel
theorem d_LW_law_348 : decode b_LW_law 348 = .ok (.aload_n 3, 1) := by decide +kernel
theorem d_LW_law_349 : decode b_LW_law 349 = .ok (.invokestatic 67, 3) := by decide +kernel
theorem d_LW_law_352 : decode b_LW_law 352 = .ok (.istore 5, 2) := by decide +kernel
theorem d_LW_law_354 : decode b_LW_law 354 = .ok (.aload_n 2, 1) := by decide +kernel
theorem d_LW_law_355 : decode b_LW_law 355 = .ok (.aload_n 0, 1) := by decide +kernel
theorem d_LW_law_356 : decode b_LW_law 356 = .ok (.iload 4, 2) := by decide +kernel
theorem d_LW_law_358 : decode b_LW_law 358 = .ok (.iconst 1, 1) := by decide +kernel
theorem d_LW_law_359 : decode b_LW_law 359 = .ok (.iadd, 1) := by decide +kernel
theorem d_LW_law_360 : decode b_LW_law 360 = .ok (.iaload, 1) := by decide +kernel
theorem d_LW_law_361 : decode b_LW_law 361 = .ok (.aload_n 0, 1) := by decide +kernel
theorem d_LW_law_362 : decode b_LW_law 362 = .ok (.iload 4, 2) := by decide +kernel
theorem d_LW_law_364 : decode b_LW_law 364 = .ok (.iconst 2, 1) := by decide +kernel
theorem d_LW_law_365 : decode b_LW_law 365 = .ok (.iadd, 1) := by decide +kernel
theorem d_LW_law_366 : decode b_LW_law 366 = .ok (.iaload, 1) := by decide +kernel
theorem d_LW_law_367 : decode b_LW_law 367 = .ok (.invokevirtual 70, 3) := by decide +kernel
theorem d_LW_law_370 : decode b_LW_law 370 = .ok (.istore 6, 2) := by decide +kernel
theorem d_LW_law_372 : decode b_LW_law 372 = .ok (.aload_n 2, 1) := by decide +kernel
theorem d_LW_law_373 : decode b_LW_law 373 = .ok (.invokevirtual 60, 3) := by decide +kernel
theorem d_LW_law_376 : decode b_LW_law 376 = .ok (.iload 5, 2) := by decide +kernel
