theorem d_JUtf_checkIndex_2 : decode M_JUtf_checkIndex.2.1 2 = .ok (.invokestatic 48, 3) := by decide +kernel
theorem d_JUtf_checkIndex_5 : decode M_JUtf_checkIndex.2.1 5 = .ok (.invokestatic 414, 3) := by decide +kernel
theorem d_JUtf_checkIndex_8 : decode M_JUtf_checkIndex.2.1 8 = .ok (.return_, 1) := by decide +kernel
theorem d_JArr_fillJ_0 : decode M_JArr_fillJ.2.1 0 = .ok (.iconst 0, 1) := by decide +kernel
theorem d_JArr_fillJ_1 : decode M_JArr_fillJ.2.1 1 = .ok (.istore_n 3, 1) := by decide +kernel
theorem d_JArr_fillJ_2 : decode M_JArr_fillJ.2.1 2 = .ok (.aload_n 0, 1) := by decide +kernel
theorem d_JArr_fillJ_3 : decode M_JArr_fillJ.2.1 3 = .ok (.arraylength, 1) := by decide +kernel
theorem d_JArr_fillJ_4 : decode M_JArr_fillJ.2.1 4 = .ok (.istore 4, 2) := by decide +kernel
theorem d_JArr_fillJ_6 : decode M_JArr_fillJ.2.1 6 = .ok (.iload_n 3, 1) := by decide +kernel
theorem d_JArr_fillJ_7 : decode M_JArr_fillJ.2.1 7 = .ok (.iload 4, 2) := by decide +kernel
theorem d_JArr_fillJ_9 : decode M_JArr_fillJ.2.1 9 = .ok (.if_icmp .ge 13, 3) := by decide +kernel
theorem d_JArr_fillJ_12 : decode M_JArr_fillJ.2.1 12 = .ok (.aload_n 0, 1) := by decide +kernel
theorem d_JArr_fillJ_13 : decode M_JArr_fillJ.2.1 13 = .ok (.iload_n 3, 1) := by decide +kernel
theorem d_JArr_fillJ_14 : decode M_JArr_fillJ.2.1 14 = .ok (.lload_n 1, 1) := by decide +kernel
theorem d_JArr_fillJ_15 : decode M_JArr_fillJ.2.1 15 = .ok (.lastore, 1) := by decide +kernel
theorem d_JArr_fillJ_16 : decode M_JArr_fillJ.2.1 16 = .ok (.iinc 3 1, 3) := by decide +kernel
theorem d_JArr_fillJ_19 : decode M_JArr_fillJ.2.1 19 = .ok (.goto (-13), 3) := by decide +kernel
theorem d_JArr_fillJ_22 : decode M_JArr_fillJ.2.1 22 = .ok (.return_, 1) := by decide +kernel
theorem d_JArr_fillI_0 : decode M_JArr_fillI.2.1 0 = .ok (.iconst 0, 1) := by decide +kernel
theorem d_JArr_fillI_1 : decode M_JArr_fillI.2.1 1 = .ok (.istore_n 2, 1) := by decide +kernel
theorem d_JArr_fillI_2 : decode M_JArr_fillI.2.1 2 = .ok (.aload_n 0, 1) := by decide +kernel
theorem d_JArr_fillI_3 : decode M_JArr_fillI.2.1 3 = .ok (.arraylength, 1) := by decide +kernel
theorem d_JArr_fillI_4 : decode M_JArr_fillI.2.1 4 = .ok (.istore_n 3, 1) := by decide +kernel
theorem d_JArr_fillI_5 : decode M_JArr_fillI.2.1 5 = .ok (.iload_n 2, 1) := by decide +kernel
theorem d_JArr_fillI_6 : decode M_JArr_fillI.2.1 6 = .ok (.iload_n 3, 1) := by decide +kernel
theorem d_JArr_fillI_7 : decode M_JArr_fillI.2.1 7 = .ok (.if_icmp .ge 13, 3) := by decide +kernel
theorem d_JArr_fillI_10 : decode M_JArr_fillI.2.1 10 = .ok (.aload_n 0, 1) := by decide +kernel
theorem d_JArr_fillI_11 : decode M_JArr_fillI.2.1 11 = .ok (.iload_n 2, 1) := by decide +kernel
theorem d_JArr_fillI_12 : decode M_JArr_fillI.2.1 12 = .ok (.iload_n 1, 1) := by decide +kernel
theorem d_JArr_fillI_13 : decode M_JArr_fillI.2.1 13 = .ok (.iastore, 1) := by decide +kernel
theorem d_JArr_fillI_14 : decode M_JArr_fillI.2.1 14 = .ok (.iinc 2 1, 3) := by decide +kernel
theorem d_JArr_fillI_17 : decode M_JArr_fillI.2.1 17 = .ok (.goto (-12), 3) := by decide +kernel
theorem d_JArr_fillI_20 : decode M_JArr_fillI.2.1 20 = .ok (.return_, 1) := by decide +kernel
theorem d_JPre_checkIndex_0 : decode M_JPre_checkIndex.2.1 0 = .ok (.iload_n 0, 1) := by decide +kernel
theorem d_JPre_checkIndex_1 : decode M_JPre_checkIndex.2.1 1 = .ok (.ifCond .lt 8, 3) := by decide +kernel
theorem d_JPre_checkIndex_4 : decode M_JPre_checkIndex.2.1 4 = .ok (.iload_n 0, 1) := by decide +kernel
theorem d_JPre_checkIndex_5 : decode M_JPre_checkIndex.2.1 5 = .ok (.iload_n 1, 1) := by decide +kernel
theorem d_JPre_checkIndex_6 : decode M_JPre_checkIndex.2.1 6 = .ok (.if_icmp .lt 10, 3) := by decide +kernel
theorem d_JPre_checkIndex_9 : decode M_JPre_checkIndex.2.1 9 = .ok (.aload_n 2, 1) := by decide +kernel
theorem d_JPre_checkIndex_10 : decode M_JPre_checkIndex.2.1 10 = .ok (.iload_n 0, 1) := by decide +kernel
theorem d_JPre_checkIndex_11 : decode M_JPre_checkIndex.2.1 11 = .ok (.iload_n 1, 1) := by decide +kernel
theorem d_JPre_checkIndex_12 : decode M_JPre_checkIndex.2.1 12 = .ok (.invokestatic 95, 3) := by decide +kernel
theorem d_JPre_checkIndex_15 : decode M_JPre_checkIndex.2.1 15 = .ok (.athrow, 1) := by decide +kernel
theorem d_JPre_checkIndex_16 : decode M_JPre_checkIndex.2.1 16 = .ok (.iload_n 0, 1) := by decide +kernel
theorem d_JPre_checkIndex_17 : decode M_JPre_checkIndex.2.1 17 = .ok (.ireturn, 1) := by decide +kernel
theorem d_Law_law_0 : decode M_Law_law.2.1 0 = .ok (.new 7, 3) := by decide +kernel
theorem d_Law_law_3 : decode M_Law_law.2.1 3 = .ok (.dup, 1) := by decide +kernel
theorem d_Law_law_4 : decode M_Law_law.2.1 4 = .ok (.invokespecial 9, 3) := by decide +kernel
theorem d_Law_law_7 : decode M_Law_law.2.1 7 = .ok (.astore_n 1, 1) := by decide +kernel
theorem d_Law_law_8 : decode M_Law_law.2.1 8 = .ok (.new 10, 3) := by decide +kernel
theorem d_Law_law_11 : decode M_Law_law.2.1 11 = .ok (.dup, 1) := by decide +kernel
theorem d_Law_law_12 : decode M_Law_law.2.1 12 = .ok (.invokespecial 12, 3) := by decide +kernel
theorem d_Law_law_15 : decode M_Law_law.2.1 15 = .ok (.astore_n 2, 1) := by decide +kernel
theorem d_Law_law_16 : decode M_Law_law.2.1 16 = .ok (.iconst 0, 1) := by decide +kernel
theorem d_Law_law_17 : decode M_Law_law.2.1 17 = .ok (.istore_n 3, 1) := by decide +kernel
theorem d_Law_law_18 : decode M_Law_law.2.1 18 = .ok (.iload_n 3, 1) := by decide +kernel
theorem d_Law_law_19 : decode M_Law_law.2.1 19 = .ok (.aload_n 0, 1) := by decide +kernel
theorem d_Law_law_20 : decode M_Law_law.2.1 20 = .ok (.arraylength, 1) := by decide +kernel
theorem d_Law_law_21 : decode M_Law_law.2.1 21 = .ok (.bipush 6, 2) := by decide +kernel
theorem d_Law_law_23 : decode M_Law_law.2.1 23 = .ok (.isub, 1) := by decide +kernel
theorem d_Law_law_24 : decode M_Law_law.2.1 24 = .ok (.if_icmp .gt 1521, 3) := by decide +kernel
theorem d_Law_law_27 : decode M_Law_law.2.1 27 = .ok (.aload_n 0, 1) := by decide +kernel
theorem d_Law_law_28 : decode M_Law_law.2.1 28 = .ok (.iload_n 3, 1) := by decide +kernel
theorem d_Law_law_29 : decode M_Law_law.2.1 29 = .ok (.iaload, 1) := by decide +kernel
theorem d_Law_law_30 : decode M_Law_law.2.1 30 = .ok (.bipush 63, 2) := by decide +kernel
theorem d_Law_law_32 : decode M_Law_law.2.1 32 = .ok (.iand, 1) := by decide +kernel
theorem d_Law_law_33 : decode M_Law_law.2.1 33 = .ok (.tableswitch 1506 0 43 #[191, 204, 218, 232, 275, 348, 382, 445, 508, 531, 554, 577, 600, 633, 666, 699, 732, 765, 828, 871, 894, 917, 950, 963, 986, 1009, 1022, 1035, 1058, 1091, 1134, 1167, 1200, 1243, 1276, 1299, 1322, 1355, 1378, 1401, 1424, 1447, 1480, 1493], 191) := by decide +kernel
theorem d_Law_law_224 : decode M_Law_law.2.1 224 = .ok (.aload_n 1, 1) := by decide +kernel
theorem d_Law_law_225 : decode M_Law_law.2.1 225 = .ok (.invokevirtual 13, 3) := by decide +kernel
theorem d_Law_law_228 : decode M_Law_law.2.1 228 = .ok (.aload_n 2, 1) := by decide +kernel
theorem d_Law_law_229 : decode M_Law_law.2.1 229 = .ok (.invokevirtual 17, 3) := by decide +kernel
theorem d_Law_law_232 : decode M_Law_law.2.1 232 = .ok (.if_icmp .eq 1307, 3) := by decide +kernel
theorem d_Law_law_235 : decode M_Law_law.2.1 235 = .ok (.iconst 0, 1) := by decide +kernel
theorem d_Law_law_236 : decode M_Law_law.2.1 236 = .ok (.ireturn, 1) := by decide +kernel
theorem d_Law_law_237 : decode M_Law_law.2.1 237 = .ok (.aload_n 1, 1) := by decide +kernel
theorem d_Law_law_238 : decode M_Law_law.2.1 238 = .ok (.invokevirtual 18, 3) := by decide +kernel
theorem d_Law_law_241 : decode M_Law_law.2.1 241 = .ok (.aload_n 2, 1) := by decide +kernel
theorem d_Law_law_242 : decode M_Law_law.2.1 242 = .ok (.invokevirtual 22, 3) := by decide +kernel
theorem d_Law_law_245 : decode M_Law_law.2.1 245 = .ok (.lcmp, 1) := by decide +kernel
theorem d_Law_law_246 : decode M_Law_law.2.1 246 = .ok (.ifCond .eq 1293, 3) := by decide +kernel
theorem d_Law_law_249 : decode M_Law_law.2.1 249 = .ok (.iconst 0, 1) := by decide +kernel
theorem d_Law_law_250 : decode M_Law_law.2.1 250 = .ok (.ireturn, 1) := by decide +kernel
theorem d_Law_law_251 : decode M_Law_law.2.1 251 = .ok (.aload_n 1, 1) := by decide +kernel
theorem d_Law_law_252 : decode M_Law_law.2.1 252 = .ok (.invokevirtual 23, 3) := by decide +kernel
theorem d_Law_law_255 : decode M_Law_law.2.1 255 = .ok (.aload_n 2, 1) := by decide +kernel
theorem d_Law_law_256 : decode M_Law_law.2.1 256 = .ok (.invokevirtual 26, 3) := by decide +kernel
theorem d_Law_law_259 : decode M_Law_law.2.1 259 = .ok (.lcmp, 1) := by decide +kernel
theorem d_Law_law_260 : decode M_Law_law.2.1 260 = .ok (.ifCond .eq 1279, 3) := by decide +kernel
theorem d_Law_law_263 : decode M_Law_law.2.1 263 = .ok (.iconst 0, 1) := by decide +kernel
theorem d_Law_law_264 : decode M_Law_law.2.1 264 = .ok (.ireturn, 1) := by decide +kernel
theorem d_Law_law_265 : decode M_Law_law.2.1 265 = .ok (.aload_n 1, 1) := by decide +kernel
theorem d_Law_law_266 : decode M_Law_law.2.1 266 = .ok (.aload_n 0, 1) := by decide +kernel
theorem d_Law_law_267 : decode M_Law_law.2.1 267 = .ok (.iload_n 3, 1) := by decide +kernel
theorem d_Law_law_268 : decode M_Law_law.2.1 268 = .ok (.iconst 1, 1) := by decide +kernel
theorem d_Law_law_269 : decode M_Law_law.2.1 269 = .ok (.iadd, 1) := by decide +kernel
theorem d_Law_law_270 : decode M_Law_law.2.1 270 = .ok (.iaload, 1) := by decide +kernel
theorem d_Law_law_271 : decode M_Law_law.2.1 271 = .ok (.aload_n 0, 1) := by decide +kernel
theorem d_Law_law_272 : decode M_Law_law.2.1 272 = .ok (.iload_n 3, 1) := by decide +kernel
theorem d_Law_law_273 : decode M_Law_law.2.1 273 = .ok (.iconst 2, 1) := by decide +kernel
theorem d_Law_law_274 : decode M_Law_law.2.1 274 = .ok (.iadd, 1) := by decide +kernel
theorem d_Law_law_275 : decode M_Law_law.2.1 275 = .ok (.iaload, 1) := by decide +kernel
theorem d_Law_law_276 : decode M_Law_law.2.1 276 = .ok (.aload_n 0, 1) := by decide +kernel
theorem d_Law_law_277 : decode M_Law_law.2.1 277 = .ok (.iload_n 3, 1) := by decide +kernel
theorem d_Law_law_278 : decode M_Law_law.2.1 278 = .ok (.iconst 3, 1) := by decide +kernel
theorem d_Law_law_279 : decode M_Law_law.2.1 279 = .ok (.iadd, 1) := by decide +kernel
theorem d_Law_law_280 : decode M_Law_law.2.1 280 = .ok (.iaload, 1) := by decide +kernel
theorem d_Law_law_281 : decode M_Law_law.2.1 281 = .ok (.invokevirtual 27, 3) := by decide +kernel
theorem d_Law_law_284 : decode M_Law_law.2.1 284 = .ok (.aload_n 2, 1) := by decide +kernel
theorem d_Law_law_285 : decode M_Law_law.2.1 285 = .ok (.aload_n 0, 1) := by decide +kernel
theorem d_Law_law_286 : decode M_Law_law.2.1 286 = .ok (.iload_n 3, 1) := by decide +kernel
theorem d_Law_law_287 : decode M_Law_law.2.1 287 = .ok (.iconst 1, 1) := by decide +kernel
theorem d_Law_law_288 : decode M_Law_law.2.1 288 = .ok (.iadd, 1) := by decide +kernel
theorem d_Law_law_289 : decode M_Law_law.2.1 289 = .ok (.iaload, 1) := by decide +kernel
theorem d_Law_law_290 : decode M_Law_law.2.1 290 = .ok (.aload_n 0, 1) := by decide +kernel
theorem d_Law_law_291 : decode M_Law_law.2.1 291 = .ok (.iload_n 3, 1) := by decide +kernel
theorem d_Law_law_292 : decode M_Law_law.2.1 292 = .ok (.iconst 2, 1) := by decide +kernel
theorem d_Law_law_293 : decode M_Law_law.2.1 293 = .ok (.iadd, 1) := by decide +kernel
theorem d_Law_law_294 : decode M_Law_law.2.1 294 = .ok (.iaload, 1) := by decide +kernel
theorem d_Law_law_295 : decode M_Law_law.2.1 295 = .ok (.aload_n 0, 1) := by decide +kernel
theorem d_Law_law_296 : decode M_Law_law.2.1 296 = .ok (.iload_n 3, 1) := by decide +kernel
theorem d_Law_law_297 : decode M_Law_law.2.1 297 = .ok (.iconst 3, 1) := by decide +kernel
theorem d_Law_law_298 : decode M_Law_law.2.1 298 = .ok (.iadd, 1) := by decide +kernel
theorem d_Law_law_299 : decode M_Law_law.2.1 299 = .ok (.iaload, 1) := by decide +kernel
theorem d_Law_law_300 : decode M_Law_law.2.1 300 = .ok (.invokevirtual 31, 3) := by decide +kernel
theorem d_Law_law_303 : decode M_Law_law.2.1 303 = .ok (.if_icmp .eq 1236, 3) := by decide +kernel
theorem d_Law_law_306 : decode M_Law_law.2.1 306 = .ok (.iconst 0, 1) := by decide +kernel
theorem d_Law_law_307 : decode M_Law_law.2.1 307 = .ok (.ireturn, 1) := by decide +kernel
theorem d_Law_law_308 : decode M_Law_law.2.1 308 = .ok (.aload_n 1, 1) := by decide +kernel
theorem d_Law_law_309 : decode M_Law_law.2.1 309 = .ok (.aload_n 0, 1) := by decide +kernel
theorem d_Law_law_310 : decode M_Law_law.2.1 310 = .ok (.iload_n 3, 1) := by decide +kernel
theorem d_Law_law_311 : decode M_Law_law.2.1 311 = .ok (.iconst 1, 1) := by decide +kernel
theorem d_Law_law_312 : decode M_Law_law.2.1 312 = .ok (.iadd, 1) := by decide +kernel
theorem d_Law_law_313 : decode M_Law_law.2.1 313 = .ok (.iaload, 1) := by decide +kernel
theorem d_Law_law_314 : decode M_Law_law.2.1 314 = .ok (.aload_n 0, 1) := by decide +kernel
theorem d_Law_law_315 : decode M_Law_law.2.1 315 = .ok (.iload_n 3, 1) := by decide +kernel
theorem d_Law_law_316 : decode M_Law_law.2.1 316 = .ok (.iconst 2, 1) := by decide +kernel
theorem d_Law_law_317 : decode M_Law_law.2.1 317 = .ok (.iadd, 1) := by decide +kernel
theorem d_Law_law_318 : decode M_Law_law.2.1 318 = .ok (.iaload, 1) := by decide +kernel
theorem d_Law_law_319 : decode M_Law_law.2.1 319 = .ok (.aload_n 0, 1) := by decide +kernel
theorem d_Law_law_320 : decode M_Law_law.2.1 320 = .ok (.iload_n 3, 1) := by decide +kernel
theorem d_Law_law_321 : decode M_Law_law.2.1 321 = .ok (.iconst 3, 1) := by decide +kernel
theorem d_Law_law_322 : decode M_Law_law.2.1 322 = .ok (.iadd, 1) := by decide +kernel
theorem d_Law_law_323 : decode M_Law_law.2.1 323 = .ok (.iaload, 1) := by decide +kernel
theorem d_Law_law_324 : decode M_Law_law.2.1 324 = .ok (.i2l, 1) := by decide +kernel
theorem d_Law_law_325 : decode M_Law_law.2.1 325 = .ok (.bipush 32, 2) := by decide +kernel
theorem d_Law_law_327 : decode M_Law_law.2.1 327 = .ok (.lshl, 1) := by decide +kernel
theorem d_Law_law_328 : decode M_Law_law.2.1 328 = .ok (.aload_n 0, 1) := by decide +kernel
theorem d_Law_law_329 : decode M_Law_law.2.1 329 = .ok (.iload_n 3, 1) := by decide +kernel
theorem d_Law_law_330 : decode M_Law_law.2.1 330 = .ok (.iconst 4, 1) := by decide +kernel
theorem d_Law_law_331 : decode M_Law_law.2.1 331 = .ok (.iadd, 1) := by decide +kernel
theorem d_Law_law_332 : decode M_Law_law.2.1 332 = .ok (.iaload, 1) := by decide +kernel
theorem d_Law_law_333 : decode M_Law_law.2.1 333 = .ok (.i2l, 1) := by decide +kernel
theorem d_Law_law_334 : decode M_Law_law.2.1 334 = .ok (.ldc2_w 32, 3) := by decide +kernel
theorem d_Law_law_337 : decode M_Law_law.2.1 337 = .ok (.land, 1) := by decide +kernel
theorem d_Law_law_338 : decode M_Law_law.2.1 338 = .ok (.lor, 1) := by decide +kernel
theorem d_Law_law_339 : decode M_Law_law.2.1 339 = .ok (.invokevirtual 34, 3) := by decide +kernel
theorem d_Law_law_342 : decode M_Law_law.2.1 342 = .ok (.aload_n 2, 1) := by decide +kernel
theorem d_Law_law_343 : decode M_Law_law.2.1 343 = .ok (.aload_n 0, 1) := by decide +kernel
theorem d_Law_law_344 : decode M_Law_law.2.1 344 = .ok (.iload_n 3, 1) := by decide +kernel
theorem d_Law_law_345 : decode M_Law_law.2.1 345 = .ok (.iconst 1, 1) := by decide +kernel
theorem d_Law_law_346 : decode M_Law_law.2.1 346 = .ok (.iadd, 1) := by decide +kernel
theorem d_Law_law_347 : decode M_Law_law.2.1 347 = .ok (.iaload, 1) := by decide +kernel
theorem d_Law_law_348 : decode M_Law_law.2.1 348 = .ok (.aload_n 0, 1) := by decide +kernel
theorem d_Law_law_349 : decode M_Law_law.2.1 349 = .ok (.iload_n 3, 1) := by decide +kernel
theorem d_Law_law_350 : decode M_Law_law.2.1 350 = .ok (.iconst 2, 1) := by decide +kernel
theorem d_Law_law_351 : decode M_Law_law.2.1 351 = .ok (.iadd, 1) := by decide +kernel
theorem d_Law_law_352 : decode M_Law_law.2.1 352 = .ok (.iaload, 1) := by decide +kernel
theorem d_Law_law_353 : decode M_Law_law.2.1 353 = .ok (.aload_n 0, 1) := by decide +kernel
theorem d_Law_law_354 : decode M_Law_law.2.1 354 = .ok (.iload_n 3, 1) := by decide +kernel
theorem d_Law_law_355 : decode M_Law_law.2.1 355 = .ok (.iconst 3, 1) := by decide +kernel
theorem d_Law_law_356 : decode M_Law_law.2.1 356 = .ok (.iadd, 1) := by decide +kernel
theorem d_Law_law_357 : decode M_Law_law.2.1 357 = .ok (.iaload, 1) := by decide +kernel
theorem d_Law_law_358 : decode M_Law_law.2.1 358 = .ok (.i2l, 1) := by decide +kernel
theorem d_Law_law_359 : decode M_Law_law.2.1 359 = .ok (.bipush 32, 2) := by decide +kernel
theorem d_Law_law_361 : decode M_Law_law.2.1 361 = .ok (.lshl, 1) := by decide +kernel
theorem d_Law_law_362 : decode M_Law_law.2.1 362 = .ok (.aload_n 0, 1) := by decide +kernel
theorem d_Law_law_363 : decode M_Law_law.2.1 363 = .ok (.iload_n 3, 1) := by decide +kernel
theorem d_Law_law_364 : decode M_Law_law.2.1 364 = .ok (.iconst 4, 1) := by decide +kernel
theorem d_Law_law_365 : decode M_Law_law.2.1 365 = .ok (.iadd, 1) := by decide +kernel
theorem d_Law_law_366 : decode M_Law_law.2.1 366 = .ok (.iaload, 1) := by decide +kernel
theorem d_Law_law_367 : decode M_Law_law.2.1 367 = .ok (.i2l, 1) := by decide +kernel
theorem d_Law_law_368 : decode M_Law_law.2.1 368 = .ok (.ldc2_w 32, 3) := by decide +kernel
theorem d_Law_law_371 : decode M_Law_law.2.1 371 = .ok (.land, 1) := by decide +kernel
theorem d_Law_law_372 : decode M_Law_law.2.1 372 = .ok (.lor, 1) := by decide +kernel
theorem d_Law_law_373 : decode M_Law_law.2.1 373 = .ok (.invokevirtual 38, 3) := by decide +kernel
theorem d_Law_law_376 : decode M_Law_law.2.1 376 = .ok (.if_icmp .eq 1163, 3) := by decide +kernel
theorem d_Law_law_379 : decode M_Law_law.2.1 379 = .ok (.iconst 0, 1) := by decide +kernel
theorem d_Law_law_380 : decode M_Law_law.2.1 380 = .ok (.ireturn, 1) := by decide +kernel
theorem d_Law_law_381 : decode M_Law_law.2.1 381 = .ok (.aload_n 1, 1) := by decide +kernel
theorem d_Law_law_382 : decode M_Law_law.2.1 382 = .ok (.aload_n 0, 1) := by decide +kernel
theorem d_Law_law_383 : decode M_Law_law.2.1 383 = .ok (.iload_n 3, 1) := by decide +kernel
theorem d_Law_law_384 : decode M_Law_law.2.1 384 = .ok (.iconst 1, 1) := by decide +kernel
theorem d_Law_law_385 : decode M_Law_law.2.1 385 = .ok (.iadd, 1) := by decide +kernel
theorem d_Law_law_386 : decode M_Law_law.2.1 386 = .ok (.iaload, 1) := by decide +kernel
theorem d_Law_law_387 : decode M_Law_law.2.1 387 = .ok (.aload_n 0, 1) := by decide +kernel
theorem d_Law_law_388 : decode M_Law_law.2.1 388 = .ok (.iload_n 3, 1) := by decide +kernel
theorem d_Law_law_389 : decode M_Law_law.2.1 389 = .ok (.iconst 2, 1) := by decide +kernel
theorem d_Law_law_390 : decode M_Law_law.2.1 390 = .ok (.iadd, 1) := by decide +kernel
theorem d_Law_law_391 : decode M_Law_law.2.1 391 = .ok (.iaload, 1) := by decide +kernel
theorem d_Law_law_392 : decode M_Law_law.2.1 392 = .ok (.invokevirtual 39, 3) := by decide +kernel
theorem d_Law_law_395 : decode M_Law_law.2.1 395 = .ok (.aload_n 2, 1) := by decide +kernel
theorem d_Law_law_396 : decode M_Law_law.2.1 396 = .ok (.aload_n 0, 1) := by decide +kernel
theorem d_Law_law_397 : decode M_Law_law.2.1 397 = .ok (.iload_n 3, 1) := by decide +kernel
theorem d_Law_law_398 : decode M_Law_law.2.1 398 = .ok (.iconst 1, 1) := by decide +kernel
theorem d_Law_law_399 : decode M_Law_law.2.1 399 = .ok (.iadd, 1) := by decide +kernel
theorem d_Law_law_400 : decode M_Law_law.2.1 400 = .ok (.iaload, 1) := by decide +kernel
theorem d_Law_law_401 : decode M_Law_law.2.1 401 = .ok (.aload_n 0, 1) := by decide +kernel
theorem d_Law_law_402 : decode M_Law_law.2.1 402 = .ok (.iload_n 3, 1) := by decide +kernel
theorem d_Law_law_403 : decode M_Law_law.2.1 403 = .ok (.iconst 2, 1) := by decide +kernel
theorem d_Law_law_404 : decode M_Law_law.2.1 404 = .ok (.iadd, 1) := by decide +kernel
theorem d_Law_law_405 : decode M_Law_law.2.1 405 = .ok (.iaload, 1) := by decide +kernel
theorem d_Law_law_406 : decode M_Law_law.2.1 406 = .ok (.invokevirtual 43, 3) := by decide +kernel
theorem d_Law_law_409 : decode M_Law_law.2.1 409 = .ok (.lcmp, 1) := by decide +kernel
theorem d_Law_law_410 : decode M_Law_law.2.1 410 = .ok (.ifCond .eq 1129, 3) := by decide +kernel
theorem d_Law_law_413 : decode M_Law_law.2.1 413 = .ok (.iconst 0, 1) := by decide +kernel
theorem d_Law_law_414 : decode M_Law_law.2.1 414 = .ok (.ireturn, 1) := by decide +kernel
theorem d_Law_law_415 : decode M_Law_law.2.1 415 = .ok (.aload_n 1, 1) := by decide +kernel
theorem d_Law_law_416 : decode M_Law_law.2.1 416 = .ok (.aload_n 0, 1) := by decide +kernel
theorem d_Law_law_417 : decode M_Law_law.2.1 417 = .ok (.iload_n 3, 1) := by decide +kernel
theorem d_Law_law_418 : decode M_Law_law.2.1 418 = .ok (.iconst 1, 1) := by decide +kernel
theorem d_Law_law_419 : decode M_Law_law.2.1 419 = .ok (.iadd, 1) := by decide +kernel
theorem d_Law_law_420 : decode M_Law_law.2.1 420 = .ok (.iaload, 1) := by decide +kernel
theorem d_Law_law_421 : decode M_Law_law.2.1 421 = .ok (.aload_n 0, 1) := by decide +kernel
theorem d_Law_law_422 : decode M_Law_law.2.1 422 = .ok (.iload_n 3, 1) := by decide +kernel
theorem d_Law_law_423 : decode M_Law_law.2.1 423 = .ok (.iconst 2, 1) := by decide +kernel
theorem d_Law_law_424 : decode M_Law_law.2.1 424 = .ok (.iadd, 1) := by decide +kernel
theorem d_Law_law_425 : decode M_Law_law.2.1 425 = .ok (.iaload, 1) := by decide +kernel
theorem d_Law_law_426 : decode M_Law_law.2.1 426 = .ok (.aload_n 0, 1) := by decide +kernel
theorem d_Law_law_427 : decode M_Law_law.2.1 427 = .ok (.iload_n 3, 1) := by decide +kernel
theorem d_Law_law_428 : decode M_Law_law.2.1 428 = .ok (.iconst 3, 1) := by decide +kernel
theorem d_Law_law_429 : decode M_Law_law.2.1 429 = .ok (.iadd, 1) := by decide +kernel
theorem d_Law_law_430 : decode M_Law_law.2.1 430 = .ok (.iaload, 1) := by decide +kernel
theorem d_Law_law_431 : decode M_Law_law.2.1 431 = .ok (.aload_n 0, 1) := by decide +kernel
theorem d_Law_law_432 : decode M_Law_law.2.1 432 = .ok (.iload_n 3, 1) := by decide +kernel
theorem d_Law_law_433 : decode M_Law_law.2.1 433 = .ok (.iconst 4, 1) := by decide +kernel
theorem d_Law_law_434 : decode M_Law_law.2.1 434 = .ok (.iadd, 1) := by decide +kernel
theorem d_Law_law_435 : decode M_Law_law.2.1 435 = .ok (.iaload, 1) := by decide +kernel
theorem d_Law_law_436 : decode M_Law_law.2.1 436 = .ok (.aload_n 0, 1) := by decide +kernel
theorem d_Law_law_437 : decode M_Law_law.2.1 437 = .ok (.iload_n 3, 1) := by decide +kernel
theorem d_Law_law_438 : decode M_Law_law.2.1 438 = .ok (.iconst 5, 1) := by decide +kernel
theorem d_Law_law_439 : decode M_Law_law.2.1 439 = .ok (.iadd, 1) := by decide +kernel
theorem d_Law_law_440 : decode M_Law_law.2.1 440 = .ok (.iaload, 1) := by decide +kernel
theorem d_Law_law_441 : decode M_Law_law.2.1 441 = .ok (.invokevirtual 44, 3) := by decide +kernel
theorem d_Law_law_444 : decode M_Law_law.2.1 444 = .ok (.aload_n 2, 1) := by decide +kernel
theorem d_Law_law_445 : decode M_Law_law.2.1 445 = .ok (.aload_n 0, 1) := by decide +kernel
theorem d_Law_law_446 : decode M_Law_law.2.1 446 = .ok (.iload_n 3, 1) := by decide +kernel
theorem d_Law_law_447 : decode M_Law_law.2.1 447 = .ok (.iconst 1, 1) := by decide +kernel
theorem d_Law_law_448 : decode M_Law_law.2.1 448 = .ok (.iadd, 1) := by decide +kernel
theorem d_Law_law_449 : decode M_Law_law.2.1 449 = .ok (.iaload, 1) := by decide +kernel
theorem d_Law_law_450 : decode M_Law_law.2.1 450 = .ok (.aload_n 0, 1) := by decide +kernel
theorem d_Law_law_451 : decode M_Law_law.2.1 451 = .ok (.iload_n 3, 1) := by decide +kernel
theorem d_Law_law_452 : decode M_Law_law.2.1 452 = .ok (.iconst 2, 1) := by decide +kernel
theorem d_Law_law_453 : decode M_Law_law.2.1 453 = .ok (.iadd, 1) := by decide +kernel
theorem d_Law_law_454 : decode M_Law_law.2.1 454 = .ok (.iaload, 1) := by decide +kernel
theorem d_Law_law_455 : decode M_Law_law.2.1 455 = .ok (.aload_n 0, 1) := by decide +kernel
theorem d_Law_law_456 : decode M_Law_law.2.1 456 = .ok (.iload_n 3, 1) := by decide +kernel
theorem d_Law_law_457 : decode M_Law_law.2.1 457 = .ok (.iconst 3, 1) := by decide +kernel
theorem d_Law_law_458 : decode M_Law_law.2.1 458 = .ok (.iadd, 1) := by decide +kernel
theorem d_Law_law_459 : decode M_Law_law.2.1 459 = .ok (.iaload, 1) := by decide +kernel
theorem d_Law_law_460 : decode M_Law_law.2.1 460 = .ok (.aload_n 0, 1) := by decide +kernel
theorem d_Law_law_461 : decode M_Law_law.2.1 461 = .ok (.iload_n 3, 1) := by decide +kernel
theorem d_Law_law_462 : decode M_Law_law.2.1 462 = .ok (.iconst 4, 1) := by decide +kernel
theorem d_Law_law_463 : decode M_Law_law.2.1 463 = .ok (.iadd, 1) := by decide +kernel
theorem d_Law_law_464 : decode M_Law_law.2.1 464 = .ok (.iaload, 1) := by decide +kernel
theorem d_Law_law_465 : decode M_Law_law.2.1 465 = .ok (.aload_n 0, 1) := by decide +kernel
theorem d_Law_law_466 : decode M_Law_law.2.1 466 = .ok (.iload_n 3, 1) := by decide +kernel
theorem d_Law_law_467 : decode M_Law_law.2.1 467 = .ok (.iconst 5, 1) := by decide +kernel
theorem d_Law_law_468 : decode M_Law_law.2.1 468 = .ok (.iadd, 1) := by decide +kernel
theorem d_Law_law_469 : decode M_Law_law.2.1 469 = .ok (.iaload, 1) := by decide +kernel
theorem d_Law_law_470 : decode M_Law_law.2.1 470 = .ok (.invokevirtual 48, 3) := by decide +kernel
theorem d_Law_law_473 : decode M_Law_law.2.1 473 = .ok (.if_icmp .eq 1066, 3) := by decide +kernel
theorem d_Law_law_476 : decode M_Law_law.2.1 476 = .ok (.iconst 0, 1) := by decide +kernel
theorem d_Law_law_477 : decode M_Law_law.2.1 477 = .ok (.ireturn, 1) := by decide +kernel
theorem d_Law_law_478 : decode M_Law_law.2.1 478 = .ok (.aload_n 1, 1) := by decide +kernel
theorem d_Law_law_479 : decode M_Law_law.2.1 479 = .ok (.aload_n 0, 1) := by decide +kernel
theorem d_Law_law_480 : decode M_Law_law.2.1 480 = .ok (.iload_n 3, 1) := by decide +kernel
theorem d_Law_law_481 : decode M_Law_law.2.1 481 = .ok (.iconst 1, 1) := by decide +kernel
theorem d_Law_law_482 : decode M_Law_law.2.1 482 = .ok (.iadd, 1) := by decide +kernel
theorem d_Law_law_483 : decode M_Law_law.2.1 483 = .ok (.iaload, 1) := by decide +kernel
theorem d_Law_law_484 : decode M_Law_law.2.1 484 = .ok (.aload_n 0, 1) := by decide +kernel
theorem d_Law_law_485 : decode M_Law_law.2.1 485 = .ok (.iload_n 3, 1) := by decide +kernel
theorem d_Law_law_486 : decode M_Law_law.2.1 486 = .ok (.iconst 2, 1) := by decide +kernel
theorem d_Law_law_487 : decode M_Law_law.2.1 487 = .ok (.iadd, 1) := by decide +kernel
theorem d_Law_law_488 : decode M_Law_law.2.1 488 = .ok (.iaload, 1) := by decide +kernel
theorem d_Law_law_489 : decode M_Law_law.2.1 489 = .ok (.aload_n 0, 1) := by decide +kernel
theorem d_Law_law_490 : decode M_Law_law.2.1 490 = .ok (.iload_n 3, 1) := by decide +kernel
theorem d_Law_law_491 : decode M_Law_law.2.1 491 = .ok (.iconst 3, 1) := by decide +kernel
theorem d_Law_law_492 : decode M_Law_law.2.1 492 = .ok (.iadd, 1) := by decide +kernel
theorem d_Law_law_493 : decode M_Law_law.2.1 493 = .ok (.iaload, 1) := by decide +kernel
theorem d_Law_law_494 : decode M_Law_law.2.1 494 = .ok (.aload_n 0, 1) := by decide +kernel
theorem d_Law_law_495 : decode M_Law_law.2.1 495 = .ok (.iload_n 3, 1) := by decide +kernel
theorem d_Law_law_496 : decode M_Law_law.2.1 496 = .ok (.iconst 4, 1) := by decide +kernel
theorem d_Law_law_497 : decode M_Law_law.2.1 497 = .ok (.iadd, 1) := by decide +kernel
theorem d_Law_law_498 : decode M_Law_law.2.1 498 = .ok (.iaload, 1) := by decide +kernel
theorem d_Law_law_499 : decode M_Law_law.2.1 499 = .ok (.aload_n 0, 1) := by decide +kernel
theorem d_Law_law_500 : decode M_Law_law.2.1 500 = .ok (.iload_n 3, 1) := by decide +kernel
theorem d_Law_law_501 : decode M_Law_law.2.1 501 = .ok (.iconst 5, 1) := by decide +kernel
theorem d_Law_law_502 : decode M_Law_law.2.1 502 = .ok (.iadd, 1) := by decide +kernel
theorem d_Law_law_503 : decode M_Law_law.2.1 503 = .ok (.iaload, 1) := by decide +kernel
theorem d_Law_law_504 : decode M_Law_law.2.1 504 = .ok (.invokevirtual 49, 3) := by decide +kernel
theorem d_Law_law_507 : decode M_Law_law.2.1 507 = .ok (.aload_n 2, 1) := by decide +kernel
theorem d_Law_law_508 : decode M_Law_law.2.1 508 = .ok (.aload_n 0, 1) := by decide +kernel
theorem d_Law_law_509 : decode M_Law_law.2.1 509 = .ok (.iload_n 3, 1) := by decide +kernel
theorem d_Law_law_510 : decode M_Law_law.2.1 510 = .ok (.iconst 1, 1) := by decide +kernel
theorem d_Law_law_511 : decode M_Law_law.2.1 511 = .ok (.iadd, 1) := by decide +kernel
theorem d_Law_law_512 : decode M_Law_law.2.1 512 = .ok (.iaload, 1) := by decide +kernel
theorem d_Law_law_513 : decode M_Law_law.2.1 513 = .ok (.aload_n 0, 1) := by decide +kernel
theorem d_Law_law_514 : decode M_Law_law.2.1 514 = .ok (.iload_n 3, 1) := by decide +kernel
theorem d_Law_law_515 : decode M_Law_law.2.1 515 = .ok (.iconst 2, 1) := by decide +kernel
theorem d_Law_law_516 : decode M_Law_law.2.1 516 = .ok (.iadd, 1) := by decide +kernel
theorem d_Law_law_517 : decode M_Law_law.2.1 517 = .ok (.iaload, 1) := by decide +kernel
theorem d_Law_law_518 : decode M_Law_law.2.1 518 = .ok (.aload_n 0, 1) := by decide +kernel
theorem d_Law_law_519 : decode M_Law_law.2.1 519 = .ok (.iload_n 3, 1) := by decide +kernel
theorem d_Law_law_520 : decode M_Law_law.2.1 520 = .ok (.iconst 3, 1) := by decide +kernel
theorem d_Law_law_521 : decode M_Law_law.2.1 521 = .ok (.iadd, 1) := by decide +kernel
theorem d_Law_law_522 : decode M_Law_law.2.1 522 = .ok (.iaload, 1) := by decide +kernel
theorem d_Law_law_523 : decode M_Law_law.2.1 523 = .ok (.aload_n 0, 1) := by decide +kernel
theorem d_Law_law_524 : decode M_Law_law.2.1 524 = .ok (.iload_n 3, 1) := by decide +kernel
theorem d_Law_law_525 : decode M_Law_law.2.1 525 = .ok (.iconst 4, 1) := by decide +kernel
theorem d_Law_law_526 : decode M_Law_law.2.1 526 = .ok (.iadd, 1) := by decide +kernel
theorem d_Law_law_527 : decode M_Law_law.2.1 527 = .ok (.iaload, 1) := by decide +kernel
theorem d_Law_law_528 : decode M_Law_law.2.1 528 = .ok (.aload_n 0, 1) := by decide +kernel
theorem d_Law_law_529 : decode M_Law_law.2.1 529 = .ok (.iload_n 3, 1) := by decide +kernel
theorem d_Law_law_530 : decode M_Law_law.2.1 530 = .ok (.iconst 5, 1) := by decide +kernel
theorem d_Law_law_531 : decode M_Law_law.2.1 531 = .ok (.iadd, 1) := by decide +kernel
theorem d_Law_law_532 : decode M_Law_law.2.1 532 = .ok (.iaload, 1) := by decide +kernel
theorem d_Law_law_533 : decode M_Law_law.2.1 533 = .ok (.invokevirtual 53, 3) := by decide +kernel
theorem d_Law_law_536 : decode M_Law_law.2.1 536 = .ok (.if_icmp .eq 1003, 3) := by decide +kernel
theorem d_Law_law_539 : decode M_Law_law.2.1 539 = .ok (.iconst 0, 1) := by decide +kernel
theorem d_Law_law_540 : decode M_Law_law.2.1 540 = .ok (.ireturn, 1) := by decide +kernel
theorem d_Law_law_541 : decode M_Law_law.2.1 541 = .ok (.aload_n 1, 1) := by decide +kernel
theorem d_Law_law_542 : decode M_Law_law.2.1 542 = .ok (.aload_n 0, 1) := by decide +kernel
theorem d_Law_law_543 : decode M_Law_law.2.1 543 = .ok (.iload_n 3, 1) := by decide +kernel
theorem d_Law_law_544 : decode M_Law_law.2.1 544 = .ok (.iconst 1, 1) := by decide +kernel
theorem d_Law_law_545 : decode M_Law_law.2.1 545 = .ok (.iadd, 1) := by decide +kernel
theorem d_Law_law_546 : decode M_Law_law.2.1 546 = .ok (.iaload, 1) := by decide +kernel
theorem d_Law_law_547 : decode M_Law_law.2.1 547 = .ok (.invokevirtual 54, 3) := by decide +kernel
theorem d_Law_law_550 : decode M_Law_law.2.1 550 = .ok (.aload_n 2, 1) := by decide +kernel
theorem d_Law_law_551 : decode M_Law_law.2.1 551 = .ok (.aload_n 0, 1) := by decide +kernel
theorem d_Law_law_552 : decode M_Law_law.2.1 552 = .ok (.iload_n 3, 1) := by decide +kernel
theorem d_Law_law_553 : decode M_Law_law.2.1 553 = .ok (.iconst 1, 1) := by decide +kernel
theorem d_Law_law_554 : decode M_Law_law.2.1 554 = .ok (.iadd, 1) := by decide +kernel
theorem d_Law_law_555 : decode M_Law_law.2.1 555 = .ok (.iaload, 1) := by decide +kernel
theorem d_Law_law_556 : decode M_Law_law.2.1 556 = .ok (.invokevirtual 58, 3) := by decide +kernel
theorem d_Law_law_559 : decode M_Law_law.2.1 559 = .ok (.if_icmp .eq 980, 3) := by decide +kernel
theorem d_Law_law_562 : decode M_Law_law.2.1 562 = .ok (.iconst 0, 1) := by decide +kernel
theorem d_Law_law_563 : decode M_Law_law.2.1 563 = .ok (.ireturn, 1) := by decide +kernel
theorem d_Law_law_564 : decode M_Law_law.2.1 564 = .ok (.aload_n 1, 1) := by decide +kernel
theorem d_Law_law_565 : decode M_Law_law.2.1 565 = .ok (.aload_n 0, 1) := by decide +kernel
theorem d_Law_law_566 : decode M_Law_law.2.1 566 = .ok (.iload_n 3, 1) := by decide +kernel
theorem d_Law_law_567 : decode M_Law_law.2.1 567 = .ok (.iconst 1, 1) := by decide +kernel
theorem d_Law_law_568 : decode M_Law_law.2.1 568 = .ok (.iadd, 1) := by decide +kernel
theorem d_Law_law_569 : decode M_Law_law.2.1 569 = .ok (.iaload, 1) := by decide +kernel
theorem d_Law_law_570 : decode M_Law_law.2.1 570 = .ok (.invokevirtual 59, 3) := by decide +kernel
theorem d_Law_law_573 : decode M_Law_law.2.1 573 = .ok (.aload_n 2, 1) := by decide +kernel
theorem d_Law_law_574 : decode M_Law_law.2.1 574 = .ok (.aload_n 0, 1) := by decide +kernel
theorem d_Law_law_575 : decode M_Law_law.2.1 575 = .ok (.iload_n 3, 1) := by decide +kernel
theorem d_Law_law_576 : decode M_Law_law.2.1 576 = .ok (.iconst 1, 1) := by decide +kernel
theorem d_Law_law_577 : decode M_Law_law.2.1 577 = .ok (.iadd, 1) := by decide +kernel
theorem d_Law_law_578 : decode M_Law_law.2.1 578 = .ok (.iaload, 1) := by decide +kernel
theorem d_Law_law_579 : decode M_Law_law.2.1 579 = .ok (.invokevirtual 62, 3) := by decide +kernel
theorem d_Law_law_582 : decode M_Law_law.2.1 582 = .ok (.if_icmp .eq 957, 3) := by decide +kernel
theorem d_Law_law_585 : decode M_Law_law.2.1 585 = .ok (.iconst 0, 1) := by decide +kernel
theorem d_Law_law_586 : decode M_Law_law.2.1 586 = .ok (.ireturn, 1) := by decide +kernel
theorem d_Law_law_587 : decode M_Law_law.2.1 587 = .ok (.aload_n 1, 1) := by decide +kernel
theorem d_Law_law_588 : decode M_Law_law.2.1 588 = .ok (.aload_n 0, 1) := by decide +kernel
theorem d_Law_law_589 : decode M_Law_law.2.1 589 = .ok (.iload_n 3, 1) := by decide +kernel
theorem d_Law_law_590 : decode M_Law_law.2.1 590 = .ok (.iconst 1, 1) := by decide +kernel
theorem d_Law_law_591 : decode M_Law_law.2.1 591 = .ok (.iadd, 1) := by decide +kernel
theorem d_Law_law_592 : decode M_Law_law.2.1 592 = .ok (.iaload, 1) := by decide +kernel
theorem d_Law_law_593 : decode M_Law_law.2.1 593 = .ok (.invokevirtual 63, 3) := by decide +kernel
theorem d_Law_law_596 : decode M_Law_law.2.1 596 = .ok (.aload_n 2, 1) := by decide +kernel
theorem d_Law_law_597 : decode M_Law_law.2.1 597 = .ok (.aload_n 0, 1) := by decide +kernel
theorem d_Law_law_598 : decode M_Law_law.2.1 598 = .ok (.iload_n 3, 1) := by decide +kernel
theorem d_Law_law_599 : decode M_Law_law.2.1 599 = .ok (.iconst 1, 1) := by decide +kernel
theorem d_Law_law_600 : decode M_Law_law.2.1 600 = .ok (.iadd, 1) := by decide +kernel
theorem d_Law_law_601 : decode M_Law_law.2.1 601 = .ok (.iaload, 1) := by decide +kernel
theorem d_Law_law_602 : decode M_Law_law.2.1 602 = .ok (.invokevirtual 66, 3) := by decide +kernel
theorem d_Law_law_605 : decode M_Law_law.2.1 605 = .ok (.if_icmp .eq 934, 3) := by decide +kernel
theorem d_Law_law_608 : decode M_Law_law.2.1 608 = .ok (.iconst 0, 1) := by decide +kernel
theorem d_Law_law_609 : decode M_Law_law.2.1 609 = .ok (.ireturn, 1) := by decide +kernel
theorem d_Law_law_610 : decode M_Law_law.2.1 610 = .ok (.aload_n 1, 1) := by decide +kernel
theorem d_Law_law_611 : decode M_Law_law.2.1 611 = .ok (.aload_n 0, 1) := by decide +kernel
theorem d_Law_law_612 : decode M_Law_law.2.1 612 = .ok (.iload_n 3, 1) := by decide +kernel
theorem d_Law_law_613 : decode M_Law_law.2.1 613 = .ok (.iconst 1, 1) := by decide +kernel
theorem d_Law_law_614 : decode M_Law_law.2.1 614 = .ok (.iadd, 1) := by decide +kernel
theorem d_Law_law_615 : decode M_Law_law.2.1 615 = .ok (.iaload, 1) := by decide +kernel
theorem d_Law_law_616 : decode M_Law_law.2.1 616 = .ok (.invokevirtual 67, 3) := by decide +kernel
theorem d_Law_law_619 : decode M_Law_law.2.1 619 = .ok (.aload_n 2, 1) := by decide +kernel
theorem d_Law_law_620 : decode M_Law_law.2.1 620 = .ok (.aload_n 0, 1) := by decide +kernel
theorem d_Law_law_621 : decode M_Law_law.2.1 621 = .ok (.iload_n 3, 1) := by decide +kernel
theorem d_Law_law_622 : decode M_Law_law.2.1 622 = .ok (.iconst 1, 1) := by decide +kernel
theorem d_Law_law_623 : decode M_Law_law.2.1 623 = .ok (.iadd, 1) := by decide +kernel
theorem d_Law_law_624 : decode M_Law_law.2.1 624 = .ok (.iaload, 1) := by decide +kernel
theorem d_Law_law_625 : decode M_Law_law.2.1 625 = .ok (.invokevirtual 70, 3) := by decide +kernel
theorem d_Law_law_628 : decode M_Law_law.2.1 628 = .ok (.if_icmp .eq 911, 3) := by decide +kernel
theorem d_Law_law_631 : decode M_Law_law.2.1 631 = .ok (.iconst 0, 1) := by decide +kernel
theorem d_Law_law_632 : decode M_Law_law.2.1 632 = .ok (.ireturn, 1) := by decide +kernel
theorem d_Law_law_633 : decode M_Law_law.2.1 633 = .ok (.aload_n 1, 1) := by decide +kernel
theorem d_Law_law_634 : decode M_Law_law.2.1 634 = .ok (.aload_n 0, 1) := by decide +kernel
theorem d_Law_law_635 : decode M_Law_law.2.1 635 = .ok (.iload_n 3, 1) := by decide +kernel
theorem d_Law_law_636 : decode M_Law_law.2.1 636 = .ok (.iconst 1, 1) := by decide +kernel
theorem d_Law_law_637 : decode M_Law_law.2.1 637 = .ok (.iadd, 1) := by decide +kernel
theorem d_Law_law_638 : decode M_Law_law.2.1 638 = .ok (.iaload, 1) := by decide +kernel
theorem d_Law_law_639 : decode M_Law_law.2.1 639 = .ok (.aload_n 0, 1) := by decide +kernel
theorem d_Law_law_640 : decode M_Law_law.2.1 640 = .ok (.iload_n 3, 1) := by decide +kernel
theorem d_Law_law_641 : decode M_Law_law.2.1 641 = .ok (.iconst 2, 1) := by decide +kernel
theorem d_Law_law_642 : decode M_Law_law.2.1 642 = .ok (.iadd, 1) := by decide +kernel
theorem d_Law_law_643 : decode M_Law_law.2.1 643 = .ok (.iaload, 1) := by decide +kernel
theorem d_Law_law_644 : decode M_Law_law.2.1 644 = .ok (.invokevirtual 71, 3) := by decide +kernel
theorem d_Law_law_647 : decode M_Law_law.2.1 647 = .ok (.aload_n 2, 1) := by decide +kernel
theorem d_Law_law_648 : decode M_Law_law.2.1 648 = .ok (.aload_n 0, 1) := by decide +kernel
theorem d_Law_law_649 : decode M_Law_law.2.1 649 = .ok (.iload_n 3, 1) := by decide +kernel
theorem d_Law_law_650 : decode M_Law_law.2.1 650 = .ok (.iconst 1, 1) := by decide +kernel
theorem d_Law_law_651 : decode M_Law_law.2.1 651 = .ok (.iadd, 1) := by decide +kernel
theorem d_Law_law_652 : decode M_Law_law.2.1 652 = .ok (.iaload, 1) := by decide +kernel
theorem d_Law_law_653 : decode M_Law_law.2.1 653 = .ok (.aload_n 0, 1) := by decide +kernel
theorem d_Law_law_654 : decode M_Law_law.2.1 654 = .ok (.iload_n 3, 1) := by decide +kernel
theorem d_Law_law_655 : decode M_Law_law.2.1 655 = .ok (.iconst 2, 1) := by decide +kernel
theorem d_Law_law_656 : decode M_Law_law.2.1 656 = .ok (.iadd, 1) := by decide +kernel
theorem d_Law_law_657 : decode M_Law_law.2.1 657 = .ok (.iaload, 1) := by decide +kernel
theorem d_Law_law_658 : decode M_Law_law.2.1 658 = .ok (.invokevirtual 75, 3) := by decide +kernel
theorem d_Law_law_661 : decode M_Law_law.2.1 661 = .ok (.if_icmp .eq 878, 3) := by decide +kernel
theorem d_Law_law_664 : decode M_Law_law.2.1 664 = .ok (.iconst 0, 1) := by decide +kernel
theorem d_Law_law_665 : decode M_Law_law.2.1 665 = .ok (.ireturn, 1) := by decide +kernel
theorem d_Law_law_666 : decode M_Law_law.2.1 666 = .ok (.aload_n 1, 1) := by decide +kernel
theorem d_Law_law_667 : decode M_Law_law.2.1 667 = .ok (.aload_n 0, 1) := by decide +kernel
theorem d_Law_law_668 : decode M_Law_law.2.1 668 = .ok (.iload_n 3, 1) := by decide +kernel
theorem d_Law_law_669 : decode M_Law_law.2.1 669 = .ok (.iconst 1, 1) := by decide +kernel
theorem d_Law_law_670 : decode M_Law_law.2.1 670 = .ok (.iadd, 1) := by decide +kernel
theorem d_Law_law_671 : decode M_Law_law.2.1 671 = .ok (.iaload, 1) := by decide +kernel
theorem d_Law_law_672 : decode M_Law_law.2.1 672 = .ok (.aload_n 0, 1) := by decide +kernel
theorem d_Law_law_673 : decode M_Law_law.2.1 673 = .ok (.iload_n 3, 1) := by decide +kernel
theorem d_Law_law_674 : decode M_Law_law.2.1 674 = .ok (.iconst 2, 1) := by decide +kernel
theorem d_Law_law_675 : decode M_Law_law.2.1 675 = .ok (.iadd, 1) := by decide +kernel
theorem d_Law_law_676 : decode M_Law_law.2.1 676 = .ok (.iaload, 1) := by decide +kernel
theorem d_Law_law_677 : decode M_Law_law.2.1 677 = .ok (.invokevirtual 76, 3) := by decide +kernel
theorem d_Law_law_680 : decode M_Law_law.2.1 680 = .ok (.aload_n 2, 1) := by decide +kernel
theorem d_Law_law_681 : decode M_Law_law.2.1 681 = .ok (.aload_n 0, 1) := by decide +kernel
theorem d_Law_law_682 : decode M_Law_law.2.1 682 = .ok (.iload_n 3, 1) := by decide +kernel
theorem d_Law_law_683 : decode M_Law_law.2.1 683 = .ok (.iconst 1, 1) := by decide +kernel
theorem d_Law_law_684 : decode M_Law_law.2.1 684 = .ok (.iadd, 1) := by decide +kernel
theorem d_Law_law_685 : decode M_Law_law.2.1 685 = .ok (.iaload, 1) := by decide +kernel
theorem d_Law_law_686 : decode M_Law_law.2.1 686 = .ok (.aload_n 0, 1) := by decide +kernel
theorem d_Law_law_687 : decode M_Law_law.2.1 687 = .ok (.iload_n 3, 1) := by decide +kernel
theorem d_Law_law_688 : decode M_Law_law.2.1 688 = .ok (.iconst 2, 1) := by decide +kernel
theorem d_Law_law_689 : decode M_Law_law.2.1 689 = .ok (.iadd, 1) := by decide +kernel
theorem d_Law_law_690 : decode M_Law_law.2.1 690 = .ok (.iaload, 1) := by decide +kernel
theorem d_Law_law_691 : decode M_Law_law.2.1 691 = .ok (.invokevirtual 79, 3) := by decide +kernel
theorem d_Law_law_694 : decode M_Law_law.2.1 694 = .ok (.if_icmp .eq 845, 3) := by decide +kernel
theorem d_Law_law_697 : decode M_Law_law.2.1 697 = .ok (.iconst 0, 1) := by decide +kernel
theorem d_Law_law_698 : decode M_Law_law.2.1 698 = .ok (.ireturn, 1) := by decide +kernel
theorem d_Law_law_699 : decode M_Law_law.2.1 699 = .ok (.aload_n 1, 1) := by decide +kernel
theorem d_Law_law_700 : decode M_Law_law.2.1 700 = .ok (.aload_n 0, 1) := by decide +kernel
theorem d_Law_law_701 : decode M_Law_law.2.1 701 = .ok (.iload_n 3, 1) := by decide +kernel
theorem d_Law_law_702 : decode M_Law_law.2.1 702 = .ok (.iconst 1, 1) := by decide +kernel
theorem d_Law_law_703 : decode M_Law_law.2.1 703 = .ok (.iadd, 1) := by decide +kernel
theorem d_Law_law_704 : decode M_Law_law.2.1 704 = .ok (.iaload, 1) := by decide +kernel
theorem d_Law_law_705 : decode M_Law_law.2.1 705 = .ok (.aload_n 0, 1) := by decide +kernel
theorem d_Law_law_706 : decode M_Law_law.2.1 706 = .ok (.iload_n 3, 1) := by decide +kernel
theorem d_Law_law_707 : decode M_Law_law.2.1 707 = .ok (.iconst 2, 1) := by decide +kernel
theorem d_Law_law_708 : decode M_Law_law.2.1 708 = .ok (.iadd, 1) := by decide +kernel
theorem d_Law_law_709 : decode M_Law_law.2.1 709 = .ok (.iaload, 1) := by decide +kernel
theorem d_Law_law_710 : decode M_Law_law.2.1 710 = .ok (.invokevirtual 80, 3) := by decide +kernel
theorem d_Law_law_713 : decode M_Law_law.2.1 713 = .ok (.aload_n 2, 1) := by decide +kernel
theorem d_Law_law_714 : decode M_Law_law.2.1 714 = .ok (.aload_n 0, 1) := by decide +kernel
theorem d_Law_law_715 : decode M_Law_law.2.1 715 = .ok (.iload_n 3, 1) := by decide +kernel
theorem d_Law_law_716 : decode M_Law_law.2.1 716 = .ok (.iconst 1, 1) := by decide +kernel
theorem d_Law_law_717 : decode M_Law_law.2.1 717 = .ok (.iadd, 1) := by decide +kernel
theorem d_Law_law_718 : decode M_Law_law.2.1 718 = .ok (.iaload, 1) := by decide +kernel
theorem d_Law_law_719 : decode M_Law_law.2.1 719 = .ok (.aload_n 0, 1) := by decide +kernel
theorem d_Law_law_720 : decode M_Law_law.2.1 720 = .ok (.iload_n 3, 1) := by decide +kernel
theorem d_Law_law_721 : decode M_Law_law.2.1 721 = .ok (.iconst 2, 1) := by decide +kernel
theorem d_Law_law_722 : decode M_Law_law.2.1 722 = .ok (.iadd, 1) := by decide +kernel
theorem d_Law_law_723 : decode M_Law_law.2.1 723 = .ok (.iaload, 1) := by decide +kernel
theorem d_Law_law_724 : decode M_Law_law.2.1 724 = .ok (.invokevirtual 83, 3) := by decide +kernel
theorem d_Law_law_727 : decode M_Law_law.2.1 727 = .ok (.if_icmp .eq 812, 3) := by decide +kernel
theorem d_Law_law_730 : decode M_Law_law.2.1 730 = .ok (.iconst 0, 1) := by decide +kernel
theorem d_Law_law_731 : decode M_Law_law.2.1 731 = .ok (.ireturn, 1) := by decide +kernel
theorem d_Law_law_732 : decode M_Law_law.2.1 732 = .ok (.aload_n 1, 1) := by decide +kernel
theorem d_Law_law_733 : decode M_Law_law.2.1 733 = .ok (.aload_n 0, 1) := by decide +kernel
theorem d_Law_law_734 : decode M_Law_law.2.1 734 = .ok (.iload_n 3, 1) := by decide +kernel
theorem d_Law_law_735 : decode M_Law_law.2.1 735 = .ok (.iconst 1, 1) := by decide +kernel
theorem d_Law_law_736 : decode M_Law_law.2.1 736 = .ok (.iadd, 1) := by decide +kernel
theorem d_Law_law_737 : decode M_Law_law.2.1 737 = .ok (.iaload, 1) := by decide +kernel
theorem d_Law_law_738 : decode M_Law_law.2.1 738 = .ok (.aload_n 0, 1) := by decide +kernel
theorem d_Law_law_739 : decode M_Law_law.2.1 739 = .ok (.iload_n 3, 1) := by decide +kernel
theorem d_Law_law_740 : decode M_Law_law.2.1 740 = .ok (.iconst 2, 1) := by decide +kernel
theorem d_Law_law_741 : decode M_Law_law.2.1 741 = .ok (.iadd, 1) := by decide +kernel
theorem d_Law_law_742 : decode M_Law_law.2.1 742 = .ok (.iaload, 1) := by decide +kernel
theorem d_Law_law_743 : decode M_Law_law.2.1 743 = .ok (.invokevirtual 84, 3) := by decide +kernel
theorem d_Law_law_746 : decode M_Law_law.2.1 746 = .ok (.aload_n 2, 1) := by decide +kernel
theorem d_Law_law_747 : decode M_Law_law.2.1 747 = .ok (.aload_n 0, 1) := by decide +kernel
theorem d_Law_law_748 : decode M_Law_law.2.1 748 = .ok (.iload_n 3, 1) := by decide +kernel
theorem d_Law_law_749 : decode M_Law_law.2.1 749 = .ok (.iconst 1, 1) := by decide +kernel
theorem d_Law_law_750 : decode M_Law_law.2.1 750 = .ok (.iadd, 1) := by decide +kernel
theorem d_Law_law_751 : decode M_Law_law.2.1 751 = .ok (.iaload, 1) := by decide +kernel
theorem d_Law_law_752 : decode M_Law_law.2.1 752 = .ok (.aload_n 0, 1) := by decide +kernel
theorem d_Law_law_753 : decode M_Law_law.2.1 753 = .ok (.iload_n 3, 1) := by decide +kernel
theorem d_Law_law_754 : decode M_Law_law.2.1 754 = .ok (.iconst 2, 1) := by decide +kernel
theorem d_Law_law_755 : decode M_Law_law.2.1 755 = .ok (.iadd, 1) := by decide +kernel
theorem d_Law_law_756 : decode M_Law_law.2.1 756 = .ok (.iaload, 1) := by decide +kernel
theorem d_Law_law_757 : decode M_Law_law.2.1 757 = .ok (.invokevirtual 87, 3) := by decide +kernel
theorem d_Law_law_760 : decode M_Law_law.2.1 760 = .ok (.if_icmp .eq 779, 3) := by decide +kernel
theorem d_Law_law_763 : decode M_Law_law.2.1 763 = .ok (.iconst 0, 1) := by decide +kernel
theorem d_Law_law_764 : decode M_Law_law.2.1 764 = .ok (.ireturn, 1) := by decide +kernel
theorem d_Law_law_765 : decode M_Law_law.2.1 765 = .ok (.aload_n 1, 1) := by decide +kernel
theorem d_Law_law_766 : decode M_Law_law.2.1 766 = .ok (.aload_n 0, 1) := by decide +kernel
theorem d_Law_law_767 : decode M_Law_law.2.1 767 = .ok (.iload_n 3, 1) := by decide +kernel
theorem d_Law_law_768 : decode M_Law_law.2.1 768 = .ok (.iconst 1, 1) := by decide +kernel
theorem d_Law_law_769 : decode M_Law_law.2.1 769 = .ok (.iadd, 1) := by decide +kernel
theorem d_Law_law_770 : decode M_Law_law.2.1 770 = .ok (.iaload, 1) := by decide +kernel
theorem d_Law_law_771 : decode M_Law_law.2.1 771 = .ok (.aload_n 0, 1) := by decide +kernel
theorem d_Law_law_772 : decode M_Law_law.2.1 772 = .ok (.iload_n 3, 1) := by decide +kernel
theorem d_Law_law_773 : decode M_Law_law.2.1 773 = .ok (.iconst 2, 1) := by decide +kernel
theorem d_Law_law_774 : decode M_Law_law.2.1 774 = .ok (.iadd, 1) := by decide +kernel
theorem d_Law_law_775 : decode M_Law_law.2.1 775 = .ok (.iaload, 1) := by decide +kernel
theorem d_Law_law_776 : decode M_Law_law.2.1 776 = .ok (.invokevirtual 88, 3) := by decide +kernel
theorem d_Law_law_779 : decode M_Law_law.2.1 779 = .ok (.aload_n 2, 1) := by decide +kernel
theorem d_Law_law_780 : decode M_Law_law.2.1 780 = .ok (.aload_n 0, 1) := by decide +kernel
theorem d_Law_law_781 : decode M_Law_law.2.1 781 = .ok (.iload_n 3, 1) := by decide +kernel
theorem d_Law_law_782 : decode M_Law_law.2.1 782 = .ok (.iconst 1, 1) := by decide +kernel
theorem d_Law_law_783 : decode M_Law_law.2.1 783 = .ok (.iadd, 1) := by decide +kernel
theorem d_Law_law_784 : decode M_Law_law.2.1 784 = .ok (.iaload, 1) := by decide +kernel
theorem d_Law_law_785 : decode M_Law_law.2.1 785 = .ok (.aload_n 0, 1) := by decide +kernel
theorem d_Law_law_786 : decode M_Law_law.2.1 786 = .ok (.iload_n 3, 1) := by decide +kernel
theorem d_Law_law_787 : decode M_Law_law.2.1 787 = .ok (.iconst 2, 1) := by decide +kernel
theorem d_Law_law_788 : decode M_Law_law.2.1 788 = .ok (.iadd, 1) := by decide +kernel
theorem d_Law_law_789 : decode M_Law_law.2.1 789 = .ok (.iaload, 1) := by decide +kernel
theorem d_Law_law_790 : decode M_Law_law.2.1 790 = .ok (.invokevirtual 91, 3) := by decide +kernel
theorem d_Law_law_793 : decode M_Law_law.2.1 793 = .ok (.if_icmp .eq 746, 3) := by decide +kernel
theorem d_Law_law_796 : decode M_Law_law.2.1 796 = .ok (.iconst 0, 1) := by decide +kernel
theorem d_Law_law_797 : decode M_Law_law.2.1 797 = .ok (.ireturn, 1) := by decide +kernel
theorem d_Law_law_798 : decode M_Law_law.2.1 798 = .ok (.aload_n 1, 1) := by decide +kernel
theorem d_Law_law_799 : decode M_Law_law.2.1 799 = .ok (.aload_n 0, 1) := by decide +kernel
theorem d_Law_law_800 : decode M_Law_law.2.1 800 = .ok (.iload_n 3, 1) := by decide +kernel
theorem d_Law_law_801 : decode M_Law_law.2.1 801 = .ok (.iconst 1, 1) := by decide +kernel
theorem d_Law_law_802 : decode M_Law_law.2.1 802 = .ok (.iadd, 1) := by decide +kernel
theorem d_Law_law_803 : decode M_Law_law.2.1 803 = .ok (.iaload, 1) := by decide +kernel
theorem d_Law_law_804 : decode M_Law_law.2.1 804 = .ok (.aload_n 0, 1) := by decide +kernel
theorem d_Law_law_805 : decode M_Law_law.2.1 805 = .ok (.iload_n 3, 1) := by decide +kernel
theorem d_Law_law_806 : decode M_Law_law.2.1 806 = .ok (.iconst 2, 1) := by decide +kernel
theorem d_Law_law_807 : decode M_Law_law.2.1 807 = .ok (.iadd, 1) := by decide +kernel
theorem d_Law_law_808 : decode M_Law_law.2.1 808 = .ok (.iaload, 1) := by decide +kernel
theorem d_Law_law_809 : decode M_Law_law.2.1 809 = .ok (.aload_n 0, 1) := by decide +kernel
theorem d_Law_law_810 : decode M_Law_law.2.1 810 = .ok (.iload_n 3, 1) := by decide +kernel
theorem d_Law_law_811 : decode M_Law_law.2.1 811 = .ok (.iconst 3, 1) := by decide +kernel
theorem d_Law_law_812 : decode M_Law_law.2.1 812 = .ok (.iadd, 1) := by decide +kernel
theorem d_Law_law_813 : decode M_Law_law.2.1 813 = .ok (.iaload, 1) := by decide +kernel
theorem d_Law_law_814 : decode M_Law_law.2.1 814 = .ok (.aload_n 0, 1) := by decide +kernel
theorem d_Law_law_815 : decode M_Law_law.2.1 815 = .ok (.iload_n 3, 1) := by decide +kernel
theorem d_Law_law_816 : decode M_Law_law.2.1 816 = .ok (.iconst 4, 1) := by decide +kernel
theorem d_Law_law_817 : decode M_Law_law.2.1 817 = .ok (.iadd, 1) := by decide +kernel
theorem d_Law_law_818 : decode M_Law_law.2.1 818 = .ok (.iaload, 1) := by decide +kernel
theorem d_Law_law_819 : decode M_Law_law.2.1 819 = .ok (.aload_n 0, 1) := by decide +kernel
theorem d_Law_law_820 : decode M_Law_law.2.1 820 = .ok (.iload_n 3, 1) := by decide +kernel
theorem d_Law_law_821 : decode M_Law_law.2.1 821 = .ok (.iconst 5, 1) := by decide +kernel
theorem d_Law_law_822 : decode M_Law_law.2.1 822 = .ok (.iadd, 1) := by decide +kernel
theorem d_Law_law_823 : decode M_Law_law.2.1 823 = .ok (.iaload, 1) := by decide +kernel
theorem d_Law_law_824 : decode M_Law_law.2.1 824 = .ok (.invokevirtual 92, 3) := by decide +kernel
theorem d_Law_law_827 : decode M_Law_law.2.1 827 = .ok (.aload_n 2, 1) := by decide +kernel
theorem d_Law_law_828 : decode M_Law_law.2.1 828 = .ok (.aload_n 0, 1) := by decide +kernel
theorem d_Law_law_829 : decode M_Law_law.2.1 829 = .ok (.iload_n 3, 1) := by decide +kernel
theorem d_Law_law_830 : decode M_Law_law.2.1 830 = .ok (.iconst 1, 1) := by decide +kernel
theorem d_Law_law_831 : decode M_Law_law.2.1 831 = .ok (.iadd, 1) := by decide +kernel
theorem d_Law_law_832 : decode M_Law_law.2.1 832 = .ok (.iaload, 1) := by decide +kernel
theorem d_Law_law_833 : decode M_Law_law.2.1 833 = .ok (.aload_n 0, 1) := by decide +kernel
theorem d_Law_law_834 : decode M_Law_law.2.1 834 = .ok (.iload_n 3, 1) := by decide +kernel
theorem d_Law_law_835 : decode M_Law_law.2.1 835 = .ok (.iconst 2, 1) := by decide +kernel
theorem d_Law_law_836 : decode M_Law_law.2.1 836 = .ok (.iadd, 1) := by decide +kernel
theorem d_Law_law_837 : decode M_Law_law.2.1 837 = .ok (.iaload, 1) := by decide +kernel
theorem d_Law_law_838 : decode M_Law_law.2.1 838 = .ok (.aload_n 0, 1) := by decide +kernel
theorem d_Law_law_839 : decode M_Law_law.2.1 839 = .ok (.iload_n 3, 1) := by decide +kernel
theorem d_Law_law_840 : decode M_Law_law.2.1 840 = .ok (.iconst 3, 1) := by decide +kernel
theorem d_Law_law_841 : decode M_Law_law.2.1 841 = .ok (.iadd, 1) := by decide +kernel
theorem d_Law_law_842 : decode M_Law_law.2.1 842 = .ok (.iaload, 1) := by decide +kernel
theorem d_Law_law_843 : decode M_Law_law.2.1 843 = .ok (.aload_n 0, 1) := by decide +kernel
theorem d_Law_law_844 : decode M_Law_law.2.1 844 = .ok (.iload_n 3, 1) := by decide +kernel
theorem d_Law_law_845 : decode M_Law_law.2.1 845 = .ok (.iconst 4, 1) := by decide +kernel
theorem d_Law_law_846 : decode M_Law_law.2.1 846 = .ok (.iadd, 1) := by decide +kernel
theorem d_Law_law_847 : decode M_Law_law.2.1 847 = .ok (.iaload, 1) := by decide +kernel
theorem d_Law_law_848 : decode M_Law_law.2.1 848 = .ok (.aload_n 0, 1) := by decide +kernel
theorem d_Law_law_849 : decode M_Law_law.2.1 849 = .ok (.iload_n 3, 1) := by decide +kernel
theorem d_Law_law_850 : decode M_Law_law.2.1 850 = .ok (.iconst 5, 1) := by decide +kernel
theorem d_Law_law_851 : decode M_Law_law.2.1 851 = .ok (.iadd, 1) := by decide +kernel
theorem d_Law_law_852 : decode M_Law_law.2.1 852 = .ok (.iaload, 1) := by decide +kernel
theorem d_Law_law_853 : decode M_Law_law.2.1 853 = .ok (.invokevirtual 95, 3) := by decide +kernel
theorem d_Law_law_856 : decode M_Law_law.2.1 856 = .ok (.if_icmp .eq 683, 3) := by decide +kernel
theorem d_Law_law_859 : decode M_Law_law.2.1 859 = .ok (.iconst 0, 1) := by decide +kernel
theorem d_Law_law_860 : decode M_Law_law.2.1 860 = .ok (.ireturn, 1) := by decide +kernel
theorem d_Law_law_861 : decode M_Law_law.2.1 861 = .ok (.aload_n 1, 1) := by decide +kernel
theorem d_Law_law_862 : decode M_Law_law.2.1 862 = .ok (.aload_n 0, 1) := by decide +kernel
theorem d_Law_law_863 : decode M_Law_law.2.1 863 = .ok (.iload_n 3, 1) := by decide +kernel
theorem d_Law_law_864 : decode M_Law_law.2.1 864 = .ok (.iconst 1, 1) := by decide +kernel
theorem d_Law_law_865 : decode M_Law_law.2.1 865 = .ok (.iadd, 1) := by decide +kernel
theorem d_Law_law_866 : decode M_Law_law.2.1 866 = .ok (.iaload, 1) := by decide +kernel
theorem d_Law_law_867 : decode M_Law_law.2.1 867 = .ok (.aload_n 0, 1) := by decide +kernel
theorem d_Law_law_868 : decode M_Law_law.2.1 868 = .ok (.iload_n 3, 1) := by decide +kernel
theorem d_Law_law_869 : decode M_Law_law.2.1 869 = .ok (.iconst 2, 1) := by decide +kernel
theorem d_Law_law_870 : decode M_Law_law.2.1 870 = .ok (.iadd, 1) := by decide +kernel
theorem d_Law_law_871 : decode M_Law_law.2.1 871 = .ok (.iaload, 1) := by decide +kernel
theorem d_Law_law_872 : decode M_Law_law.2.1 872 = .ok (.aload_n 0, 1) := by decide +kernel
theorem d_Law_law_873 : decode M_Law_law.2.1 873 = .ok (.iload_n 3, 1) := by decide +kernel
theorem d_Law_law_874 : decode M_Law_law.2.1 874 = .ok (.iconst 3, 1) := by decide +kernel
theorem d_Law_law_875 : decode M_Law_law.2.1 875 = .ok (.iadd, 1) := by decide +kernel
theorem d_Law_law_876 : decode M_Law_law.2.1 876 = .ok (.iaload, 1) := by decide +kernel
theorem d_Law_law_877 : decode M_Law_law.2.1 877 = .ok (.invokevirtual 96, 3) := by decide +kernel
theorem d_Law_law_880 : decode M_Law_law.2.1 880 = .ok (.aload_n 2, 1) := by decide +kernel
theorem d_Law_law_881 : decode M_Law_law.2.1 881 = .ok (.aload_n 0, 1) := by decide +kernel
theorem d_Law_law_882 : decode M_Law_law.2.1 882 = .ok (.iload_n 3, 1) := by decide +kernel
theorem d_Law_law_883 : decode M_Law_law.2.1 883 = .ok (.iconst 1, 1) := by decide +kernel
theorem d_Law_law_884 : decode M_Law_law.2.1 884 = .ok (.iadd, 1) := by decide +kernel
theorem d_Law_law_885 : decode M_Law_law.2.1 885 = .ok (.iaload, 1) := by decide +kernel
theorem d_Law_law_886 : decode M_Law_law.2.1 886 = .ok (.aload_n 0, 1) := by decide +kernel
theorem d_Law_law_887 : decode M_Law_law.2.1 887 = .ok (.iload_n 3, 1) := by decide +kernel
theorem d_Law_law_888 : decode M_Law_law.2.1 888 = .ok (.iconst 2, 1) := by decide +kernel
theorem d_Law_law_889 : decode M_Law_law.2.1 889 = .ok (.iadd, 1) := by decide +kernel
theorem d_Law_law_890 : decode M_Law_law.2.1 890 = .ok (.iaload, 1) := by decide +kernel
theorem d_Law_law_891 : decode M_Law_law.2.1 891 = .ok (.aload_n 0, 1) := by decide +kernel
theorem d_Law_law_892 : decode M_Law_law.2.1 892 = .ok (.iload_n 3, 1) := by decide +kernel
theorem d_Law_law_893 : decode M_Law_law.2.1 893 = .ok (.iconst 3, 1) := by decide +kernel
theorem d_Law_law_894 : decode M_Law_law.2.1 894 = .ok (.iadd, 1) := by decide +kernel
theorem d_Law_law_895 : decode M_Law_law.2.1 895 = .ok (.iaload, 1) := by decide +kernel
theorem d_Law_law_896 : decode M_Law_law.2.1 896 = .ok (.invokevirtual 99, 3) := by decide +kernel
theorem d_Law_law_899 : decode M_Law_law.2.1 899 = .ok (.if_icmp .eq 640, 3) := by decide +kernel
theorem d_Law_law_902 : decode M_Law_law.2.1 902 = .ok (.iconst 0, 1) := by decide +kernel
theorem d_Law_law_903 : decode M_Law_law.2.1 903 = .ok (.ireturn, 1) := by decide +kernel
theorem d_Law_law_904 : decode M_Law_law.2.1 904 = .ok (.aload_n 1, 1) := by decide +kernel
theorem d_Law_law_905 : decode M_Law_law.2.1 905 = .ok (.aload_n 0, 1) := by decide +kernel
theorem d_Law_law_906 : decode M_Law_law.2.1 906 = .ok (.iload_n 3, 1) := by decide +kernel
theorem d_Law_law_907 : decode M_Law_law.2.1 907 = .ok (.iconst 1, 1) := by decide +kernel
theorem d_Law_law_908 : decode M_Law_law.2.1 908 = .ok (.iadd, 1) := by decide +kernel
theorem d_Law_law_909 : decode M_Law_law.2.1 909 = .ok (.iaload, 1) := by decide +kernel
theorem d_Law_law_910 : decode M_Law_law.2.1 910 = .ok (.invokevirtual 100, 3) := by decide +kernel
theorem d_Law_law_913 : decode M_Law_law.2.1 913 = .ok (.aload_n 2, 1) := by decide +kernel
theorem d_Law_law_914 : decode M_Law_law.2.1 914 = .ok (.aload_n 0, 1) := by decide +kernel
theorem d_Law_law_915 : decode M_Law_law.2.1 915 = .ok (.iload_n 3, 1) := by decide +kernel
theorem d_Law_law_916 : decode M_Law_law.2.1 916 = .ok (.iconst 1, 1) := by decide +kernel
theorem d_Law_law_917 : decode M_Law_law.2.1 917 = .ok (.iadd, 1) := by decide +kernel
theorem d_Law_law_918 : decode M_Law_law.2.1 918 = .ok (.iaload, 1) := by decide +kernel
theorem d_Law_law_919 : decode M_Law_law.2.1 919 = .ok (.invokevirtual 103, 3) := by decide +kernel
theorem d_Law_law_922 : decode M_Law_law.2.1 922 = .ok (.if_icmp .eq 617, 3) := by decide +kernel
theorem d_Law_law_925 : decode M_Law_law.2.1 925 = .ok (.iconst 0, 1) := by decide +kernel
theorem d_Law_law_926 : decode M_Law_law.2.1 926 = .ok (.ireturn, 1) := by decide +kernel
theorem d_Law_law_927 : decode M_Law_law.2.1 927 = .ok (.aload_n 1, 1) := by decide +kernel
theorem d_Law_law_928 : decode M_Law_law.2.1 928 = .ok (.aload_n 0, 1) := by decide +kernel
theorem d_Law_law_929 : decode M_Law_law.2.1 929 = .ok (.iload_n 3, 1) := by decide +kernel
theorem d_Law_law_930 : decode M_Law_law.2.1 930 = .ok (.iconst 1, 1) := by decide +kernel
theorem d_Law_law_931 : decode M_Law_law.2.1 931 = .ok (.iadd, 1) := by decide +kernel
theorem d_Law_law_932 : decode M_Law_law.2.1 932 = .ok (.iaload, 1) := by decide +kernel
theorem d_Law_law_933 : decode M_Law_law.2.1 933 = .ok (.invokevirtual 104, 3) := by decide +kernel
theorem d_Law_law_936 : decode M_Law_law.2.1 936 = .ok (.aload_n 2, 1) := by decide +kernel
theorem d_Law_law_937 : decode M_Law_law.2.1 937 = .ok (.aload_n 0, 1) := by decide +kernel
theorem d_Law_law_938 : decode M_Law_law.2.1 938 = .ok (.iload_n 3, 1) := by decide +kernel
theorem d_Law_law_939 : decode M_Law_law.2.1 939 = .ok (.iconst 1, 1) := by decide +kernel
theorem d_Law_law_940 : decode M_Law_law.2.1 940 = .ok (.iadd, 1) := by decide +kernel
theorem d_Law_law_941 : decode M_Law_law.2.1 941 = .ok (.iaload, 1) := by decide +kernel
theorem d_Law_law_942 : decode M_Law_law.2.1 942 = .ok (.invokevirtual 107, 3) := by decide +kernel
theorem d_Law_law_945 : decode M_Law_law.2.1 945 = .ok (.if_icmp .eq 594, 3) := by decide +kernel
theorem d_Law_law_948 : decode M_Law_law.2.1 948 = .ok (.iconst 0, 1) := by decide +kernel
theorem d_Law_law_949 : decode M_Law_law.2.1 949 = .ok (.ireturn, 1) := by decide +kernel
theorem d_Law_law_950 : decode M_Law_law.2.1 950 = .ok (.aload_n 1, 1) := by decide +kernel
theorem d_Law_law_951 : decode M_Law_law.2.1 951 = .ok (.aload_n 0, 1) := by decide +kernel
theorem d_Law_law_952 : decode M_Law_law.2.1 952 = .ok (.iload_n 3, 1) := by decide +kernel
theorem d_Law_law_953 : decode M_Law_law.2.1 953 = .ok (.iconst 1, 1) := by decide +kernel
theorem d_Law_law_954 : decode M_Law_law.2.1 954 = .ok (.iadd, 1) := by decide +kernel
theorem d_Law_law_955 : decode M_Law_law.2.1 955 = .ok (.iaload, 1) := by decide +kernel
theorem d_Law_law_956 : decode M_Law_law.2.1 956 = .ok (.aload_n 0, 1) := by decide +kernel
theorem d_Law_law_957 : decode M_Law_law.2.1 957 = .ok (.iload_n 3, 1) := by decide +kernel
theorem d_Law_law_958 : decode M_Law_law.2.1 958 = .ok (.iconst 2, 1) := by decide +kernel
theorem d_Law_law_959 : decode M_Law_law.2.1 959 = .ok (.iadd, 1) := by decide +kernel
theorem d_Law_law_960 : decode M_Law_law.2.1 960 = .ok (.iaload, 1) := by decide +kernel
theorem d_Law_law_961 : decode M_Law_law.2.1 961 = .ok (.invokevirtual 108, 3) := by decide +kernel
theorem d_Law_law_964 : decode M_Law_law.2.1 964 = .ok (.aload_n 2, 1) := by decide +kernel
theorem d_Law_law_965 : decode M_Law_law.2.1 965 = .ok (.aload_n 0, 1) := by decide +kernel
theorem d_Law_law_966 : decode M_Law_law.2.1 966 = .ok (.iload_n 3, 1) := by decide +kernel
theorem d_Law_law_967 : decode M_Law_law.2.1 967 = .ok (.iconst 1, 1) := by decide +kernel
theorem d_Law_law_968 : decode M_Law_law.2.1 968 = .ok (.iadd, 1) := by decide +kernel
theorem d_Law_law_969 : decode M_Law_law.2.1 969 = .ok (.iaload, 1) := by decide +kernel
theorem d_Law_law_970 : decode M_Law_law.2.1 970 = .ok (.aload_n 0, 1) := by decide +kernel
theorem d_Law_law_971 : decode M_Law_law.2.1 971 = .ok (.iload_n 3, 1) := by decide +kernel
theorem d_Law_law_972 : decode M_Law_law.2.1 972 = .ok (.iconst 2, 1) := by decide +kernel
theorem d_Law_law_973 : decode M_Law_law.2.1 973 = .ok (.iadd, 1) := by decide +kernel
theorem d_Law_law_974 : decode M_Law_law.2.1 974 = .ok (.iaload, 1) := by decide +kernel
theorem d_Law_law_975 : decode M_Law_law.2.1 975 = .ok (.invokevirtual 111, 3) := by decide +kernel
theorem d_Law_law_978 : decode M_Law_law.2.1 978 = .ok (.if_icmp .eq 561, 3) := by decide +kernel
theorem d_Law_law_981 : decode M_Law_law.2.1 981 = .ok (.iconst 0, 1) := by decide +kernel
theorem d_Law_law_982 : decode M_Law_law.2.1 982 = .ok (.ireturn, 1) := by decide +kernel
theorem d_Law_law_983 : decode M_Law_law.2.1 983 = .ok (.aload_n 1, 1) := by decide +kernel
theorem d_Law_law_984 : decode M_Law_law.2.1 984 = .ok (.invokevirtual 112, 3) := by decide +kernel
theorem d_Law_law_987 : decode M_Law_law.2.1 987 = .ok (.aload_n 2, 1) := by decide +kernel
theorem d_Law_law_988 : decode M_Law_law.2.1 988 = .ok (.invokevirtual 115, 3) := by decide +kernel
theorem d_Law_law_991 : decode M_Law_law.2.1 991 = .ok (.if_icmp .eq 548, 3) := by decide +kernel
theorem d_Law_law_994 : decode M_Law_law.2.1 994 = .ok (.iconst 0, 1) := by decide +kernel
theorem d_Law_law_995 : decode M_Law_law.2.1 995 = .ok (.ireturn, 1) := by decide +kernel
theorem d_Law_law_996 : decode M_Law_law.2.1 996 = .ok (.aload_n 1, 1) := by decide +kernel
theorem d_Law_law_997 : decode M_Law_law.2.1 997 = .ok (.aload_n 0, 1) := by decide +kernel
theorem d_Law_law_998 : decode M_Law_law.2.1 998 = .ok (.iload_n 3, 1) := by decide +kernel
theorem d_Law_law_999 : decode M_Law_law.2.1 999 = .ok (.iconst 1, 1) := by decide +kernel
theorem d_Law_law_1000 : decode M_Law_law.2.1 1000 = .ok (.iadd, 1) := by decide +kernel
theorem d_Law_law_1001 : decode M_Law_law.2.1 1001 = .ok (.iaload, 1) := by decide +kernel
theorem d_Law_law_1002 : decode M_Law_law.2.1 1002 = .ok (.invokevirtual 116, 3) := by decide +kernel
theorem d_Law_law_1005 : decode M_Law_law.2.1 1005 = .ok (.aload_n 2, 1) := by decide +kernel
theorem d_Law_law_1006 : decode M_Law_law.2.1 1006 = .ok (.aload_n 0, 1) := by decide +kernel
theorem d_Law_law_1007 : decode M_Law_law.2.1 1007 = .ok (.iload_n 3, 1) := by decide +kernel
theorem d_Law_law_1008 : decode M_Law_law.2.1 1008 = .ok (.iconst 1, 1) := by decide +kernel
theorem d_Law_law_1009 : decode M_Law_law.2.1 1009 = .ok (.iadd, 1) := by decide +kernel
theorem d_Law_law_1010 : decode M_Law_law.2.1 1010 = .ok (.iaload, 1) := by decide +kernel
theorem d_Law_law_1011 : decode M_Law_law.2.1 1011 = .ok (.invokevirtual 119, 3) := by decide +kernel
theorem d_Law_law_1014 : decode M_Law_law.2.1 1014 = .ok (.if_icmp .eq 525, 3) := by decide +kernel
theorem d_Law_law_1017 : decode M_Law_law.2.1 1017 = .ok (.iconst 0, 1) := by decide +kernel
theorem d_Law_law_1018 : decode M_Law_law.2.1 1018 = .ok (.ireturn, 1) := by decide +kernel
theorem d_Law_law_1019 : decode M_Law_law.2.1 1019 = .ok (.aload_n 1, 1) := by decide +kernel
theorem d_Law_law_1020 : decode M_Law_law.2.1 1020 = .ok (.aload_n 0, 1) := by decide +kernel
theorem d_Law_law_1021 : decode M_Law_law.2.1 1021 = .ok (.iload_n 3, 1) := by decide +kernel
theorem d_Law_law_1022 : decode M_Law_law.2.1 1022 = .ok (.iconst 1, 1) := by decide +kernel
theorem d_Law_law_1023 : decode M_Law_law.2.1 1023 = .ok (.iadd, 1) := by decide +kernel
theorem d_Law_law_1024 : decode M_Law_law.2.1 1024 = .ok (.iaload, 1) := by decide +kernel
theorem d_Law_law_1025 : decode M_Law_law.2.1 1025 = .ok (.invokevirtual 120, 3) := by decide +kernel
theorem d_Law_law_1028 : decode M_Law_law.2.1 1028 = .ok (.aload_n 2, 1) := by decide +kernel
theorem d_Law_law_1029 : decode M_Law_law.2.1 1029 = .ok (.aload_n 0, 1) := by decide +kernel
theorem d_Law_law_1030 : decode M_Law_law.2.1 1030 = .ok (.iload_n 3, 1) := by decide +kernel
theorem d_Law_law_1031 : decode M_Law_law.2.1 1031 = .ok (.iconst 1, 1) := by decide +kernel
theorem d_Law_law_1032 : decode M_Law_law.2.1 1032 = .ok (.iadd, 1) := by decide +kernel
theorem d_Law_law_1033 : decode M_Law_law.2.1 1033 = .ok (.iaload, 1) := by decide +kernel
theorem d_Law_law_1034 : decode M_Law_law.2.1 1034 = .ok (.invokevirtual 124, 3) := by decide +kernel
theorem d_Law_law_1037 : decode M_Law_law.2.1 1037 = .ok (.if_icmp .eq 502, 3) := by decide +kernel
theorem d_Law_law_1040 : decode M_Law_law.2.1 1040 = .ok (.iconst 0, 1) := by decide +kernel
theorem d_Law_law_1041 : decode M_Law_law.2.1 1041 = .ok (.ireturn, 1) := by decide +kernel
theorem d_Law_law_1042 : decode M_Law_law.2.1 1042 = .ok (.aload_n 1, 1) := by decide +kernel
theorem d_Law_law_1043 : decode M_Law_law.2.1 1043 = .ok (.invokevirtual 125, 3) := by decide +kernel
theorem d_Law_law_1046 : decode M_Law_law.2.1 1046 = .ok (.aload_n 2, 1) := by decide +kernel
theorem d_Law_law_1047 : decode M_Law_law.2.1 1047 = .ok (.invokevirtual 128, 3) := by decide +kernel
theorem d_Law_law_1050 : decode M_Law_law.2.1 1050 = .ok (.if_icmp .eq 489, 3) := by decide +kernel
theorem d_Law_law_1053 : decode M_Law_law.2.1 1053 = .ok (.iconst 0, 1) := by decide +kernel
theorem d_Law_law_1054 : decode M_Law_law.2.1 1054 = .ok (.ireturn, 1) := by decide +kernel
theorem d_Law_law_1055 : decode M_Law_law.2.1 1055 = .ok (.aload_n 1, 1) := by decide +kernel
theorem d_Law_law_1056 : decode M_Law_law.2.1 1056 = .ok (.invokevirtual 129, 3) := by decide +kernel
theorem d_Law_law_1059 : decode M_Law_law.2.1 1059 = .ok (.aload_n 2, 1) := by decide +kernel
theorem d_Law_law_1060 : decode M_Law_law.2.1 1060 = .ok (.invokevirtual 132, 3) := by decide +kernel
theorem d_Law_law_1063 : decode M_Law_law.2.1 1063 = .ok (.if_icmp .eq 476, 3) := by decide +kernel
theorem d_Law_law_1066 : decode M_Law_law.2.1 1066 = .ok (.iconst 0, 1) := by decide +kernel
theorem d_Law_law_1067 : decode M_Law_law.2.1 1067 = .ok (.ireturn, 1) := by decide +kernel
theorem d_Law_law_1068 : decode M_Law_law.2.1 1068 = .ok (.aload_n 1, 1) := by decide +kernel
theorem d_Law_law_1069 : decode M_Law_law.2.1 1069 = .ok (.aload_n 0, 1) := by decide +kernel
theorem d_Law_law_1070 : decode M_Law_law.2.1 1070 = .ok (.iload_n 3, 1) := by decide +kernel
theorem d_Law_law_1071 : decode M_Law_law.2.1 1071 = .ok (.iconst 1, 1) := by decide +kernel
theorem d_Law_law_1072 : decode M_Law_law.2.1 1072 = .ok (.iadd, 1) := by decide +kernel
theorem d_Law_law_1073 : decode M_Law_law.2.1 1073 = .ok (.iaload, 1) := by decide +kernel
theorem d_Law_law_1074 : decode M_Law_law.2.1 1074 = .ok (.invokevirtual 133, 3) := by decide +kernel
theorem d_Law_law_1077 : decode M_Law_law.2.1 1077 = .ok (.aload_n 2, 1) := by decide +kernel
theorem d_Law_law_1078 : decode M_Law_law.2.1 1078 = .ok (.aload_n 0, 1) := by decide +kernel
theorem d_Law_law_1079 : decode M_Law_law.2.1 1079 = .ok (.iload_n 3, 1) := by decide +kernel
theorem d_Law_law_1080 : decode M_Law_law.2.1 1080 = .ok (.iconst 1, 1) := by decide +kernel
theorem d_Law_law_1081 : decode M_Law_law.2.1 1081 = .ok (.iadd, 1) := by decide +kernel
theorem d_Law_law_1082 : decode M_Law_law.2.1 1082 = .ok (.iaload, 1) := by decide +kernel
theorem d_Law_law_1083 : decode M_Law_law.2.1 1083 = .ok (.invokevirtual 136, 3) := by decide +kernel
theorem d_Law_law_1086 : decode M_Law_law.2.1 1086 = .ok (.if_icmp .eq 453, 3) := by decide +kernel
theorem d_Law_law_1089 : decode M_Law_law.2.1 1089 = .ok (.iconst 0, 1) := by decide +kernel
theorem d_Law_law_1090 : decode M_Law_law.2.1 1090 = .ok (.ireturn, 1) := by decide +kernel
theorem d_Law_law_1091 : decode M_Law_law.2.1 1091 = .ok (.aload_n 1, 1) := by decide +kernel
theorem d_Law_law_1092 : decode M_Law_law.2.1 1092 = .ok (.aload_n 0, 1) := by decide +kernel
theorem d_Law_law_1093 : decode M_Law_law.2.1 1093 = .ok (.iload_n 3, 1) := by decide +kernel
theorem d_Law_law_1094 : decode M_Law_law.2.1 1094 = .ok (.iconst 1, 1) := by decide +kernel
theorem d_Law_law_1095 : decode M_Law_law.2.1 1095 = .ok (.iadd, 1) := by decide +kernel
theorem d_Law_law_1096 : decode M_Law_law.2.1 1096 = .ok (.iaload, 1) := by decide +kernel
theorem d_Law_law_1097 : decode M_Law_law.2.1 1097 = .ok (.aload_n 0, 1) := by decide +kernel
theorem d_Law_law_1098 : decode M_Law_law.2.1 1098 = .ok (.iload_n 3, 1) := by decide +kernel
theorem d_Law_law_1099 : decode M_Law_law.2.1 1099 = .ok (.iconst 2, 1) := by decide +kernel
theorem d_Law_law_1100 : decode M_Law_law.2.1 1100 = .ok (.iadd, 1) := by decide +kernel
theorem d_Law_law_1101 : decode M_Law_law.2.1 1101 = .ok (.iaload, 1) := by decide +kernel
theorem d_Law_law_1102 : decode M_Law_law.2.1 1102 = .ok (.invokevirtual 137, 3) := by decide +kernel
theorem d_Law_law_1105 : decode M_Law_law.2.1 1105 = .ok (.aload_n 2, 1) := by decide +kernel
theorem d_Law_law_1106 : decode M_Law_law.2.1 1106 = .ok (.aload_n 0, 1) := by decide +kernel
theorem d_Law_law_1107 : decode M_Law_law.2.1 1107 = .ok (.iload_n 3, 1) := by decide +kernel
theorem d_Law_law_1108 : decode M_Law_law.2.1 1108 = .ok (.iconst 1, 1) := by decide +kernel
theorem d_Law_law_1109 : decode M_Law_law.2.1 1109 = .ok (.iadd, 1) := by decide +kernel
theorem d_Law_law_1110 : decode M_Law_law.2.1 1110 = .ok (.iaload, 1) := by decide +kernel
theorem d_Law_law_1111 : decode M_Law_law.2.1 1111 = .ok (.aload_n 0, 1) := by decide +kernel
theorem d_Law_law_1112 : decode M_Law_law.2.1 1112 = .ok (.iload_n 3, 1) := by decide +kernel
theorem d_Law_law_1113 : decode M_Law_law.2.1 1113 = .ok (.iconst 2, 1) := by decide +kernel
theorem d_Law_law_1114 : decode M_Law_law.2.1 1114 = .ok (.iadd, 1) := by decide +kernel
theorem d_Law_law_1115 : decode M_Law_law.2.1 1115 = .ok (.iaload, 1) := by decide +kernel
theorem d_Law_law_1116 : decode M_Law_law.2.1 1116 = .ok (.invokevirtual 140, 3) := by decide +kernel
theorem d_Law_law_1119 : decode M_Law_law.2.1 1119 = .ok (.if_icmp .eq 420, 3) := by decide +kernel
theorem d_Law_law_1122 : decode M_Law_law.2.1 1122 = .ok (.iconst 0, 1) := by decide +kernel
theorem d_Law_law_1123 : decode M_Law_law.2.1 1123 = .ok (.ireturn, 1) := by decide +kernel
theorem d_Law_law_1124 : decode M_Law_law.2.1 1124 = .ok (.aload_n 1, 1) := by decide +kernel
theorem d_Law_law_1125 : decode M_Law_law.2.1 1125 = .ok (.aload_n 0, 1) := by decide +kernel
theorem d_Law_law_1126 : decode M_Law_law.2.1 1126 = .ok (.iload_n 3, 1) := by decide +kernel
theorem d_Law_law_1127 : decode M_Law_law.2.1 1127 = .ok (.iconst 1, 1) := by decide +kernel
theorem d_Law_law_1128 : decode M_Law_law.2.1 1128 = .ok (.iadd, 1) := by decide +kernel
theorem d_Law_law_1129 : decode M_Law_law.2.1 1129 = .ok (.iaload, 1) := by decide +kernel
theorem d_Law_law_1130 : decode M_Law_law.2.1 1130 = .ok (.aload_n 0, 1) := by decide +kernel
theorem d_Law_law_1131 : decode M_Law_law.2.1 1131 = .ok (.iload_n 3, 1) := by decide +kernel
theorem d_Law_law_1132 : decode M_Law_law.2.1 1132 = .ok (.iconst 2, 1) := by decide +kernel
theorem d_Law_law_1133 : decode M_Law_law.2.1 1133 = .ok (.iadd, 1) := by decide +kernel
theorem d_Law_law_1134 : decode M_Law_law.2.1 1134 = .ok (.iaload, 1) := by decide +kernel
theorem d_Law_law_1135 : decode M_Law_law.2.1 1135 = .ok (.aload_n 0, 1) := by decide +kernel
theorem d_Law_law_1136 : decode M_Law_law.2.1 1136 = .ok (.iload_n 3, 1) := by decide +kernel
theorem d_Law_law_1137 : decode M_Law_law.2.1 1137 = .ok (.iconst 3, 1) := by decide +kernel
theorem d_Law_law_1138 : decode M_Law_law.2.1 1138 = .ok (.iadd, 1) := by decide +kernel
theorem d_Law_law_1139 : decode M_Law_law.2.1 1139 = .ok (.iaload, 1) := by decide +kernel
theorem d_Law_law_1140 : decode M_Law_law.2.1 1140 = .ok (.invokevirtual 141, 3) := by decide +kernel
theorem d_Law_law_1143 : decode M_Law_law.2.1 1143 = .ok (.aload_n 2, 1) := by decide +kernel
theorem d_Law_law_1144 : decode M_Law_law.2.1 1144 = .ok (.aload_n 0, 1) := by decide +kernel
theorem d_Law_law_1145 : decode M_Law_law.2.1 1145 = .ok (.iload_n 3, 1) := by decide +kernel
theorem d_Law_law_1146 : decode M_Law_law.2.1 1146 = .ok (.iconst 1, 1) := by decide +kernel
theorem d_Law_law_1147 : decode M_Law_law.2.1 1147 = .ok (.iadd, 1) := by decide +kernel
theorem d_Law_law_1148 : decode M_Law_law.2.1 1148 = .ok (.iaload, 1) := by decide +kernel
theorem d_Law_law_1149 : decode M_Law_law.2.1 1149 = .ok (.aload_n 0, 1) := by decide +kernel
theorem d_Law_law_1150 : decode M_Law_law.2.1 1150 = .ok (.iload_n 3, 1) := by decide +kernel
theorem d_Law_law_1151 : decode M_Law_law.2.1 1151 = .ok (.iconst 2, 1) := by decide +kernel
theorem d_Law_law_1152 : decode M_Law_law.2.1 1152 = .ok (.iadd, 1) := by decide +kernel
theorem d_Law_law_1153 : decode M_Law_law.2.1 1153 = .ok (.iaload, 1) := by decide +kernel
theorem d_Law_law_1154 : decode M_Law_law.2.1 1154 = .ok (.aload_n 0, 1) := by decide +kernel
theorem d_Law_law_1155 : decode M_Law_law.2.1 1155 = .ok (.iload_n 3, 1) := by decide +kernel
theorem d_Law_law_1156 : decode M_Law_law.2.1 1156 = .ok (.iconst 3, 1) := by decide +kernel
theorem d_Law_law_1157 : decode M_Law_law.2.1 1157 = .ok (.iadd, 1) := by decide +kernel
theorem d_Law_law_1158 : decode M_Law_law.2.1 1158 = .ok (.iaload, 1) := by decide +kernel
theorem d_Law_law_1159 : decode M_Law_law.2.1 1159 = .ok (.invokevirtual 144, 3) := by decide +kernel
theorem d_Law_law_1162 : decode M_Law_law.2.1 1162 = .ok (.if_icmp .eq 377, 3) := by decide +kernel
theorem d_Law_law_1165 : decode M_Law_law.2.1 1165 = .ok (.iconst 0, 1) := by decide +kernel
theorem d_Law_law_1166 : decode M_Law_law.2.1 1166 = .ok (.ireturn, 1) := by decide +kernel
theorem d_Law_law_1167 : decode M_Law_law.2.1 1167 = .ok (.aload_n 1, 1) := by decide +kernel
theorem d_Law_law_1168 : decode M_Law_law.2.1 1168 = .ok (.aload_n 0, 1) := by decide +kernel
theorem d_Law_law_1169 : decode M_Law_law.2.1 1169 = .ok (.iload_n 3, 1) := by decide +kernel
theorem d_Law_law_1170 : decode M_Law_law.2.1 1170 = .ok (.iconst 1, 1) := by decide +kernel
theorem d_Law_law_1171 : decode M_Law_law.2.1 1171 = .ok (.iadd, 1) := by decide +kernel
theorem d_Law_law_1172 : decode M_Law_law.2.1 1172 = .ok (.iaload, 1) := by decide +kernel
theorem d_Law_law_1173 : decode M_Law_law.2.1 1173 = .ok (.aload_n 0, 1) := by decide +kernel
theorem d_Law_law_1174 : decode M_Law_law.2.1 1174 = .ok (.iload_n 3, 1) := by decide +kernel
theorem d_Law_law_1175 : decode M_Law_law.2.1 1175 = .ok (.iconst 2, 1) := by decide +kernel
theorem d_Law_law_1176 : decode M_Law_law.2.1 1176 = .ok (.iadd, 1) := by decide +kernel
theorem d_Law_law_1177 : decode M_Law_law.2.1 1177 = .ok (.iaload, 1) := by decide +kernel
theorem d_Law_law_1178 : decode M_Law_law.2.1 1178 = .ok (.invokevirtual 145, 3) := by decide +kernel
theorem d_Law_law_1181 : decode M_Law_law.2.1 1181 = .ok (.aload_n 2, 1) := by decide +kernel
theorem d_Law_law_1182 : decode M_Law_law.2.1 1182 = .ok (.aload_n 0, 1) := by decide +kernel
theorem d_Law_law_1183 : decode M_Law_law.2.1 1183 = .ok (.iload_n 3, 1) := by decide +kernel
theorem d_Law_law_1184 : decode M_Law_law.2.1 1184 = .ok (.iconst 1, 1) := by decide +kernel
theorem d_Law_law_1185 : decode M_Law_law.2.1 1185 = .ok (.iadd, 1) := by decide +kernel
theorem d_Law_law_1186 : decode M_Law_law.2.1 1186 = .ok (.iaload, 1) := by decide +kernel
theorem d_Law_law_1187 : decode M_Law_law.2.1 1187 = .ok (.aload_n 0, 1) := by decide +kernel
theorem d_Law_law_1188 : decode M_Law_law.2.1 1188 = .ok (.iload_n 3, 1) := by decide +kernel
theorem d_Law_law_1189 : decode M_Law_law.2.1 1189 = .ok (.iconst 2, 1) := by decide +kernel
theorem d_Law_law_1190 : decode M_Law_law.2.1 1190 = .ok (.iadd, 1) := by decide +kernel
theorem d_Law_law_1191 : decode M_Law_law.2.1 1191 = .ok (.iaload, 1) := by decide +kernel
theorem d_Law_law_1192 : decode M_Law_law.2.1 1192 = .ok (.invokevirtual 148, 3) := by decide +kernel
theorem d_Law_law_1195 : decode M_Law_law.2.1 1195 = .ok (.if_icmp .eq 344, 3) := by decide +kernel
theorem d_Law_law_1198 : decode M_Law_law.2.1 1198 = .ok (.iconst 0, 1) := by decide +kernel
theorem d_Law_law_1199 : decode M_Law_law.2.1 1199 = .ok (.ireturn, 1) := by decide +kernel
theorem d_Law_law_1200 : decode M_Law_law.2.1 1200 = .ok (.aload_n 1, 1) := by decide +kernel
theorem d_Law_law_1201 : decode M_Law_law.2.1 1201 = .ok (.aload_n 0, 1) := by decide +kernel
theorem d_Law_law_1202 : decode M_Law_law.2.1 1202 = .ok (.iload_n 3, 1) := by decide +kernel
theorem d_Law_law_1203 : decode M_Law_law.2.1 1203 = .ok (.iconst 1, 1) := by decide +kernel
theorem d_Law_law_1204 : decode M_Law_law.2.1 1204 = .ok (.iadd, 1) := by decide +kernel
theorem d_Law_law_1205 : decode M_Law_law.2.1 1205 = .ok (.iaload, 1) := by decide +kernel
theorem d_Law_law_1206 : decode M_Law_law.2.1 1206 = .ok (.aload_n 0, 1) := by decide +kernel
theorem d_Law_law_1207 : decode M_Law_law.2.1 1207 = .ok (.iload_n 3, 1) := by decide +kernel
theorem d_Law_law_1208 : decode M_Law_law.2.1 1208 = .ok (.iconst 2, 1) := by decide +kernel
theorem d_Law_law_1209 : decode M_Law_law.2.1 1209 = .ok (.iadd, 1) := by decide +kernel
theorem d_Law_law_1210 : decode M_Law_law.2.1 1210 = .ok (.iaload, 1) := by decide +kernel
theorem d_Law_law_1211 : decode M_Law_law.2.1 1211 = .ok (.invokevirtual 149, 3) := by decide +kernel
theorem d_Law_law_1214 : decode M_Law_law.2.1 1214 = .ok (.aload_n 2, 1) := by decide +kernel
theorem d_Law_law_1215 : decode M_Law_law.2.1 1215 = .ok (.aload_n 0, 1) := by decide +kernel
theorem d_Law_law_1216 : decode M_Law_law.2.1 1216 = .ok (.iload_n 3, 1) := by decide +kernel
theorem d_Law_law_1217 : decode M_Law_law.2.1 1217 = .ok (.iconst 1, 1) := by decide +kernel
theorem d_Law_law_1218 : decode M_Law_law.2.1 1218 = .ok (.iadd, 1) := by decide +kernel
theorem d_Law_law_1219 : decode M_Law_law.2.1 1219 = .ok (.iaload, 1) := by decide +kernel
theorem d_Law_law_1220 : decode M_Law_law.2.1 1220 = .ok (.aload_n 0, 1) := by decide +kernel
theorem d_Law_law_1221 : decode M_Law_law.2.1 1221 = .ok (.iload_n 3, 1) := by decide +kernel
theorem d_Law_law_1222 : decode M_Law_law.2.1 1222 = .ok (.iconst 2, 1) := by decide +kernel
theorem d_Law_law_1223 : decode M_Law_law.2.1 1223 = .ok (.iadd, 1) := by decide +kernel
theorem d_Law_law_1224 : decode M_Law_law.2.1 1224 = .ok (.iaload, 1) := by decide +kernel
theorem d_Law_law_1225 : decode M_Law_law.2.1 1225 = .ok (.invokevirtual 152, 3) := by decide +kernel
theorem d_Law_law_1228 : decode M_Law_law.2.1 1228 = .ok (.if_icmp .eq 311, 3) := by decide +kernel
theorem d_Law_law_1231 : decode M_Law_law.2.1 1231 = .ok (.iconst 0, 1) := by decide +kernel
theorem d_Law_law_1232 : decode M_Law_law.2.1 1232 = .ok (.ireturn, 1) := by decide +kernel
theorem d_Law_law_1233 : decode M_Law_law.2.1 1233 = .ok (.aload_n 1, 1) := by decide +kernel
theorem d_Law_law_1234 : decode M_Law_law.2.1 1234 = .ok (.aload_n 0, 1) := by decide +kernel
theorem d_Law_law_1235 : decode M_Law_law.2.1 1235 = .ok (.iload_n 3, 1) := by decide +kernel
theorem d_Law_law_1236 : decode M_Law_law.2.1 1236 = .ok (.iconst 1, 1) := by decide +kernel
theorem d_Law_law_1237 : decode M_Law_law.2.1 1237 = .ok (.iadd, 1) := by decide +kernel
theorem d_Law_law_1238 : decode M_Law_law.2.1 1238 = .ok (.iaload, 1) := by decide +kernel
theorem d_Law_law_1239 : decode M_Law_law.2.1 1239 = .ok (.aload_n 0, 1) := by decide +kernel
theorem d_Law_law_1240 : decode M_Law_law.2.1 1240 = .ok (.iload_n 3, 1) := by decide +kernel
theorem d_Law_law_1241 : decode M_Law_law.2.1 1241 = .ok (.iconst 2, 1) := by decide +kernel
theorem d_Law_law_1242 : decode M_Law_law.2.1 1242 = .ok (.iadd, 1) := by decide +kernel
theorem d_Law_law_1243 : decode M_Law_law.2.1 1243 = .ok (.iaload, 1) := by decide +kernel
theorem d_Law_law_1244 : decode M_Law_law.2.1 1244 = .ok (.aload_n 0, 1) := by decide +kernel
theorem d_Law_law_1245 : decode M_Law_law.2.1 1245 = .ok (.iload_n 3, 1) := by decide +kernel
theorem d_Law_law_1246 : decode M_Law_law.2.1 1246 = .ok (.iconst 3, 1) := by decide +kernel
theorem d_Law_law_1247 : decode M_Law_law.2.1 1247 = .ok (.iadd, 1) := by decide +kernel
theorem d_Law_law_1248 : decode M_Law_law.2.1 1248 = .ok (.iaload, 1) := by decide +kernel
theorem d_Law_law_1249 : decode M_Law_law.2.1 1249 = .ok (.invokevirtual 153, 3) := by decide +kernel
theorem d_Law_law_1252 : decode M_Law_law.2.1 1252 = .ok (.aload_n 2, 1) := by decide +kernel
theorem d_Law_law_1253 : decode M_Law_law.2.1 1253 = .ok (.aload_n 0, 1) := by decide +kernel
theorem d_Law_law_1254 : decode M_Law_law.2.1 1254 = .ok (.iload_n 3, 1) := by decide +kernel
theorem d_Law_law_1255 : decode M_Law_law.2.1 1255 = .ok (.iconst 1, 1) := by decide +kernel
theorem d_Law_law_1256 : decode M_Law_law.2.1 1256 = .ok (.iadd, 1) := by decide +kernel
theorem d_Law_law_1257 : decode M_Law_law.2.1 1257 = .ok (.iaload, 1) := by decide +kernel
theorem d_Law_law_1258 : decode M_Law_law.2.1 1258 = .ok (.aload_n 0, 1) := by decide +kernel
theorem d_Law_law_1259 : decode M_Law_law.2.1 1259 = .ok (.iload_n 3, 1) := by decide +kernel
theorem d_Law_law_1260 : decode M_Law_law.2.1 1260 = .ok (.iconst 2, 1) := by decide +kernel
theorem d_Law_law_1261 : decode M_Law_law.2.1 1261 = .ok (.iadd, 1) := by decide +kernel
theorem d_Law_law_1262 : decode M_Law_law.2.1 1262 = .ok (.iaload, 1) := by decide +kernel
theorem d_Law_law_1263 : decode M_Law_law.2.1 1263 = .ok (.aload_n 0, 1) := by decide +kernel
theorem d_Law_law_1264 : decode M_Law_law.2.1 1264 = .ok (.iload_n 3, 1) := by decide +kernel
theorem d_Law_law_1265 : decode M_Law_law.2.1 1265 = .ok (.iconst 3, 1) := by decide +kernel
theorem d_Law_law_1266 : decode M_Law_law.2.1 1266 = .ok (.iadd, 1) := by decide +kernel
theorem d_Law_law_1267 : decode M_Law_law.2.1 1267 = .ok (.iaload, 1) := by decide +kernel
theorem d_Law_law_1268 : decode M_Law_law.2.1 1268 = .ok (.invokevirtual 157, 3) := by decide +kernel
theorem d_Law_law_1271 : decode M_Law_law.2.1 1271 = .ok (.if_icmp .eq 268, 3) := by decide +kernel
theorem d_Law_law_1274 : decode M_Law_law.2.1 1274 = .ok (.iconst 0, 1) := by decide +kernel
theorem d_Law_law_1275 : decode M_Law_law.2.1 1275 = .ok (.ireturn, 1) := by decide +kernel
theorem d_Law_law_1276 : decode M_Law_law.2.1 1276 = .ok (.aload_n 1, 1) := by decide +kernel
theorem d_Law_law_1277 : decode M_Law_law.2.1 1277 = .ok (.aload_n 0, 1) := by decide +kernel
theorem d_Law_law_1278 : decode M_Law_law.2.1 1278 = .ok (.iload_n 3, 1) := by decide +kernel
theorem d_Law_law_1279 : decode M_Law_law.2.1 1279 = .ok (.iconst 1, 1) := by decide +kernel
theorem d_Law_law_1280 : decode M_Law_law.2.1 1280 = .ok (.iadd, 1) := by decide +kernel
theorem d_Law_law_1281 : decode M_Law_law.2.1 1281 = .ok (.iaload, 1) := by decide +kernel
theorem d_Law_law_1282 : decode M_Law_law.2.1 1282 = .ok (.aload_n 0, 1) := by decide +kernel
theorem d_Law_law_1283 : decode M_Law_law.2.1 1283 = .ok (.iload_n 3, 1) := by decide +kernel
theorem d_Law_law_1284 : decode M_Law_law.2.1 1284 = .ok (.iconst 2, 1) := by decide +kernel
theorem d_Law_law_1285 : decode M_Law_law.2.1 1285 = .ok (.iadd, 1) := by decide +kernel
theorem d_Law_law_1286 : decode M_Law_law.2.1 1286 = .ok (.iaload, 1) := by decide +kernel
theorem d_Law_law_1287 : decode M_Law_law.2.1 1287 = .ok (.invokevirtual 158, 3) := by decide +kernel
theorem d_Law_law_1290 : decode M_Law_law.2.1 1290 = .ok (.aload_n 2, 1) := by decide +kernel
theorem d_Law_law_1291 : decode M_Law_law.2.1 1291 = .ok (.aload_n 0, 1) := by decide +kernel
theorem d_Law_law_1292 : decode M_Law_law.2.1 1292 = .ok (.iload_n 3, 1) := by decide +kernel
theorem d_Law_law_1293 : decode M_Law_law.2.1 1293 = .ok (.iconst 1, 1) := by decide +kernel
theorem d_Law_law_1294 : decode M_Law_law.2.1 1294 = .ok (.iadd, 1) := by decide +kernel
theorem d_Law_law_1295 : decode M_Law_law.2.1 1295 = .ok (.iaload, 1) := by decide +kernel
theorem d_Law_law_1296 : decode M_Law_law.2.1 1296 = .ok (.aload_n 0, 1) := by decide +kernel
theorem d_Law_law_1297 : decode M_Law_law.2.1 1297 = .ok (.iload_n 3, 1) := by decide +kernel
theorem d_Law_law_1298 : decode M_Law_law.2.1 1298 = .ok (.iconst 2, 1) := by decide +kernel
theorem d_Law_law_1299 : decode M_Law_law.2.1 1299 = .ok (.iadd, 1) := by decide +kernel
theorem d_Law_law_1300 : decode M_Law_law.2.1 1300 = .ok (.iaload, 1) := by decide +kernel
theorem d_Law_law_1301 : decode M_Law_law.2.1 1301 = .ok (.invokevirtual 162, 3) := by decide +kernel
theorem d_Law_law_1304 : decode M_Law_law.2.1 1304 = .ok (.if_icmp .eq 235, 3) := by decide +kernel
theorem d_Law_law_1307 : decode M_Law_law.2.1 1307 = .ok (.iconst 0, 1) := by decide +kernel
theorem d_Law_law_1308 : decode M_Law_law.2.1 1308 = .ok (.ireturn, 1) := by decide +kernel
theorem d_Law_law_1309 : decode M_Law_law.2.1 1309 = .ok (.aload_n 1, 1) := by decide +kernel
theorem d_Law_law_1310 : decode M_Law_law.2.1 1310 = .ok (.aload_n 0, 1) := by decide +kernel
theorem d_Law_law_1311 : decode M_Law_law.2.1 1311 = .ok (.iload_n 3, 1) := by decide +kernel
theorem d_Law_law_1312 : decode M_Law_law.2.1 1312 = .ok (.iconst 1, 1) := by decide +kernel
theorem d_Law_law_1313 : decode M_Law_law.2.1 1313 = .ok (.iadd, 1) := by decide +kernel
theorem d_Law_law_1314 : decode M_Law_law.2.1 1314 = .ok (.iaload, 1) := by decide +kernel
theorem d_Law_law_1315 : decode M_Law_law.2.1 1315 = .ok (.invokevirtual 163, 3) := by decide +kernel
theorem d_Law_law_1318 : decode M_Law_law.2.1 1318 = .ok (.aload_n 2, 1) := by decide +kernel
theorem d_Law_law_1319 : decode M_Law_law.2.1 1319 = .ok (.aload_n 0, 1) := by decide +kernel
theorem d_Law_law_1320 : decode M_Law_law.2.1 1320 = .ok (.iload_n 3, 1) := by decide +kernel
theorem d_Law_law_1321 : decode M_Law_law.2.1 1321 = .ok (.iconst 1, 1) := by decide +kernel
theorem d_Law_law_1322 : decode M_Law_law.2.1 1322 = .ok (.iadd, 1) := by decide +kernel
theorem d_Law_law_1323 : decode M_Law_law.2.1 1323 = .ok (.iaload, 1) := by decide +kernel
theorem d_Law_law_1324 : decode M_Law_law.2.1 1324 = .ok (.invokevirtual 166, 3) := by decide +kernel
theorem d_Law_law_1327 : decode M_Law_law.2.1 1327 = .ok (.if_icmp .eq 212, 3) := by decide +kernel
theorem d_Law_law_1330 : decode M_Law_law.2.1 1330 = .ok (.iconst 0, 1) := by decide +kernel
theorem d_Law_law_1331 : decode M_Law_law.2.1 1331 = .ok (.ireturn, 1) := by decide +kernel
theorem d_Law_law_1332 : decode M_Law_law.2.1 1332 = .ok (.aload_n 1, 1) := by decide +kernel
theorem d_Law_law_1333 : decode M_Law_law.2.1 1333 = .ok (.aload_n 0, 1) := by decide +kernel
theorem d_Law_law_1334 : decode M_Law_law.2.1 1334 = .ok (.iload_n 3, 1) := by decide +kernel
theorem d_Law_law_1335 : decode M_Law_law.2.1 1335 = .ok (.iconst 1, 1) := by decide +kernel
theorem d_Law_law_1336 : decode M_Law_law.2.1 1336 = .ok (.iadd, 1) := by decide +kernel
theorem d_Law_law_1337 : decode M_Law_law.2.1 1337 = .ok (.iaload, 1) := by decide +kernel
theorem d_Law_law_1338 : decode M_Law_law.2.1 1338 = .ok (.invokevirtual 167, 3) := by decide +kernel
theorem d_Law_law_1341 : decode M_Law_law.2.1 1341 = .ok (.aload_n 2, 1) := by decide +kernel
theorem d_Law_law_1342 : decode M_Law_law.2.1 1342 = .ok (.aload_n 0, 1) := by decide +kernel
theorem d_Law_law_1343 : decode M_Law_law.2.1 1343 = .ok (.iload_n 3, 1) := by decide +kernel
theorem d_Law_law_1344 : decode M_Law_law.2.1 1344 = .ok (.iconst 1, 1) := by decide +kernel
theorem d_Law_law_1345 : decode M_Law_law.2.1 1345 = .ok (.iadd, 1) := by decide +kernel
theorem d_Law_law_1346 : decode M_Law_law.2.1 1346 = .ok (.iaload, 1) := by decide +kernel
theorem d_Law_law_1347 : decode M_Law_law.2.1 1347 = .ok (.invokevirtual 170, 3) := by decide +kernel
theorem d_Law_law_1350 : decode M_Law_law.2.1 1350 = .ok (.if_icmp .eq 189, 3) := by decide +kernel
theorem d_Law_law_1353 : decode M_Law_law.2.1 1353 = .ok (.iconst 0, 1) := by decide +kernel
theorem d_Law_law_1354 : decode M_Law_law.2.1 1354 = .ok (.ireturn, 1) := by decide +kernel
theorem d_Law_law_1355 : decode M_Law_law.2.1 1355 = .ok (.aload_n 1, 1) := by decide +kernel
theorem d_Law_law_1356 : decode M_Law_law.2.1 1356 = .ok (.aload_n 0, 1) := by decide +kernel
theorem d_Law_law_1357 : decode M_Law_law.2.1 1357 = .ok (.iload_n 3, 1) := by decide +kernel
theorem d_Law_law_1358 : decode M_Law_law.2.1 1358 = .ok (.iconst 1, 1) := by decide +kernel
theorem d_Law_law_1359 : decode M_Law_law.2.1 1359 = .ok (.iadd, 1) := by decide +kernel
theorem d_Law_law_1360 : decode M_Law_law.2.1 1360 = .ok (.iaload, 1) := by decide +kernel
theorem d_Law_law_1361 : decode M_Law_law.2.1 1361 = .ok (.aload_n 0, 1) := by decide +kernel
theorem d_Law_law_1362 : decode M_Law_law.2.1 1362 = .ok (.iload_n 3, 1) := by decide +kernel
theorem d_Law_law_1363 : decode M_Law_law.2.1 1363 = .ok (.iconst 2, 1) := by decide +kernel
theorem d_Law_law_1364 : decode M_Law_law.2.1 1364 = .ok (.iadd, 1) := by decide +kernel
theorem d_Law_law_1365 : decode M_Law_law.2.1 1365 = .ok (.iaload, 1) := by decide +kernel
theorem d_Law_law_1366 : decode M_Law_law.2.1 1366 = .ok (.invokevirtual 171, 3) := by decide +kernel
theorem d_Law_law_1369 : decode M_Law_law.2.1 1369 = .ok (.aload_n 2, 1) := by decide +kernel
theorem d_Law_law_1370 : decode M_Law_law.2.1 1370 = .ok (.aload_n 0, 1) := by decide +kernel
theorem d_Law_law_1371 : decode M_Law_law.2.1 1371 = .ok (.iload_n 3, 1) := by decide +kernel
theorem d_Law_law_1372 : decode M_Law_law.2.1 1372 = .ok (.iconst 1, 1) := by decide +kernel
theorem d_Law_law_1373 : decode M_Law_law.2.1 1373 = .ok (.iadd, 1) := by decide +kernel
theorem d_Law_law_1374 : decode M_Law_law.2.1 1374 = .ok (.iaload, 1) := by decide +kernel
theorem d_Law_law_1375 : decode M_Law_law.2.1 1375 = .ok (.aload_n 0, 1) := by decide +kernel
theorem d_Law_law_1376 : decode M_Law_law.2.1 1376 = .ok (.iload_n 3, 1) := by decide +kernel
theorem d_Law_law_1377 : decode M_Law_law.2.1 1377 = .ok (.iconst 2, 1) := by decide +kernel
theorem d_Law_law_1378 : decode M_Law_law.2.1 1378 = .ok (.iadd, 1) := by decide +kernel
theorem d_Law_law_1379 : decode M_Law_law.2.1 1379 = .ok (.iaload, 1) := by decide +kernel
theorem d_Law_law_1380 : decode M_Law_law.2.1 1380 = .ok (.invokevirtual 174, 3) := by decide +kernel
theorem d_Law_law_1383 : decode M_Law_law.2.1 1383 = .ok (.if_icmp .eq 156, 3) := by decide +kernel
theorem d_Law_law_1386 : decode M_Law_law.2.1 1386 = .ok (.iconst 0, 1) := by decide +kernel
theorem d_Law_law_1387 : decode M_Law_law.2.1 1387 = .ok (.ireturn, 1) := by decide +kernel
theorem d_Law_law_1388 : decode M_Law_law.2.1 1388 = .ok (.aload_n 1, 1) := by decide +kernel
theorem d_Law_law_1389 : decode M_Law_law.2.1 1389 = .ok (.aload_n 0, 1) := by decide +kernel
theorem d_Law_law_1390 : decode M_Law_law.2.1 1390 = .ok (.iload_n 3, 1) := by decide +kernel
theorem d_Law_law_1391 : decode M_Law_law.2.1 1391 = .ok (.iconst 1, 1) := by decide +kernel
theorem d_Law_law_1392 : decode M_Law_law.2.1 1392 = .ok (.iadd, 1) := by decide +kernel
theorem d_Law_law_1393 : decode M_Law_law.2.1 1393 = .ok (.iaload, 1) := by decide +kernel
theorem d_Law_law_1394 : decode M_Law_law.2.1 1394 = .ok (.invokevirtual 175, 3) := by decide +kernel
theorem d_Law_law_1397 : decode M_Law_law.2.1 1397 = .ok (.aload_n 2, 1) := by decide +kernel
theorem d_Law_law_1398 : decode M_Law_law.2.1 1398 = .ok (.aload_n 0, 1) := by decide +kernel
theorem d_Law_law_1399 : decode M_Law_law.2.1 1399 = .ok (.iload_n 3, 1) := by decide +kernel
theorem d_Law_law_1400 : decode M_Law_law.2.1 1400 = .ok (.iconst 1, 1) := by decide +kernel
theorem d_Law_law_1401 : decode M_Law_law.2.1 1401 = .ok (.iadd, 1) := by decide +kernel
theorem d_Law_law_1402 : decode M_Law_law.2.1 1402 = .ok (.iaload, 1) := by decide +kernel
theorem d_Law_law_1403 : decode M_Law_law.2.1 1403 = .ok (.invokevirtual 178, 3) := by decide +kernel
theorem d_Law_law_1406 : decode M_Law_law.2.1 1406 = .ok (.if_icmp .eq 133, 3) := by decide +kernel
theorem d_Law_law_1409 : decode M_Law_law.2.1 1409 = .ok (.iconst 0, 1) := by decide +kernel
theorem d_Law_law_1410 : decode M_Law_law.2.1 1410 = .ok (.ireturn, 1) := by decide +kernel
theorem d_Law_law_1411 : decode M_Law_law.2.1 1411 = .ok (.aload_n 1, 1) := by decide +kernel
theorem d_Law_law_1412 : decode M_Law_law.2.1 1412 = .ok (.aload_n 0, 1) := by decide +kernel
theorem d_Law_law_1413 : decode M_Law_law.2.1 1413 = .ok (.iload_n 3, 1) := by decide +kernel
theorem d_Law_law_1414 : decode M_Law_law.2.1 1414 = .ok (.iconst 1, 1) := by decide +kernel
theorem d_Law_law_1415 : decode M_Law_law.2.1 1415 = .ok (.iadd, 1) := by decide +kernel
theorem d_Law_law_1416 : decode M_Law_law.2.1 1416 = .ok (.iaload, 1) := by decide +kernel
theorem d_Law_law_1417 : decode M_Law_law.2.1 1417 = .ok (.invokevirtual 179, 3) := by decide +kernel
theorem d_Law_law_1420 : decode M_Law_law.2.1 1420 = .ok (.aload_n 2, 1) := by decide +kernel
theorem d_Law_law_1421 : decode M_Law_law.2.1 1421 = .ok (.aload_n 0, 1) := by decide +kernel
theorem d_Law_law_1422 : decode M_Law_law.2.1 1422 = .ok (.iload_n 3, 1) := by decide +kernel
theorem d_Law_law_1423 : decode M_Law_law.2.1 1423 = .ok (.iconst 1, 1) := by decide +kernel
theorem d_Law_law_1424 : decode M_Law_law.2.1 1424 = .ok (.iadd, 1) := by decide +kernel
theorem d_Law_law_1425 : decode M_Law_law.2.1 1425 = .ok (.iaload, 1) := by decide +kernel
theorem d_Law_law_1426 : decode M_Law_law.2.1 1426 = .ok (.invokevirtual 182, 3) := by decide +kernel
theorem d_Law_law_1429 : decode M_Law_law.2.1 1429 = .ok (.if_icmp .eq 110, 3) := by decide +kernel
theorem d_Law_law_1432 : decode M_Law_law.2.1 1432 = .ok (.iconst 0, 1) := by decide +kernel
theorem d_Law_law_1433 : decode M_Law_law.2.1 1433 = .ok (.ireturn, 1) := by decide +kernel
theorem d_Law_law_1434 : decode M_Law_law.2.1 1434 = .ok (.aload_n 1, 1) := by decide +kernel
theorem d_Law_law_1435 : decode M_Law_law.2.1 1435 = .ok (.aload_n 0, 1) := by decide +kernel
theorem d_Law_law_1436 : decode M_Law_law.2.1 1436 = .ok (.iload_n 3, 1) := by decide +kernel
theorem d_Law_law_1437 : decode M_Law_law.2.1 1437 = .ok (.iconst 1, 1) := by decide +kernel
theorem d_Law_law_1438 : decode M_Law_law.2.1 1438 = .ok (.iadd, 1) := by decide +kernel
theorem d_Law_law_1439 : decode M_Law_law.2.1 1439 = .ok (.iaload, 1) := by decide +kernel
theorem d_Law_law_1440 : decode M_Law_law.2.1 1440 = .ok (.invokevirtual 183, 3) := by decide +kernel
theorem d_Law_law_1443 : decode M_Law_law.2.1 1443 = .ok (.aload_n 2, 1) := by decide +kernel
theorem d_Law_law_1444 : decode M_Law_law.2.1 1444 = .ok (.aload_n 0, 1) := by decide +kernel
theorem d_Law_law_1445 : decode M_Law_law.2.1 1445 = .ok (.iload_n 3, 1) := by decide +kernel
theorem d_Law_law_1446 : decode M_Law_law.2.1 1446 = .ok (.iconst 1, 1) := by decide +kernel
theorem d_Law_law_1447 : decode M_Law_law.2.1 1447 = .ok (.iadd, 1) := by decide +kernel
theorem d_Law_law_1448 : decode M_Law_law.2.1 1448 = .ok (.iaload, 1) := by decide +kernel
theorem d_Law_law_1449 : decode M_Law_law.2.1 1449 = .ok (.invokevirtual 186, 3) := by decide +kernel
theorem d_Law_law_1452 : decode M_Law_law.2.1 1452 = .ok (.if_icmp .eq 87, 3) := by decide +kernel
theorem d_Law_law_1455 : decode M_Law_law.2.1 1455 = .ok (.iconst 0, 1) := by decide +kernel
theorem d_Law_law_1456 : decode M_Law_law.2.1 1456 = .ok (.ireturn, 1) := by decide +kernel
theorem d_Law_law_1457 : decode M_Law_law.2.1 1457 = .ok (.aload_n 1, 1) := by decide +kernel
theorem d_Law_law_1458 : decode M_Law_law.2.1 1458 = .ok (.aload_n 0, 1) := by decide +kernel
theorem d_Law_law_1459 : decode M_Law_law.2.1 1459 = .ok (.iload_n 3, 1) := by decide +kernel
theorem d_Law_law_1460 : decode M_Law_law.2.1 1460 = .ok (.iconst 1, 1) := by decide +kernel
theorem d_Law_law_1461 : decode M_Law_law.2.1 1461 = .ok (.iadd, 1) := by decide +kernel
theorem d_Law_law_1462 : decode M_Law_law.2.1 1462 = .ok (.iaload, 1) := by decide +kernel
theorem d_Law_law_1463 : decode M_Law_law.2.1 1463 = .ok (.invokevirtual 187, 3) := by decide +kernel
theorem d_Law_law_1466 : decode M_Law_law.2.1 1466 = .ok (.aload_n 2, 1) := by decide +kernel
theorem d_Law_law_1467 : decode M_Law_law.2.1 1467 = .ok (.aload_n 0, 1) := by decide +kernel
theorem d_Law_law_1468 : decode M_Law_law.2.1 1468 = .ok (.iload_n 3, 1) := by decide +kernel
theorem d_Law_law_1469 : decode M_Law_law.2.1 1469 = .ok (.iconst 1, 1) := by decide +kernel
theorem d_Law_law_1470 : decode M_Law_law.2.1 1470 = .ok (.iadd, 1) := by decide +kernel
theorem d_Law_law_1471 : decode M_Law_law.2.1 1471 = .ok (.iaload, 1) := by decide +kernel
theorem d_Law_law_1472 : decode M_Law_law.2.1 1472 = .ok (.invokevirtual 190, 3) := by decide +kernel
theorem d_Law_law_1475 : decode M_Law_law.2.1 1475 = .ok (.if_icmp .eq 64, 3) := by decide +kernel
theorem d_Law_law_1478 : decode M_Law_law.2.1 1478 = .ok (.iconst 0, 1) := by decide +kernel
theorem d_Law_law_1479 : decode M_Law_law.2.1 1479 = .ok (.ireturn, 1) := by decide +kernel
theorem d_Law_law_1480 : decode M_Law_law.2.1 1480 = .ok (.aload_n 1, 1) := by decide +kernel
theorem d_Law_law_1481 : decode M_Law_law.2.1 1481 = .ok (.aload_n 0, 1) := by decide +kernel
theorem d_Law_law_1482 : decode M_Law_law.2.1 1482 = .ok (.iload_n 3, 1) := by decide +kernel
theorem d_Law_law_1483 : decode M_Law_law.2.1 1483 = .ok (.iconst 1, 1) := by decide +kernel
theorem d_Law_law_1484 : decode M_Law_law.2.1 1484 = .ok (.iadd, 1) := by decide +kernel
theorem d_Law_law_1485 : decode M_Law_law.2.1 1485 = .ok (.iaload, 1) := by decide +kernel
theorem d_Law_law_1486 : decode M_Law_law.2.1 1486 = .ok (.aload_n 0, 1) := by decide +kernel
theorem d_Law_law_1487 : decode M_Law_law.2.1 1487 = .ok (.iload_n 3, 1) := by decide +kernel
theorem d_Law_law_1488 : decode M_Law_law.2.1 1488 = .ok (.iconst 2, 1) := by decide +kernel
theorem d_Law_law_1489 : decode M_Law_law.2.1 1489 = .ok (.iadd, 1) := by decide +kernel
theorem d_Law_law_1490 : decode M_Law_law.2.1 1490 = .ok (.iaload, 1) := by decide +kernel
theorem d_Law_law_1491 : decode M_Law_law.2.1 1491 = .ok (.invokevirtual 191, 3) := by decide +kernel
theorem d_Law_law_1494 : decode M_Law_law.2.1 1494 = .ok (.aload_n 2, 1) := by decide +kernel
theorem d_Law_law_1495 : decode M_Law_law.2.1 1495 = .ok (.aload_n 0, 1) := by decide +kernel
theorem d_Law_law_1496 : decode M_Law_law.2.1 1496 = .ok (.iload_n 3, 1) := by decide +kernel
theorem d_Law_law_1497 : decode M_Law_law.2.1 1497 = .ok (.iconst 1, 1) := by decide +kernel
theorem d_Law_law_1498 : decode M_Law_law.2.1 1498 = .ok (.iadd, 1) := by decide +kernel
theorem d_Law_law_1499 : decode M_Law_law.2.1 1499 = .ok (.iaload, 1) := by decide +kernel
theorem d_Law_law_1500 : decode M_Law_law.2.1 1500 = .ok (.aload_n 0, 1) := by decide +kernel
theorem d_Law_law_1501 : decode M_Law_law.2.1 1501 = .ok (.iload_n 3, 1) := by decide +kernel
theorem d_Law_law_1502 : decode M_Law_law.2.1 1502 = .ok (.iconst 2, 1) := by decide +kernel
theorem d_Law_law_1503 : decode M_Law_law.2.1 1503 = .ok (.iadd, 1) := by decide +kernel
theorem d_Law_law_1504 : decode M_Law_law.2.1 1504 = .ok (.iaload, 1) := by decide +kernel
theorem d_Law_law_1505 : decode M_Law_law.2.1 1505 = .ok (.invokevirtual 194, 3) := by decide +kernel
theorem d_Law_law_1508 : decode M_Law_law.2.1 1508 = .ok (.if_icmp .eq 31, 3) := by decide +kernel
theorem d_Law_law_1511 : decode M_Law_law.2.1 1511 = .ok (.iconst 0, 1) := by decide +kernel
theorem d_Law_law_1512 : decode M_Law_law.2.1 1512 = .ok (.ireturn, 1) := by decide +kernel
theorem d_Law_law_1513 : decode M_Law_law.2.1 1513 = .ok (.aload_n 1, 1) := by decide +kernel
theorem d_Law_law_1514 : decode M_Law_law.2.1 1514 = .ok (.invokevirtual 195, 3) := by decide +kernel
theorem d_Law_law_1517 : decode M_Law_law.2.1 1517 = .ok (.aload_n 2, 1) := by decide +kernel
theorem d_Law_law_1518 : decode M_Law_law.2.1 1518 = .ok (.invokevirtual 198, 3) := by decide +kernel
theorem d_Law_law_1521 : decode M_Law_law.2.1 1521 = .ok (.if_icmp .eq 18, 3) := by decide +kernel
theorem d_Law_law_1524 : decode M_Law_law.2.1 1524 = .ok (.iconst 0, 1) := by decide +kernel
theorem d_Law_law_1525 : decode M_Law_law.2.1 1525 = .ok (.ireturn, 1) := by decide +kernel
theorem d_Law_law_1526 : decode M_Law_law.2.1 1526 = .ok (.aload_n 1, 1) := by decide +kernel
theorem d_Law_law_1527 : decode M_Law_law.2.1 1527 = .ok (.invokevirtual 199, 3) := by decide +kernel
theorem d_Law_law_1530 : decode M_Law_law.2.1 1530 = .ok (.aload_n 2, 1) := by decide +kernel
theorem d_Law_law_1531 : decode M_Law_law.2.1 1531 = .ok (.invokevirtual 202, 3) := by decide +kernel
theorem d_Law_law_1534 : decode M_Law_law.2.1 1534 = .ok (.if_icmp .eq 5, 3) := by decide +kernel
theorem d_Law_law_1537 : decode M_Law_law.2.1 1537 = .ok (.iconst 0, 1) := by decide +kernel
theorem d_Law_law_1538 : decode M_Law_law.2.1 1538 = .ok (.ireturn, 1) := by decide +kernel
theorem d_Law_law_1539 : decode M_Law_law.2.1 1539 = .ok (.iinc 3 6, 3) := by decide +kernel
theorem d_Law_law_1542 : decode M_Law_law.2.1 1542 = .ok (.goto (-1524), 3) := by decide +kernel
theorem d_Law_law_1545 : decode M_Law_law.2.1 1545 = .ok (.iconst 1, 1) := by decide +kernel
theorem d_Law_law_1546 : decode M_Law_law.2.1 1546 = .ok (.ireturn, 1) := by decide +kernel
