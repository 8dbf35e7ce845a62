theorem d_L_law_0 : decode cL_law 0 = .ok (.new 7, 3) := by decide +kernel
theorem d_L_law_3 : decode cL_law 3 = .ok (.dup, 1) := by decide +kernel
theorem d_L_law_4 : decode cL_law 4 = .ok (.invokespecial 9, 3) := by decide +kernel
theorem d_L_law_7 : decode cL_law 7 = .ok (.astore_n 1, 1) := by decide +kernel
theorem d_L_law_8 : decode cL_law 8 = .ok (.new 10, 3) := by decide +kernel
theorem d_L_law_11 : decode cL_law 11 = .ok (.dup, 1) := by decide +kernel
theorem d_L_law_12 : decode cL_law 12 = .ok (.invokespecial 12, 3) := by decide +kernel
theorem d_L_law_15 : decode cL_law 15 = .ok (.astore_n 2, 1) := by decide +kernel
theorem d_L_law_16 : decode cL_law 16 = .ok (.iconst 0, 1) := by decide +kernel
theorem d_L_law_17 : decode cL_law 17 = .ok (.istore_n 3, 1) := by decide +kernel
theorem d_L_law_18 : decode cL_law 18 = .ok (.iload_n 3, 1) := by decide +kernel
theorem d_L_law_19 : decode cL_law 19 = .ok (.aload_n 0, 1) := by decide +kernel
theorem d_L_law_20 : decode cL_law 20 = .ok (.arraylength, 1) := by decide +kernel
theorem d_L_law_21 : decode cL_law 21 = .ok (.bipush 6, 2) := by decide +kernel
theorem d_L_law_23 : decode cL_law 23 = .ok (.isub, 1) := by decide +kernel
theorem d_L_law_24 : decode cL_law 24 = .ok (.if_icmp .gt 1439, 3) := by decide +kernel
theorem d_L_law_27 : decode cL_law 27 = .ok (.aload_n 0, 1) := by decide +kernel
theorem d_L_law_28 : decode cL_law 28 = .ok (.iload_n 3, 1) := by decide +kernel
theorem d_L_law_29 : decode cL_law 29 = .ok (.iaload, 1) := by decide +kernel
theorem d_L_law_30 : decode cL_law 30 = .ok (.bipush 63, 2) := by decide +kernel
theorem d_L_law_32 : decode cL_law 32 = .ok (.iand, 1) := by decide +kernel
theorem d_L_law_33 : decode cL_law 33 = .ok (.tableswitch 1424 0 38 #[171, 204, 237, 260, 293, 336, 369, 412, 445, 484, 533, 582, 615, 678, 701, 714, 737, 760, 793, 846, 879, 912, 945, 978, 1001, 1034, 1057, 1080, 1093, 1116, 1149, 1182, 1205, 1228, 1252, 1315, 1338, 1362, 1401], 171) := by decide +kernel
theorem d_L_law_204 : decode cL_law 204 = .ok (.aload_n 1, 1) := by decide +kernel
theorem d_L_law_205 : decode cL_law 205 = .ok (.aload_n 0, 1) := by decide +kernel
theorem d_L_law_206 : decode cL_law 206 = .ok (.iload_n 3, 1) := by decide +kernel
theorem d_L_law_207 : decode cL_law 207 = .ok (.iconst 1, 1) := by decide +kernel
theorem d_L_law_208 : decode cL_law 208 = .ok (.iadd, 1) := by decide +kernel
theorem d_L_law_209 : decode cL_law 209 = .ok (.iaload, 1) := by decide +kernel
theorem d_L_law_210 : decode cL_law 210 = .ok (.aload_n 0, 1) := by decide +kernel
theorem d_L_law_211 : decode cL_law 211 = .ok (.iload_n 3, 1) := by decide +kernel
theorem d_L_law_212 : decode cL_law 212 = .ok (.iconst 2, 1) := by decide +kernel
theorem d_L_law_213 : decode cL_law 213 = .ok (.iadd, 1) := by decide +kernel
theorem d_L_law_214 : decode cL_law 214 = .ok (.iaload, 1) := by decide +kernel
theorem d_L_law_215 : decode cL_law 215 = .ok (.invokevirtual 13, 3) := by decide +kernel
theorem d_L_law_218 : decode cL_law 218 = .ok (.aload_n 2, 1) := by decide +kernel
theorem d_L_law_219 : decode cL_law 219 = .ok (.aload_n 0, 1) := by decide +kernel
theorem d_L_law_220 : decode cL_law 220 = .ok (.iload_n 3, 1) := by decide +kernel
theorem d_L_law_221 : decode cL_law 221 = .ok (.iconst 1, 1) := by decide +kernel
theorem d_L_law_222 : decode cL_law 222 = .ok (.iadd, 1) := by decide +kernel
theorem d_L_law_223 : decode cL_law 223 = .ok (.iaload, 1) := by decide +kernel
theorem d_L_law_224 : decode cL_law 224 = .ok (.aload_n 0, 1) := by decide +kernel
theorem d_L_law_225 : decode cL_law 225 = .ok (.iload_n 3, 1) := by decide +kernel
theorem d_L_law_226 : decode cL_law 226 = .ok (.iconst 2, 1) := by decide +kernel
theorem d_L_law_227 : decode cL_law 227 = .ok (.iadd, 1) := by decide +kernel
theorem d_L_law_228 : decode cL_law 228 = .ok (.iaload, 1) := by decide +kernel
theorem d_L_law_229 : decode cL_law 229 = .ok (.invokevirtual 17, 3) := by decide +kernel
theorem d_L_law_232 : decode cL_law 232 = .ok (.if_icmp .eq 1225, 3) := by decide +kernel
theorem d_L_law_235 : decode cL_law 235 = .ok (.iconst 0, 1) := by decide +kernel
theorem d_L_law_236 : decode cL_law 236 = .ok (.ireturn, 1) := by decide +kernel
theorem d_L_law_237 : decode cL_law 237 = .ok (.aload_n 1, 1) := by decide +kernel
theorem d_L_law_238 : decode cL_law 238 = .ok (.aload_n 0, 1) := by decide +kernel
theorem d_L_law_239 : decode cL_law 239 = .ok (.iload_n 3, 1) := by decide +kernel
theorem d_L_law_240 : decode cL_law 240 = .ok (.iconst 1, 1) := by decide +kernel
theorem d_L_law_241 : decode cL_law 241 = .ok (.iadd, 1) := by decide +kernel
theorem d_L_law_242 : decode cL_law 242 = .ok (.iaload, 1) := by decide +kernel
theorem d_L_law_243 : decode cL_law 243 = .ok (.aload_n 0, 1) := by decide +kernel
theorem d_L_law_244 : decode cL_law 244 = .ok (.iload_n 3, 1) := by decide +kernel
theorem d_L_law_245 : decode cL_law 245 = .ok (.iconst 2, 1) := by decide +kernel
theorem d_L_law_246 : decode cL_law 246 = .ok (.iadd, 1) := by decide +kernel
theorem d_L_law_247 : decode cL_law 247 = .ok (.iaload, 1) := by decide +kernel
theorem d_L_law_248 : decode cL_law 248 = .ok (.invokevirtual 18, 3) := by decide +kernel
theorem d_L_law_251 : decode cL_law 251 = .ok (.aload_n 2, 1) := by decide +kernel
theorem d_L_law_252 : decode cL_law 252 = .ok (.aload_n 0, 1) := by decide +kernel
theorem d_L_law_253 : decode cL_law 253 = .ok (.iload_n 3, 1) := by decide +kernel
theorem d_L_law_254 : decode cL_law 254 = .ok (.iconst 1, 1) := by decide +kernel
theorem d_L_law_255 : decode cL_law 255 = .ok (.iadd, 1) := by decide +kernel
theorem d_L_law_256 : decode cL_law 256 = .ok (.iaload, 1) := by decide +kernel
theorem d_L_law_257 : decode cL_law 257 = .ok (.aload_n 0, 1) := by decide +kernel
theorem d_L_law_258 : decode cL_law 258 = .ok (.iload_n 3, 1) := by decide +kernel
theorem d_L_law_259 : decode cL_law 259 = .ok (.iconst 2, 1) := by decide +kernel
theorem d_L_law_260 : decode cL_law 260 = .ok (.iadd, 1) := by decide +kernel
theorem d_L_law_261 : decode cL_law 261 = .ok (.iaload, 1) := by decide +kernel
theorem d_L_law_262 : decode cL_law 262 = .ok (.invokevirtual 22, 3) := by decide +kernel
theorem d_L_law_265 : decode cL_law 265 = .ok (.if_icmp .eq 1192, 3) := by decide +kernel
theorem d_L_law_268 : decode cL_law 268 = .ok (.iconst 0, 1) := by decide +kernel
theorem d_L_law_269 : decode cL_law 269 = .ok (.ireturn, 1) := by decide +kernel
theorem d_L_law_270 : decode cL_law 270 = .ok (.aload_n 1, 1) := by decide +kernel
theorem d_L_law_271 : decode cL_law 271 = .ok (.aload_n 0, 1) := by decide +kernel
theorem d_L_law_272 : decode cL_law 272 = .ok (.iload_n 3, 1) := by decide +kernel
theorem d_L_law_273 : decode cL_law 273 = .ok (.iconst 1, 1) := by decide +kernel
theorem d_L_law_274 : decode cL_law 274 = .ok (.iadd, 1) := by decide +kernel
theorem d_L_law_275 : decode cL_law 275 = .ok (.iaload, 1) := by decide +kernel
theorem d_L_law_276 : decode cL_law 276 = .ok (.invokevirtual 23, 3) := by decide +kernel
theorem d_L_law_279 : decode cL_law 279 = .ok (.aload_n 2, 1) := by decide +kernel
theorem d_L_law_280 : decode cL_law 280 = .ok (.aload_n 0, 1) := by decide +kernel
theorem d_L_law_281 : decode cL_law 281 = .ok (.iload_n 3, 1) := by decide +kernel
theorem d_L_law_282 : decode cL_law 282 = .ok (.iconst 1, 1) := by decide +kernel
theorem d_L_law_283 : decode cL_law 283 = .ok (.iadd, 1) := by decide +kernel
theorem d_L_law_284 : decode cL_law 284 = .ok (.iaload, 1) := by decide +kernel
theorem d_L_law_285 : decode cL_law 285 = .ok (.invokevirtual 27, 3) := by decide +kernel
theorem d_L_law_288 : decode cL_law 288 = .ok (.if_icmp .eq 1169, 3) := by decide +kernel
theorem d_L_law_291 : decode cL_law 291 = .ok (.iconst 0, 1) := by decide +kernel
theorem d_L_law_292 : decode cL_law 292 = .ok (.ireturn, 1) := by decide +kernel
theorem d_L_law_293 : decode cL_law 293 = .ok (.aload_n 1, 1) := by decide +kernel
theorem d_L_law_294 : decode cL_law 294 = .ok (.aload_n 0, 1) := by decide +kernel
theorem d_L_law_295 : decode cL_law 295 = .ok (.iload_n 3, 1) := by decide +kernel
theorem d_L_law_296 : decode cL_law 296 = .ok (.iconst 1, 1) := by decide +kernel
theorem d_L_law_297 : decode cL_law 297 = .ok (.iadd, 1) := by decide +kernel
theorem d_L_law_298 : decode cL_law 298 = .ok (.iaload, 1) := by decide +kernel
theorem d_L_law_299 : decode cL_law 299 = .ok (.aload_n 0, 1) := by decide +kernel
theorem d_L_law_300 : decode cL_law 300 = .ok (.iload_n 3, 1) := by decide +kernel
theorem d_L_law_301 : decode cL_law 301 = .ok (.iconst 2, 1) := by decide +kernel
theorem d_L_law_302 : decode cL_law 302 = .ok (.iadd, 1) := by decide +kernel
theorem d_L_law_303 : decode cL_law 303 = .ok (.iaload, 1) := by decide +kernel
theorem d_L_law_304 : decode cL_law 304 = .ok (.invokevirtual 28, 3) := by decide +kernel
theorem d_L_law_307 : decode cL_law 307 = .ok (.aload_n 2, 1) := by decide +kernel
theorem d_L_law_308 : decode cL_law 308 = .ok (.aload_n 0, 1) := by decide +kernel
theorem d_L_law_309 : decode cL_law 309 = .ok (.iload_n 3, 1) := by decide +kernel
theorem d_L_law_310 : decode cL_law 310 = .ok (.iconst 1, 1) := by decide +kernel
theorem d_L_law_311 : decode cL_law 311 = .ok (.iadd, 1) := by decide +kernel
theorem d_L_law_312 : decode cL_law 312 = .ok (.iaload, 1) := by decide +kernel
theorem d_L_law_313 : decode cL_law 313 = .ok (.aload_n 0, 1) := by decide +kernel
theorem d_L_law_314 : decode cL_law 314 = .ok (.iload_n 3, 1) := by decide +kernel
theorem d_L_law_315 : decode cL_law 315 = .ok (.iconst 2, 1) := by decide +kernel
theorem d_L_law_316 : decode cL_law 316 = .ok (.iadd, 1) := by decide +kernel
theorem d_L_law_317 : decode cL_law 317 = .ok (.iaload, 1) := by decide +kernel
theorem d_L_law_318 : decode cL_law 318 = .ok (.invokevirtual 31, 3) := by decide +kernel
theorem d_L_law_321 : decode cL_law 321 = .ok (.if_icmp .eq 1136, 3) := by decide +kernel
theorem d_L_law_324 : decode cL_law 324 = .ok (.iconst 0, 1) := by decide +kernel
theorem d_L_law_325 : decode cL_law 325 = .ok (.ireturn, 1) := by decide +kernel
theorem d_L_law_326 : decode cL_law 326 = .ok (.aload_n 1, 1) := by decide +kernel
theorem d_L_law_327 : decode cL_law 327 = .ok (.aload_n 0, 1) := by decide +kernel
theorem d_L_law_328 : decode cL_law 328 = .ok (.iload_n 3, 1) := by decide +kernel
theorem d_L_law_329 : decode cL_law 329 = .ok (.iconst 1, 1) := by decide +kernel
theorem d_L_law_330 : decode cL_law 330 = .ok (.iadd, 1) := by decide +kernel
theorem d_L_law_331 : decode cL_law 331 = .ok (.iaload, 1) := by decide +kernel
theorem d_L_law_332 : decode cL_law 332 = .ok (.aload_n 0, 1) := by decide +kernel
theorem d_L_law_333 : decode cL_law 333 = .ok (.iload_n 3, 1) := by decide +kernel
theorem d_L_law_334 : decode cL_law 334 = .ok (.iconst 2, 1) := by decide +kernel
theorem d_L_law_335 : decode cL_law 335 = .ok (.iadd, 1) := by decide +kernel
theorem d_L_law_336 : decode cL_law 336 = .ok (.iaload, 1) := by decide +kernel
theorem d_L_law_337 : decode cL_law 337 = .ok (.aload_n 0, 1) := by decide +kernel
theorem d_L_law_338 : decode cL_law 338 = .ok (.iload_n 3, 1) := by decide +kernel
theorem d_L_law_339 : decode cL_law 339 = .ok (.iconst 3, 1) := by decide +kernel
theorem d_L_law_340 : decode cL_law 340 = .ok (.iadd, 1) := by decide +kernel
theorem d_L_law_341 : decode cL_law 341 = .ok (.iaload, 1) := by decide +kernel
theorem d_L_law_342 : decode cL_law 342 = .ok (.invokevirtual 32, 3) := by decide +kernel
theorem d_L_law_345 : decode cL_law 345 = .ok (.aload_n 2, 1) := by decide +kernel
theorem d_L_law_346 : decode cL_law 346 = .ok (.aload_n 0, 1) := by decide +kernel
theorem d_L_law_347 : decode cL_law 347 = .ok (.iload_n 3, 1) := by decide +kernel
theorem d_L_law_348 : decode cL_law 348 = .ok (.iconst 1, 1) := by decide +kernel
theorem d_L_law_349 : decode cL_law 349 = .ok (.iadd, 1) := by decide +kernel
theorem d_L_law_350 : decode cL_law 350 = .ok (.iaload, 1) := by decide +kernel
theorem d_L_law_351 : decode cL_law 351 = .ok (.aload_n 0, 1) := by decide +kernel
theorem d_L_law_352 : decode cL_law 352 = .ok (.iload_n 3, 1) := by decide +kernel
theorem d_L_law_353 : decode cL_law 353 = .ok (.iconst 2, 1) := by decide +kernel
theorem d_L_law_354 : decode cL_law 354 = .ok (.iadd, 1) := by decide +kernel
theorem d_L_law_355 : decode cL_law 355 = .ok (.iaload, 1) := by decide +kernel
theorem d_L_law_356 : decode cL_law 356 = .ok (.aload_n 0, 1) := by decide +kernel
theorem d_L_law_357 : decode cL_law 357 = .ok (.iload_n 3, 1) := by decide +kernel
theorem d_L_law_358 : decode cL_law 358 = .ok (.iconst 3, 1) := by decide +kernel
theorem d_L_law_359 : decode cL_law 359 = .ok (.iadd, 1) := by decide +kernel
theorem d_L_law_360 : decode cL_law 360 = .ok (.iaload, 1) := by decide +kernel
theorem d_L_law_361 : decode cL_law 361 = .ok (.invokevirtual 36, 3) := by decide +kernel
theorem d_L_law_364 : decode cL_law 364 = .ok (.if_icmp .eq 1093, 3) := by decide +kernel
theorem d_L_law_367 : decode cL_law 367 = .ok (.iconst 0, 1) := by decide +kernel
theorem d_L_law_368 : decode cL_law 368 = .ok (.ireturn, 1) := by decide +kernel
theorem d_L_law_369 : decode cL_law 369 = .ok (.aload_n 1, 1) := by decide +kernel
theorem d_L_law_370 : decode cL_law 370 = .ok (.aload_n 0, 1) := by decide +kernel
theorem d_L_law_371 : decode cL_law 371 = .ok (.iload_n 3, 1) := by decide +kernel
theorem d_L_law_372 : decode cL_law 372 = .ok (.iconst 1, 1) := by decide +kernel
theorem d_L_law_373 : decode cL_law 373 = .ok (.iadd, 1) := by decide +kernel
theorem d_L_law_374 : decode cL_law 374 = .ok (.iaload, 1) := by decide +kernel
theorem d_L_law_375 : decode cL_law 375 = .ok (.aload_n 0, 1) := by decide +kernel
theorem d_L_law_376 : decode cL_law 376 = .ok (.iload_n 3, 1) := by decide +kernel
theorem d_L_law_377 : decode cL_law 377 = .ok (.iconst 2, 1) := by decide +kernel
theorem d_L_law_378 : decode cL_law 378 = .ok (.iadd, 1) := by decide +kernel
theorem d_L_law_379 : decode cL_law 379 = .ok (.iaload, 1) := by decide +kernel
theorem d_L_law_380 : decode cL_law 380 = .ok (.invokevirtual 37, 3) := by decide +kernel
theorem d_L_law_383 : decode cL_law 383 = .ok (.aload_n 2, 1) := by decide +kernel
theorem d_L_law_384 : decode cL_law 384 = .ok (.aload_n 0, 1) := by decide +kernel
theorem d_L_law_385 : decode cL_law 385 = .ok (.iload_n 3, 1) := by decide +kernel
theorem d_L_law_386 : decode cL_law 386 = .ok (.iconst 1, 1) := by decide +kernel
theorem d_L_law_387 : decode cL_law 387 = .ok (.iadd, 1) := by decide +kernel
theorem d_L_law_388 : decode cL_law 388 = .ok (.iaload, 1) := by decide +kernel
theorem d_L_law_389 : decode cL_law 389 = .ok (.aload_n 0, 1) := by decide +kernel
theorem d_L_law_390 : decode cL_law 390 = .ok (.iload_n 3, 1) := by decide +kernel
theorem d_L_law_391 : decode cL_law 391 = .ok (.iconst 2, 1) := by decide +kernel
theorem d_L_law_392 : decode cL_law 392 = .ok (.iadd, 1) := by decide +kernel
theorem d_L_law_393 : decode cL_law 393 = .ok (.iaload, 1) := by decide +kernel
theorem d_L_law_394 : decode cL_law 394 = .ok (.invokevirtual 40, 3) := by decide +kernel
theorem d_L_law_397 : decode cL_law 397 = .ok (.if_icmp .eq 1060, 3) := by decide +kernel
theorem d_L_law_400 : decode cL_law 400 = .ok (.iconst 0, 1) := by decide +kernel
theorem d_L_law_401 : decode cL_law 401 = .ok (.ireturn, 1) := by decide +kernel
theorem d_L_law_402 : decode cL_law 402 = .ok (.aload_n 1, 1) := by decide +kernel
theorem d_L_law_403 : decode cL_law 403 = .ok (.aload_n 0, 1) := by decide +kernel
theorem d_L_law_404 : decode cL_law 404 = .ok (.iload_n 3, 1) := by decide +kernel
theorem d_L_law_405 : decode cL_law 405 = .ok (.iconst 1, 1) := by decide +kernel
theorem d_L_law_406 : decode cL_law 406 = .ok (.iadd, 1) := by decide +kernel
theorem d_L_law_407 : decode cL_law 407 = .ok (.iaload, 1) := by decide +kernel
theorem d_L_law_408 : decode cL_law 408 = .ok (.aload_n 0, 1) := by decide +kernel
theorem d_L_law_409 : decode cL_law 409 = .ok (.iload_n 3, 1) := by decide +kernel
theorem d_L_law_410 : decode cL_law 410 = .ok (.iconst 2, 1) := by decide +kernel
theorem d_L_law_411 : decode cL_law 411 = .ok (.iadd, 1) := by decide +kernel
theorem d_L_law_412 : decode cL_law 412 = .ok (.iaload, 1) := by decide +kernel
theorem d_L_law_413 : decode cL_law 413 = .ok (.aload_n 0, 1) := by decide +kernel
theorem d_L_law_414 : decode cL_law 414 = .ok (.iload_n 3, 1) := by decide +kernel
theorem d_L_law_415 : decode cL_law 415 = .ok (.iconst 3, 1) := by decide +kernel
theorem d_L_law_416 : decode cL_law 416 = .ok (.iadd, 1) := by decide +kernel
theorem d_L_law_417 : decode cL_law 417 = .ok (.iaload, 1) := by decide +kernel
theorem d_L_law_418 : decode cL_law 418 = .ok (.invokevirtual 41, 3) := by decide +kernel
theorem d_L_law_421 : decode cL_law 421 = .ok (.aload_n 2, 1) := by decide +kernel
theorem d_L_law_422 : decode cL_law 422 = .ok (.aload_n 0, 1) := by decide +kernel
theorem d_L_law_423 : decode cL_law 423 = .ok (.iload_n 3, 1) := by decide +kernel
theorem d_L_law_424 : decode cL_law 424 = .ok (.iconst 1, 1) := by decide +kernel
theorem d_L_law_425 : decode cL_law 425 = .ok (.iadd, 1) := by decide +kernel
theorem d_L_law_426 : decode cL_law 426 = .ok (.iaload, 1) := by decide +kernel
theorem d_L_law_427 : decode cL_law 427 = .ok (.aload_n 0, 1) := by decide +kernel
theorem d_L_law_428 : decode cL_law 428 = .ok (.iload_n 3, 1) := by decide +kernel
theorem d_L_law_429 : decode cL_law 429 = .ok (.iconst 2, 1) := by decide +kernel
theorem d_L_law_430 : decode cL_law 430 = .ok (.iadd, 1) := by decide +kernel
theorem d_L_law_431 : decode cL_law 431 = .ok (.iaload, 1) := by decide +kernel
theorem d_L_law_432 : decode cL_law 432 = .ok (.aload_n 0, 1) := by decide +kernel
theorem d_L_law_433 : decode cL_law 433 = .ok (.iload_n 3, 1) := by decide +kernel
theorem d_L_law_434 : decode cL_law 434 = .ok (.iconst 3, 1) := by decide +kernel
theorem d_L_law_435 : decode cL_law 435 = .ok (.iadd, 1) := by decide +kernel
theorem d_L_law_436 : decode cL_law 436 = .ok (.iaload, 1) := by decide +kernel
theorem d_L_law_437 : decode cL_law 437 = .ok (.invokevirtual 44, 3) := by decide +kernel
theorem d_L_law_440 : decode cL_law 440 = .ok (.if_icmp .eq 1017, 3) := by decide +kernel
theorem d_L_law_443 : decode cL_law 443 = .ok (.iconst 0, 1) := by decide +kernel
theorem d_L_law_444 : decode cL_law 444 = .ok (.ireturn, 1) := by decide +kernel
theorem d_L_law_445 : decode cL_law 445 = .ok (.aload_n 1, 1) := by decide +kernel
theorem d_L_law_446 : decode cL_law 446 = .ok (.aload_n 0, 1) := by decide +kernel
theorem d_L_law_447 : decode cL_law 447 = .ok (.iload_n 3, 1) := by decide +kernel
theorem d_L_law_448 : decode cL_law 448 = .ok (.iconst 1, 1) := by decide +kernel
theorem d_L_law_449 : decode cL_law 449 = .ok (.iadd, 1) := by decide +kernel
theorem d_L_law_450 : decode cL_law 450 = .ok (.iaload, 1) := by decide +kernel
theorem d_L_law_451 : decode cL_law 451 = .ok (.aload_n 0, 1) := by decide +kernel
theorem d_L_law_452 : decode cL_law 452 = .ok (.iload_n 3, 1) := by decide +kernel
theorem d_L_law_453 : decode cL_law 453 = .ok (.iconst 2, 1) := by decide +kernel
theorem d_L_law_454 : decode cL_law 454 = .ok (.iadd, 1) := by decide +kernel
theorem d_L_law_455 : decode cL_law 455 = .ok (.iaload, 1) := by decide +kernel
theorem d_L_law_456 : decode cL_law 456 = .ok (.invokevirtual 45, 3) := by decide +kernel
theorem d_L_law_459 : decode cL_law 459 = .ok (.aload_n 2, 1) := by decide +kernel
theorem d_L_law_460 : decode cL_law 460 = .ok (.aload_n 0, 1) := by decide +kernel
theorem d_L_law_461 : decode cL_law 461 = .ok (.iload_n 3, 1) := by decide +kernel
theorem d_L_law_462 : decode cL_law 462 = .ok (.iconst 1, 1) := by decide +kernel
theorem d_L_law_463 : decode cL_law 463 = .ok (.iadd, 1) := by decide +kernel
theorem d_L_law_464 : decode cL_law 464 = .ok (.iaload, 1) := by decide +kernel
theorem d_L_law_465 : decode cL_law 465 = .ok (.aload_n 0, 1) := by decide +kernel
theorem d_L_law_466 : decode cL_law 466 = .ok (.iload_n 3, 1) := by decide +kernel
theorem d_L_law_467 : decode cL_law 467 = .ok (.iconst 2, 1) := by decide +kernel
theorem d_L_law_468 : decode cL_law 468 = .ok (.iadd, 1) := by decide +kernel
theorem d_L_law_469 : decode cL_law 469 = .ok (.iaload, 1) := by decide +kernel
theorem d_L_law_470 : decode cL_law 470 = .ok (.invokevirtual 48, 3) := by decide +kernel
theorem d_L_law_473 : decode cL_law 473 = .ok (.if_icmp .eq 984, 3) := by decide +kernel
theorem d_L_law_476 : decode cL_law 476 = .ok (.iconst 0, 1) := by decide +kernel
theorem d_L_law_477 : decode cL_law 477 = .ok (.ireturn, 1) := by decide +kernel
theorem d_L_law_478 : decode cL_law 478 = .ok (.aload_n 1, 1) := by decide +kernel
theorem d_L_law_479 : decode cL_law 479 = .ok (.aload_n 0, 1) := by decide +kernel
theorem d_L_law_480 : decode cL_law 480 = .ok (.iload_n 3, 1) := by decide +kernel
theorem d_L_law_481 : decode cL_law 481 = .ok (.iconst 1, 1) := by decide +kernel
theorem d_L_law_482 : decode cL_law 482 = .ok (.iadd, 1) := by decide +kernel
theorem d_L_law_483 : decode cL_law 483 = .ok (.iaload, 1) := by decide +kernel
theorem d_L_law_484 : decode cL_law 484 = .ok (.ifCond .eq 7, 3) := by decide +kernel
theorem d_L_law_487 : decode cL_law 487 = .ok (.iconst 1, 1) := by decide +kernel
theorem d_L_law_488 : decode cL_law 488 = .ok (.goto 4, 3) := by decide +kernel
theorem d_L_law_491 : decode cL_law 491 = .ok (.iconst 0, 1) := by decide +kernel
theorem d_L_law_492 : decode cL_law 492 = .ok (.invokevirtual 49, 3) := by decide +kernel
theorem d_L_law_495 : decode cL_law 495 = .ok (.aload_n 2, 1) := by decide +kernel
theorem d_L_law_496 : decode cL_law 496 = .ok (.aload_n 0, 1) := by decide +kernel
theorem d_L_law_497 : decode cL_law 497 = .ok (.iload_n 3, 1) := by decide +kernel
theorem d_L_law_498 : decode cL_law 498 = .ok (.iconst 1, 1) := by decide +kernel
theorem d_L_law_499 : decode cL_law 499 = .ok (.iadd, 1) := by decide +kernel
theorem d_L_law_500 : decode cL_law 500 = .ok (.iaload, 1) := by decide +kernel
theorem d_L_law_501 : decode cL_law 501 = .ok (.ifCond .eq 7, 3) := by decide +kernel
theorem d_L_law_504 : decode cL_law 504 = .ok (.iconst 1, 1) := by decide +kernel
theorem d_L_law_505 : decode cL_law 505 = .ok (.goto 4, 3) := by decide +kernel
theorem d_L_law_508 : decode cL_law 508 = .ok (.iconst 0, 1) := by decide +kernel
theorem d_L_law_509 : decode cL_law 509 = .ok (.invokevirtual 53, 3) := by decide +kernel
theorem d_L_law_512 : decode cL_law 512 = .ok (.if_icmp .eq 945, 3) := by decide +kernel
theorem d_L_law_515 : decode cL_law 515 = .ok (.iconst 0, 1) := by decide +kernel
theorem d_L_law_516 : decode cL_law 516 = .ok (.ireturn, 1) := by decide +kernel
theorem d_L_law_517 : decode cL_law 517 = .ok (.aload_n 1, 1) := by decide +kernel
theorem d_L_law_518 : decode cL_law 518 = .ok (.aload_n 0, 1) := by decide +kernel
theorem d_L_law_519 : decode cL_law 519 = .ok (.iload_n 3, 1) := by decide +kernel
theorem d_L_law_520 : decode cL_law 520 = .ok (.iconst 1, 1) := by decide +kernel
theorem d_L_law_521 : decode cL_law 521 = .ok (.iadd, 1) := by decide +kernel
theorem d_L_law_522 : decode cL_law 522 = .ok (.iaload, 1) := by decide +kernel
theorem d_L_law_523 : decode cL_law 523 = .ok (.aload_n 0, 1) := by decide +kernel
theorem d_L_law_524 : decode cL_law 524 = .ok (.iload_n 3, 1) := by decide +kernel
theorem d_L_law_525 : decode cL_law 525 = .ok (.iconst 2, 1) := by decide +kernel
theorem d_L_law_526 : decode cL_law 526 = .ok (.iadd, 1) := by decide +kernel
theorem d_L_law_527 : decode cL_law 527 = .ok (.iaload, 1) := by decide +kernel
theorem d_L_law_528 : decode cL_law 528 = .ok (.ifCond .eq 7, 3) := by decide +kernel
theorem d_L_law_531 : decode cL_law 531 = .ok (.iconst 1, 1) := by decide +kernel
theorem d_L_law_532 : decode cL_law 532 = .ok (.goto 4, 3) := by decide +kernel
theorem d_L_law_535 : decode cL_law 535 = .ok (.iconst 0, 1) := by decide +kernel
theorem d_L_law_536 : decode cL_law 536 = .ok (.invokevirtual 54, 3) := by decide +kernel
theorem d_L_law_539 : decode cL_law 539 = .ok (.aload_n 2, 1) := by decide +kernel
theorem d_L_law_540 : decode cL_law 540 = .ok (.aload_n 0, 1) := by decide +kernel
theorem d_L_law_541 : decode cL_law 541 = .ok (.iload_n 3, 1) := by decide +kernel
theorem d_L_law_542 : decode cL_law 542 = .ok (.iconst 1, 1) := by decide +kernel
theorem d_L_law_543 : decode cL_law 543 = .ok (.iadd, 1) := by decide +kernel
theorem d_L_law_544 : decode cL_law 544 = .ok (.iaload, 1) := by decide +kernel
theorem d_L_law_545 : decode cL_law 545 = .ok (.aload_n 0, 1) := by decide +kernel
theorem d_L_law_546 : decode cL_law 546 = .ok (.iload_n 3, 1) := by decide +kernel
theorem d_L_law_547 : decode cL_law 547 = .ok (.iconst 2, 1) := by decide +kernel
theorem d_L_law_548 : decode cL_law 548 = .ok (.iadd, 1) := by decide +kernel
theorem d_L_law_549 : decode cL_law 549 = .ok (.iaload, 1) := by decide +kernel
theorem d_L_law_550 : decode cL_law 550 = .ok (.ifCond .eq 7, 3) := by decide +kernel
theorem d_L_law_553 : decode cL_law 553 = .ok (.iconst 1, 1) := by decide +kernel
theorem d_L_law_554 : decode cL_law 554 = .ok (.goto 4, 3) := by decide +kernel
theorem d_L_law_557 : decode cL_law 557 = .ok (.iconst 0, 1) := by decide +kernel
theorem d_L_law_558 : decode cL_law 558 = .ok (.invokevirtual 58, 3) := by decide +kernel
theorem d_L_law_561 : decode cL_law 561 = .ok (.if_icmp .eq 896, 3) := by decide +kernel
theorem d_L_law_564 : decode cL_law 564 = .ok (.iconst 0, 1) := by decide +kernel
theorem d_L_law_565 : decode cL_law 565 = .ok (.ireturn, 1) := by decide +kernel
theorem d_L_law_566 : decode cL_law 566 = .ok (.aload_n 1, 1) := by decide +kernel
theorem d_L_law_567 : decode cL_law 567 = .ok (.aload_n 0, 1) := by decide +kernel
theorem d_L_law_568 : decode cL_law 568 = .ok (.iload_n 3, 1) := by decide +kernel
theorem d_L_law_569 : decode cL_law 569 = .ok (.iconst 1, 1) := by decide +kernel
theorem d_L_law_570 : decode cL_law 570 = .ok (.iadd, 1) := by decide +kernel
theorem d_L_law_571 : decode cL_law 571 = .ok (.iaload, 1) := by decide +kernel
theorem d_L_law_572 : decode cL_law 572 = .ok (.aload_n 0, 1) := by decide +kernel
theorem d_L_law_573 : decode cL_law 573 = .ok (.iload_n 3, 1) := by decide +kernel
theorem d_L_law_574 : decode cL_law 574 = .ok (.iconst 2, 1) := by decide +kernel
theorem d_L_law_575 : decode cL_law 575 = .ok (.iadd, 1) := by decide +kernel
theorem d_L_law_576 : decode cL_law 576 = .ok (.iaload, 1) := by decide +kernel
theorem d_L_law_577 : decode cL_law 577 = .ok (.ifCond .eq 7, 3) := by decide +kernel
theorem d_L_law_580 : decode cL_law 580 = .ok (.iconst 1, 1) := by decide +kernel
theorem d_L_law_581 : decode cL_law 581 = .ok (.goto 4, 3) := by decide +kernel
theorem d_L_law_584 : decode cL_law 584 = .ok (.iconst 0, 1) := by decide +kernel
theorem d_L_law_585 : decode cL_law 585 = .ok (.invokevirtual 59, 3) := by decide +kernel
theorem d_L_law_588 : decode cL_law 588 = .ok (.aload_n 2, 1) := by decide +kernel
theorem d_L_law_589 : decode cL_law 589 = .ok (.aload_n 0, 1) := by decide +kernel
theorem d_L_law_590 : decode cL_law 590 = .ok (.iload_n 3, 1) := by decide +kernel
theorem d_L_law_591 : decode cL_law 591 = .ok (.iconst 1, 1) := by decide +kernel
theorem d_L_law_592 : decode cL_law 592 = .ok (.iadd, 1) := by decide +kernel
theorem d_L_law_593 : decode cL_law 593 = .ok (.iaload, 1) := by decide +kernel
theorem d_L_law_594 : decode cL_law 594 = .ok (.aload_n 0, 1) := by decide +kernel
theorem d_L_law_595 : decode cL_law 595 = .ok (.iload_n 3, 1) := by decide +kernel
theorem d_L_law_596 : decode cL_law 596 = .ok (.iconst 2, 1) := by decide +kernel
theorem d_L_law_597 : decode cL_law 597 = .ok (.iadd, 1) := by decide +kernel
theorem d_L_law_598 : decode cL_law 598 = .ok (.iaload, 1) := by decide +kernel
theorem d_L_law_599 : decode cL_law 599 = .ok (.ifCond .eq 7, 3) := by decide +kernel
theorem d_L_law_602 : decode cL_law 602 = .ok (.iconst 1, 1) := by decide +kernel
theorem d_L_law_603 : decode cL_law 603 = .ok (.goto 4, 3) := by decide +kernel
theorem d_L_law_606 : decode cL_law 606 = .ok (.iconst 0, 1) := by decide +kernel
theorem d_L_law_607 : decode cL_law 607 = .ok (.invokevirtual 62, 3) := by decide +kernel
theorem d_L_law_610 : decode cL_law 610 = .ok (.if_icmp .eq 847, 3) := by decide +kernel
theorem d_L_law_613 : decode cL_law 613 = .ok (.iconst 0, 1) := by decide +kernel
theorem d_L_law_614 : decode cL_law 614 = .ok (.ireturn, 1) := by decide +kernel
theorem d_L_law_615 : decode cL_law 615 = .ok (.aload_n 1, 1) := by decide +kernel
theorem d_L_law_616 : decode cL_law 616 = .ok (.aload_n 0, 1) := by decide +kernel
theorem d_L_law_617 : decode cL_law 617 = .ok (.iload_n 3, 1) := by decide +kernel
theorem d_L_law_618 : decode cL_law 618 = .ok (.iconst 1, 1) := by decide +kernel
theorem d_L_law_619 : decode cL_law 619 = .ok (.iadd, 1) := by decide +kernel
theorem d_L_law_620 : decode cL_law 620 = .ok (.iaload, 1) := by decide +kernel
theorem d_L_law_621 : decode cL_law 621 = .ok (.aload_n 0, 1) := by decide +kernel
theorem d_L_law_622 : decode cL_law 622 = .ok (.iload_n 3, 1) := by decide +kernel
theorem d_L_law_623 : decode cL_law 623 = .ok (.iconst 2, 1) := by decide +kernel
theorem d_L_law_624 : decode cL_law 624 = .ok (.iadd, 1) := by decide +kernel
theorem d_L_law_625 : decode cL_law 625 = .ok (.iaload, 1) := by decide +kernel
theorem d_L_law_626 : decode cL_law 626 = .ok (.invokevirtual 63, 3) := by decide +kernel
theorem d_L_law_629 : decode cL_law 629 = .ok (.aload_n 2, 1) := by decide +kernel
theorem d_L_law_630 : decode cL_law 630 = .ok (.aload_n 0, 1) := by decide +kernel
theorem d_L_law_631 : decode cL_law 631 = .ok (.iload_n 3, 1) := by decide +kernel
theorem d_L_law_632 : decode cL_law 632 = .ok (.iconst 1, 1) := by decide +kernel
theorem d_L_law_633 : decode cL_law 633 = .ok (.iadd, 1) := by decide +kernel
theorem d_L_law_634 : decode cL_law 634 = .ok (.iaload, 1) := by decide +kernel
theorem d_L_law_635 : decode cL_law 635 = .ok (.aload_n 0, 1) := by decide +kernel
theorem d_L_law_636 : decode cL_law 636 = .ok (.iload_n 3, 1) := by decide +kernel
theorem d_L_law_637 : decode cL_law 637 = .ok (.iconst 2, 1) := by decide +kernel
theorem d_L_law_638 : decode cL_law 638 = .ok (.iadd, 1) := by decide +kernel
theorem d_L_law_639 : decode cL_law 639 = .ok (.iaload, 1) := by decide +kernel
theorem d_L_law_640 : decode cL_law 640 = .ok (.invokevirtual 66, 3) := by decide +kernel
theorem d_L_law_643 : decode cL_law 643 = .ok (.if_icmp .eq 814, 3) := by decide +kernel
theorem d_L_law_646 : decode cL_law 646 = .ok (.iconst 0, 1) := by decide +kernel
theorem d_L_law_647 : decode cL_law 647 = .ok (.ireturn, 1) := by decide +kernel
theorem d_L_law_648 : decode cL_law 648 = .ok (.aload_n 1, 1) := by decide +kernel
theorem d_L_law_649 : decode cL_law 649 = .ok (.aload_n 0, 1) := by decide +kernel
theorem d_L_law_650 : decode cL_law 650 = .ok (.iload_n 3, 1) := by decide +kernel
theorem d_L_law_651 : decode cL_law 651 = .ok (.iconst 1, 1) := by decide +kernel
theorem d_L_law_652 : decode cL_law 652 = .ok (.iadd, 1) := by decide +kernel
theorem d_L_law_653 : decode cL_law 653 = .ok (.iaload, 1) := by decide +kernel
theorem d_L_law_654 : decode cL_law 654 = .ok (.aload_n 0, 1) := by decide +kernel
theorem d_L_law_655 : decode cL_law 655 = .ok (.iload_n 3, 1) := by decide +kernel
theorem d_L_law_656 : decode cL_law 656 = .ok (.iconst 2, 1) := by decide +kernel
theorem d_L_law_657 : decode cL_law 657 = .ok (.iadd, 1) := by decide +kernel
theorem d_L_law_658 : decode cL_law 658 = .ok (.iaload, 1) := by decide +kernel
theorem d_L_law_659 : decode cL_law 659 = .ok (.aload_n 0, 1) := by decide +kernel
theorem d_L_law_660 : decode cL_law 660 = .ok (.iload_n 3, 1) := by decide +kernel
theorem d_L_law_661 : decode cL_law 661 = .ok (.iconst 3, 1) := by decide +kernel
theorem d_L_law_662 : decode cL_law 662 = .ok (.iadd, 1) := by decide +kernel
theorem d_L_law_663 : decode cL_law 663 = .ok (.iaload, 1) := by decide +kernel
theorem d_L_law_664 : decode cL_law 664 = .ok (.aload_n 0, 1) := by decide +kernel
theorem d_L_law_665 : decode cL_law 665 = .ok (.iload_n 3, 1) := by decide +kernel
theorem d_L_law_666 : decode cL_law 666 = .ok (.iconst 4, 1) := by decide +kernel
theorem d_L_law_667 : decode cL_law 667 = .ok (.iadd, 1) := by decide +kernel
theorem d_L_law_668 : decode cL_law 668 = .ok (.iaload, 1) := by decide +kernel
theorem d_L_law_669 : decode cL_law 669 = .ok (.aload_n 0, 1) := by decide +kernel
theorem d_L_law_670 : decode cL_law 670 = .ok (.iload_n 3, 1) := by decide +kernel
theorem d_L_law_671 : decode cL_law 671 = .ok (.iconst 5, 1) := by decide +kernel
theorem d_L_law_672 : decode cL_law 672 = .ok (.iadd, 1) := by decide +kernel
theorem d_L_law_673 : decode cL_law 673 = .ok (.iaload, 1) := by decide +kernel
theorem d_L_law_674 : decode cL_law 674 = .ok (.invokevirtual 67, 3) := by decide +kernel
theorem d_L_law_677 : decode cL_law 677 = .ok (.aload_n 2, 1) := by decide +kernel
theorem d_L_law_678 : decode cL_law 678 = .ok (.aload_n 0, 1) := by decide +kernel
theorem d_L_law_679 : decode cL_law 679 = .ok (.iload_n 3, 1) := by decide +kernel
theorem d_L_law_680 : decode cL_law 680 = .ok (.iconst 1, 1) := by decide +kernel
theorem d_L_law_681 : decode cL_law 681 = .ok (.iadd, 1) := by decide +kernel
theorem d_L_law_682 : decode cL_law 682 = .ok (.iaload, 1) := by decide +kernel
theorem d_L_law_683 : decode cL_law 683 = .ok (.aload_n 0, 1) := by decide +kernel
theorem d_L_law_684 : decode cL_law 684 = .ok (.iload_n 3, 1) := by decide +kernel
theorem d_L_law_685 : decode cL_law 685 = .ok (.iconst 2, 1) := by decide +kernel
theorem d_L_law_686 : decode cL_law 686 = .ok (.iadd, 1) := by decide +kernel
theorem d_L_law_687 : decode cL_law 687 = .ok (.iaload, 1) := by decide +kernel
theorem d_L_law_688 : decode cL_law 688 = .ok (.aload_n 0, 1) := by decide +kernel
theorem d_L_law_689 : decode cL_law 689 = .ok (.iload_n 3, 1) := by decide +kernel
theorem d_L_law_690 : decode cL_law 690 = .ok (.iconst 3, 1) := by decide +kernel
theorem d_L_law_691 : decode cL_law 691 = .ok (.iadd, 1) := by decide +kernel
theorem d_L_law_692 : decode cL_law 692 = .ok (.iaload, 1) := by decide +kernel
theorem d_L_law_693 : decode cL_law 693 = .ok (.aload_n 0, 1) := by decide +kernel
theorem d_L_law_694 : decode cL_law 694 = .ok (.iload_n 3, 1) := by decide +kernel
theorem d_L_law_695 : decode cL_law 695 = .ok (.iconst 4, 1) := by decide +kernel
theorem d_L_law_696 : decode cL_law 696 = .ok (.iadd, 1) := by decide +kernel
theorem d_L_law_697 : decode cL_law 697 = .ok (.iaload, 1) := by decide +kernel
theorem d_L_law_698 : decode cL_law 698 = .ok (.aload_n 0, 1) := by decide +kernel
theorem d_L_law_699 : decode cL_law 699 = .ok (.iload_n 3, 1) := by decide +kernel
theorem d_L_law_700 : decode cL_law 700 = .ok (.iconst 5, 1) := by decide +kernel
theorem d_L_law_701 : decode cL_law 701 = .ok (.iadd, 1) := by decide +kernel
theorem d_L_law_702 : decode cL_law 702 = .ok (.iaload, 1) := by decide +kernel
theorem d_L_law_703 : decode cL_law 703 = .ok (.invokevirtual 71, 3) := by decide +kernel
theorem d_L_law_706 : decode cL_law 706 = .ok (.if_icmp .eq 751, 3) := by decide +kernel
theorem d_L_law_709 : decode cL_law 709 = .ok (.iconst 0, 1) := by decide +kernel
theorem d_L_law_710 : decode cL_law 710 = .ok (.ireturn, 1) := by decide +kernel
theorem d_L_law_711 : decode cL_law 711 = .ok (.aload_n 1, 1) := by decide +kernel
theorem d_L_law_712 : decode cL_law 712 = .ok (.aload_n 0, 1) := by decide +kernel
theorem d_L_law_713 : decode cL_law 713 = .ok (.iload_n 3, 1) := by decide +kernel
theorem d_L_law_714 : decode cL_law 714 = .ok (.iconst 1, 1) := by decide +kernel
theorem d_L_law_715 : decode cL_law 715 = .ok (.iadd, 1) := by decide +kernel
theorem d_L_law_716 : decode cL_law 716 = .ok (.iaload, 1) := by decide +kernel
theorem d_L_law_717 : decode cL_law 717 = .ok (.invokevirtual 72, 3) := by decide +kernel
theorem d_L_law_720 : decode cL_law 720 = .ok (.aload_n 2, 1) := by decide +kernel
theorem d_L_law_721 : decode cL_law 721 = .ok (.aload_n 0, 1) := by decide +kernel
theorem d_L_law_722 : decode cL_law 722 = .ok (.iload_n 3, 1) := by decide +kernel
theorem d_L_law_723 : decode cL_law 723 = .ok (.iconst 1, 1) := by decide +kernel
theorem d_L_law_724 : decode cL_law 724 = .ok (.iadd, 1) := by decide +kernel
theorem d_L_law_725 : decode cL_law 725 = .ok (.iaload, 1) := by decide +kernel
theorem d_L_law_726 : decode cL_law 726 = .ok (.invokevirtual 75, 3) := by decide +kernel
theorem d_L_law_729 : decode cL_law 729 = .ok (.if_icmp .eq 728, 3) := by decide +kernel
theorem d_L_law_732 : decode cL_law 732 = .ok (.iconst 0, 1) := by decide +kernel
theorem d_L_law_733 : decode cL_law 733 = .ok (.ireturn, 1) := by decide +kernel
theorem d_L_law_734 : decode cL_law 734 = .ok (.aload_n 1, 1) := by decide +kernel
theorem d_L_law_735 : decode cL_law 735 = .ok (.invokevirtual 76, 3) := by decide +kernel
theorem d_L_law_738 : decode cL_law 738 = .ok (.aload_n 2, 1) := by decide +kernel
theorem d_L_law_739 : decode cL_law 739 = .ok (.invokevirtual 80, 3) := by decide +kernel
theorem d_L_law_742 : decode cL_law 742 = .ok (.if_icmp .eq 715, 3) := by decide +kernel
theorem d_L_law_745 : decode cL_law 745 = .ok (.iconst 0, 1) := by decide +kernel
theorem d_L_law_746 : decode cL_law 746 = .ok (.ireturn, 1) := by decide +kernel
theorem d_L_law_747 : decode cL_law 747 = .ok (.aload_n 1, 1) := by decide +kernel
theorem d_L_law_748 : decode cL_law 748 = .ok (.aload_n 0, 1) := by decide +kernel
theorem d_L_law_749 : decode cL_law 749 = .ok (.iload_n 3, 1) := by decide +kernel
theorem d_L_law_750 : decode cL_law 750 = .ok (.iconst 1, 1) := by decide +kernel
theorem d_L_law_751 : decode cL_law 751 = .ok (.iadd, 1) := by decide +kernel
theorem d_L_law_752 : decode cL_law 752 = .ok (.iaload, 1) := by decide +kernel
theorem d_L_law_753 : decode cL_law 753 = .ok (.invokevirtual 81, 3) := by decide +kernel
theorem d_L_law_756 : decode cL_law 756 = .ok (.aload_n 2, 1) := by decide +kernel
theorem d_L_law_757 : decode cL_law 757 = .ok (.aload_n 0, 1) := by decide +kernel
theorem d_L_law_758 : decode cL_law 758 = .ok (.iload_n 3, 1) := by decide +kernel
theorem d_L_law_759 : decode cL_law 759 = .ok (.iconst 1, 1) := by decide +kernel
theorem d_L_law_760 : decode cL_law 760 = .ok (.iadd, 1) := by decide +kernel
theorem d_L_law_761 : decode cL_law 761 = .ok (.iaload, 1) := by decide +kernel
theorem d_L_law_762 : decode cL_law 762 = .ok (.invokevirtual 85, 3) := by decide +kernel
theorem d_L_law_765 : decode cL_law 765 = .ok (.if_icmp .eq 692, 3) := by decide +kernel
theorem d_L_law_768 : decode cL_law 768 = .ok (.iconst 0, 1) := by decide +kernel
theorem d_L_law_769 : decode cL_law 769 = .ok (.ireturn, 1) := by decide +kernel
theorem d_L_law_770 : decode cL_law 770 = .ok (.aload_n 1, 1) := by decide +kernel
theorem d_L_law_771 : decode cL_law 771 = .ok (.aload_n 0, 1) := by decide +kernel
theorem d_L_law_772 : decode cL_law 772 = .ok (.iload_n 3, 1) := by decide +kernel
theorem d_L_law_773 : decode cL_law 773 = .ok (.iconst 1, 1) := by decide +kernel
theorem d_L_law_774 : decode cL_law 774 = .ok (.iadd, 1) := by decide +kernel
theorem d_L_law_775 : decode cL_law 775 = .ok (.iaload, 1) := by decide +kernel
theorem d_L_law_776 : decode cL_law 776 = .ok (.invokevirtual 86, 3) := by decide +kernel
theorem d_L_law_779 : decode cL_law 779 = .ok (.aload_n 2, 1) := by decide +kernel
theorem d_L_law_780 : decode cL_law 780 = .ok (.aload_n 0, 1) := by decide +kernel
theorem d_L_law_781 : decode cL_law 781 = .ok (.iload_n 3, 1) := by decide +kernel
theorem d_L_law_782 : decode cL_law 782 = .ok (.iconst 1, 1) := by decide +kernel
theorem d_L_law_783 : decode cL_law 783 = .ok (.iadd, 1) := by decide +kernel
theorem d_L_law_784 : decode cL_law 784 = .ok (.iaload, 1) := by decide +kernel
theorem d_L_law_785 : decode cL_law 785 = .ok (.invokevirtual 89, 3) := by decide +kernel
theorem d_L_law_788 : decode cL_law 788 = .ok (.if_icmp .eq 669, 3) := by decide +kernel
theorem d_L_law_791 : decode cL_law 791 = .ok (.iconst 0, 1) := by decide +kernel
theorem d_L_law_792 : decode cL_law 792 = .ok (.ireturn, 1) := by decide +kernel
theorem d_L_law_793 : decode cL_law 793 = .ok (.aload_n 1, 1) := by decide +kernel
theorem d_L_law_794 : decode cL_law 794 = .ok (.aload_n 0, 1) := by decide +kernel
theorem d_L_law_795 : decode cL_law 795 = .ok (.iload_n 3, 1) := by decide +kernel
theorem d_L_law_796 : decode cL_law 796 = .ok (.iconst 1, 1) := by decide +kernel
theorem d_L_law_797 : decode cL_law 797 = .ok (.iadd, 1) := by decide +kernel
theorem d_L_law_798 : decode cL_law 798 = .ok (.iaload, 1) := by decide +kernel
theorem d_L_law_799 : decode cL_law 799 = .ok (.aload_n 0, 1) := by decide +kernel
theorem d_L_law_800 : decode cL_law 800 = .ok (.iload_n 3, 1) := by decide +kernel
theorem d_L_law_801 : decode cL_law 801 = .ok (.iconst 2, 1) := by decide +kernel
theorem d_L_law_802 : decode cL_law 802 = .ok (.iadd, 1) := by decide +kernel
theorem d_L_law_803 : decode cL_law 803 = .ok (.iaload, 1) := by decide +kernel
theorem d_L_law_804 : decode cL_law 804 = .ok (.invokevirtual 90, 3) := by decide +kernel
theorem d_L_law_807 : decode cL_law 807 = .ok (.aload_n 2, 1) := by decide +kernel
theorem d_L_law_808 : decode cL_law 808 = .ok (.aload_n 0, 1) := by decide +kernel
theorem d_L_law_809 : decode cL_law 809 = .ok (.iload_n 3, 1) := by decide +kernel
theorem d_L_law_810 : decode cL_law 810 = .ok (.iconst 1, 1) := by decide +kernel
theorem d_L_law_811 : decode cL_law 811 = .ok (.iadd, 1) := by decide +kernel
theorem d_L_law_812 : decode cL_law 812 = .ok (.iaload, 1) := by decide +kernel
theorem d_L_law_813 : decode cL_law 813 = .ok (.aload_n 0, 1) := by decide +kernel
theorem d_L_law_814 : decode cL_law 814 = .ok (.iload_n 3, 1) := by decide +kernel
theorem d_L_law_815 : decode cL_law 815 = .ok (.iconst 2, 1) := by decide +kernel
theorem d_L_law_816 : decode cL_law 816 = .ok (.iadd, 1) := by decide +kernel
theorem d_L_law_817 : decode cL_law 817 = .ok (.iaload, 1) := by decide +kernel
theorem d_L_law_818 : decode cL_law 818 = .ok (.invokevirtual 93, 3) := by decide +kernel
theorem d_L_law_821 : decode cL_law 821 = .ok (.if_icmp .eq 636, 3) := by decide +kernel
theorem d_L_law_824 : decode cL_law 824 = .ok (.iconst 0, 1) := by decide +kernel
theorem d_L_law_825 : decode cL_law 825 = .ok (.ireturn, 1) := by decide +kernel
theorem d_L_law_826 : decode cL_law 826 = .ok (.aload_n 1, 1) := by decide +kernel
theorem d_L_law_827 : decode cL_law 827 = .ok (.aload_n 0, 1) := by decide +kernel
theorem d_L_law_828 : decode cL_law 828 = .ok (.iload_n 3, 1) := by decide +kernel
theorem d_L_law_829 : decode cL_law 829 = .ok (.iconst 1, 1) := by decide +kernel
theorem d_L_law_830 : decode cL_law 830 = .ok (.iadd, 1) := by decide +kernel
theorem d_L_law_831 : decode cL_law 831 = .ok (.iaload, 1) := by decide +kernel
theorem d_L_law_832 : decode cL_law 832 = .ok (.aload_n 0, 1) := by decide +kernel
theorem d_L_law_833 : decode cL_law 833 = .ok (.iload_n 3, 1) := by decide +kernel
theorem d_L_law_834 : decode cL_law 834 = .ok (.iconst 2, 1) := by decide +kernel
theorem d_L_law_835 : decode cL_law 835 = .ok (.iadd, 1) := by decide +kernel
theorem d_L_law_836 : decode cL_law 836 = .ok (.iaload, 1) := by decide +kernel
theorem d_L_law_837 : decode cL_law 837 = .ok (.aload_n 0, 1) := by decide +kernel
theorem d_L_law_838 : decode cL_law 838 = .ok (.iload_n 3, 1) := by decide +kernel
theorem d_L_law_839 : decode cL_law 839 = .ok (.iconst 3, 1) := by decide +kernel
theorem d_L_law_840 : decode cL_law 840 = .ok (.iadd, 1) := by decide +kernel
theorem d_L_law_841 : decode cL_law 841 = .ok (.iaload, 1) := by decide +kernel
theorem d_L_law_842 : decode cL_law 842 = .ok (.aload_n 0, 1) := by decide +kernel
theorem d_L_law_843 : decode cL_law 843 = .ok (.iload_n 3, 1) := by decide +kernel
theorem d_L_law_844 : decode cL_law 844 = .ok (.iconst 4, 1) := by decide +kernel
theorem d_L_law_845 : decode cL_law 845 = .ok (.iadd, 1) := by decide +kernel
theorem d_L_law_846 : decode cL_law 846 = .ok (.iaload, 1) := by decide +kernel
theorem d_L_law_847 : decode cL_law 847 = .ok (.invokevirtual 94, 3) := by decide +kernel
theorem d_L_law_850 : decode cL_law 850 = .ok (.aload_n 2, 1) := by decide +kernel
theorem d_L_law_851 : decode cL_law 851 = .ok (.aload_n 0, 1) := by decide +kernel
theorem d_L_law_852 : decode cL_law 852 = .ok (.iload_n 3, 1) := by decide +kernel
theorem d_L_law_853 : decode cL_law 853 = .ok (.iconst 1, 1) := by decide +kernel
theorem d_L_law_854 : decode cL_law 854 = .ok (.iadd, 1) := by decide +kernel
theorem d_L_law_855 : decode cL_law 855 = .ok (.iaload, 1) := by decide +kernel
theorem d_L_law_856 : decode cL_law 856 = .ok (.aload_n 0, 1) := by decide +kernel
theorem d_L_law_857 : decode cL_law 857 = .ok (.iload_n 3, 1) := by decide +kernel
theorem d_L_law_858 : decode cL_law 858 = .ok (.iconst 2, 1) := by decide +kernel
theorem d_L_law_859 : decode cL_law 859 = .ok (.iadd, 1) := by decide +kernel
theorem d_L_law_860 : decode cL_law 860 = .ok (.iaload, 1) := by decide +kernel
theorem d_L_law_861 : decode cL_law 861 = .ok (.aload_n 0, 1) := by decide +kernel
theorem d_L_law_862 : decode cL_law 862 = .ok (.iload_n 3, 1) := by decide +kernel
theorem d_L_law_863 : decode cL_law 863 = .ok (.iconst 3, 1) := by decide +kernel
theorem d_L_law_864 : decode cL_law 864 = .ok (.iadd, 1) := by decide +kernel
theorem d_L_law_865 : decode cL_law 865 = .ok (.iaload, 1) := by decide +kernel
theorem d_L_law_866 : decode cL_law 866 = .ok (.aload_n 0, 1) := by decide +kernel
theorem d_L_law_867 : decode cL_law 867 = .ok (.iload_n 3, 1) := by decide +kernel
theorem d_L_law_868 : decode cL_law 868 = .ok (.iconst 4, 1) := by decide +kernel
theorem d_L_law_869 : decode cL_law 869 = .ok (.iadd, 1) := by decide +kernel
theorem d_L_law_870 : decode cL_law 870 = .ok (.iaload, 1) := by decide +kernel
theorem d_L_law_871 : decode cL_law 871 = .ok (.invokevirtual 98, 3) := by decide +kernel
theorem d_L_law_874 : decode cL_law 874 = .ok (.if_icmp .eq 583, 3) := by decide +kernel
theorem d_L_law_877 : decode cL_law 877 = .ok (.iconst 0, 1) := by decide +kernel
theorem d_L_law_878 : decode cL_law 878 = .ok (.ireturn, 1) := by decide +kernel
theorem d_L_law_879 : decode cL_law 879 = .ok (.aload_n 1, 1) := by decide +kernel
theorem d_L_law_880 : decode cL_law 880 = .ok (.aload_n 0, 1) := by decide +kernel
theorem d_L_law_881 : decode cL_law 881 = .ok (.iload_n 3, 1) := by decide +kernel
theorem d_L_law_882 : decode cL_law 882 = .ok (.iconst 1, 1) := by decide +kernel
theorem d_L_law_883 : decode cL_law 883 = .ok (.iadd, 1) := by decide +kernel
theorem d_L_law_884 : decode cL_law 884 = .ok (.iaload, 1) := by decide +kernel
theorem d_L_law_885 : decode cL_law 885 = .ok (.aload_n 0, 1) := by decide +kernel
theorem d_L_law_886 : decode cL_law 886 = .ok (.iload_n 3, 1) := by decide +kernel
theorem d_L_law_887 : decode cL_law 887 = .ok (.iconst 2, 1) := by decide +kernel
theorem d_L_law_888 : decode cL_law 888 = .ok (.iadd, 1) := by decide +kernel
theorem d_L_law_889 : decode cL_law 889 = .ok (.iaload, 1) := by decide +kernel
theorem d_L_law_890 : decode cL_law 890 = .ok (.invokevirtual 99, 3) := by decide +kernel
theorem d_L_law_893 : decode cL_law 893 = .ok (.aload_n 2, 1) := by decide +kernel
theorem d_L_law_894 : decode cL_law 894 = .ok (.aload_n 0, 1) := by decide +kernel
theorem d_L_law_895 : decode cL_law 895 = .ok (.iload_n 3, 1) := by decide +kernel
theorem d_L_law_896 : decode cL_law 896 = .ok (.iconst 1, 1) := by decide +kernel
theorem d_L_law_897 : decode cL_law 897 = .ok (.iadd, 1) := by decide +kernel
theorem d_L_law_898 : decode cL_law 898 = .ok (.iaload, 1) := by decide +kernel
theorem d_L_law_899 : decode cL_law 899 = .ok (.aload_n 0, 1) := by decide +kernel
theorem d_L_law_900 : decode cL_law 900 = .ok (.iload_n 3, 1) := by decide +kernel
theorem d_L_law_901 : decode cL_law 901 = .ok (.iconst 2, 1) := by decide +kernel
theorem d_L_law_902 : decode cL_law 902 = .ok (.iadd, 1) := by decide +kernel
theorem d_L_law_903 : decode cL_law 903 = .ok (.iaload, 1) := by decide +kernel
theorem d_L_law_904 : decode cL_law 904 = .ok (.invokevirtual 102, 3) := by decide +kernel
theorem d_L_law_907 : decode cL_law 907 = .ok (.if_icmp .eq 550, 3) := by decide +kernel
theorem d_L_law_910 : decode cL_law 910 = .ok (.iconst 0, 1) := by decide +kernel
theorem d_L_law_911 : decode cL_law 911 = .ok (.ireturn, 1) := by decide +kernel
theorem d_L_law_912 : decode cL_law 912 = .ok (.aload_n 1, 1) := by decide +kernel
theorem d_L_law_913 : decode cL_law 913 = .ok (.aload_n 0, 1) := by decide +kernel
theorem d_L_law_914 : decode cL_law 914 = .ok (.iload_n 3, 1) := by decide +kernel
theorem d_L_law_915 : decode cL_law 915 = .ok (.iconst 1, 1) := by decide +kernel
theorem d_L_law_916 : decode cL_law 916 = .ok (.iadd, 1) := by decide +kernel
theorem d_L_law_917 : decode cL_law 917 = .ok (.iaload, 1) := by decide +kernel
theorem d_L_law_918 : decode cL_law 918 = .ok (.aload_n 0, 1) := by decide +kernel
theorem d_L_law_919 : decode cL_law 919 = .ok (.iload_n 3, 1) := by decide +kernel
theorem d_L_law_920 : decode cL_law 920 = .ok (.iconst 2, 1) := by decide +kernel
theorem d_L_law_921 : decode cL_law 921 = .ok (.iadd, 1) := by decide +kernel
theorem d_L_law_922 : decode cL_law 922 = .ok (.iaload, 1) := by decide +kernel
theorem d_L_law_923 : decode cL_law 923 = .ok (.invokevirtual 103, 3) := by decide +kernel
theorem d_L_law_926 : decode cL_law 926 = .ok (.aload_n 2, 1) := by decide +kernel
theorem d_L_law_927 : decode cL_law 927 = .ok (.aload_n 0, 1) := by decide +kernel
theorem d_L_law_928 : decode cL_law 928 = .ok (.iload_n 3, 1) := by decide +kernel
theorem d_L_law_929 : decode cL_law 929 = .ok (.iconst 1, 1) := by decide +kernel
theorem d_L_law_930 : decode cL_law 930 = .ok (.iadd, 1) := by decide +kernel
theorem d_L_law_931 : decode cL_law 931 = .ok (.iaload, 1) := by decide +kernel
theorem d_L_law_932 : decode cL_law 932 = .ok (.aload_n 0, 1) := by decide +kernel
theorem d_L_law_933 : decode cL_law 933 = .ok (.iload_n 3, 1) := by decide +kernel
theorem d_L_law_934 : decode cL_law 934 = .ok (.iconst 2, 1) := by decide +kernel
theorem d_L_law_935 : decode cL_law 935 = .ok (.iadd, 1) := by decide +kernel
theorem d_L_law_936 : decode cL_law 936 = .ok (.iaload, 1) := by decide +kernel
theorem d_L_law_937 : decode cL_law 937 = .ok (.invokevirtual 106, 3) := by decide +kernel
theorem d_L_law_940 : decode cL_law 940 = .ok (.if_icmp .eq 517, 3) := by decide +kernel
theorem d_L_law_943 : decode cL_law 943 = .ok (.iconst 0, 1) := by decide +kernel
theorem d_L_law_944 : decode cL_law 944 = .ok (.ireturn, 1) := by decide +kernel
theorem d_L_law_945 : decode cL_law 945 = .ok (.aload_n 1, 1) := by decide +kernel
theorem d_L_law_946 : decode cL_law 946 = .ok (.aload_n 0, 1) := by decide +kernel
theorem d_L_law_947 : decode cL_law 947 = .ok (.iload_n 3, 1) := by decide +kernel
theorem d_L_law_948 : decode cL_law 948 = .ok (.iconst 1, 1) := by decide +kernel
theorem d_L_law_949 : decode cL_law 949 = .ok (.iadd, 1) := by decide +kernel
theorem d_L_law_950 : decode cL_law 950 = .ok (.iaload, 1) := by decide +kernel
theorem d_L_law_951 : decode cL_law 951 = .ok (.aload_n 0, 1) := by decide +kernel
theorem d_L_law_952 : decode cL_law 952 = .ok (.iload_n 3, 1) := by decide +kernel
theorem d_L_law_953 : decode cL_law 953 = .ok (.iconst 2, 1) := by decide +kernel
theorem d_L_law_954 : decode cL_law 954 = .ok (.iadd, 1) := by decide +kernel
theorem d_L_law_955 : decode cL_law 955 = .ok (.iaload, 1) := by decide +kernel
theorem d_L_law_956 : decode cL_law 956 = .ok (.invokevirtual 107, 3) := by decide +kernel
theorem d_L_law_959 : decode cL_law 959 = .ok (.aload_n 2, 1) := by decide +kernel
theorem d_L_law_960 : decode cL_law 960 = .ok (.aload_n 0, 1) := by decide +kernel
theorem d_L_law_961 : decode cL_law 961 = .ok (.iload_n 3, 1) := by decide +kernel
theorem d_L_law_962 : decode cL_law 962 = .ok (.iconst 1, 1) := by decide +kernel
theorem d_L_law_963 : decode cL_law 963 = .ok (.iadd, 1) := by decide +kernel
theorem d_L_law_964 : decode cL_law 964 = .ok (.iaload, 1) := by decide +kernel
theorem d_L_law_965 : decode cL_law 965 = .ok (.aload_n 0, 1) := by decide +kernel
theorem d_L_law_966 : decode cL_law 966 = .ok (.iload_n 3, 1) := by decide +kernel
theorem d_L_law_967 : decode cL_law 967 = .ok (.iconst 2, 1) := by decide +kernel
theorem d_L_law_968 : decode cL_law 968 = .ok (.iadd, 1) := by decide +kernel
theorem d_L_law_969 : decode cL_law 969 = .ok (.iaload, 1) := by decide +kernel
theorem d_L_law_970 : decode cL_law 970 = .ok (.invokevirtual 110, 3) := by decide +kernel
theorem d_L_law_973 : decode cL_law 973 = .ok (.if_icmp .eq 484, 3) := by decide +kernel
theorem d_L_law_976 : decode cL_law 976 = .ok (.iconst 0, 1) := by decide +kernel
theorem d_L_law_977 : decode cL_law 977 = .ok (.ireturn, 1) := by decide +kernel
theorem d_L_law_978 : decode cL_law 978 = .ok (.aload_n 1, 1) := by decide +kernel
theorem d_L_law_979 : decode cL_law 979 = .ok (.aload_n 0, 1) := by decide +kernel
theorem d_L_law_980 : decode cL_law 980 = .ok (.iload_n 3, 1) := by decide +kernel
theorem d_L_law_981 : decode cL_law 981 = .ok (.iconst 1, 1) := by decide +kernel
theorem d_L_law_982 : decode cL_law 982 = .ok (.iadd, 1) := by decide +kernel
theorem d_L_law_983 : decode cL_law 983 = .ok (.iaload, 1) := by decide +kernel
theorem d_L_law_984 : decode cL_law 984 = .ok (.aload_n 0, 1) := by decide +kernel
theorem d_L_law_985 : decode cL_law 985 = .ok (.iload_n 3, 1) := by decide +kernel
theorem d_L_law_986 : decode cL_law 986 = .ok (.iconst 2, 1) := by decide +kernel
theorem d_L_law_987 : decode cL_law 987 = .ok (.iadd, 1) := by decide +kernel
theorem d_L_law_988 : decode cL_law 988 = .ok (.iaload, 1) := by decide +kernel
theorem d_L_law_989 : decode cL_law 989 = .ok (.invokevirtual 111, 3) := by decide +kernel
theorem d_L_law_992 : decode cL_law 992 = .ok (.aload_n 2, 1) := by decide +kernel
theorem d_L_law_993 : decode cL_law 993 = .ok (.aload_n 0, 1) := by decide +kernel
theorem d_L_law_994 : decode cL_law 994 = .ok (.iload_n 3, 1) := by decide +kernel
theorem d_L_law_995 : decode cL_law 995 = .ok (.iconst 1, 1) := by decide +kernel
theorem d_L_law_996 : decode cL_law 996 = .ok (.iadd, 1) := by decide +kernel
theorem d_L_law_997 : decode cL_law 997 = .ok (.iaload, 1) := by decide +kernel
theorem d_L_law_998 : decode cL_law 998 = .ok (.aload_n 0, 1) := by decide +kernel
theorem d_L_law_999 : decode cL_law 999 = .ok (.iload_n 3, 1) := by decide +kernel
theorem d_L_law_1000 : decode cL_law 1000 = .ok (.iconst 2, 1) := by decide +kernel
theorem d_L_law_1001 : decode cL_law 1001 = .ok (.iadd, 1) := by decide +kernel
theorem d_L_law_1002 : decode cL_law 1002 = .ok (.iaload, 1) := by decide +kernel
theorem d_L_law_1003 : decode cL_law 1003 = .ok (.invokevirtual 114, 3) := by decide +kernel
theorem d_L_law_1006 : decode cL_law 1006 = .ok (.if_icmp .eq 451, 3) := by decide +kernel
theorem d_L_law_1009 : decode cL_law 1009 = .ok (.iconst 0, 1) := by decide +kernel
theorem d_L_law_1010 : decode cL_law 1010 = .ok (.ireturn, 1) := by decide +kernel
theorem d_L_law_1011 : decode cL_law 1011 = .ok (.aload_n 1, 1) := by decide +kernel
theorem d_L_law_1012 : decode cL_law 1012 = .ok (.aload_n 0, 1) := by decide +kernel
theorem d_L_law_1013 : decode cL_law 1013 = .ok (.iload_n 3, 1) := by decide +kernel
theorem d_L_law_1014 : decode cL_law 1014 = .ok (.iconst 1, 1) := by decide +kernel
theorem d_L_law_1015 : decode cL_law 1015 = .ok (.iadd, 1) := by decide +kernel
theorem d_L_law_1016 : decode cL_law 1016 = .ok (.iaload, 1) := by decide +kernel
theorem d_L_law_1017 : decode cL_law 1017 = .ok (.invokevirtual 115, 3) := by decide +kernel
theorem d_L_law_1020 : decode cL_law 1020 = .ok (.aload_n 2, 1) := by decide +kernel
theorem d_L_law_1021 : decode cL_law 1021 = .ok (.aload_n 0, 1) := by decide +kernel
theorem d_L_law_1022 : decode cL_law 1022 = .ok (.iload_n 3, 1) := by decide +kernel
theorem d_L_law_1023 : decode cL_law 1023 = .ok (.iconst 1, 1) := by decide +kernel
theorem d_L_law_1024 : decode cL_law 1024 = .ok (.iadd, 1) := by decide +kernel
theorem d_L_law_1025 : decode cL_law 1025 = .ok (.iaload, 1) := by decide +kernel
theorem d_L_law_1026 : decode cL_law 1026 = .ok (.invokevirtual 118, 3) := by decide +kernel
theorem d_L_law_1029 : decode cL_law 1029 = .ok (.if_icmp .eq 428, 3) := by decide +kernel
theorem d_L_law_1032 : decode cL_law 1032 = .ok (.iconst 0, 1) := by decide +kernel
theorem d_L_law_1033 : decode cL_law 1033 = .ok (.ireturn, 1) := by decide +kernel
theorem d_L_law_1034 : decode cL_law 1034 = .ok (.aload_n 1, 1) := by decide +kernel
theorem d_L_law_1035 : decode cL_law 1035 = .ok (.aload_n 0, 1) := by decide +kernel
theorem d_L_law_1036 : decode cL_law 1036 = .ok (.iload_n 3, 1) := by decide +kernel
theorem d_L_law_1037 : decode cL_law 1037 = .ok (.iconst 1, 1) := by decide +kernel
theorem d_L_law_1038 : decode cL_law 1038 = .ok (.iadd, 1) := by decide +kernel
theorem d_L_law_1039 : decode cL_law 1039 = .ok (.iaload, 1) := by decide +kernel
theorem d_L_law_1040 : decode cL_law 1040 = .ok (.aload_n 0, 1) := by decide +kernel
theorem d_L_law_1041 : decode cL_law 1041 = .ok (.iload_n 3, 1) := by decide +kernel
theorem d_L_law_1042 : decode cL_law 1042 = .ok (.iconst 2, 1) := by decide +kernel
theorem d_L_law_1043 : decode cL_law 1043 = .ok (.iadd, 1) := by decide +kernel
theorem d_L_law_1044 : decode cL_law 1044 = .ok (.iaload, 1) := by decide +kernel
theorem d_L_law_1045 : decode cL_law 1045 = .ok (.invokevirtual 119, 3) := by decide +kernel
theorem d_L_law_1048 : decode cL_law 1048 = .ok (.aload_n 2, 1) := by decide +kernel
theorem d_L_law_1049 : decode cL_law 1049 = .ok (.aload_n 0, 1) := by decide +kernel
theorem d_L_law_1050 : decode cL_law 1050 = .ok (.iload_n 3, 1) := by decide +kernel
theorem d_L_law_1051 : decode cL_law 1051 = .ok (.iconst 1, 1) := by decide +kernel
theorem d_L_law_1052 : decode cL_law 1052 = .ok (.iadd, 1) := by decide +kernel
theorem d_L_law_1053 : decode cL_law 1053 = .ok (.iaload, 1) := by decide +kernel
theorem d_L_law_1054 : decode cL_law 1054 = .ok (.aload_n 0, 1) := by decide +kernel
theorem d_L_law_1055 : decode cL_law 1055 = .ok (.iload_n 3, 1) := by decide +kernel
theorem d_L_law_1056 : decode cL_law 1056 = .ok (.iconst 2, 1) := by decide +kernel
theorem d_L_law_1057 : decode cL_law 1057 = .ok (.iadd, 1) := by decide +kernel
theorem d_L_law_1058 : decode cL_law 1058 = .ok (.iaload, 1) := by decide +kernel
theorem d_L_law_1059 : decode cL_law 1059 = .ok (.invokevirtual 122, 3) := by decide +kernel
theorem d_L_law_1062 : decode cL_law 1062 = .ok (.if_icmp .eq 395, 3) := by decide +kernel
theorem d_L_law_1065 : decode cL_law 1065 = .ok (.iconst 0, 1) := by decide +kernel
theorem d_L_law_1066 : decode cL_law 1066 = .ok (.ireturn, 1) := by decide +kernel
theorem d_L_law_1067 : decode cL_law 1067 = .ok (.aload_n 1, 1) := by decide +kernel
theorem d_L_law_1068 : decode cL_law 1068 = .ok (.aload_n 0, 1) := by decide +kernel
theorem d_L_law_1069 : decode cL_law 1069 = .ok (.iload_n 3, 1) := by decide +kernel
theorem d_L_law_1070 : decode cL_law 1070 = .ok (.iconst 1, 1) := by decide +kernel
theorem d_L_law_1071 : decode cL_law 1071 = .ok (.iadd, 1) := by decide +kernel
theorem d_L_law_1072 : decode cL_law 1072 = .ok (.iaload, 1) := by decide +kernel
theorem d_L_law_1073 : decode cL_law 1073 = .ok (.invokevirtual 123, 3) := by decide +kernel
theorem d_L_law_1076 : decode cL_law 1076 = .ok (.aload_n 2, 1) := by decide +kernel
theorem d_L_law_1077 : decode cL_law 1077 = .ok (.aload_n 0, 1) := by decide +kernel
theorem d_L_law_1078 : decode cL_law 1078 = .ok (.iload_n 3, 1) := by decide +kernel
theorem d_L_law_1079 : decode cL_law 1079 = .ok (.iconst 1, 1) := by decide +kernel
theorem d_L_law_1080 : decode cL_law 1080 = .ok (.iadd, 1) := by decide +kernel
theorem d_L_law_1081 : decode cL_law 1081 = .ok (.iaload, 1) := by decide +kernel
theorem d_L_law_1082 : decode cL_law 1082 = .ok (.invokevirtual 126, 3) := by decide +kernel
theorem d_L_law_1085 : decode cL_law 1085 = .ok (.if_icmp .eq 372, 3) := by decide +kernel
theorem d_L_law_1088 : decode cL_law 1088 = .ok (.iconst 0, 1) := by decide +kernel
theorem d_L_law_1089 : decode cL_law 1089 = .ok (.ireturn, 1) := by decide +kernel
theorem d_L_law_1090 : decode cL_law 1090 = .ok (.aload_n 1, 1) := by decide +kernel
theorem d_L_law_1091 : decode cL_law 1091 = .ok (.aload_n 0, 1) := by decide +kernel
theorem d_L_law_1092 : decode cL_law 1092 = .ok (.iload_n 3, 1) := by decide +kernel
theorem d_L_law_1093 : decode cL_law 1093 = .ok (.iconst 1, 1) := by decide +kernel
theorem d_L_law_1094 : decode cL_law 1094 = .ok (.iadd, 1) := by decide +kernel
theorem d_L_law_1095 : decode cL_law 1095 = .ok (.iaload, 1) := by decide +kernel
theorem d_L_law_1096 : decode cL_law 1096 = .ok (.invokevirtual 127, 3) := by decide +kernel
theorem d_L_law_1099 : decode cL_law 1099 = .ok (.aload_n 2, 1) := by decide +kernel
theorem d_L_law_1100 : decode cL_law 1100 = .ok (.aload_n 0, 1) := by decide +kernel
theorem d_L_law_1101 : decode cL_law 1101 = .ok (.iload_n 3, 1) := by decide +kernel
theorem d_L_law_1102 : decode cL_law 1102 = .ok (.iconst 1, 1) := by decide +kernel
theorem d_L_law_1103 : decode cL_law 1103 = .ok (.iadd, 1) := by decide +kernel
theorem d_L_law_1104 : decode cL_law 1104 = .ok (.iaload, 1) := by decide +kernel
theorem d_L_law_1105 : decode cL_law 1105 = .ok (.invokevirtual 130, 3) := by decide +kernel
theorem d_L_law_1108 : decode cL_law 1108 = .ok (.if_icmp .eq 349, 3) := by decide +kernel
theorem d_L_law_1111 : decode cL_law 1111 = .ok (.iconst 0, 1) := by decide +kernel
theorem d_L_law_1112 : decode cL_law 1112 = .ok (.ireturn, 1) := by decide +kernel
theorem d_L_law_1113 : decode cL_law 1113 = .ok (.aload_n 1, 1) := by decide +kernel
theorem d_L_law_1114 : decode cL_law 1114 = .ok (.invokevirtual 131, 3) := by decide +kernel
theorem d_L_law_1117 : decode cL_law 1117 = .ok (.aload_n 2, 1) := by decide +kernel
theorem d_L_law_1118 : decode cL_law 1118 = .ok (.invokevirtual 134, 3) := by decide +kernel
theorem d_L_law_1121 : decode cL_law 1121 = .ok (.if_icmp .eq 336, 3) := by decide +kernel
theorem d_L_law_1124 : decode cL_law 1124 = .ok (.iconst 0, 1) := by decide +kernel
theorem d_L_law_1125 : decode cL_law 1125 = .ok (.ireturn, 1) := by decide +kernel
theorem d_L_law_1126 : decode cL_law 1126 = .ok (.aload_n 1, 1) := by decide +kernel
theorem d_L_law_1127 : decode cL_law 1127 = .ok (.aload_n 0, 1) := by decide +kernel
theorem d_L_law_1128 : decode cL_law 1128 = .ok (.iload_n 3, 1) := by decide +kernel
theorem d_L_law_1129 : decode cL_law 1129 = .ok (.iconst 1, 1) := by decide +kernel
theorem d_L_law_1130 : decode cL_law 1130 = .ok (.iadd, 1) := by decide +kernel
theorem d_L_law_1131 : decode cL_law 1131 = .ok (.iaload, 1) := by decide +kernel
theorem d_L_law_1132 : decode cL_law 1132 = .ok (.invokevirtual 135, 3) := by decide +kernel
theorem d_L_law_1135 : decode cL_law 1135 = .ok (.aload_n 2, 1) := by decide +kernel
theorem d_L_law_1136 : decode cL_law 1136 = .ok (.aload_n 0, 1) := by decide +kernel
theorem d_L_law_1137 : decode cL_law 1137 = .ok (.iload_n 3, 1) := by decide +kernel
theorem d_L_law_1138 : decode cL_law 1138 = .ok (.iconst 1, 1) := by decide +kernel
theorem d_L_law_1139 : decode cL_law 1139 = .ok (.iadd, 1) := by decide +kernel
theorem d_L_law_1140 : decode cL_law 1140 = .ok (.iaload, 1) := by decide +kernel
theorem d_L_law_1141 : decode cL_law 1141 = .ok (.invokevirtual 138, 3) := by decide +kernel
theorem d_L_law_1144 : decode cL_law 1144 = .ok (.if_icmp .eq 313, 3) := by decide +kernel
theorem d_L_law_1147 : decode cL_law 1147 = .ok (.iconst 0, 1) := by decide +kernel
theorem d_L_law_1148 : decode cL_law 1148 = .ok (.ireturn, 1) := by decide +kernel
theorem d_L_law_1149 : decode cL_law 1149 = .ok (.aload_n 1, 1) := by decide +kernel
theorem d_L_law_1150 : decode cL_law 1150 = .ok (.aload_n 0, 1) := by decide +kernel
theorem d_L_law_1151 : decode cL_law 1151 = .ok (.iload_n 3, 1) := by decide +kernel
theorem d_L_law_1152 : decode cL_law 1152 = .ok (.iconst 1, 1) := by decide +kernel
theorem d_L_law_1153 : decode cL_law 1153 = .ok (.iadd, 1) := by decide +kernel
theorem d_L_law_1154 : decode cL_law 1154 = .ok (.iaload, 1) := by decide +kernel
theorem d_L_law_1155 : decode cL_law 1155 = .ok (.aload_n 0, 1) := by decide +kernel
theorem d_L_law_1156 : decode cL_law 1156 = .ok (.iload_n 3, 1) := by decide +kernel
theorem d_L_law_1157 : decode cL_law 1157 = .ok (.iconst 2, 1) := by decide +kernel
theorem d_L_law_1158 : decode cL_law 1158 = .ok (.iadd, 1) := by decide +kernel
theorem d_L_law_1159 : decode cL_law 1159 = .ok (.iaload, 1) := by decide +kernel
theorem d_L_law_1160 : decode cL_law 1160 = .ok (.invokevirtual 139, 3) := by decide +kernel
theorem d_L_law_1163 : decode cL_law 1163 = .ok (.aload_n 2, 1) := by decide +kernel
theorem d_L_law_1164 : decode cL_law 1164 = .ok (.aload_n 0, 1) := by decide +kernel
theorem d_L_law_1165 : decode cL_law 1165 = .ok (.iload_n 3, 1) := by decide +kernel
theorem d_L_law_1166 : decode cL_law 1166 = .ok (.iconst 1, 1) := by decide +kernel
theorem d_L_law_1167 : decode cL_law 1167 = .ok (.iadd, 1) := by decide +kernel
theorem d_L_law_1168 : decode cL_law 1168 = .ok (.iaload, 1) := by decide +kernel
theorem d_L_law_1169 : decode cL_law 1169 = .ok (.aload_n 0, 1) := by decide +kernel
theorem d_L_law_1170 : decode cL_law 1170 = .ok (.iload_n 3, 1) := by decide +kernel
theorem d_L_law_1171 : decode cL_law 1171 = .ok (.iconst 2, 1) := by decide +kernel
theorem d_L_law_1172 : decode cL_law 1172 = .ok (.iadd, 1) := by decide +kernel
theorem d_L_law_1173 : decode cL_law 1173 = .ok (.iaload, 1) := by decide +kernel
theorem d_L_law_1174 : decode cL_law 1174 = .ok (.invokevirtual 142, 3) := by decide +kernel
theorem d_L_law_1177 : decode cL_law 1177 = .ok (.if_icmp .eq 280, 3) := by decide +kernel
theorem d_L_law_1180 : decode cL_law 1180 = .ok (.iconst 0, 1) := by decide +kernel
theorem d_L_law_1181 : decode cL_law 1181 = .ok (.ireturn, 1) := by decide +kernel
theorem d_L_law_1182 : decode cL_law 1182 = .ok (.aload_n 1, 1) := by decide +kernel
theorem d_L_law_1183 : decode cL_law 1183 = .ok (.aload_n 0, 1) := by decide +kernel
theorem d_L_law_1184 : decode cL_law 1184 = .ok (.iload_n 3, 1) := by decide +kernel
theorem d_L_law_1185 : decode cL_law 1185 = .ok (.iconst 1, 1) := by decide +kernel
theorem d_L_law_1186 : decode cL_law 1186 = .ok (.iadd, 1) := by decide +kernel
theorem d_L_law_1187 : decode cL_law 1187 = .ok (.iaload, 1) := by decide +kernel
theorem d_L_law_1188 : decode cL_law 1188 = .ok (.aload_n 0, 1) := by decide +kernel
theorem d_L_law_1189 : decode cL_law 1189 = .ok (.iload_n 3, 1) := by decide +kernel
theorem d_L_law_1190 : decode cL_law 1190 = .ok (.iconst 2, 1) := by decide +kernel
theorem d_L_law_1191 : decode cL_law 1191 = .ok (.iadd, 1) := by decide +kernel
theorem d_L_law_1192 : decode cL_law 1192 = .ok (.iaload, 1) := by decide +kernel
theorem d_L_law_1193 : decode cL_law 1193 = .ok (.invokevirtual 143, 3) := by decide +kernel
theorem d_L_law_1196 : decode cL_law 1196 = .ok (.aload_n 2, 1) := by decide +kernel
theorem d_L_law_1197 : decode cL_law 1197 = .ok (.aload_n 0, 1) := by decide +kernel
theorem d_L_law_1198 : decode cL_law 1198 = .ok (.iload_n 3, 1) := by decide +kernel
theorem d_L_law_1199 : decode cL_law 1199 = .ok (.iconst 1, 1) := by decide +kernel
theorem d_L_law_1200 : decode cL_law 1200 = .ok (.iadd, 1) := by decide +kernel
theorem d_L_law_1201 : decode cL_law 1201 = .ok (.iaload, 1) := by decide +kernel
theorem d_L_law_1202 : decode cL_law 1202 = .ok (.aload_n 0, 1) := by decide +kernel
theorem d_L_law_1203 : decode cL_law 1203 = .ok (.iload_n 3, 1) := by decide +kernel
theorem d_L_law_1204 : decode cL_law 1204 = .ok (.iconst 2, 1) := by decide +kernel
theorem d_L_law_1205 : decode cL_law 1205 = .ok (.iadd, 1) := by decide +kernel
theorem d_L_law_1206 : decode cL_law 1206 = .ok (.iaload, 1) := by decide +kernel
theorem d_L_law_1207 : decode cL_law 1207 = .ok (.invokevirtual 146, 3) := by decide +kernel
theorem d_L_law_1210 : decode cL_law 1210 = .ok (.if_icmp .eq 247, 3) := by decide +kernel
theorem d_L_law_1213 : decode cL_law 1213 = .ok (.iconst 0, 1) := by decide +kernel
theorem d_L_law_1214 : decode cL_law 1214 = .ok (.ireturn, 1) := by decide +kernel
theorem d_L_law_1215 : decode cL_law 1215 = .ok (.aload_n 1, 1) := by decide +kernel
theorem d_L_law_1216 : decode cL_law 1216 = .ok (.aload_n 0, 1) := by decide +kernel
theorem d_L_law_1217 : decode cL_law 1217 = .ok (.iload_n 3, 1) := by decide +kernel
theorem d_L_law_1218 : decode cL_law 1218 = .ok (.iconst 1, 1) := by decide +kernel
theorem d_L_law_1219 : decode cL_law 1219 = .ok (.iadd, 1) := by decide +kernel
theorem d_L_law_1220 : decode cL_law 1220 = .ok (.iaload, 1) := by decide +kernel
theorem d_L_law_1221 : decode cL_law 1221 = .ok (.invokevirtual 147, 3) := by decide +kernel
theorem d_L_law_1224 : decode cL_law 1224 = .ok (.aload_n 2, 1) := by decide +kernel
theorem d_L_law_1225 : decode cL_law 1225 = .ok (.aload_n 0, 1) := by decide +kernel
theorem d_L_law_1226 : decode cL_law 1226 = .ok (.iload_n 3, 1) := by decide +kernel
theorem d_L_law_1227 : decode cL_law 1227 = .ok (.iconst 1, 1) := by decide +kernel
theorem d_L_law_1228 : decode cL_law 1228 = .ok (.iadd, 1) := by decide +kernel
theorem d_L_law_1229 : decode cL_law 1229 = .ok (.iaload, 1) := by decide +kernel
theorem d_L_law_1230 : decode cL_law 1230 = .ok (.invokevirtual 150, 3) := by decide +kernel
theorem d_L_law_1233 : decode cL_law 1233 = .ok (.if_icmp .eq 224, 3) := by decide +kernel
theorem d_L_law_1236 : decode cL_law 1236 = .ok (.iconst 0, 1) := by decide +kernel
theorem d_L_law_1237 : decode cL_law 1237 = .ok (.ireturn, 1) := by decide +kernel
theorem d_L_law_1238 : decode cL_law 1238 = .ok (.aload_n 1, 1) := by decide +kernel
theorem d_L_law_1239 : decode cL_law 1239 = .ok (.aload_n 0, 1) := by decide +kernel
theorem d_L_law_1240 : decode cL_law 1240 = .ok (.iload_n 3, 1) := by decide +kernel
theorem d_L_law_1241 : decode cL_law 1241 = .ok (.iconst 1, 1) := by decide +kernel
theorem d_L_law_1242 : decode cL_law 1242 = .ok (.iadd, 1) := by decide +kernel
theorem d_L_law_1243 : decode cL_law 1243 = .ok (.iaload, 1) := by decide +kernel
theorem d_L_law_1244 : decode cL_law 1244 = .ok (.invokevirtual 151, 3) := by decide +kernel
theorem d_L_law_1247 : decode cL_law 1247 = .ok (.aload_n 2, 1) := by decide +kernel
theorem d_L_law_1248 : decode cL_law 1248 = .ok (.aload_n 0, 1) := by decide +kernel
theorem d_L_law_1249 : decode cL_law 1249 = .ok (.iload_n 3, 1) := by decide +kernel
theorem d_L_law_1250 : decode cL_law 1250 = .ok (.iconst 1, 1) := by decide +kernel
theorem d_L_law_1251 : decode cL_law 1251 = .ok (.iadd, 1) := by decide +kernel
theorem d_L_law_1252 : decode cL_law 1252 = .ok (.iaload, 1) := by decide +kernel
theorem d_L_law_1253 : decode cL_law 1253 = .ok (.invokevirtual 154, 3) := by decide +kernel
theorem d_L_law_1256 : decode cL_law 1256 = .ok (.if_icmp .eq 201, 3) := by decide +kernel
theorem d_L_law_1259 : decode cL_law 1259 = .ok (.iconst 0, 1) := by decide +kernel
theorem d_L_law_1260 : decode cL_law 1260 = .ok (.ireturn, 1) := by decide +kernel
theorem d_L_law_1261 : decode cL_law 1261 = .ok (.aload_n 1, 1) := by decide +kernel
theorem d_L_law_1262 : decode cL_law 1262 = .ok (.aload_n 0, 1) := by decide +kernel
theorem d_L_law_1263 : decode cL_law 1263 = .ok (.iload_n 3, 1) := by decide +kernel
theorem d_L_law_1264 : decode cL_law 1264 = .ok (.iconst 1, 1) := by decide +kernel
theorem d_L_law_1265 : decode cL_law 1265 = .ok (.iadd, 1) := by decide +kernel
theorem d_L_law_1266 : decode cL_law 1266 = .ok (.iaload, 1) := by decide +kernel
theorem d_L_law_1267 : decode cL_law 1267 = .ok (.invokevirtual 155, 3) := by decide +kernel
theorem d_L_law_1270 : decode cL_law 1270 = .ok (.aload_n 2, 1) := by decide +kernel
theorem d_L_law_1271 : decode cL_law 1271 = .ok (.aload_n 0, 1) := by decide +kernel
theorem d_L_law_1272 : decode cL_law 1272 = .ok (.iload_n 3, 1) := by decide +kernel
theorem d_L_law_1273 : decode cL_law 1273 = .ok (.iconst 1, 1) := by decide +kernel
theorem d_L_law_1274 : decode cL_law 1274 = .ok (.iadd, 1) := by decide +kernel
theorem d_L_law_1275 : decode cL_law 1275 = .ok (.iaload, 1) := by decide +kernel
theorem d_L_law_1276 : decode cL_law 1276 = .ok (.invokevirtual 159, 3) := by decide +kernel
theorem d_L_law_1279 : decode cL_law 1279 = .ok (.lcmp, 1) := by decide +kernel
theorem d_L_law_1280 : decode cL_law 1280 = .ok (.ifCond .eq 177, 3) := by decide +kernel
theorem d_L_law_1283 : decode cL_law 1283 = .ok (.iconst 0, 1) := by decide +kernel
theorem d_L_law_1284 : decode cL_law 1284 = .ok (.ireturn, 1) := by decide +kernel
theorem d_L_law_1285 : decode cL_law 1285 = .ok (.aload_n 1, 1) := by decide +kernel
theorem d_L_law_1286 : decode cL_law 1286 = .ok (.aload_n 0, 1) := by decide +kernel
theorem d_L_law_1287 : decode cL_law 1287 = .ok (.iload_n 3, 1) := by decide +kernel
theorem d_L_law_1288 : decode cL_law 1288 = .ok (.iconst 1, 1) := by decide +kernel
theorem d_L_law_1289 : decode cL_law 1289 = .ok (.iadd, 1) := by decide +kernel
theorem d_L_law_1290 : decode cL_law 1290 = .ok (.iaload, 1) := by decide +kernel
theorem d_L_law_1291 : decode cL_law 1291 = .ok (.aload_n 0, 1) := by decide +kernel
theorem d_L_law_1292 : decode cL_law 1292 = .ok (.iload_n 3, 1) := by decide +kernel
theorem d_L_law_1293 : decode cL_law 1293 = .ok (.iconst 2, 1) := by decide +kernel
theorem d_L_law_1294 : decode cL_law 1294 = .ok (.iadd, 1) := by decide +kernel
theorem d_L_law_1295 : decode cL_law 1295 = .ok (.iaload, 1) := by decide +kernel
theorem d_L_law_1296 : decode cL_law 1296 = .ok (.aload_n 0, 1) := by decide +kernel
theorem d_L_law_1297 : decode cL_law 1297 = .ok (.iload_n 3, 1) := by decide +kernel
theorem d_L_law_1298 : decode cL_law 1298 = .ok (.iconst 3, 1) := by decide +kernel
theorem d_L_law_1299 : decode cL_law 1299 = .ok (.iadd, 1) := by decide +kernel
theorem d_L_law_1300 : decode cL_law 1300 = .ok (.iaload, 1) := by decide +kernel
theorem d_L_law_1301 : decode cL_law 1301 = .ok (.aload_n 0, 1) := by decide +kernel
theorem d_L_law_1302 : decode cL_law 1302 = .ok (.iload_n 3, 1) := by decide +kernel
theorem d_L_law_1303 : decode cL_law 1303 = .ok (.iconst 4, 1) := by decide +kernel
theorem d_L_law_1304 : decode cL_law 1304 = .ok (.iadd, 1) := by decide +kernel
theorem d_L_law_1305 : decode cL_law 1305 = .ok (.iaload, 1) := by decide +kernel
theorem d_L_law_1306 : decode cL_law 1306 = .ok (.aload_n 0, 1) := by decide +kernel
theorem d_L_law_1307 : decode cL_law 1307 = .ok (.iload_n 3, 1) := by decide +kernel
theorem d_L_law_1308 : decode cL_law 1308 = .ok (.iconst 5, 1) := by decide +kernel
theorem d_L_law_1309 : decode cL_law 1309 = .ok (.iadd, 1) := by decide +kernel
theorem d_L_law_1310 : decode cL_law 1310 = .ok (.iaload, 1) := by decide +kernel
theorem d_L_law_1311 : decode cL_law 1311 = .ok (.invokevirtual 160, 3) := by decide +kernel
theorem d_L_law_1314 : decode cL_law 1314 = .ok (.aload_n 2, 1) := by decide +kernel
theorem d_L_law_1315 : decode cL_law 1315 = .ok (.aload_n 0, 1) := by decide +kernel
theorem d_L_law_1316 : decode cL_law 1316 = .ok (.iload_n 3, 1) := by decide +kernel
theorem d_L_law_1317 : decode cL_law 1317 = .ok (.iconst 1, 1) := by decide +kernel
theorem d_L_law_1318 : decode cL_law 1318 = .ok (.iadd, 1) := by decide +kernel
theorem d_L_law_1319 : decode cL_law 1319 = .ok (.iaload, 1) := by decide +kernel
theorem d_L_law_1320 : decode cL_law 1320 = .ok (.aload_n 0, 1) := by decide +kernel
theorem d_L_law_1321 : decode cL_law 1321 = .ok (.iload_n 3, 1) := by decide +kernel
theorem d_L_law_1322 : decode cL_law 1322 = .ok (.iconst 2, 1) := by decide +kernel
theorem d_L_law_1323 : decode cL_law 1323 = .ok (.iadd, 1) := by decide +kernel
theorem d_L_law_1324 : decode cL_law 1324 = .ok (.iaload, 1) := by decide +kernel
theorem d_L_law_1325 : decode cL_law 1325 = .ok (.aload_n 0, 1) := by decide +kernel
theorem d_L_law_1326 : decode cL_law 1326 = .ok (.iload_n 3, 1) := by decide +kernel
theorem d_L_law_1327 : decode cL_law 1327 = .ok (.iconst 3, 1) := by decide +kernel
theorem d_L_law_1328 : decode cL_law 1328 = .ok (.iadd, 1) := by decide +kernel
theorem d_L_law_1329 : decode cL_law 1329 = .ok (.iaload, 1) := by decide +kernel
theorem d_L_law_1330 : decode cL_law 1330 = .ok (.aload_n 0, 1) := by decide +kernel
theorem d_L_law_1331 : decode cL_law 1331 = .ok (.iload_n 3, 1) := by decide +kernel
theorem d_L_law_1332 : decode cL_law 1332 = .ok (.iconst 4, 1) := by decide +kernel
theorem d_L_law_1333 : decode cL_law 1333 = .ok (.iadd, 1) := by decide +kernel
theorem d_L_law_1334 : decode cL_law 1334 = .ok (.iaload, 1) := by decide +kernel
theorem d_L_law_1335 : decode cL_law 1335 = .ok (.aload_n 0, 1) := by decide +kernel
theorem d_L_law_1336 : decode cL_law 1336 = .ok (.iload_n 3, 1) := by decide +kernel
theorem d_L_law_1337 : decode cL_law 1337 = .ok (.iconst 5, 1) := by decide +kernel
theorem d_L_law_1338 : decode cL_law 1338 = .ok (.iadd, 1) := by decide +kernel
theorem d_L_law_1339 : decode cL_law 1339 = .ok (.iaload, 1) := by decide +kernel
theorem d_L_law_1340 : decode cL_law 1340 = .ok (.invokevirtual 163, 3) := by decide +kernel
theorem d_L_law_1343 : decode cL_law 1343 = .ok (.if_icmp .eq 114, 3) := by decide +kernel
theorem d_L_law_1346 : decode cL_law 1346 = .ok (.iconst 0, 1) := by decide +kernel
theorem d_L_law_1347 : decode cL_law 1347 = .ok (.ireturn, 1) := by decide +kernel
theorem d_L_law_1348 : decode cL_law 1348 = .ok (.aload_n 1, 1) := by decide +kernel
theorem d_L_law_1349 : decode cL_law 1349 = .ok (.aload_n 0, 1) := by decide +kernel
theorem d_L_law_1350 : decode cL_law 1350 = .ok (.iload_n 3, 1) := by decide +kernel
theorem d_L_law_1351 : decode cL_law 1351 = .ok (.iconst 1, 1) := by decide +kernel
theorem d_L_law_1352 : decode cL_law 1352 = .ok (.iadd, 1) := by decide +kernel
theorem d_L_law_1353 : decode cL_law 1353 = .ok (.iaload, 1) := by decide +kernel
theorem d_L_law_1354 : decode cL_law 1354 = .ok (.invokevirtual 164, 3) := by decide +kernel
theorem d_L_law_1357 : decode cL_law 1357 = .ok (.aload_n 2, 1) := by decide +kernel
theorem d_L_law_1358 : decode cL_law 1358 = .ok (.aload_n 0, 1) := by decide +kernel
theorem d_L_law_1359 : decode cL_law 1359 = .ok (.iload_n 3, 1) := by decide +kernel
theorem d_L_law_1360 : decode cL_law 1360 = .ok (.iconst 1, 1) := by decide +kernel
theorem d_L_law_1361 : decode cL_law 1361 = .ok (.iadd, 1) := by decide +kernel
theorem d_L_law_1362 : decode cL_law 1362 = .ok (.iaload, 1) := by decide +kernel
theorem d_L_law_1363 : decode cL_law 1363 = .ok (.invokevirtual 167, 3) := by decide +kernel
theorem d_L_law_1366 : decode cL_law 1366 = .ok (.if_icmp .eq 91, 3) := by decide +kernel
theorem d_L_law_1369 : decode cL_law 1369 = .ok (.iconst 0, 1) := by decide +kernel
theorem d_L_law_1370 : decode cL_law 1370 = .ok (.ireturn, 1) := by decide +kernel
theorem d_L_law_1371 : decode cL_law 1371 = .ok (.aload_n 1, 1) := by decide +kernel
theorem d_L_law_1372 : decode cL_law 1372 = .ok (.aload_n 0, 1) := by decide +kernel
theorem d_L_law_1373 : decode cL_law 1373 = .ok (.iload_n 3, 1) := by decide +kernel
theorem d_L_law_1374 : decode cL_law 1374 = .ok (.iconst 1, 1) := by decide +kernel
theorem d_L_law_1375 : decode cL_law 1375 = .ok (.iadd, 1) := by decide +kernel
theorem d_L_law_1376 : decode cL_law 1376 = .ok (.iaload, 1) := by decide +kernel
theorem d_L_law_1377 : decode cL_law 1377 = .ok (.invokevirtual 168, 3) := by decide +kernel
theorem d_L_law_1380 : decode cL_law 1380 = .ok (.aload_n 2, 1) := by decide +kernel
theorem d_L_law_1381 : decode cL_law 1381 = .ok (.aload_n 0, 1) := by decide +kernel
theorem d_L_law_1382 : decode cL_law 1382 = .ok (.iload_n 3, 1) := by decide +kernel
theorem d_L_law_1383 : decode cL_law 1383 = .ok (.iconst 1, 1) := by decide +kernel
theorem d_L_law_1384 : decode cL_law 1384 = .ok (.iadd, 1) := by decide +kernel
theorem d_L_law_1385 : decode cL_law 1385 = .ok (.iaload, 1) := by decide +kernel
theorem d_L_law_1386 : decode cL_law 1386 = .ok (.invokevirtual 171, 3) := by decide +kernel
theorem d_L_law_1389 : decode cL_law 1389 = .ok (.lcmp, 1) := by decide +kernel
theorem d_L_law_1390 : decode cL_law 1390 = .ok (.ifCond .eq 67, 3) := by decide +kernel
theorem d_L_law_1393 : decode cL_law 1393 = .ok (.iconst 0, 1) := by decide +kernel
theorem d_L_law_1394 : decode cL_law 1394 = .ok (.ireturn, 1) := by decide +kernel
theorem d_L_law_1395 : decode cL_law 1395 = .ok (.aload_n 1, 1) := by decide +kernel
theorem d_L_law_1396 : decode cL_law 1396 = .ok (.aload_n 0, 1) := by decide +kernel
theorem d_L_law_1397 : decode cL_law 1397 = .ok (.iload_n 3, 1) := by decide +kernel
theorem d_L_law_1398 : decode cL_law 1398 = .ok (.iconst 1, 1) := by decide +kernel
theorem d_L_law_1399 : decode cL_law 1399 = .ok (.iadd, 1) := by decide +kernel
theorem d_L_law_1400 : decode cL_law 1400 = .ok (.iaload, 1) := by decide +kernel
theorem d_L_law_1401 : decode cL_law 1401 = .ok (.ifCond .eq 7, 3) := by decide +kernel
theorem d_L_law_1404 : decode cL_law 1404 = .ok (.iconst 1, 1) := by decide +kernel
theorem d_L_law_1405 : decode cL_law 1405 = .ok (.goto 4, 3) := by decide +kernel
theorem d_L_law_1408 : decode cL_law 1408 = .ok (.iconst 0, 1) := by decide +kernel
theorem d_L_law_1409 : decode cL_law 1409 = .ok (.invokevirtual 172, 3) := by decide +kernel
theorem d_L_law_1412 : decode cL_law 1412 = .ok (.aload_n 2, 1) := by decide +kernel
theorem d_L_law_1413 : decode cL_law 1413 = .ok (.aload_n 0, 1) := by decide +kernel
theorem d_L_law_1414 : decode cL_law 1414 = .ok (.iload_n 3, 1) := by decide +kernel
theorem d_L_law_1415 : decode cL_law 1415 = .ok (.iconst 1, 1) := by decide +kernel
theorem d_L_law_1416 : decode cL_law 1416 = .ok (.iadd, 1) := by decide +kernel
theorem d_L_law_1417 : decode cL_law 1417 = .ok (.iaload, 1) := by decide +kernel
theorem d_L_law_1418 : decode cL_law 1418 = .ok (.ifCond .eq 7, 3) := by decide +kernel
theorem d_L_law_1421 : decode cL_law 1421 = .ok (.iconst 1, 1) := by decide +kernel
theorem d_L_law_1422 : decode cL_law 1422 = .ok (.goto 4, 3) := by decide +kernel
theorem d_L_law_1425 : decode cL_law 1425 = .ok (.iconst 0, 1) := by decide +kernel
theorem d_L_law_1426 : decode cL_law 1426 = .ok (.invokevirtual 175, 3) := by decide +kernel
theorem d_L_law_1429 : decode cL_law 1429 = .ok (.if_icmp .eq 28, 3) := by decide +kernel
theorem d_L_law_1432 : decode cL_law 1432 = .ok (.iconst 0, 1) := by decide +kernel
theorem d_L_law_1433 : decode cL_law 1433 = .ok (.ireturn, 1) := by decide +kernel
theorem d_L_law_1434 : decode cL_law 1434 = .ok (.aload_n 1, 1) := by decide +kernel
theorem d_L_law_1435 : decode cL_law 1435 = .ok (.aload_n 0, 1) := by decide +kernel
theorem d_L_law_1436 : decode cL_law 1436 = .ok (.iload_n 3, 1) := by decide +kernel
theorem d_L_law_1437 : decode cL_law 1437 = .ok (.iconst 1, 1) := by decide +kernel
theorem d_L_law_1438 : decode cL_law 1438 = .ok (.iadd, 1) := by decide +kernel
theorem d_L_law_1439 : decode cL_law 1439 = .ok (.iaload, 1) := by decide +kernel
theorem d_L_law_1440 : decode cL_law 1440 = .ok (.invokevirtual 176, 3) := by decide +kernel
theorem d_L_law_1443 : decode cL_law 1443 = .ok (.aload_n 2, 1) := by decide +kernel
theorem d_L_law_1444 : decode cL_law 1444 = .ok (.aload_n 0, 1) := by decide +kernel
theorem d_L_law_1445 : decode cL_law 1445 = .ok (.iload_n 3, 1) := by decide +kernel
theorem d_L_law_1446 : decode cL_law 1446 = .ok (.iconst 1, 1) := by decide +kernel
theorem d_L_law_1447 : decode cL_law 1447 = .ok (.iadd, 1) := by decide +kernel
theorem d_L_law_1448 : decode cL_law 1448 = .ok (.iaload, 1) := by decide +kernel
theorem d_L_law_1449 : decode cL_law 1449 = .ok (.invokevirtual 179, 3) := by decide +kernel
theorem d_L_law_1452 : decode cL_law 1452 = .ok (.if_icmp .eq 5, 3) := by decide +kernel
theorem d_L_law_1455 : decode cL_law 1455 = .ok (.iconst 0, 1) := by decide +kernel
theorem d_L_law_1456 : decode cL_law 1456 = .ok (.ireturn, 1) := by decide +kernel
theorem d_L_law_1457 : decode cL_law 1457 = .ok (.iinc 3 6, 3) := by decide +kernel
theorem d_L_law_1460 : decode cL_law 1460 = .ok (.goto (-1442), 3) := by decide +kernel
theorem d_L_law_1463 : decode cL_law 1463 = .ok (.iconst 1, 1) := by decide +kernel
theorem d_L_law_1464 : decode cL_law 1464 = .ok (.ireturn, 1) := by decide +kernel
