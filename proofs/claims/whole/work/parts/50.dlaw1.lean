theorem d_LLL_law_0 : decode code 0 = .ok (.new 7, 3) := by decide +kernel
theorem d_LLL_law_3 : decode code 3 = .ok (.dup, 1) := by decide +kernel
theorem d_LLL_law_4 : decode code 4 = .ok (.invokespecial 9, 3) := by decide +kernel
theorem d_LLL_law_7 : decode code 7 = .ok (.astore_n 1, 1) := by decide +kernel
theorem d_LLL_law_8 : decode code 8 = .ok (.new 10, 3) := by decide +kernel
theorem d_LLL_law_11 : decode code 11 = .ok (.dup, 1) := by decide +kernel
theorem d_LLL_law_12 : decode code 12 = .ok (.invokespecial 12, 3) := by decide +kernel
theorem d_LLL_law_15 : decode code 15 = .ok (.astore_n 2, 1) := by decide +kernel
theorem d_LLL_law_16 : decode code 16 = .ok (.iconst 0, 1) := by decide +kernel
theorem d_LLL_law_17 : decode code 17 = .ok (.istore_n 3, 1) := by decide +kernel
theorem d_LLL_law_18 : decode code 18 = .ok (.iload_n 3, 1) := by decide +kernel
theorem d_LLL_law_19 : decode code 19 = .ok (.aload_n 0, 1) := by decide +kernel
theorem d_LLL_law_20 : decode code 20 = .ok (.arraylength, 1) := by decide +kernel
theorem d_LLL_law_21 : decode code 21 = .ok (.iconst 5, 1) := by decide +kernel
theorem d_LLL_law_22 : decode code 22 = .ok (.isub, 1) := by decide +kernel
theorem d_LLL_law_23 : decode code 23 = .ok (.if_icmp .gt 1152, 3) := by decide +kernel
theorem d_LLL_law_26 : decode code 26 = .ok (.aload_n 0, 1) := by decide +kernel
theorem d_LLL_law_27 : decode code 27 = .ok (.iload_n 3, 1) := by decide +kernel
theorem d_LLL_law_28 : decode code 28 = .ok (.iaload, 1) := by decide +kernel
theorem d_LLL_law_29 : decode code 29 = .ok (.bipush 63, 2) := by decide +kernel
theorem d_LLL_law_31 : decode code 31 = .ok (.iand, 1) := by decide +kernel
theorem d_LLL_law_32 : decode code 32 = .ok (.tableswitch 1137 0 34 #[156, 219, 232, 265, 288, 311, 354, 393, 426, 459, 492, 525, 548, 561, 584, 607, 630, 663, 696, 729, 762, 785, 818, 841, 864, 897, 910, 933, 986, 1009, 1032, 1055, 1088, 1101, 1114], 156) := by decide +kernel
theorem d_LLL_law_188 : decode code 188 = .ok (.aload_n 1, 1) := by decide +kernel
theorem d_LLL_law_189 : decode code 189 = .ok (.aload_n 0, 1) := by decide +kernel
theorem d_LLL_law_190 : decode code 190 = .ok (.iload_n 3, 1) := by decide +kernel
theorem d_LLL_law_191 : decode code 191 = .ok (.iconst 1, 1) := by decide +kernel
theorem d_LLL_law_192 : decode code 192 = .ok (.iadd, 1) := by decide +kernel
theorem d_LLL_law_193 : decode code 193 = .ok (.iaload, 1) := by decide +kernel
theorem d_LLL_law_194 : decode code 194 = .ok (.aload_n 0, 1) := by decide +kernel
theorem d_LLL_law_195 : decode code 195 = .ok (.iload_n 3, 1) := by decide +kernel
theorem d_LLL_law_196 : decode code 196 = .ok (.iconst 2, 1) := by decide +kernel
theorem d_LLL_law_197 : decode code 197 = .ok (.iadd, 1) := by decide +kernel
theorem d_LLL_law_198 : decode code 198 = .ok (.iaload, 1) := by decide +kernel
theorem d_LLL_law_199 : decode code 199 = .ok (.i2l, 1) := by decide +kernel
theorem d_LLL_law_200 : decode code 200 = .ok (.bipush 32, 2) := by decide +kernel
theorem d_LLL_law_202 : decode code 202 = .ok (.lshl, 1) := by decide +kernel
theorem d_LLL_law_203 : decode code 203 = .ok (.aload_n 0, 1) := by decide +kernel
theorem d_LLL_law_204 : decode code 204 = .ok (.iload_n 3, 1) := by decide +kernel
theorem d_LLL_law_205 : decode code 205 = .ok (.iconst 3, 1) := by decide +kernel
theorem d_LLL_law_206 : decode code 206 = .ok (.iadd, 1) := by decide +kernel
theorem d_LLL_law_207 : decode code 207 = .ok (.iaload, 1) := by decide +kernel
theorem d_LLL_law_208 : decode code 208 = .ok (.i2l, 1) := by decide +kernel
theorem d_LLL_law_209 : decode code 209 = .ok (.ldc2_w 13, 3) := by decide +kernel
theorem d_LLL_law_212 : decode code 212 = .ok (.land, 1) := by decide +kernel
theorem d_LLL_law_213 : decode code 213 = .ok (.lor, 1) := by decide +kernel
theorem d_LLL_law_214 : decode code 214 = .ok (.invokevirtual 15, 3) := by decide +kernel
theorem d_LLL_law_217 : decode code 217 = .ok (.aload_n 2, 1) := by decide +kernel
theorem d_LLL_law_218 : decode code 218 = .ok (.aload_n 0, 1) := by decide +kernel
theorem d_LLL_law_219 : decode code 219 = .ok (.iload_n 3, 1) := by decide +kernel
theorem d_LLL_law_220 : decode code 220 = .ok (.iconst 1, 1) := by decide +kernel
theorem d_LLL_law_221 : decode code 221 = .ok (.iadd, 1) := by decide +kernel
theorem d_LLL_law_222 : decode code 222 = .ok (.iaload, 1) := by decide +kernel
theorem d_LLL_law_223 : decode code 223 = .ok (.aload_n 0, 1) := by decide +kernel
theorem d_LLL_law_224 : decode code 224 = .ok (.iload_n 3, 1) := by decide +kernel
theorem d_LLL_law_225 : decode code 225 = .ok (.iconst 2, 1) := by decide +kernel
theorem d_LLL_law_226 : decode code 226 = .ok (.iadd, 1) := by decide +kernel
theorem d_LLL_law_227 : decode code 227 = .ok (.iaload, 1) := by decide +kernel
theorem d_LLL_law_228 : decode code 228 = .ok (.i2l, 1) := by decide +kernel
theorem d_LLL_law_229 : decode code 229 = .ok (.bipush 32, 2) := by decide +kernel
theorem d_LLL_law_231 : decode code 231 = .ok (.lshl, 1) := by decide +kernel
theorem d_LLL_law_232 : decode code 232 = .ok (.aload_n 0, 1) := by decide +kernel
theorem d_LLL_law_233 : decode code 233 = .ok (.iload_n 3, 1) := by decide +kernel
theorem d_LLL_law_234 : decode code 234 = .ok (.iconst 3, 1) := by decide +kernel
theorem d_LLL_law_235 : decode code 235 = .ok (.iadd, 1) := by decide +kernel
theorem d_LLL_law_236 : decode code 236 = .ok (.iaload, 1) := by decide +kernel
theorem d_LLL_law_237 : decode code 237 = .ok (.i2l, 1) := by decide +kernel
theorem d_LLL_law_238 : decode code 238 = .ok (.ldc2_w 13, 3) := by decide +kernel
theorem d_LLL_law_241 : decode code 241 = .ok (.land, 1) := by decide +kernel
theorem d_LLL_law_242 : decode code 242 = .ok (.lor, 1) := by decide +kernel
theorem d_LLL_law_243 : decode code 243 = .ok (.invokevirtual 19, 3) := by decide +kernel
theorem d_LLL_law_246 : decode code 246 = .ok (.if_icmp .eq 923, 3) := by decide +kernel
theorem d_LLL_law_249 : decode code 249 = .ok (.iconst 0, 1) := by decide +kernel
theorem d_LLL_law_250 : decode code 250 = .ok (.ireturn, 1) := by decide +kernel
theorem d_LLL_law_251 : decode code 251 = .ok (.aload_n 1, 1) := by decide +kernel
theorem d_LLL_law_252 : decode code 252 = .ok (.invokevirtual 20, 3) := by decide +kernel
theorem d_LLL_law_255 : decode code 255 = .ok (.aload_n 2, 1) := by decide +kernel
theorem d_LLL_law_256 : decode code 256 = .ok (.invokevirtual 24, 3) := by decide +kernel
theorem d_LLL_law_259 : decode code 259 = .ok (.if_icmp .eq 910, 3) := by decide +kernel
theorem d_LLL_law_262 : decode code 262 = .ok (.iconst 0, 1) := by decide +kernel
theorem d_LLL_law_263 : decode code 263 = .ok (.ireturn, 1) := by decide +kernel
theorem d_LLL_law_264 : decode code 264 = .ok (.aload_n 1, 1) := by decide +kernel
theorem d_LLL_law_265 : decode code 265 = .ok (.aload_n 0, 1) := by decide +kernel
theorem d_LLL_law_266 : decode code 266 = .ok (.iload_n 3, 1) := by decide +kernel
theorem d_LLL_law_267 : decode code 267 = .ok (.iconst 1, 1) := by decide +kernel
theorem d_LLL_law_268 : decode code 268 = .ok (.iadd, 1) := by decide +kernel
theorem d_LLL_law_269 : decode code 269 = .ok (.iaload, 1) := by decide +kernel
theorem d_LLL_law_270 : decode code 270 = .ok (.aload_n 0, 1) := by decide +kernel
theorem d_LLL_law_271 : decode code 271 = .ok (.iload_n 3, 1) := by decide +kernel
theorem d_LLL_law_272 : decode code 272 = .ok (.iconst 2, 1) := by decide +kernel
theorem d_LLL_law_273 : decode code 273 = .ok (.iadd, 1) := by decide +kernel
theorem d_LLL_law_274 : decode code 274 = .ok (.iaload, 1) := by decide +kernel
theorem d_LLL_law_275 : decode code 275 = .ok (.invokevirtual 25, 3) := by decide +kernel
theorem d_LLL_law_278 : decode code 278 = .ok (.aload_n 2, 1) := by decide +kernel
theorem d_LLL_law_279 : decode code 279 = .ok (.aload_n 0, 1) := by decide +kernel
theorem d_LLL_law_280 : decode code 280 = .ok (.iload_n 3, 1) := by decide +kernel
theorem d_LLL_law_281 : decode code 281 = .ok (.iconst 1, 1) := by decide +kernel
theorem d_LLL_law_282 : decode code 282 = .ok (.iadd, 1) := by decide +kernel
theorem d_LLL_law_283 : decode code 283 = .ok (.iaload, 1) := by decide +kernel
theorem d_LLL_law_284 : decode code 284 = .ok (.aload_n 0, 1) := by decide +kernel
theorem d_LLL_law_285 : decode code 285 = .ok (.iload_n 3, 1) := by decide +kernel
theorem d_LLL_law_286 : decode code 286 = .ok (.iconst 2, 1) := by decide +kernel
theorem d_LLL_law_287 : decode code 287 = .ok (.iadd, 1) := by decide +kernel
theorem d_LLL_law_288 : decode code 288 = .ok (.iaload, 1) := by decide +kernel
theorem d_LLL_law_289 : decode code 289 = .ok (.invokevirtual 29, 3) := by decide +kernel
theorem d_LLL_law_292 : decode code 292 = .ok (.if_icmp .eq 877, 3) := by decide +kernel
theorem d_LLL_law_295 : decode code 295 = .ok (.iconst 0, 1) := by decide +kernel
theorem d_LLL_law_296 : decode code 296 = .ok (.ireturn, 1) := by decide +kernel
theorem d_LLL_law_297 : decode code 297 = .ok (.aload_n 1, 1) := by decide +kernel
theorem d_LLL_law_298 : decode code 298 = .ok (.aload_n 0, 1) := by decide +kernel
theorem d_LLL_law_299 : decode code 299 = .ok (.iload_n 3, 1) := by decide +kernel
theorem d_LLL_law_300 : decode code 300 = .ok (.iconst 1, 1) := by decide +kernel
theorem d_LLL_law_301 : decode code 301 = .ok (.iadd, 1) := by decide +kernel
theorem d_LLL_law_302 : decode code 302 = .ok (.iaload, 1) := by decide +kernel
theorem d_LLL_law_303 : decode code 303 = .ok (.invokevirtual 30, 3) := by decide +kernel
theorem d_LLL_law_306 : decode code 306 = .ok (.aload_n 2, 1) := by decide +kernel
theorem d_LLL_law_307 : decode code 307 = .ok (.aload_n 0, 1) := by decide +kernel
theorem d_LLL_law_308 : decode code 308 = .ok (.iload_n 3, 1) := by decide +kernel
theorem d_LLL_law_309 : decode code 309 = .ok (.iconst 1, 1) := by decide +kernel
theorem d_LLL_law_310 : decode code 310 = .ok (.iadd, 1) := by decide +kernel
theorem d_LLL_law_311 : decode code 311 = .ok (.iaload, 1) := by decide +kernel
theorem d_LLL_law_312 : decode code 312 = .ok (.invokevirtual 34, 3) := by decide +kernel
theorem d_LLL_law_315 : decode code 315 = .ok (.if_icmp .eq 854, 3) := by decide +kernel
theorem d_LLL_law_318 : decode code 318 = .ok (.iconst 0, 1) := by decide +kernel
theorem d_LLL_law_319 : decode code 319 = .ok (.ireturn, 1) := by decide +kernel
theorem d_LLL_law_320 : decode code 320 = .ok (.aload_n 1, 1) := by decide +kernel
theorem d_LLL_law_321 : decode code 321 = .ok (.aload_n 0, 1) := by decide +kernel
theorem d_LLL_law_322 : decode code 322 = .ok (.iload_n 3, 1) := by decide +kernel
theorem d_LLL_law_323 : decode code 323 = .ok (.iconst 1, 1) := by decide +kernel
theorem d_LLL_law_324 : decode code 324 = .ok (.iadd, 1) := by decide +kernel
theorem d_LLL_law_325 : decode code 325 = .ok (.iaload, 1) := by decide +kernel
theorem d_LLL_law_326 : decode code 326 = .ok (.invokevirtual 35, 3) := by decide +kernel
theorem d_LLL_law_329 : decode code 329 = .ok (.aload_n 2, 1) := by decide +kernel
theorem d_LLL_law_330 : decode code 330 = .ok (.aload_n 0, 1) := by decide +kernel
theorem d_LLL_law_331 : decode code 331 = .ok (.iload_n 3, 1) := by decide +kernel
theorem d_LLL_law_332 : decode code 332 = .ok (.iconst 1, 1) := by decide +kernel
theorem d_LLL_law_333 : decode code 333 = .ok (.iadd, 1) := by decide +kernel
theorem d_LLL_law_334 : decode code 334 = .ok (.iaload, 1) := by decide +kernel
theorem d_LLL_law_335 : decode code 335 = .ok (.invokevirtual 38, 3) := by decide +kernel
theorem d_LLL_law_338 : decode code 338 = .ok (.if_icmp .eq 831, 3) := by decide +kernel
theorem d_LLL_law_341 : decode code 341 = .ok (.iconst 0, 1) := by decide +kernel
theorem d_LLL_law_342 : decode code 342 = .ok (.ireturn, 1) := by decide +kernel
theorem d_LLL_law_343 : decode code 343 = .ok (.aload_n 1, 1) := by decide +kernel
theorem d_LLL_law_344 : decode code 344 = .ok (.aload_n 0, 1) := by decide +kernel
theorem d_LLL_law_345 : decode code 345 = .ok (.iload_n 3, 1) := by decide +kernel
theorem d_LLL_law_346 : decode code 346 = .ok (.iconst 1, 1) := by decide +kernel
theorem d_LLL_law_347 : decode code 347 = .ok (.iadd, 1) := by decide +kernel
theorem d_LLL_law_348 : decode code 348 = .ok (.iaload, 1) := by decide +kernel
theorem d_LLL_law_349 : decode code 349 = .ok (.aload_n 0, 1) := by decide +kernel
theorem d_LLL_law_350 : decode code 350 = .ok (.iload_n 3, 1) := by decide +kernel
theorem d_LLL_law_351 : decode code 351 = .ok (.iconst 2, 1) := by decide +kernel
theorem d_LLL_law_352 : decode code 352 = .ok (.iadd, 1) := by decide +kernel
theorem d_LLL_law_353 : decode code 353 = .ok (.iaload, 1) := by decide +kernel
theorem d_LLL_law_354 : decode code 354 = .ok (.aload_n 0, 1) := by decide +kernel
theorem d_LLL_law_355 : decode code 355 = .ok (.iload_n 3, 1) := by decide +kernel
theorem d_LLL_law_356 : decode code 356 = .ok (.iconst 3, 1) := by decide +kernel
theorem d_LLL_law_357 : decode code 357 = .ok (.iadd, 1) := by decide +kernel
theorem d_LLL_law_358 : decode code 358 = .ok (.iaload, 1) := by decide +kernel
theorem d_LLL_law_359 : decode code 359 = .ok (.invokevirtual 39, 3) := by decide +kernel
theorem d_LLL_law_362 : decode code 362 = .ok (.aload_n 2, 1) := by decide +kernel
theorem d_LLL_law_363 : decode code 363 = .ok (.aload_n 0, 1) := by decide +kernel
theorem d_LLL_law_364 : decode code 364 = .ok (.iload_n 3, 1) := by decide +kernel
theorem d_LLL_law_365 : decode code 365 = .ok (.iconst 1, 1) := by decide +kernel
theorem d_LLL_law_366 : decode code 366 = .ok (.iadd, 1) := by decide +kernel
theorem d_LLL_law_367 : decode code 367 = .ok (.iaload, 1) := by decide +kernel
theorem d_LLL_law_368 : decode code 368 = .ok (.aload_n 0, 1) := by decide +kernel
theorem d_LLL_law_369 : decode code 369 = .ok (.iload_n 3, 1) := by decide +kernel
theorem d_LLL_law_370 : decode code 370 = .ok (.iconst 2, 1) := by decide +kernel
theorem d_LLL_law_371 : decode code 371 = .ok (.iadd, 1) := by decide +kernel
theorem d_LLL_law_372 : decode code 372 = .ok (.iaload, 1) := by decide +kernel
theorem d_LLL_law_373 : decode code 373 = .ok (.aload_n 0, 1) := by decide +kernel
theorem d_LLL_law_374 : decode code 374 = .ok (.iload_n 3, 1) := by decide +kernel
theorem d_LLL_law_375 : decode code 375 = .ok (.iconst 3, 1) := by decide +kernel
theorem d_LLL_law_376 : decode code 376 = .ok (.iadd, 1) := by decide +kernel
theorem d_LLL_law_377 : decode code 377 = .ok (.iaload, 1) := by decide +kernel
theorem d_LLL_law_378 : decode code 378 = .ok (.invokevirtual 43, 3) := by decide +kernel
theorem d_LLL_law_381 : decode code 381 = .ok (.if_icmp .eq 788, 3) := by decide +kernel
theorem d_LLL_law_384 : decode code 384 = .ok (.iconst 0, 1) := by decide +kernel
theorem d_LLL_law_385 : decode code 385 = .ok (.ireturn, 1) := by decide +kernel
theorem d_LLL_law_386 : decode code 386 = .ok (.aload_n 1, 1) := by decide +kernel
theorem d_LLL_law_387 : decode code 387 = .ok (.aload_n 0, 1) := by decide +kernel
theorem d_LLL_law_388 : decode code 388 = .ok (.iload_n 3, 1) := by decide +kernel
theorem d_LLL_law_389 : decode code 389 = .ok (.iconst 1, 1) := by decide +kernel
theorem d_LLL_law_390 : decode code 390 = .ok (.iadd, 1) := by decide +kernel
theorem d_LLL_law_391 : decode code 391 = .ok (.iaload, 1) := by decide +kernel
theorem d_LLL_law_392 : decode code 392 = .ok (.ifCond .eq 7, 3) := by decide +kernel
theorem d_LLL_law_395 : decode code 395 = .ok (.iconst 1, 1) := by decide +kernel
theorem d_LLL_law_396 : decode code 396 = .ok (.goto 4, 3) := by decide +kernel
theorem d_LLL_law_399 : decode code 399 = .ok (.iconst 0, 1) := by decide +kernel
theorem d_LLL_law_400 : decode code 400 = .ok (.invokevirtual 44, 3) := by decide +kernel
theorem d_LLL_law_403 : decode code 403 = .ok (.aload_n 2, 1) := by decide +kernel
theorem d_LLL_law_404 : decode code 404 = .ok (.aload_n 0, 1) := by decide +kernel
theorem d_LLL_law_405 : decode code 405 = .ok (.iload_n 3, 1) := by decide +kernel
theorem d_LLL_law_406 : decode code 406 = .ok (.iconst 1, 1) := by decide +kernel
theorem d_LLL_law_407 : decode code 407 = .ok (.iadd, 1) := by decide +kernel
theorem d_LLL_law_408 : decode code 408 = .ok (.iaload, 1) := by decide +kernel
theorem d_LLL_law_409 : decode code 409 = .ok (.ifCond .eq 7, 3) := by decide +kernel
theorem d_LLL_law_412 : decode code 412 = .ok (.iconst 1, 1) := by decide +kernel
theorem d_LLL_law_413 : decode code 413 = .ok (.goto 4, 3) := by decide +kernel
theorem d_LLL_law_416 : decode code 416 = .ok (.iconst 0, 1) := by decide +kernel
theorem d_LLL_law_417 : decode code 417 = .ok (.invokevirtual 48, 3) := by decide +kernel
theorem d_LLL_law_420 : decode code 420 = .ok (.if_icmp .eq 749, 3) := by decide +kernel
theorem d_LLL_law_423 : decode code 423 = .ok (.iconst 0, 1) := by decide +kernel
theorem d_LLL_law_424 : decode code 424 = .ok (.ireturn, 1) := by decide +kernel
theorem d_LLL_law_425 : decode code 425 = .ok (.aload_n 1, 1) := by decide +kernel
theorem d_LLL_law_426 : decode code 426 = .ok (.aload_n 0, 1) := by decide +kernel
theorem d_LLL_law_427 : decode code 427 = .ok (.iload_n 3, 1) := by decide +kernel
theorem d_LLL_law_428 : decode code 428 = .ok (.iconst 1, 1) := by decide +kernel
theorem d_LLL_law_429 : decode code 429 = .ok (.iadd, 1) := by decide +kernel
theorem d_LLL_law_430 : decode code 430 = .ok (.iaload, 1) := by decide +kernel
theorem d_LLL_law_431 : decode code 431 = .ok (.aload_n 0, 1) := by decide +kernel
theorem d_LLL_law_432 : decode code 432 = .ok (.iload_n 3, 1) := by decide +kernel
theorem d_LLL_law_433 : decode code 433 = .ok (.iconst 2, 1) := by decide +kernel
theorem d_LLL_law_434 : decode code 434 = .ok (.iadd, 1) := by decide +kernel
theorem d_LLL_law_435 : decode code 435 = .ok (.iaload, 1) := by decide +kernel
theorem d_LLL_law_436 : decode code 436 = .ok (.invokevirtual 49, 3) := by decide +kernel
theorem d_LLL_law_439 : decode code 439 = .ok (.aload_n 2, 1) := by decide +kernel
theorem d_LLL_law_440 : decode code 440 = .ok (.aload_n 0, 1) := by decide +kernel
theorem d_LLL_law_441 : decode code 441 = .ok (.iload_n 3, 1) := by decide +kernel
theorem d_LLL_law_442 : decode code 442 = .ok (.iconst 1, 1) := by decide +kernel
theorem d_LLL_law_443 : decode code 443 = .ok (.iadd, 1) := by decide +kernel
theorem d_LLL_law_444 : decode code 444 = .ok (.iaload, 1) := by decide +kernel
theorem d_LLL_law_445 : decode code 445 = .ok (.aload_n 0, 1) := by decide +kernel
theorem d_LLL_law_446 : decode code 446 = .ok (.iload_n 3, 1) := by decide +kernel
theorem d_LLL_law_447 : decode code 447 = .ok (.iconst 2, 1) := by decide +kernel
theorem d_LLL_law_448 : decode code 448 = .ok (.iadd, 1) := by decide +kernel
theorem d_LLL_law_449 : decode code 449 = .ok (.iaload, 1) := by decide +kernel
theorem d_LLL_law_450 : decode code 450 = .ok (.invokevirtual 52, 3) := by decide +kernel
theorem d_LLL_law_453 : decode code 453 = .ok (.if_icmp .eq 716, 3) := by decide +kernel
theorem d_LLL_law_456 : decode code 456 = .ok (.iconst 0, 1) := by decide +kernel
theorem d_LLL_law_457 : decode code 457 = .ok (.ireturn, 1) := by decide +kernel
theorem d_LLL_law_458 : decode code 458 = .ok (.aload_n 1, 1) := by decide +kernel
theorem d_LLL_law_459 : decode code 459 = .ok (.aload_n 0, 1) := by decide +kernel
theorem d_LLL_law_460 : decode code 460 = .ok (.iload_n 3, 1) := by decide +kernel
theorem d_LLL_law_461 : decode code 461 = .ok (.iconst 1, 1) := by decide +kernel
theorem d_LLL_law_462 : decode code 462 = .ok (.iadd, 1) := by decide +kernel
theorem d_LLL_law_463 : decode code 463 = .ok (.iaload, 1) := by decide +kernel
theorem d_LLL_law_464 : decode code 464 = .ok (.aload_n 0, 1) := by decide +kernel
theorem d_LLL_law_465 : decode code 465 = .ok (.iload_n 3, 1) := by decide +kernel
theorem d_LLL_law_466 : decode code 466 = .ok (.iconst 2, 1) := by decide +kernel
theorem d_LLL_law_467 : decode code 467 = .ok (.iadd, 1) := by decide +kernel
theorem d_LLL_law_468 : decode code 468 = .ok (.iaload, 1) := by decide +kernel
theorem d_LLL_law_469 : decode code 469 = .ok (.invokevirtual 53, 3) := by decide +kernel
theorem d_LLL_law_472 : decode code 472 = .ok (.aload_n 2, 1) := by decide +kernel
theorem d_LLL_law_473 : decode code 473 = .ok (.aload_n 0, 1) := by decide +kernel
theorem d_LLL_law_474 : decode code 474 = .ok (.iload_n 3, 1) := by decide +kernel
theorem d_LLL_law_475 : decode code 475 = .ok (.iconst 1, 1) := by decide +kernel
theorem d_LLL_law_476 : decode code 476 = .ok (.iadd, 1) := by decide +kernel
theorem d_LLL_law_477 : decode code 477 = .ok (.iaload, 1) := by decide +kernel
theorem d_LLL_law_478 : decode code 478 = .ok (.aload_n 0, 1) := by decide +kernel
theorem d_LLL_law_479 : decode code 479 = .ok (.iload_n 3, 1) := by decide +kernel
theorem d_LLL_law_480 : decode code 480 = .ok (.iconst 2, 1) := by decide +kernel
theorem d_LLL_law_481 : decode code 481 = .ok (.iadd, 1) := by decide +kernel
theorem d_LLL_law_482 : decode code 482 = .ok (.iaload, 1) := by decide +kernel
theorem d_LLL_law_483 : decode code 483 = .ok (.invokevirtual 56, 3) := by decide +kernel
theorem d_LLL_law_486 : decode code 486 = .ok (.if_icmp .eq 683, 3) := by decide +kernel
theorem d_LLL_law_489 : decode code 489 = .ok (.iconst 0, 1) := by decide +kernel
theorem d_LLL_law_490 : decode code 490 = .ok (.ireturn, 1) := by decide +kernel
theorem d_LLL_law_491 : decode code 491 = .ok (.aload_n 1, 1) := by decide +kernel
theorem d_LLL_law_492 : decode code 492 = .ok (.aload_n 0, 1) := by decide +kernel
theorem d_LLL_law_493 : decode code 493 = .ok (.iload_n 3, 1) := by decide +kernel
theorem d_LLL_law_494 : decode code 494 = .ok (.iconst 1, 1) := by decide +kernel
theorem d_LLL_law_495 : decode code 495 = .ok (.iadd, 1) := by decide +kernel
theorem d_LLL_law_496 : decode code 496 = .ok (.iaload, 1) := by decide +kernel
theorem d_LLL_law_497 : decode code 497 = .ok (.aload_n 0, 1) := by decide +kernel
theorem d_LLL_law_498 : decode code 498 = .ok (.iload_n 3, 1) := by decide +kernel
theorem d_LLL_law_499 : decode code 499 = .ok (.iconst 2, 1) := by decide +kernel
theorem d_LLL_law_500 : decode code 500 = .ok (.iadd, 1) := by decide +kernel
theorem d_LLL_law_501 : decode code 501 = .ok (.iaload, 1) := by decide +kernel
theorem d_LLL_law_502 : decode code 502 = .ok (.invokevirtual 57, 3) := by decide +kernel
theorem d_LLL_law_505 : decode code 505 = .ok (.aload_n 2, 1) := by decide +kernel
theorem d_LLL_law_506 : decode code 506 = .ok (.aload_n 0, 1) := by decide +kernel
theorem d_LLL_law_507 : decode code 507 = .ok (.iload_n 3, 1) := by decide +kernel
theorem d_LLL_law_508 : decode code 508 = .ok (.iconst 1, 1) := by decide +kernel
theorem d_LLL_law_509 : decode code 509 = .ok (.iadd, 1) := by decide +kernel
theorem d_LLL_law_510 : decode code 510 = .ok (.iaload, 1) := by decide +kernel
theorem d_LLL_law_511 : decode code 511 = .ok (.aload_n 0, 1) := by decide +kernel
theorem d_LLL_law_512 : decode code 512 = .ok (.iload_n 3, 1) := by decide +kernel
theorem d_LLL_law_513 : decode code 513 = .ok (.iconst 2, 1) := by decide +kernel
theorem d_LLL_law_514 : decode code 514 = .ok (.iadd, 1) := by decide +kernel
theorem d_LLL_law_515 : decode code 515 = .ok (.iaload, 1) := by decide +kernel
theorem d_LLL_law_516 : decode code 516 = .ok (.invokevirtual 60, 3) := by decide +kernel
theorem d_LLL_law_519 : decode code 519 = .ok (.if_icmp .eq 650, 3) := by decide +kernel
theorem d_LLL_law_522 : decode code 522 = .ok (.iconst 0, 1) := by decide +kernel
theorem d_LLL_law_523 : decode code 523 = .ok (.ireturn, 1) := by decide +kernel
theorem d_LLL_law_524 : decode code 524 = .ok (.aload_n 1, 1) := by decide +kernel
theorem d_LLL_law_525 : decode code 525 = .ok (.aload_n 0, 1) := by decide +kernel
theorem d_LLL_law_526 : decode code 526 = .ok (.iload_n 3, 1) := by decide +kernel
theorem d_LLL_law_527 : decode code 527 = .ok (.iconst 1, 1) := by decide +kernel
theorem d_LLL_law_528 : decode code 528 = .ok (.iadd, 1) := by decide +kernel
theorem d_LLL_law_529 : decode code 529 = .ok (.iaload, 1) := by decide +kernel
theorem d_LLL_law_530 : decode code 530 = .ok (.aload_n 0, 1) := by decide +kernel
theorem d_LLL_law_531 : decode code 531 = .ok (.iload_n 3, 1) := by decide +kernel
theorem d_LLL_law_532 : decode code 532 = .ok (.iconst 2, 1) := by decide +kernel
theorem d_LLL_law_533 : decode code 533 = .ok (.iadd, 1) := by decide +kernel
theorem d_LLL_law_534 : decode code 534 = .ok (.iaload, 1) := by decide +kernel
theorem d_LLL_law_535 : decode code 535 = .ok (.invokevirtual 61, 3) := by decide +kernel
theorem d_LLL_law_538 : decode code 538 = .ok (.aload_n 2, 1) := by decide +kernel
theorem d_LLL_law_539 : decode code 539 = .ok (.aload_n 0, 1) := by decide +kernel
theorem d_LLL_law_540 : decode code 540 = .ok (.iload_n 3, 1) := by decide +kernel
theorem d_LLL_law_541 : decode code 541 = .ok (.iconst 1, 1) := by decide +kernel
theorem d_LLL_law_542 : decode code 542 = .ok (.iadd, 1) := by decide +kernel
theorem d_LLL_law_543 : decode code 543 = .ok (.iaload, 1) := by decide +kernel
theorem d_LLL_law_544 : decode code 544 = .ok (.aload_n 0, 1) := by decide +kernel
theorem d_LLL_law_545 : decode code 545 = .ok (.iload_n 3, 1) := by decide +kernel
theorem d_LLL_law_546 : decode code 546 = .ok (.iconst 2, 1) := by decide +kernel
theorem d_LLL_law_547 : decode code 547 = .ok (.iadd, 1) := by decide +kernel
theorem d_LLL_law_548 : decode code 548 = .ok (.iaload, 1) := by decide +kernel
theorem d_LLL_law_549 : decode code 549 = .ok (.invokevirtual 64, 3) := by decide +kernel
theorem d_LLL_law_552 : decode code 552 = .ok (.if_icmp .eq 617, 3) := by decide +kernel
theorem d_LLL_law_555 : decode code 555 = .ok (.iconst 0, 1) := by decide +kernel
theorem d_LLL_law_556 : decode code 556 = .ok (.ireturn, 1) := by decide +kernel
theorem d_LLL_law_557 : decode code 557 = .ok (.aload_n 1, 1) := by decide +kernel
theorem d_LLL_law_558 : decode code 558 = .ok (.aload_n 0, 1) := by decide +kernel
theorem d_LLL_law_559 : decode code 559 = .ok (.iload_n 3, 1) := by decide +kernel
theorem d_LLL_law_560 : decode code 560 = .ok (.iconst 1, 1) := by decide +kernel
theorem d_LLL_law_561 : decode code 561 = .ok (.iadd, 1) := by decide +kernel
theorem d_LLL_law_562 : decode code 562 = .ok (.iaload, 1) := by decide +kernel
theorem d_LLL_law_563 : decode code 563 = .ok (.invokevirtual 65, 3) := by decide +kernel
theorem d_LLL_law_566 : decode code 566 = .ok (.aload_n 2, 1) := by decide +kernel
theorem d_LLL_law_567 : decode code 567 = .ok (.aload_n 0, 1) := by decide +kernel
theorem d_LLL_law_568 : decode code 568 = .ok (.iload_n 3, 1) := by decide +kernel
theorem d_LLL_law_569 : decode code 569 = .ok (.iconst 1, 1) := by decide +kernel
theorem d_LLL_law_570 : decode code 570 = .ok (.iadd, 1) := by decide +kernel
theorem d_LLL_law_571 : decode code 571 = .ok (.iaload, 1) := by decide +kernel
theorem d_LLL_law_572 : decode code 572 = .ok (.invokevirtual 68, 3) := by decide +kernel
theorem d_LLL_law_575 : decode code 575 = .ok (.if_icmp .eq 594, 3) := by decide +kernel
theorem d_LLL_law_578 : decode code 578 = .ok (.iconst 0, 1) := by decide +kernel
theorem d_LLL_law_579 : decode code 579 = .ok (.ireturn, 1) := by decide +kernel
theorem d_LLL_law_580 : decode code 580 = .ok (.aload_n 1, 1) := by decide +kernel
theorem d_LLL_law_581 : decode code 581 = .ok (.invokevirtual 69, 3) := by decide +kernel
theorem d_LLL_law_584 : decode code 584 = .ok (.aload_n 2, 1) := by decide +kernel
theorem d_LLL_law_585 : decode code 585 = .ok (.invokevirtual 72, 3) := by decide +kernel
theorem d_LLL_law_588 : decode code 588 = .ok (.if_icmp .eq 581, 3) := by decide +kernel
theorem d_LLL_law_591 : decode code 591 = .ok (.iconst 0, 1) := by decide +kernel
theorem d_LLL_law_592 : decode code 592 = .ok (.ireturn, 1) := by decide +kernel
theorem d_LLL_law_593 : decode code 593 = .ok (.aload_n 1, 1) := by decide +kernel
theorem d_LLL_law_594 : decode code 594 = .ok (.aload_n 0, 1) := by decide +kernel
theorem d_LLL_law_595 : decode code 595 = .ok (.iload_n 3, 1) := by decide +kernel
theorem d_LLL_law_596 : decode code 596 = .ok (.iconst 1, 1) := by decide +kernel
theorem d_LLL_law_597 : decode code 597 = .ok (.iadd, 1) := by decide +kernel
theorem d_LLL_law_598 : decode code 598 = .ok (.iaload, 1) := by decide +kernel
theorem d_LLL_law_599 : decode code 599 = .ok (.invokevirtual 73, 3) := by decide +kernel
theorem d_LLL_law_602 : decode code 602 = .ok (.aload_n 2, 1) := by decide +kernel
theorem d_LLL_law_603 : decode code 603 = .ok (.aload_n 0, 1) := by decide +kernel
theorem d_LLL_law_604 : decode code 604 = .ok (.iload_n 3, 1) := by decide +kernel
theorem d_LLL_law_605 : decode code 605 = .ok (.iconst 1, 1) := by decide +kernel
theorem d_LLL_law_606 : decode code 606 = .ok (.iadd, 1) := by decide +kernel
theorem d_LLL_law_607 : decode code 607 = .ok (.iaload, 1) := by decide +kernel
theorem d_LLL_law_608 : decode code 608 = .ok (.invokevirtual 76, 3) := by decide +kernel
theorem d_LLL_law_611 : decode code 611 = .ok (.if_icmp .eq 558, 3) := by decide +kernel
theorem d_LLL_law_614 : decode code 614 = .ok (.iconst 0, 1) := by decide +kernel
theorem d_LLL_law_615 : decode code 615 = .ok (.ireturn, 1) := by decide +kernel
theorem d_LLL_law_616 : decode code 616 = .ok (.aload_n 1, 1) := by decide +kernel
theorem d_LLL_law_617 : decode code 617 = .ok (.aload_n 0, 1) := by decide +kernel
theorem d_LLL_law_618 : decode code 618 = .ok (.iload_n 3, 1) := by decide +kernel
theorem d_LLL_law_619 : decode code 619 = .ok (.iconst 1, 1) := by decide +kernel
theorem d_LLL_law_620 : decode code 620 = .ok (.iadd, 1) := by decide +kernel
theorem d_LLL_law_621 : decode code 621 = .ok (.iaload, 1) := by decide +kernel
theorem d_LLL_law_622 : decode code 622 = .ok (.invokevirtual 77, 3) := by decide +kernel
theorem d_LLL_law_625 : decode code 625 = .ok (.aload_n 2, 1) := by decide +kernel
theorem d_LLL_law_626 : decode code 626 = .ok (.aload_n 0, 1) := by decide +kernel
theorem d_LLL_law_627 : decode code 627 = .ok (.iload_n 3, 1) := by decide +kernel
theorem d_LLL_law_628 : decode code 628 = .ok (.iconst 1, 1) := by decide +kernel
theorem d_LLL_law_629 : decode code 629 = .ok (.iadd, 1) := by decide +kernel
theorem d_LLL_law_630 : decode code 630 = .ok (.iaload, 1) := by decide +kernel
theorem d_LLL_law_631 : decode code 631 = .ok (.invokevirtual 80, 3) := by decide +kernel
theorem d_LLL_law_634 : decode code 634 = .ok (.if_icmp .eq 535, 3) := by decide +kernel
theorem d_LLL_law_637 : decode code 637 = .ok (.iconst 0, 1) := by decide +kernel
theorem d_LLL_law_638 : decode code 638 = .ok (.ireturn, 1) := by decide +kernel
theorem d_LLL_law_639 : decode code 639 = .ok (.aload_n 1, 1) := by decide +kernel
theorem d_LLL_law_640 : decode code 640 = .ok (.aload_n 0, 1) := by decide +kernel
theorem d_LLL_law_641 : decode code 641 = .ok (.iload_n 3, 1) := by decide +kernel
theorem d_LLL_law_642 : decode code 642 = .ok (.iconst 1, 1) := by decide +kernel
theorem d_LLL_law_643 : decode code 643 = .ok (.iadd, 1) := by decide +kernel
theorem d_LLL_law_644 : decode code 644 = .ok (.iaload, 1) := by decide +kernel
theorem d_LLL_law_645 : decode code 645 = .ok (.invokevirtual 81, 3) := by decide +kernel
theorem d_LLL_law_648 : decode code 648 = .ok (.aload_n 2, 1) := by decide +kernel
theorem d_LLL_law_649 : decode code 649 = .ok (.aload_n 0, 1) := by decide +kernel
theorem d_LLL_law_650 : decode code 650 = .ok (.iload_n 3, 1) := by decide +kernel
theorem d_LLL_law_651 : decode code 651 = .ok (.iconst 1, 1) := by decide +kernel
theorem d_LLL_law_652 : decode code 652 = .ok (.iadd, 1) := by decide +kernel
theorem d_LLL_law_653 : decode code 653 = .ok (.iaload, 1) := by decide +kernel
theorem d_LLL_law_654 : decode code 654 = .ok (.invokevirtual 84, 3) := by decide +kernel
theorem d_LLL_law_657 : decode code 657 = .ok (.if_icmp .eq 512, 3) := by decide +kernel
theorem d_LLL_law_660 : decode code 660 = .ok (.iconst 0, 1) := by decide +kernel
theorem d_LLL_law_661 : decode code 661 = .ok (.ireturn, 1) := by decide +kernel
theorem d_LLL_law_662 : decode code 662 = .ok (.aload_n 1, 1) := by decide +kernel
theorem d_LLL_law_663 : decode code 663 = .ok (.aload_n 0, 1) := by decide +kernel
theorem d_LLL_law_664 : decode code 664 = .ok (.iload_n 3, 1) := by decide +kernel
theorem d_LLL_law_665 : decode code 665 = .ok (.iconst 1, 1) := by decide +kernel
theorem d_LLL_law_666 : decode code 666 = .ok (.iadd, 1) := by decide +kernel
