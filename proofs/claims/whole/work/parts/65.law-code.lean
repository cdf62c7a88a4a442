/-! the law read -/
theorem dL_0 : decode code 0 = .ok (.new 7, 3) := by decide +kernel
theorem dL_3 : decode code 3 = .ok (.dup, 1) := by decide +kernel
theorem dL_4 : decode code 4 = .ok (.invokespecial 9, 3) := by decide +kernel
theorem dL_7 : decode code 7 = .ok (.astore_n 1, 1) := by decide +kernel
theorem dL_8 : decode code 8 = .ok (.new 10, 3) := by decide +kernel
theorem dL_11 : decode code 11 = .ok (.dup, 1) := by decide +kernel
theorem dL_12 : decode code 12 = .ok (.invokespecial 12, 3) := by decide +kernel
theorem dL_15 : decode code 15 = .ok (.astore_n 2, 1) := by decide +kernel
theorem dL_16 : decode code 16 = .ok (.iconst 0, 1) := by decide +kernel
theorem dL_17 : decode code 17 = .ok (.istore_n 3, 1) := by decide +kernel
theorem dL_18 : decode code 18 = .ok (.iload_n 3, 1) := by decide +kernel
theorem dL_19 : decode code 19 = .ok (.aload_n 0, 1) := by decide +kernel
theorem dL_20 : decode code 20 = .ok (.arraylength, 1) := by decide +kernel
theorem dL_21 : decode code 21 = .ok (.bipush 6, 2) := by decide +kernel
theorem dL_23 : decode code 23 = .ok (.isub, 1) := by decide +kernel
theorem dL_24 : decode code 24 = .ok (.if_icmp .gt 1236, 3) := by decide +kernel
theorem dL_27 : decode code 27 = .ok (.aload_n 0, 1) := by decide +kernel
theorem dL_28 : decode code 28 = .ok (.iload_n 3, 1) := by decide +kernel
theorem dL_29 : decode code 29 = .ok (.iaload, 1) := by decide +kernel
theorem dL_30 : decode code 30 = .ok (.bipush 31, 2) := by decide +kernel
theorem dL_32 : decode code 32 = .ok (.iand, 1) := by decide +kernel
theorem dL_33 : decode code 33 = .ok (.tableswitch 1221 0 30 #[139, 172, 185, 208, 231, 264, 328, 381, 424, 467, 510, 549, 572, 605, 638, 671, 735, 748, 761, 804, 827, 860, 873, 886, 929, 952, 985, 1008, 1051, 1124, 1158], 139) := by decide +kernel
theorem dL_172 : decode code 172 = .ok (.aload_n 1, 1) := by decide +kernel
theorem dL_173 : decode code 173 = .ok (.aload_n 0, 1) := by decide +kernel
theorem dL_174 : decode code 174 = .ok (.iload_n 3, 1) := by decide +kernel
theorem dL_175 : decode code 175 = .ok (.iconst 1, 1) := by decide +kernel
theorem dL_176 : decode code 176 = .ok (.iadd, 1) := by decide +kernel
theorem dL_177 : decode code 177 = .ok (.iaload, 1) := by decide +kernel
theorem dL_178 : decode code 178 = .ok (.aload_n 0, 1) := by decide +kernel
theorem dL_179 : decode code 179 = .ok (.iload_n 3, 1) := by decide +kernel
theorem dL_180 : decode code 180 = .ok (.iconst 2, 1) := by decide +kernel
theorem dL_181 : decode code 181 = .ok (.iadd, 1) := by decide +kernel
theorem dL_182 : decode code 182 = .ok (.iaload, 1) := by decide +kernel
theorem dL_183 : decode code 183 = .ok (.invokevirtual 13, 3) := by decide +kernel
theorem dL_186 : decode code 186 = .ok (.aload_n 2, 1) := by decide +kernel
theorem dL_187 : decode code 187 = .ok (.aload_n 0, 1) := by decide +kernel
theorem dL_188 : decode code 188 = .ok (.iload_n 3, 1) := by decide +kernel
theorem dL_189 : decode code 189 = .ok (.iconst 1, 1) := by decide +kernel
theorem dL_190 : decode code 190 = .ok (.iadd, 1) := by decide +kernel
theorem dL_191 : decode code 191 = .ok (.iaload, 1) := by decide +kernel
theorem dL_192 : decode code 192 = .ok (.aload_n 0, 1) := by decide +kernel
theorem dL_193 : decode code 193 = .ok (.iload_n 3, 1) := by decide +kernel
theorem dL_194 : decode code 194 = .ok (.iconst 2, 1) := by decide +kernel
theorem dL_195 : decode code 195 = .ok (.iadd, 1) := by decide +kernel
theorem dL_196 : decode code 196 = .ok (.iaload, 1) := by decide +kernel
theorem dL_197 : decode code 197 = .ok (.invokevirtual 17, 3) := by decide +kernel
theorem dL_200 : decode code 200 = .ok (.if_icmp .eq 1054, 3) := by decide +kernel
theorem dL_203 : decode code 203 = .ok (.iconst 0, 1) := by decide +kernel
theorem dL_204 : decode code 204 = .ok (.ireturn, 1) := by decide +kernel
theorem dL_205 : decode code 205 = .ok (.aload_n 1, 1) := by decide +kernel
theorem dL_206 : decode code 206 = .ok (.invokevirtual 18, 3) := by decide +kernel
theorem dL_209 : decode code 209 = .ok (.aload_n 2, 1) := by decide +kernel
theorem dL_210 : decode code 210 = .ok (.invokevirtual 22, 3) := by decide +kernel
theorem dL_213 : decode code 213 = .ok (.if_icmp .eq 1041, 3) := by decide +kernel
theorem dL_216 : decode code 216 = .ok (.iconst 0, 1) := by decide +kernel
theorem dL_217 : decode code 217 = .ok (.ireturn, 1) := by decide +kernel
theorem dL_218 : decode code 218 = .ok (.aload_n 1, 1) := by decide +kernel
theorem dL_219 : decode code 219 = .ok (.aload_n 0, 1) := by decide +kernel
theorem dL_220 : decode code 220 = .ok (.iload_n 3, 1) := by decide +kernel
theorem dL_221 : decode code 221 = .ok (.iconst 1, 1) := by decide +kernel
theorem dL_222 : decode code 222 = .ok (.iadd, 1) := by decide +kernel
theorem dL_223 : decode code 223 = .ok (.iaload, 1) := by decide +kernel
theorem dL_224 : decode code 224 = .ok (.invokevirtual 23, 3) := by decide +kernel
theorem dL_227 : decode code 227 = .ok (.aload_n 2, 1) := by decide +kernel
theorem dL_228 : decode code 228 = .ok (.aload_n 0, 1) := by decide +kernel
theorem dL_229 : decode code 229 = .ok (.iload_n 3, 1) := by decide +kernel
theorem dL_230 : decode code 230 = .ok (.iconst 1, 1) := by decide +kernel
theorem dL_231 : decode code 231 = .ok (.iadd, 1) := by decide +kernel
theorem dL_232 : decode code 232 = .ok (.iaload, 1) := by decide +kernel
theorem dL_233 : decode code 233 = .ok (.invokevirtual 27, 3) := by decide +kernel
theorem dL_236 : decode code 236 = .ok (.if_icmp .eq 1018, 3) := by decide +kernel
theorem dL_239 : decode code 239 = .ok (.iconst 0, 1) := by decide +kernel
theorem dL_240 : decode code 240 = .ok (.ireturn, 1) := by decide +kernel
theorem dL_241 : decode code 241 = .ok (.aload_n 1, 1) := by decide +kernel
theorem dL_242 : decode code 242 = .ok (.aload_n 0, 1) := by decide +kernel
theorem dL_243 : decode code 243 = .ok (.iload_n 3, 1) := by decide +kernel
theorem dL_244 : decode code 244 = .ok (.iconst 1, 1) := by decide +kernel
theorem dL_245 : decode code 245 = .ok (.iadd, 1) := by decide +kernel
theorem dL_246 : decode code 246 = .ok (.iaload, 1) := by decide +kernel
theorem dL_247 : decode code 247 = .ok (.invokevirtual 28, 3) := by decide +kernel
theorem dL_250 : decode code 250 = .ok (.aload_n 2, 1) := by decide +kernel
theorem dL_251 : decode code 251 = .ok (.aload_n 0, 1) := by decide +kernel
theorem dL_252 : decode code 252 = .ok (.iload_n 3, 1) := by decide +kernel
theorem dL_253 : decode code 253 = .ok (.iconst 1, 1) := by decide +kernel
theorem dL_254 : decode code 254 = .ok (.iadd, 1) := by decide +kernel
theorem dL_255 : decode code 255 = .ok (.iaload, 1) := by decide +kernel
theorem dL_256 : decode code 256 = .ok (.invokevirtual 31, 3) := by decide +kernel
theorem dL_259 : decode code 259 = .ok (.if_icmp .eq 995, 3) := by decide +kernel
theorem dL_262 : decode code 262 = .ok (.iconst 0, 1) := by decide +kernel
theorem dL_263 : decode code 263 = .ok (.ireturn, 1) := by decide +kernel
theorem dL_264 : decode code 264 = .ok (.aload_n 1, 1) := by decide +kernel
theorem dL_265 : decode code 265 = .ok (.aload_n 0, 1) := by decide +kernel
theorem dL_266 : decode code 266 = .ok (.iload_n 3, 1) := by decide +kernel
theorem dL_267 : decode code 267 = .ok (.iconst 1, 1) := by decide +kernel
theorem dL_268 : decode code 268 = .ok (.iadd, 1) := by decide +kernel
theorem dL_269 : decode code 269 = .ok (.iaload, 1) := by decide +kernel
theorem dL_270 : decode code 270 = .ok (.aload_n 0, 1) := by decide +kernel
theorem dL_271 : decode code 271 = .ok (.iload_n 3, 1) := by decide +kernel
theorem dL_272 : decode code 272 = .ok (.iconst 2, 1) := by decide +kernel
theorem dL_273 : decode code 273 = .ok (.iadd, 1) := by decide +kernel
theorem dL_274 : decode code 274 = .ok (.iaload, 1) := by decide +kernel
theorem dL_275 : decode code 275 = .ok (.invokevirtual 32, 3) := by decide +kernel
theorem dL_278 : decode code 278 = .ok (.aload_n 2, 1) := by decide +kernel
theorem dL_279 : decode code 279 = .ok (.aload_n 0, 1) := by decide +kernel
theorem dL_280 : decode code 280 = .ok (.iload_n 3, 1) := by decide +kernel
theorem dL_281 : decode code 281 = .ok (.iconst 1, 1) := by decide +kernel
theorem dL_282 : decode code 282 = .ok (.iadd, 1) := by decide +kernel
theorem dL_283 : decode code 283 = .ok (.iaload, 1) := by decide +kernel
theorem dL_284 : decode code 284 = .ok (.aload_n 0, 1) := by decide +kernel
theorem dL_285 : decode code 285 = .ok (.iload_n 3, 1) := by decide +kernel
theorem dL_286 : decode code 286 = .ok (.iconst 2, 1) := by decide +kernel
theorem dL_287 : decode code 287 = .ok (.iadd, 1) := by decide +kernel
theorem dL_288 : decode code 288 = .ok (.iaload, 1) := by decide +kernel
theorem dL_289 : decode code 289 = .ok (.invokevirtual 35, 3) := by decide +kernel
theorem dL_292 : decode code 292 = .ok (.if_icmp .eq 962, 3) := by decide +kernel
theorem dL_295 : decode code 295 = .ok (.iconst 0, 1) := by decide +kernel
theorem dL_296 : decode code 296 = .ok (.ireturn, 1) := by decide +kernel
theorem dL_297 : decode code 297 = .ok (.aload_n 1, 1) := by decide +kernel
theorem dL_298 : decode code 298 = .ok (.aload_n 0, 1) := by decide +kernel
theorem dL_299 : decode code 299 = .ok (.iload_n 3, 1) := by decide +kernel
theorem dL_300 : decode code 300 = .ok (.iconst 1, 1) := by decide +kernel
theorem dL_301 : decode code 301 = .ok (.iadd, 1) := by decide +kernel
theorem dL_302 : decode code 302 = .ok (.iaload, 1) := by decide +kernel
theorem dL_303 : decode code 303 = .ok (.aload_n 0, 1) := by decide +kernel
theorem dL_304 : decode code 304 = .ok (.iload_n 3, 1) := by decide +kernel
theorem dL_305 : decode code 305 = .ok (.iconst 2, 1) := by decide +kernel
theorem dL_306 : decode code 306 = .ok (.iadd, 1) := by decide +kernel
theorem dL_307 : decode code 307 = .ok (.iaload, 1) := by decide +kernel
theorem dL_308 : decode code 308 = .ok (.aload_n 0, 1) := by decide +kernel
theorem dL_309 : decode code 309 = .ok (.iload_n 3, 1) := by decide +kernel
theorem dL_310 : decode code 310 = .ok (.iconst 3, 1) := by decide +kernel
theorem dL_311 : decode code 311 = .ok (.iadd, 1) := by decide +kernel
theorem dL_312 : decode code 312 = .ok (.iaload, 1) := by decide +kernel
theorem dL_313 : decode code 313 = .ok (.aload_n 0, 1) := by decide +kernel
theorem dL_314 : decode code 314 = .ok (.iload_n 3, 1) := by decide +kernel
theorem dL_315 : decode code 315 = .ok (.iconst 4, 1) := by decide +kernel
theorem dL_316 : decode code 316 = .ok (.iadd, 1) := by decide +kernel
theorem dL_317 : decode code 317 = .ok (.iaload, 1) := by decide +kernel
theorem dL_318 : decode code 318 = .ok (.aload_n 0, 1) := by decide +kernel
theorem dL_319 : decode code 319 = .ok (.iload_n 3, 1) := by decide +kernel
theorem dL_320 : decode code 320 = .ok (.iconst 5, 1) := by decide +kernel
theorem dL_321 : decode code 321 = .ok (.iadd, 1) := by decide +kernel
theorem dL_322 : decode code 322 = .ok (.iaload, 1) := by decide +kernel
theorem dL_323 : decode code 323 = .ok (.invokevirtual 36, 3) := by decide +kernel
theorem dL_326 : decode code 326 = .ok (.aload_n 2, 1) := by decide +kernel
theorem dL_327 : decode code 327 = .ok (.aload_n 0, 1) := by decide +kernel
theorem dL_328 : decode code 328 = .ok (.iload_n 3, 1) := by decide +kernel
theorem dL_329 : decode code 329 = .ok (.iconst 1, 1) := by decide +kernel
theorem dL_330 : decode code 330 = .ok (.iadd, 1) := by decide +kernel
theorem dL_331 : decode code 331 = .ok (.iaload, 1) := by decide +kernel
theorem dL_332 : decode code 332 = .ok (.aload_n 0, 1) := by decide +kernel
theorem dL_333 : decode code 333 = .ok (.iload_n 3, 1) := by decide +kernel
theorem dL_334 : decode code 334 = .ok (.iconst 2, 1) := by decide +kernel
theorem dL_335 : decode code 335 = .ok (.iadd, 1) := by decide +kernel
theorem dL_336 : decode code 336 = .ok (.iaload, 1) := by decide +kernel
theorem dL_337 : decode code 337 = .ok (.aload_n 0, 1) := by decide +kernel
theorem dL_338 : decode code 338 = .ok (.iload_n 3, 1) := by decide +kernel
theorem dL_339 : decode code 339 = .ok (.iconst 3, 1) := by decide +kernel
theorem dL_340 : decode code 340 = .ok (.iadd, 1) := by decide +kernel
theorem dL_341 : decode code 341 = .ok (.iaload, 1) := by decide +kernel
theorem dL_342 : decode code 342 = .ok (.aload_n 0, 1) := by decide +kernel
theorem dL_343 : decode code 343 = .ok (.iload_n 3, 1) := by decide +kernel
theorem dL_344 : decode code 344 = .ok (.iconst 4, 1) := by decide +kernel
theorem dL_345 : decode code 345 = .ok (.iadd, 1) := by decide +kernel
theorem dL_346 : decode code 346 = .ok (.iaload, 1) := by decide +kernel
theorem dL_347 : decode code 347 = .ok (.aload_n 0, 1) := by decide +kernel
theorem dL_348 : decode code 348 = .ok (.iload_n 3, 1) := by decide +kernel
theorem dL_349 : decode code 349 = .ok (.iconst 5, 1) := by decide +kernel
theorem dL_350 : decode code 350 = .ok (.iadd, 1) := by decide +kernel
theorem dL_351 : decode code 351 = .ok (.iaload, 1) := by decide +kernel
theorem dL_352 : decode code 352 = .ok (.invokevirtual 40, 3) := by decide +kernel
theorem dL_355 : decode code 355 = .ok (.lcmp, 1) := by decide +kernel
theorem dL_356 : decode code 356 = .ok (.ifCond .eq 898, 3) := by decide +kernel
theorem dL_359 : decode code 359 = .ok (.iconst 0, 1) := by decide +kernel
theorem dL_360 : decode code 360 = .ok (.ireturn, 1) := by decide +kernel
theorem dL_361 : decode code 361 = .ok (.aload_n 1, 1) := by decide +kernel
theorem dL_362 : decode code 362 = .ok (.aload_n 0, 1) := by decide +kernel
theorem dL_363 : decode code 363 = .ok (.iload_n 3, 1) := by decide +kernel
theorem dL_364 : decode code 364 = .ok (.iconst 1, 1) := by decide +kernel
theorem dL_365 : decode code 365 = .ok (.iadd, 1) := by decide +kernel
theorem dL_366 : decode code 366 = .ok (.iaload, 1) := by decide +kernel
theorem dL_367 : decode code 367 = .ok (.aload_n 0, 1) := by decide +kernel
theorem dL_368 : decode code 368 = .ok (.iload_n 3, 1) := by decide +kernel
theorem dL_369 : decode code 369 = .ok (.iconst 2, 1) := by decide +kernel
theorem dL_370 : decode code 370 = .ok (.iadd, 1) := by decide +kernel
theorem dL_371 : decode code 371 = .ok (.iaload, 1) := by decide +kernel
theorem dL_372 : decode code 372 = .ok (.aload_n 0, 1) := by decide +kernel
theorem dL_373 : decode code 373 = .ok (.iload_n 3, 1) := by decide +kernel
theorem dL_374 : decode code 374 = .ok (.iconst 3, 1) := by decide +kernel
theorem dL_375 : decode code 375 = .ok (.iadd, 1) := by decide +kernel
theorem dL_376 : decode code 376 = .ok (.iaload, 1) := by decide +kernel
theorem dL_377 : decode code 377 = .ok (.aload_n 0, 1) := by decide +kernel
theorem dL_378 : decode code 378 = .ok (.iload_n 3, 1) := by decide +kernel
theorem dL_379 : decode code 379 = .ok (.iconst 4, 1) := by decide +kernel
theorem dL_380 : decode code 380 = .ok (.iadd, 1) := by decide +kernel
theorem dL_381 : decode code 381 = .ok (.iaload, 1) := by decide +kernel
theorem dL_382 : decode code 382 = .ok (.invokevirtual 41, 3) := by decide +kernel
theorem dL_385 : decode code 385 = .ok (.aload_n 2, 1) := by decide +kernel
theorem dL_386 : decode code 386 = .ok (.aload_n 0, 1) := by decide +kernel
theorem dL_387 : decode code 387 = .ok (.iload_n 3, 1) := by decide +kernel
theorem dL_388 : decode code 388 = .ok (.iconst 1, 1) := by decide +kernel
theorem dL_389 : decode code 389 = .ok (.iadd, 1) := by decide +kernel
theorem dL_390 : decode code 390 = .ok (.iaload, 1) := by decide +kernel
theorem dL_391 : decode code 391 = .ok (.aload_n 0, 1) := by decide +kernel
theorem dL_392 : decode code 392 = .ok (.iload_n 3, 1) := by decide +kernel
theorem dL_393 : decode code 393 = .ok (.iconst 2, 1) := by decide +kernel
theorem dL_394 : decode code 394 = .ok (.iadd, 1) := by decide +kernel
theorem dL_395 : decode code 395 = .ok (.iaload, 1) := by decide +kernel
theorem dL_396 : decode code 396 = .ok (.aload_n 0, 1) := by decide +kernel
theorem dL_397 : decode code 397 = .ok (.iload_n 3, 1) := by decide +kernel
theorem dL_398 : decode code 398 = .ok (.iconst 3, 1) := by decide +kernel
theorem dL_399 : decode code 399 = .ok (.iadd, 1) := by decide +kernel
theorem dL_400 : decode code 400 = .ok (.iaload, 1) := by decide +kernel
theorem dL_401 : decode code 401 = .ok (.aload_n 0, 1) := by decide +kernel
theorem dL_402 : decode code 402 = .ok (.iload_n 3, 1) := by decide +kernel
theorem dL_403 : decode code 403 = .ok (.iconst 4, 1) := by decide +kernel
theorem dL_404 : decode code 404 = .ok (.iadd, 1) := by decide +kernel
theorem dL_405 : decode code 405 = .ok (.iaload, 1) := by decide +kernel
theorem dL_406 : decode code 406 = .ok (.invokevirtual 45, 3) := by decide +kernel
theorem dL_409 : decode code 409 = .ok (.if_icmp .eq 845, 3) := by decide +kernel
theorem dL_412 : decode code 412 = .ok (.iconst 0, 1) := by decide +kernel
theorem dL_413 : decode code 413 = .ok (.ireturn, 1) := by decide +kernel
theorem dL_414 : decode code 414 = .ok (.aload_n 1, 1) := by decide +kernel
theorem dL_415 : decode code 415 = .ok (.aload_n 0, 1) := by decide +kernel
theorem dL_416 : decode code 416 = .ok (.iload_n 3, 1) := by decide +kernel
theorem dL_417 : decode code 417 = .ok (.iconst 1, 1) := by decide +kernel
theorem dL_418 : decode code 418 = .ok (.iadd, 1) := by decide +kernel
theorem dL_419 : decode code 419 = .ok (.iaload, 1) := by decide +kernel
theorem dL_420 : decode code 420 = .ok (.aload_n 0, 1) := by decide +kernel
theorem dL_421 : decode code 421 = .ok (.iload_n 3, 1) := by decide +kernel
theorem dL_422 : decode code 422 = .ok (.iconst 2, 1) := by decide +kernel
theorem dL_423 : decode code 423 = .ok (.iadd, 1) := by decide +kernel
theorem dL_424 : decode code 424 = .ok (.iaload, 1) := by decide +kernel
theorem dL_425 : decode code 425 = .ok (.aload_n 0, 1) := by decide +kernel
theorem dL_426 : decode code 426 = .ok (.iload_n 3, 1) := by decide +kernel
theorem dL_427 : decode code 427 = .ok (.iconst 3, 1) := by decide +kernel
theorem dL_428 : decode code 428 = .ok (.iadd, 1) := by decide +kernel
theorem dL_429 : decode code 429 = .ok (.iaload, 1) := by decide +kernel
theorem dL_430 : decode code 430 = .ok (.invokevirtual 46, 3) := by decide +kernel
theorem dL_433 : decode code 433 = .ok (.aload_n 2, 1) := by decide +kernel
theorem dL_434 : decode code 434 = .ok (.aload_n 0, 1) := by decide +kernel
theorem dL_435 : decode code 435 = .ok (.iload_n 3, 1) := by decide +kernel
theorem dL_436 : decode code 436 = .ok (.iconst 1, 1) := by decide +kernel
theorem dL_437 : decode code 437 = .ok (.iadd, 1) := by decide +kernel
theorem dL_438 : decode code 438 = .ok (.iaload, 1) := by decide +kernel
theorem dL_439 : decode code 439 = .ok (.aload_n 0, 1) := by decide +kernel
theorem dL_440 : decode code 440 = .ok (.iload_n 3, 1) := by decide +kernel
theorem dL_441 : decode code 441 = .ok (.iconst 2, 1) := by decide +kernel
theorem dL_442 : decode code 442 = .ok (.iadd, 1) := by decide +kernel
theorem dL_443 : decode code 443 = .ok (.iaload, 1) := by decide +kernel
theorem dL_444 : decode code 444 = .ok (.aload_n 0, 1) := by decide +kernel
theorem dL_445 : decode code 445 = .ok (.iload_n 3, 1) := by decide +kernel
theorem dL_446 : decode code 446 = .ok (.iconst 3, 1) := by decide +kernel
theorem dL_447 : decode code 447 = .ok (.iadd, 1) := by decide +kernel
theorem dL_448 : decode code 448 = .ok (.iaload, 1) := by decide +kernel
theorem dL_449 : decode code 449 = .ok (.invokevirtual 50, 3) := by decide +kernel
theorem dL_452 : decode code 452 = .ok (.if_icmp .eq 802, 3) := by decide +kernel
theorem dL_455 : decode code 455 = .ok (.iconst 0, 1) := by decide +kernel
theorem dL_456 : decode code 456 = .ok (.ireturn, 1) := by decide +kernel
theorem dL_457 : decode code 457 = .ok (.aload_n 1, 1) := by decide +kernel
theorem dL_458 : decode code 458 = .ok (.aload_n 0, 1) := by decide +kernel
theorem dL_459 : decode code 459 = .ok (.iload_n 3, 1) := by decide +kernel
theorem dL_460 : decode code 460 = .ok (.iconst 1, 1) := by decide +kernel
theorem dL_461 : decode code 461 = .ok (.iadd, 1) := by decide +kernel
theorem dL_462 : decode code 462 = .ok (.iaload, 1) := by decide +kernel
theorem dL_463 : decode code 463 = .ok (.aload_n 0, 1) := by decide +kernel
theorem dL_464 : decode code 464 = .ok (.iload_n 3, 1) := by decide +kernel
theorem dL_465 : decode code 465 = .ok (.iconst 2, 1) := by decide +kernel
theorem dL_466 : decode code 466 = .ok (.iadd, 1) := by decide +kernel
theorem dL_467 : decode code 467 = .ok (.iaload, 1) := by decide +kernel
theorem dL_468 : decode code 468 = .ok (.aload_n 0, 1) := by decide +kernel
theorem dL_469 : decode code 469 = .ok (.iload_n 3, 1) := by decide +kernel
theorem dL_470 : decode code 470 = .ok (.iconst 3, 1) := by decide +kernel
theorem dL_471 : decode code 471 = .ok (.iadd, 1) := by decide +kernel
theorem dL_472 : decode code 472 = .ok (.iaload, 1) := by decide +kernel
theorem dL_473 : decode code 473 = .ok (.invokevirtual 51, 3) := by decide +kernel
theorem dL_476 : decode code 476 = .ok (.aload_n 2, 1) := by decide +kernel
theorem dL_477 : decode code 477 = .ok (.aload_n 0, 1) := by decide +kernel
theorem dL_478 : decode code 478 = .ok (.iload_n 3, 1) := by decide +kernel
theorem dL_479 : decode code 479 = .ok (.iconst 1, 1) := by decide +kernel
theorem dL_480 : decode code 480 = .ok (.iadd, 1) := by decide +kernel
theorem dL_481 : decode code 481 = .ok (.iaload, 1) := by decide +kernel
theorem dL_482 : decode code 482 = .ok (.aload_n 0, 1) := by decide +kernel
theorem dL_483 : decode code 483 = .ok (.iload_n 3, 1) := by decide +kernel
theorem dL_484 : decode code 484 = .ok (.iconst 2, 1) := by decide +kernel
theorem dL_485 : decode code 485 = .ok (.iadd, 1) := by decide +kernel
theorem dL_486 : decode code 486 = .ok (.iaload, 1) := by decide +kernel
theorem dL_487 : decode code 487 = .ok (.aload_n 0, 1) := by decide +kernel
theorem dL_488 : decode code 488 = .ok (.iload_n 3, 1) := by decide +kernel
theorem dL_489 : decode code 489 = .ok (.iconst 3, 1) := by decide +kernel
theorem dL_490 : decode code 490 = .ok (.iadd, 1) := by decide +kernel
theorem dL_491 : decode code 491 = .ok (.iaload, 1) := by decide +kernel
theorem dL_492 : decode code 492 = .ok (.invokevirtual 54, 3) := by decide +kernel
theorem dL_495 : decode code 495 = .ok (.if_icmp .eq 759, 3) := by decide +kernel
theorem dL_498 : decode code 498 = .ok (.iconst 0, 1) := by decide +kernel
theorem dL_499 : decode code 499 = .ok (.ireturn, 1) := by decide +kernel
theorem dL_500 : decode code 500 = .ok (.aload_n 1, 1) := by decide +kernel
theorem dL_501 : decode code 501 = .ok (.aload_n 0, 1) := by decide +kernel
theorem dL_502 : decode code 502 = .ok (.iload_n 3, 1) := by decide +kernel
theorem dL_503 : decode code 503 = .ok (.iconst 1, 1) := by decide +kernel
theorem dL_504 : decode code 504 = .ok (.iadd, 1) := by decide +kernel
theorem dL_505 : decode code 505 = .ok (.iaload, 1) := by decide +kernel
theorem dL_506 : decode code 506 = .ok (.aload_n 0, 1) := by decide +kernel
theorem dL_507 : decode code 507 = .ok (.iload_n 3, 1) := by decide +kernel
theorem dL_508 : decode code 508 = .ok (.iconst 2, 1) := by decide +kernel
theorem dL_509 : decode code 509 = .ok (.iadd, 1) := by decide +kernel
theorem dL_510 : decode code 510 = .ok (.iaload, 1) := by decide +kernel
theorem dL_511 : decode code 511 = .ok (.aload_n 0, 1) := by decide +kernel
theorem dL_512 : decode code 512 = .ok (.iload_n 3, 1) := by decide +kernel
theorem dL_513 : decode code 513 = .ok (.iconst 3, 1) := by decide +kernel
theorem dL_514 : decode code 514 = .ok (.iadd, 1) := by decide +kernel
theorem dL_515 : decode code 515 = .ok (.iaload, 1) := by decide +kernel
theorem dL_516 : decode code 516 = .ok (.invokevirtual 55, 3) := by decide +kernel
theorem dL_519 : decode code 519 = .ok (.aload_n 2, 1) := by decide +kernel
theorem dL_520 : decode code 520 = .ok (.aload_n 0, 1) := by decide +kernel
theorem dL_521 : decode code 521 = .ok (.iload_n 3, 1) := by decide +kernel
theorem dL_522 : decode code 522 = .ok (.iconst 1, 1) := by decide +kernel
theorem dL_523 : decode code 523 = .ok (.iadd, 1) := by decide +kernel
theorem dL_524 : decode code 524 = .ok (.iaload, 1) := by decide +kernel
theorem dL_525 : decode code 525 = .ok (.aload_n 0, 1) := by decide +kernel
theorem dL_526 : decode code 526 = .ok (.iload_n 3, 1) := by decide +kernel
theorem dL_527 : decode code 527 = .ok (.iconst 2, 1) := by decide +kernel
theorem dL_528 : decode code 528 = .ok (.iadd, 1) := by decide +kernel
theorem dL_529 : decode code 529 = .ok (.iaload, 1) := by decide +kernel
theorem dL_530 : decode code 530 = .ok (.aload_n 0, 1) := by decide +kernel
theorem dL_531 : decode code 531 = .ok (.iload_n 3, 1) := by decide +kernel
theorem dL_532 : decode code 532 = .ok (.iconst 3, 1) := by decide +kernel
theorem dL_533 : decode code 533 = .ok (.iadd, 1) := by decide +kernel
theorem dL_534 : decode code 534 = .ok (.iaload, 1) := by decide +kernel
theorem dL_535 : decode code 535 = .ok (.invokevirtual 58, 3) := by decide +kernel
theorem dL_538 : decode code 538 = .ok (.if_icmp .eq 716, 3) := by decide +kernel
theorem dL_541 : decode code 541 = .ok (.iconst 0, 1) := by decide +kernel
theorem dL_542 : decode code 542 = .ok (.ireturn, 1) := by decide +kernel
theorem dL_543 : decode code 543 = .ok (.aload_n 1, 1) := by decide +kernel
theorem dL_544 : decode code 544 = .ok (.aload_n 0, 1) := by decide +kernel
theorem dL_545 : decode code 545 = .ok (.iload_n 3, 1) := by decide +kernel
theorem dL_546 : decode code 546 = .ok (.iconst 1, 1) := by decide +kernel
theorem dL_547 : decode code 547 = .ok (.iadd, 1) := by decide +kernel
theorem dL_548 : decode code 548 = .ok (.iaload, 1) := by decide +kernel
theorem dL_549 : decode code 549 = .ok (.ifCond .eq 7, 3) := by decide +kernel
theorem dL_552 : decode code 552 = .ok (.iconst 1, 1) := by decide +kernel
theorem dL_553 : decode code 553 = .ok (.goto 4, 3) := by decide +kernel
theorem dL_556 : decode code 556 = .ok (.iconst 0, 1) := by decide +kernel
theorem dL_557 : decode code 557 = .ok (.invokevirtual 59, 3) := by decide +kernel
theorem dL_560 : decode code 560 = .ok (.aload_n 2, 1) := by decide +kernel
theorem dL_561 : decode code 561 = .ok (.aload_n 0, 1) := by decide +kernel
theorem dL_562 : decode code 562 = .ok (.iload_n 3, 1) := by decide +kernel
theorem dL_563 : decode code 563 = .ok (.iconst 1, 1) := by decide +kernel
theorem dL_564 : decode code 564 = .ok (.iadd, 1) := by decide +kernel
theorem dL_565 : decode code 565 = .ok (.iaload, 1) := by decide +kernel
theorem dL_566 : decode code 566 = .ok (.ifCond .eq 7, 3) := by decide +kernel
theorem dL_569 : decode code 569 = .ok (.iconst 1, 1) := by decide +kernel
theorem dL_570 : decode code 570 = .ok (.goto 4, 3) := by decide +kernel
theorem dL_573 : decode code 573 = .ok (.iconst 0, 1) := by decide +kernel
theorem dL_574 : decode code 574 = .ok (.invokevirtual 63, 3) := by decide +kernel
theorem dL_577 : decode code 577 = .ok (.if_icmp .eq 677, 3) := by decide +kernel
theorem dL_580 : decode code 580 = .ok (.iconst 0, 1) := by decide +kernel
theorem dL_581 : decode code 581 = .ok (.ireturn, 1) := by decide +kernel
theorem dL_582 : decode code 582 = .ok (.aload_n 1, 1) := by decide +kernel
theorem dL_583 : decode code 583 = .ok (.aload_n 0, 1) := by decide +kernel
theorem dL_584 : decode code 584 = .ok (.iload_n 3, 1) := by decide +kernel
theorem dL_585 : decode code 585 = .ok (.iconst 1, 1) := by decide +kernel
theorem dL_586 : decode code 586 = .ok (.iadd, 1) := by decide +kernel
theorem dL_587 : decode code 587 = .ok (.iaload, 1) := by decide +kernel
theorem dL_588 : decode code 588 = .ok (.invokevirtual 64, 3) := by decide +kernel
theorem dL_591 : decode code 591 = .ok (.aload_n 2, 1) := by decide +kernel
theorem dL_592 : decode code 592 = .ok (.aload_n 0, 1) := by decide +kernel
theorem dL_593 : decode code 593 = .ok (.iload_n 3, 1) := by decide +kernel
theorem dL_594 : decode code 594 = .ok (.iconst 1, 1) := by decide +kernel
theorem dL_595 : decode code 595 = .ok (.iadd, 1) := by decide +kernel
theorem dL_596 : decode code 596 = .ok (.iaload, 1) := by decide +kernel
theorem dL_597 : decode code 597 = .ok (.invokevirtual 67, 3) := by decide +kernel
theorem dL_600 : decode code 600 = .ok (.if_icmp .eq 654, 3) := by decide +kernel
theorem dL_603 : decode code 603 = .ok (.iconst 0, 1) := by decide +kernel
theorem dL_604 : decode code 604 = .ok (.ireturn, 1) := by decide +kernel
theorem dL_605 : decode code 605 = .ok (.aload_n 1, 1) := by decide +kernel
theorem dL_606 : decode code 606 = .ok (.aload_n 0, 1) := by decide +kernel
theorem dL_607 : decode code 607 = .ok (.iload_n 3, 1) := by decide +kernel
theorem dL_608 : decode code 608 = .ok (.iconst 1, 1) := by decide +kernel
theorem dL_609 : decode code 609 = .ok (.iadd, 1) := by decide +kernel
theorem dL_610 : decode code 610 = .ok (.iaload, 1) := by decide +kernel
theorem dL_611 : decode code 611 = .ok (.aload_n 0, 1) := by decide +kernel
theorem dL_612 : decode code 612 = .ok (.iload_n 3, 1) := by decide +kernel
theorem dL_613 : decode code 613 = .ok (.iconst 2, 1) := by decide +kernel
theorem dL_614 : decode code 614 = .ok (.iadd, 1) := by decide +kernel
theorem dL_615 : decode code 615 = .ok (.iaload, 1) := by decide +kernel
theorem dL_616 : decode code 616 = .ok (.invokevirtual 68, 3) := by decide +kernel
theorem dL_619 : decode code 619 = .ok (.aload_n 2, 1) := by decide +kernel
theorem dL_620 : decode code 620 = .ok (.aload_n 0, 1) := by decide +kernel
theorem dL_621 : decode code 621 = .ok (.iload_n 3, 1) := by decide +kernel
theorem dL_622 : decode code 622 = .ok (.iconst 1, 1) := by decide +kernel
theorem dL_623 : decode code 623 = .ok (.iadd, 1) := by decide +kernel
theorem dL_624 : decode code 624 = .ok (.iaload, 1) := by decide +kernel
theorem dL_625 : decode code 625 = .ok (.aload_n 0, 1) := by decide +kernel
theorem dL_626 : decode code 626 = .ok (.iload_n 3, 1) := by decide +kernel
theorem dL_627 : decode code 627 = .ok (.iconst 2, 1) := by decide +kernel
theorem dL_628 : decode code 628 = .ok (.iadd, 1) := by decide +kernel
theorem dL_629 : decode code 629 = .ok (.iaload, 1) := by decide +kernel
theorem dL_630 : decode code 630 = .ok (.invokevirtual 71, 3) := by decide +kernel
theorem dL_633 : decode code 633 = .ok (.if_icmp .eq 621, 3) := by decide +kernel
theorem dL_636 : decode code 636 = .ok (.iconst 0, 1) := by decide +kernel
theorem dL_637 : decode code 637 = .ok (.ireturn, 1) := by decide +kernel
theorem dL_638 : decode code 638 = .ok (.aload_n 1, 1) := by decide +kernel
theorem dL_639 : decode code 639 = .ok (.aload_n 0, 1) := by decide +kernel
theorem dL_640 : decode code 640 = .ok (.iload_n 3, 1) := by decide +kernel
theorem dL_641 : decode code 641 = .ok (.iconst 1, 1) := by decide +kernel
theorem dL_642 : decode code 642 = .ok (.iadd, 1) := by decide +kernel
theorem dL_643 : decode code 643 = .ok (.iaload, 1) := by decide +kernel
theorem dL_644 : decode code 644 = .ok (.aload_n 0, 1) := by decide +kernel
theorem dL_645 : decode code 645 = .ok (.iload_n 3, 1) := by decide +kernel
theorem dL_646 : decode code 646 = .ok (.iconst 2, 1) := by decide +kernel
theorem dL_647 : decode code 647 = .ok (.iadd, 1) := by decide +kernel
theorem dL_648 : decode code 648 = .ok (.iaload, 1) := by decide +kernel
theorem dL_649 : decode code 649 = .ok (.invokevirtual 72, 3) := by decide +kernel
theorem dL_652 : decode code 652 = .ok (.aload_n 2, 1) := by decide +kernel
theorem dL_653 : decode code 653 = .ok (.aload_n 0, 1) := by decide +kernel
theorem dL_654 : decode code 654 = .ok (.iload_n 3, 1) := by decide +kernel
theorem dL_655 : decode code 655 = .ok (.iconst 1, 1) := by decide +kernel
theorem dL_656 : decode code 656 = .ok (.iadd, 1) := by decide +kernel
theorem dL_657 : decode code 657 = .ok (.iaload, 1) := by decide +kernel
theorem dL_658 : decode code 658 = .ok (.aload_n 0, 1) := by decide +kernel
theorem dL_659 : decode code 659 = .ok (.iload_n 3, 1) := by decide +kernel
theorem dL_660 : decode code 660 = .ok (.iconst 2, 1) := by decide +kernel
theorem dL_661 : decode code 661 = .ok (.iadd, 1) := by decide +kernel
theorem dL_662 : decode code 662 = .ok (.iaload, 1) := by decide +kernel
theorem dL_663 : decode code 663 = .ok (.invokevirtual 75, 3) := by decide +kernel
theorem dL_666 : decode code 666 = .ok (.if_icmp .eq 588, 3) := by decide +kernel
theorem dL_669 : decode code 669 = .ok (.iconst 0, 1) := by decide +kernel
theorem dL_670 : decode code 670 = .ok (.ireturn, 1) := by decide +kernel
theorem dL_671 : decode code 671 = .ok (.aload_n 1, 1) := by decide +kernel
theorem dL_672 : decode code 672 = .ok (.aload_n 0, 1) := by decide +kernel
theorem dL_673 : decode code 673 = .ok (.iload_n 3, 1) := by decide +kernel
theorem dL_674 : decode code 674 = .ok (.iconst 1, 1) := by decide +kernel
theorem dL_675 : decode code 675 = .ok (.iadd, 1) := by decide +kernel
theorem dL_676 : decode code 676 = .ok (.iaload, 1) := by decide +kernel
theorem dL_677 : decode code 677 = .ok (.aload_n 0, 1) := by decide +kernel
theorem dL_678 : decode code 678 = .ok (.iload_n 3, 1) := by decide +kernel
theorem dL_679 : decode code 679 = .ok (.iconst 2, 1) := by decide +kernel
theorem dL_680 : decode code 680 = .ok (.iadd, 1) := by decide +kernel
theorem dL_681 : decode code 681 = .ok (.iaload, 1) := by decide +kernel
theorem dL_682 : decode code 682 = .ok (.invokevirtual 76, 3) := by decide +kernel
theorem dL_685 : decode code 685 = .ok (.aload_n 2, 1) := by decide +kernel
theorem dL_686 : decode code 686 = .ok (.aload_n 0, 1) := by decide +kernel
theorem dL_687 : decode code 687 = .ok (.iload_n 3, 1) := by decide +kernel
theorem dL_688 : decode code 688 = .ok (.iconst 1, 1) := by decide +kernel
theorem dL_689 : decode code 689 = .ok (.iadd, 1) := by decide +kernel
theorem dL_690 : decode code 690 = .ok (.iaload, 1) := by decide +kernel
theorem dL_691 : decode code 691 = .ok (.aload_n 0, 1) := by decide +kernel
theorem dL_692 : decode code 692 = .ok (.iload_n 3, 1) := by decide +kernel
theorem dL_693 : decode code 693 = .ok (.iconst 2, 1) := by decide +kernel
theorem dL_694 : decode code 694 = .ok (.iadd, 1) := by decide +kernel
theorem dL_695 : decode code 695 = .ok (.iaload, 1) := by decide +kernel
theorem dL_696 : decode code 696 = .ok (.invokevirtual 79, 3) := by decide +kernel
theorem dL_699 : decode code 699 = .ok (.if_icmp .eq 555, 3) := by decide +kernel
theorem dL_702 : decode code 702 = .ok (.iconst 0, 1) := by decide +kernel
theorem dL_703 : decode code 703 = .ok (.ireturn, 1) := by decide +kernel
theorem dL_704 : decode code 704 = .ok (.aload_n 1, 1) := by decide +kernel
theorem dL_705 : decode code 705 = .ok (.aload_n 0, 1) := by decide +kernel
theorem dL_706 : decode code 706 = .ok (.iload_n 3, 1) := by decide +kernel
theorem dL_707 : decode code 707 = .ok (.iconst 1, 1) := by decide +kernel
theorem dL_708 : decode code 708 = .ok (.iadd, 1) := by decide +kernel
theorem dL_709 : decode code 709 = .ok (.iaload, 1) := by decide +kernel
theorem dL_710 : decode code 710 = .ok (.aload_n 0, 1) := by decide +kernel
theorem dL_711 : decode code 711 = .ok (.iload_n 3, 1) := by decide +kernel
theorem dL_712 : decode code 712 = .ok (.iconst 2, 1) := by decide +kernel
theorem dL_713 : decode code 713 = .ok (.iadd, 1) := by decide +kernel
theorem dL_714 : decode code 714 = .ok (.iaload, 1) := by decide +kernel
theorem dL_715 : decode code 715 = .ok (.aload_n 0, 1) := by decide +kernel
theorem dL_716 : decode code 716 = .ok (.iload_n 3, 1) := by decide +kernel
theorem dL_717 : decode code 717 = .ok (.iconst 3, 1) := by decide +kernel
theorem dL_718 : decode code 718 = .ok (.iadd, 1) := by decide +kernel
theorem dL_719 : decode code 719 = .ok (.iaload, 1) := by decide +kernel
theorem dL_720 : decode code 720 = .ok (.aload_n 0, 1) := by decide +kernel
theorem dL_721 : decode code 721 = .ok (.iload_n 3, 1) := by decide +kernel
theorem dL_722 : decode code 722 = .ok (.iconst 4, 1) := by decide +kernel
theorem dL_723 : decode code 723 = .ok (.iadd, 1) := by decide +kernel
theorem dL_724 : decode code 724 = .ok (.iaload, 1) := by decide +kernel
theorem dL_725 : decode code 725 = .ok (.aload_n 0, 1) := by decide +kernel
theorem dL_726 : decode code 726 = .ok (.iload_n 3, 1) := by decide +kernel
theorem dL_727 : decode code 727 = .ok (.iconst 5, 1) := by decide +kernel
theorem dL_728 : decode code 728 = .ok (.iadd, 1) := by decide +kernel
theorem dL_729 : decode code 729 = .ok (.iaload, 1) := by decide +kernel
theorem dL_730 : decode code 730 = .ok (.invokevirtual 80, 3) := by decide +kernel
theorem dL_733 : decode code 733 = .ok (.aload_n 2, 1) := by decide +kernel
theorem dL_734 : decode code 734 = .ok (.aload_n 0, 1) := by decide +kernel
theorem dL_735 : decode code 735 = .ok (.iload_n 3, 1) := by decide +kernel
theorem dL_736 : decode code 736 = .ok (.iconst 1, 1) := by decide +kernel
theorem dL_737 : decode code 737 = .ok (.iadd, 1) := by decide +kernel
theorem dL_738 : decode code 738 = .ok (.iaload, 1) := by decide +kernel
theorem dL_739 : decode code 739 = .ok (.aload_n 0, 1) := by decide +kernel
theorem dL_740 : decode code 740 = .ok (.iload_n 3, 1) := by decide +kernel
theorem dL_741 : decode code 741 = .ok (.iconst 2, 1) := by decide +kernel
theorem dL_742 : decode code 742 = .ok (.iadd, 1) := by decide +kernel
theorem dL_743 : decode code 743 = .ok (.iaload, 1) := by decide +kernel
theorem dL_744 : decode code 744 = .ok (.aload_n 0, 1) := by decide +kernel
theorem dL_745 : decode code 745 = .ok (.iload_n 3, 1) := by decide +kernel
theorem dL_746 : decode code 746 = .ok (.iconst 3, 1) := by decide +kernel
theorem dL_747 : decode code 747 = .ok (.iadd, 1) := by decide +kernel
theorem dL_748 : decode code 748 = .ok (.iaload, 1) := by decide +kernel
theorem dL_749 : decode code 749 = .ok (.aload_n 0, 1) := by decide +kernel
theorem dL_750 : decode code 750 = .ok (.iload_n 3, 1) := by decide +kernel
theorem dL_751 : decode code 751 = .ok (.iconst 4, 1) := by decide +kernel
theorem dL_752 : decode code 752 = .ok (.iadd, 1) := by decide +kernel
theorem dL_753 : decode code 753 = .ok (.iaload, 1) := by decide +kernel
theorem dL_754 : decode code 754 = .ok (.aload_n 0, 1) := by decide +kernel
theorem dL_755 : decode code 755 = .ok (.iload_n 3, 1) := by decide +kernel
theorem dL_756 : decode code 756 = .ok (.iconst 5, 1) := by decide +kernel
theorem dL_757 : decode code 757 = .ok (.iadd, 1) := by decide +kernel
theorem dL_758 : decode code 758 = .ok (.iaload, 1) := by decide +kernel
theorem dL_759 : decode code 759 = .ok (.invokevirtual 83, 3) := by decide +kernel
theorem dL_762 : decode code 762 = .ok (.lcmp, 1) := by decide +kernel
theorem dL_763 : decode code 763 = .ok (.ifCond .eq 491, 3) := by decide +kernel
theorem dL_766 : decode code 766 = .ok (.iconst 0, 1) := by decide +kernel
theorem dL_767 : decode code 767 = .ok (.ireturn, 1) := by decide +kernel
theorem dL_768 : decode code 768 = .ok (.aload_n 1, 1) := by decide +kernel
theorem dL_769 : decode code 769 = .ok (.invokevirtual 84, 3) := by decide +kernel
theorem dL_772 : decode code 772 = .ok (.aload_n 2, 1) := by decide +kernel
theorem dL_773 : decode code 773 = .ok (.invokevirtual 87, 3) := by decide +kernel
theorem dL_776 : decode code 776 = .ok (.if_icmp .eq 478, 3) := by decide +kernel
theorem dL_779 : decode code 779 = .ok (.iconst 0, 1) := by decide +kernel
theorem dL_780 : decode code 780 = .ok (.ireturn, 1) := by decide +kernel
theorem dL_781 : decode code 781 = .ok (.aload_n 1, 1) := by decide +kernel
theorem dL_782 : decode code 782 = .ok (.invokevirtual 88, 3) := by decide +kernel
theorem dL_785 : decode code 785 = .ok (.aload_n 2, 1) := by decide +kernel
theorem dL_786 : decode code 786 = .ok (.invokevirtual 91, 3) := by decide +kernel
theorem dL_789 : decode code 789 = .ok (.if_icmp .eq 465, 3) := by decide +kernel
theorem dL_792 : decode code 792 = .ok (.iconst 0, 1) := by decide +kernel
theorem dL_793 : decode code 793 = .ok (.ireturn, 1) := by decide +kernel
theorem dL_794 : decode code 794 = .ok (.aload_n 1, 1) := by decide +kernel
theorem dL_795 : decode code 795 = .ok (.aload_n 0, 1) := by decide +kernel
theorem dL_796 : decode code 796 = .ok (.iload_n 3, 1) := by decide +kernel
theorem dL_797 : decode code 797 = .ok (.iconst 1, 1) := by decide +kernel
theorem dL_798 : decode code 798 = .ok (.iadd, 1) := by decide +kernel
theorem dL_799 : decode code 799 = .ok (.iaload, 1) := by decide +kernel
theorem dL_800 : decode code 800 = .ok (.aload_n 0, 1) := by decide +kernel
theorem dL_801 : decode code 801 = .ok (.iload_n 3, 1) := by decide +kernel
theorem dL_802 : decode code 802 = .ok (.iconst 2, 1) := by decide +kernel
theorem dL_803 : decode code 803 = .ok (.iadd, 1) := by decide +kernel
theorem dL_804 : decode code 804 = .ok (.iaload, 1) := by decide +kernel
theorem dL_805 : decode code 805 = .ok (.aload_n 0, 1) := by decide +kernel
theorem dL_806 : decode code 806 = .ok (.iload_n 3, 1) := by decide +kernel
theorem dL_807 : decode code 807 = .ok (.iconst 3, 1) := by decide +kernel
theorem dL_808 : decode code 808 = .ok (.iadd, 1) := by decide +kernel
theorem dL_809 : decode code 809 = .ok (.iaload, 1) := by decide +kernel
theorem dL_810 : decode code 810 = .ok (.invokevirtual 92, 3) := by decide +kernel
theorem dL_813 : decode code 813 = .ok (.aload_n 2, 1) := by decide +kernel
theorem dL_814 : decode code 814 = .ok (.aload_n 0, 1) := by decide +kernel
theorem dL_815 : decode code 815 = .ok (.iload_n 3, 1) := by decide +kernel
theorem dL_816 : decode code 816 = .ok (.iconst 1, 1) := by decide +kernel
theorem dL_817 : decode code 817 = .ok (.iadd, 1) := by decide +kernel
theorem dL_818 : decode code 818 = .ok (.iaload, 1) := by decide +kernel
theorem dL_819 : decode code 819 = .ok (.aload_n 0, 1) := by decide +kernel
theorem dL_820 : decode code 820 = .ok (.iload_n 3, 1) := by decide +kernel
theorem dL_821 : decode code 821 = .ok (.iconst 2, 1) := by decide +kernel
theorem dL_822 : decode code 822 = .ok (.iadd, 1) := by decide +kernel
theorem dL_823 : decode code 823 = .ok (.iaload, 1) := by decide +kernel
theorem dL_824 : decode code 824 = .ok (.aload_n 0, 1) := by decide +kernel
theorem dL_825 : decode code 825 = .ok (.iload_n 3, 1) := by decide +kernel
theorem dL_826 : decode code 826 = .ok (.iconst 3, 1) := by decide +kernel
theorem dL_827 : decode code 827 = .ok (.iadd, 1) := by decide +kernel
theorem dL_828 : decode code 828 = .ok (.iaload, 1) := by decide +kernel
theorem dL_829 : decode code 829 = .ok (.invokevirtual 95, 3) := by decide +kernel
theorem dL_832 : decode code 832 = .ok (.if_icmp .eq 422, 3) := by decide +kernel
theorem dL_835 : decode code 835 = .ok (.iconst 0, 1) := by decide +kernel
theorem dL_836 : decode code 836 = .ok (.ireturn, 1) := by decide +kernel
theorem dL_837 : decode code 837 = .ok (.aload_n 1, 1) := by decide +kernel
theorem dL_838 : decode code 838 = .ok (.aload_n 0, 1) := by decide +kernel
theorem dL_839 : decode code 839 = .ok (.iload_n 3, 1) := by decide +kernel
theorem dL_840 : decode code 840 = .ok (.iconst 1, 1) := by decide +kernel
theorem dL_841 : decode code 841 = .ok (.iadd, 1) := by decide +kernel
theorem dL_842 : decode code 842 = .ok (.iaload, 1) := by decide +kernel
theorem dL_843 : decode code 843 = .ok (.invokevirtual 96, 3) := by decide +kernel
theorem dL_846 : decode code 846 = .ok (.aload_n 2, 1) := by decide +kernel
theorem dL_847 : decode code 847 = .ok (.aload_n 0, 1) := by decide +kernel
theorem dL_848 : decode code 848 = .ok (.iload_n 3, 1) := by decide +kernel
theorem dL_849 : decode code 849 = .ok (.iconst 1, 1) := by decide +kernel
theorem dL_850 : decode code 850 = .ok (.iadd, 1) := by decide +kernel
theorem dL_851 : decode code 851 = .ok (.iaload, 1) := by decide +kernel
theorem dL_852 : decode code 852 = .ok (.invokevirtual 99, 3) := by decide +kernel
theorem dL_855 : decode code 855 = .ok (.if_icmp .eq 399, 3) := by decide +kernel
theorem dL_858 : decode code 858 = .ok (.iconst 0, 1) := by decide +kernel
theorem dL_859 : decode code 859 = .ok (.ireturn, 1) := by decide +kernel
theorem dL_860 : decode code 860 = .ok (.aload_n 1, 1) := by decide +kernel
theorem dL_861 : decode code 861 = .ok (.aload_n 0, 1) := by decide +kernel
theorem dL_862 : decode code 862 = .ok (.iload_n 3, 1) := by decide +kernel
theorem dL_863 : decode code 863 = .ok (.iconst 1, 1) := by decide +kernel
theorem dL_864 : decode code 864 = .ok (.iadd, 1) := by decide +kernel
theorem dL_865 : decode code 865 = .ok (.iaload, 1) := by decide +kernel
theorem dL_866 : decode code 866 = .ok (.aload_n 0, 1) := by decide +kernel
theorem dL_867 : decode code 867 = .ok (.iload_n 3, 1) := by decide +kernel
theorem dL_868 : decode code 868 = .ok (.iconst 2, 1) := by decide +kernel
theorem dL_869 : decode code 869 = .ok (.iadd, 1) := by decide +kernel
theorem dL_870 : decode code 870 = .ok (.iaload, 1) := by decide +kernel
theorem dL_871 : decode code 871 = .ok (.invokevirtual 100, 3) := by decide +kernel
theorem dL_874 : decode code 874 = .ok (.aload_n 2, 1) := by decide +kernel
theorem dL_875 : decode code 875 = .ok (.aload_n 0, 1) := by decide +kernel
theorem dL_876 : decode code 876 = .ok (.iload_n 3, 1) := by decide +kernel
theorem dL_877 : decode code 877 = .ok (.iconst 1, 1) := by decide +kernel
theorem dL_878 : decode code 878 = .ok (.iadd, 1) := by decide +kernel
theorem dL_879 : decode code 879 = .ok (.iaload, 1) := by decide +kernel
theorem dL_880 : decode code 880 = .ok (.aload_n 0, 1) := by decide +kernel
theorem dL_881 : decode code 881 = .ok (.iload_n 3, 1) := by decide +kernel
theorem dL_882 : decode code 882 = .ok (.iconst 2, 1) := by decide +kernel
theorem dL_883 : decode code 883 = .ok (.iadd, 1) := by decide +kernel
theorem dL_884 : decode code 884 = .ok (.iaload, 1) := by decide +kernel
theorem dL_885 : decode code 885 = .ok (.invokevirtual 103, 3) := by decide +kernel
theorem dL_888 : decode code 888 = .ok (.if_icmp .eq 366, 3) := by decide +kernel
theorem dL_891 : decode code 891 = .ok (.iconst 0, 1) := by decide +kernel
theorem dL_892 : decode code 892 = .ok (.ireturn, 1) := by decide +kernel
theorem dL_893 : decode code 893 = .ok (.aload_n 1, 1) := by decide +kernel
theorem dL_894 : decode code 894 = .ok (.invokevirtual 104, 3) := by decide +kernel
theorem dL_897 : decode code 897 = .ok (.aload_n 2, 1) := by decide +kernel
theorem dL_898 : decode code 898 = .ok (.invokevirtual 107, 3) := by decide +kernel
theorem dL_901 : decode code 901 = .ok (.if_icmp .eq 353, 3) := by decide +kernel
theorem dL_904 : decode code 904 = .ok (.iconst 0, 1) := by decide +kernel
theorem dL_905 : decode code 905 = .ok (.ireturn, 1) := by decide +kernel
theorem dL_906 : decode code 906 = .ok (.aload_n 1, 1) := by decide +kernel
theorem dL_907 : decode code 907 = .ok (.invokevirtual 108, 3) := by decide +kernel
theorem dL_910 : decode code 910 = .ok (.aload_n 2, 1) := by decide +kernel
theorem dL_911 : decode code 911 = .ok (.invokevirtual 111, 3) := by decide +kernel
theorem dL_914 : decode code 914 = .ok (.if_icmp .eq 340, 3) := by decide +kernel
theorem dL_917 : decode code 917 = .ok (.iconst 0, 1) := by decide +kernel
theorem dL_918 : decode code 918 = .ok (.ireturn, 1) := by decide +kernel
theorem dL_919 : decode code 919 = .ok (.aload_n 1, 1) := by decide +kernel
theorem dL_920 : decode code 920 = .ok (.aload_n 0, 1) := by decide +kernel
theorem dL_921 : decode code 921 = .ok (.iload_n 3, 1) := by decide +kernel
theorem dL_922 : decode code 922 = .ok (.iconst 1, 1) := by decide +kernel
theorem dL_923 : decode code 923 = .ok (.iadd, 1) := by decide +kernel
theorem dL_924 : decode code 924 = .ok (.iaload, 1) := by decide +kernel
theorem dL_925 : decode code 925 = .ok (.aload_n 0, 1) := by decide +kernel
theorem dL_926 : decode code 926 = .ok (.iload_n 3, 1) := by decide +kernel
theorem dL_927 : decode code 927 = .ok (.iconst 2, 1) := by decide +kernel
theorem dL_928 : decode code 928 = .ok (.iadd, 1) := by decide +kernel
theorem dL_929 : decode code 929 = .ok (.iaload, 1) := by decide +kernel
theorem dL_930 : decode code 930 = .ok (.aload_n 0, 1) := by decide +kernel
theorem dL_931 : decode code 931 = .ok (.iload_n 3, 1) := by decide +kernel
theorem dL_932 : decode code 932 = .ok (.iconst 3, 1) := by decide +kernel
theorem dL_933 : decode code 933 = .ok (.iadd, 1) := by decide +kernel
theorem dL_934 : decode code 934 = .ok (.iaload, 1) := by decide +kernel
theorem dL_935 : decode code 935 = .ok (.invokevirtual 112, 3) := by decide +kernel
theorem dL_938 : decode code 938 = .ok (.aload_n 2, 1) := by decide +kernel
theorem dL_939 : decode code 939 = .ok (.aload_n 0, 1) := by decide +kernel
theorem dL_940 : decode code 940 = .ok (.iload_n 3, 1) := by decide +kernel
theorem dL_941 : decode code 941 = .ok (.iconst 1, 1) := by decide +kernel
theorem dL_942 : decode code 942 = .ok (.iadd, 1) := by decide +kernel
theorem dL_943 : decode code 943 = .ok (.iaload, 1) := by decide +kernel
theorem dL_944 : decode code 944 = .ok (.aload_n 0, 1) := by decide +kernel
theorem dL_945 : decode code 945 = .ok (.iload_n 3, 1) := by decide +kernel
theorem dL_946 : decode code 946 = .ok (.iconst 2, 1) := by decide +kernel
theorem dL_947 : decode code 947 = .ok (.iadd, 1) := by decide +kernel
theorem dL_948 : decode code 948 = .ok (.iaload, 1) := by decide +kernel
theorem dL_949 : decode code 949 = .ok (.aload_n 0, 1) := by decide +kernel
theorem dL_950 : decode code 950 = .ok (.iload_n 3, 1) := by decide +kernel
theorem dL_951 : decode code 951 = .ok (.iconst 3, 1) := by decide +kernel
theorem dL_952 : decode code 952 = .ok (.iadd, 1) := by decide +kernel
theorem dL_953 : decode code 953 = .ok (.iaload, 1) := by decide +kernel
theorem dL_954 : decode code 954 = .ok (.invokevirtual 115, 3) := by decide +kernel
theorem dL_957 : decode code 957 = .ok (.if_icmp .eq 297, 3) := by decide +kernel
theorem dL_960 : decode code 960 = .ok (.iconst 0, 1) := by decide +kernel
theorem dL_961 : decode code 961 = .ok (.ireturn, 1) := by decide +kernel
theorem dL_962 : decode code 962 = .ok (.aload_n 1, 1) := by decide +kernel
theorem dL_963 : decode code 963 = .ok (.aload_n 0, 1) := by decide +kernel
theorem dL_964 : decode code 964 = .ok (.iload_n 3, 1) := by decide +kernel
theorem dL_965 : decode code 965 = .ok (.iconst 1, 1) := by decide +kernel
theorem dL_966 : decode code 966 = .ok (.iadd, 1) := by decide +kernel
theorem dL_967 : decode code 967 = .ok (.iaload, 1) := by decide +kernel
theorem dL_968 : decode code 968 = .ok (.invokevirtual 116, 3) := by decide +kernel
theorem dL_971 : decode code 971 = .ok (.aload_n 2, 1) := by decide +kernel
theorem dL_972 : decode code 972 = .ok (.aload_n 0, 1) := by decide +kernel
theorem dL_973 : decode code 973 = .ok (.iload_n 3, 1) := by decide +kernel
theorem dL_974 : decode code 974 = .ok (.iconst 1, 1) := by decide +kernel
theorem dL_975 : decode code 975 = .ok (.iadd, 1) := by decide +kernel
theorem dL_976 : decode code 976 = .ok (.iaload, 1) := by decide +kernel
theorem dL_977 : decode code 977 = .ok (.invokevirtual 119, 3) := by decide +kernel
theorem dL_980 : decode code 980 = .ok (.if_icmp .eq 274, 3) := by decide +kernel
theorem dL_983 : decode code 983 = .ok (.iconst 0, 1) := by decide +kernel
theorem dL_984 : decode code 984 = .ok (.ireturn, 1) := by decide +kernel
theorem dL_985 : decode code 985 = .ok (.aload_n 1, 1) := by decide +kernel
theorem dL_986 : decode code 986 = .ok (.aload_n 0, 1) := by decide +kernel
theorem dL_987 : decode code 987 = .ok (.iload_n 3, 1) := by decide +kernel
theorem dL_988 : decode code 988 = .ok (.iconst 1, 1) := by decide +kernel
theorem dL_989 : decode code 989 = .ok (.iadd, 1) := by decide +kernel
theorem dL_990 : decode code 990 = .ok (.iaload, 1) := by decide +kernel
theorem dL_991 : decode code 991 = .ok (.aload_n 0, 1) := by decide +kernel
theorem dL_992 : decode code 992 = .ok (.iload_n 3, 1) := by decide +kernel
theorem dL_993 : decode code 993 = .ok (.iconst 2, 1) := by decide +kernel
theorem dL_994 : decode code 994 = .ok (.iadd, 1) := by decide +kernel
theorem dL_995 : decode code 995 = .ok (.iaload, 1) := by decide +kernel
theorem dL_996 : decode code 996 = .ok (.invokevirtual 120, 3) := by decide +kernel
theorem dL_999 : decode code 999 = .ok (.aload_n 2, 1) := by decide +kernel
theorem dL_1000 : decode code 1000 = .ok (.aload_n 0, 1) := by decide +kernel
theorem dL_1001 : decode code 1001 = .ok (.iload_n 3, 1) := by decide +kernel
theorem dL_1002 : decode code 1002 = .ok (.iconst 1, 1) := by decide +kernel
theorem dL_1003 : decode code 1003 = .ok (.iadd, 1) := by decide +kernel
theorem dL_1004 : decode code 1004 = .ok (.iaload, 1) := by decide +kernel
theorem dL_1005 : decode code 1005 = .ok (.aload_n 0, 1) := by decide +kernel
theorem dL_1006 : decode code 1006 = .ok (.iload_n 3, 1) := by decide +kernel
theorem dL_1007 : decode code 1007 = .ok (.iconst 2, 1) := by decide +kernel
theorem dL_1008 : decode code 1008 = .ok (.iadd, 1) := by decide +kernel
theorem dL_1009 : decode code 1009 = .ok (.iaload, 1) := by decide +kernel
theorem dL_1010 : decode code 1010 = .ok (.invokevirtual 123, 3) := by decide +kernel
theorem dL_1013 : decode code 1013 = .ok (.if_icmp .eq 241, 3) := by decide +kernel
theorem dL_1016 : decode code 1016 = .ok (.iconst 0, 1) := by decide +kernel
theorem dL_1017 : decode code 1017 = .ok (.ireturn, 1) := by decide +kernel
theorem dL_1018 : decode code 1018 = .ok (.aload_n 1, 1) := by decide +kernel
theorem dL_1019 : decode code 1019 = .ok (.aload_n 0, 1) := by decide +kernel
theorem dL_1020 : decode code 1020 = .ok (.iload_n 3, 1) := by decide +kernel
theorem dL_1021 : decode code 1021 = .ok (.iconst 1, 1) := by decide +kernel
theorem dL_1022 : decode code 1022 = .ok (.iadd, 1) := by decide +kernel
theorem dL_1023 : decode code 1023 = .ok (.iaload, 1) := by decide +kernel
theorem dL_1024 : decode code 1024 = .ok (.invokevirtual 124, 3) := by decide +kernel
theorem dL_1027 : decode code 1027 = .ok (.aload_n 2, 1) := by decide +kernel
theorem dL_1028 : decode code 1028 = .ok (.aload_n 0, 1) := by decide +kernel
theorem dL_1029 : decode code 1029 = .ok (.iload_n 3, 1) := by decide +kernel
theorem dL_1030 : decode code 1030 = .ok (.iconst 1, 1) := by decide +kernel
theorem dL_1031 : decode code 1031 = .ok (.iadd, 1) := by decide +kernel
theorem dL_1032 : decode code 1032 = .ok (.iaload, 1) := by decide +kernel
theorem dL_1033 : decode code 1033 = .ok (.invokevirtual 127, 3) := by decide +kernel
theorem dL_1036 : decode code 1036 = .ok (.if_icmp .eq 218, 3) := by decide +kernel
theorem dL_1039 : decode code 1039 = .ok (.iconst 0, 1) := by decide +kernel
theorem dL_1040 : decode code 1040 = .ok (.ireturn, 1) := by decide +kernel
theorem dL_1041 : decode code 1041 = .ok (.aload_n 1, 1) := by decide +kernel
theorem dL_1042 : decode code 1042 = .ok (.aload_n 0, 1) := by decide +kernel
theorem dL_1043 : decode code 1043 = .ok (.iload_n 3, 1) := by decide +kernel
theorem dL_1044 : decode code 1044 = .ok (.iconst 1, 1) := by decide +kernel
theorem dL_1045 : decode code 1045 = .ok (.iadd, 1) := by decide +kernel
theorem dL_1046 : decode code 1046 = .ok (.iaload, 1) := by decide +kernel
theorem dL_1047 : decode code 1047 = .ok (.aload_n 0, 1) := by decide +kernel
theorem dL_1048 : decode code 1048 = .ok (.iload_n 3, 1) := by decide +kernel
theorem dL_1049 : decode code 1049 = .ok (.iconst 2, 1) := by decide +kernel
theorem dL_1050 : decode code 1050 = .ok (.iadd, 1) := by decide +kernel
theorem dL_1051 : decode code 1051 = .ok (.iaload, 1) := by decide +kernel
theorem dL_1052 : decode code 1052 = .ok (.aload_n 0, 1) := by decide +kernel
theorem dL_1053 : decode code 1053 = .ok (.iload_n 3, 1) := by decide +kernel
theorem dL_1054 : decode code 1054 = .ok (.iconst 3, 1) := by decide +kernel
theorem dL_1055 : decode code 1055 = .ok (.iadd, 1) := by decide +kernel
theorem dL_1056 : decode code 1056 = .ok (.iaload, 1) := by decide +kernel
theorem dL_1057 : decode code 1057 = .ok (.invokevirtual 128, 3) := by decide +kernel
theorem dL_1060 : decode code 1060 = .ok (.aload_n 2, 1) := by decide +kernel
theorem dL_1061 : decode code 1061 = .ok (.aload_n 0, 1) := by decide +kernel
theorem dL_1062 : decode code 1062 = .ok (.iload_n 3, 1) := by decide +kernel
theorem dL_1063 : decode code 1063 = .ok (.iconst 1, 1) := by decide +kernel
theorem dL_1064 : decode code 1064 = .ok (.iadd, 1) := by decide +kernel
theorem dL_1065 : decode code 1065 = .ok (.iaload, 1) := by decide +kernel
theorem dL_1066 : decode code 1066 = .ok (.aload_n 0, 1) := by decide +kernel
theorem dL_1067 : decode code 1067 = .ok (.iload_n 3, 1) := by decide +kernel
theorem dL_1068 : decode code 1068 = .ok (.iconst 2, 1) := by decide +kernel
theorem dL_1069 : decode code 1069 = .ok (.iadd, 1) := by decide +kernel
theorem dL_1070 : decode code 1070 = .ok (.iaload, 1) := by decide +kernel
theorem dL_1071 : decode code 1071 = .ok (.aload_n 0, 1) := by decide +kernel
theorem dL_1072 : decode code 1072 = .ok (.iload_n 3, 1) := by decide +kernel
theorem dL_1073 : decode code 1073 = .ok (.iconst 3, 1) := by decide +kernel
theorem dL_1074 : decode code 1074 = .ok (.iadd, 1) := by decide +kernel
theorem dL_1075 : decode code 1075 = .ok (.iaload, 1) := by decide +kernel
theorem dL_1076 : decode code 1076 = .ok (.invokevirtual 131, 3) := by decide +kernel
theorem dL_1079 : decode code 1079 = .ok (.if_icmp .eq 175, 3) := by decide +kernel
theorem dL_1082 : decode code 1082 = .ok (.iconst 0, 1) := by decide +kernel
theorem dL_1083 : decode code 1083 = .ok (.ireturn, 1) := by decide +kernel
theorem dL_1084 : decode code 1084 = .ok (.aload_n 1, 1) := by decide +kernel
theorem dL_1085 : decode code 1085 = .ok (.aload_n 0, 1) := by decide +kernel
theorem dL_1086 : decode code 1086 = .ok (.iload_n 3, 1) := by decide +kernel
theorem dL_1087 : decode code 1087 = .ok (.iconst 1, 1) := by decide +kernel
theorem dL_1088 : decode code 1088 = .ok (.iadd, 1) := by decide +kernel
theorem dL_1089 : decode code 1089 = .ok (.iaload, 1) := by decide +kernel
theorem dL_1090 : decode code 1090 = .ok (.aload_n 0, 1) := by decide +kernel
theorem dL_1091 : decode code 1091 = .ok (.iload_n 3, 1) := by decide +kernel
theorem dL_1092 : decode code 1092 = .ok (.iconst 2, 1) := by decide +kernel
theorem dL_1093 : decode code 1093 = .ok (.iadd, 1) := by decide +kernel
theorem dL_1094 : decode code 1094 = .ok (.iaload, 1) := by decide +kernel
theorem dL_1095 : decode code 1095 = .ok (.aload_n 0, 1) := by decide +kernel
theorem dL_1096 : decode code 1096 = .ok (.iload_n 3, 1) := by decide +kernel
theorem dL_1097 : decode code 1097 = .ok (.iconst 3, 1) := by decide +kernel
theorem dL_1098 : decode code 1098 = .ok (.iadd, 1) := by decide +kernel
theorem dL_1099 : decode code 1099 = .ok (.iaload, 1) := by decide +kernel
theorem dL_1100 : decode code 1100 = .ok (.i2l, 1) := by decide +kernel
theorem dL_1101 : decode code 1101 = .ok (.bipush 32, 2) := by decide +kernel
theorem dL_1103 : decode code 1103 = .ok (.lshl, 1) := by decide +kernel
theorem dL_1104 : decode code 1104 = .ok (.aload_n 0, 1) := by decide +kernel
theorem dL_1105 : decode code 1105 = .ok (.iload_n 3, 1) := by decide +kernel
theorem dL_1106 : decode code 1106 = .ok (.iconst 4, 1) := by decide +kernel
theorem dL_1107 : decode code 1107 = .ok (.iadd, 1) := by decide +kernel
theorem dL_1108 : decode code 1108 = .ok (.iaload, 1) := by decide +kernel
theorem dL_1109 : decode code 1109 = .ok (.i2l, 1) := by decide +kernel
theorem dL_1110 : decode code 1110 = .ok (.ldc2_w 132, 3) := by decide +kernel
theorem dL_1113 : decode code 1113 = .ok (.land, 1) := by decide +kernel
theorem dL_1114 : decode code 1114 = .ok (.lor, 1) := by decide +kernel
theorem dL_1115 : decode code 1115 = .ok (.invokevirtual 134, 3) := by decide +kernel
theorem dL_1118 : decode code 1118 = .ok (.aload_n 2, 1) := by decide +kernel
theorem dL_1119 : decode code 1119 = .ok (.aload_n 0, 1) := by decide +kernel
theorem dL_1120 : decode code 1120 = .ok (.iload_n 3, 1) := by decide +kernel
theorem dL_1121 : decode code 1121 = .ok (.iconst 1, 1) := by decide +kernel
theorem dL_1122 : decode code 1122 = .ok (.iadd, 1) := by decide +kernel
theorem dL_1123 : decode code 1123 = .ok (.iaload, 1) := by decide +kernel
theorem dL_1124 : decode code 1124 = .ok (.aload_n 0, 1) := by decide +kernel
theorem dL_1125 : decode code 1125 = .ok (.iload_n 3, 1) := by decide +kernel
theorem dL_1126 : decode code 1126 = .ok (.iconst 2, 1) := by decide +kernel
theorem dL_1127 : decode code 1127 = .ok (.iadd, 1) := by decide +kernel
theorem dL_1128 : decode code 1128 = .ok (.iaload, 1) := by decide +kernel
theorem dL_1129 : decode code 1129 = .ok (.aload_n 0, 1) := by decide +kernel
theorem dL_1130 : decode code 1130 = .ok (.iload_n 3, 1) := by decide +kernel
theorem dL_1131 : decode code 1131 = .ok (.iconst 3, 1) := by decide +kernel
theorem dL_1132 : decode code 1132 = .ok (.iadd, 1) := by decide +kernel
theorem dL_1133 : decode code 1133 = .ok (.iaload, 1) := by decide +kernel
theorem dL_1134 : decode code 1134 = .ok (.i2l, 1) := by decide +kernel
theorem dL_1135 : decode code 1135 = .ok (.bipush 32, 2) := by decide +kernel
theorem dL_1137 : decode code 1137 = .ok (.lshl, 1) := by decide +kernel
theorem dL_1138 : decode code 1138 = .ok (.aload_n 0, 1) := by decide +kernel
theorem dL_1139 : decode code 1139 = .ok (.iload_n 3, 1) := by decide +kernel
theorem dL_1140 : decode code 1140 = .ok (.iconst 4, 1) := by decide +kernel
theorem dL_1141 : decode code 1141 = .ok (.iadd, 1) := by decide +kernel
theorem dL_1142 : decode code 1142 = .ok (.iaload, 1) := by decide +kernel
theorem dL_1143 : decode code 1143 = .ok (.i2l, 1) := by decide +kernel
theorem dL_1144 : decode code 1144 = .ok (.ldc2_w 132, 3) := by decide +kernel
theorem dL_1147 : decode code 1147 = .ok (.land, 1) := by decide +kernel
theorem dL_1148 : decode code 1148 = .ok (.lor, 1) := by decide +kernel
theorem dL_1149 : decode code 1149 = .ok (.invokevirtual 138, 3) := by decide +kernel
theorem dL_1152 : decode code 1152 = .ok (.if_icmp .eq 102, 3) := by decide +kernel
theorem dL_1155 : decode code 1155 = .ok (.iconst 0, 1) := by decide +kernel
theorem dL_1156 : decode code 1156 = .ok (.ireturn, 1) := by decide +kernel
theorem dL_1157 : decode code 1157 = .ok (.aload_n 1, 1) := by decide +kernel
theorem dL_1158 : decode code 1158 = .ok (.aload_n 0, 1) := by decide +kernel
theorem dL_1159 : decode code 1159 = .ok (.iload_n 3, 1) := by decide +kernel
theorem dL_1160 : decode code 1160 = .ok (.iconst 1, 1) := by decide +kernel
theorem dL_1161 : decode code 1161 = .ok (.iadd, 1) := by decide +kernel
theorem dL_1162 : decode code 1162 = .ok (.iaload, 1) := by decide +kernel
theorem dL_1163 : decode code 1163 = .ok (.aload_n 0, 1) := by decide +kernel
theorem dL_1164 : decode code 1164 = .ok (.iload_n 3, 1) := by decide +kernel
theorem dL_1165 : decode code 1165 = .ok (.iconst 2, 1) := by decide +kernel
theorem dL_1166 : decode code 1166 = .ok (.iadd, 1) := by decide +kernel
theorem dL_1167 : decode code 1167 = .ok (.iaload, 1) := by decide +kernel
theorem dL_1168 : decode code 1168 = .ok (.invokevirtual 139, 3) := by decide +kernel
theorem dL_1171 : decode code 1171 = .ok (.aload_n 2, 1) := by decide +kernel
theorem dL_1172 : decode code 1172 = .ok (.aload_n 0, 1) := by decide +kernel
theorem dL_1173 : decode code 1173 = .ok (.iload_n 3, 1) := by decide +kernel
theorem dL_1174 : decode code 1174 = .ok (.iconst 1, 1) := by decide +kernel
theorem dL_1175 : decode code 1175 = .ok (.iadd, 1) := by decide +kernel
theorem dL_1176 : decode code 1176 = .ok (.iaload, 1) := by decide +kernel
theorem dL_1177 : decode code 1177 = .ok (.aload_n 0, 1) := by decide +kernel
theorem dL_1178 : decode code 1178 = .ok (.iload_n 3, 1) := by decide +kernel
theorem dL_1179 : decode code 1179 = .ok (.iconst 2, 1) := by decide +kernel
theorem dL_1180 : decode code 1180 = .ok (.iadd, 1) := by decide +kernel
theorem dL_1181 : decode code 1181 = .ok (.iaload, 1) := by decide +kernel
theorem dL_1182 : decode code 1182 = .ok (.invokevirtual 143, 3) := by decide +kernel
theorem dL_1185 : decode code 1185 = .ok (.lcmp, 1) := by decide +kernel
theorem dL_1186 : decode code 1186 = .ok (.ifCond .eq 68, 3) := by decide +kernel
theorem dL_1189 : decode code 1189 = .ok (.iconst 0, 1) := by decide +kernel
theorem dL_1190 : decode code 1190 = .ok (.ireturn, 1) := by decide +kernel
theorem dL_1191 : decode code 1191 = .ok (.aload_n 1, 1) := by decide +kernel
theorem dL_1192 : decode code 1192 = .ok (.aload_n 0, 1) := by decide +kernel
theorem dL_1193 : decode code 1193 = .ok (.iload_n 3, 1) := by decide +kernel
theorem dL_1194 : decode code 1194 = .ok (.iconst 1, 1) := by decide +kernel
theorem dL_1195 : decode code 1195 = .ok (.iadd, 1) := by decide +kernel
theorem dL_1196 : decode code 1196 = .ok (.iaload, 1) := by decide +kernel
theorem dL_1197 : decode code 1197 = .ok (.aload_n 0, 1) := by decide +kernel
theorem dL_1198 : decode code 1198 = .ok (.iload_n 3, 1) := by decide +kernel
theorem dL_1199 : decode code 1199 = .ok (.iconst 2, 1) := by decide +kernel
theorem dL_1200 : decode code 1200 = .ok (.iadd, 1) := by decide +kernel
theorem dL_1201 : decode code 1201 = .ok (.iaload, 1) := by decide +kernel
theorem dL_1202 : decode code 1202 = .ok (.aload_n 0, 1) := by decide +kernel
theorem dL_1203 : decode code 1203 = .ok (.iload_n 3, 1) := by decide +kernel
theorem dL_1204 : decode code 1204 = .ok (.iconst 3, 1) := by decide +kernel
theorem dL_1205 : decode code 1205 = .ok (.iadd, 1) := by decide +kernel
theorem dL_1206 : decode code 1206 = .ok (.iaload, 1) := by decide +kernel
theorem dL_1207 : decode code 1207 = .ok (.aload_n 0, 1) := by decide +kernel
theorem dL_1208 : decode code 1208 = .ok (.iload_n 3, 1) := by decide +kernel
theorem dL_1209 : decode code 1209 = .ok (.iconst 4, 1) := by decide +kernel
theorem dL_1210 : decode code 1210 = .ok (.iadd, 1) := by decide +kernel
theorem dL_1211 : decode code 1211 = .ok (.iaload, 1) := by decide +kernel
theorem dL_1212 : decode code 1212 = .ok (.aload_n 0, 1) := by decide +kernel
theorem dL_1213 : decode code 1213 = .ok (.iload_n 3, 1) := by decide +kernel
theorem dL_1214 : decode code 1214 = .ok (.iconst 5, 1) := by decide +kernel
theorem dL_1215 : decode code 1215 = .ok (.iadd, 1) := by decide +kernel
theorem dL_1216 : decode code 1216 = .ok (.iaload, 1) := by decide +kernel
theorem dL_1217 : decode code 1217 = .ok (.invokevirtual 144, 3) := by decide +kernel
theorem dL_1220 : decode code 1220 = .ok (.aload_n 2, 1) := by decide +kernel
theorem dL_1221 : decode code 1221 = .ok (.aload_n 0, 1) := by decide +kernel
theorem dL_1222 : decode code 1222 = .ok (.iload_n 3, 1) := by decide +kernel
theorem dL_1223 : decode code 1223 = .ok (.iconst 1, 1) := by decide +kernel
theorem dL_1224 : decode code 1224 = .ok (.iadd, 1) := by decide +kernel
theorem dL_1225 : decode code 1225 = .ok (.iaload, 1) := by decide +kernel
theorem dL_1226 : decode code 1226 = .ok (.aload_n 0, 1) := by decide +kernel
theorem dL_1227 : decode code 1227 = .ok (.iload_n 3, 1) := by decide +kernel
theorem dL_1228 : decode code 1228 = .ok (.iconst 2, 1) := by decide +kernel
theorem dL_1229 : decode code 1229 = .ok (.iadd, 1) := by decide +kernel
theorem dL_1230 : decode code 1230 = .ok (.iaload, 1) := by decide +kernel
theorem dL_1231 : decode code 1231 = .ok (.aload_n 0, 1) := by decide +kernel
theorem dL_1232 : decode code 1232 = .ok (.iload_n 3, 1) := by decide +kernel
theorem dL_1233 : decode code 1233 = .ok (.iconst 3, 1) := by decide +kernel
theorem dL_1234 : decode code 1234 = .ok (.iadd, 1) := by decide +kernel
theorem dL_1235 : decode code 1235 = .ok (.iaload, 1) := by decide +kernel
theorem dL_1236 : decode code 1236 = .ok (.aload_n 0, 1) := by decide +kernel
theorem dL_1237 : decode code 1237 = .ok (.iload_n 3, 1) := by decide +kernel
theorem dL_1238 : decode code 1238 = .ok (.iconst 4, 1) := by decide +kernel
theorem dL_1239 : decode code 1239 = .ok (.iadd, 1) := by decide +kernel
theorem dL_1240 : decode code 1240 = .ok (.iaload, 1) := by decide +kernel
theorem dL_1241 : decode code 1241 = .ok (.aload_n 0, 1) := by decide +kernel
theorem dL_1242 : decode code 1242 = .ok (.iload_n 3, 1) := by decide +kernel
theorem dL_1243 : decode code 1243 = .ok (.iconst 5, 1) := by decide +kernel
theorem dL_1244 : decode code 1244 = .ok (.iadd, 1) := by decide +kernel
theorem dL_1245 : decode code 1245 = .ok (.iaload, 1) := by decide +kernel
theorem dL_1246 : decode code 1246 = .ok (.invokevirtual 148, 3) := by decide +kernel
theorem dL_1249 : decode code 1249 = .ok (.if_icmp .eq 5, 3) := by decide +kernel
theorem dL_1252 : decode code 1252 = .ok (.iconst 0, 1) := by decide +kernel
theorem dL_1253 : decode code 1253 = .ok (.ireturn, 1) := by decide +kernel
theorem dL_1254 : decode code 1254 = .ok (.iinc 3 6, 3) := by decide +kernel
theorem dL_1257 : decode code 1257 = .ok (.goto (-1239), 3) := by decide +kernel
theorem dL_1260 : decode code 1260 = .ok (.iconst 1, 1) := by decide +kernel
theorem dL_1261 : decode code 1261 = .ok (.ireturn, 1) := by decide +kernel
