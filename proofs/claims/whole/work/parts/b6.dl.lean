-- after: b5.lr
theorem dL_law__0 : decode cL_law_ 0 = .ok (.new 8, 3) := by decide +kernel
theorem dL_law__3 : decode cL_law_ 3 = .ok (.dup, 1) := by decide +kernel
theorem dL_law__4 : decode cL_law_ 4 = .ok (.invokespecial 119, 3) := by decide +kernel
theorem dL_law__7 : decode cL_law_ 7 = .ok (.astore_n 1, 1) := by decide +kernel
theorem dL_law__8 : decode cL_law_ 8 = .ok (.new 120, 3) := by decide +kernel
theorem dL_law__11 : decode cL_law_ 11 = .ok (.dup, 1) := by decide +kernel
theorem dL_law__12 : decode cL_law_ 12 = .ok (.invokespecial 122, 3) := by decide +kernel
theorem dL_law__15 : decode cL_law_ 15 = .ok (.astore_n 2, 1) := by decide +kernel
theorem dL_law__16 : decode cL_law_ 16 = .ok (.iconst 1, 1) := by decide +kernel
theorem dL_law__17 : decode cL_law_ 17 = .ok (.newarray .long, 2) := by decide +kernel
theorem dL_law__19 : decode cL_law_ 19 = .ok (.astore_n 3, 1) := by decide +kernel
theorem dL_law__20 : decode cL_law_ 20 = .ok (.iconst 0, 1) := by decide +kernel
theorem dL_law__21 : decode cL_law_ 21 = .ok (.istore 4, 2) := by decide +kernel
theorem dL_law__23 : decode cL_law_ 23 = .ok (.iload 4, 2) := by decide +kernel
theorem dL_law__25 : decode cL_law_ 25 = .ok (.aload_n 0, 1) := by decide +kernel
theorem dL_law__26 : decode cL_law_ 26 = .ok (.arraylength, 1) := by decide +kernel
theorem dL_law__27 : decode cL_law_ 27 = .ok (.bipush 6, 2) := by decide +kernel
theorem dL_law__29 : decode cL_law_ 29 = .ok (.isub, 1) := by decide +kernel
theorem dL_law__30 : decode cL_law_ 30 = .ok (.if_icmp .gt 2645, 3) := by decide +kernel
theorem dL_law__33 : decode cL_law_ 33 = .ok (.aload_n 0, 1) := by decide +kernel
theorem dL_law__34 : decode cL_law_ 34 = .ok (.iload 4, 2) := by decide +kernel
theorem dL_law__36 : decode cL_law_ 36 = .ok (.iaload, 1) := by decide +kernel
theorem dL_law__37 : decode cL_law_ 37 = .ok (.bipush 63, 2) := by decide +kernel
theorem dL_law__39 : decode cL_law_ 39 = .ok (.iand, 1) := by decide +kernel
theorem dL_law__40 : decode cL_law_ 40 = .ok (.tableswitch 2629 0 41 #[184, 257, 282, 326, 370, 383, 451, 519, 599, 695, 763, 819, 899, 955, 1011, 1103, 1171, 1227, 1323, 1407, 1448, 1516, 1569, 1649, 1690, 1746, 1802, 1882, 1950, 2006, 2074, 2142, 2238, 2282, 2326, 2406, 2474, 2542, 2567, 2580, 2591, 2604], 184) := by decide +kernel
theorem dL_law__224 : decode cL_law_ 224 = .ok (.aload_n 1, 1) := by decide +kernel
theorem dL_law__225 : decode cL_law_ 225 = .ok (.aload_n 0, 1) := by decide +kernel
theorem dL_law__226 : decode cL_law_ 226 = .ok (.iload 4, 2) := by decide +kernel
theorem dL_law__228 : decode cL_law_ 228 = .ok (.iconst 1, 1) := by decide +kernel
theorem dL_law__229 : decode cL_law_ 229 = .ok (.iadd, 1) := by decide +kernel
theorem dL_law__230 : decode cL_law_ 230 = .ok (.iaload, 1) := by decide +kernel
theorem dL_law__231 : decode cL_law_ 231 = .ok (.aload_n 0, 1) := by decide +kernel
theorem dL_law__232 : decode cL_law_ 232 = .ok (.iload 4, 2) := by decide +kernel
theorem dL_law__234 : decode cL_law_ 234 = .ok (.iconst 2, 1) := by decide +kernel
theorem dL_law__235 : decode cL_law_ 235 = .ok (.iadd, 1) := by decide +kernel
theorem dL_law__236 : decode cL_law_ 236 = .ok (.iaload, 1) := by decide +kernel
theorem dL_law__237 : decode cL_law_ 237 = .ok (.aload_n 0, 1) := by decide +kernel
theorem dL_law__238 : decode cL_law_ 238 = .ok (.iload 4, 2) := by decide +kernel
theorem dL_law__240 : decode cL_law_ 240 = .ok (.iconst 3, 1) := by decide +kernel
theorem dL_law__241 : decode cL_law_ 241 = .ok (.iadd, 1) := by decide +kernel
theorem dL_law__242 : decode cL_law_ 242 = .ok (.iaload, 1) := by decide +kernel
theorem dL_law__243 : decode cL_law_ 243 = .ok (.aload_n 0, 1) := by decide +kernel
theorem dL_law__244 : decode cL_law_ 244 = .ok (.iload 4, 2) := by decide +kernel
theorem dL_law__246 : decode cL_law_ 246 = .ok (.iconst 4, 1) := by decide +kernel
theorem dL_law__247 : decode cL_law_ 247 = .ok (.iadd, 1) := by decide +kernel
theorem dL_law__248 : decode cL_law_ 248 = .ok (.iaload, 1) := by decide +kernel
theorem dL_law__249 : decode cL_law_ 249 = .ok (.aload_n 0, 1) := by decide +kernel
theorem dL_law__250 : decode cL_law_ 250 = .ok (.iload 4, 2) := by decide +kernel
theorem dL_law__252 : decode cL_law_ 252 = .ok (.iconst 5, 1) := by decide +kernel
theorem dL_law__253 : decode cL_law_ 253 = .ok (.iadd, 1) := by decide +kernel
theorem dL_law__254 : decode cL_law_ 254 = .ok (.iaload, 1) := by decide +kernel
theorem dL_law__255 : decode cL_law_ 255 = .ok (.invokevirtual 123, 3) := by decide +kernel
theorem dL_law__258 : decode cL_law_ 258 = .ok (.aload_n 2, 1) := by decide +kernel
theorem dL_law__259 : decode cL_law_ 259 = .ok (.aload_n 0, 1) := by decide +kernel
theorem dL_law__260 : decode cL_law_ 260 = .ok (.iload 4, 2) := by decide +kernel
theorem dL_law__262 : decode cL_law_ 262 = .ok (.iconst 1, 1) := by decide +kernel
theorem dL_law__263 : decode cL_law_ 263 = .ok (.iadd, 1) := by decide +kernel
theorem dL_law__264 : decode cL_law_ 264 = .ok (.iaload, 1) := by decide +kernel
theorem dL_law__265 : decode cL_law_ 265 = .ok (.aload_n 0, 1) := by decide +kernel
theorem dL_law__266 : decode cL_law_ 266 = .ok (.iload 4, 2) := by decide +kernel
theorem dL_law__268 : decode cL_law_ 268 = .ok (.iconst 2, 1) := by decide +kernel
theorem dL_law__269 : decode cL_law_ 269 = .ok (.iadd, 1) := by decide +kernel
theorem dL_law__270 : decode cL_law_ 270 = .ok (.iaload, 1) := by decide +kernel
theorem dL_law__271 : decode cL_law_ 271 = .ok (.aload_n 0, 1) := by decide +kernel
theorem dL_law__272 : decode cL_law_ 272 = .ok (.iload 4, 2) := by decide +kernel
theorem dL_law__274 : decode cL_law_ 274 = .ok (.iconst 3, 1) := by decide +kernel
theorem dL_law__275 : decode cL_law_ 275 = .ok (.iadd, 1) := by decide +kernel
theorem dL_law__276 : decode cL_law_ 276 = .ok (.iaload, 1) := by decide +kernel
theorem dL_law__277 : decode cL_law_ 277 = .ok (.aload_n 0, 1) := by decide +kernel
theorem dL_law__278 : decode cL_law_ 278 = .ok (.iload 4, 2) := by decide +kernel
theorem dL_law__280 : decode cL_law_ 280 = .ok (.iconst 4, 1) := by decide +kernel
theorem dL_law__281 : decode cL_law_ 281 = .ok (.iadd, 1) := by decide +kernel
theorem dL_law__282 : decode cL_law_ 282 = .ok (.iaload, 1) := by decide +kernel
theorem dL_law__283 : decode cL_law_ 283 = .ok (.aload_n 0, 1) := by decide +kernel
theorem dL_law__284 : decode cL_law_ 284 = .ok (.iload 4, 2) := by decide +kernel
theorem dL_law__286 : decode cL_law_ 286 = .ok (.iconst 5, 1) := by decide +kernel
theorem dL_law__287 : decode cL_law_ 287 = .ok (.iadd, 1) := by decide +kernel
theorem dL_law__288 : decode cL_law_ 288 = .ok (.iaload, 1) := by decide +kernel
theorem dL_law__289 : decode cL_law_ 289 = .ok (.invokevirtual 127, 3) := by decide +kernel
theorem dL_law__292 : decode cL_law_ 292 = .ok (.if_icmp .eq 2377, 3) := by decide +kernel
theorem dL_law__295 : decode cL_law_ 295 = .ok (.iconst 0, 1) := by decide +kernel
theorem dL_law__296 : decode cL_law_ 296 = .ok (.ireturn, 1) := by decide +kernel
theorem dL_law__297 : decode cL_law_ 297 = .ok (.aload_n 1, 1) := by decide +kernel
theorem dL_law__298 : decode cL_law_ 298 = .ok (.aload_n 0, 1) := by decide +kernel
theorem dL_law__299 : decode cL_law_ 299 = .ok (.iload 4, 2) := by decide +kernel
theorem dL_law__301 : decode cL_law_ 301 = .ok (.iconst 1, 1) := by decide +kernel
theorem dL_law__302 : decode cL_law_ 302 = .ok (.iadd, 1) := by decide +kernel
theorem dL_law__303 : decode cL_law_ 303 = .ok (.iaload, 1) := by decide +kernel
theorem dL_law__304 : decode cL_law_ 304 = .ok (.invokevirtual 128, 3) := by decide +kernel
theorem dL_law__307 : decode cL_law_ 307 = .ok (.aload_n 2, 1) := by decide +kernel
theorem dL_law__308 : decode cL_law_ 308 = .ok (.aload_n 0, 1) := by decide +kernel
theorem dL_law__309 : decode cL_law_ 309 = .ok (.iload 4, 2) := by decide +kernel
theorem dL_law__311 : decode cL_law_ 311 = .ok (.iconst 1, 1) := by decide +kernel
theorem dL_law__312 : decode cL_law_ 312 = .ok (.iadd, 1) := by decide +kernel
theorem dL_law__313 : decode cL_law_ 313 = .ok (.iaload, 1) := by decide +kernel
theorem dL_law__314 : decode cL_law_ 314 = .ok (.invokevirtual 132, 3) := by decide +kernel
theorem dL_law__317 : decode cL_law_ 317 = .ok (.if_icmp .eq 2352, 3) := by decide +kernel
theorem dL_law__320 : decode cL_law_ 320 = .ok (.iconst 0, 1) := by decide +kernel
theorem dL_law__321 : decode cL_law_ 321 = .ok (.ireturn, 1) := by decide +kernel
theorem dL_law__322 : decode cL_law_ 322 = .ok (.aload_n 1, 1) := by decide +kernel
theorem dL_law__323 : decode cL_law_ 323 = .ok (.aload_n 3, 1) := by decide +kernel
theorem dL_law__324 : decode cL_law_ 324 = .ok (.invokestatic 133, 3) := by decide +kernel
theorem dL_law__327 : decode cL_law_ 327 = .ok (.istore 5, 2) := by decide +kernel
theorem dL_law__329 : decode cL_law_ 329 = .ok (.aload_n 2, 1) := by decide +kernel
theorem dL_law__330 : decode cL_law_ 330 = .ok (.invokevirtual 138, 3) := by decide +kernel
theorem dL_law__333 : decode cL_law_ 333 = .ok (.istore 6, 2) := by decide +kernel
theorem dL_law__335 : decode cL_law_ 335 = .ok (.aload_n 2, 1) := by decide +kernel
theorem dL_law__336 : decode cL_law_ 336 = .ok (.invokevirtual 139, 3) := by decide +kernel
theorem dL_law__339 : decode cL_law_ 339 = .ok (.iload 5, 2) := by decide +kernel
theorem dL_law__341 : decode cL_law_ 341 = .ok (.if_icmp .eq 5, 3) := by decide +kernel
theorem dL_law__344 : decode cL_law_ 344 = .ok (.iconst 0, 1) := by decide +kernel
theorem dL_law__345 : decode cL_law_ 345 = .ok (.ireturn, 1) := by decide +kernel
theorem dL_law__346 : decode cL_law_ 346 = .ok (.iload 5, 2) := by decide +kernel
theorem dL_law__348 : decode cL_law_ 348 = .ok (.ifCond .ne 15, 3) := by decide +kernel
theorem dL_law__351 : decode cL_law_ 351 = .ok (.aload_n 3, 1) := by decide +kernel
theorem dL_law__352 : decode cL_law_ 352 = .ok (.iconst 0, 1) := by decide +kernel
theorem dL_law__353 : decode cL_law_ 353 = .ok (.laload, 1) := by decide +kernel
theorem dL_law__354 : decode cL_law_ 354 = .ok (.iload 6, 2) := by decide +kernel
theorem dL_law__356 : decode cL_law_ 356 = .ok (.i2l, 1) := by decide +kernel
theorem dL_law__357 : decode cL_law_ 357 = .ok (.lcmp, 1) := by decide +kernel
theorem dL_law__358 : decode cL_law_ 358 = .ok (.ifCond .eq 5, 3) := by decide +kernel
theorem dL_law__361 : decode cL_law_ 361 = .ok (.iconst 0, 1) := by decide +kernel
theorem dL_law__362 : decode cL_law_ 362 = .ok (.ireturn, 1) := by decide +kernel
theorem dL_law__363 : decode cL_law_ 363 = .ok (.goto 2306, 3) := by decide +kernel
theorem dL_law__366 : decode cL_law_ 366 = .ok (.aload_n 1, 1) := by decide +kernel
theorem dL_law__367 : decode cL_law_ 367 = .ok (.aload_n 3, 1) := by decide +kernel
theorem dL_law__368 : decode cL_law_ 368 = .ok (.invokestatic 142, 3) := by decide +kernel
theorem dL_law__371 : decode cL_law_ 371 = .ok (.istore 5, 2) := by decide +kernel
theorem dL_law__373 : decode cL_law_ 373 = .ok (.aload_n 2, 1) := by decide +kernel
theorem dL_law__374 : decode cL_law_ 374 = .ok (.invokevirtual 144, 3) := by decide +kernel
theorem dL_law__377 : decode cL_law_ 377 = .ok (.istore 6, 2) := by decide +kernel
theorem dL_law__379 : decode cL_law_ 379 = .ok (.aload_n 2, 1) := by decide +kernel
theorem dL_law__380 : decode cL_law_ 380 = .ok (.invokevirtual 139, 3) := by decide +kernel
theorem dL_law__383 : decode cL_law_ 383 = .ok (.iload 5, 2) := by decide +kernel
theorem dL_law__385 : decode cL_law_ 385 = .ok (.if_icmp .eq 5, 3) := by decide +kernel
theorem dL_law__388 : decode cL_law_ 388 = .ok (.iconst 0, 1) := by decide +kernel
theorem dL_law__389 : decode cL_law_ 389 = .ok (.ireturn, 1) := by decide +kernel
theorem dL_law__390 : decode cL_law_ 390 = .ok (.iload 5, 2) := by decide +kernel
theorem dL_law__392 : decode cL_law_ 392 = .ok (.ifCond .ne 15, 3) := by decide +kernel
theorem dL_law__395 : decode cL_law_ 395 = .ok (.aload_n 3, 1) := by decide +kernel
theorem dL_law__396 : decode cL_law_ 396 = .ok (.iconst 0, 1) := by decide +kernel
theorem dL_law__397 : decode cL_law_ 397 = .ok (.laload, 1) := by decide +kernel
theorem dL_law__398 : decode cL_law_ 398 = .ok (.iload 6, 2) := by decide +kernel
theorem dL_law__400 : decode cL_law_ 400 = .ok (.i2l, 1) := by decide +kernel
theorem dL_law__401 : decode cL_law_ 401 = .ok (.lcmp, 1) := by decide +kernel
theorem dL_law__402 : decode cL_law_ 402 = .ok (.ifCond .eq 5, 3) := by decide +kernel
theorem dL_law__405 : decode cL_law_ 405 = .ok (.iconst 0, 1) := by decide +kernel
theorem dL_law__406 : decode cL_law_ 406 = .ok (.ireturn, 1) := by decide +kernel
theorem dL_law__407 : decode cL_law_ 407 = .ok (.goto 2262, 3) := by decide +kernel
theorem dL_law__410 : decode cL_law_ 410 = .ok (.aload_n 1, 1) := by decide +kernel
theorem dL_law__411 : decode cL_law_ 411 = .ok (.invokevirtual 145, 3) := by decide +kernel
theorem dL_law__414 : decode cL_law_ 414 = .ok (.aload_n 2, 1) := by decide +kernel
theorem dL_law__415 : decode cL_law_ 415 = .ok (.invokevirtual 148, 3) := by decide +kernel
theorem dL_law__418 : decode cL_law_ 418 = .ok (.if_icmp .eq 2251, 3) := by decide +kernel
theorem dL_law__421 : decode cL_law_ 421 = .ok (.iconst 0, 1) := by decide +kernel
theorem dL_law__422 : decode cL_law_ 422 = .ok (.ireturn, 1) := by decide +kernel
theorem dL_law__423 : decode cL_law_ 423 = .ok (.aload_n 1, 1) := by decide +kernel
theorem dL_law__424 : decode cL_law_ 424 = .ok (.aload_n 0, 1) := by decide +kernel
theorem dL_law__425 : decode cL_law_ 425 = .ok (.iload 4, 2) := by decide +kernel
theorem dL_law__427 : decode cL_law_ 427 = .ok (.iconst 1, 1) := by decide +kernel
theorem dL_law__428 : decode cL_law_ 428 = .ok (.iadd, 1) := by decide +kernel
theorem dL_law__429 : decode cL_law_ 429 = .ok (.iaload, 1) := by decide +kernel
theorem dL_law__430 : decode cL_law_ 430 = .ok (.aload_n 0, 1) := by decide +kernel
theorem dL_law__431 : decode cL_law_ 431 = .ok (.iload 4, 2) := by decide +kernel
theorem dL_law__433 : decode cL_law_ 433 = .ok (.iconst 2, 1) := by decide +kernel
theorem dL_law__434 : decode cL_law_ 434 = .ok (.iadd, 1) := by decide +kernel
theorem dL_law__435 : decode cL_law_ 435 = .ok (.iaload, 1) := by decide +kernel
theorem dL_law__436 : decode cL_law_ 436 = .ok (.aload_n 3, 1) := by decide +kernel
theorem dL_law__437 : decode cL_law_ 437 = .ok (.invokestatic 149, 3) := by decide +kernel
theorem dL_law__440 : decode cL_law_ 440 = .ok (.istore 5, 2) := by decide +kernel
theorem dL_law__442 : decode cL_law_ 442 = .ok (.aload_n 2, 1) := by decide +kernel
theorem dL_law__443 : decode cL_law_ 443 = .ok (.aload_n 0, 1) := by decide +kernel
theorem dL_law__444 : decode cL_law_ 444 = .ok (.iload 4, 2) := by decide +kernel
theorem dL_law__446 : decode cL_law_ 446 = .ok (.iconst 1, 1) := by decide +kernel
theorem dL_law__447 : decode cL_law_ 447 = .ok (.iadd, 1) := by decide +kernel
theorem dL_law__448 : decode cL_law_ 448 = .ok (.iaload, 1) := by decide +kernel
theorem dL_law__449 : decode cL_law_ 449 = .ok (.aload_n 0, 1) := by decide +kernel
theorem dL_law__450 : decode cL_law_ 450 = .ok (.iload 4, 2) := by decide +kernel
theorem dL_law__452 : decode cL_law_ 452 = .ok (.iconst 2, 1) := by decide +kernel
theorem dL_law__453 : decode cL_law_ 453 = .ok (.iadd, 1) := by decide +kernel
theorem dL_law__454 : decode cL_law_ 454 = .ok (.iaload, 1) := by decide +kernel
theorem dL_law__455 : decode cL_law_ 455 = .ok (.invokevirtual 152, 3) := by decide +kernel
theorem dL_law__458 : decode cL_law_ 458 = .ok (.istore 6, 2) := by decide +kernel
theorem dL_law__460 : decode cL_law_ 460 = .ok (.aload_n 2, 1) := by decide +kernel
theorem dL_law__461 : decode cL_law_ 461 = .ok (.invokevirtual 139, 3) := by decide +kernel
theorem dL_law__464 : decode cL_law_ 464 = .ok (.iload 5, 2) := by decide +kernel
theorem dL_law__466 : decode cL_law_ 466 = .ok (.if_icmp .eq 5, 3) := by decide +kernel
theorem dL_law__469 : decode cL_law_ 469 = .ok (.iconst 0, 1) := by decide +kernel
theorem dL_law__470 : decode cL_law_ 470 = .ok (.ireturn, 1) := by decide +kernel
theorem dL_law__471 : decode cL_law_ 471 = .ok (.iload 5, 2) := by decide +kernel
theorem dL_law__473 : decode cL_law_ 473 = .ok (.ifCond .ne 15, 3) := by decide +kernel
theorem dL_law__476 : decode cL_law_ 476 = .ok (.aload_n 3, 1) := by decide +kernel
theorem dL_law__477 : decode cL_law_ 477 = .ok (.iconst 0, 1) := by decide +kernel
theorem dL_law__478 : decode cL_law_ 478 = .ok (.laload, 1) := by decide +kernel
theorem dL_law__479 : decode cL_law_ 479 = .ok (.iload 6, 2) := by decide +kernel
theorem dL_law__481 : decode cL_law_ 481 = .ok (.i2l, 1) := by decide +kernel
theorem dL_law__482 : decode cL_law_ 482 = .ok (.lcmp, 1) := by decide +kernel
theorem dL_law__483 : decode cL_law_ 483 = .ok (.ifCond .eq 5, 3) := by decide +kernel
theorem dL_law__486 : decode cL_law_ 486 = .ok (.iconst 0, 1) := by decide +kernel
theorem dL_law__487 : decode cL_law_ 487 = .ok (.ireturn, 1) := by decide +kernel
theorem dL_law__488 : decode cL_law_ 488 = .ok (.goto 2181, 3) := by decide +kernel
theorem dL_law__491 : decode cL_law_ 491 = .ok (.aload_n 1, 1) := by decide +kernel
theorem dL_law__492 : decode cL_law_ 492 = .ok (.aload_n 0, 1) := by decide +kernel
theorem dL_law__493 : decode cL_law_ 493 = .ok (.iload 4, 2) := by decide +kernel
theorem dL_law__495 : decode cL_law_ 495 = .ok (.iconst 1, 1) := by decide +kernel
theorem dL_law__496 : decode cL_law_ 496 = .ok (.iadd, 1) := by decide +kernel
theorem dL_law__497 : decode cL_law_ 497 = .ok (.iaload, 1) := by decide +kernel
theorem dL_law__498 : decode cL_law_ 498 = .ok (.aload_n 0, 1) := by decide +kernel
theorem dL_law__499 : decode cL_law_ 499 = .ok (.iload 4, 2) := by decide +kernel
theorem dL_law__501 : decode cL_law_ 501 = .ok (.iconst 2, 1) := by decide +kernel
theorem dL_law__502 : decode cL_law_ 502 = .ok (.iadd, 1) := by decide +kernel
theorem dL_law__503 : decode cL_law_ 503 = .ok (.iaload, 1) := by decide +kernel
theorem dL_law__504 : decode cL_law_ 504 = .ok (.aload_n 3, 1) := by decide +kernel
theorem dL_law__505 : decode cL_law_ 505 = .ok (.invokestatic 153, 3) := by decide +kernel
theorem dL_law__508 : decode cL_law_ 508 = .ok (.istore 5, 2) := by decide +kernel
theorem dL_law__510 : decode cL_law_ 510 = .ok (.aload_n 2, 1) := by decide +kernel
theorem dL_law__511 : decode cL_law_ 511 = .ok (.aload_n 0, 1) := by decide +kernel
theorem dL_law__512 : decode cL_law_ 512 = .ok (.iload 4, 2) := by decide +kernel
theorem dL_law__514 : decode cL_law_ 514 = .ok (.iconst 1, 1) := by decide +kernel
theorem dL_law__515 : decode cL_law_ 515 = .ok (.iadd, 1) := by decide +kernel
theorem dL_law__516 : decode cL_law_ 516 = .ok (.iaload, 1) := by decide +kernel
theorem dL_law__517 : decode cL_law_ 517 = .ok (.aload_n 0, 1) := by decide +kernel
theorem dL_law__518 : decode cL_law_ 518 = .ok (.iload 4, 2) := by decide +kernel
theorem dL_law__520 : decode cL_law_ 520 = .ok (.iconst 2, 1) := by decide +kernel
theorem dL_law__521 : decode cL_law_ 521 = .ok (.iadd, 1) := by decide +kernel
theorem dL_law__522 : decode cL_law_ 522 = .ok (.iaload, 1) := by decide +kernel
theorem dL_law__523 : decode cL_law_ 523 = .ok (.invokevirtual 155, 3) := by decide +kernel
theorem dL_law__526 : decode cL_law_ 526 = .ok (.istore 6, 2) := by decide +kernel
theorem dL_law__528 : decode cL_law_ 528 = .ok (.aload_n 2, 1) := by decide +kernel
theorem dL_law__529 : decode cL_law_ 529 = .ok (.invokevirtual 139, 3) := by decide +kernel
theorem dL_law__532 : decode cL_law_ 532 = .ok (.iload 5, 2) := by decide +kernel
theorem dL_law__534 : decode cL_law_ 534 = .ok (.if_icmp .eq 5, 3) := by decide +kernel
theorem dL_law__537 : decode cL_law_ 537 = .ok (.iconst 0, 1) := by decide +kernel
theorem dL_law__538 : decode cL_law_ 538 = .ok (.ireturn, 1) := by decide +kernel
theorem dL_law__539 : decode cL_law_ 539 = .ok (.iload 5, 2) := by decide +kernel
theorem dL_law__541 : decode cL_law_ 541 = .ok (.ifCond .ne 15, 3) := by decide +kernel
theorem dL_law__544 : decode cL_law_ 544 = .ok (.aload_n 3, 1) := by decide +kernel
theorem dL_law__545 : decode cL_law_ 545 = .ok (.iconst 0, 1) := by decide +kernel
theorem dL_law__546 : decode cL_law_ 546 = .ok (.laload, 1) := by decide +kernel
theorem dL_law__547 : decode cL_law_ 547 = .ok (.iload 6, 2) := by decide +kernel
theorem dL_law__549 : decode cL_law_ 549 = .ok (.i2l, 1) := by decide +kernel
theorem dL_law__550 : decode cL_law_ 550 = .ok (.lcmp, 1) := by decide +kernel
theorem dL_law__551 : decode cL_law_ 551 = .ok (.ifCond .eq 5, 3) := by decide +kernel
theorem dL_law__554 : decode cL_law_ 554 = .ok (.iconst 0, 1) := by decide +kernel
theorem dL_law__555 : decode cL_law_ 555 = .ok (.ireturn, 1) := by decide +kernel
theorem dL_law__556 : decode cL_law_ 556 = .ok (.goto 2113, 3) := by decide +kernel
theorem dL_law__559 : decode cL_law_ 559 = .ok (.aload_n 1, 1) := by decide +kernel
theorem dL_law__560 : decode cL_law_ 560 = .ok (.aload_n 0, 1) := by decide +kernel
theorem dL_law__561 : decode cL_law_ 561 = .ok (.iload 4, 2) := by decide +kernel
theorem dL_law__563 : decode cL_law_ 563 = .ok (.iconst 1, 1) := by decide +kernel
theorem dL_law__564 : decode cL_law_ 564 = .ok (.iadd, 1) := by decide +kernel
theorem dL_law__565 : decode cL_law_ 565 = .ok (.iaload, 1) := by decide +kernel
theorem dL_law__566 : decode cL_law_ 566 = .ok (.aload_n 0, 1) := by decide +kernel
theorem dL_law__567 : decode cL_law_ 567 = .ok (.iload 4, 2) := by decide +kernel
theorem dL_law__569 : decode cL_law_ 569 = .ok (.iconst 2, 1) := by decide +kernel
theorem dL_law__570 : decode cL_law_ 570 = .ok (.iadd, 1) := by decide +kernel
theorem dL_law__571 : decode cL_law_ 571 = .ok (.iaload, 1) := by decide +kernel
theorem dL_law__572 : decode cL_law_ 572 = .ok (.aload_n 0, 1) := by decide +kernel
theorem dL_law__573 : decode cL_law_ 573 = .ok (.iload 4, 2) := by decide +kernel
theorem dL_law__575 : decode cL_law_ 575 = .ok (.iconst 3, 1) := by decide +kernel
theorem dL_law__576 : decode cL_law_ 576 = .ok (.iadd, 1) := by decide +kernel
theorem dL_law__577 : decode cL_law_ 577 = .ok (.iaload, 1) := by decide +kernel
theorem dL_law__578 : decode cL_law_ 578 = .ok (.aload_n 3, 1) := by decide +kernel
theorem dL_law__579 : decode cL_law_ 579 = .ok (.invokestatic 156, 3) := by decide +kernel
theorem dL_law__582 : decode cL_law_ 582 = .ok (.istore 5, 2) := by decide +kernel
theorem dL_law__584 : decode cL_law_ 584 = .ok (.aload_n 2, 1) := by decide +kernel
theorem dL_law__585 : decode cL_law_ 585 = .ok (.aload_n 0, 1) := by decide +kernel
theorem dL_law__586 : decode cL_law_ 586 = .ok (.iload 4, 2) := by decide +kernel
theorem dL_law__588 : decode cL_law_ 588 = .ok (.iconst 1, 1) := by decide +kernel
theorem dL_law__589 : decode cL_law_ 589 = .ok (.iadd, 1) := by decide +kernel
theorem dL_law__590 : decode cL_law_ 590 = .ok (.iaload, 1) := by decide +kernel
theorem dL_law__591 : decode cL_law_ 591 = .ok (.aload_n 0, 1) := by decide +kernel
theorem dL_law__592 : decode cL_law_ 592 = .ok (.iload 4, 2) := by decide +kernel
theorem dL_law__594 : decode cL_law_ 594 = .ok (.iconst 2, 1) := by decide +kernel
theorem dL_law__595 : decode cL_law_ 595 = .ok (.iadd, 1) := by decide +kernel
theorem dL_law__596 : decode cL_law_ 596 = .ok (.iaload, 1) := by decide +kernel
theorem dL_law__597 : decode cL_law_ 597 = .ok (.aload_n 0, 1) := by decide +kernel
theorem dL_law__598 : decode cL_law_ 598 = .ok (.iload 4, 2) := by decide +kernel
theorem dL_law__600 : decode cL_law_ 600 = .ok (.iconst 3, 1) := by decide +kernel
theorem dL_law__601 : decode cL_law_ 601 = .ok (.iadd, 1) := by decide +kernel
theorem dL_law__602 : decode cL_law_ 602 = .ok (.iaload, 1) := by decide +kernel
theorem dL_law__603 : decode cL_law_ 603 = .ok (.invokevirtual 159, 3) := by decide +kernel
theorem dL_law__606 : decode cL_law_ 606 = .ok (.istore 6, 2) := by decide +kernel
theorem dL_law__608 : decode cL_law_ 608 = .ok (.aload_n 2, 1) := by decide +kernel
theorem dL_law__609 : decode cL_law_ 609 = .ok (.invokevirtual 139, 3) := by decide +kernel
theorem dL_law__612 : decode cL_law_ 612 = .ok (.iload 5, 2) := by decide +kernel
theorem dL_law__614 : decode cL_law_ 614 = .ok (.if_icmp .eq 5, 3) := by decide +kernel
theorem dL_law__617 : decode cL_law_ 617 = .ok (.iconst 0, 1) := by decide +kernel
theorem dL_law__618 : decode cL_law_ 618 = .ok (.ireturn, 1) := by decide +kernel
theorem dL_law__619 : decode cL_law_ 619 = .ok (.iload 5, 2) := by decide +kernel
theorem dL_law__621 : decode cL_law_ 621 = .ok (.ifCond .ne 15, 3) := by decide +kernel
theorem dL_law__624 : decode cL_law_ 624 = .ok (.aload_n 3, 1) := by decide +kernel
theorem dL_law__625 : decode cL_law_ 625 = .ok (.iconst 0, 1) := by decide +kernel
theorem dL_law__626 : decode cL_law_ 626 = .ok (.laload, 1) := by decide +kernel
theorem dL_law__627 : decode cL_law_ 627 = .ok (.iload 6, 2) := by decide +kernel
theorem dL_law__629 : decode cL_law_ 629 = .ok (.i2l, 1) := by decide +kernel
theorem dL_law__630 : decode cL_law_ 630 = .ok (.lcmp, 1) := by decide +kernel
theorem dL_law__631 : decode cL_law_ 631 = .ok (.ifCond .eq 5, 3) := by decide +kernel
theorem dL_law__634 : decode cL_law_ 634 = .ok (.iconst 0, 1) := by decide +kernel
theorem dL_law__635 : decode cL_law_ 635 = .ok (.ireturn, 1) := by decide +kernel
theorem dL_law__636 : decode cL_law_ 636 = .ok (.goto 2033, 3) := by decide +kernel
theorem dL_law__639 : decode cL_law_ 639 = .ok (.aload_n 1, 1) := by decide +kernel
theorem dL_law__640 : decode cL_law_ 640 = .ok (.aload_n 0, 1) := by decide +kernel
theorem dL_law__641 : decode cL_law_ 641 = .ok (.iload 4, 2) := by decide +kernel
theorem dL_law__643 : decode cL_law_ 643 = .ok (.iconst 1, 1) := by decide +kernel
theorem dL_law__644 : decode cL_law_ 644 = .ok (.iadd, 1) := by decide +kernel
theorem dL_law__645 : decode cL_law_ 645 = .ok (.iaload, 1) := by decide +kernel
theorem dL_law__646 : decode cL_law_ 646 = .ok (.aload_n 0, 1) := by decide +kernel
theorem dL_law__647 : decode cL_law_ 647 = .ok (.iload 4, 2) := by decide +kernel
theorem dL_law__649 : decode cL_law_ 649 = .ok (.iconst 2, 1) := by decide +kernel
theorem dL_law__650 : decode cL_law_ 650 = .ok (.iadd, 1) := by decide +kernel
theorem dL_law__651 : decode cL_law_ 651 = .ok (.iaload, 1) := by decide +kernel
theorem dL_law__652 : decode cL_law_ 652 = .ok (.aload_n 0, 1) := by decide +kernel
theorem dL_law__653 : decode cL_law_ 653 = .ok (.iload 4, 2) := by decide +kernel
theorem dL_law__655 : decode cL_law_ 655 = .ok (.iconst 3, 1) := by decide +kernel
theorem dL_law__656 : decode cL_law_ 656 = .ok (.iadd, 1) := by decide +kernel
theorem dL_law__657 : decode cL_law_ 657 = .ok (.iaload, 1) := by decide +kernel
theorem dL_law__658 : decode cL_law_ 658 = .ok (.ifCond .eq 7, 3) := by decide +kernel
theorem dL_law__661 : decode cL_law_ 661 = .ok (.iconst 1, 1) := by decide +kernel
theorem dL_law__662 : decode cL_law_ 662 = .ok (.goto 4, 3) := by decide +kernel
theorem dL_law__665 : decode cL_law_ 665 = .ok (.iconst 0, 1) := by decide +kernel
theorem dL_law__666 : decode cL_law_ 666 = .ok (.aload_n 3, 1) := by decide +kernel
theorem dL_law__667 : decode cL_law_ 667 = .ok (.invokestatic 160, 3) := by decide +kernel
theorem dL_law__670 : decode cL_law_ 670 = .ok (.istore 5, 2) := by decide +kernel
theorem dL_law__672 : decode cL_law_ 672 = .ok (.aload_n 2, 1) := by decide +kernel
theorem dL_law__673 : decode cL_law_ 673 = .ok (.aload_n 0, 1) := by decide +kernel
theorem dL_law__674 : decode cL_law_ 674 = .ok (.iload 4, 2) := by decide +kernel
theorem dL_law__676 : decode cL_law_ 676 = .ok (.iconst 1, 1) := by decide +kernel
theorem dL_law__677 : decode cL_law_ 677 = .ok (.iadd, 1) := by decide +kernel
theorem dL_law__678 : decode cL_law_ 678 = .ok (.iaload, 1) := by decide +kernel
theorem dL_law__679 : decode cL_law_ 679 = .ok (.aload_n 0, 1) := by decide +kernel
theorem dL_law__680 : decode cL_law_ 680 = .ok (.iload 4, 2) := by decide +kernel
theorem dL_law__682 : decode cL_law_ 682 = .ok (.iconst 2, 1) := by decide +kernel
theorem dL_law__683 : decode cL_law_ 683 = .ok (.iadd, 1) := by decide +kernel
theorem dL_law__684 : decode cL_law_ 684 = .ok (.iaload, 1) := by decide +kernel
theorem dL_law__685 : decode cL_law_ 685 = .ok (.aload_n 0, 1) := by decide +kernel
theorem dL_law__686 : decode cL_law_ 686 = .ok (.iload 4, 2) := by decide +kernel
theorem dL_law__688 : decode cL_law_ 688 = .ok (.iconst 3, 1) := by decide +kernel
theorem dL_law__689 : decode cL_law_ 689 = .ok (.iadd, 1) := by decide +kernel
theorem dL_law__690 : decode cL_law_ 690 = .ok (.iaload, 1) := by decide +kernel
theorem dL_law__691 : decode cL_law_ 691 = .ok (.ifCond .eq 7, 3) := by decide +kernel
theorem dL_law__694 : decode cL_law_ 694 = .ok (.iconst 1, 1) := by decide +kernel
theorem dL_law__695 : decode cL_law_ 695 = .ok (.goto 4, 3) := by decide +kernel
theorem dL_law__698 : decode cL_law_ 698 = .ok (.iconst 0, 1) := by decide +kernel
theorem dL_law__699 : decode cL_law_ 699 = .ok (.invokevirtual 163, 3) := by decide +kernel
theorem dL_law__702 : decode cL_law_ 702 = .ok (.istore 6, 2) := by decide +kernel
theorem dL_law__704 : decode cL_law_ 704 = .ok (.aload_n 2, 1) := by decide +kernel
theorem dL_law__705 : decode cL_law_ 705 = .ok (.invokevirtual 139, 3) := by decide +kernel
theorem dL_law__708 : decode cL_law_ 708 = .ok (.iload 5, 2) := by decide +kernel
theorem dL_law__710 : decode cL_law_ 710 = .ok (.if_icmp .eq 5, 3) := by decide +kernel
theorem dL_law__713 : decode cL_law_ 713 = .ok (.iconst 0, 1) := by decide +kernel
theorem dL_law__714 : decode cL_law_ 714 = .ok (.ireturn, 1) := by decide +kernel
theorem dL_law__715 : decode cL_law_ 715 = .ok (.iload 5, 2) := by decide +kernel
theorem dL_law__717 : decode cL_law_ 717 = .ok (.ifCond .ne 15, 3) := by decide +kernel
theorem dL_law__720 : decode cL_law_ 720 = .ok (.aload_n 3, 1) := by decide +kernel
theorem dL_law__721 : decode cL_law_ 721 = .ok (.iconst 0, 1) := by decide +kernel
theorem dL_law__722 : decode cL_law_ 722 = .ok (.laload, 1) := by decide +kernel
theorem dL_law__723 : decode cL_law_ 723 = .ok (.iload 6, 2) := by decide +kernel
theorem dL_law__725 : decode cL_law_ 725 = .ok (.i2l, 1) := by decide +kernel
theorem dL_law__726 : decode cL_law_ 726 = .ok (.lcmp, 1) := by decide +kernel
theorem dL_law__727 : decode cL_law_ 727 = .ok (.ifCond .eq 5, 3) := by decide +kernel
theorem dL_law__730 : decode cL_law_ 730 = .ok (.iconst 0, 1) := by decide +kernel
theorem dL_law__731 : decode cL_law_ 731 = .ok (.ireturn, 1) := by decide +kernel
theorem dL_law__732 : decode cL_law_ 732 = .ok (.goto 1937, 3) := by decide +kernel
theorem dL_law__735 : decode cL_law_ 735 = .ok (.aload_n 1, 1) := by decide +kernel
theorem dL_law__736 : decode cL_law_ 736 = .ok (.aload_n 0, 1) := by decide +kernel
theorem dL_law__737 : decode cL_law_ 737 = .ok (.iload 4, 2) := by decide +kernel
theorem dL_law__739 : decode cL_law_ 739 = .ok (.iconst 1, 1) := by decide +kernel
theorem dL_law__740 : decode cL_law_ 740 = .ok (.iadd, 1) := by decide +kernel
theorem dL_law__741 : decode cL_law_ 741 = .ok (.iaload, 1) := by decide +kernel
theorem dL_law__742 : decode cL_law_ 742 = .ok (.aload_n 0, 1) := by decide +kernel
theorem dL_law__743 : decode cL_law_ 743 = .ok (.iload 4, 2) := by decide +kernel
theorem dL_law__745 : decode cL_law_ 745 = .ok (.iconst 2, 1) := by decide +kernel
theorem dL_law__746 : decode cL_law_ 746 = .ok (.iadd, 1) := by decide +kernel
theorem dL_law__747 : decode cL_law_ 747 = .ok (.iaload, 1) := by decide +kernel
theorem dL_law__748 : decode cL_law_ 748 = .ok (.aload_n 3, 1) := by decide +kernel
theorem dL_law__749 : decode cL_law_ 749 = .ok (.invokestatic 164, 3) := by decide +kernel
theorem dL_law__752 : decode cL_law_ 752 = .ok (.istore 5, 2) := by decide +kernel
theorem dL_law__754 : decode cL_law_ 754 = .ok (.aload_n 2, 1) := by decide +kernel
theorem dL_law__755 : decode cL_law_ 755 = .ok (.aload_n 0, 1) := by decide +kernel
theorem dL_law__756 : decode cL_law_ 756 = .ok (.iload 4, 2) := by decide +kernel
theorem dL_law__758 : decode cL_law_ 758 = .ok (.iconst 1, 1) := by decide +kernel
theorem dL_law__759 : decode cL_law_ 759 = .ok (.iadd, 1) := by decide +kernel
theorem dL_law__760 : decode cL_law_ 760 = .ok (.iaload, 1) := by decide +kernel
theorem dL_law__761 : decode cL_law_ 761 = .ok (.aload_n 0, 1) := by decide +kernel
theorem dL_law__762 : decode cL_law_ 762 = .ok (.iload 4, 2) := by decide +kernel
theorem dL_law__764 : decode cL_law_ 764 = .ok (.iconst 2, 1) := by decide +kernel
theorem dL_law__765 : decode cL_law_ 765 = .ok (.iadd, 1) := by decide +kernel
theorem dL_law__766 : decode cL_law_ 766 = .ok (.iaload, 1) := by decide +kernel
theorem dL_law__767 : decode cL_law_ 767 = .ok (.invokevirtual 166, 3) := by decide +kernel
theorem dL_law__770 : decode cL_law_ 770 = .ok (.istore 6, 2) := by decide +kernel
theorem dL_law__772 : decode cL_law_ 772 = .ok (.aload_n 2, 1) := by decide +kernel
theorem dL_law__773 : decode cL_law_ 773 = .ok (.invokevirtual 139, 3) := by decide +kernel
theorem dL_law__776 : decode cL_law_ 776 = .ok (.iload 5, 2) := by decide +kernel
theorem dL_law__778 : decode cL_law_ 778 = .ok (.if_icmp .eq 5, 3) := by decide +kernel
theorem dL_law__781 : decode cL_law_ 781 = .ok (.iconst 0, 1) := by decide +kernel
theorem dL_law__782 : decode cL_law_ 782 = .ok (.ireturn, 1) := by decide +kernel
theorem dL_law__783 : decode cL_law_ 783 = .ok (.iload 5, 2) := by decide +kernel
theorem dL_law__785 : decode cL_law_ 785 = .ok (.ifCond .ne 15, 3) := by decide +kernel
theorem dL_law__788 : decode cL_law_ 788 = .ok (.aload_n 3, 1) := by decide +kernel
theorem dL_law__789 : decode cL_law_ 789 = .ok (.iconst 0, 1) := by decide +kernel
theorem dL_law__790 : decode cL_law_ 790 = .ok (.laload, 1) := by decide +kernel
theorem dL_law__791 : decode cL_law_ 791 = .ok (.iload 6, 2) := by decide +kernel
theorem dL_law__793 : decode cL_law_ 793 = .ok (.i2l, 1) := by decide +kernel
theorem dL_law__794 : decode cL_law_ 794 = .ok (.lcmp, 1) := by decide +kernel
theorem dL_law__795 : decode cL_law_ 795 = .ok (.ifCond .eq 5, 3) := by decide +kernel
theorem dL_law__798 : decode cL_law_ 798 = .ok (.iconst 0, 1) := by decide +kernel
theorem dL_law__799 : decode cL_law_ 799 = .ok (.ireturn, 1) := by decide +kernel
theorem dL_law__800 : decode cL_law_ 800 = .ok (.goto 1869, 3) := by decide +kernel
theorem dL_law__803 : decode cL_law_ 803 = .ok (.aload_n 1, 1) := by decide +kernel
theorem dL_law__804 : decode cL_law_ 804 = .ok (.aload_n 0, 1) := by decide +kernel
theorem dL_law__805 : decode cL_law_ 805 = .ok (.iload 4, 2) := by decide +kernel
theorem dL_law__807 : decode cL_law_ 807 = .ok (.iconst 1, 1) := by decide +kernel
theorem dL_law__808 : decode cL_law_ 808 = .ok (.iadd, 1) := by decide +kernel
theorem dL_law__809 : decode cL_law_ 809 = .ok (.iaload, 1) := by decide +kernel
theorem dL_law__810 : decode cL_law_ 810 = .ok (.aload_n 3, 1) := by decide +kernel
theorem dL_law__811 : decode cL_law_ 811 = .ok (.invokestatic 167, 3) := by decide +kernel
theorem dL_law__814 : decode cL_law_ 814 = .ok (.istore 5, 2) := by decide +kernel
theorem dL_law__816 : decode cL_law_ 816 = .ok (.aload_n 2, 1) := by decide +kernel
theorem dL_law__817 : decode cL_law_ 817 = .ok (.aload_n 0, 1) := by decide +kernel
theorem dL_law__818 : decode cL_law_ 818 = .ok (.iload 4, 2) := by decide +kernel
theorem dL_law__820 : decode cL_law_ 820 = .ok (.iconst 1, 1) := by decide +kernel
theorem dL_law__821 : decode cL_law_ 821 = .ok (.iadd, 1) := by decide +kernel
theorem dL_law__822 : decode cL_law_ 822 = .ok (.iaload, 1) := by decide +kernel
theorem dL_law__823 : decode cL_law_ 823 = .ok (.invokevirtual 170, 3) := by decide +kernel
theorem dL_law__826 : decode cL_law_ 826 = .ok (.istore 6, 2) := by decide +kernel
theorem dL_law__828 : decode cL_law_ 828 = .ok (.aload_n 2, 1) := by decide +kernel
theorem dL_law__829 : decode cL_law_ 829 = .ok (.invokevirtual 139, 3) := by decide +kernel
theorem dL_law__832 : decode cL_law_ 832 = .ok (.iload 5, 2) := by decide +kernel
theorem dL_law__834 : decode cL_law_ 834 = .ok (.if_icmp .eq 5, 3) := by decide +kernel
theorem dL_law__837 : decode cL_law_ 837 = .ok (.iconst 0, 1) := by decide +kernel
theorem dL_law__838 : decode cL_law_ 838 = .ok (.ireturn, 1) := by decide +kernel
theorem dL_law__839 : decode cL_law_ 839 = .ok (.iload 5, 2) := by decide +kernel
theorem dL_law__841 : decode cL_law_ 841 = .ok (.ifCond .ne 15, 3) := by decide +kernel
theorem dL_law__844 : decode cL_law_ 844 = .ok (.aload_n 3, 1) := by decide +kernel
theorem dL_law__845 : decode cL_law_ 845 = .ok (.iconst 0, 1) := by decide +kernel
theorem dL_law__846 : decode cL_law_ 846 = .ok (.laload, 1) := by decide +kernel
theorem dL_law__847 : decode cL_law_ 847 = .ok (.iload 6, 2) := by decide +kernel
theorem dL_law__849 : decode cL_law_ 849 = .ok (.i2l, 1) := by decide +kernel
theorem dL_law__850 : decode cL_law_ 850 = .ok (.lcmp, 1) := by decide +kernel
theorem dL_law__851 : decode cL_law_ 851 = .ok (.ifCond .eq 5, 3) := by decide +kernel
theorem dL_law__854 : decode cL_law_ 854 = .ok (.iconst 0, 1) := by decide +kernel
theorem dL_law__855 : decode cL_law_ 855 = .ok (.ireturn, 1) := by decide +kernel
theorem dL_law__856 : decode cL_law_ 856 = .ok (.goto 1813, 3) := by decide +kernel
theorem dL_law__859 : decode cL_law_ 859 = .ok (.aload_n 1, 1) := by decide +kernel
theorem dL_law__860 : decode cL_law_ 860 = .ok (.aload_n 0, 1) := by decide +kernel
theorem dL_law__861 : decode cL_law_ 861 = .ok (.iload 4, 2) := by decide +kernel
theorem dL_law__863 : decode cL_law_ 863 = .ok (.iconst 1, 1) := by decide +kernel
theorem dL_law__864 : decode cL_law_ 864 = .ok (.iadd, 1) := by decide +kernel
theorem dL_law__865 : decode cL_law_ 865 = .ok (.iaload, 1) := by decide +kernel
theorem dL_law__866 : decode cL_law_ 866 = .ok (.aload_n 0, 1) := by decide +kernel
theorem dL_law__867 : decode cL_law_ 867 = .ok (.iload 4, 2) := by decide +kernel
theorem dL_law__869 : decode cL_law_ 869 = .ok (.iconst 2, 1) := by decide +kernel
theorem dL_law__870 : decode cL_law_ 870 = .ok (.iadd, 1) := by decide +kernel
theorem dL_law__871 : decode cL_law_ 871 = .ok (.iaload, 1) := by decide +kernel
theorem dL_law__872 : decode cL_law_ 872 = .ok (.aload_n 0, 1) := by decide +kernel
theorem dL_law__873 : decode cL_law_ 873 = .ok (.iload 4, 2) := by decide +kernel
theorem dL_law__875 : decode cL_law_ 875 = .ok (.iconst 3, 1) := by decide +kernel
theorem dL_law__876 : decode cL_law_ 876 = .ok (.iadd, 1) := by decide +kernel
theorem dL_law__877 : decode cL_law_ 877 = .ok (.iaload, 1) := by decide +kernel
theorem dL_law__878 : decode cL_law_ 878 = .ok (.aload_n 3, 1) := by decide +kernel
theorem dL_law__879 : decode cL_law_ 879 = .ok (.invokestatic 171, 3) := by decide +kernel
theorem dL_law__882 : decode cL_law_ 882 = .ok (.istore 5, 2) := by decide +kernel
theorem dL_law__884 : decode cL_law_ 884 = .ok (.aload_n 2, 1) := by decide +kernel
theorem dL_law__885 : decode cL_law_ 885 = .ok (.aload_n 0, 1) := by decide +kernel
theorem dL_law__886 : decode cL_law_ 886 = .ok (.iload 4, 2) := by decide +kernel
theorem dL_law__888 : decode cL_law_ 888 = .ok (.iconst 1, 1) := by decide +kernel
theorem dL_law__889 : decode cL_law_ 889 = .ok (.iadd, 1) := by decide +kernel
theorem dL_law__890 : decode cL_law_ 890 = .ok (.iaload, 1) := by decide +kernel
theorem dL_law__891 : decode cL_law_ 891 = .ok (.aload_n 0, 1) := by decide +kernel
theorem dL_law__892 : decode cL_law_ 892 = .ok (.iload 4, 2) := by decide +kernel
theorem dL_law__894 : decode cL_law_ 894 = .ok (.iconst 2, 1) := by decide +kernel
theorem dL_law__895 : decode cL_law_ 895 = .ok (.iadd, 1) := by decide +kernel
theorem dL_law__896 : decode cL_law_ 896 = .ok (.iaload, 1) := by decide +kernel
theorem dL_law__897 : decode cL_law_ 897 = .ok (.aload_n 0, 1) := by decide +kernel
theorem dL_law__898 : decode cL_law_ 898 = .ok (.iload 4, 2) := by decide +kernel
theorem dL_law__900 : decode cL_law_ 900 = .ok (.iconst 3, 1) := by decide +kernel
theorem dL_law__901 : decode cL_law_ 901 = .ok (.iadd, 1) := by decide +kernel
theorem dL_law__902 : decode cL_law_ 902 = .ok (.iaload, 1) := by decide +kernel
theorem dL_law__903 : decode cL_law_ 903 = .ok (.invokevirtual 173, 3) := by decide +kernel
theorem dL_law__906 : decode cL_law_ 906 = .ok (.istore 6, 2) := by decide +kernel
theorem dL_law__908 : decode cL_law_ 908 = .ok (.aload_n 2, 1) := by decide +kernel
theorem dL_law__909 : decode cL_law_ 909 = .ok (.invokevirtual 139, 3) := by decide +kernel
theorem dL_law__912 : decode cL_law_ 912 = .ok (.iload 5, 2) := by decide +kernel
theorem dL_law__914 : decode cL_law_ 914 = .ok (.if_icmp .eq 5, 3) := by decide +kernel
theorem dL_law__917 : decode cL_law_ 917 = .ok (.iconst 0, 1) := by decide +kernel
theorem dL_law__918 : decode cL_law_ 918 = .ok (.ireturn, 1) := by decide +kernel
theorem dL_law__919 : decode cL_law_ 919 = .ok (.iload 5, 2) := by decide +kernel
theorem dL_law__921 : decode cL_law_ 921 = .ok (.ifCond .ne 15, 3) := by decide +kernel
theorem dL_law__924 : decode cL_law_ 924 = .ok (.aload_n 3, 1) := by decide +kernel
theorem dL_law__925 : decode cL_law_ 925 = .ok (.iconst 0, 1) := by decide +kernel
theorem dL_law__926 : decode cL_law_ 926 = .ok (.laload, 1) := by decide +kernel
theorem dL_law__927 : decode cL_law_ 927 = .ok (.iload 6, 2) := by decide +kernel
theorem dL_law__929 : decode cL_law_ 929 = .ok (.i2l, 1) := by decide +kernel
theorem dL_law__930 : decode cL_law_ 930 = .ok (.lcmp, 1) := by decide +kernel
theorem dL_law__931 : decode cL_law_ 931 = .ok (.ifCond .eq 5, 3) := by decide +kernel
theorem dL_law__934 : decode cL_law_ 934 = .ok (.iconst 0, 1) := by decide +kernel
theorem dL_law__935 : decode cL_law_ 935 = .ok (.ireturn, 1) := by decide +kernel
theorem dL_law__936 : decode cL_law_ 936 = .ok (.goto 1733, 3) := by decide +kernel
theorem dL_law__939 : decode cL_law_ 939 = .ok (.aload_n 1, 1) := by decide +kernel
theorem dL_law__940 : decode cL_law_ 940 = .ok (.aload_n 0, 1) := by decide +kernel
theorem dL_law__941 : decode cL_law_ 941 = .ok (.iload 4, 2) := by decide +kernel
theorem dL_law__943 : decode cL_law_ 943 = .ok (.iconst 1, 1) := by decide +kernel
theorem dL_law__944 : decode cL_law_ 944 = .ok (.iadd, 1) := by decide +kernel
theorem dL_law__945 : decode cL_law_ 945 = .ok (.iaload, 1) := by decide +kernel
theorem dL_law__946 : decode cL_law_ 946 = .ok (.aload_n 3, 1) := by decide +kernel
theorem dL_law__947 : decode cL_law_ 947 = .ok (.invokestatic 174, 3) := by decide +kernel
theorem dL_law__950 : decode cL_law_ 950 = .ok (.istore 5, 2) := by decide +kernel
theorem dL_law__952 : decode cL_law_ 952 = .ok (.aload_n 2, 1) := by decide +kernel
theorem dL_law__953 : decode cL_law_ 953 = .ok (.aload_n 0, 1) := by decide +kernel
theorem dL_law__954 : decode cL_law_ 954 = .ok (.iload 4, 2) := by decide +kernel
theorem dL_law__956 : decode cL_law_ 956 = .ok (.iconst 1, 1) := by decide +kernel
theorem dL_law__957 : decode cL_law_ 957 = .ok (.iadd, 1) := by decide +kernel
theorem dL_law__958 : decode cL_law_ 958 = .ok (.iaload, 1) := by decide +kernel
theorem dL_law__959 : decode cL_law_ 959 = .ok (.invokevirtual 176, 3) := by decide +kernel
theorem dL_law__962 : decode cL_law_ 962 = .ok (.istore 6, 2) := by decide +kernel
theorem dL_law__964 : decode cL_law_ 964 = .ok (.aload_n 2, 1) := by decide +kernel
theorem dL_law__965 : decode cL_law_ 965 = .ok (.invokevirtual 139, 3) := by decide +kernel
theorem dL_law__968 : decode cL_law_ 968 = .ok (.iload 5, 2) := by decide +kernel
theorem dL_law__970 : decode cL_law_ 970 = .ok (.if_icmp .eq 5, 3) := by decide +kernel
theorem dL_law__973 : decode cL_law_ 973 = .ok (.iconst 0, 1) := by decide +kernel
theorem dL_law__974 : decode cL_law_ 974 = .ok (.ireturn, 1) := by decide +kernel
theorem dL_law__975 : decode cL_law_ 975 = .ok (.iload 5, 2) := by decide +kernel
theorem dL_law__977 : decode cL_law_ 977 = .ok (.ifCond .ne 15, 3) := by decide +kernel
theorem dL_law__980 : decode cL_law_ 980 = .ok (.aload_n 3, 1) := by decide +kernel
theorem dL_law__981 : decode cL_law_ 981 = .ok (.iconst 0, 1) := by decide +kernel
theorem dL_law__982 : decode cL_law_ 982 = .ok (.laload, 1) := by decide +kernel
theorem dL_law__983 : decode cL_law_ 983 = .ok (.iload 6, 2) := by decide +kernel
theorem dL_law__985 : decode cL_law_ 985 = .ok (.i2l, 1) := by decide +kernel
theorem dL_law__986 : decode cL_law_ 986 = .ok (.lcmp, 1) := by decide +kernel
theorem dL_law__987 : decode cL_law_ 987 = .ok (.ifCond .eq 5, 3) := by decide +kernel
theorem dL_law__990 : decode cL_law_ 990 = .ok (.iconst 0, 1) := by decide +kernel
theorem dL_law__991 : decode cL_law_ 991 = .ok (.ireturn, 1) := by decide +kernel
theorem dL_law__992 : decode cL_law_ 992 = .ok (.goto 1677, 3) := by decide +kernel
theorem dL_law__995 : decode cL_law_ 995 = .ok (.aload_n 1, 1) := by decide +kernel
theorem dL_law__996 : decode cL_law_ 996 = .ok (.aload_n 0, 1) := by decide +kernel
theorem dL_law__997 : decode cL_law_ 997 = .ok (.iload 4, 2) := by decide +kernel
theorem dL_law__999 : decode cL_law_ 999 = .ok (.iconst 1, 1) := by decide +kernel
theorem dL_law__1000 : decode cL_law_ 1000 = .ok (.iadd, 1) := by decide +kernel
theorem dL_law__1001 : decode cL_law_ 1001 = .ok (.iaload, 1) := by decide +kernel
theorem dL_law__1002 : decode cL_law_ 1002 = .ok (.aload_n 3, 1) := by decide +kernel
theorem dL_law__1003 : decode cL_law_ 1003 = .ok (.invokestatic 177, 3) := by decide +kernel
theorem dL_law__1006 : decode cL_law_ 1006 = .ok (.istore 5, 2) := by decide +kernel
theorem dL_law__1008 : decode cL_law_ 1008 = .ok (.aload_n 2, 1) := by decide +kernel
theorem dL_law__1009 : decode cL_law_ 1009 = .ok (.aload_n 0, 1) := by decide +kernel
theorem dL_law__1010 : decode cL_law_ 1010 = .ok (.iload 4, 2) := by decide +kernel
theorem dL_law__1012 : decode cL_law_ 1012 = .ok (.iconst 1, 1) := by decide +kernel
theorem dL_law__1013 : decode cL_law_ 1013 = .ok (.iadd, 1) := by decide +kernel
theorem dL_law__1014 : decode cL_law_ 1014 = .ok (.iaload, 1) := by decide +kernel
theorem dL_law__1015 : decode cL_law_ 1015 = .ok (.invokevirtual 179, 3) := by decide +kernel
theorem dL_law__1018 : decode cL_law_ 1018 = .ok (.istore 6, 2) := by decide +kernel
theorem dL_law__1020 : decode cL_law_ 1020 = .ok (.aload_n 2, 1) := by decide +kernel
theorem dL_law__1021 : decode cL_law_ 1021 = .ok (.invokevirtual 139, 3) := by decide +kernel
theorem dL_law__1024 : decode cL_law_ 1024 = .ok (.iload 5, 2) := by decide +kernel
theorem dL_law__1026 : decode cL_law_ 1026 = .ok (.if_icmp .eq 5, 3) := by decide +kernel
theorem dL_law__1029 : decode cL_law_ 1029 = .ok (.iconst 0, 1) := by decide +kernel
theorem dL_law__1030 : decode cL_law_ 1030 = .ok (.ireturn, 1) := by decide +kernel
theorem dL_law__1031 : decode cL_law_ 1031 = .ok (.iload 5, 2) := by decide +kernel
theorem dL_law__1033 : decode cL_law_ 1033 = .ok (.ifCond .ne 15, 3) := by decide +kernel
theorem dL_law__1036 : decode cL_law_ 1036 = .ok (.aload_n 3, 1) := by decide +kernel
theorem dL_law__1037 : decode cL_law_ 1037 = .ok (.iconst 0, 1) := by decide +kernel
theorem dL_law__1038 : decode cL_law_ 1038 = .ok (.laload, 1) := by decide +kernel
theorem dL_law__1039 : decode cL_law_ 1039 = .ok (.iload 6, 2) := by decide +kernel
theorem dL_law__1041 : decode cL_law_ 1041 = .ok (.i2l, 1) := by decide +kernel
theorem dL_law__1042 : decode cL_law_ 1042 = .ok (.lcmp, 1) := by decide +kernel
theorem dL_law__1043 : decode cL_law_ 1043 = .ok (.ifCond .eq 5, 3) := by decide +kernel
theorem dL_law__1046 : decode cL_law_ 1046 = .ok (.iconst 0, 1) := by decide +kernel
theorem dL_law__1047 : decode cL_law_ 1047 = .ok (.ireturn, 1) := by decide +kernel
theorem dL_law__1048 : decode cL_law_ 1048 = .ok (.goto 1621, 3) := by decide +kernel
theorem dL_law__1051 : decode cL_law_ 1051 = .ok (.aload_n 1, 1) := by decide +kernel
theorem dL_law__1052 : decode cL_law_ 1052 = .ok (.aload_n 0, 1) := by decide +kernel
theorem dL_law__1053 : decode cL_law_ 1053 = .ok (.iload 4, 2) := by decide +kernel
theorem dL_law__1055 : decode cL_law_ 1055 = .ok (.iconst 1, 1) := by decide +kernel
theorem dL_law__1056 : decode cL_law_ 1056 = .ok (.iadd, 1) := by decide +kernel
theorem dL_law__1057 : decode cL_law_ 1057 = .ok (.iaload, 1) := by decide +kernel
theorem dL_law__1058 : decode cL_law_ 1058 = .ok (.aload_n 0, 1) := by decide +kernel
theorem dL_law__1059 : decode cL_law_ 1059 = .ok (.iload 4, 2) := by decide +kernel
theorem dL_law__1061 : decode cL_law_ 1061 = .ok (.iconst 2, 1) := by decide +kernel
theorem dL_law__1062 : decode cL_law_ 1062 = .ok (.iadd, 1) := by decide +kernel
theorem dL_law__1063 : decode cL_law_ 1063 = .ok (.iaload, 1) := by decide +kernel
theorem dL_law__1064 : decode cL_law_ 1064 = .ok (.aload_n 0, 1) := by decide +kernel
theorem dL_law__1065 : decode cL_law_ 1065 = .ok (.iload 4, 2) := by decide +kernel
theorem dL_law__1067 : decode cL_law_ 1067 = .ok (.iconst 3, 1) := by decide +kernel
theorem dL_law__1068 : decode cL_law_ 1068 = .ok (.iadd, 1) := by decide +kernel
theorem dL_law__1069 : decode cL_law_ 1069 = .ok (.iaload, 1) := by decide +kernel
theorem dL_law__1070 : decode cL_law_ 1070 = .ok (.aload_n 0, 1) := by decide +kernel
theorem dL_law__1071 : decode cL_law_ 1071 = .ok (.iload 4, 2) := by decide +kernel
theorem dL_law__1073 : decode cL_law_ 1073 = .ok (.iconst 4, 1) := by decide +kernel
theorem dL_law__1074 : decode cL_law_ 1074 = .ok (.iadd, 1) := by decide +kernel
theorem dL_law__1075 : decode cL_law_ 1075 = .ok (.iaload, 1) := by decide +kernel
theorem dL_law__1076 : decode cL_law_ 1076 = .ok (.aload_n 3, 1) := by decide +kernel
theorem dL_law__1077 : decode cL_law_ 1077 = .ok (.invokestatic 180, 3) := by decide +kernel
theorem dL_law__1080 : decode cL_law_ 1080 = .ok (.istore 5, 2) := by decide +kernel
theorem dL_law__1082 : decode cL_law_ 1082 = .ok (.aload_n 2, 1) := by decide +kernel
theorem dL_law__1083 : decode cL_law_ 1083 = .ok (.aload_n 0, 1) := by decide +kernel
theorem dL_law__1084 : decode cL_law_ 1084 = .ok (.iload 4, 2) := by decide +kernel
theorem dL_law__1086 : decode cL_law_ 1086 = .ok (.iconst 1, 1) := by decide +kernel
theorem dL_law__1087 : decode cL_law_ 1087 = .ok (.iadd, 1) := by decide +kernel
theorem dL_law__1088 : decode cL_law_ 1088 = .ok (.iaload, 1) := by decide +kernel
theorem dL_law__1089 : decode cL_law_ 1089 = .ok (.aload_n 0, 1) := by decide +kernel
theorem dL_law__1090 : decode cL_law_ 1090 = .ok (.iload 4, 2) := by decide +kernel
theorem dL_law__1092 : decode cL_law_ 1092 = .ok (.iconst 2, 1) := by decide +kernel
theorem dL_law__1093 : decode cL_law_ 1093 = .ok (.iadd, 1) := by decide +kernel
theorem dL_law__1094 : decode cL_law_ 1094 = .ok (.iaload, 1) := by decide +kernel
theorem dL_law__1095 : decode cL_law_ 1095 = .ok (.aload_n 0, 1) := by decide +kernel
theorem dL_law__1096 : decode cL_law_ 1096 = .ok (.iload 4, 2) := by decide +kernel
theorem dL_law__1098 : decode cL_law_ 1098 = .ok (.iconst 3, 1) := by decide +kernel
theorem dL_law__1099 : decode cL_law_ 1099 = .ok (.iadd, 1) := by decide +kernel
theorem dL_law__1100 : decode cL_law_ 1100 = .ok (.iaload, 1) := by decide +kernel
theorem dL_law__1101 : decode cL_law_ 1101 = .ok (.aload_n 0, 1) := by decide +kernel
theorem dL_law__1102 : decode cL_law_ 1102 = .ok (.iload 4, 2) := by decide +kernel
theorem dL_law__1104 : decode cL_law_ 1104 = .ok (.iconst 4, 1) := by decide +kernel
theorem dL_law__1105 : decode cL_law_ 1105 = .ok (.iadd, 1) := by decide +kernel
theorem dL_law__1106 : decode cL_law_ 1106 = .ok (.iaload, 1) := by decide +kernel
theorem dL_law__1107 : decode cL_law_ 1107 = .ok (.invokevirtual 183, 3) := by decide +kernel
theorem dL_law__1110 : decode cL_law_ 1110 = .ok (.istore 6, 2) := by decide +kernel
theorem dL_law__1112 : decode cL_law_ 1112 = .ok (.aload_n 2, 1) := by decide +kernel
theorem dL_law__1113 : decode cL_law_ 1113 = .ok (.invokevirtual 139, 3) := by decide +kernel
theorem dL_law__1116 : decode cL_law_ 1116 = .ok (.iload 5, 2) := by decide +kernel
theorem dL_law__1118 : decode cL_law_ 1118 = .ok (.if_icmp .eq 5, 3) := by decide +kernel
theorem dL_law__1121 : decode cL_law_ 1121 = .ok (.iconst 0, 1) := by decide +kernel
theorem dL_law__1122 : decode cL_law_ 1122 = .ok (.ireturn, 1) := by decide +kernel
theorem dL_law__1123 : decode cL_law_ 1123 = .ok (.iload 5, 2) := by decide +kernel
theorem dL_law__1125 : decode cL_law_ 1125 = .ok (.ifCond .ne 15, 3) := by decide +kernel
theorem dL_law__1128 : decode cL_law_ 1128 = .ok (.aload_n 3, 1) := by decide +kernel
theorem dL_law__1129 : decode cL_law_ 1129 = .ok (.iconst 0, 1) := by decide +kernel
theorem dL_law__1130 : decode cL_law_ 1130 = .ok (.laload, 1) := by decide +kernel
theorem dL_law__1131 : decode cL_law_ 1131 = .ok (.iload 6, 2) := by decide +kernel
theorem dL_law__1133 : decode cL_law_ 1133 = .ok (.i2l, 1) := by decide +kernel
theorem dL_law__1134 : decode cL_law_ 1134 = .ok (.lcmp, 1) := by decide +kernel
theorem dL_law__1135 : decode cL_law_ 1135 = .ok (.ifCond .eq 5, 3) := by decide +kernel
theorem dL_law__1138 : decode cL_law_ 1138 = .ok (.iconst 0, 1) := by decide +kernel
theorem dL_law__1139 : decode cL_law_ 1139 = .ok (.ireturn, 1) := by decide +kernel
theorem dL_law__1140 : decode cL_law_ 1140 = .ok (.goto 1529, 3) := by decide +kernel
theorem dL_law__1143 : decode cL_law_ 1143 = .ok (.aload_n 1, 1) := by decide +kernel
theorem dL_law__1144 : decode cL_law_ 1144 = .ok (.aload_n 0, 1) := by decide +kernel
theorem dL_law__1145 : decode cL_law_ 1145 = .ok (.iload 4, 2) := by decide +kernel
theorem dL_law__1147 : decode cL_law_ 1147 = .ok (.iconst 1, 1) := by decide +kernel
theorem dL_law__1148 : decode cL_law_ 1148 = .ok (.iadd, 1) := by decide +kernel
theorem dL_law__1149 : decode cL_law_ 1149 = .ok (.iaload, 1) := by decide +kernel
theorem dL_law__1150 : decode cL_law_ 1150 = .ok (.aload_n 0, 1) := by decide +kernel
theorem dL_law__1151 : decode cL_law_ 1151 = .ok (.iload 4, 2) := by decide +kernel
theorem dL_law__1153 : decode cL_law_ 1153 = .ok (.iconst 2, 1) := by decide +kernel
theorem dL_law__1154 : decode cL_law_ 1154 = .ok (.iadd, 1) := by decide +kernel
theorem dL_law__1155 : decode cL_law_ 1155 = .ok (.iaload, 1) := by decide +kernel
theorem dL_law__1156 : decode cL_law_ 1156 = .ok (.aload_n 3, 1) := by decide +kernel
theorem dL_law__1157 : decode cL_law_ 1157 = .ok (.invokestatic 184, 3) := by decide +kernel
theorem dL_law__1160 : decode cL_law_ 1160 = .ok (.istore 5, 2) := by decide +kernel
theorem dL_law__1162 : decode cL_law_ 1162 = .ok (.aload_n 2, 1) := by decide +kernel
theorem dL_law__1163 : decode cL_law_ 1163 = .ok (.aload_n 0, 1) := by decide +kernel
theorem dL_law__1164 : decode cL_law_ 1164 = .ok (.iload 4, 2) := by decide +kernel
theorem dL_law__1166 : decode cL_law_ 1166 = .ok (.iconst 1, 1) := by decide +kernel
theorem dL_law__1167 : decode cL_law_ 1167 = .ok (.iadd, 1) := by decide +kernel
theorem dL_law__1168 : decode cL_law_ 1168 = .ok (.iaload, 1) := by decide +kernel
theorem dL_law__1169 : decode cL_law_ 1169 = .ok (.aload_n 0, 1) := by decide +kernel
theorem dL_law__1170 : decode cL_law_ 1170 = .ok (.iload 4, 2) := by decide +kernel
theorem dL_law__1172 : decode cL_law_ 1172 = .ok (.iconst 2, 1) := by decide +kernel
theorem dL_law__1173 : decode cL_law_ 1173 = .ok (.iadd, 1) := by decide +kernel
theorem dL_law__1174 : decode cL_law_ 1174 = .ok (.iaload, 1) := by decide +kernel
theorem dL_law__1175 : decode cL_law_ 1175 = .ok (.invokevirtual 186, 3) := by decide +kernel
theorem dL_law__1178 : decode cL_law_ 1178 = .ok (.istore 6, 2) := by decide +kernel
theorem dL_law__1180 : decode cL_law_ 1180 = .ok (.aload_n 2, 1) := by decide +kernel
theorem dL_law__1181 : decode cL_law_ 1181 = .ok (.invokevirtual 139, 3) := by decide +kernel
theorem dL_law__1184 : decode cL_law_ 1184 = .ok (.iload 5, 2) := by decide +kernel
theorem dL_law__1186 : decode cL_law_ 1186 = .ok (.if_icmp .eq 5, 3) := by decide +kernel
theorem dL_law__1189 : decode cL_law_ 1189 = .ok (.iconst 0, 1) := by decide +kernel
theorem dL_law__1190 : decode cL_law_ 1190 = .ok (.ireturn, 1) := by decide +kernel
theorem dL_law__1191 : decode cL_law_ 1191 = .ok (.iload 5, 2) := by decide +kernel
theorem dL_law__1193 : decode cL_law_ 1193 = .ok (.ifCond .ne 15, 3) := by decide +kernel
theorem dL_law__1196 : decode cL_law_ 1196 = .ok (.aload_n 3, 1) := by decide +kernel
theorem dL_law__1197 : decode cL_law_ 1197 = .ok (.iconst 0, 1) := by decide +kernel
theorem dL_law__1198 : decode cL_law_ 1198 = .ok (.laload, 1) := by decide +kernel
theorem dL_law__1199 : decode cL_law_ 1199 = .ok (.iload 6, 2) := by decide +kernel
theorem dL_law__1201 : decode cL_law_ 1201 = .ok (.i2l, 1) := by decide +kernel
theorem dL_law__1202 : decode cL_law_ 1202 = .ok (.lcmp, 1) := by decide +kernel
theorem dL_law__1203 : decode cL_law_ 1203 = .ok (.ifCond .eq 5, 3) := by decide +kernel
theorem dL_law__1206 : decode cL_law_ 1206 = .ok (.iconst 0, 1) := by decide +kernel
theorem dL_law__1207 : decode cL_law_ 1207 = .ok (.ireturn, 1) := by decide +kernel
theorem dL_law__1208 : decode cL_law_ 1208 = .ok (.goto 1461, 3) := by decide +kernel
theorem dL_law__1211 : decode cL_law_ 1211 = .ok (.aload_n 1, 1) := by decide +kernel
theorem dL_law__1212 : decode cL_law_ 1212 = .ok (.aload_n 0, 1) := by decide +kernel
theorem dL_law__1213 : decode cL_law_ 1213 = .ok (.iload 4, 2) := by decide +kernel
theorem dL_law__1215 : decode cL_law_ 1215 = .ok (.iconst 1, 1) := by decide +kernel
theorem dL_law__1216 : decode cL_law_ 1216 = .ok (.iadd, 1) := by decide +kernel
theorem dL_law__1217 : decode cL_law_ 1217 = .ok (.iaload, 1) := by decide +kernel
theorem dL_law__1218 : decode cL_law_ 1218 = .ok (.aload_n 3, 1) := by decide +kernel
theorem dL_law__1219 : decode cL_law_ 1219 = .ok (.invokestatic 187, 3) := by decide +kernel
theorem dL_law__1222 : decode cL_law_ 1222 = .ok (.istore 5, 2) := by decide +kernel
theorem dL_law__1224 : decode cL_law_ 1224 = .ok (.aload_n 2, 1) := by decide +kernel
theorem dL_law__1225 : decode cL_law_ 1225 = .ok (.aload_n 0, 1) := by decide +kernel
theorem dL_law__1226 : decode cL_law_ 1226 = .ok (.iload 4, 2) := by decide +kernel
theorem dL_law__1228 : decode cL_law_ 1228 = .ok (.iconst 1, 1) := by decide +kernel
theorem dL_law__1229 : decode cL_law_ 1229 = .ok (.iadd, 1) := by decide +kernel
theorem dL_law__1230 : decode cL_law_ 1230 = .ok (.iaload, 1) := by decide +kernel
theorem dL_law__1231 : decode cL_law_ 1231 = .ok (.invokevirtual 189, 3) := by decide +kernel
theorem dL_law__1234 : decode cL_law_ 1234 = .ok (.istore 6, 2) := by decide +kernel
theorem dL_law__1236 : decode cL_law_ 1236 = .ok (.aload_n 2, 1) := by decide +kernel
theorem dL_law__1237 : decode cL_law_ 1237 = .ok (.invokevirtual 139, 3) := by decide +kernel
theorem dL_law__1240 : decode cL_law_ 1240 = .ok (.iload 5, 2) := by decide +kernel
theorem dL_law__1242 : decode cL_law_ 1242 = .ok (.if_icmp .eq 5, 3) := by decide +kernel
theorem dL_law__1245 : decode cL_law_ 1245 = .ok (.iconst 0, 1) := by decide +kernel
theorem dL_law__1246 : decode cL_law_ 1246 = .ok (.ireturn, 1) := by decide +kernel
theorem dL_law__1247 : decode cL_law_ 1247 = .ok (.iload 5, 2) := by decide +kernel
theorem dL_law__1249 : decode cL_law_ 1249 = .ok (.ifCond .ne 15, 3) := by decide +kernel
theorem dL_law__1252 : decode cL_law_ 1252 = .ok (.aload_n 3, 1) := by decide +kernel
theorem dL_law__1253 : decode cL_law_ 1253 = .ok (.iconst 0, 1) := by decide +kernel
theorem dL_law__1254 : decode cL_law_ 1254 = .ok (.laload, 1) := by decide +kernel
theorem dL_law__1255 : decode cL_law_ 1255 = .ok (.iload 6, 2) := by decide +kernel
theorem dL_law__1257 : decode cL_law_ 1257 = .ok (.i2l, 1) := by decide +kernel
theorem dL_law__1258 : decode cL_law_ 1258 = .ok (.lcmp, 1) := by decide +kernel
theorem dL_law__1259 : decode cL_law_ 1259 = .ok (.ifCond .eq 5, 3) := by decide +kernel
theorem dL_law__1262 : decode cL_law_ 1262 = .ok (.iconst 0, 1) := by decide +kernel
theorem dL_law__1263 : decode cL_law_ 1263 = .ok (.ireturn, 1) := by decide +kernel
theorem dL_law__1264 : decode cL_law_ 1264 = .ok (.goto 1405, 3) := by decide +kernel
theorem dL_law__1267 : decode cL_law_ 1267 = .ok (.aload_n 1, 1) := by decide +kernel
theorem dL_law__1268 : decode cL_law_ 1268 = .ok (.aload_n 0, 1) := by decide +kernel
theorem dL_law__1269 : decode cL_law_ 1269 = .ok (.iload 4, 2) := by decide +kernel
theorem dL_law__1271 : decode cL_law_ 1271 = .ok (.iconst 1, 1) := by decide +kernel
theorem dL_law__1272 : decode cL_law_ 1272 = .ok (.iadd, 1) := by decide +kernel
theorem dL_law__1273 : decode cL_law_ 1273 = .ok (.iaload, 1) := by decide +kernel
theorem dL_law__1274 : decode cL_law_ 1274 = .ok (.aload_n 0, 1) := by decide +kernel
theorem dL_law__1275 : decode cL_law_ 1275 = .ok (.iload 4, 2) := by decide +kernel
theorem dL_law__1277 : decode cL_law_ 1277 = .ok (.iconst 2, 1) := by decide +kernel
theorem dL_law__1278 : decode cL_law_ 1278 = .ok (.iadd, 1) := by decide +kernel
theorem dL_law__1279 : decode cL_law_ 1279 = .ok (.iaload, 1) := by decide +kernel
theorem dL_law__1280 : decode cL_law_ 1280 = .ok (.aload_n 0, 1) := by decide +kernel
theorem dL_law__1281 : decode cL_law_ 1281 = .ok (.iload 4, 2) := by decide +kernel
theorem dL_law__1283 : decode cL_law_ 1283 = .ok (.iconst 3, 1) := by decide +kernel
theorem dL_law__1284 : decode cL_law_ 1284 = .ok (.iadd, 1) := by decide +kernel
theorem dL_law__1285 : decode cL_law_ 1285 = .ok (.iaload, 1) := by decide +kernel
theorem dL_law__1286 : decode cL_law_ 1286 = .ok (.ifCond .eq 7, 3) := by decide +kernel
theorem dL_law__1289 : decode cL_law_ 1289 = .ok (.iconst 1, 1) := by decide +kernel
theorem dL_law__1290 : decode cL_law_ 1290 = .ok (.goto 4, 3) := by decide +kernel
theorem dL_law__1293 : decode cL_law_ 1293 = .ok (.iconst 0, 1) := by decide +kernel
theorem dL_law__1294 : decode cL_law_ 1294 = .ok (.aload_n 3, 1) := by decide +kernel
theorem dL_law__1295 : decode cL_law_ 1295 = .ok (.invokestatic 190, 3) := by decide +kernel
theorem dL_law__1298 : decode cL_law_ 1298 = .ok (.istore 5, 2) := by decide +kernel
theorem dL_law__1300 : decode cL_law_ 1300 = .ok (.aload_n 2, 1) := by decide +kernel
theorem dL_law__1301 : decode cL_law_ 1301 = .ok (.aload_n 0, 1) := by decide +kernel
theorem dL_law__1302 : decode cL_law_ 1302 = .ok (.iload 4, 2) := by decide +kernel
theorem dL_law__1304 : decode cL_law_ 1304 = .ok (.iconst 1, 1) := by decide +kernel
theorem dL_law__1305 : decode cL_law_ 1305 = .ok (.iadd, 1) := by decide +kernel
theorem dL_law__1306 : decode cL_law_ 1306 = .ok (.iaload, 1) := by decide +kernel
theorem dL_law__1307 : decode cL_law_ 1307 = .ok (.aload_n 0, 1) := by decide +kernel
theorem dL_law__1308 : decode cL_law_ 1308 = .ok (.iload 4, 2) := by decide +kernel
theorem dL_law__1310 : decode cL_law_ 1310 = .ok (.iconst 2, 1) := by decide +kernel
theorem dL_law__1311 : decode cL_law_ 1311 = .ok (.iadd, 1) := by decide +kernel
theorem dL_law__1312 : decode cL_law_ 1312 = .ok (.iaload, 1) := by decide +kernel
theorem dL_law__1313 : decode cL_law_ 1313 = .ok (.aload_n 0, 1) := by decide +kernel
theorem dL_law__1314 : decode cL_law_ 1314 = .ok (.iload 4, 2) := by decide +kernel
theorem dL_law__1316 : decode cL_law_ 1316 = .ok (.iconst 3, 1) := by decide +kernel
theorem dL_law__1317 : decode cL_law_ 1317 = .ok (.iadd, 1) := by decide +kernel
theorem dL_law__1318 : decode cL_law_ 1318 = .ok (.iaload, 1) := by decide +kernel
theorem dL_law__1319 : decode cL_law_ 1319 = .ok (.ifCond .eq 7, 3) := by decide +kernel
theorem dL_law__1322 : decode cL_law_ 1322 = .ok (.iconst 1, 1) := by decide +kernel
theorem dL_law__1323 : decode cL_law_ 1323 = .ok (.goto 4, 3) := by decide +kernel
theorem dL_law__1326 : decode cL_law_ 1326 = .ok (.iconst 0, 1) := by decide +kernel
theorem dL_law__1327 : decode cL_law_ 1327 = .ok (.invokevirtual 192, 3) := by decide +kernel
theorem dL_law__1330 : decode cL_law_ 1330 = .ok (.istore 6, 2) := by decide +kernel
theorem dL_law__1332 : decode cL_law_ 1332 = .ok (.aload_n 2, 1) := by decide +kernel
theorem dL_law__1333 : decode cL_law_ 1333 = .ok (.invokevirtual 139, 3) := by decide +kernel
theorem dL_law__1336 : decode cL_law_ 1336 = .ok (.iload 5, 2) := by decide +kernel
theorem dL_law__1338 : decode cL_law_ 1338 = .ok (.if_icmp .eq 5, 3) := by decide +kernel
theorem dL_law__1341 : decode cL_law_ 1341 = .ok (.iconst 0, 1) := by decide +kernel
theorem dL_law__1342 : decode cL_law_ 1342 = .ok (.ireturn, 1) := by decide +kernel
theorem dL_law__1343 : decode cL_law_ 1343 = .ok (.iload 5, 2) := by decide +kernel
theorem dL_law__1345 : decode cL_law_ 1345 = .ok (.ifCond .ne 15, 3) := by decide +kernel
theorem dL_law__1348 : decode cL_law_ 1348 = .ok (.aload_n 3, 1) := by decide +kernel
theorem dL_law__1349 : decode cL_law_ 1349 = .ok (.iconst 0, 1) := by decide +kernel
theorem dL_law__1350 : decode cL_law_ 1350 = .ok (.laload, 1) := by decide +kernel
theorem dL_law__1351 : decode cL_law_ 1351 = .ok (.iload 6, 2) := by decide +kernel
theorem dL_law__1353 : decode cL_law_ 1353 = .ok (.i2l, 1) := by decide +kernel
theorem dL_law__1354 : decode cL_law_ 1354 = .ok (.lcmp, 1) := by decide +kernel
theorem dL_law__1355 : decode cL_law_ 1355 = .ok (.ifCond .eq 5, 3) := by decide +kernel
theorem dL_law__1358 : decode cL_law_ 1358 = .ok (.iconst 0, 1) := by decide +kernel
theorem dL_law__1359 : decode cL_law_ 1359 = .ok (.ireturn, 1) := by decide +kernel
theorem dL_law__1360 : decode cL_law_ 1360 = .ok (.goto 1309, 3) := by decide +kernel
theorem dL_law__1363 : decode cL_law_ 1363 = .ok (.aload_n 1, 1) := by decide +kernel
theorem dL_law__1364 : decode cL_law_ 1364 = .ok (.aload_n 0, 1) := by decide +kernel
theorem dL_law__1365 : decode cL_law_ 1365 = .ok (.iload 4, 2) := by decide +kernel
theorem dL_law__1367 : decode cL_law_ 1367 = .ok (.iconst 1, 1) := by decide +kernel
theorem dL_law__1368 : decode cL_law_ 1368 = .ok (.iadd, 1) := by decide +kernel
theorem dL_law__1369 : decode cL_law_ 1369 = .ok (.iaload, 1) := by decide +kernel
theorem dL_law__1370 : decode cL_law_ 1370 = .ok (.aload_n 0, 1) := by decide +kernel
theorem dL_law__1371 : decode cL_law_ 1371 = .ok (.iload 4, 2) := by decide +kernel
theorem dL_law__1373 : decode cL_law_ 1373 = .ok (.iconst 2, 1) := by decide +kernel
theorem dL_law__1374 : decode cL_law_ 1374 = .ok (.iadd, 1) := by decide +kernel
theorem dL_law__1375 : decode cL_law_ 1375 = .ok (.iaload, 1) := by decide +kernel
theorem dL_law__1376 : decode cL_law_ 1376 = .ok (.ifCond .eq 7, 3) := by decide +kernel
theorem dL_law__1379 : decode cL_law_ 1379 = .ok (.iconst 1, 1) := by decide +kernel
theorem dL_law__1380 : decode cL_law_ 1380 = .ok (.goto 4, 3) := by decide +kernel
theorem dL_law__1383 : decode cL_law_ 1383 = .ok (.iconst 0, 1) := by decide +kernel
theorem dL_law__1384 : decode cL_law_ 1384 = .ok (.aload_n 3, 1) := by decide +kernel
theorem dL_law__1385 : decode cL_law_ 1385 = .ok (.invokestatic 193, 3) := by decide +kernel
theorem dL_law__1388 : decode cL_law_ 1388 = .ok (.istore 5, 2) := by decide +kernel
theorem dL_law__1390 : decode cL_law_ 1390 = .ok (.aload_n 2, 1) := by decide +kernel
theorem dL_law__1391 : decode cL_law_ 1391 = .ok (.aload_n 0, 1) := by decide +kernel
theorem dL_law__1392 : decode cL_law_ 1392 = .ok (.iload 4, 2) := by decide +kernel
theorem dL_law__1394 : decode cL_law_ 1394 = .ok (.iconst 1, 1) := by decide +kernel
theorem dL_law__1395 : decode cL_law_ 1395 = .ok (.iadd, 1) := by decide +kernel
theorem dL_law__1396 : decode cL_law_ 1396 = .ok (.iaload, 1) := by decide +kernel
theorem dL_law__1397 : decode cL_law_ 1397 = .ok (.aload_n 0, 1) := by decide +kernel
theorem dL_law__1398 : decode cL_law_ 1398 = .ok (.iload 4, 2) := by decide +kernel
theorem dL_law__1400 : decode cL_law_ 1400 = .ok (.iconst 2, 1) := by decide +kernel
theorem dL_law__1401 : decode cL_law_ 1401 = .ok (.iadd, 1) := by decide +kernel
theorem dL_law__1402 : decode cL_law_ 1402 = .ok (.iaload, 1) := by decide +kernel
theorem dL_law__1403 : decode cL_law_ 1403 = .ok (.ifCond .eq 7, 3) := by decide +kernel
theorem dL_law__1406 : decode cL_law_ 1406 = .ok (.iconst 1, 1) := by decide +kernel
theorem dL_law__1407 : decode cL_law_ 1407 = .ok (.goto 4, 3) := by decide +kernel
theorem dL_law__1410 : decode cL_law_ 1410 = .ok (.iconst 0, 1) := by decide +kernel
theorem dL_law__1411 : decode cL_law_ 1411 = .ok (.invokevirtual 196, 3) := by decide +kernel
theorem dL_law__1414 : decode cL_law_ 1414 = .ok (.istore 6, 2) := by decide +kernel
theorem dL_law__1416 : decode cL_law_ 1416 = .ok (.aload_n 2, 1) := by decide +kernel
theorem dL_law__1417 : decode cL_law_ 1417 = .ok (.invokevirtual 139, 3) := by decide +kernel
theorem dL_law__1420 : decode cL_law_ 1420 = .ok (.iload 5, 2) := by decide +kernel
theorem dL_law__1422 : decode cL_law_ 1422 = .ok (.if_icmp .eq 5, 3) := by decide +kernel
theorem dL_law__1425 : decode cL_law_ 1425 = .ok (.iconst 0, 1) := by decide +kernel
theorem dL_law__1426 : decode cL_law_ 1426 = .ok (.ireturn, 1) := by decide +kernel
theorem dL_law__1427 : decode cL_law_ 1427 = .ok (.iload 5, 2) := by decide +kernel
theorem dL_law__1429 : decode cL_law_ 1429 = .ok (.ifCond .ne 15, 3) := by decide +kernel
theorem dL_law__1432 : decode cL_law_ 1432 = .ok (.aload_n 3, 1) := by decide +kernel
theorem dL_law__1433 : decode cL_law_ 1433 = .ok (.iconst 0, 1) := by decide +kernel
theorem dL_law__1434 : decode cL_law_ 1434 = .ok (.laload, 1) := by decide +kernel
theorem dL_law__1435 : decode cL_law_ 1435 = .ok (.iload 6, 2) := by decide +kernel
theorem dL_law__1437 : decode cL_law_ 1437 = .ok (.i2l, 1) := by decide +kernel
theorem dL_law__1438 : decode cL_law_ 1438 = .ok (.lcmp, 1) := by decide +kernel
theorem dL_law__1439 : decode cL_law_ 1439 = .ok (.ifCond .eq 5, 3) := by decide +kernel
theorem dL_law__1442 : decode cL_law_ 1442 = .ok (.iconst 0, 1) := by decide +kernel
theorem dL_law__1443 : decode cL_law_ 1443 = .ok (.ireturn, 1) := by decide +kernel
theorem dL_law__1444 : decode cL_law_ 1444 = .ok (.goto 1225, 3) := by decide +kernel
theorem dL_law__1447 : decode cL_law_ 1447 = .ok (.aload_n 1, 1) := by decide +kernel
theorem dL_law__1448 : decode cL_law_ 1448 = .ok (.aload_n 0, 1) := by decide +kernel
theorem dL_law__1449 : decode cL_law_ 1449 = .ok (.iload 4, 2) := by decide +kernel
theorem dL_law__1451 : decode cL_law_ 1451 = .ok (.iconst 1, 1) := by decide +kernel
theorem dL_law__1452 : decode cL_law_ 1452 = .ok (.iadd, 1) := by decide +kernel
theorem dL_law__1453 : decode cL_law_ 1453 = .ok (.iaload, 1) := by decide +kernel
theorem dL_law__1454 : decode cL_law_ 1454 = .ok (.ifCond .eq 7, 3) := by decide +kernel
theorem dL_law__1457 : decode cL_law_ 1457 = .ok (.iconst 1, 1) := by decide +kernel
theorem dL_law__1458 : decode cL_law_ 1458 = .ok (.goto 4, 3) := by decide +kernel
theorem dL_law__1461 : decode cL_law_ 1461 = .ok (.iconst 0, 1) := by decide +kernel
theorem dL_law__1462 : decode cL_law_ 1462 = .ok (.invokevirtual 197, 3) := by decide +kernel
theorem dL_law__1465 : decode cL_law_ 1465 = .ok (.aload_n 2, 1) := by decide +kernel
theorem dL_law__1466 : decode cL_law_ 1466 = .ok (.aload_n 0, 1) := by decide +kernel
theorem dL_law__1467 : decode cL_law_ 1467 = .ok (.iload 4, 2) := by decide +kernel
theorem dL_law__1469 : decode cL_law_ 1469 = .ok (.iconst 1, 1) := by decide +kernel
theorem dL_law__1470 : decode cL_law_ 1470 = .ok (.iadd, 1) := by decide +kernel
theorem dL_law__1471 : decode cL_law_ 1471 = .ok (.iaload, 1) := by decide +kernel
theorem dL_law__1472 : decode cL_law_ 1472 = .ok (.ifCond .eq 7, 3) := by decide +kernel
theorem dL_law__1475 : decode cL_law_ 1475 = .ok (.iconst 1, 1) := by decide +kernel
theorem dL_law__1476 : decode cL_law_ 1476 = .ok (.goto 4, 3) := by decide +kernel
theorem dL_law__1479 : decode cL_law_ 1479 = .ok (.iconst 0, 1) := by decide +kernel
theorem dL_law__1480 : decode cL_law_ 1480 = .ok (.invokevirtual 201, 3) := by decide +kernel
theorem dL_law__1483 : decode cL_law_ 1483 = .ok (.if_icmp .eq 1186, 3) := by decide +kernel
theorem dL_law__1486 : decode cL_law_ 1486 = .ok (.iconst 0, 1) := by decide +kernel
theorem dL_law__1487 : decode cL_law_ 1487 = .ok (.ireturn, 1) := by decide +kernel
theorem dL_law__1488 : decode cL_law_ 1488 = .ok (.aload_n 1, 1) := by decide +kernel
theorem dL_law__1489 : decode cL_law_ 1489 = .ok (.aload_n 0, 1) := by decide +kernel
theorem dL_law__1490 : decode cL_law_ 1490 = .ok (.iload 4, 2) := by decide +kernel
theorem dL_law__1492 : decode cL_law_ 1492 = .ok (.iconst 1, 1) := by decide +kernel
theorem dL_law__1493 : decode cL_law_ 1493 = .ok (.iadd, 1) := by decide +kernel
theorem dL_law__1494 : decode cL_law_ 1494 = .ok (.iaload, 1) := by decide +kernel
theorem dL_law__1495 : decode cL_law_ 1495 = .ok (.aload_n 0, 1) := by decide +kernel
theorem dL_law__1496 : decode cL_law_ 1496 = .ok (.iload 4, 2) := by decide +kernel
theorem dL_law__1498 : decode cL_law_ 1498 = .ok (.iconst 2, 1) := by decide +kernel
theorem dL_law__1499 : decode cL_law_ 1499 = .ok (.iadd, 1) := by decide +kernel
theorem dL_law__1500 : decode cL_law_ 1500 = .ok (.iaload, 1) := by decide +kernel
theorem dL_law__1501 : decode cL_law_ 1501 = .ok (.aload_n 3, 1) := by decide +kernel
theorem dL_law__1502 : decode cL_law_ 1502 = .ok (.invokestatic 202, 3) := by decide +kernel
theorem dL_law__1505 : decode cL_law_ 1505 = .ok (.istore 5, 2) := by decide +kernel
theorem dL_law__1507 : decode cL_law_ 1507 = .ok (.aload_n 2, 1) := by decide +kernel
theorem dL_law__1508 : decode cL_law_ 1508 = .ok (.aload_n 0, 1) := by decide +kernel
theorem dL_law__1509 : decode cL_law_ 1509 = .ok (.iload 4, 2) := by decide +kernel
theorem dL_law__1511 : decode cL_law_ 1511 = .ok (.iconst 1, 1) := by decide +kernel
theorem dL_law__1512 : decode cL_law_ 1512 = .ok (.iadd, 1) := by decide +kernel
theorem dL_law__1513 : decode cL_law_ 1513 = .ok (.iaload, 1) := by decide +kernel
theorem dL_law__1514 : decode cL_law_ 1514 = .ok (.aload_n 0, 1) := by decide +kernel
theorem dL_law__1515 : decode cL_law_ 1515 = .ok (.iload 4, 2) := by decide +kernel
theorem dL_law__1517 : decode cL_law_ 1517 = .ok (.iconst 2, 1) := by decide +kernel
theorem dL_law__1518 : decode cL_law_ 1518 = .ok (.iadd, 1) := by decide +kernel
theorem dL_law__1519 : decode cL_law_ 1519 = .ok (.iaload, 1) := by decide +kernel
theorem dL_law__1520 : decode cL_law_ 1520 = .ok (.invokevirtual 204, 3) := by decide +kernel
theorem dL_law__1523 : decode cL_law_ 1523 = .ok (.istore 6, 2) := by decide +kernel
theorem dL_law__1525 : decode cL_law_ 1525 = .ok (.aload_n 2, 1) := by decide +kernel
theorem dL_law__1526 : decode cL_law_ 1526 = .ok (.invokevirtual 139, 3) := by decide +kernel
theorem dL_law__1529 : decode cL_law_ 1529 = .ok (.iload 5, 2) := by decide +kernel
theorem dL_law__1531 : decode cL_law_ 1531 = .ok (.if_icmp .eq 5, 3) := by decide +kernel
theorem dL_law__1534 : decode cL_law_ 1534 = .ok (.iconst 0, 1) := by decide +kernel
theorem dL_law__1535 : decode cL_law_ 1535 = .ok (.ireturn, 1) := by decide +kernel
theorem dL_law__1536 : decode cL_law_ 1536 = .ok (.iload 5, 2) := by decide +kernel
theorem dL_law__1538 : decode cL_law_ 1538 = .ok (.ifCond .ne 15, 3) := by decide +kernel
theorem dL_law__1541 : decode cL_law_ 1541 = .ok (.aload_n 3, 1) := by decide +kernel
theorem dL_law__1542 : decode cL_law_ 1542 = .ok (.iconst 0, 1) := by decide +kernel
theorem dL_law__1543 : decode cL_law_ 1543 = .ok (.laload, 1) := by decide +kernel
theorem dL_law__1544 : decode cL_law_ 1544 = .ok (.iload 6, 2) := by decide +kernel
theorem dL_law__1546 : decode cL_law_ 1546 = .ok (.i2l, 1) := by decide +kernel
theorem dL_law__1547 : decode cL_law_ 1547 = .ok (.lcmp, 1) := by decide +kernel
theorem dL_law__1548 : decode cL_law_ 1548 = .ok (.ifCond .eq 5, 3) := by decide +kernel
theorem dL_law__1551 : decode cL_law_ 1551 = .ok (.iconst 0, 1) := by decide +kernel
theorem dL_law__1552 : decode cL_law_ 1552 = .ok (.ireturn, 1) := by decide +kernel
theorem dL_law__1553 : decode cL_law_ 1553 = .ok (.goto 1116, 3) := by decide +kernel
theorem dL_law__1556 : decode cL_law_ 1556 = .ok (.aload_n 1, 1) := by decide +kernel
theorem dL_law__1557 : decode cL_law_ 1557 = .ok (.aload_n 0, 1) := by decide +kernel
theorem dL_law__1558 : decode cL_law_ 1558 = .ok (.iload 4, 2) := by decide +kernel
theorem dL_law__1560 : decode cL_law_ 1560 = .ok (.iconst 1, 1) := by decide +kernel
theorem dL_law__1561 : decode cL_law_ 1561 = .ok (.iadd, 1) := by decide +kernel
theorem dL_law__1562 : decode cL_law_ 1562 = .ok (.iaload, 1) := by decide +kernel
theorem dL_law__1563 : decode cL_law_ 1563 = .ok (.aload_n 0, 1) := by decide +kernel
theorem dL_law__1564 : decode cL_law_ 1564 = .ok (.iload 4, 2) := by decide +kernel
theorem dL_law__1566 : decode cL_law_ 1566 = .ok (.iconst 2, 1) := by decide +kernel
theorem dL_law__1567 : decode cL_law_ 1567 = .ok (.iadd, 1) := by decide +kernel
theorem dL_law__1568 : decode cL_law_ 1568 = .ok (.iaload, 1) := by decide +kernel
theorem dL_law__1569 : decode cL_law_ 1569 = .ok (.ifCond .eq 7, 3) := by decide +kernel
theorem dL_law__1572 : decode cL_law_ 1572 = .ok (.iconst 1, 1) := by decide +kernel
theorem dL_law__1573 : decode cL_law_ 1573 = .ok (.goto 4, 3) := by decide +kernel
theorem dL_law__1576 : decode cL_law_ 1576 = .ok (.iconst 0, 1) := by decide +kernel
theorem dL_law__1577 : decode cL_law_ 1577 = .ok (.invokevirtual 205, 3) := by decide +kernel
theorem dL_law__1580 : decode cL_law_ 1580 = .ok (.aload_n 2, 1) := by decide +kernel
theorem dL_law__1581 : decode cL_law_ 1581 = .ok (.aload_n 0, 1) := by decide +kernel
theorem dL_law__1582 : decode cL_law_ 1582 = .ok (.iload 4, 2) := by decide +kernel
theorem dL_law__1584 : decode cL_law_ 1584 = .ok (.iconst 1, 1) := by decide +kernel
theorem dL_law__1585 : decode cL_law_ 1585 = .ok (.iadd, 1) := by decide +kernel
theorem dL_law__1586 : decode cL_law_ 1586 = .ok (.iaload, 1) := by decide +kernel
theorem dL_law__1587 : decode cL_law_ 1587 = .ok (.aload_n 0, 1) := by decide +kernel
theorem dL_law__1588 : decode cL_law_ 1588 = .ok (.iload 4, 2) := by decide +kernel
theorem dL_law__1590 : decode cL_law_ 1590 = .ok (.iconst 2, 1) := by decide +kernel
theorem dL_law__1591 : decode cL_law_ 1591 = .ok (.iadd, 1) := by decide +kernel
theorem dL_law__1592 : decode cL_law_ 1592 = .ok (.iaload, 1) := by decide +kernel
theorem dL_law__1593 : decode cL_law_ 1593 = .ok (.ifCond .eq 7, 3) := by decide +kernel
theorem dL_law__1596 : decode cL_law_ 1596 = .ok (.iconst 1, 1) := by decide +kernel
theorem dL_law__1597 : decode cL_law_ 1597 = .ok (.goto 4, 3) := by decide +kernel
theorem dL_law__1600 : decode cL_law_ 1600 = .ok (.iconst 0, 1) := by decide +kernel
theorem dL_law__1601 : decode cL_law_ 1601 = .ok (.invokevirtual 208, 3) := by decide +kernel
theorem dL_law__1604 : decode cL_law_ 1604 = .ok (.if_icmp .eq 1065, 3) := by decide +kernel
theorem dL_law__1607 : decode cL_law_ 1607 = .ok (.iconst 0, 1) := by decide +kernel
theorem dL_law__1608 : decode cL_law_ 1608 = .ok (.ireturn, 1) := by decide +kernel
theorem dL_law__1609 : decode cL_law_ 1609 = .ok (.aload_n 1, 1) := by decide +kernel
theorem dL_law__1610 : decode cL_law_ 1610 = .ok (.aload_n 0, 1) := by decide +kernel
theorem dL_law__1611 : decode cL_law_ 1611 = .ok (.iload 4, 2) := by decide +kernel
theorem dL_law__1613 : decode cL_law_ 1613 = .ok (.iconst 1, 1) := by decide +kernel
theorem dL_law__1614 : decode cL_law_ 1614 = .ok (.iadd, 1) := by decide +kernel
theorem dL_law__1615 : decode cL_law_ 1615 = .ok (.iaload, 1) := by decide +kernel
theorem dL_law__1616 : decode cL_law_ 1616 = .ok (.aload_n 0, 1) := by decide +kernel
theorem dL_law__1617 : decode cL_law_ 1617 = .ok (.iload 4, 2) := by decide +kernel
theorem dL_law__1619 : decode cL_law_ 1619 = .ok (.iconst 2, 1) := by decide +kernel
theorem dL_law__1620 : decode cL_law_ 1620 = .ok (.iadd, 1) := by decide +kernel
theorem dL_law__1621 : decode cL_law_ 1621 = .ok (.iaload, 1) := by decide +kernel
theorem dL_law__1622 : decode cL_law_ 1622 = .ok (.aload_n 0, 1) := by decide +kernel
theorem dL_law__1623 : decode cL_law_ 1623 = .ok (.iload 4, 2) := by decide +kernel
theorem dL_law__1625 : decode cL_law_ 1625 = .ok (.iconst 3, 1) := by decide +kernel
theorem dL_law__1626 : decode cL_law_ 1626 = .ok (.iadd, 1) := by decide +kernel
theorem dL_law__1627 : decode cL_law_ 1627 = .ok (.iaload, 1) := by decide +kernel
theorem dL_law__1628 : decode cL_law_ 1628 = .ok (.aload_n 3, 1) := by decide +kernel
theorem dL_law__1629 : decode cL_law_ 1629 = .ok (.invokestatic 209, 3) := by decide +kernel
theorem dL_law__1632 : decode cL_law_ 1632 = .ok (.istore 5, 2) := by decide +kernel
theorem dL_law__1634 : decode cL_law_ 1634 = .ok (.aload_n 2, 1) := by decide +kernel
theorem dL_law__1635 : decode cL_law_ 1635 = .ok (.aload_n 0, 1) := by decide +kernel
theorem dL_law__1636 : decode cL_law_ 1636 = .ok (.iload 4, 2) := by decide +kernel
theorem dL_law__1638 : decode cL_law_ 1638 = .ok (.iconst 1, 1) := by decide +kernel
theorem dL_law__1639 : decode cL_law_ 1639 = .ok (.iadd, 1) := by decide +kernel
theorem dL_law__1640 : decode cL_law_ 1640 = .ok (.iaload, 1) := by decide +kernel
theorem dL_law__1641 : decode cL_law_ 1641 = .ok (.aload_n 0, 1) := by decide +kernel
theorem dL_law__1642 : decode cL_law_ 1642 = .ok (.iload 4, 2) := by decide +kernel
theorem dL_law__1644 : decode cL_law_ 1644 = .ok (.iconst 2, 1) := by decide +kernel
theorem dL_law__1645 : decode cL_law_ 1645 = .ok (.iadd, 1) := by decide +kernel
theorem dL_law__1646 : decode cL_law_ 1646 = .ok (.iaload, 1) := by decide +kernel
theorem dL_law__1647 : decode cL_law_ 1647 = .ok (.aload_n 0, 1) := by decide +kernel
theorem dL_law__1648 : decode cL_law_ 1648 = .ok (.iload 4, 2) := by decide +kernel
theorem dL_law__1650 : decode cL_law_ 1650 = .ok (.iconst 3, 1) := by decide +kernel
theorem dL_law__1651 : decode cL_law_ 1651 = .ok (.iadd, 1) := by decide +kernel
theorem dL_law__1652 : decode cL_law_ 1652 = .ok (.iaload, 1) := by decide +kernel
theorem dL_law__1653 : decode cL_law_ 1653 = .ok (.invokevirtual 211, 3) := by decide +kernel
theorem dL_law__1656 : decode cL_law_ 1656 = .ok (.istore 6, 2) := by decide +kernel
theorem dL_law__1658 : decode cL_law_ 1658 = .ok (.aload_n 2, 1) := by decide +kernel
theorem dL_law__1659 : decode cL_law_ 1659 = .ok (.invokevirtual 139, 3) := by decide +kernel
theorem dL_law__1662 : decode cL_law_ 1662 = .ok (.iload 5, 2) := by decide +kernel
theorem dL_law__1664 : decode cL_law_ 1664 = .ok (.if_icmp .eq 5, 3) := by decide +kernel
theorem dL_law__1667 : decode cL_law_ 1667 = .ok (.iconst 0, 1) := by decide +kernel
theorem dL_law__1668 : decode cL_law_ 1668 = .ok (.ireturn, 1) := by decide +kernel
theorem dL_law__1669 : decode cL_law_ 1669 = .ok (.iload 5, 2) := by decide +kernel
theorem dL_law__1671 : decode cL_law_ 1671 = .ok (.ifCond .ne 15, 3) := by decide +kernel
theorem dL_law__1674 : decode cL_law_ 1674 = .ok (.aload_n 3, 1) := by decide +kernel
theorem dL_law__1675 : decode cL_law_ 1675 = .ok (.iconst 0, 1) := by decide +kernel
theorem dL_law__1676 : decode cL_law_ 1676 = .ok (.laload, 1) := by decide +kernel
theorem dL_law__1677 : decode cL_law_ 1677 = .ok (.iload 6, 2) := by decide +kernel
theorem dL_law__1679 : decode cL_law_ 1679 = .ok (.i2l, 1) := by decide +kernel
theorem dL_law__1680 : decode cL_law_ 1680 = .ok (.lcmp, 1) := by decide +kernel
theorem dL_law__1681 : decode cL_law_ 1681 = .ok (.ifCond .eq 5, 3) := by decide +kernel
theorem dL_law__1684 : decode cL_law_ 1684 = .ok (.iconst 0, 1) := by decide +kernel
theorem dL_law__1685 : decode cL_law_ 1685 = .ok (.ireturn, 1) := by decide +kernel
theorem dL_law__1686 : decode cL_law_ 1686 = .ok (.goto 983, 3) := by decide +kernel
theorem dL_law__1689 : decode cL_law_ 1689 = .ok (.aload_n 1, 1) := by decide +kernel
theorem dL_law__1690 : decode cL_law_ 1690 = .ok (.aload_n 0, 1) := by decide +kernel
theorem dL_law__1691 : decode cL_law_ 1691 = .ok (.iload 4, 2) := by decide +kernel
theorem dL_law__1693 : decode cL_law_ 1693 = .ok (.iconst 1, 1) := by decide +kernel
theorem dL_law__1694 : decode cL_law_ 1694 = .ok (.iadd, 1) := by decide +kernel
theorem dL_law__1695 : decode cL_law_ 1695 = .ok (.iaload, 1) := by decide +kernel
theorem dL_law__1696 : decode cL_law_ 1696 = .ok (.ifCond .eq 7, 3) := by decide +kernel
theorem dL_law__1699 : decode cL_law_ 1699 = .ok (.iconst 1, 1) := by decide +kernel
theorem dL_law__1700 : decode cL_law_ 1700 = .ok (.goto 4, 3) := by decide +kernel
theorem dL_law__1703 : decode cL_law_ 1703 = .ok (.iconst 0, 1) := by decide +kernel
theorem dL_law__1704 : decode cL_law_ 1704 = .ok (.invokevirtual 212, 3) := by decide +kernel
theorem dL_law__1707 : decode cL_law_ 1707 = .ok (.aload_n 2, 1) := by decide +kernel
theorem dL_law__1708 : decode cL_law_ 1708 = .ok (.aload_n 0, 1) := by decide +kernel
theorem dL_law__1709 : decode cL_law_ 1709 = .ok (.iload 4, 2) := by decide +kernel
theorem dL_law__1711 : decode cL_law_ 1711 = .ok (.iconst 1, 1) := by decide +kernel
theorem dL_law__1712 : decode cL_law_ 1712 = .ok (.iadd, 1) := by decide +kernel
theorem dL_law__1713 : decode cL_law_ 1713 = .ok (.iaload, 1) := by decide +kernel
theorem dL_law__1714 : decode cL_law_ 1714 = .ok (.ifCond .eq 7, 3) := by decide +kernel
theorem dL_law__1717 : decode cL_law_ 1717 = .ok (.iconst 1, 1) := by decide +kernel
theorem dL_law__1718 : decode cL_law_ 1718 = .ok (.goto 4, 3) := by decide +kernel
theorem dL_law__1721 : decode cL_law_ 1721 = .ok (.iconst 0, 1) := by decide +kernel
theorem dL_law__1722 : decode cL_law_ 1722 = .ok (.invokevirtual 215, 3) := by decide +kernel
theorem dL_law__1725 : decode cL_law_ 1725 = .ok (.if_icmp .eq 944, 3) := by decide +kernel
theorem dL_law__1728 : decode cL_law_ 1728 = .ok (.iconst 0, 1) := by decide +kernel
theorem dL_law__1729 : decode cL_law_ 1729 = .ok (.ireturn, 1) := by decide +kernel
theorem dL_law__1730 : decode cL_law_ 1730 = .ok (.aload_n 1, 1) := by decide +kernel
theorem dL_law__1731 : decode cL_law_ 1731 = .ok (.aload_n 0, 1) := by decide +kernel
theorem dL_law__1732 : decode cL_law_ 1732 = .ok (.iload 4, 2) := by decide +kernel
theorem dL_law__1734 : decode cL_law_ 1734 = .ok (.iconst 1, 1) := by decide +kernel
theorem dL_law__1735 : decode cL_law_ 1735 = .ok (.iadd, 1) := by decide +kernel
theorem dL_law__1736 : decode cL_law_ 1736 = .ok (.iaload, 1) := by decide +kernel
theorem dL_law__1737 : decode cL_law_ 1737 = .ok (.aload_n 3, 1) := by decide +kernel
theorem dL_law__1738 : decode cL_law_ 1738 = .ok (.invokestatic 216, 3) := by decide +kernel
theorem dL_law__1741 : decode cL_law_ 1741 = .ok (.istore 5, 2) := by decide +kernel
theorem dL_law__1743 : decode cL_law_ 1743 = .ok (.aload_n 2, 1) := by decide +kernel
theorem dL_law__1744 : decode cL_law_ 1744 = .ok (.aload_n 0, 1) := by decide +kernel
theorem dL_law__1745 : decode cL_law_ 1745 = .ok (.iload 4, 2) := by decide +kernel
theorem dL_law__1747 : decode cL_law_ 1747 = .ok (.iconst 1, 1) := by decide +kernel
theorem dL_law__1748 : decode cL_law_ 1748 = .ok (.iadd, 1) := by decide +kernel
theorem dL_law__1749 : decode cL_law_ 1749 = .ok (.iaload, 1) := by decide +kernel
theorem dL_law__1750 : decode cL_law_ 1750 = .ok (.invokevirtual 218, 3) := by decide +kernel
theorem dL_law__1753 : decode cL_law_ 1753 = .ok (.istore 6, 2) := by decide +kernel
theorem dL_law__1755 : decode cL_law_ 1755 = .ok (.aload_n 2, 1) := by decide +kernel
theorem dL_law__1756 : decode cL_law_ 1756 = .ok (.invokevirtual 139, 3) := by decide +kernel
theorem dL_law__1759 : decode cL_law_ 1759 = .ok (.iload 5, 2) := by decide +kernel
theorem dL_law__1761 : decode cL_law_ 1761 = .ok (.if_icmp .eq 5, 3) := by decide +kernel
theorem dL_law__1764 : decode cL_law_ 1764 = .ok (.iconst 0, 1) := by decide +kernel
theorem dL_law__1765 : decode cL_law_ 1765 = .ok (.ireturn, 1) := by decide +kernel
theorem dL_law__1766 : decode cL_law_ 1766 = .ok (.iload 5, 2) := by decide +kernel
theorem dL_law__1768 : decode cL_law_ 1768 = .ok (.ifCond .ne 15, 3) := by decide +kernel
theorem dL_law__1771 : decode cL_law_ 1771 = .ok (.aload_n 3, 1) := by decide +kernel
theorem dL_law__1772 : decode cL_law_ 1772 = .ok (.iconst 0, 1) := by decide +kernel
theorem dL_law__1773 : decode cL_law_ 1773 = .ok (.laload, 1) := by decide +kernel
theorem dL_law__1774 : decode cL_law_ 1774 = .ok (.iload 6, 2) := by decide +kernel
theorem dL_law__1776 : decode cL_law_ 1776 = .ok (.i2l, 1) := by decide +kernel
theorem dL_law__1777 : decode cL_law_ 1777 = .ok (.lcmp, 1) := by decide +kernel
theorem dL_law__1778 : decode cL_law_ 1778 = .ok (.ifCond .eq 5, 3) := by decide +kernel
theorem dL_law__1781 : decode cL_law_ 1781 = .ok (.iconst 0, 1) := by decide +kernel
theorem dL_law__1782 : decode cL_law_ 1782 = .ok (.ireturn, 1) := by decide +kernel
theorem dL_law__1783 : decode cL_law_ 1783 = .ok (.goto 886, 3) := by decide +kernel
theorem dL_law__1786 : decode cL_law_ 1786 = .ok (.aload_n 1, 1) := by decide +kernel
theorem dL_law__1787 : decode cL_law_ 1787 = .ok (.aload_n 0, 1) := by decide +kernel
theorem dL_law__1788 : decode cL_law_ 1788 = .ok (.iload 4, 2) := by decide +kernel
theorem dL_law__1790 : decode cL_law_ 1790 = .ok (.iconst 1, 1) := by decide +kernel
theorem dL_law__1791 : decode cL_law_ 1791 = .ok (.iadd, 1) := by decide +kernel
theorem dL_law__1792 : decode cL_law_ 1792 = .ok (.iaload, 1) := by decide +kernel
theorem dL_law__1793 : decode cL_law_ 1793 = .ok (.aload_n 3, 1) := by decide +kernel
theorem dL_law__1794 : decode cL_law_ 1794 = .ok (.invokestatic 219, 3) := by decide +kernel
theorem dL_law__1797 : decode cL_law_ 1797 = .ok (.istore 5, 2) := by decide +kernel
theorem dL_law__1799 : decode cL_law_ 1799 = .ok (.aload_n 2, 1) := by decide +kernel
theorem dL_law__1800 : decode cL_law_ 1800 = .ok (.aload_n 0, 1) := by decide +kernel
theorem dL_law__1801 : decode cL_law_ 1801 = .ok (.iload 4, 2) := by decide +kernel
theorem dL_law__1803 : decode cL_law_ 1803 = .ok (.iconst 1, 1) := by decide +kernel
theorem dL_law__1804 : decode cL_law_ 1804 = .ok (.iadd, 1) := by decide +kernel
theorem dL_law__1805 : decode cL_law_ 1805 = .ok (.iaload, 1) := by decide +kernel
theorem dL_law__1806 : decode cL_law_ 1806 = .ok (.invokevirtual 221, 3) := by decide +kernel
theorem dL_law__1809 : decode cL_law_ 1809 = .ok (.istore 6, 2) := by decide +kernel
theorem dL_law__1811 : decode cL_law_ 1811 = .ok (.aload_n 2, 1) := by decide +kernel
theorem dL_law__1812 : decode cL_law_ 1812 = .ok (.invokevirtual 139, 3) := by decide +kernel
theorem dL_law__1815 : decode cL_law_ 1815 = .ok (.iload 5, 2) := by decide +kernel
theorem dL_law__1817 : decode cL_law_ 1817 = .ok (.if_icmp .eq 5, 3) := by decide +kernel
theorem dL_law__1820 : decode cL_law_ 1820 = .ok (.iconst 0, 1) := by decide +kernel
theorem dL_law__1821 : decode cL_law_ 1821 = .ok (.ireturn, 1) := by decide +kernel
theorem dL_law__1822 : decode cL_law_ 1822 = .ok (.iload 5, 2) := by decide +kernel
theorem dL_law__1824 : decode cL_law_ 1824 = .ok (.ifCond .ne 15, 3) := by decide +kernel
theorem dL_law__1827 : decode cL_law_ 1827 = .ok (.aload_n 3, 1) := by decide +kernel
theorem dL_law__1828 : decode cL_law_ 1828 = .ok (.iconst 0, 1) := by decide +kernel
theorem dL_law__1829 : decode cL_law_ 1829 = .ok (.laload, 1) := by decide +kernel
theorem dL_law__1830 : decode cL_law_ 1830 = .ok (.iload 6, 2) := by decide +kernel
theorem dL_law__1832 : decode cL_law_ 1832 = .ok (.i2l, 1) := by decide +kernel
theorem dL_law__1833 : decode cL_law_ 1833 = .ok (.lcmp, 1) := by decide +kernel
theorem dL_law__1834 : decode cL_law_ 1834 = .ok (.ifCond .eq 5, 3) := by decide +kernel
theorem dL_law__1837 : decode cL_law_ 1837 = .ok (.iconst 0, 1) := by decide +kernel
theorem dL_law__1838 : decode cL_law_ 1838 = .ok (.ireturn, 1) := by decide +kernel
theorem dL_law__1839 : decode cL_law_ 1839 = .ok (.goto 830, 3) := by decide +kernel
theorem dL_law__1842 : decode cL_law_ 1842 = .ok (.aload_n 1, 1) := by decide +kernel
theorem dL_law__1843 : decode cL_law_ 1843 = .ok (.aload_n 0, 1) := by decide +kernel
theorem dL_law__1844 : decode cL_law_ 1844 = .ok (.iload 4, 2) := by decide +kernel
theorem dL_law__1846 : decode cL_law_ 1846 = .ok (.iconst 1, 1) := by decide +kernel
theorem dL_law__1847 : decode cL_law_ 1847 = .ok (.iadd, 1) := by decide +kernel
theorem dL_law__1848 : decode cL_law_ 1848 = .ok (.iaload, 1) := by decide +kernel
theorem dL_law__1849 : decode cL_law_ 1849 = .ok (.aload_n 0, 1) := by decide +kernel
theorem dL_law__1850 : decode cL_law_ 1850 = .ok (.iload 4, 2) := by decide +kernel
theorem dL_law__1852 : decode cL_law_ 1852 = .ok (.iconst 2, 1) := by decide +kernel
theorem dL_law__1853 : decode cL_law_ 1853 = .ok (.iadd, 1) := by decide +kernel
theorem dL_law__1854 : decode cL_law_ 1854 = .ok (.iaload, 1) := by decide +kernel
theorem dL_law__1855 : decode cL_law_ 1855 = .ok (.aload_n 0, 1) := by decide +kernel
theorem dL_law__1856 : decode cL_law_ 1856 = .ok (.iload 4, 2) := by decide +kernel
theorem dL_law__1858 : decode cL_law_ 1858 = .ok (.iconst 3, 1) := by decide +kernel
theorem dL_law__1859 : decode cL_law_ 1859 = .ok (.iadd, 1) := by decide +kernel
theorem dL_law__1860 : decode cL_law_ 1860 = .ok (.iaload, 1) := by decide +kernel
theorem dL_law__1861 : decode cL_law_ 1861 = .ok (.aload_n 3, 1) := by decide +kernel
theorem dL_law__1862 : decode cL_law_ 1862 = .ok (.invokestatic 222, 3) := by decide +kernel
theorem dL_law__1865 : decode cL_law_ 1865 = .ok (.istore 5, 2) := by decide +kernel
theorem dL_law__1867 : decode cL_law_ 1867 = .ok (.aload_n 2, 1) := by decide +kernel
theorem dL_law__1868 : decode cL_law_ 1868 = .ok (.aload_n 0, 1) := by decide +kernel
theorem dL_law__1869 : decode cL_law_ 1869 = .ok (.iload 4, 2) := by decide +kernel
theorem dL_law__1871 : decode cL_law_ 1871 = .ok (.iconst 1, 1) := by decide +kernel
theorem dL_law__1872 : decode cL_law_ 1872 = .ok (.iadd, 1) := by decide +kernel
theorem dL_law__1873 : decode cL_law_ 1873 = .ok (.iaload, 1) := by decide +kernel
theorem dL_law__1874 : decode cL_law_ 1874 = .ok (.aload_n 0, 1) := by decide +kernel
theorem dL_law__1875 : decode cL_law_ 1875 = .ok (.iload 4, 2) := by decide +kernel
theorem dL_law__1877 : decode cL_law_ 1877 = .ok (.iconst 2, 1) := by decide +kernel
theorem dL_law__1878 : decode cL_law_ 1878 = .ok (.iadd, 1) := by decide +kernel
theorem dL_law__1879 : decode cL_law_ 1879 = .ok (.iaload, 1) := by decide +kernel
theorem dL_law__1880 : decode cL_law_ 1880 = .ok (.aload_n 0, 1) := by decide +kernel
theorem dL_law__1881 : decode cL_law_ 1881 = .ok (.iload 4, 2) := by decide +kernel
theorem dL_law__1883 : decode cL_law_ 1883 = .ok (.iconst 3, 1) := by decide +kernel
theorem dL_law__1884 : decode cL_law_ 1884 = .ok (.iadd, 1) := by decide +kernel
theorem dL_law__1885 : decode cL_law_ 1885 = .ok (.iaload, 1) := by decide +kernel
theorem dL_law__1886 : decode cL_law_ 1886 = .ok (.invokevirtual 224, 3) := by decide +kernel
theorem dL_law__1889 : decode cL_law_ 1889 = .ok (.istore 6, 2) := by decide +kernel
theorem dL_law__1891 : decode cL_law_ 1891 = .ok (.aload_n 2, 1) := by decide +kernel
theorem dL_law__1892 : decode cL_law_ 1892 = .ok (.invokevirtual 139, 3) := by decide +kernel
theorem dL_law__1895 : decode cL_law_ 1895 = .ok (.iload 5, 2) := by decide +kernel
theorem dL_law__1897 : decode cL_law_ 1897 = .ok (.if_icmp .eq 5, 3) := by decide +kernel
theorem dL_law__1900 : decode cL_law_ 1900 = .ok (.iconst 0, 1) := by decide +kernel
theorem dL_law__1901 : decode cL_law_ 1901 = .ok (.ireturn, 1) := by decide +kernel
theorem dL_law__1902 : decode cL_law_ 1902 = .ok (.iload 5, 2) := by decide +kernel
theorem dL_law__1904 : decode cL_law_ 1904 = .ok (.ifCond .ne 15, 3) := by decide +kernel
theorem dL_law__1907 : decode cL_law_ 1907 = .ok (.aload_n 3, 1) := by decide +kernel
theorem dL_law__1908 : decode cL_law_ 1908 = .ok (.iconst 0, 1) := by decide +kernel
theorem dL_law__1909 : decode cL_law_ 1909 = .ok (.laload, 1) := by decide +kernel
theorem dL_law__1910 : decode cL_law_ 1910 = .ok (.iload 6, 2) := by decide +kernel
theorem dL_law__1912 : decode cL_law_ 1912 = .ok (.i2l, 1) := by decide +kernel
theorem dL_law__1913 : decode cL_law_ 1913 = .ok (.lcmp, 1) := by decide +kernel
theorem dL_law__1914 : decode cL_law_ 1914 = .ok (.ifCond .eq 5, 3) := by decide +kernel
theorem dL_law__1917 : decode cL_law_ 1917 = .ok (.iconst 0, 1) := by decide +kernel
theorem dL_law__1918 : decode cL_law_ 1918 = .ok (.ireturn, 1) := by decide +kernel
theorem dL_law__1919 : decode cL_law_ 1919 = .ok (.goto 750, 3) := by decide +kernel
theorem dL_law__1922 : decode cL_law_ 1922 = .ok (.aload_n 1, 1) := by decide +kernel
theorem dL_law__1923 : decode cL_law_ 1923 = .ok (.aload_n 0, 1) := by decide +kernel
theorem dL_law__1924 : decode cL_law_ 1924 = .ok (.iload 4, 2) := by decide +kernel
theorem dL_law__1926 : decode cL_law_ 1926 = .ok (.iconst 1, 1) := by decide +kernel
theorem dL_law__1927 : decode cL_law_ 1927 = .ok (.iadd, 1) := by decide +kernel
theorem dL_law__1928 : decode cL_law_ 1928 = .ok (.iaload, 1) := by decide +kernel
theorem dL_law__1929 : decode cL_law_ 1929 = .ok (.aload_n 0, 1) := by decide +kernel
theorem dL_law__1930 : decode cL_law_ 1930 = .ok (.iload 4, 2) := by decide +kernel
theorem dL_law__1932 : decode cL_law_ 1932 = .ok (.iconst 2, 1) := by decide +kernel
theorem dL_law__1933 : decode cL_law_ 1933 = .ok (.iadd, 1) := by decide +kernel
theorem dL_law__1934 : decode cL_law_ 1934 = .ok (.iaload, 1) := by decide +kernel
theorem dL_law__1935 : decode cL_law_ 1935 = .ok (.aload_n 3, 1) := by decide +kernel
theorem dL_law__1936 : decode cL_law_ 1936 = .ok (.invokestatic 225, 3) := by decide +kernel
theorem dL_law__1939 : decode cL_law_ 1939 = .ok (.istore 5, 2) := by decide +kernel
theorem dL_law__1941 : decode cL_law_ 1941 = .ok (.aload_n 2, 1) := by decide +kernel
theorem dL_law__1942 : decode cL_law_ 1942 = .ok (.aload_n 0, 1) := by decide +kernel
theorem dL_law__1943 : decode cL_law_ 1943 = .ok (.iload 4, 2) := by decide +kernel
theorem dL_law__1945 : decode cL_law_ 1945 = .ok (.iconst 1, 1) := by decide +kernel
theorem dL_law__1946 : decode cL_law_ 1946 = .ok (.iadd, 1) := by decide +kernel
theorem dL_law__1947 : decode cL_law_ 1947 = .ok (.iaload, 1) := by decide +kernel
theorem dL_law__1948 : decode cL_law_ 1948 = .ok (.aload_n 0, 1) := by decide +kernel
theorem dL_law__1949 : decode cL_law_ 1949 = .ok (.iload 4, 2) := by decide +kernel
theorem dL_law__1951 : decode cL_law_ 1951 = .ok (.iconst 2, 1) := by decide +kernel
theorem dL_law__1952 : decode cL_law_ 1952 = .ok (.iadd, 1) := by decide +kernel
theorem dL_law__1953 : decode cL_law_ 1953 = .ok (.iaload, 1) := by decide +kernel
theorem dL_law__1954 : decode cL_law_ 1954 = .ok (.invokevirtual 227, 3) := by decide +kernel
theorem dL_law__1957 : decode cL_law_ 1957 = .ok (.istore 6, 2) := by decide +kernel
theorem dL_law__1959 : decode cL_law_ 1959 = .ok (.aload_n 2, 1) := by decide +kernel
theorem dL_law__1960 : decode cL_law_ 1960 = .ok (.invokevirtual 139, 3) := by decide +kernel
theorem dL_law__1963 : decode cL_law_ 1963 = .ok (.iload 5, 2) := by decide +kernel
theorem dL_law__1965 : decode cL_law_ 1965 = .ok (.if_icmp .eq 5, 3) := by decide +kernel
theorem dL_law__1968 : decode cL_law_ 1968 = .ok (.iconst 0, 1) := by decide +kernel
theorem dL_law__1969 : decode cL_law_ 1969 = .ok (.ireturn, 1) := by decide +kernel
theorem dL_law__1970 : decode cL_law_ 1970 = .ok (.iload 5, 2) := by decide +kernel
theorem dL_law__1972 : decode cL_law_ 1972 = .ok (.ifCond .ne 15, 3) := by decide +kernel
theorem dL_law__1975 : decode cL_law_ 1975 = .ok (.aload_n 3, 1) := by decide +kernel
theorem dL_law__1976 : decode cL_law_ 1976 = .ok (.iconst 0, 1) := by decide +kernel
theorem dL_law__1977 : decode cL_law_ 1977 = .ok (.laload, 1) := by decide +kernel
theorem dL_law__1978 : decode cL_law_ 1978 = .ok (.iload 6, 2) := by decide +kernel
theorem dL_law__1980 : decode cL_law_ 1980 = .ok (.i2l, 1) := by decide +kernel
theorem dL_law__1981 : decode cL_law_ 1981 = .ok (.lcmp, 1) := by decide +kernel
theorem dL_law__1982 : decode cL_law_ 1982 = .ok (.ifCond .eq 5, 3) := by decide +kernel
theorem dL_law__1985 : decode cL_law_ 1985 = .ok (.iconst 0, 1) := by decide +kernel
theorem dL_law__1986 : decode cL_law_ 1986 = .ok (.ireturn, 1) := by decide +kernel
theorem dL_law__1987 : decode cL_law_ 1987 = .ok (.goto 682, 3) := by decide +kernel
theorem dL_law__1990 : decode cL_law_ 1990 = .ok (.aload_n 1, 1) := by decide +kernel
theorem dL_law__1991 : decode cL_law_ 1991 = .ok (.aload_n 0, 1) := by decide +kernel
theorem dL_law__1992 : decode cL_law_ 1992 = .ok (.iload 4, 2) := by decide +kernel
theorem dL_law__1994 : decode cL_law_ 1994 = .ok (.iconst 1, 1) := by decide +kernel
theorem dL_law__1995 : decode cL_law_ 1995 = .ok (.iadd, 1) := by decide +kernel
theorem dL_law__1996 : decode cL_law_ 1996 = .ok (.iaload, 1) := by decide +kernel
theorem dL_law__1997 : decode cL_law_ 1997 = .ok (.aload_n 3, 1) := by decide +kernel
theorem dL_law__1998 : decode cL_law_ 1998 = .ok (.invokestatic 228, 3) := by decide +kernel
theorem dL_law__2001 : decode cL_law_ 2001 = .ok (.istore 5, 2) := by decide +kernel
theorem dL_law__2003 : decode cL_law_ 2003 = .ok (.aload_n 2, 1) := by decide +kernel
theorem dL_law__2004 : decode cL_law_ 2004 = .ok (.aload_n 0, 1) := by decide +kernel
theorem dL_law__2005 : decode cL_law_ 2005 = .ok (.iload 4, 2) := by decide +kernel
theorem dL_law__2007 : decode cL_law_ 2007 = .ok (.iconst 1, 1) := by decide +kernel
theorem dL_law__2008 : decode cL_law_ 2008 = .ok (.iadd, 1) := by decide +kernel
theorem dL_law__2009 : decode cL_law_ 2009 = .ok (.iaload, 1) := by decide +kernel
theorem dL_law__2010 : decode cL_law_ 2010 = .ok (.invokevirtual 230, 3) := by decide +kernel
theorem dL_law__2013 : decode cL_law_ 2013 = .ok (.istore 6, 2) := by decide +kernel
theorem dL_law__2015 : decode cL_law_ 2015 = .ok (.aload_n 2, 1) := by decide +kernel
theorem dL_law__2016 : decode cL_law_ 2016 = .ok (.invokevirtual 139, 3) := by decide +kernel
theorem dL_law__2019 : decode cL_law_ 2019 = .ok (.iload 5, 2) := by decide +kernel
theorem dL_law__2021 : decode cL_law_ 2021 = .ok (.if_icmp .eq 5, 3) := by decide +kernel
theorem dL_law__2024 : decode cL_law_ 2024 = .ok (.iconst 0, 1) := by decide +kernel
theorem dL_law__2025 : decode cL_law_ 2025 = .ok (.ireturn, 1) := by decide +kernel
theorem dL_law__2026 : decode cL_law_ 2026 = .ok (.iload 5, 2) := by decide +kernel
theorem dL_law__2028 : decode cL_law_ 2028 = .ok (.ifCond .ne 15, 3) := by decide +kernel
theorem dL_law__2031 : decode cL_law_ 2031 = .ok (.aload_n 3, 1) := by decide +kernel
theorem dL_law__2032 : decode cL_law_ 2032 = .ok (.iconst 0, 1) := by decide +kernel
theorem dL_law__2033 : decode cL_law_ 2033 = .ok (.laload, 1) := by decide +kernel
theorem dL_law__2034 : decode cL_law_ 2034 = .ok (.iload 6, 2) := by decide +kernel
theorem dL_law__2036 : decode cL_law_ 2036 = .ok (.i2l, 1) := by decide +kernel
theorem dL_law__2037 : decode cL_law_ 2037 = .ok (.lcmp, 1) := by decide +kernel
theorem dL_law__2038 : decode cL_law_ 2038 = .ok (.ifCond .eq 5, 3) := by decide +kernel
theorem dL_law__2041 : decode cL_law_ 2041 = .ok (.iconst 0, 1) := by decide +kernel
theorem dL_law__2042 : decode cL_law_ 2042 = .ok (.ireturn, 1) := by decide +kernel
theorem dL_law__2043 : decode cL_law_ 2043 = .ok (.goto 626, 3) := by decide +kernel
theorem dL_law__2046 : decode cL_law_ 2046 = .ok (.aload_n 1, 1) := by decide +kernel
theorem dL_law__2047 : decode cL_law_ 2047 = .ok (.aload_n 0, 1) := by decide +kernel
theorem dL_law__2048 : decode cL_law_ 2048 = .ok (.iload 4, 2) := by decide +kernel
theorem dL_law__2050 : decode cL_law_ 2050 = .ok (.iconst 1, 1) := by decide +kernel
theorem dL_law__2051 : decode cL_law_ 2051 = .ok (.iadd, 1) := by decide +kernel
theorem dL_law__2052 : decode cL_law_ 2052 = .ok (.iaload, 1) := by decide +kernel
theorem dL_law__2053 : decode cL_law_ 2053 = .ok (.aload_n 0, 1) := by decide +kernel
theorem dL_law__2054 : decode cL_law_ 2054 = .ok (.iload 4, 2) := by decide +kernel
theorem dL_law__2056 : decode cL_law_ 2056 = .ok (.iconst 2, 1) := by decide +kernel
theorem dL_law__2057 : decode cL_law_ 2057 = .ok (.iadd, 1) := by decide +kernel
theorem dL_law__2058 : decode cL_law_ 2058 = .ok (.iaload, 1) := by decide +kernel
theorem dL_law__2059 : decode cL_law_ 2059 = .ok (.aload_n 3, 1) := by decide +kernel
theorem dL_law__2060 : decode cL_law_ 2060 = .ok (.invokestatic 231, 3) := by decide +kernel
theorem dL_law__2063 : decode cL_law_ 2063 = .ok (.istore 5, 2) := by decide +kernel
theorem dL_law__2065 : decode cL_law_ 2065 = .ok (.aload_n 2, 1) := by decide +kernel
theorem dL_law__2066 : decode cL_law_ 2066 = .ok (.aload_n 0, 1) := by decide +kernel
theorem dL_law__2067 : decode cL_law_ 2067 = .ok (.iload 4, 2) := by decide +kernel
theorem dL_law__2069 : decode cL_law_ 2069 = .ok (.iconst 1, 1) := by decide +kernel
theorem dL_law__2070 : decode cL_law_ 2070 = .ok (.iadd, 1) := by decide +kernel
theorem dL_law__2071 : decode cL_law_ 2071 = .ok (.iaload, 1) := by decide +kernel
theorem dL_law__2072 : decode cL_law_ 2072 = .ok (.aload_n 0, 1) := by decide +kernel
theorem dL_law__2073 : decode cL_law_ 2073 = .ok (.iload 4, 2) := by decide +kernel
theorem dL_law__2075 : decode cL_law_ 2075 = .ok (.iconst 2, 1) := by decide +kernel
theorem dL_law__2076 : decode cL_law_ 2076 = .ok (.iadd, 1) := by decide +kernel
theorem dL_law__2077 : decode cL_law_ 2077 = .ok (.iaload, 1) := by decide +kernel
theorem dL_law__2078 : decode cL_law_ 2078 = .ok (.invokevirtual 233, 3) := by decide +kernel
theorem dL_law__2081 : decode cL_law_ 2081 = .ok (.istore 6, 2) := by decide +kernel
theorem dL_law__2083 : decode cL_law_ 2083 = .ok (.aload_n 2, 1) := by decide +kernel
theorem dL_law__2084 : decode cL_law_ 2084 = .ok (.invokevirtual 139, 3) := by decide +kernel
theorem dL_law__2087 : decode cL_law_ 2087 = .ok (.iload 5, 2) := by decide +kernel
theorem dL_law__2089 : decode cL_law_ 2089 = .ok (.if_icmp .eq 5, 3) := by decide +kernel
theorem dL_law__2092 : decode cL_law_ 2092 = .ok (.iconst 0, 1) := by decide +kernel
theorem dL_law__2093 : decode cL_law_ 2093 = .ok (.ireturn, 1) := by decide +kernel
theorem dL_law__2094 : decode cL_law_ 2094 = .ok (.iload 5, 2) := by decide +kernel
theorem dL_law__2096 : decode cL_law_ 2096 = .ok (.ifCond .ne 15, 3) := by decide +kernel
theorem dL_law__2099 : decode cL_law_ 2099 = .ok (.aload_n 3, 1) := by decide +kernel
theorem dL_law__2100 : decode cL_law_ 2100 = .ok (.iconst 0, 1) := by decide +kernel
theorem dL_law__2101 : decode cL_law_ 2101 = .ok (.laload, 1) := by decide +kernel
theorem dL_law__2102 : decode cL_law_ 2102 = .ok (.iload 6, 2) := by decide +kernel
theorem dL_law__2104 : decode cL_law_ 2104 = .ok (.i2l, 1) := by decide +kernel
theorem dL_law__2105 : decode cL_law_ 2105 = .ok (.lcmp, 1) := by decide +kernel
theorem dL_law__2106 : decode cL_law_ 2106 = .ok (.ifCond .eq 5, 3) := by decide +kernel
theorem dL_law__2109 : decode cL_law_ 2109 = .ok (.iconst 0, 1) := by decide +kernel
theorem dL_law__2110 : decode cL_law_ 2110 = .ok (.ireturn, 1) := by decide +kernel
theorem dL_law__2111 : decode cL_law_ 2111 = .ok (.goto 558, 3) := by decide +kernel
theorem dL_law__2114 : decode cL_law_ 2114 = .ok (.aload_n 1, 1) := by decide +kernel
theorem dL_law__2115 : decode cL_law_ 2115 = .ok (.aload_n 0, 1) := by decide +kernel
theorem dL_law__2116 : decode cL_law_ 2116 = .ok (.iload 4, 2) := by decide +kernel
theorem dL_law__2118 : decode cL_law_ 2118 = .ok (.iconst 1, 1) := by decide +kernel
theorem dL_law__2119 : decode cL_law_ 2119 = .ok (.iadd, 1) := by decide +kernel
theorem dL_law__2120 : decode cL_law_ 2120 = .ok (.iaload, 1) := by decide +kernel
theorem dL_law__2121 : decode cL_law_ 2121 = .ok (.aload_n 0, 1) := by decide +kernel
theorem dL_law__2122 : decode cL_law_ 2122 = .ok (.iload 4, 2) := by decide +kernel
theorem dL_law__2124 : decode cL_law_ 2124 = .ok (.iconst 2, 1) := by decide +kernel
theorem dL_law__2125 : decode cL_law_ 2125 = .ok (.iadd, 1) := by decide +kernel
theorem dL_law__2126 : decode cL_law_ 2126 = .ok (.iaload, 1) := by decide +kernel
theorem dL_law__2127 : decode cL_law_ 2127 = .ok (.aload_n 3, 1) := by decide +kernel
theorem dL_law__2128 : decode cL_law_ 2128 = .ok (.invokestatic 234, 3) := by decide +kernel
theorem dL_law__2131 : decode cL_law_ 2131 = .ok (.istore 5, 2) := by decide +kernel
theorem dL_law__2133 : decode cL_law_ 2133 = .ok (.aload_n 2, 1) := by decide +kernel
theorem dL_law__2134 : decode cL_law_ 2134 = .ok (.aload_n 0, 1) := by decide +kernel
theorem dL_law__2135 : decode cL_law_ 2135 = .ok (.iload 4, 2) := by decide +kernel
theorem dL_law__2137 : decode cL_law_ 2137 = .ok (.iconst 1, 1) := by decide +kernel
theorem dL_law__2138 : decode cL_law_ 2138 = .ok (.iadd, 1) := by decide +kernel
theorem dL_law__2139 : decode cL_law_ 2139 = .ok (.iaload, 1) := by decide +kernel
theorem dL_law__2140 : decode cL_law_ 2140 = .ok (.aload_n 0, 1) := by decide +kernel
theorem dL_law__2141 : decode cL_law_ 2141 = .ok (.iload 4, 2) := by decide +kernel
theorem dL_law__2143 : decode cL_law_ 2143 = .ok (.iconst 2, 1) := by decide +kernel
theorem dL_law__2144 : decode cL_law_ 2144 = .ok (.iadd, 1) := by decide +kernel
theorem dL_law__2145 : decode cL_law_ 2145 = .ok (.iaload, 1) := by decide +kernel
theorem dL_law__2146 : decode cL_law_ 2146 = .ok (.invokevirtual 236, 3) := by decide +kernel
theorem dL_law__2149 : decode cL_law_ 2149 = .ok (.istore 6, 2) := by decide +kernel
theorem dL_law__2151 : decode cL_law_ 2151 = .ok (.aload_n 2, 1) := by decide +kernel
theorem dL_law__2152 : decode cL_law_ 2152 = .ok (.invokevirtual 139, 3) := by decide +kernel
theorem dL_law__2155 : decode cL_law_ 2155 = .ok (.iload 5, 2) := by decide +kernel
theorem dL_law__2157 : decode cL_law_ 2157 = .ok (.if_icmp .eq 5, 3) := by decide +kernel
theorem dL_law__2160 : decode cL_law_ 2160 = .ok (.iconst 0, 1) := by decide +kernel
theorem dL_law__2161 : decode cL_law_ 2161 = .ok (.ireturn, 1) := by decide +kernel
theorem dL_law__2162 : decode cL_law_ 2162 = .ok (.iload 5, 2) := by decide +kernel
theorem dL_law__2164 : decode cL_law_ 2164 = .ok (.ifCond .ne 15, 3) := by decide +kernel
theorem dL_law__2167 : decode cL_law_ 2167 = .ok (.aload_n 3, 1) := by decide +kernel
theorem dL_law__2168 : decode cL_law_ 2168 = .ok (.iconst 0, 1) := by decide +kernel
theorem dL_law__2169 : decode cL_law_ 2169 = .ok (.laload, 1) := by decide +kernel
theorem dL_law__2170 : decode cL_law_ 2170 = .ok (.iload 6, 2) := by decide +kernel
theorem dL_law__2172 : decode cL_law_ 2172 = .ok (.i2l, 1) := by decide +kernel
theorem dL_law__2173 : decode cL_law_ 2173 = .ok (.lcmp, 1) := by decide +kernel
theorem dL_law__2174 : decode cL_law_ 2174 = .ok (.ifCond .eq 5, 3) := by decide +kernel
theorem dL_law__2177 : decode cL_law_ 2177 = .ok (.iconst 0, 1) := by decide +kernel
theorem dL_law__2178 : decode cL_law_ 2178 = .ok (.ireturn, 1) := by decide +kernel
theorem dL_law__2179 : decode cL_law_ 2179 = .ok (.goto 490, 3) := by decide +kernel
theorem dL_law__2182 : decode cL_law_ 2182 = .ok (.aload_n 1, 1) := by decide +kernel
theorem dL_law__2183 : decode cL_law_ 2183 = .ok (.aload_n 0, 1) := by decide +kernel
theorem dL_law__2184 : decode cL_law_ 2184 = .ok (.iload 4, 2) := by decide +kernel
theorem dL_law__2186 : decode cL_law_ 2186 = .ok (.iconst 1, 1) := by decide +kernel
theorem dL_law__2187 : decode cL_law_ 2187 = .ok (.iadd, 1) := by decide +kernel
theorem dL_law__2188 : decode cL_law_ 2188 = .ok (.iaload, 1) := by decide +kernel
theorem dL_law__2189 : decode cL_law_ 2189 = .ok (.aload_n 0, 1) := by decide +kernel
theorem dL_law__2190 : decode cL_law_ 2190 = .ok (.iload 4, 2) := by decide +kernel
theorem dL_law__2192 : decode cL_law_ 2192 = .ok (.iconst 2, 1) := by decide +kernel
theorem dL_law__2193 : decode cL_law_ 2193 = .ok (.iadd, 1) := by decide +kernel
theorem dL_law__2194 : decode cL_law_ 2194 = .ok (.iaload, 1) := by decide +kernel
theorem dL_law__2195 : decode cL_law_ 2195 = .ok (.aload_n 0, 1) := by decide +kernel
theorem dL_law__2196 : decode cL_law_ 2196 = .ok (.iload 4, 2) := by decide +kernel
theorem dL_law__2198 : decode cL_law_ 2198 = .ok (.iconst 3, 1) := by decide +kernel
theorem dL_law__2199 : decode cL_law_ 2199 = .ok (.iadd, 1) := by decide +kernel
theorem dL_law__2200 : decode cL_law_ 2200 = .ok (.iaload, 1) := by decide +kernel
theorem dL_law__2201 : decode cL_law_ 2201 = .ok (.ifCond .eq 7, 3) := by decide +kernel
theorem dL_law__2204 : decode cL_law_ 2204 = .ok (.iconst 1, 1) := by decide +kernel
theorem dL_law__2205 : decode cL_law_ 2205 = .ok (.goto 4, 3) := by decide +kernel
theorem dL_law__2208 : decode cL_law_ 2208 = .ok (.iconst 0, 1) := by decide +kernel
theorem dL_law__2209 : decode cL_law_ 2209 = .ok (.aload_n 3, 1) := by decide +kernel
theorem dL_law__2210 : decode cL_law_ 2210 = .ok (.invokestatic 237, 3) := by decide +kernel
theorem dL_law__2213 : decode cL_law_ 2213 = .ok (.istore 5, 2) := by decide +kernel
theorem dL_law__2215 : decode cL_law_ 2215 = .ok (.aload_n 2, 1) := by decide +kernel
theorem dL_law__2216 : decode cL_law_ 2216 = .ok (.aload_n 0, 1) := by decide +kernel
theorem dL_law__2217 : decode cL_law_ 2217 = .ok (.iload 4, 2) := by decide +kernel
theorem dL_law__2219 : decode cL_law_ 2219 = .ok (.iconst 1, 1) := by decide +kernel
theorem dL_law__2220 : decode cL_law_ 2220 = .ok (.iadd, 1) := by decide +kernel
theorem dL_law__2221 : decode cL_law_ 2221 = .ok (.iaload, 1) := by decide +kernel
theorem dL_law__2222 : decode cL_law_ 2222 = .ok (.aload_n 0, 1) := by decide +kernel
theorem dL_law__2223 : decode cL_law_ 2223 = .ok (.iload 4, 2) := by decide +kernel
theorem dL_law__2225 : decode cL_law_ 2225 = .ok (.iconst 2, 1) := by decide +kernel
theorem dL_law__2226 : decode cL_law_ 2226 = .ok (.iadd, 1) := by decide +kernel
theorem dL_law__2227 : decode cL_law_ 2227 = .ok (.iaload, 1) := by decide +kernel
theorem dL_law__2228 : decode cL_law_ 2228 = .ok (.aload_n 0, 1) := by decide +kernel
theorem dL_law__2229 : decode cL_law_ 2229 = .ok (.iload 4, 2) := by decide +kernel
theorem dL_law__2231 : decode cL_law_ 2231 = .ok (.iconst 3, 1) := by decide +kernel
theorem dL_law__2232 : decode cL_law_ 2232 = .ok (.iadd, 1) := by decide +kernel
theorem dL_law__2233 : decode cL_law_ 2233 = .ok (.iaload, 1) := by decide +kernel
theorem dL_law__2234 : decode cL_law_ 2234 = .ok (.ifCond .eq 7, 3) := by decide +kernel
theorem dL_law__2237 : decode cL_law_ 2237 = .ok (.iconst 1, 1) := by decide +kernel
theorem dL_law__2238 : decode cL_law_ 2238 = .ok (.goto 4, 3) := by decide +kernel
theorem dL_law__2241 : decode cL_law_ 2241 = .ok (.iconst 0, 1) := by decide +kernel
theorem dL_law__2242 : decode cL_law_ 2242 = .ok (.invokevirtual 239, 3) := by decide +kernel
theorem dL_law__2245 : decode cL_law_ 2245 = .ok (.istore 6, 2) := by decide +kernel
theorem dL_law__2247 : decode cL_law_ 2247 = .ok (.aload_n 2, 1) := by decide +kernel
theorem dL_law__2248 : decode cL_law_ 2248 = .ok (.invokevirtual 139, 3) := by decide +kernel
theorem dL_law__2251 : decode cL_law_ 2251 = .ok (.iload 5, 2) := by decide +kernel
theorem dL_law__2253 : decode cL_law_ 2253 = .ok (.if_icmp .eq 5, 3) := by decide +kernel
theorem dL_law__2256 : decode cL_law_ 2256 = .ok (.iconst 0, 1) := by decide +kernel
theorem dL_law__2257 : decode cL_law_ 2257 = .ok (.ireturn, 1) := by decide +kernel
theorem dL_law__2258 : decode cL_law_ 2258 = .ok (.iload 5, 2) := by decide +kernel
theorem dL_law__2260 : decode cL_law_ 2260 = .ok (.ifCond .ne 15, 3) := by decide +kernel
theorem dL_law__2263 : decode cL_law_ 2263 = .ok (.aload_n 3, 1) := by decide +kernel
theorem dL_law__2264 : decode cL_law_ 2264 = .ok (.iconst 0, 1) := by decide +kernel
theorem dL_law__2265 : decode cL_law_ 2265 = .ok (.laload, 1) := by decide +kernel
theorem dL_law__2266 : decode cL_law_ 2266 = .ok (.iload 6, 2) := by decide +kernel
theorem dL_law__2268 : decode cL_law_ 2268 = .ok (.i2l, 1) := by decide +kernel
theorem dL_law__2269 : decode cL_law_ 2269 = .ok (.lcmp, 1) := by decide +kernel
theorem dL_law__2270 : decode cL_law_ 2270 = .ok (.ifCond .eq 5, 3) := by decide +kernel
theorem dL_law__2273 : decode cL_law_ 2273 = .ok (.iconst 0, 1) := by decide +kernel
theorem dL_law__2274 : decode cL_law_ 2274 = .ok (.ireturn, 1) := by decide +kernel
theorem dL_law__2275 : decode cL_law_ 2275 = .ok (.goto 394, 3) := by decide +kernel
theorem dL_law__2278 : decode cL_law_ 2278 = .ok (.aload_n 1, 1) := by decide +kernel
theorem dL_law__2279 : decode cL_law_ 2279 = .ok (.aload_n 3, 1) := by decide +kernel
theorem dL_law__2280 : decode cL_law_ 2280 = .ok (.invokestatic 240, 3) := by decide +kernel
theorem dL_law__2283 : decode cL_law_ 2283 = .ok (.istore 5, 2) := by decide +kernel
theorem dL_law__2285 : decode cL_law_ 2285 = .ok (.aload_n 2, 1) := by decide +kernel
theorem dL_law__2286 : decode cL_law_ 2286 = .ok (.invokevirtual 242, 3) := by decide +kernel
theorem dL_law__2289 : decode cL_law_ 2289 = .ok (.istore 6, 2) := by decide +kernel
theorem dL_law__2291 : decode cL_law_ 2291 = .ok (.aload_n 2, 1) := by decide +kernel
theorem dL_law__2292 : decode cL_law_ 2292 = .ok (.invokevirtual 139, 3) := by decide +kernel
theorem dL_law__2295 : decode cL_law_ 2295 = .ok (.iload 5, 2) := by decide +kernel
theorem dL_law__2297 : decode cL_law_ 2297 = .ok (.if_icmp .eq 5, 3) := by decide +kernel
theorem dL_law__2300 : decode cL_law_ 2300 = .ok (.iconst 0, 1) := by decide +kernel
theorem dL_law__2301 : decode cL_law_ 2301 = .ok (.ireturn, 1) := by decide +kernel
theorem dL_law__2302 : decode cL_law_ 2302 = .ok (.iload 5, 2) := by decide +kernel
theorem dL_law__2304 : decode cL_law_ 2304 = .ok (.ifCond .ne 15, 3) := by decide +kernel
theorem dL_law__2307 : decode cL_law_ 2307 = .ok (.aload_n 3, 1) := by decide +kernel
theorem dL_law__2308 : decode cL_law_ 2308 = .ok (.iconst 0, 1) := by decide +kernel
theorem dL_law__2309 : decode cL_law_ 2309 = .ok (.laload, 1) := by decide +kernel
theorem dL_law__2310 : decode cL_law_ 2310 = .ok (.iload 6, 2) := by decide +kernel
theorem dL_law__2312 : decode cL_law_ 2312 = .ok (.i2l, 1) := by decide +kernel
theorem dL_law__2313 : decode cL_law_ 2313 = .ok (.lcmp, 1) := by decide +kernel
theorem dL_law__2314 : decode cL_law_ 2314 = .ok (.ifCond .eq 5, 3) := by decide +kernel
theorem dL_law__2317 : decode cL_law_ 2317 = .ok (.iconst 0, 1) := by decide +kernel
theorem dL_law__2318 : decode cL_law_ 2318 = .ok (.ireturn, 1) := by decide +kernel
theorem dL_law__2319 : decode cL_law_ 2319 = .ok (.goto 350, 3) := by decide +kernel
theorem dL_law__2322 : decode cL_law_ 2322 = .ok (.aload_n 1, 1) := by decide +kernel
theorem dL_law__2323 : decode cL_law_ 2323 = .ok (.aload_n 3, 1) := by decide +kernel
theorem dL_law__2324 : decode cL_law_ 2324 = .ok (.invokestatic 243, 3) := by decide +kernel
theorem dL_law__2327 : decode cL_law_ 2327 = .ok (.istore 5, 2) := by decide +kernel
theorem dL_law__2329 : decode cL_law_ 2329 = .ok (.aload_n 2, 1) := by decide +kernel
theorem dL_law__2330 : decode cL_law_ 2330 = .ok (.invokevirtual 245, 3) := by decide +kernel
theorem dL_law__2333 : decode cL_law_ 2333 = .ok (.istore 6, 2) := by decide +kernel
theorem dL_law__2335 : decode cL_law_ 2335 = .ok (.aload_n 2, 1) := by decide +kernel
theorem dL_law__2336 : decode cL_law_ 2336 = .ok (.invokevirtual 139, 3) := by decide +kernel
theorem dL_law__2339 : decode cL_law_ 2339 = .ok (.iload 5, 2) := by decide +kernel
theorem dL_law__2341 : decode cL_law_ 2341 = .ok (.if_icmp .eq 5, 3) := by decide +kernel
theorem dL_law__2344 : decode cL_law_ 2344 = .ok (.iconst 0, 1) := by decide +kernel
theorem dL_law__2345 : decode cL_law_ 2345 = .ok (.ireturn, 1) := by decide +kernel
theorem dL_law__2346 : decode cL_law_ 2346 = .ok (.iload 5, 2) := by decide +kernel
theorem dL_law__2348 : decode cL_law_ 2348 = .ok (.ifCond .ne 15, 3) := by decide +kernel
theorem dL_law__2351 : decode cL_law_ 2351 = .ok (.aload_n 3, 1) := by decide +kernel
theorem dL_law__2352 : decode cL_law_ 2352 = .ok (.iconst 0, 1) := by decide +kernel
theorem dL_law__2353 : decode cL_law_ 2353 = .ok (.laload, 1) := by decide +kernel
theorem dL_law__2354 : decode cL_law_ 2354 = .ok (.iload 6, 2) := by decide +kernel
theorem dL_law__2356 : decode cL_law_ 2356 = .ok (.i2l, 1) := by decide +kernel
theorem dL_law__2357 : decode cL_law_ 2357 = .ok (.lcmp, 1) := by decide +kernel
theorem dL_law__2358 : decode cL_law_ 2358 = .ok (.ifCond .eq 5, 3) := by decide +kernel
theorem dL_law__2361 : decode cL_law_ 2361 = .ok (.iconst 0, 1) := by decide +kernel
theorem dL_law__2362 : decode cL_law_ 2362 = .ok (.ireturn, 1) := by decide +kernel
theorem dL_law__2363 : decode cL_law_ 2363 = .ok (.goto 306, 3) := by decide +kernel
theorem dL_law__2366 : decode cL_law_ 2366 = .ok (.aload_n 1, 1) := by decide +kernel
theorem dL_law__2367 : decode cL_law_ 2367 = .ok (.aload_n 0, 1) := by decide +kernel
theorem dL_law__2368 : decode cL_law_ 2368 = .ok (.iload 4, 2) := by decide +kernel
theorem dL_law__2370 : decode cL_law_ 2370 = .ok (.iconst 1, 1) := by decide +kernel
theorem dL_law__2371 : decode cL_law_ 2371 = .ok (.iadd, 1) := by decide +kernel
theorem dL_law__2372 : decode cL_law_ 2372 = .ok (.iaload, 1) := by decide +kernel
theorem dL_law__2373 : decode cL_law_ 2373 = .ok (.aload_n 0, 1) := by decide +kernel
theorem dL_law__2374 : decode cL_law_ 2374 = .ok (.iload 4, 2) := by decide +kernel
theorem dL_law__2376 : decode cL_law_ 2376 = .ok (.iconst 2, 1) := by decide +kernel
theorem dL_law__2377 : decode cL_law_ 2377 = .ok (.iadd, 1) := by decide +kernel
theorem dL_law__2378 : decode cL_law_ 2378 = .ok (.iaload, 1) := by decide +kernel
theorem dL_law__2379 : decode cL_law_ 2379 = .ok (.aload_n 0, 1) := by decide +kernel
theorem dL_law__2380 : decode cL_law_ 2380 = .ok (.iload 4, 2) := by decide +kernel
theorem dL_law__2382 : decode cL_law_ 2382 = .ok (.iconst 3, 1) := by decide +kernel
theorem dL_law__2383 : decode cL_law_ 2383 = .ok (.iadd, 1) := by decide +kernel
theorem dL_law__2384 : decode cL_law_ 2384 = .ok (.iaload, 1) := by decide +kernel
theorem dL_law__2385 : decode cL_law_ 2385 = .ok (.aload_n 3, 1) := by decide +kernel
theorem dL_law__2386 : decode cL_law_ 2386 = .ok (.invokestatic 246, 3) := by decide +kernel
theorem dL_law__2389 : decode cL_law_ 2389 = .ok (.istore 5, 2) := by decide +kernel
theorem dL_law__2391 : decode cL_law_ 2391 = .ok (.aload_n 2, 1) := by decide +kernel
theorem dL_law__2392 : decode cL_law_ 2392 = .ok (.aload_n 0, 1) := by decide +kernel
theorem dL_law__2393 : decode cL_law_ 2393 = .ok (.iload 4, 2) := by decide +kernel
theorem dL_law__2395 : decode cL_law_ 2395 = .ok (.iconst 1, 1) := by decide +kernel
theorem dL_law__2396 : decode cL_law_ 2396 = .ok (.iadd, 1) := by decide +kernel
theorem dL_law__2397 : decode cL_law_ 2397 = .ok (.iaload, 1) := by decide +kernel
theorem dL_law__2398 : decode cL_law_ 2398 = .ok (.aload_n 0, 1) := by decide +kernel
theorem dL_law__2399 : decode cL_law_ 2399 = .ok (.iload 4, 2) := by decide +kernel
theorem dL_law__2401 : decode cL_law_ 2401 = .ok (.iconst 2, 1) := by decide +kernel
theorem dL_law__2402 : decode cL_law_ 2402 = .ok (.iadd, 1) := by decide +kernel
theorem dL_law__2403 : decode cL_law_ 2403 = .ok (.iaload, 1) := by decide +kernel
theorem dL_law__2404 : decode cL_law_ 2404 = .ok (.aload_n 0, 1) := by decide +kernel
theorem dL_law__2405 : decode cL_law_ 2405 = .ok (.iload 4, 2) := by decide +kernel
theorem dL_law__2407 : decode cL_law_ 2407 = .ok (.iconst 3, 1) := by decide +kernel
theorem dL_law__2408 : decode cL_law_ 2408 = .ok (.iadd, 1) := by decide +kernel
theorem dL_law__2409 : decode cL_law_ 2409 = .ok (.iaload, 1) := by decide +kernel
theorem dL_law__2410 : decode cL_law_ 2410 = .ok (.invokevirtual 248, 3) := by decide +kernel
theorem dL_law__2413 : decode cL_law_ 2413 = .ok (.istore 6, 2) := by decide +kernel
theorem dL_law__2415 : decode cL_law_ 2415 = .ok (.aload_n 2, 1) := by decide +kernel
theorem dL_law__2416 : decode cL_law_ 2416 = .ok (.invokevirtual 139, 3) := by decide +kernel
theorem dL_law__2419 : decode cL_law_ 2419 = .ok (.iload 5, 2) := by decide +kernel
theorem dL_law__2421 : decode cL_law_ 2421 = .ok (.if_icmp .eq 5, 3) := by decide +kernel
theorem dL_law__2424 : decode cL_law_ 2424 = .ok (.iconst 0, 1) := by decide +kernel
theorem dL_law__2425 : decode cL_law_ 2425 = .ok (.ireturn, 1) := by decide +kernel
theorem dL_law__2426 : decode cL_law_ 2426 = .ok (.iload 5, 2) := by decide +kernel
theorem dL_law__2428 : decode cL_law_ 2428 = .ok (.ifCond .ne 15, 3) := by decide +kernel
theorem dL_law__2431 : decode cL_law_ 2431 = .ok (.aload_n 3, 1) := by decide +kernel
theorem dL_law__2432 : decode cL_law_ 2432 = .ok (.iconst 0, 1) := by decide +kernel
theorem dL_law__2433 : decode cL_law_ 2433 = .ok (.laload, 1) := by decide +kernel
theorem dL_law__2434 : decode cL_law_ 2434 = .ok (.iload 6, 2) := by decide +kernel
theorem dL_law__2436 : decode cL_law_ 2436 = .ok (.i2l, 1) := by decide +kernel
theorem dL_law__2437 : decode cL_law_ 2437 = .ok (.lcmp, 1) := by decide +kernel
theorem dL_law__2438 : decode cL_law_ 2438 = .ok (.ifCond .eq 5, 3) := by decide +kernel
theorem dL_law__2441 : decode cL_law_ 2441 = .ok (.iconst 0, 1) := by decide +kernel
theorem dL_law__2442 : decode cL_law_ 2442 = .ok (.ireturn, 1) := by decide +kernel
theorem dL_law__2443 : decode cL_law_ 2443 = .ok (.goto 226, 3) := by decide +kernel
theorem dL_law__2446 : decode cL_law_ 2446 = .ok (.aload_n 1, 1) := by decide +kernel
theorem dL_law__2447 : decode cL_law_ 2447 = .ok (.aload_n 0, 1) := by decide +kernel
theorem dL_law__2448 : decode cL_law_ 2448 = .ok (.iload 4, 2) := by decide +kernel
theorem dL_law__2450 : decode cL_law_ 2450 = .ok (.iconst 1, 1) := by decide +kernel
theorem dL_law__2451 : decode cL_law_ 2451 = .ok (.iadd, 1) := by decide +kernel
theorem dL_law__2452 : decode cL_law_ 2452 = .ok (.iaload, 1) := by decide +kernel
theorem dL_law__2453 : decode cL_law_ 2453 = .ok (.aload_n 0, 1) := by decide +kernel
theorem dL_law__2454 : decode cL_law_ 2454 = .ok (.iload 4, 2) := by decide +kernel
theorem dL_law__2456 : decode cL_law_ 2456 = .ok (.iconst 2, 1) := by decide +kernel
theorem dL_law__2457 : decode cL_law_ 2457 = .ok (.iadd, 1) := by decide +kernel
theorem dL_law__2458 : decode cL_law_ 2458 = .ok (.iaload, 1) := by decide +kernel
theorem dL_law__2459 : decode cL_law_ 2459 = .ok (.aload_n 3, 1) := by decide +kernel
theorem dL_law__2460 : decode cL_law_ 2460 = .ok (.invokestatic 249, 3) := by decide +kernel
theorem dL_law__2463 : decode cL_law_ 2463 = .ok (.istore 5, 2) := by decide +kernel
theorem dL_law__2465 : decode cL_law_ 2465 = .ok (.aload_n 2, 1) := by decide +kernel
theorem dL_law__2466 : decode cL_law_ 2466 = .ok (.aload_n 0, 1) := by decide +kernel
theorem dL_law__2467 : decode cL_law_ 2467 = .ok (.iload 4, 2) := by decide +kernel
theorem dL_law__2469 : decode cL_law_ 2469 = .ok (.iconst 1, 1) := by decide +kernel
theorem dL_law__2470 : decode cL_law_ 2470 = .ok (.iadd, 1) := by decide +kernel
theorem dL_law__2471 : decode cL_law_ 2471 = .ok (.iaload, 1) := by decide +kernel
theorem dL_law__2472 : decode cL_law_ 2472 = .ok (.aload_n 0, 1) := by decide +kernel
theorem dL_law__2473 : decode cL_law_ 2473 = .ok (.iload 4, 2) := by decide +kernel
theorem dL_law__2475 : decode cL_law_ 2475 = .ok (.iconst 2, 1) := by decide +kernel
theorem dL_law__2476 : decode cL_law_ 2476 = .ok (.iadd, 1) := by decide +kernel
theorem dL_law__2477 : decode cL_law_ 2477 = .ok (.iaload, 1) := by decide +kernel
theorem dL_law__2478 : decode cL_law_ 2478 = .ok (.invokevirtual 251, 3) := by decide +kernel
theorem dL_law__2481 : decode cL_law_ 2481 = .ok (.istore 6, 2) := by decide +kernel
theorem dL_law__2483 : decode cL_law_ 2483 = .ok (.aload_n 2, 1) := by decide +kernel
theorem dL_law__2484 : decode cL_law_ 2484 = .ok (.invokevirtual 139, 3) := by decide +kernel
theorem dL_law__2487 : decode cL_law_ 2487 = .ok (.iload 5, 2) := by decide +kernel
theorem dL_law__2489 : decode cL_law_ 2489 = .ok (.if_icmp .eq 5, 3) := by decide +kernel
theorem dL_law__2492 : decode cL_law_ 2492 = .ok (.iconst 0, 1) := by decide +kernel
theorem dL_law__2493 : decode cL_law_ 2493 = .ok (.ireturn, 1) := by decide +kernel
theorem dL_law__2494 : decode cL_law_ 2494 = .ok (.iload 5, 2) := by decide +kernel
theorem dL_law__2496 : decode cL_law_ 2496 = .ok (.ifCond .ne 15, 3) := by decide +kernel
theorem dL_law__2499 : decode cL_law_ 2499 = .ok (.aload_n 3, 1) := by decide +kernel
theorem dL_law__2500 : decode cL_law_ 2500 = .ok (.iconst 0, 1) := by decide +kernel
theorem dL_law__2501 : decode cL_law_ 2501 = .ok (.laload, 1) := by decide +kernel
theorem dL_law__2502 : decode cL_law_ 2502 = .ok (.iload 6, 2) := by decide +kernel
theorem dL_law__2504 : decode cL_law_ 2504 = .ok (.i2l, 1) := by decide +kernel
theorem dL_law__2505 : decode cL_law_ 2505 = .ok (.lcmp, 1) := by decide +kernel
theorem dL_law__2506 : decode cL_law_ 2506 = .ok (.ifCond .eq 5, 3) := by decide +kernel
theorem dL_law__2509 : decode cL_law_ 2509 = .ok (.iconst 0, 1) := by decide +kernel
theorem dL_law__2510 : decode cL_law_ 2510 = .ok (.ireturn, 1) := by decide +kernel
theorem dL_law__2511 : decode cL_law_ 2511 = .ok (.goto 158, 3) := by decide +kernel
theorem dL_law__2514 : decode cL_law_ 2514 = .ok (.aload_n 1, 1) := by decide +kernel
theorem dL_law__2515 : decode cL_law_ 2515 = .ok (.aload_n 0, 1) := by decide +kernel
theorem dL_law__2516 : decode cL_law_ 2516 = .ok (.iload 4, 2) := by decide +kernel
theorem dL_law__2518 : decode cL_law_ 2518 = .ok (.iconst 1, 1) := by decide +kernel
theorem dL_law__2519 : decode cL_law_ 2519 = .ok (.iadd, 1) := by decide +kernel
theorem dL_law__2520 : decode cL_law_ 2520 = .ok (.iaload, 1) := by decide +kernel
theorem dL_law__2521 : decode cL_law_ 2521 = .ok (.aload_n 0, 1) := by decide +kernel
theorem dL_law__2522 : decode cL_law_ 2522 = .ok (.iload 4, 2) := by decide +kernel
theorem dL_law__2524 : decode cL_law_ 2524 = .ok (.iconst 2, 1) := by decide +kernel
theorem dL_law__2525 : decode cL_law_ 2525 = .ok (.iadd, 1) := by decide +kernel
theorem dL_law__2526 : decode cL_law_ 2526 = .ok (.iaload, 1) := by decide +kernel
theorem dL_law__2527 : decode cL_law_ 2527 = .ok (.aload_n 3, 1) := by decide +kernel
theorem dL_law__2528 : decode cL_law_ 2528 = .ok (.invokestatic 252, 3) := by decide +kernel
theorem dL_law__2531 : decode cL_law_ 2531 = .ok (.istore 5, 2) := by decide +kernel
theorem dL_law__2533 : decode cL_law_ 2533 = .ok (.aload_n 2, 1) := by decide +kernel
theorem dL_law__2534 : decode cL_law_ 2534 = .ok (.aload_n 0, 1) := by decide +kernel
theorem dL_law__2535 : decode cL_law_ 2535 = .ok (.iload 4, 2) := by decide +kernel
theorem dL_law__2537 : decode cL_law_ 2537 = .ok (.iconst 1, 1) := by decide +kernel
theorem dL_law__2538 : decode cL_law_ 2538 = .ok (.iadd, 1) := by decide +kernel
theorem dL_law__2539 : decode cL_law_ 2539 = .ok (.iaload, 1) := by decide +kernel
theorem dL_law__2540 : decode cL_law_ 2540 = .ok (.aload_n 0, 1) := by decide +kernel
theorem dL_law__2541 : decode cL_law_ 2541 = .ok (.iload 4, 2) := by decide +kernel
theorem dL_law__2543 : decode cL_law_ 2543 = .ok (.iconst 2, 1) := by decide +kernel
theorem dL_law__2544 : decode cL_law_ 2544 = .ok (.iadd, 1) := by decide +kernel
theorem dL_law__2545 : decode cL_law_ 2545 = .ok (.iaload, 1) := by decide +kernel
theorem dL_law__2546 : decode cL_law_ 2546 = .ok (.invokevirtual 254, 3) := by decide +kernel
theorem dL_law__2549 : decode cL_law_ 2549 = .ok (.istore 6, 2) := by decide +kernel
theorem dL_law__2551 : decode cL_law_ 2551 = .ok (.aload_n 2, 1) := by decide +kernel
theorem dL_law__2552 : decode cL_law_ 2552 = .ok (.invokevirtual 139, 3) := by decide +kernel
theorem dL_law__2555 : decode cL_law_ 2555 = .ok (.iload 5, 2) := by decide +kernel
theorem dL_law__2557 : decode cL_law_ 2557 = .ok (.if_icmp .eq 5, 3) := by decide +kernel
theorem dL_law__2560 : decode cL_law_ 2560 = .ok (.iconst 0, 1) := by decide +kernel
theorem dL_law__2561 : decode cL_law_ 2561 = .ok (.ireturn, 1) := by decide +kernel
theorem dL_law__2562 : decode cL_law_ 2562 = .ok (.iload 5, 2) := by decide +kernel
theorem dL_law__2564 : decode cL_law_ 2564 = .ok (.ifCond .ne 15, 3) := by decide +kernel
theorem dL_law__2567 : decode cL_law_ 2567 = .ok (.aload_n 3, 1) := by decide +kernel
theorem dL_law__2568 : decode cL_law_ 2568 = .ok (.iconst 0, 1) := by decide +kernel
theorem dL_law__2569 : decode cL_law_ 2569 = .ok (.laload, 1) := by decide +kernel
theorem dL_law__2570 : decode cL_law_ 2570 = .ok (.iload 6, 2) := by decide +kernel
theorem dL_law__2572 : decode cL_law_ 2572 = .ok (.i2l, 1) := by decide +kernel
theorem dL_law__2573 : decode cL_law_ 2573 = .ok (.lcmp, 1) := by decide +kernel
theorem dL_law__2574 : decode cL_law_ 2574 = .ok (.ifCond .eq 5, 3) := by decide +kernel
theorem dL_law__2577 : decode cL_law_ 2577 = .ok (.iconst 0, 1) := by decide +kernel
theorem dL_law__2578 : decode cL_law_ 2578 = .ok (.ireturn, 1) := by decide +kernel
theorem dL_law__2579 : decode cL_law_ 2579 = .ok (.goto 90, 3) := by decide +kernel
theorem dL_law__2582 : decode cL_law_ 2582 = .ok (.aload_n 1, 1) := by decide +kernel
theorem dL_law__2583 : decode cL_law_ 2583 = .ok (.aload_n 0, 1) := by decide +kernel
theorem dL_law__2584 : decode cL_law_ 2584 = .ok (.iload 4, 2) := by decide +kernel
theorem dL_law__2586 : decode cL_law_ 2586 = .ok (.iconst 1, 1) := by decide +kernel
theorem dL_law__2587 : decode cL_law_ 2587 = .ok (.iadd, 1) := by decide +kernel
theorem dL_law__2588 : decode cL_law_ 2588 = .ok (.iaload, 1) := by decide +kernel
theorem dL_law__2589 : decode cL_law_ 2589 = .ok (.invokevirtual 255, 3) := by decide +kernel
theorem dL_law__2592 : decode cL_law_ 2592 = .ok (.aload_n 2, 1) := by decide +kernel
theorem dL_law__2593 : decode cL_law_ 2593 = .ok (.aload_n 0, 1) := by decide +kernel
theorem dL_law__2594 : decode cL_law_ 2594 = .ok (.iload 4, 2) := by decide +kernel
theorem dL_law__2596 : decode cL_law_ 2596 = .ok (.iconst 1, 1) := by decide +kernel
theorem dL_law__2597 : decode cL_law_ 2597 = .ok (.iadd, 1) := by decide +kernel
theorem dL_law__2598 : decode cL_law_ 2598 = .ok (.iaload, 1) := by decide +kernel
theorem dL_law__2599 : decode cL_law_ 2599 = .ok (.invokevirtual 258, 3) := by decide +kernel
theorem dL_law__2602 : decode cL_law_ 2602 = .ok (.if_icmp .eq 67, 3) := by decide +kernel
theorem dL_law__2605 : decode cL_law_ 2605 = .ok (.iconst 0, 1) := by decide +kernel
theorem dL_law__2606 : decode cL_law_ 2606 = .ok (.ireturn, 1) := by decide +kernel
theorem dL_law__2607 : decode cL_law_ 2607 = .ok (.aload_n 1, 1) := by decide +kernel
theorem dL_law__2608 : decode cL_law_ 2608 = .ok (.invokevirtual 259, 3) := by decide +kernel
theorem dL_law__2611 : decode cL_law_ 2611 = .ok (.aload_n 2, 1) := by decide +kernel
theorem dL_law__2612 : decode cL_law_ 2612 = .ok (.invokevirtual 263, 3) := by decide +kernel
theorem dL_law__2615 : decode cL_law_ 2615 = .ok (.if_icmp .eq 54, 3) := by decide +kernel
theorem dL_law__2618 : decode cL_law_ 2618 = .ok (.iconst 0, 1) := by decide +kernel
theorem dL_law__2619 : decode cL_law_ 2619 = .ok (.ireturn, 1) := by decide +kernel
theorem dL_law__2620 : decode cL_law_ 2620 = .ok (.aload_n 1, 1) := by decide +kernel
theorem dL_law__2621 : decode cL_law_ 2621 = .ok (.invokevirtual 264, 3) := by decide +kernel
theorem dL_law__2624 : decode cL_law_ 2624 = .ok (.aload_n 2, 1) := by decide +kernel
theorem dL_law__2625 : decode cL_law_ 2625 = .ok (.invokevirtual 267, 3) := by decide +kernel
theorem dL_law__2628 : decode cL_law_ 2628 = .ok (.goto 41, 3) := by decide +kernel
theorem dL_law__2631 : decode cL_law_ 2631 = .ok (.aload_n 1, 1) := by decide +kernel
theorem dL_law__2632 : decode cL_law_ 2632 = .ok (.invokevirtual 268, 3) := by decide +kernel
theorem dL_law__2635 : decode cL_law_ 2635 = .ok (.aload_n 2, 1) := by decide +kernel
theorem dL_law__2636 : decode cL_law_ 2636 = .ok (.invokevirtual 271, 3) := by decide +kernel
theorem dL_law__2639 : decode cL_law_ 2639 = .ok (.if_icmp .eq 30, 3) := by decide +kernel
theorem dL_law__2642 : decode cL_law_ 2642 = .ok (.iconst 0, 1) := by decide +kernel
theorem dL_law__2643 : decode cL_law_ 2643 = .ok (.ireturn, 1) := by decide +kernel
theorem dL_law__2644 : decode cL_law_ 2644 = .ok (.aload_n 1, 1) := by decide +kernel
theorem dL_law__2645 : decode cL_law_ 2645 = .ok (.aload_n 0, 1) := by decide +kernel
theorem dL_law__2646 : decode cL_law_ 2646 = .ok (.iload 4, 2) := by decide +kernel
theorem dL_law__2648 : decode cL_law_ 2648 = .ok (.iconst 1, 1) := by decide +kernel
theorem dL_law__2649 : decode cL_law_ 2649 = .ok (.iadd, 1) := by decide +kernel
theorem dL_law__2650 : decode cL_law_ 2650 = .ok (.iaload, 1) := by decide +kernel
theorem dL_law__2651 : decode cL_law_ 2651 = .ok (.invokevirtual 272, 3) := by decide +kernel
theorem dL_law__2654 : decode cL_law_ 2654 = .ok (.aload_n 2, 1) := by decide +kernel
theorem dL_law__2655 : decode cL_law_ 2655 = .ok (.aload_n 0, 1) := by decide +kernel
theorem dL_law__2656 : decode cL_law_ 2656 = .ok (.iload 4, 2) := by decide +kernel
theorem dL_law__2658 : decode cL_law_ 2658 = .ok (.iconst 1, 1) := by decide +kernel
theorem dL_law__2659 : decode cL_law_ 2659 = .ok (.iadd, 1) := by decide +kernel
theorem dL_law__2660 : decode cL_law_ 2660 = .ok (.iaload, 1) := by decide +kernel
theorem dL_law__2661 : decode cL_law_ 2661 = .ok (.invokevirtual 275, 3) := by decide +kernel
theorem dL_law__2664 : decode cL_law_ 2664 = .ok (.if_icmp .eq 5, 3) := by decide +kernel
theorem dL_law__2667 : decode cL_law_ 2667 = .ok (.iconst 0, 1) := by decide +kernel
theorem dL_law__2668 : decode cL_law_ 2668 = .ok (.ireturn, 1) := by decide +kernel
theorem dL_law__2669 : decode cL_law_ 2669 = .ok (.iinc 4 6, 3) := by decide +kernel
theorem dL_law__2672 : decode cL_law_ 2672 = .ok (.goto (-2649), 3) := by decide +kernel
theorem dL_law__2675 : decode cL_law_ 2675 = .ok (.iconst 1, 1) := by decide +kernel
theorem dL_law__2676 : decode cL_law_ 2676 = .ok (.ireturn, 1) := by decide +kernel
