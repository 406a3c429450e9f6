theorem dL_law_2226 : decode cL_law 2226 = .ok (.iastore, 1) := by decide +kernel
theorem dL_law_2227 : decode cL_law 2227 = .ok (.aload 10, 2) := by decide +kernel
theorem dL_law_2229 : decode cL_law 2229 = .ok (.aload 5, 2) := by decide +kernel
theorem dL_law_2231 : decode cL_law 2231 = .ok (.iload 37, 2) := by decide +kernel
theorem dL_law_2233 : decode cL_law 2233 = .ok (.iaload, 1) := by decide +kernel
theorem dL_law_2234 : decode cL_law 2234 = .ok (.invokestatic 157, 3) := by decide +kernel
theorem dL_law_2237 : decode cL_law 2237 = .ok (.dup2, 1) := by decide +kernel
theorem dL_law_2238 : decode cL_law 2238 = .ok (.iaload, 1) := by decide +kernel
theorem dL_law_2239 : decode cL_law 2239 = .ok (.sipush 5120, 3) := by decide +kernel
theorem dL_law_2242 : decode cL_law 2242 = .ok (.iadd, 1) := by decide +kernel
theorem dL_law_2243 : decode cL_law 2243 = .ok (.iastore, 1) := by decide +kernel
theorem dL_law_2244 : decode cL_law 2244 = .ok (.iload 38, 2) := by decide +kernel
theorem dL_law_2246 : decode cL_law 2246 = .ok (.iload 39, 2) := by decide +kernel
theorem dL_law_2248 : decode cL_law 2248 = .ok (.aload_n 2, 1) := by decide +kernel
theorem dL_law_2249 : decode cL_law 2249 = .ok (.aload_n 3, 1) := by decide +kernel
theorem dL_law_2250 : decode cL_law 2250 = .ok (.aload 7, 2) := by decide +kernel
theorem dL_law_2252 : decode cL_law 2252 = .ok (.aload 11, 2) := by decide +kernel
theorem dL_law_2254 : decode cL_law 2254 = .ok (.invokestatic 198, 3) := by decide +kernel
theorem dL_law_2257 : decode cL_law 2257 = .ok (.iinc 37 (-1), 3) := by decide +kernel
theorem dL_law_2260 : decode cL_law 2260 = .ok (.goto (-219), 3) := by decide +kernel
theorem dL_law_2263 : decode cL_law 2263 = .ok (.goto 739, 3) := by decide +kernel
theorem dL_law_2266 : decode cL_law 2266 = .ok (.iload 14, 2) := by decide +kernel
theorem dL_law_2268 : decode cL_law 2268 = .ok (.iconst 4, 1) := by decide +kernel
theorem dL_law_2269 : decode cL_law 2269 = .ok (.invokestatic 125, 3) := by decide +kernel
theorem dL_law_2272 : decode cL_law 2272 = .ok (.istore 37, 2) := by decide +kernel
theorem dL_law_2274 : decode cL_law 2274 = .ok (.aload_n 2, 1) := by decide +kernel
theorem dL_law_2275 : decode cL_law 2275 = .ok (.iload 37, 2) := by decide +kernel
theorem dL_law_2277 : decode cL_law 2277 = .ok (.iaload, 1) := by decide +kernel
theorem dL_law_2278 : decode cL_law 2278 = .ok (.iconst (-1), 1) := by decide +kernel
theorem dL_law_2279 : decode cL_law 2279 = .ok (.if_icmp .eq 7, 3) := by decide +kernel
theorem dL_law_2282 : decode cL_law 2282 = .ok (.iconst 1, 1) := by decide +kernel
theorem dL_law_2283 : decode cL_law 2283 = .ok (.goto 4, 3) := by decide +kernel
theorem dL_law_2286 : decode cL_law 2286 = .ok (.iconst 0, 1) := by decide +kernel
theorem dL_law_2287 : decode cL_law 2287 = .ok (.istore 38, 2) := by decide +kernel
theorem dL_law_2289 : decode cL_law 2289 = .ok (.iconst 3, 1) := by decide +kernel
theorem dL_law_2290 : decode cL_law 2290 = .ok (.iload 37, 2) := by decide +kernel
theorem dL_law_2292 : decode cL_law 2292 = .ok (.imul, 1) := by decide +kernel
theorem dL_law_2293 : decode cL_law 2293 = .ok (.istore 39, 2) := by decide +kernel
theorem dL_law_2295 : decode cL_law 2295 = .ok (.iload 39, 2) := by decide +kernel
theorem dL_law_2297 : decode cL_law 2297 = .ok (.iconst 3, 1) := by decide +kernel
theorem dL_law_2298 : decode cL_law 2298 = .ok (.iload 37, 2) := by decide +kernel
theorem dL_law_2300 : decode cL_law 2300 = .ok (.imul, 1) := by decide +kernel
theorem dL_law_2301 : decode cL_law 2301 = .ok (.iconst 3, 1) := by decide +kernel
theorem dL_law_2302 : decode cL_law 2302 = .ok (.iadd, 1) := by decide +kernel
theorem dL_law_2303 : decode cL_law 2303 = .ok (.if_icmp .ge 41, 3) := by decide +kernel
theorem dL_law_2306 : decode cL_law 2306 = .ok (.iload 38, 2) := by decide +kernel
theorem dL_law_2308 : decode cL_law 2308 = .ok (.aload_n 3, 1) := by decide +kernel
theorem dL_law_2309 : decode cL_law 2309 = .ok (.iload 39, 2) := by decide +kernel
theorem dL_law_2311 : decode cL_law 2311 = .ok (.iaload, 1) := by decide +kernel
theorem dL_law_2312 : decode cL_law 2312 = .ok (.iconst (-1), 1) := by decide +kernel
theorem dL_law_2313 : decode cL_law 2313 = .ok (.if_icmp .ne 21, 3) := by decide +kernel
theorem dL_law_2316 : decode cL_law 2316 = .ok (.aload_n 3, 1) := by decide +kernel
theorem dL_law_2317 : decode cL_law 2317 = .ok (.bipush 24, 2) := by decide +kernel
theorem dL_law_2319 : decode cL_law 2319 = .ok (.iload 39, 2) := by decide +kernel
theorem dL_law_2321 : decode cL_law 2321 = .ok (.iadd, 1) := by decide +kernel
theorem dL_law_2322 : decode cL_law 2322 = .ok (.iaload, 1) := by decide +kernel
theorem dL_law_2323 : decode cL_law 2323 = .ok (.aload 11, 2) := by decide +kernel
theorem dL_law_2325 : decode cL_law 2325 = .ok (.iconst 0, 1) := by decide +kernel
theorem dL_law_2326 : decode cL_law 2326 = .ok (.iaload, 1) := by decide +kernel
theorem dL_law_2327 : decode cL_law 2327 = .ok (.if_icmp .ge 7, 3) := by decide +kernel
theorem dL_law_2330 : decode cL_law 2330 = .ok (.iconst 1, 1) := by decide +kernel
theorem dL_law_2331 : decode cL_law 2331 = .ok (.goto 4, 3) := by decide +kernel
theorem dL_law_2334 : decode cL_law 2334 = .ok (.iconst 0, 1) := by decide +kernel
theorem dL_law_2335 : decode cL_law 2335 = .ok (.iand, 1) := by decide +kernel
theorem dL_law_2336 : decode cL_law 2336 = .ok (.istore 38, 2) := by decide +kernel
theorem dL_law_2338 : decode cL_law 2338 = .ok (.iinc 39 1, 3) := by decide +kernel
theorem dL_law_2341 : decode cL_law 2341 = .ok (.goto (-46), 3) := by decide +kernel
theorem dL_law_2344 : decode cL_law 2344 = .ok (.aload_n 1, 1) := by decide +kernel
theorem dL_law_2345 : decode cL_law 2345 = .ok (.iload 37, 2) := by decide +kernel
theorem dL_law_2347 : decode cL_law 2347 = .ok (.invokestatic 219, 3) := by decide +kernel
theorem dL_law_2350 : decode cL_law 2350 = .ok (.iload 38, 2) := by decide +kernel
theorem dL_law_2352 : decode cL_law 2352 = .ok (.ifCond .eq 10, 3) := by decide +kernel
theorem dL_law_2355 : decode cL_law 2355 = .ok (.aload_n 2, 1) := by decide +kernel
theorem dL_law_2356 : decode cL_law 2356 = .ok (.iload 37, 2) := by decide +kernel
theorem dL_law_2358 : decode cL_law 2358 = .ok (.iaload, 1) := by decide +kernel
theorem dL_law_2359 : decode cL_law 2359 = .ok (.goto 6, 3) := by decide +kernel
theorem dL_law_2362 : decode cL_law 2362 = .ok (.sipush (-7300), 3) := by decide +kernel
theorem dL_law_2365 : decode cL_law 2365 = .ok (.if_icmp .ne 7, 3) := by decide +kernel
theorem dL_law_2368 : decode cL_law 2368 = .ok (.iconst 1, 1) := by decide +kernel
theorem dL_law_2369 : decode cL_law 2369 = .ok (.goto 4, 3) := by decide +kernel
theorem dL_law_2372 : decode cL_law 2372 = .ok (.iconst 0, 1) := by decide +kernel
theorem dL_law_2373 : decode cL_law 2373 = .ok (.istore 18, 2) := by decide +kernel
theorem dL_law_2375 : decode cL_law 2375 = .ok (.aload_n 2, 1) := by decide +kernel
theorem dL_law_2376 : decode cL_law 2376 = .ok (.iload 37, 2) := by decide +kernel
theorem dL_law_2378 : decode cL_law 2378 = .ok (.iload 38, 2) := by decide +kernel
theorem dL_law_2380 : decode cL_law 2380 = .ok (.ifCond .eq 7, 3) := by decide +kernel
theorem dL_law_2383 : decode cL_law 2383 = .ok (.iconst (-1), 1) := by decide +kernel
theorem dL_law_2384 : decode cL_law 2384 = .ok (.goto 7, 3) := by decide +kernel
theorem dL_law_2387 : decode cL_law 2387 = .ok (.aload_n 2, 1) := by decide +kernel
theorem dL_law_2388 : decode cL_law 2388 = .ok (.iload 37, 2) := by decide +kernel
theorem dL_law_2390 : decode cL_law 2390 = .ok (.iaload, 1) := by decide +kernel
theorem dL_law_2391 : decode cL_law 2391 = .ok (.iastore, 1) := by decide +kernel
theorem dL_law_2392 : decode cL_law 2392 = .ok (.goto 610, 3) := by decide +kernel
theorem dL_law_2395 : decode cL_law 2395 = .ok (.iload 14, 2) := by decide +kernel
theorem dL_law_2397 : decode cL_law 2397 = .ok (.bipush 12, 2) := by decide +kernel
theorem dL_law_2399 : decode cL_law 2399 = .ok (.invokestatic 125, 3) := by decide +kernel
theorem dL_law_2402 : decode cL_law 2402 = .ok (.istore 39, 2) := by decide +kernel
theorem dL_law_2404 : decode cL_law 2404 = .ok (.iload 14, 2) := by decide +kernel
theorem dL_law_2406 : decode cL_law 2406 = .ok (.iconst 4, 1) := by decide +kernel
theorem dL_law_2407 : decode cL_law 2407 = .ok (.ishr, 1) := by decide +kernel
theorem dL_law_2408 : decode cL_law 2408 = .ok (.iconst 3, 1) := by decide +kernel
theorem dL_law_2409 : decode cL_law 2409 = .ok (.invokestatic 125, 3) := by decide +kernel
theorem dL_law_2412 : decode cL_law 2412 = .ok (.istore 40, 2) := by decide +kernel
theorem dL_law_2414 : decode cL_law 2414 = .ok (.aload_n 3, 1) := by decide +kernel
theorem dL_law_2415 : decode cL_law 2415 = .ok (.iload 15, 2) := by decide +kernel
theorem dL_law_2417 : decode cL_law 2417 = .ok (.iaload, 1) := by decide +kernel
theorem dL_law_2418 : decode cL_law 2418 = .ok (.iconst (-1), 1) := by decide +kernel
theorem dL_law_2419 : decode cL_law 2419 = .ok (.if_icmp .ne 32, 3) := by decide +kernel
theorem dL_law_2422 : decode cL_law 2422 = .ok (.aload_n 1, 1) := by decide +kernel
theorem dL_law_2423 : decode cL_law 2423 = .ok (.iload 16, 2) := by decide +kernel
theorem dL_law_2425 : decode cL_law 2425 = .ok (.iload 39, 2) := by decide +kernel
theorem dL_law_2427 : decode cL_law 2427 = .ok (.invokestatic 128, 3) := by decide +kernel
theorem dL_law_2430 : decode cL_law 2430 = .ok (.iload 40, 2) := by decide +kernel
theorem dL_law_2432 : decode cL_law 2432 = .ok (.invokestatic 221, 3) := by decide +kernel
theorem dL_law_2435 : decode cL_law 2435 = .ok (.sipush (-7300), 3) := by decide +kernel
theorem dL_law_2438 : decode cL_law 2438 = .ok (.if_icmp .ne 7, 3) := by decide +kernel
theorem dL_law_2441 : decode cL_law 2441 = .ok (.iconst 1, 1) := by decide +kernel
theorem dL_law_2442 : decode cL_law 2442 = .ok (.goto 4, 3) := by decide +kernel
theorem dL_law_2445 : decode cL_law 2445 = .ok (.iconst 0, 1) := by decide +kernel
theorem dL_law_2446 : decode cL_law 2446 = .ok (.istore 18, 2) := by decide +kernel
theorem dL_law_2448 : decode cL_law 2448 = .ok (.goto 554, 3) := by decide +kernel
theorem dL_law_2451 : decode cL_law 2451 = .ok (.aload_n 3, 1) := by decide +kernel
theorem dL_law_2452 : decode cL_law 2452 = .ok (.iload 15, 2) := by decide +kernel
theorem dL_law_2454 : decode cL_law 2454 = .ok (.iaload, 1) := by decide +kernel
theorem dL_law_2455 : decode cL_law 2455 = .ok (.iload 39, 2) := by decide +kernel
theorem dL_law_2457 : decode cL_law 2457 = .ok (.iload 40, 2) := by decide +kernel
theorem dL_law_2459 : decode cL_law 2459 = .ok (.aload_n 2, 1) := by decide +kernel
theorem dL_law_2460 : decode cL_law 2460 = .ok (.aload_n 3, 1) := by decide +kernel
theorem dL_law_2461 : decode cL_law 2461 = .ok (.aload 8, 2) := by decide +kernel
theorem dL_law_2463 : decode cL_law 2463 = .ok (.aload 10, 2) := by decide +kernel
theorem dL_law_2465 : decode cL_law 2465 = .ok (.invokestatic 165, 3) := by decide +kernel
theorem dL_law_2468 : decode cL_law 2468 = .ok (.lstore 41, 2) := by decide +kernel
theorem dL_law_2470 : decode cL_law 2470 = .ok (.aload_n 1, 1) := by decide +kernel
theorem dL_law_2471 : decode cL_law 2471 = .ok (.iload 16, 2) := by decide +kernel
theorem dL_law_2473 : decode cL_law 2473 = .ok (.iload 39, 2) := by decide +kernel
theorem dL_law_2475 : decode cL_law 2475 = .ok (.invokestatic 128, 3) := by decide +kernel
theorem dL_law_2478 : decode cL_law 2478 = .ok (.iload 40, 2) := by decide +kernel
theorem dL_law_2480 : decode cL_law 2480 = .ok (.invokestatic 221, 3) := by decide +kernel
theorem dL_law_2483 : decode cL_law 2483 = .ok (.lload 41, 2) := by decide +kernel
theorem dL_law_2485 : decode cL_law 2485 = .ok (.ldc2_w 108, 3) := by decide +kernel
theorem dL_law_2488 : decode cL_law 2488 = .ok (.land, 1) := by decide +kernel
theorem dL_law_2489 : decode cL_law 2489 = .ok (.l2i, 1) := by decide +kernel
theorem dL_law_2490 : decode cL_law 2490 = .ok (.if_icmp .ne 7, 3) := by decide +kernel
theorem dL_law_2493 : decode cL_law 2493 = .ok (.iconst 1, 1) := by decide +kernel
theorem dL_law_2494 : decode cL_law 2494 = .ok (.goto 4, 3) := by decide +kernel
theorem dL_law_2497 : decode cL_law 2497 = .ok (.iconst 0, 1) := by decide +kernel
theorem dL_law_2498 : decode cL_law 2498 = .ok (.istore 18, 2) := by decide +kernel
theorem dL_law_2500 : decode cL_law 2500 = .ok (.lload 41, 2) := by decide +kernel
theorem dL_law_2502 : decode cL_law 2502 = .ok (.ldc2_w 108, 3) := by decide +kernel
theorem dL_law_2505 : decode cL_law 2505 = .ok (.land, 1) := by decide +kernel
theorem dL_law_2506 : decode cL_law 2506 = .ok (.lconst 0, 1) := by decide +kernel
theorem dL_law_2507 : decode cL_law 2507 = .ok (.lcmp, 1) := by decide +kernel
theorem dL_law_2508 : decode cL_law 2508 = .ok (.ifCond .eq 6, 3) := by decide +kernel
theorem dL_law_2511 : decode cL_law 2511 = .ok (.goto 491, 3) := by decide +kernel
theorem dL_law_2514 : decode cL_law 2514 = .ok (.iconst 3, 1) := by decide +kernel
theorem dL_law_2515 : decode cL_law 2515 = .ok (.istore 43, 2) := by decide +kernel
theorem dL_law_2517 : decode cL_law 2517 = .ok (.lload 41, 2) := by decide +kernel
theorem dL_law_2519 : decode cL_law 2519 = .ok (.iconst 3, 1) := by decide +kernel
theorem dL_law_2520 : decode cL_law 2520 = .ok (.lshr, 1) := by decide +kernel
theorem dL_law_2521 : decode cL_law 2521 = .ok (.lstore 44, 2) := by decide +kernel
theorem dL_law_2523 : decode cL_law 2523 = .ok (.lload 44, 2) := by decide +kernel
theorem dL_law_2525 : decode cL_law 2525 = .ok (.ldc2_w 172, 3) := by decide +kernel
theorem dL_law_2528 : decode cL_law 2528 = .ok (.lcmp, 1) := by decide +kernel
theorem dL_law_2529 : decode cL_law 2529 = .ok (.ifCond .le 50, 3) := by decide +kernel
theorem dL_law_2532 : decode cL_law 2532 = .ok (.aload 10, 2) := by decide +kernel
theorem dL_law_2534 : decode cL_law 2534 = .ok (.lload 44, 2) := by decide +kernel
theorem dL_law_2536 : decode cL_law 2536 = .ok (.ldc2_w 172, 3) := by decide +kernel
theorem dL_law_2539 : decode cL_law 2539 = .ok (.land, 1) := by decide +kernel
theorem dL_law_2540 : decode cL_law 2540 = .ok (.l2i, 1) := by decide +kernel
theorem dL_law_2541 : decode cL_law 2541 = .ok (.iconst 1, 1) := by decide +kernel
theorem dL_law_2542 : decode cL_law 2542 = .ok (.isub, 1) := by decide +kernel
theorem dL_law_2543 : decode cL_law 2543 = .ok (.dup2, 1) := by decide +kernel
theorem dL_law_2544 : decode cL_law 2544 = .ok (.iaload, 1) := by decide +kernel
theorem dL_law_2545 : decode cL_law 2545 = .ok (.iload 43, 2) := by decide +kernel
theorem dL_law_2547 : decode cL_law 2547 = .ok (.bipush 10, 2) := by decide +kernel
theorem dL_law_2549 : decode cL_law 2549 = .ok (.ishl, 1) := by decide +kernel
theorem dL_law_2550 : decode cL_law 2550 = .ok (.iadd, 1) := by decide +kernel
theorem dL_law_2551 : decode cL_law 2551 = .ok (.iastore, 1) := by decide +kernel
theorem dL_law_2552 : decode cL_law 2552 = .ok (.aload 10, 2) := by decide +kernel
theorem dL_law_2554 : decode cL_law 2554 = .ok (.aload_n 3, 1) := by decide +kernel
theorem dL_law_2555 : decode cL_law 2555 = .ok (.iload 15, 2) := by decide +kernel
theorem dL_law_2557 : decode cL_law 2557 = .ok (.iaload, 1) := by decide +kernel
theorem dL_law_2558 : decode cL_law 2558 = .ok (.dup2, 1) := by decide +kernel
theorem dL_law_2559 : decode cL_law 2559 = .ok (.iaload, 1) := by decide +kernel
theorem dL_law_2560 : decode cL_law 2560 = .ok (.iload 43, 2) := by decide +kernel
theorem dL_law_2562 : decode cL_law 2562 = .ok (.bipush 10, 2) := by decide +kernel
theorem dL_law_2564 : decode cL_law 2564 = .ok (.ishl, 1) := by decide +kernel
theorem dL_law_2565 : decode cL_law 2565 = .ok (.isub, 1) := by decide +kernel
theorem dL_law_2566 : decode cL_law 2566 = .ok (.iastore, 1) := by decide +kernel
theorem dL_law_2567 : decode cL_law 2567 = .ok (.iconst 1, 1) := by decide +kernel
theorem dL_law_2568 : decode cL_law 2568 = .ok (.istore 43, 2) := by decide +kernel
theorem dL_law_2570 : decode cL_law 2570 = .ok (.lload 44, 2) := by decide +kernel
theorem dL_law_2572 : decode cL_law 2572 = .ok (.iconst 4, 1) := by decide +kernel
theorem dL_law_2573 : decode cL_law 2573 = .ok (.lshr, 1) := by decide +kernel
theorem dL_law_2574 : decode cL_law 2574 = .ok (.lstore 44, 2) := by decide +kernel
theorem dL_law_2576 : decode cL_law 2576 = .ok (.goto (-53), 3) := by decide +kernel
theorem dL_law_2579 : decode cL_law 2579 = .ok (.goto 423, 3) := by decide +kernel
theorem dL_law_2582 : decode cL_law 2582 = .ok (.iload 14, 2) := by decide +kernel
theorem dL_law_2584 : decode cL_law 2584 = .ok (.bipush 6, 2) := by decide +kernel
theorem dL_law_2586 : decode cL_law 2586 = .ok (.iand, 1) := by decide +kernel
theorem dL_law_2587 : decode cL_law 2587 = .ok (.ifCond .ne 17, 3) := by decide +kernel
theorem dL_law_2590 : decode cL_law 2590 = .ok (.iconst 1, 1) := by decide +kernel
theorem dL_law_2591 : decode cL_law 2591 = .ok (.iload 14, 2) := by decide +kernel
theorem dL_law_2593 : decode cL_law 2593 = .ok (.iconst 3, 1) := by decide +kernel
theorem dL_law_2594 : decode cL_law 2594 = .ok (.ishr, 1) := by decide +kernel
theorem dL_law_2595 : decode cL_law 2595 = .ok (.bipush 100, 2) := by decide +kernel
theorem dL_law_2597 : decode cL_law 2597 = .ok (.invokestatic 125, 3) := by decide +kernel
theorem dL_law_2600 : decode cL_law 2600 = .ok (.iadd, 1) := by decide +kernel
theorem dL_law_2601 : decode cL_law 2601 = .ok (.goto 35, 3) := by decide +kernel
theorem dL_law_2604 : decode cL_law 2604 = .ok (.iload 14, 2) := by decide +kernel
theorem dL_law_2606 : decode cL_law 2606 = .ok (.bipush 6, 2) := by decide +kernel
theorem dL_law_2608 : decode cL_law 2608 = .ok (.iand, 1) := by decide +kernel
theorem dL_law_2609 : decode cL_law 2609 = .ok (.iconst 2, 1) := by decide +kernel
theorem dL_law_2610 : decode cL_law 2610 = .ok (.if_icmp .ne 16, 3) := by decide +kernel
theorem dL_law_2613 : decode cL_law 2613 = .ok (.iconst 1, 1) := by decide +kernel
theorem dL_law_2614 : decode cL_law 2614 = .ok (.iload 14, 2) := by decide +kernel
theorem dL_law_2616 : decode cL_law 2616 = .ok (.iconst 3, 1) := by decide +kernel
theorem dL_law_2617 : decode cL_law 2617 = .ok (.ishr, 1) := by decide +kernel
theorem dL_law_2618 : decode cL_law 2618 = .ok (.iconst 5, 1) := by decide +kernel
theorem dL_law_2619 : decode cL_law 2619 = .ok (.invokestatic 125, 3) := by decide +kernel
theorem dL_law_2622 : decode cL_law 2622 = .ok (.iadd, 1) := by decide +kernel
theorem dL_law_2623 : decode cL_law 2623 = .ok (.goto 13, 3) := by decide +kernel
theorem dL_law_2626 : decode cL_law 2626 = .ok (.bipush 100, 2) := by decide +kernel
theorem dL_law_2628 : decode cL_law 2628 = .ok (.aload 11, 2) := by decide +kernel
theorem dL_law_2630 : decode cL_law 2630 = .ok (.iconst 0, 1) := by decide +kernel
theorem dL_law_2631 : decode cL_law 2631 = .ok (.iaload, 1) := by decide +kernel
theorem dL_law_2632 : decode cL_law 2632 = .ok (.bipush 100, 2) := by decide +kernel
theorem dL_law_2634 : decode cL_law 2634 = .ok (.irem, 1) := by decide +kernel
theorem dL_law_2635 : decode cL_law 2635 = .ok (.isub, 1) := by decide +kernel
theorem dL_law_2636 : decode cL_law 2636 = .ok (.istore 44, 2) := by decide +kernel
theorem dL_law_2638 : decode cL_law 2638 = .ok (.aload 11, 2) := by decide +kernel
theorem dL_law_2640 : decode cL_law 2640 = .ok (.iconst 0, 1) := by decide +kernel
theorem dL_law_2641 : decode cL_law 2641 = .ok (.iaload, 1) := by decide +kernel
theorem dL_law_2642 : decode cL_law 2642 = .ok (.iload 44, 2) := by decide +kernel
theorem dL_law_2644 : decode cL_law 2644 = .ok (.iadd, 1) := by decide +kernel
theorem dL_law_2645 : decode cL_law 2645 = .ok (.sipush 9999, 3) := by decide +kernel
