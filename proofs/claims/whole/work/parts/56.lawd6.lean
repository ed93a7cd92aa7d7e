/-! the law: its instructions -/
theorem d_Law_law_2289 : decode code 2289 = .ok (.iconst 1, 1) := by decide +kernel
theorem d_Law_law_2290 : decode code 2290 = .ok (.iadd, 1) := by decide +kernel
theorem d_Law_law_2291 : decode code 2291 = .ok (.iaload, 1) := by decide +kernel
theorem d_Law_law_2292 : decode code 2292 = .ok (.invokevirtual 317, 3) := by decide +kernel
theorem d_Law_law_2295 : decode code 2295 = .ok (.istore 7, 2) := by decide +kernel
theorem d_Law_law_2297 : decode code 2297 = .ok (.aload_n 2, 1) := by decide +kernel
theorem d_Law_law_2298 : decode code 2298 = .ok (.invokevirtual 163, 3) := by decide +kernel
theorem d_Law_law_2301 : decode code 2301 = .ok (.iload 6, 2) := by decide +kernel
theorem d_Law_law_2303 : decode code 2303 = .ok (.if_icmp .eq 5, 3) := by decide +kernel
theorem d_Law_law_2306 : decode code 2306 = .ok (.iconst 0, 1) := by decide +kernel
theorem d_Law_law_2307 : decode code 2307 = .ok (.ireturn, 1) := by decide +kernel
theorem d_Law_law_2308 : decode code 2308 = .ok (.iload 6, 2) := by decide +kernel
theorem d_Law_law_2310 : decode code 2310 = .ok (.ifCond .ne 15, 3) := by decide +kernel
theorem d_Law_law_2313 : decode code 2313 = .ok (.aload_n 3, 1) := by decide +kernel
theorem d_Law_law_2314 : decode code 2314 = .ok (.iconst 0, 1) := by decide +kernel
theorem d_Law_law_2315 : decode code 2315 = .ok (.laload, 1) := by decide +kernel
theorem d_Law_law_2316 : decode code 2316 = .ok (.iload 7, 2) := by decide +kernel
theorem d_Law_law_2318 : decode code 2318 = .ok (.i2l, 1) := by decide +kernel
theorem d_Law_law_2319 : decode code 2319 = .ok (.lcmp, 1) := by decide +kernel
theorem d_Law_law_2320 : decode code 2320 = .ok (.ifCond .eq 5, 3) := by decide +kernel
theorem d_Law_law_2323 : decode code 2323 = .ok (.iconst 0, 1) := by decide +kernel
theorem d_Law_law_2324 : decode code 2324 = .ok (.ireturn, 1) := by decide +kernel
theorem d_Law_law_2325 : decode code 2325 = .ok (.goto 608, 3) := by decide +kernel
theorem d_Law_law_2328 : decode code 2328 = .ok (.aload_n 1, 1) := by decide +kernel
theorem d_Law_law_2329 : decode code 2329 = .ok (.invokevirtual 318, 3) := by decide +kernel
theorem d_Law_law_2332 : decode code 2332 = .ok (.aload_n 2, 1) := by decide +kernel
theorem d_Law_law_2333 : decode code 2333 = .ok (.invokevirtual 321, 3) := by decide +kernel
theorem d_Law_law_2336 : decode code 2336 = .ok (.if_icmp .eq 597, 3) := by decide +kernel
theorem d_Law_law_2339 : decode code 2339 = .ok (.iconst 0, 1) := by decide +kernel
theorem d_Law_law_2340 : decode code 2340 = .ok (.ireturn, 1) := by decide +kernel
theorem d_Law_law_2341 : decode code 2341 = .ok (.aload_n 1, 1) := by decide +kernel
theorem d_Law_law_2342 : decode code 2342 = .ok (.invokevirtual 322, 3) := by decide +kernel
theorem d_Law_law_2345 : decode code 2345 = .ok (.aload_n 2, 1) := by decide +kernel
theorem d_Law_law_2346 : decode code 2346 = .ok (.invokevirtual 325, 3) := by decide +kernel
theorem d_Law_law_2349 : decode code 2349 = .ok (.if_icmp .eq 584, 3) := by decide +kernel
theorem d_Law_law_2352 : decode code 2352 = .ok (.iconst 0, 1) := by decide +kernel
theorem d_Law_law_2353 : decode code 2353 = .ok (.ireturn, 1) := by decide +kernel
theorem d_Law_law_2354 : decode code 2354 = .ok (.aload_n 1, 1) := by decide +kernel
theorem d_Law_law_2355 : decode code 2355 = .ok (.invokevirtual 326, 3) := by decide +kernel
theorem d_Law_law_2358 : decode code 2358 = .ok (.aload_n 2, 1) := by decide +kernel
theorem d_Law_law_2359 : decode code 2359 = .ok (.invokevirtual 329, 3) := by decide +kernel
theorem d_Law_law_2362 : decode code 2362 = .ok (.if_icmp .eq 571, 3) := by decide +kernel
theorem d_Law_law_2365 : decode code 2365 = .ok (.iconst 0, 1) := by decide +kernel
theorem d_Law_law_2366 : decode code 2366 = .ok (.ireturn, 1) := by decide +kernel
theorem d_Law_law_2367 : decode code 2367 = .ok (.aload_n 1, 1) := by decide +kernel
theorem d_Law_law_2368 : decode code 2368 = .ok (.invokevirtual 330, 3) := by decide +kernel
theorem d_Law_law_2371 : decode code 2371 = .ok (.aload_n 2, 1) := by decide +kernel
theorem d_Law_law_2372 : decode code 2372 = .ok (.invokevirtual 333, 3) := by decide +kernel
theorem d_Law_law_2375 : decode code 2375 = .ok (.if_icmp .eq 558, 3) := by decide +kernel
theorem d_Law_law_2378 : decode code 2378 = .ok (.iconst 0, 1) := by decide +kernel
theorem d_Law_law_2379 : decode code 2379 = .ok (.ireturn, 1) := by decide +kernel
theorem d_Law_law_2380 : decode code 2380 = .ok (.aload_n 1, 1) := by decide +kernel
theorem d_Law_law_2381 : decode code 2381 = .ok (.aload 4, 2) := by decide +kernel
theorem d_Law_law_2383 : decode code 2383 = .ok (.invokestatic 334, 3) := by decide +kernel
theorem d_Law_law_2386 : decode code 2386 = .ok (.istore 6, 2) := by decide +kernel
theorem d_Law_law_2388 : decode code 2388 = .ok (.aload_n 2, 1) := by decide +kernel
theorem d_Law_law_2389 : decode code 2389 = .ok (.invokevirtual 337, 3) := by decide +kernel
theorem d_Law_law_2392 : decode code 2392 = .ok (.fstore 7, 2) := by decide +kernel
theorem d_Law_law_2394 : decode code 2394 = .ok (.aload_n 2, 1) := by decide +kernel
theorem d_Law_law_2395 : decode code 2395 = .ok (.invokevirtual 163, 3) := by decide +kernel
theorem d_Law_law_2398 : decode code 2398 = .ok (.iload 6, 2) := by decide +kernel
theorem d_Law_law_2400 : decode code 2400 = .ok (.if_icmp .eq 5, 3) := by decide +kernel
theorem d_Law_law_2403 : decode code 2403 = .ok (.iconst 0, 1) := by decide +kernel
theorem d_Law_law_2404 : decode code 2404 = .ok (.ireturn, 1) := by decide +kernel
theorem d_Law_law_2405 : decode code 2405 = .ok (.iload 6, 2) := by decide +kernel
theorem d_Law_law_2407 : decode code 2407 = .ok (.ifCond .ne 36, 3) := by decide +kernel
theorem d_Law_law_2410 : decode code 2410 = .ok (.aload 4, 2) := by decide +kernel
theorem d_Law_law_2412 : decode code 2412 = .ok (.iconst 0, 1) := by decide +kernel
theorem d_Law_law_2413 : decode code 2413 = .ok (.daload, 1) := by decide +kernel
theorem d_Law_law_2414 : decode code 2414 = .ok (.fload 7, 2) := by decide +kernel
theorem d_Law_law_2416 : decode code 2416 = .ok (.f2d, 1) := by decide +kernel
theorem d_Law_law_2417 : decode code 2417 = .ok (.dcmp .l, 1) := by decide +kernel
theorem d_Law_law_2418 : decode code 2418 = .ok (.ifCond .eq 25, 3) := by decide +kernel
theorem d_Law_law_2421 : decode code 2421 = .ok (.aload 4, 2) := by decide +kernel
theorem d_Law_law_2423 : decode code 2423 = .ok (.iconst 0, 1) := by decide +kernel
theorem d_Law_law_2424 : decode code 2424 = .ok (.daload, 1) := by decide +kernel
theorem d_Law_law_2425 : decode code 2425 = .ok (.aload 4, 2) := by decide +kernel
theorem d_Law_law_2427 : decode code 2427 = .ok (.iconst 0, 1) := by decide +kernel
theorem d_Law_law_2428 : decode code 2428 = .ok (.daload, 1) := by decide +kernel
theorem d_Law_law_2429 : decode code 2429 = .ok (.dcmp .l, 1) := by decide +kernel
theorem d_Law_law_2430 : decode code 2430 = .ok (.ifCond .eq 11, 3) := by decide +kernel
theorem d_Law_law_2433 : decode code 2433 = .ok (.fload 7, 2) := by decide +kernel
theorem d_Law_law_2435 : decode code 2435 = .ok (.fload 7, 2) := by decide +kernel
theorem d_Law_law_2437 : decode code 2437 = .ok (.fcmp .l, 1) := by decide +kernel
theorem d_Law_law_2438 : decode code 2438 = .ok (.ifCond .ne 5, 3) := by decide +kernel
theorem d_Law_law_2441 : decode code 2441 = .ok (.iconst 0, 1) := by decide +kernel
theorem d_Law_law_2442 : decode code 2442 = .ok (.ireturn, 1) := by decide +kernel
theorem d_Law_law_2443 : decode code 2443 = .ok (.goto 490, 3) := by decide +kernel
theorem d_Law_law_2446 : decode code 2446 = .ok (.aload_n 1, 1) := by decide +kernel
theorem d_Law_law_2447 : decode code 2447 = .ok (.invokevirtual 338, 3) := by decide +kernel
theorem d_Law_law_2450 : decode code 2450 = .ok (.aload_n 2, 1) := by decide +kernel
theorem d_Law_law_2451 : decode code 2451 = .ok (.invokevirtual 341, 3) := by decide +kernel
theorem d_Law_law_2454 : decode code 2454 = .ok (.if_icmp .eq 479, 3) := by decide +kernel
theorem d_Law_law_2457 : decode code 2457 = .ok (.iconst 0, 1) := by decide +kernel
theorem d_Law_law_2458 : decode code 2458 = .ok (.ireturn, 1) := by decide +kernel
theorem d_Law_law_2459 : decode code 2459 = .ok (.aload_n 1, 1) := by decide +kernel
theorem d_Law_law_2460 : decode code 2460 = .ok (.aload_n 0, 1) := by decide +kernel
theorem d_Law_law_2461 : decode code 2461 = .ok (.iload 5, 2) := by decide +kernel
theorem d_Law_law_2463 : decode code 2463 = .ok (.iconst 1, 1) := by decide +kernel
theorem d_Law_law_2464 : decode code 2464 = .ok (.iadd, 1) := by decide +kernel
theorem d_Law_law_2465 : decode code 2465 = .ok (.iaload, 1) := by decide +kernel
theorem d_Law_law_2466 : decode code 2466 = .ok (.aload_n 3, 1) := by decide +kernel
theorem d_Law_law_2467 : decode code 2467 = .ok (.invokestatic 342, 3) := by decide +kernel
theorem d_Law_law_2470 : decode code 2470 = .ok (.istore 6, 2) := by decide +kernel
theorem d_Law_law_2472 : decode code 2472 = .ok (.aload_n 2, 1) := by decide +kernel
theorem d_Law_law_2473 : decode code 2473 = .ok (.aload_n 0, 1) := by decide +kernel
theorem d_Law_law_2474 : decode code 2474 = .ok (.iload 5, 2) := by decide +kernel
theorem d_Law_law_2476 : decode code 2476 = .ok (.iconst 1, 1) := by decide +kernel
theorem d_Law_law_2477 : decode code 2477 = .ok (.iadd, 1) := by decide +kernel
theorem d_Law_law_2478 : decode code 2478 = .ok (.iaload, 1) := by decide +kernel
theorem d_Law_law_2479 : decode code 2479 = .ok (.invokevirtual 344, 3) := by decide +kernel
theorem d_Law_law_2482 : decode code 2482 = .ok (.istore 7, 2) := by decide +kernel
theorem d_Law_law_2484 : decode code 2484 = .ok (.aload_n 2, 1) := by decide +kernel
theorem d_Law_law_2485 : decode code 2485 = .ok (.invokevirtual 163, 3) := by decide +kernel
theorem d_Law_law_2488 : decode code 2488 = .ok (.iload 6, 2) := by decide +kernel
theorem d_Law_law_2490 : decode code 2490 = .ok (.if_icmp .eq 5, 3) := by decide +kernel
theorem d_Law_law_2493 : decode code 2493 = .ok (.iconst 0, 1) := by decide +kernel
theorem d_Law_law_2494 : decode code 2494 = .ok (.ireturn, 1) := by decide +kernel
theorem d_Law_law_2495 : decode code 2495 = .ok (.iload 6, 2) := by decide +kernel
theorem d_Law_law_2497 : decode code 2497 = .ok (.ifCond .ne 15, 3) := by decide +kernel
theorem d_Law_law_2500 : decode code 2500 = .ok (.aload_n 3, 1) := by decide +kernel
theorem d_Law_law_2501 : decode code 2501 = .ok (.iconst 0, 1) := by decide +kernel
theorem d_Law_law_2502 : decode code 2502 = .ok (.laload, 1) := by decide +kernel
theorem d_Law_law_2503 : decode code 2503 = .ok (.iload 7, 2) := by decide +kernel
theorem d_Law_law_2505 : decode code 2505 = .ok (.i2l, 1) := by decide +kernel
theorem d_Law_law_2506 : decode code 2506 = .ok (.lcmp, 1) := by decide +kernel
theorem d_Law_law_2507 : decode code 2507 = .ok (.ifCond .eq 5, 3) := by decide +kernel
theorem d_Law_law_2510 : decode code 2510 = .ok (.iconst 0, 1) := by decide +kernel
theorem d_Law_law_2511 : decode code 2511 = .ok (.ireturn, 1) := by decide +kernel
theorem d_Law_law_2512 : decode code 2512 = .ok (.goto 421, 3) := by decide +kernel
theorem d_Law_law_2515 : decode code 2515 = .ok (.aload_n 1, 1) := by decide +kernel
theorem d_Law_law_2516 : decode code 2516 = .ok (.aload_n 0, 1) := by decide +kernel
theorem d_Law_law_2517 : decode code 2517 = .ok (.iload 5, 2) := by decide +kernel
theorem d_Law_law_2519 : decode code 2519 = .ok (.iconst 1, 1) := by decide +kernel
theorem d_Law_law_2520 : decode code 2520 = .ok (.iadd, 1) := by decide +kernel
theorem d_Law_law_2521 : decode code 2521 = .ok (.iaload, 1) := by decide +kernel
theorem d_Law_law_2522 : decode code 2522 = .ok (.i2c, 1) := by decide +kernel
theorem d_Law_law_2523 : decode code 2523 = .ok (.aload_n 3, 1) := by decide +kernel
theorem d_Law_law_2524 : decode code 2524 = .ok (.invokestatic 345, 3) := by decide +kernel
theorem d_Law_law_2527 : decode code 2527 = .ok (.istore 6, 2) := by decide +kernel
theorem d_Law_law_2529 : decode code 2529 = .ok (.aload_n 2, 1) := by decide +kernel
theorem d_Law_law_2530 : decode code 2530 = .ok (.aload_n 0, 1) := by decide +kernel
theorem d_Law_law_2531 : decode code 2531 = .ok (.iload 5, 2) := by decide +kernel
theorem d_Law_law_2533 : decode code 2533 = .ok (.iconst 1, 1) := by decide +kernel
theorem d_Law_law_2534 : decode code 2534 = .ok (.iadd, 1) := by decide +kernel
theorem d_Law_law_2535 : decode code 2535 = .ok (.iaload, 1) := by decide +kernel
theorem d_Law_law_2536 : decode code 2536 = .ok (.i2c, 1) := by decide +kernel
theorem d_Law_law_2537 : decode code 2537 = .ok (.invokevirtual 347, 3) := by decide +kernel
theorem d_Law_law_2540 : decode code 2540 = .ok (.istore 7, 2) := by decide +kernel
theorem d_Law_law_2542 : decode code 2542 = .ok (.aload_n 2, 1) := by decide +kernel
theorem d_Law_law_2543 : decode code 2543 = .ok (.invokevirtual 163, 3) := by decide +kernel
theorem d_Law_law_2546 : decode code 2546 = .ok (.iload 6, 2) := by decide +kernel
theorem d_Law_law_2548 : decode code 2548 = .ok (.if_icmp .eq 5, 3) := by decide +kernel
theorem d_Law_law_2551 : decode code 2551 = .ok (.iconst 0, 1) := by decide +kernel
theorem d_Law_law_2552 : decode code 2552 = .ok (.ireturn, 1) := by decide +kernel
theorem d_Law_law_2553 : decode code 2553 = .ok (.iload 6, 2) := by decide +kernel
theorem d_Law_law_2555 : decode code 2555 = .ok (.ifCond .ne 15, 3) := by decide +kernel
theorem d_Law_law_2558 : decode code 2558 = .ok (.aload_n 3, 1) := by decide +kernel
theorem d_Law_law_2559 : decode code 2559 = .ok (.iconst 0, 1) := by decide +kernel
theorem d_Law_law_2560 : decode code 2560 = .ok (.laload, 1) := by decide +kernel
theorem d_Law_law_2561 : decode code 2561 = .ok (.iload 7, 2) := by decide +kernel
theorem d_Law_law_2563 : decode code 2563 = .ok (.i2l, 1) := by decide +kernel
theorem d_Law_law_2564 : decode code 2564 = .ok (.lcmp, 1) := by decide +kernel
theorem d_Law_law_2565 : decode code 2565 = .ok (.ifCond .eq 5, 3) := by decide +kernel
theorem d_Law_law_2568 : decode code 2568 = .ok (.iconst 0, 1) := by decide +kernel
theorem d_Law_law_2569 : decode code 2569 = .ok (.ireturn, 1) := by decide +kernel
theorem d_Law_law_2570 : decode code 2570 = .ok (.goto 363, 3) := by decide +kernel
theorem d_Law_law_2573 : decode code 2573 = .ok (.aload_n 1, 1) := by decide +kernel
theorem d_Law_law_2574 : decode code 2574 = .ok (.aload_n 0, 1) := by decide +kernel
theorem d_Law_law_2575 : decode code 2575 = .ok (.iload 5, 2) := by decide +kernel
theorem d_Law_law_2577 : decode code 2577 = .ok (.iconst 1, 1) := by decide +kernel
theorem d_Law_law_2578 : decode code 2578 = .ok (.iadd, 1) := by decide +kernel
theorem d_Law_law_2579 : decode code 2579 = .ok (.iaload, 1) := by decide +kernel
theorem d_Law_law_2580 : decode code 2580 = .ok (.aload_n 3, 1) := by decide +kernel
theorem d_Law_law_2581 : decode code 2581 = .ok (.invokestatic 348, 3) := by decide +kernel
theorem d_Law_law_2584 : decode code 2584 = .ok (.istore 6, 2) := by decide +kernel
theorem d_Law_law_2586 : decode code 2586 = .ok (.aload_n 2, 1) := by decide +kernel
theorem d_Law_law_2587 : decode code 2587 = .ok (.aload_n 0, 1) := by decide +kernel
theorem d_Law_law_2588 : decode code 2588 = .ok (.iload 5, 2) := by decide +kernel
theorem d_Law_law_2590 : decode code 2590 = .ok (.iconst 1, 1) := by decide +kernel
theorem d_Law_law_2591 : decode code 2591 = .ok (.iadd, 1) := by decide +kernel
theorem d_Law_law_2592 : decode code 2592 = .ok (.iaload, 1) := by decide +kernel
theorem d_Law_law_2593 : decode code 2593 = .ok (.invokevirtual 350, 3) := by decide +kernel
theorem d_Law_law_2596 : decode code 2596 = .ok (.istore 7, 2) := by decide +kernel
theorem d_Law_law_2598 : decode code 2598 = .ok (.aload_n 2, 1) := by decide +kernel
theorem d_Law_law_2599 : decode code 2599 = .ok (.invokevirtual 163, 3) := by decide +kernel
theorem d_Law_law_2602 : decode code 2602 = .ok (.iload 6, 2) := by decide +kernel
theorem d_Law_law_2604 : decode code 2604 = .ok (.if_icmp .eq 5, 3) := by decide +kernel
theorem d_Law_law_2607 : decode code 2607 = .ok (.iconst 0, 1) := by decide +kernel
theorem d_Law_law_2608 : decode code 2608 = .ok (.ireturn, 1) := by decide +kernel
theorem d_Law_law_2609 : decode code 2609 = .ok (.iload 6, 2) := by decide +kernel
theorem d_Law_law_2611 : decode code 2611 = .ok (.ifCond .ne 15, 3) := by decide +kernel
theorem d_Law_law_2614 : decode code 2614 = .ok (.aload_n 3, 1) := by decide +kernel
theorem d_Law_law_2615 : decode code 2615 = .ok (.iconst 0, 1) := by decide +kernel
theorem d_Law_law_2616 : decode code 2616 = .ok (.laload, 1) := by decide +kernel
theorem d_Law_law_2617 : decode code 2617 = .ok (.iload 7, 2) := by decide +kernel
theorem d_Law_law_2619 : decode code 2619 = .ok (.i2l, 1) := by decide +kernel
theorem d_Law_law_2620 : decode code 2620 = .ok (.lcmp, 1) := by decide +kernel
theorem d_Law_law_2621 : decode code 2621 = .ok (.ifCond .eq 5, 3) := by decide +kernel
theorem d_Law_law_2624 : decode code 2624 = .ok (.iconst 0, 1) := by decide +kernel
theorem d_Law_law_2625 : decode code 2625 = .ok (.ireturn, 1) := by decide +kernel
theorem d_Law_law_2626 : decode code 2626 = .ok (.goto 307, 3) := by decide +kernel
theorem d_Law_law_2629 : decode code 2629 = .ok (.aload_n 1, 1) := by decide +kernel
theorem d_Law_law_2630 : decode code 2630 = .ok (.aload_n 0, 1) := by decide +kernel
theorem d_Law_law_2631 : decode code 2631 = .ok (.iload 5, 2) := by decide +kernel
theorem d_Law_law_2633 : decode code 2633 = .ok (.iconst 1, 1) := by decide +kernel
theorem d_Law_law_2634 : decode code 2634 = .ok (.iadd, 1) := by decide +kernel
theorem d_Law_law_2635 : decode code 2635 = .ok (.iaload, 1) := by decide +kernel
theorem d_Law_law_2636 : decode code 2636 = .ok (.i2c, 1) := by decide +kernel
theorem d_Law_law_2637 : decode code 2637 = .ok (.aload_n 3, 1) := by decide +kernel
