theorem dL_law_2291 : decode cL_law 2291 = .ok (.aload_n 0, 1) := by decide +kernel
theorem dL_law_2292 : decode cL_law 2292 = .ok (.iload 5, 2) := by decide +kernel
theorem dL_law_2294 : decode cL_law 2294 = .ok (.iconst 1, 1) := by decide +kernel
theorem dL_law_2295 : decode cL_law 2295 = .ok (.iadd, 1) := by decide +kernel
theorem dL_law_2296 : decode cL_law 2296 = .ok (.iaload, 1) := by decide +kernel
theorem dL_law_2297 : decode cL_law 2297 = .ok (.aload_n 3, 1) := by decide +kernel
theorem dL_law_2298 : decode cL_law 2298 = .ok (.invokestatic 289, 3) := by decide +kernel
theorem dL_law_2301 : decode cL_law 2301 = .ok (.istore 6, 2) := by decide +kernel
theorem dL_law_2303 : decode cL_law 2303 = .ok (.aload_n 2, 1) := by decide +kernel
theorem dL_law_2304 : decode cL_law 2304 = .ok (.aload_n 0, 1) := by decide +kernel
theorem dL_law_2305 : decode cL_law 2305 = .ok (.iload 5, 2) := by decide +kernel
theorem dL_law_2307 : decode cL_law 2307 = .ok (.iconst 1, 1) := by decide +kernel
theorem dL_law_2308 : decode cL_law 2308 = .ok (.iadd, 1) := by decide +kernel
theorem dL_law_2309 : decode cL_law 2309 = .ok (.iaload, 1) := by decide +kernel
theorem dL_law_2310 : decode cL_law 2310 = .ok (.invokevirtual 291, 3) := by decide +kernel
theorem dL_law_2313 : decode cL_law 2313 = .ok (.istore 7, 2) := by decide +kernel
theorem dL_law_2315 : decode cL_law 2315 = .ok (.aload_n 2, 1) := by decide +kernel
theorem dL_law_2316 : decode cL_law 2316 = .ok (.invokevirtual 173, 3) := by decide +kernel
theorem dL_law_2319 : decode cL_law 2319 = .ok (.iload 6, 2) := by decide +kernel
theorem dL_law_2321 : decode cL_law 2321 = .ok (.if_icmp .eq 5, 3) := by decide +kernel
theorem dL_law_2326 : decode cL_law 2326 = .ok (.iload 6, 2) := by decide +kernel
theorem dL_law_2328 : decode cL_law 2328 = .ok (.ifCond .ne 15, 3) := by decide +kernel
theorem dL_law_2343 : decode cL_law 2343 = .ok (.goto 774, 3) := by decide +kernel
theorem dL_law_2346 : decode cL_law 2346 = .ok (.aload_n 1, 1) := by decide +kernel
theorem dL_law_2347 : decode cL_law 2347 = .ok (.invokevirtual 292, 3) := by decide +kernel
theorem dL_law_2350 : decode cL_law 2350 = .ok (.aload_n 2, 1) := by decide +kernel
theorem dL_law_2351 : decode cL_law 2351 = .ok (.invokevirtual 295, 3) := by decide +kernel
theorem dL_law_2354 : decode cL_law 2354 = .ok (.if_icmp .eq 763, 3) := by decide +kernel
theorem dL_law_2359 : decode cL_law 2359 = .ok (.aload_n 1, 1) := by decide +kernel
theorem dL_law_2360 : decode cL_law 2360 = .ok (.aload_n 3, 1) := by decide +kernel
theorem dL_law_2361 : decode cL_law 2361 = .ok (.invokestatic 296, 3) := by decide +kernel
theorem dL_law_2364 : decode cL_law 2364 = .ok (.istore 6, 2) := by decide +kernel
theorem dL_law_2366 : decode cL_law 2366 = .ok (.aload_n 2, 1) := by decide +kernel
theorem dL_law_2367 : decode cL_law 2367 = .ok (.invokevirtual 298, 3) := by decide +kernel
theorem dL_law_2370 : decode cL_law 2370 = .ok (.istore 7, 2) := by decide +kernel
theorem dL_law_2372 : decode cL_law 2372 = .ok (.aload_n 2, 1) := by decide +kernel
theorem dL_law_2373 : decode cL_law 2373 = .ok (.invokevirtual 173, 3) := by decide +kernel
theorem dL_law_2376 : decode cL_law 2376 = .ok (.iload 6, 2) := by decide +kernel
theorem dL_law_2378 : decode cL_law 2378 = .ok (.if_icmp .eq 5, 3) := by decide +kernel
theorem dL_law_2383 : decode cL_law 2383 = .ok (.iload 6, 2) := by decide +kernel
theorem dL_law_2385 : decode cL_law 2385 = .ok (.ifCond .ne 15, 3) := by decide +kernel
theorem dL_law_2400 : decode cL_law 2400 = .ok (.goto 717, 3) := by decide +kernel
theorem dL_law_2403 : decode cL_law 2403 = .ok (.aload_n 1, 1) := by decide +kernel
theorem dL_law_2404 : decode cL_law 2404 = .ok (.aload_n 3, 1) := by decide +kernel
theorem dL_law_2405 : decode cL_law 2405 = .ok (.invokestatic 299, 3) := by decide +kernel
theorem dL_law_2408 : decode cL_law 2408 = .ok (.istore 6, 2) := by decide +kernel
theorem dL_law_2410 : decode cL_law 2410 = .ok (.aload_n 2, 1) := by decide +kernel
theorem dL_law_2411 : decode cL_law 2411 = .ok (.invokevirtual 301, 3) := by decide +kernel
theorem dL_law_2414 : decode cL_law 2414 = .ok (.istore 7, 2) := by decide +kernel
theorem dL_law_2416 : decode cL_law 2416 = .ok (.aload_n 2, 1) := by decide +kernel
theorem dL_law_2417 : decode cL_law 2417 = .ok (.invokevirtual 173, 3) := by decide +kernel
theorem dL_law_2420 : decode cL_law 2420 = .ok (.iload 6, 2) := by decide +kernel
theorem dL_law_2422 : decode cL_law 2422 = .ok (.if_icmp .eq 5, 3) := by decide +kernel
theorem dL_law_2427 : decode cL_law 2427 = .ok (.iload 6, 2) := by decide +kernel
theorem dL_law_2429 : decode cL_law 2429 = .ok (.ifCond .ne 15, 3) := by decide +kernel
theorem dL_law_2444 : decode cL_law 2444 = .ok (.goto 673, 3) := by decide +kernel
theorem dL_law_2447 : decode cL_law 2447 = .ok (.aload_n 1, 1) := by decide +kernel
theorem dL_law_2448 : decode cL_law 2448 = .ok (.aload_n 3, 1) := by decide +kernel
theorem dL_law_2449 : decode cL_law 2449 = .ok (.invokestatic 302, 3) := by decide +kernel
theorem dL_law_2452 : decode cL_law 2452 = .ok (.istore 6, 2) := by decide +kernel
theorem dL_law_2454 : decode cL_law 2454 = .ok (.aload_n 2, 1) := by decide +kernel
theorem dL_law_2455 : decode cL_law 2455 = .ok (.invokevirtual 304, 3) := by decide +kernel
theorem dL_law_2458 : decode cL_law 2458 = .ok (.istore 7, 2) := by decide +kernel
theorem dL_law_2460 : decode cL_law 2460 = .ok (.aload_n 2, 1) := by decide +kernel
theorem dL_law_2461 : decode cL_law 2461 = .ok (.invokevirtual 173, 3) := by decide +kernel
theorem dL_law_2464 : decode cL_law 2464 = .ok (.iload 6, 2) := by decide +kernel
theorem dL_law_2466 : decode cL_law 2466 = .ok (.if_icmp .eq 5, 3) := by decide +kernel
theorem dL_law_2471 : decode cL_law 2471 = .ok (.iload 6, 2) := by decide +kernel
theorem dL_law_2473 : decode cL_law 2473 = .ok (.ifCond .ne 15, 3) := by decide +kernel
theorem dL_law_2488 : decode cL_law 2488 = .ok (.goto 629, 3) := by decide +kernel
theorem dL_law_2491 : decode cL_law 2491 = .ok (.aload_n 1, 1) := by decide +kernel
theorem dL_law_2492 : decode cL_law 2492 = .ok (.invokevirtual 305, 3) := by decide +kernel
theorem dL_law_2495 : decode cL_law 2495 = .ok (.aload_n 2, 1) := by decide +kernel
theorem dL_law_2496 : decode cL_law 2496 = .ok (.invokevirtual 308, 3) := by decide +kernel
theorem dL_law_2499 : decode cL_law 2499 = .ok (.if_icmp .eq 618, 3) := by decide +kernel
theorem dL_law_2504 : decode cL_law 2504 = .ok (.aload_n 1, 1) := by decide +kernel
theorem dL_law_2505 : decode cL_law 2505 = .ok (.aload_n 0, 1) := by decide +kernel
theorem dL_law_2506 : decode cL_law 2506 = .ok (.iload 5, 2) := by decide +kernel
theorem dL_law_2508 : decode cL_law 2508 = .ok (.iconst 1, 1) := by decide +kernel
theorem dL_law_2509 : decode cL_law 2509 = .ok (.iadd, 1) := by decide +kernel
theorem dL_law_2510 : decode cL_law 2510 = .ok (.iaload, 1) := by decide +kernel
theorem dL_law_2511 : decode cL_law 2511 = .ok (.aload_n 0, 1) := by decide +kernel
theorem dL_law_2512 : decode cL_law 2512 = .ok (.iload 5, 2) := by decide +kernel
theorem dL_law_2514 : decode cL_law 2514 = .ok (.iconst 2, 1) := by decide +kernel
theorem dL_law_2515 : decode cL_law 2515 = .ok (.iadd, 1) := by decide +kernel
theorem dL_law_2516 : decode cL_law 2516 = .ok (.iaload, 1) := by decide +kernel
theorem dL_law_2517 : decode cL_law 2517 = .ok (.aload_n 3, 1) := by decide +kernel
theorem dL_law_2518 : decode cL_law 2518 = .ok (.invokestatic 309, 3) := by decide +kernel
theorem dL_law_2521 : decode cL_law 2521 = .ok (.istore 6, 2) := by decide +kernel
theorem dL_law_2523 : decode cL_law 2523 = .ok (.aload_n 2, 1) := by decide +kernel
theorem dL_law_2524 : decode cL_law 2524 = .ok (.aload_n 0, 1) := by decide +kernel
theorem dL_law_2525 : decode cL_law 2525 = .ok (.iload 5, 2) := by decide +kernel
theorem dL_law_2527 : decode cL_law 2527 = .ok (.iconst 1, 1) := by decide +kernel
theorem dL_law_2528 : decode cL_law 2528 = .ok (.iadd, 1) := by decide +kernel
theorem dL_law_2529 : decode cL_law 2529 = .ok (.iaload, 1) := by decide +kernel
theorem dL_law_2530 : decode cL_law 2530 = .ok (.aload_n 0, 1) := by decide +kernel
theorem dL_law_2531 : decode cL_law 2531 = .ok (.iload 5, 2) := by decide +kernel
theorem dL_law_2533 : decode cL_law 2533 = .ok (.iconst 2, 1) := by decide +kernel
theorem dL_law_2534 : decode cL_law 2534 = .ok (.iadd, 1) := by decide +kernel
theorem dL_law_2535 : decode cL_law 2535 = .ok (.iaload, 1) := by decide +kernel
theorem dL_law_2536 : decode cL_law 2536 = .ok (.invokevirtual 311, 3) := by decide +kernel
theorem dL_law_2539 : decode cL_law 2539 = .ok (.istore 7, 2) := by decide +kernel
theorem dL_law_2541 : decode cL_law 2541 = .ok (.aload_n 2, 1) := by decide +kernel
theorem dL_law_2542 : decode cL_law 2542 = .ok (.invokevirtual 173, 3) := by decide +kernel
theorem dL_law_2545 : decode cL_law 2545 = .ok (.iload 6, 2) := by decide +kernel
theorem dL_law_2547 : decode cL_law 2547 = .ok (.if_icmp .eq 5, 3) := by decide +kernel
theorem dL_law_2552 : decode cL_law 2552 = .ok (.iload 6, 2) := by decide +kernel
theorem dL_law_2554 : decode cL_law 2554 = .ok (.ifCond .ne 15, 3) := by decide +kernel
theorem dL_law_2569 : decode cL_law 2569 = .ok (.goto 548, 3) := by decide +kernel
theorem dL_law_2572 : decode cL_law 2572 = .ok (.aload_n 1, 1) := by decide +kernel
theorem dL_law_2573 : decode cL_law 2573 = .ok (.aload_n 0, 1) := by decide +kernel
theorem dL_law_2574 : decode cL_law 2574 = .ok (.iload 5, 2) := by decide +kernel
theorem dL_law_2576 : decode cL_law 2576 = .ok (.iconst 1, 1) := by decide +kernel
theorem dL_law_2577 : decode cL_law 2577 = .ok (.iadd, 1) := by decide +kernel
theorem dL_law_2578 : decode cL_law 2578 = .ok (.iaload, 1) := by decide +kernel
theorem dL_law_2579 : decode cL_law 2579 = .ok (.aload_n 0, 1) := by decide +kernel
theorem dL_law_2580 : decode cL_law 2580 = .ok (.iload 5, 2) := by decide +kernel
theorem dL_law_2582 : decode cL_law 2582 = .ok (.iconst 2, 1) := by decide +kernel
theorem dL_law_2583 : decode cL_law 2583 = .ok (.iadd, 1) := by decide +kernel
theorem dL_law_2584 : decode cL_law 2584 = .ok (.iaload, 1) := by decide +kernel
theorem dL_law_2585 : decode cL_law 2585 = .ok (.aload_n 0, 1) := by decide +kernel
theorem dL_law_2586 : decode cL_law 2586 = .ok (.iload 5, 2) := by decide +kernel
theorem dL_law_2588 : decode cL_law 2588 = .ok (.iconst 3, 1) := by decide +kernel
theorem dL_law_2589 : decode cL_law 2589 = .ok (.iadd, 1) := by decide +kernel
theorem dL_law_2590 : decode cL_law 2590 = .ok (.iaload, 1) := by decide +kernel
theorem dL_law_2591 : decode cL_law 2591 = .ok (.aload_n 3, 1) := by decide +kernel
theorem dL_law_2592 : decode cL_law 2592 = .ok (.invokestatic 312, 3) := by decide +kernel
theorem dL_law_2595 : decode cL_law 2595 = .ok (.istore 6, 2) := by decide +kernel
theorem dL_law_2597 : decode cL_law 2597 = .ok (.aload_n 2, 1) := by decide +kernel
theorem dL_law_2598 : decode cL_law 2598 = .ok (.aload_n 0, 1) := by decide +kernel
theorem dL_law_2599 : decode cL_law 2599 = .ok (.iload 5, 2) := by decide +kernel
theorem dL_law_2601 : decode cL_law 2601 = .ok (.iconst 1, 1) := by decide +kernel
theorem dL_law_2602 : decode cL_law 2602 = .ok (.iadd, 1) := by decide +kernel
theorem dL_law_2603 : decode cL_law 2603 = .ok (.iaload, 1) := by decide +kernel
theorem dL_law_2604 : decode cL_law 2604 = .ok (.aload_n 0, 1) := by decide +kernel
theorem dL_law_2605 : decode cL_law 2605 = .ok (.iload 5, 2) := by decide +kernel
theorem dL_law_2607 : decode cL_law 2607 = .ok (.iconst 2, 1) := by decide +kernel
theorem dL_law_2608 : decode cL_law 2608 = .ok (.iadd, 1) := by decide +kernel
theorem dL_law_2609 : decode cL_law 2609 = .ok (.iaload, 1) := by decide +kernel
theorem dL_law_2610 : decode cL_law 2610 = .ok (.aload_n 0, 1) := by decide +kernel
theorem dL_law_2611 : decode cL_law 2611 = .ok (.iload 5, 2) := by decide +kernel
theorem dL_law_2613 : decode cL_law 2613 = .ok (.iconst 3, 1) := by decide +kernel
theorem dL_law_2614 : decode cL_law 2614 = .ok (.iadd, 1) := by decide +kernel
theorem dL_law_2615 : decode cL_law 2615 = .ok (.iaload, 1) := by decide +kernel
theorem dL_law_2616 : decode cL_law 2616 = .ok (.invokevirtual 314, 3) := by decide +kernel
theorem dL_law_2619 : decode cL_law 2619 = .ok (.istore 7, 2) := by decide +kernel
theorem dL_law_2621 : decode cL_law 2621 = .ok (.aload_n 2, 1) := by decide +kernel
theorem dL_law_2622 : decode cL_law 2622 = .ok (.invokevirtual 173, 3) := by decide +kernel
theorem dL_law_2625 : decode cL_law 2625 = .ok (.iload 6, 2) := by decide +kernel
theorem dL_law_2627 : decode cL_law 2627 = .ok (.if_icmp .eq 5, 3) := by decide +kernel
theorem dL_law_2632 : decode cL_law 2632 = .ok (.iload 6, 2) := by decide +kernel
theorem dL_law_2634 : decode cL_law 2634 = .ok (.ifCond .ne 15, 3) := by decide +kernel
theorem dL_law_2649 : decode cL_law 2649 = .ok (.goto 468, 3) := by decide +kernel
theorem dL_law_2652 : decode cL_law 2652 = .ok (.aload_n 1, 1) := by decide +kernel
theorem dL_law_2653 : decode cL_law 2653 = .ok (.aload_n 0, 1) := by decide +kernel
theorem dL_law_2654 : decode cL_law 2654 = .ok (.iload 5, 2) := by decide +kernel
theorem dL_law_2656 : decode cL_law 2656 = .ok (.iconst 1, 1) := by decide +kernel
theorem dL_law_2657 : decode cL_law 2657 = .ok (.iadd, 1) := by decide +kernel
theorem dL_law_2658 : decode cL_law 2658 = .ok (.iaload, 1) := by decide +kernel
theorem dL_law_2659 : decode cL_law 2659 = .ok (.aload_n 0, 1) := by decide +kernel
theorem dL_law_2660 : decode cL_law 2660 = .ok (.iload 5, 2) := by decide +kernel
theorem dL_law_2662 : decode cL_law 2662 = .ok (.iconst 2, 1) := by decide +kernel
theorem dL_law_2663 : decode cL_law 2663 = .ok (.iadd, 1) := by decide +kernel
theorem dL_law_2664 : decode cL_law 2664 = .ok (.iaload, 1) := by decide +kernel
theorem dL_law_2665 : decode cL_law 2665 = .ok (.aload_n 3, 1) := by decide +kernel
theorem dL_law_2666 : decode cL_law 2666 = .ok (.invokestatic 315, 3) := by decide +kernel
theorem dL_law_2669 : decode cL_law 2669 = .ok (.istore 6, 2) := by decide +kernel
theorem dL_law_2671 : decode cL_law 2671 = .ok (.aload_n 2, 1) := by decide +kernel
theorem dL_law_2672 : decode cL_law 2672 = .ok (.aload_n 0, 1) := by decide +kernel
theorem dL_law_2673 : decode cL_law 2673 = .ok (.iload 5, 2) := by decide +kernel
theorem dL_law_2675 : decode cL_law 2675 = .ok (.iconst 1, 1) := by decide +kernel
theorem dL_law_2676 : decode cL_law 2676 = .ok (.iadd, 1) := by decide +kernel
theorem dL_law_2677 : decode cL_law 2677 = .ok (.iaload, 1) := by decide +kernel
theorem dL_law_2678 : decode cL_law 2678 = .ok (.aload_n 0, 1) := by decide +kernel
theorem dL_law_2679 : decode cL_law 2679 = .ok (.iload 5, 2) := by decide +kernel
theorem dL_law_2681 : decode cL_law 2681 = .ok (.iconst 2, 1) := by decide +kernel
theorem dL_law_2682 : decode cL_law 2682 = .ok (.iadd, 1) := by decide +kernel
theorem dL_law_2683 : decode cL_law 2683 = .ok (.iaload, 1) := by decide +kernel
theorem dL_law_2684 : decode cL_law 2684 = .ok (.invokevirtual 317, 3) := by decide +kernel
theorem dL_law_2687 : decode cL_law 2687 = .ok (.istore 7, 2) := by decide +kernel
theorem dL_law_2689 : decode cL_law 2689 = .ok (.aload_n 2, 1) := by decide +kernel
theorem dL_law_2690 : decode cL_law 2690 = .ok (.invokevirtual 173, 3) := by decide +kernel
theorem dL_law_2693 : decode cL_law 2693 = .ok (.iload 6, 2) := by decide +kernel
theorem dL_law_2695 : decode cL_law 2695 = .ok (.if_icmp .eq 5, 3) := by decide +kernel
theorem dL_law_2700 : decode cL_law 2700 = .ok (.iload 6, 2) := by decide +kernel
theorem dL_law_2702 : decode cL_law 2702 = .ok (.ifCond .ne 15, 3) := by decide +kernel
theorem dL_law_2717 : decode cL_law 2717 = .ok (.goto 400, 3) := by decide +kernel
theorem dL_law_2720 : decode cL_law 2720 = .ok (.aload_n 1, 1) := by decide +kernel
theorem dL_law_2721 : decode cL_law 2721 = .ok (.invokevirtual 318, 3) := by decide +kernel
theorem dL_law_2724 : decode cL_law 2724 = .ok (.aload_n 2, 1) := by decide +kernel
theorem dL_law_2725 : decode cL_law 2725 = .ok (.invokevirtual 321, 3) := by decide +kernel
theorem dL_law_2728 : decode cL_law 2728 = .ok (.if_icmp .eq 389, 3) := by decide +kernel
theorem dL_law_2733 : decode cL_law 2733 = .ok (.aload_n 1, 1) := by decide +kernel
theorem dL_law_2734 : decode cL_law 2734 = .ok (.aload_n 0, 1) := by decide +kernel
theorem dL_law_2735 : decode cL_law 2735 = .ok (.iload 5, 2) := by decide +kernel
theorem dL_law_2737 : decode cL_law 2737 = .ok (.iconst 1, 1) := by decide +kernel
theorem dL_law_2738 : decode cL_law 2738 = .ok (.iadd, 1) := by decide +kernel
theorem dL_law_2739 : decode cL_law 2739 = .ok (.iaload, 1) := by decide +kernel
theorem dL_law_2740 : decode cL_law 2740 = .ok (.aload_n 3, 1) := by decide +kernel
theorem dL_law_2741 : decode cL_law 2741 = .ok (.invokestatic 322, 3) := by decide +kernel
theorem dL_law_2744 : decode cL_law 2744 = .ok (.istore 6, 2) := by decide +kernel
theorem dL_law_2746 : decode cL_law 2746 = .ok (.aload_n 2, 1) := by decide +kernel
theorem dL_law_2747 : decode cL_law 2747 = .ok (.aload_n 0, 1) := by decide +kernel
theorem dL_law_2748 : decode cL_law 2748 = .ok (.iload 5, 2) := by decide +kernel
theorem dL_law_2750 : decode cL_law 2750 = .ok (.iconst 1, 1) := by decide +kernel
theorem dL_law_2751 : decode cL_law 2751 = .ok (.iadd, 1) := by decide +kernel
theorem dL_law_2752 : decode cL_law 2752 = .ok (.iaload, 1) := by decide +kernel
theorem dL_law_2753 : decode cL_law 2753 = .ok (.invokevirtual 324, 3) := by decide +kernel
theorem dL_law_2756 : decode cL_law 2756 = .ok (.istore 7, 2) := by decide +kernel
theorem dL_law_2758 : decode cL_law 2758 = .ok (.aload_n 2, 1) := by decide +kernel
theorem dL_law_2759 : decode cL_law 2759 = .ok (.invokevirtual 173, 3) := by decide +kernel
theorem dL_law_2762 : decode cL_law 2762 = .ok (.iload 6, 2) := by decide +kernel
theorem dL_law_2764 : decode cL_law 2764 = .ok (.if_icmp .eq 5, 3) := by decide +kernel
theorem dL_law_2769 : decode cL_law 2769 = .ok (.iload 6, 2) := by decide +kernel
theorem dL_law_2771 : decode cL_law 2771 = .ok (.ifCond .ne 15, 3) := by decide +kernel
theorem dL_law_2786 : decode cL_law 2786 = .ok (.goto 331, 3) := by decide +kernel
theorem dL_law_2789 : decode cL_law 2789 = .ok (.aload_n 1, 1) := by decide +kernel
theorem dL_law_2790 : decode cL_law 2790 = .ok (.aload_n 0, 1) := by decide +kernel
theorem dL_law_2791 : decode cL_law 2791 = .ok (.iload 5, 2) := by decide +kernel
theorem dL_law_2793 : decode cL_law 2793 = .ok (.iconst 1, 1) := by decide +kernel
theorem dL_law_2794 : decode cL_law 2794 = .ok (.iadd, 1) := by decide +kernel
theorem dL_law_2795 : decode cL_law 2795 = .ok (.iaload, 1) := by decide +kernel
theorem dL_law_2796 : decode cL_law 2796 = .ok (.i2c, 1) := by decide +kernel
theorem dL_law_2797 : decode cL_law 2797 = .ok (.aload_n 3, 1) := by decide +kernel
theorem dL_law_2798 : decode cL_law 2798 = .ok (.invokestatic 325, 3) := by decide +kernel
theorem dL_law_2801 : decode cL_law 2801 = .ok (.istore 6, 2) := by decide +kernel
theorem dL_law_2803 : decode cL_law 2803 = .ok (.aload_n 2, 1) := by decide +kernel
theorem dL_law_2804 : decode cL_law 2804 = .ok (.aload_n 0, 1) := by decide +kernel
theorem dL_law_2805 : decode cL_law 2805 = .ok (.iload 5, 2) := by decide +kernel
theorem dL_law_2807 : decode cL_law 2807 = .ok (.iconst 1, 1) := by decide +kernel
theorem dL_law_2808 : decode cL_law 2808 = .ok (.iadd, 1) := by decide +kernel
theorem dL_law_2809 : decode cL_law 2809 = .ok (.iaload, 1) := by decide +kernel
theorem dL_law_2810 : decode cL_law 2810 = .ok (.i2c, 1) := by decide +kernel
theorem dL_law_2811 : decode cL_law 2811 = .ok (.invokevirtual 328, 3) := by decide +kernel
theorem dL_law_2814 : decode cL_law 2814 = .ok (.istore 7, 2) := by decide +kernel
theorem dL_law_2816 : decode cL_law 2816 = .ok (.aload_n 2, 1) := by decide +kernel
theorem dL_law_2817 : decode cL_law 2817 = .ok (.invokevirtual 173, 3) := by decide +kernel
theorem dL_law_2820 : decode cL_law 2820 = .ok (.iload 6, 2) := by decide +kernel
theorem dL_law_2822 : decode cL_law 2822 = .ok (.if_icmp .eq 5, 3) := by decide +kernel
theorem dL_law_2827 : decode cL_law 2827 = .ok (.iload 6, 2) := by decide +kernel
theorem dL_law_2829 : decode cL_law 2829 = .ok (.ifCond .ne 15, 3) := by decide +kernel
theorem dL_law_2832 : decode cL_law 2832 = .ok (.aload_n 3, 1) := by decide +kernel
theorem dL_law_2833 : decode cL_law 2833 = .ok (.iconst 0, 1) := by decide +kernel
theorem dL_law_2834 : decode cL_law 2834 = .ok (.laload, 1) := by decide +kernel
theorem dL_law_2835 : decode cL_law 2835 = .ok (.iload 7, 2) := by decide +kernel
theorem dL_law_2837 : decode cL_law 2837 = .ok (.i2l, 1) := by decide +kernel
theorem dL_law_2838 : decode cL_law 2838 = .ok (.lcmp, 1) := by decide +kernel
theorem dL_law_2839 : decode cL_law 2839 = .ok (.ifCond .eq 5, 3) := by decide +kernel
theorem dL_law_2844 : decode cL_law 2844 = .ok (.goto 273, 3) := by decide +kernel
theorem dL_law_2847 : decode cL_law 2847 = .ok (.aload_n 1, 1) := by decide +kernel
theorem dL_law_2848 : decode cL_law 2848 = .ok (.aload_n 0, 1) := by decide +kernel
theorem dL_law_2849 : decode cL_law 2849 = .ok (.iload 5, 2) := by decide +kernel
theorem dL_law_2851 : decode cL_law 2851 = .ok (.iconst 1, 1) := by decide +kernel
theorem dL_law_2852 : decode cL_law 2852 = .ok (.iadd, 1) := by decide +kernel
theorem dL_law_2853 : decode cL_law 2853 = .ok (.iaload, 1) := by decide +kernel
theorem dL_law_2854 : decode cL_law 2854 = .ok (.aload_n 3, 1) := by decide +kernel
theorem dL_law_2855 : decode cL_law 2855 = .ok (.invokestatic 329, 3) := by decide +kernel
theorem dL_law_2858 : decode cL_law 2858 = .ok (.istore 6, 2) := by decide +kernel
theorem dL_law_2860 : decode cL_law 2860 = .ok (.aload_n 2, 1) := by decide +kernel
theorem dL_law_2861 : decode cL_law 2861 = .ok (.aload_n 0, 1) := by decide +kernel
theorem dL_law_2862 : decode cL_law 2862 = .ok (.iload 5, 2) := by decide +kernel
theorem dL_law_2864 : decode cL_law 2864 = .ok (.iconst 1, 1) := by decide +kernel
theorem dL_law_2865 : decode cL_law 2865 = .ok (.iadd, 1) := by decide +kernel
theorem dL_law_2866 : decode cL_law 2866 = .ok (.iaload, 1) := by decide +kernel
theorem dL_law_2867 : decode cL_law 2867 = .ok (.invokevirtual 331, 3) := by decide +kernel
theorem dL_law_2870 : decode cL_law 2870 = .ok (.istore 7, 2) := by decide +kernel
theorem dL_law_2872 : decode cL_law 2872 = .ok (.aload_n 2, 1) := by decide +kernel
theorem dL_law_2873 : decode cL_law 2873 = .ok (.invokevirtual 173, 3) := by decide +kernel
theorem dL_law_2876 : decode cL_law 2876 = .ok (.iload 6, 2) := by decide +kernel
theorem dL_law_2878 : decode cL_law 2878 = .ok (.if_icmp .eq 5, 3) := by decide +kernel
theorem dL_law_2883 : decode cL_law 2883 = .ok (.iload 6, 2) := by decide +kernel
theorem dL_law_2885 : decode cL_law 2885 = .ok (.ifCond .ne 15, 3) := by decide +kernel
theorem dL_law_2888 : decode cL_law 2888 = .ok (.aload_n 3, 1) := by decide +kernel
theorem dL_law_2889 : decode cL_law 2889 = .ok (.iconst 0, 1) := by decide +kernel
theorem dL_law_2890 : decode cL_law 2890 = .ok (.laload, 1) := by decide +kernel
theorem dL_law_2891 : decode cL_law 2891 = .ok (.iload 7, 2) := by decide +kernel
theorem dL_law_2893 : decode cL_law 2893 = .ok (.i2l, 1) := by decide +kernel
theorem dL_law_2894 : decode cL_law 2894 = .ok (.lcmp, 1) := by decide +kernel
theorem dL_law_2895 : decode cL_law 2895 = .ok (.ifCond .eq 5, 3) := by decide +kernel
theorem dL_law_2900 : decode cL_law 2900 = .ok (.goto 217, 3) := by decide +kernel
theorem dL_law_2903 : decode cL_law 2903 = .ok (.aload_n 1, 1) := by decide +kernel
theorem dL_law_2904 : decode cL_law 2904 = .ok (.aload_n 0, 1) := by decide +kernel
theorem dL_law_2905 : decode cL_law 2905 = .ok (.iload 5, 2) := by decide +kernel
theorem dL_law_2907 : decode cL_law 2907 = .ok (.iconst 1, 1) := by decide +kernel
theorem dL_law_2908 : decode cL_law 2908 = .ok (.iadd, 1) := by decide +kernel
theorem dL_law_2909 : decode cL_law 2909 = .ok (.iaload, 1) := by decide +kernel
theorem dL_law_2910 : decode cL_law 2910 = .ok (.aload_n 3, 1) := by decide +kernel
theorem dL_law_2911 : decode cL_law 2911 = .ok (.invokestatic 332, 3) := by decide +kernel
theorem dL_law_2914 : decode cL_law 2914 = .ok (.istore 6, 2) := by decide +kernel
theorem dL_law_2916 : decode cL_law 2916 = .ok (.aload_n 2, 1) := by decide +kernel
theorem dL_law_2917 : decode cL_law 2917 = .ok (.aload_n 0, 1) := by decide +kernel
theorem dL_law_2918 : decode cL_law 2918 = .ok (.iload 5, 2) := by decide +kernel
theorem dL_law_2920 : decode cL_law 2920 = .ok (.iconst 1, 1) := by decide +kernel
theorem dL_law_2921 : decode cL_law 2921 = .ok (.iadd, 1) := by decide +kernel
theorem dL_law_2922 : decode cL_law 2922 = .ok (.iaload, 1) := by decide +kernel
theorem dL_law_2923 : decode cL_law 2923 = .ok (.invokevirtual 334, 3) := by decide +kernel
theorem dL_law_2926 : decode cL_law 2926 = .ok (.istore 7, 2) := by decide +kernel
theorem dL_law_2928 : decode cL_law 2928 = .ok (.aload_n 2, 1) := by decide +kernel
theorem dL_law_2929 : decode cL_law 2929 = .ok (.invokevirtual 173, 3) := by decide +kernel
theorem dL_law_2932 : decode cL_law 2932 = .ok (.iload 6, 2) := by decide +kernel
theorem dL_law_2934 : decode cL_law 2934 = .ok (.if_icmp .eq 5, 3) := by decide +kernel
theorem dL_law_2939 : decode cL_law 2939 = .ok (.iload 6, 2) := by decide +kernel
theorem dL_law_2941 : decode cL_law 2941 = .ok (.ifCond .ne 15, 3) := by decide +kernel
theorem dL_law_2956 : decode cL_law 2956 = .ok (.goto 161, 3) := by decide +kernel
theorem dL_law_2959 : decode cL_law 2959 = .ok (.aload_n 1, 1) := by decide +kernel
theorem dL_law_2960 : decode cL_law 2960 = .ok (.aload 4, 2) := by decide +kernel
theorem dL_law_2962 : decode cL_law 2962 = .ok (.invokestatic 335, 3) := by decide +kernel
theorem dL_law_2965 : decode cL_law 2965 = .ok (.istore 6, 2) := by decide +kernel
theorem dL_law_2967 : decode cL_law 2967 = .ok (.aload_n 2, 1) := by decide +kernel
theorem dL_law_2968 : decode cL_law 2968 = .ok (.invokevirtual 338, 3) := by decide +kernel
theorem dL_law_2971 : decode cL_law 2971 = .ok (.fstore 7, 2) := by decide +kernel
theorem dL_law_2973 : decode cL_law 2973 = .ok (.aload_n 2, 1) := by decide +kernel
theorem dL_law_2974 : decode cL_law 2974 = .ok (.invokevirtual 173, 3) := by decide +kernel
theorem dL_law_2977 : decode cL_law 2977 = .ok (.iload 6, 2) := by decide +kernel
theorem dL_law_2979 : decode cL_law 2979 = .ok (.if_icmp .eq 5, 3) := by decide +kernel
theorem dL_law_2984 : decode cL_law 2984 = .ok (.iload 6, 2) := by decide +kernel
theorem dL_law_2986 : decode cL_law 2986 = .ok (.ifCond .ne 36, 3) := by decide +kernel
theorem dL_law_3022 : decode cL_law 3022 = .ok (.goto 95, 3) := by decide +kernel
theorem dL_law_3025 : decode cL_law 3025 = .ok (.aload_n 1, 1) := by decide +kernel
theorem dL_law_3026 : decode cL_law 3026 = .ok (.aload 4, 2) := by decide +kernel
theorem dL_law_3028 : decode cL_law 3028 = .ok (.invokestatic 339, 3) := by decide +kernel
theorem dL_law_3031 : decode cL_law 3031 = .ok (.istore 6, 2) := by decide +kernel
theorem dL_law_3033 : decode cL_law 3033 = .ok (.aload_n 2, 1) := by decide +kernel
theorem dL_law_3034 : decode cL_law 3034 = .ok (.invokevirtual 341, 3) := by decide +kernel
theorem dL_law_3037 : decode cL_law 3037 = .ok (.dstore 7, 2) := by decide +kernel
theorem dL_law_3039 : decode cL_law 3039 = .ok (.aload_n 2, 1) := by decide +kernel
theorem dL_law_3040 : decode cL_law 3040 = .ok (.invokevirtual 173, 3) := by decide +kernel
theorem dL_law_3043 : decode cL_law 3043 = .ok (.iload 6, 2) := by decide +kernel
theorem dL_law_3045 : decode cL_law 3045 = .ok (.if_icmp .eq 5, 3) := by decide +kernel
theorem dL_law_3050 : decode cL_law 3050 = .ok (.iload 6, 2) := by decide +kernel
theorem dL_law_3052 : decode cL_law 3052 = .ok (.ifCond .ne 35, 3) := by decide +kernel
theorem dL_law_3087 : decode cL_law 3087 = .ok (.goto 30, 3) := by decide +kernel
theorem dL_law_3090 : decode cL_law 3090 = .ok (.aload_n 1, 1) := by decide +kernel
theorem dL_law_3091 : decode cL_law 3091 = .ok (.invokevirtual 342, 3) := by decide +kernel
theorem dL_law_3094 : decode cL_law 3094 = .ok (.aload_n 2, 1) := by decide +kernel
theorem dL_law_3095 : decode cL_law 3095 = .ok (.invokevirtual 346, 3) := by decide +kernel
theorem dL_law_3098 : decode cL_law 3098 = .ok (.lcmp, 1) := by decide +kernel
theorem dL_law_3099 : decode cL_law 3099 = .ok (.ifCond .eq 18, 3) := by decide +kernel
theorem dL_law_3104 : decode cL_law 3104 = .ok (.aload_n 1, 1) := by decide +kernel
theorem dL_law_3105 : decode cL_law 3105 = .ok (.invokevirtual 347, 3) := by decide +kernel
theorem dL_law_3108 : decode cL_law 3108 = .ok (.aload_n 2, 1) := by decide +kernel
theorem dL_law_3109 : decode cL_law 3109 = .ok (.invokevirtual 351, 3) := by decide +kernel
theorem dL_law_3112 : decode cL_law 3112 = .ok (.if_icmp .eq 5, 3) := by decide +kernel
