/-! the law's calls, 7 -/
theorem l_344_2397 : look 344 2397 = some (.aload_n 1, 1, 0, 0, 0, 0) := by decide +kernel
theorem l_344_2398 : look 344 2398 = some (.aload_n 0, 1, 0, 0, 0, 0) := by decide +kernel
theorem l_344_2399 : look 344 2399 = some (.iload 4, 2, 0, 0, 0, 0) := by decide +kernel
theorem l_344_2401 : look 344 2401 = some (.iconst 1, 1, 0, 0, 0, 0) := by decide +kernel
theorem l_344_2402 : look 344 2402 = some (.iadd, 1, 0, 0, 0, 0) := by decide +kernel
theorem l_344_2403 : look 344 2403 = some (.iaload, 1, 0, 0, 0, 0) := by decide +kernel
theorem l_344_2404 : look 344 2404 = some (.aload_n 0, 1, 0, 0, 0, 0) := by decide +kernel
theorem l_344_2405 : look 344 2405 = some (.iload 4, 2, 0, 0, 0, 0) := by decide +kernel
theorem l_344_2407 : look 344 2407 = some (.iconst 2, 1, 0, 0, 0, 0) := by decide +kernel
theorem l_344_2408 : look 344 2408 = some (.iadd, 1, 0, 0, 0, 0) := by decide +kernel
theorem l_344_2409 : look 344 2409 = some (.iaload, 1, 0, 0, 0, 0) := by decide +kernel
theorem l_344_2410 : look 344 2410 = some (.aload_n 3, 1, 0, 0, 0, 0) := by decide +kernel
theorem l_344_2411 : look 344 2411 = some (.invokestatic 286, 3, 339, 4, 7, 1415) := by decide +kernel
theorem l_344_2414 : look 344 2414 = some (.istore 5, 2, 0, 0, 0, 0) := by decide +kernel
theorem l_344_2416 : look 344 2416 = some (.aload_n 2, 1, 0, 0, 0, 0) := by decide +kernel
theorem l_344_2417 : look 344 2417 = some (.aload_n 0, 1, 0, 0, 0, 0) := by decide +kernel
theorem l_344_2418 : look 344 2418 = some (.iload 4, 2, 0, 0, 0, 0) := by decide +kernel
theorem l_344_2420 : look 344 2420 = some (.iconst 1, 1, 0, 0, 0, 0) := by decide +kernel
theorem l_344_2421 : look 344 2421 = some (.iadd, 1, 0, 0, 0, 0) := by decide +kernel
theorem l_344_2422 : look 344 2422 = some (.iaload, 1, 0, 0, 0, 0) := by decide +kernel
theorem l_344_2423 : look 344 2423 = some (.aload_n 0, 1, 0, 0, 0, 0) := by decide +kernel
theorem l_344_2424 : look 344 2424 = some (.iload 4, 2, 0, 0, 0, 0) := by decide +kernel
theorem l_344_2426 : look 344 2426 = some (.iconst 2, 1, 0, 0, 0, 0) := by decide +kernel
theorem l_344_2427 : look 344 2427 = some (.iadd, 1, 0, 0, 0, 0) := by decide +kernel
theorem l_344_2428 : look 344 2428 = some (.iaload, 1, 0, 0, 0, 0) := by decide +kernel
theorem l_344_2429 : look 344 2429 = some (.invokevirtual 288, 3, 286, 3, 0, 2216) := by decide +kernel
theorem l_344_2432 : look 344 2432 = some (.istore 6, 2, 0, 0, 0, 0) := by decide +kernel
theorem l_344_2434 : look 344 2434 = some (.aload_n 2, 1, 0, 0, 0, 0) := by decide +kernel
theorem l_344_2435 : look 344 2435 = some (.invokevirtual 153, 3, 168, 1, 0, 1730) := by decide +kernel
theorem l_344_2438 : look 344 2438 = some (.iload 5, 2, 0, 0, 0, 0) := by decide +kernel
theorem l_344_2440 : look 344 2440 = some (.if_icmp .eq 5, 3, 0, 0, 0, 0) := by decide +kernel
theorem l_344_2445 : look 344 2445 = some (.iload 5, 2, 0, 0, 0, 0) := by decide +kernel
theorem l_344_2447 : look 344 2447 = some (.ifCond .ne 15, 3, 0, 0, 0, 0) := by decide +kernel
theorem l_344_2450 : look 344 2450 = some (.aload_n 3, 1, 0, 0, 0, 0) := by decide +kernel
theorem l_344_2451 : look 344 2451 = some (.iconst 0, 1, 0, 0, 0, 0) := by decide +kernel
theorem l_344_2452 : look 344 2452 = some (.laload, 1, 0, 0, 0, 0) := by decide +kernel
theorem l_344_2453 : look 344 2453 = some (.iload 6, 2, 0, 0, 0, 0) := by decide +kernel
theorem l_344_2455 : look 344 2455 = some (.i2l, 1, 0, 0, 0, 0) := by decide +kernel
theorem l_344_2456 : look 344 2456 = some (.lcmp, 1, 0, 0, 0, 0) := by decide +kernel
theorem l_344_2457 : look 344 2457 = some (.ifCond .eq 5, 3, 0, 0, 0, 0) := by decide +kernel
theorem l_344_2462 : look 344 2462 = some (.goto 252, 3, 0, 0, 0, 0) := by decide +kernel
theorem l_344_2465 : look 344 2465 = some (.aload_n 1, 1, 0, 0, 0, 0) := by decide +kernel
theorem l_344_2466 : look 344 2466 = some (.aload_n 0, 1, 0, 0, 0, 0) := by decide +kernel
theorem l_344_2467 : look 344 2467 = some (.iload 4, 2, 0, 0, 0, 0) := by decide +kernel
theorem l_344_2469 : look 344 2469 = some (.iconst 1, 1, 0, 0, 0, 0) := by decide +kernel
theorem l_344_2470 : look 344 2470 = some (.iadd, 1, 0, 0, 0, 0) := by decide +kernel
theorem l_344_2471 : look 344 2471 = some (.iaload, 1, 0, 0, 0, 0) := by decide +kernel
theorem l_344_2472 : look 344 2472 = some (.aload_n 3, 1, 0, 0, 0, 0) := by decide +kernel
theorem l_344_2473 : look 344 2473 = some (.invokestatic 289, 3, 340, 3, 7, 1422) := by decide +kernel
theorem l_344_2476 : look 344 2476 = some (.istore 5, 2, 0, 0, 0, 0) := by decide +kernel
theorem l_344_2478 : look 344 2478 = some (.aload_n 2, 1, 0, 0, 0, 0) := by decide +kernel
theorem l_344_2479 : look 344 2479 = some (.aload_n 0, 1, 0, 0, 0, 0) := by decide +kernel
theorem l_344_2480 : look 344 2480 = some (.iload 4, 2, 0, 0, 0, 0) := by decide +kernel
theorem l_344_2482 : look 344 2482 = some (.iconst 1, 1, 0, 0, 0, 0) := by decide +kernel
theorem l_344_2483 : look 344 2483 = some (.iadd, 1, 0, 0, 0, 0) := by decide +kernel
theorem l_344_2484 : look 344 2484 = some (.iaload, 1, 0, 0, 0, 0) := by decide +kernel
theorem l_344_2485 : look 344 2485 = some (.invokevirtual 291, 3, 287, 2, 0, 2220) := by decide +kernel
theorem l_344_2488 : look 344 2488 = some (.istore 6, 2, 0, 0, 0, 0) := by decide +kernel
theorem l_344_2490 : look 344 2490 = some (.aload_n 2, 1, 0, 0, 0, 0) := by decide +kernel
theorem l_344_2491 : look 344 2491 = some (.invokevirtual 153, 3, 168, 1, 0, 1730) := by decide +kernel
theorem l_344_2494 : look 344 2494 = some (.iload 5, 2, 0, 0, 0, 0) := by decide +kernel
theorem l_344_2496 : look 344 2496 = some (.if_icmp .eq 5, 3, 0, 0, 0, 0) := by decide +kernel
theorem l_344_2501 : look 344 2501 = some (.iload 5, 2, 0, 0, 0, 0) := by decide +kernel
theorem l_344_2503 : look 344 2503 = some (.ifCond .ne 15, 3, 0, 0, 0, 0) := by decide +kernel
theorem l_344_2506 : look 344 2506 = some (.aload_n 3, 1, 0, 0, 0, 0) := by decide +kernel
theorem l_344_2507 : look 344 2507 = some (.iconst 0, 1, 0, 0, 0, 0) := by decide +kernel
theorem l_344_2508 : look 344 2508 = some (.laload, 1, 0, 0, 0, 0) := by decide +kernel
theorem l_344_2509 : look 344 2509 = some (.iload 6, 2, 0, 0, 0, 0) := by decide +kernel
theorem l_344_2511 : look 344 2511 = some (.i2l, 1, 0, 0, 0, 0) := by decide +kernel
theorem l_344_2512 : look 344 2512 = some (.lcmp, 1, 0, 0, 0, 0) := by decide +kernel
theorem l_344_2513 : look 344 2513 = some (.ifCond .eq 5, 3, 0, 0, 0, 0) := by decide +kernel
theorem l_344_2518 : look 344 2518 = some (.goto 196, 3, 0, 0, 0, 0) := by decide +kernel
theorem l_344_2521 : look 344 2521 = some (.aload_n 1, 1, 0, 0, 0, 0) := by decide +kernel
theorem l_344_2522 : look 344 2522 = some (.aload_n 0, 1, 0, 0, 0, 0) := by decide +kernel
theorem l_344_2523 : look 344 2523 = some (.iload 4, 2, 0, 0, 0, 0) := by decide +kernel
theorem l_344_2525 : look 344 2525 = some (.iconst 1, 1, 0, 0, 0, 0) := by decide +kernel
theorem l_344_2526 : look 344 2526 = some (.iadd, 1, 0, 0, 0, 0) := by decide +kernel
theorem l_344_2527 : look 344 2527 = some (.iaload, 1, 0, 0, 0, 0) := by decide +kernel
theorem l_344_2528 : look 344 2528 = some (.aload_n 3, 1, 0, 0, 0, 0) := by decide +kernel
theorem l_344_2529 : look 344 2529 = some (.invokestatic 292, 3, 341, 3, 7, 1437) := by decide +kernel
theorem l_344_2532 : look 344 2532 = some (.istore 5, 2, 0, 0, 0, 0) := by decide +kernel
theorem l_344_2534 : look 344 2534 = some (.aload_n 2, 1, 0, 0, 0, 0) := by decide +kernel
theorem l_344_2535 : look 344 2535 = some (.aload_n 0, 1, 0, 0, 0, 0) := by decide +kernel
theorem l_344_2536 : look 344 2536 = some (.iload 4, 2, 0, 0, 0, 0) := by decide +kernel
theorem l_344_2538 : look 344 2538 = some (.iconst 1, 1, 0, 0, 0, 0) := by decide +kernel
theorem l_344_2539 : look 344 2539 = some (.iadd, 1, 0, 0, 0, 0) := by decide +kernel
theorem l_344_2540 : look 344 2540 = some (.iaload, 1, 0, 0, 0, 0) := by decide +kernel
theorem l_344_2541 : look 344 2541 = some (.invokevirtual 294, 3, 288, 2, 0, 2224) := by decide +kernel
theorem l_344_2544 : look 344 2544 = some (.istore 6, 2, 0, 0, 0, 0) := by decide +kernel
theorem l_344_2546 : look 344 2546 = some (.aload_n 2, 1, 0, 0, 0, 0) := by decide +kernel
theorem l_344_2547 : look 344 2547 = some (.invokevirtual 153, 3, 168, 1, 0, 1730) := by decide +kernel
theorem l_344_2550 : look 344 2550 = some (.iload 5, 2, 0, 0, 0, 0) := by decide +kernel
theorem l_344_2552 : look 344 2552 = some (.if_icmp .eq 5, 3, 0, 0, 0, 0) := by decide +kernel
theorem l_344_2557 : look 344 2557 = some (.iload 5, 2, 0, 0, 0, 0) := by decide +kernel
theorem l_344_2559 : look 344 2559 = some (.ifCond .ne 15, 3, 0, 0, 0, 0) := by decide +kernel
theorem l_344_2562 : look 344 2562 = some (.aload_n 3, 1, 0, 0, 0, 0) := by decide +kernel
theorem l_344_2563 : look 344 2563 = some (.iconst 0, 1, 0, 0, 0, 0) := by decide +kernel
theorem l_344_2564 : look 344 2564 = some (.laload, 1, 0, 0, 0, 0) := by decide +kernel
theorem l_344_2565 : look 344 2565 = some (.iload 6, 2, 0, 0, 0, 0) := by decide +kernel
theorem l_344_2567 : look 344 2567 = some (.i2l, 1, 0, 0, 0, 0) := by decide +kernel
theorem l_344_2568 : look 344 2568 = some (.lcmp, 1, 0, 0, 0, 0) := by decide +kernel
theorem l_344_2569 : look 344 2569 = some (.ifCond .eq 5, 3, 0, 0, 0, 0) := by decide +kernel
theorem l_344_2574 : look 344 2574 = some (.goto 140, 3, 0, 0, 0, 0) := by decide +kernel
theorem l_344_2577 : look 344 2577 = some (.aload_n 1, 1, 0, 0, 0, 0) := by decide +kernel
theorem l_344_2578 : look 344 2578 = some (.aload_n 0, 1, 0, 0, 0, 0) := by decide +kernel
theorem l_344_2579 : look 344 2579 = some (.iload 4, 2, 0, 0, 0, 0) := by decide +kernel
theorem l_344_2581 : look 344 2581 = some (.iconst 1, 1, 0, 0, 0, 0) := by decide +kernel
theorem l_344_2582 : look 344 2582 = some (.iadd, 1, 0, 0, 0, 0) := by decide +kernel
theorem l_344_2583 : look 344 2583 = some (.iaload, 1, 0, 0, 0, 0) := by decide +kernel
theorem l_344_2584 : look 344 2584 = some (.aload_n 3, 1, 0, 0, 0, 0) := by decide +kernel
theorem l_344_2585 : look 344 2585 = some (.invokestatic 295, 3, 342, 3, 7, 1444) := by decide +kernel
theorem l_344_2588 : look 344 2588 = some (.istore 5, 2, 0, 0, 0, 0) := by decide +kernel
theorem l_344_2590 : look 344 2590 = some (.aload_n 2, 1, 0, 0, 0, 0) := by decide +kernel
theorem l_344_2591 : look 344 2591 = some (.aload_n 0, 1, 0, 0, 0, 0) := by decide +kernel
theorem l_344_2592 : look 344 2592 = some (.iload 4, 2, 0, 0, 0, 0) := by decide +kernel
theorem l_344_2594 : look 344 2594 = some (.iconst 1, 1, 0, 0, 0, 0) := by decide +kernel
theorem l_344_2595 : look 344 2595 = some (.iadd, 1, 0, 0, 0, 0) := by decide +kernel
theorem l_344_2596 : look 344 2596 = some (.iaload, 1, 0, 0, 0, 0) := by decide +kernel
theorem l_344_2597 : look 344 2597 = some (.invokevirtual 297, 3, 294, 2, 0, 2228) := by decide +kernel
theorem l_344_2600 : look 344 2600 = some (.istore 6, 2, 0, 0, 0, 0) := by decide +kernel
theorem l_344_2602 : look 344 2602 = some (.aload_n 2, 1, 0, 0, 0, 0) := by decide +kernel
theorem l_344_2603 : look 344 2603 = some (.invokevirtual 153, 3, 168, 1, 0, 1730) := by decide +kernel
theorem l_344_2606 : look 344 2606 = some (.iload 5, 2, 0, 0, 0, 0) := by decide +kernel
theorem l_344_2608 : look 344 2608 = some (.if_icmp .eq 5, 3, 0, 0, 0, 0) := by decide +kernel
theorem l_344_2613 : look 344 2613 = some (.iload 5, 2, 0, 0, 0, 0) := by decide +kernel
theorem l_344_2615 : look 344 2615 = some (.ifCond .ne 15, 3, 0, 0, 0, 0) := by decide +kernel
theorem l_344_2618 : look 344 2618 = some (.aload_n 3, 1, 0, 0, 0, 0) := by decide +kernel
theorem l_344_2619 : look 344 2619 = some (.iconst 0, 1, 0, 0, 0, 0) := by decide +kernel
theorem l_344_2620 : look 344 2620 = some (.laload, 1, 0, 0, 0, 0) := by decide +kernel
theorem l_344_2621 : look 344 2621 = some (.iload 6, 2, 0, 0, 0, 0) := by decide +kernel
theorem l_344_2623 : look 344 2623 = some (.i2l, 1, 0, 0, 0, 0) := by decide +kernel
theorem l_344_2624 : look 344 2624 = some (.lcmp, 1, 0, 0, 0, 0) := by decide +kernel
theorem l_344_2625 : look 344 2625 = some (.ifCond .eq 5, 3, 0, 0, 0, 0) := by decide +kernel
theorem l_344_2630 : look 344 2630 = some (.goto 84, 3, 0, 0, 0, 0) := by decide +kernel
theorem l_344_2633 : look 344 2633 = some (.aload_n 1, 1, 0, 0, 0, 0) := by decide +kernel
theorem l_344_2634 : look 344 2634 = some (.aload_n 0, 1, 0, 0, 0, 0) := by decide +kernel
theorem l_344_2635 : look 344 2635 = some (.iload 4, 2, 0, 0, 0, 0) := by decide +kernel
theorem l_344_2637 : look 344 2637 = some (.iconst 1, 1, 0, 0, 0, 0) := by decide +kernel
theorem l_344_2638 : look 344 2638 = some (.iadd, 1, 0, 0, 0, 0) := by decide +kernel
theorem l_344_2639 : look 344 2639 = some (.iaload, 1, 0, 0, 0, 0) := by decide +kernel
theorem l_344_2640 : look 344 2640 = some (.aload_n 3, 1, 0, 0, 0, 0) := by decide +kernel
theorem l_344_2641 : look 344 2641 = some (.invokestatic 298, 3, 343, 3, 7, 1487) := by decide +kernel
theorem l_344_2644 : look 344 2644 = some (.istore 5, 2, 0, 0, 0, 0) := by decide +kernel
theorem l_344_2646 : look 344 2646 = some (.aload_n 2, 1, 0, 0, 0, 0) := by decide +kernel
theorem l_344_2647 : look 344 2647 = some (.aload_n 0, 1, 0, 0, 0, 0) := by decide +kernel
theorem l_344_2648 : look 344 2648 = some (.iload 4, 2, 0, 0, 0, 0) := by decide +kernel
theorem l_344_2650 : look 344 2650 = some (.iconst 1, 1, 0, 0, 0, 0) := by decide +kernel
theorem l_344_2651 : look 344 2651 = some (.iadd, 1, 0, 0, 0, 0) := by decide +kernel
theorem l_344_2652 : look 344 2652 = some (.iaload, 1, 0, 0, 0, 0) := by decide +kernel
theorem l_344_2653 : look 344 2653 = some (.invokevirtual 300, 3, 295, 2, 0, 2261) := by decide +kernel
theorem l_344_2656 : look 344 2656 = some (.istore 6, 2, 0, 0, 0, 0) := by decide +kernel
theorem l_344_2658 : look 344 2658 = some (.aload_n 2, 1, 0, 0, 0, 0) := by decide +kernel
theorem l_344_2659 : look 344 2659 = some (.invokevirtual 153, 3, 168, 1, 0, 1730) := by decide +kernel
theorem l_344_2662 : look 344 2662 = some (.iload 5, 2, 0, 0, 0, 0) := by decide +kernel
theorem l_344_2664 : look 344 2664 = some (.if_icmp .eq 5, 3, 0, 0, 0, 0) := by decide +kernel
theorem l_344_2669 : look 344 2669 = some (.iload 5, 2, 0, 0, 0, 0) := by decide +kernel
theorem l_344_2671 : look 344 2671 = some (.ifCond .ne 15, 3, 0, 0, 0, 0) := by decide +kernel
theorem l_344_2674 : look 344 2674 = some (.aload_n 3, 1, 0, 0, 0, 0) := by decide +kernel
theorem l_344_2675 : look 344 2675 = some (.iconst 0, 1, 0, 0, 0, 0) := by decide +kernel
theorem l_344_2676 : look 344 2676 = some (.laload, 1, 0, 0, 0, 0) := by decide +kernel
theorem l_344_2677 : look 344 2677 = some (.iload 6, 2, 0, 0, 0, 0) := by decide +kernel
theorem l_344_2679 : look 344 2679 = some (.i2l, 1, 0, 0, 0, 0) := by decide +kernel
theorem l_344_2680 : look 344 2680 = some (.lcmp, 1, 0, 0, 0, 0) := by decide +kernel
theorem l_344_2681 : look 344 2681 = some (.ifCond .eq 5, 3, 0, 0, 0, 0) := by decide +kernel
theorem l_344_2686 : look 344 2686 = some (.goto 28, 3, 0, 0, 0, 0) := by decide +kernel
theorem l_344_2689 : look 344 2689 = some (.aload_n 1, 1, 0, 0, 0, 0) := by decide +kernel
theorem l_344_2690 : look 344 2690 = some (.aload_n 0, 1, 0, 0, 0, 0) := by decide +kernel
theorem l_344_2691 : look 344 2691 = some (.iload 4, 2, 0, 0, 0, 0) := by decide +kernel
theorem l_344_2693 : look 344 2693 = some (.iconst 1, 1, 0, 0, 0, 0) := by decide +kernel
theorem l_344_2694 : look 344 2694 = some (.iadd, 1, 0, 0, 0, 0) := by decide +kernel
theorem l_344_2695 : look 344 2695 = some (.iaload, 1, 0, 0, 0, 0) := by decide +kernel
theorem l_344_2696 : look 344 2696 = some (.invokevirtual 301, 3, 146, 2, 0, 807) := by decide +kernel
theorem l_344_2699 : look 344 2699 = some (.aload_n 2, 1, 0, 0, 0, 0) := by decide +kernel
theorem l_344_2700 : look 344 2700 = some (.aload_n 0, 1, 0, 0, 0, 0) := by decide +kernel
theorem l_344_2701 : look 344 2701 = some (.iload 4, 2, 0, 0, 0, 0) := by decide +kernel
theorem l_344_2703 : look 344 2703 = some (.iconst 1, 1, 0, 0, 0, 0) := by decide +kernel
theorem l_344_2704 : look 344 2704 = some (.iadd, 1, 0, 0, 0, 0) := by decide +kernel
theorem l_344_2705 : look 344 2705 = some (.iaload, 1, 0, 0, 0, 0) := by decide +kernel
theorem l_344_2706 : look 344 2706 = some (.invokevirtual 304, 3, 296, 2, 0, 2265) := by decide +kernel
theorem l_344_2709 : look 344 2709 = some (.if_icmp .eq 5, 3, 0, 0, 0, 0) := by decide +kernel
section LWA6
variable {xs : List Int} {S : List (Nat × Nat)} {T : Nat → Nat → Nat} {I : Ix} {cc zz s c i : Nat} {v5 v6 : AV} {Q : Res → Mem → Prop}
theorem cs_42 (IV : INV S T I s c) (hb : 1 ≤ cc ∧ 6 ≤ zz) (hc : c + 1 < 100000) (hi : i + 5 < xs.length) (hxl : xs.length ≤ 100000) (KK : KKP xs S s i cc zz c Q) : WP xs 344 35 2397 [vs 3, vr s, vr (s + 163), vr (s + 203), vi ((i : Nat) : Int), v5, v6] [] (S, I, T, cc, zz) Q := by
  have hms := oModel_sh IV.1
  have h203 := IV.2.1
  have hds := IV.sh
  refine w_aln l_344_2397 rfl ?_
  refine w_asn l_344_2398 rfl ?_
  refine w_il l_344_2399 rfl ?_
  refine w_ic l_344_2401 (by decide) ?_
  refine w_add ((i + 1 : Nat) : Int) l_344_2402 (by unfold wr; omega) ?_
  refine w_xs (i + 1) (xs.getD (i + 1) 0) l_344_2403 rfl (by omega) rfl ?_
  refine w_asn l_344_2404 rfl ?_
  refine w_il l_344_2405 rfl ?_
  refine w_ic l_344_2407 (by decide) ?_
  refine w_add ((i + 2 : Nat) : Int) l_344_2408 (by unfold wr; omega) ?_
  refine w_xs (i + 2) (xs.getD (i + 2) 0) l_344_2409 rfl (by omega) rfl ?_
  refine w_aln l_344_2410 rfl ?_
  refine w_st [vr s, vi (xs.getD (i + 1) 0), vi (xs.getD (i + 2) 0), vr (s + 203)] [] l_344_2411 (by decide) rfl rfl (Nat.le_of_ble_eq_true rfl) (by rw [mx_339]; exact Nat.le_of_ble_eq_true rfl) (by rw [rk_339]; decide) (CL_mono (pr_339 IV hb hc) fun r1 m1 hr1 => ?_)
  obtain ⟨k, I1, T1, c1, z1, rfl, rfl, hcc, hzz, hr2⟩ := hr1
  show WP xs 344 35 2414 [vs 3, vr s, vr (s + 163), vr (s + 203), vi ((i : Nat) : Int), v5, v6] [vi k] (S, I1, T1, c1, z1) Q
  refine w_is l_344_2414 ⟨Nat.le_of_ble_eq_true rfl, rfl⟩ ?_
  refine w_aln l_344_2416 rfl ?_
  refine w_asn l_344_2417 rfl ?_
  refine w_il l_344_2418 rfl ?_
  refine w_ic l_344_2420 (by decide) ?_
  refine w_add ((i + 1 : Nat) : Int) l_344_2421 (by unfold wr; omega) ?_
  refine w_xs (i + 1) (xs.getD (i + 1) 0) l_344_2422 rfl (by omega) rfl ?_
  refine w_asn l_344_2423 rfl ?_
  refine w_il l_344_2424 rfl ?_
  refine w_ic l_344_2426 (by decide) ?_
  refine w_add ((i + 2 : Nat) : Int) l_344_2427 (by unfold wr; omega) ?_
  refine w_xs (i + 2) (xs.getD (i + 2) 0) l_344_2428 rfl (by omega) rfl ?_
  refine w_iv [vi (xs.getD (i + 1) 0), vi (xs.getD (i + 2) 0)] [] l_344_2429 rfl rfl rfl (Nat.le_of_ble_eq_true rfl) (by rw [mx_286]; exact Nat.le_of_ble_eq_true rfl) (by rw [mt_286]; exact hms) (by rw [mt_286]; decide) (by rw [rk_286]; decide) (CL_mono hr2 fun r2 m2 h2 => ?_)
  obtain ⟨b, I2, c2, rfl, rfl, IV2, hc2, e0, eb, hB⟩ := h2
  show WP xs 344 35 2432 [vs 3, vr s, vr (s + 163), vr (s + 203), vi ((i : Nat) : Int), vi k, v6] [vi b] (S, I2, T1, c1, z1) Q
  refine w_is l_344_2432 ⟨Nat.le_of_ble_eq_true rfl, rfl⟩ ?_
  refine w_aln l_344_2434 rfl ?_
  refine q_iv [] [] l_344_2435 rfl rfl (Nat.le_of_ble_eq_true rfl) (by rw [mx_168]; exact Nat.le_of_ble_eq_true rfl) (by rw [mt_168]; exact oModel_sh IV2.1) (by rw [mt_168]; decide) (by rw [rk_168]; decide) (s_168 IV2.1) ?_
  refine w_il l_344_2438 rfl ?_
  refine w_ceq 2445 l_344_2440 (by decide) (fun _ => ?_) (fun hx => absurd hx (by exact fun q => q e0))
  refine w_il l_344_2445 rfl ?_
  refine w_zne 2462 l_344_2447 (by decide) (fun h1 => ?_) (fun h1 => ?_)
  · skip
    refine w_go 2714 l_344_2462 (by decide) ?_
    exact KK _ _ _ _ _ _ _ IV2 (by omega) (by omega) (by omega)
  · skip
    refine w_aln l_344_2450 rfl ?_
    refine w_ic l_344_2451 (by decide) ?_
    refine w_la 0 (I2 (s + 203) 0) l_344_2452 h203 rfl (by omega) rfl ?_
    refine w_il l_344_2453 rfl ?_
    refine w_i2l l_344_2455 ?_
    refine w_lcmp l_344_2456 ?_
    refine w_zeq 2462 l_344_2457 (by decide) (fun _ => ?_) (fun hx => absurd hx (by exact fun q => q (by rw [eb h1]; exact cmpL_rf)))
    refine w_go 2714 l_344_2462 (by decide) ?_
    exact KK _ _ _ _ _ _ _ IV2 (by omega) (by omega) (by omega)

theorem cs_43 (IV : INV S T I s c) (hb : 1 ≤ cc ∧ 6 ≤ zz) (hc : c + 1 < 100000) (hi : i + 5 < xs.length) (hxl : xs.length ≤ 100000) (KK : KKP xs S s i cc zz c Q) : WP xs 344 35 2465 [vs 3, vr s, vr (s + 163), vr (s + 203), vi ((i : Nat) : Int), v5, v6] [] (S, I, T, cc, zz) Q := by
  have hms := oModel_sh IV.1
  have h203 := IV.2.1
  have hds := IV.sh
  refine w_aln l_344_2465 rfl ?_
  refine w_asn l_344_2466 rfl ?_
  refine w_il l_344_2467 rfl ?_
  refine w_ic l_344_2469 (by decide) ?_
  refine w_add ((i + 1 : Nat) : Int) l_344_2470 (by unfold wr; omega) ?_
  refine w_xs (i + 1) (xs.getD (i + 1) 0) l_344_2471 rfl (by omega) rfl ?_
  refine w_aln l_344_2472 rfl ?_
  refine w_st [vr s, vi (xs.getD (i + 1) 0), vr (s + 203)] [] l_344_2473 (by decide) rfl rfl (Nat.le_of_ble_eq_true rfl) (by rw [mx_340]; exact Nat.le_of_ble_eq_true rfl) (by rw [rk_340]; decide) (CL_mono (pr_340 IV hb hc) fun r1 m1 hr1 => ?_)
  obtain ⟨k, I1, T1, c1, z1, rfl, rfl, hcc, hzz, hr2⟩ := hr1
  show WP xs 344 35 2476 [vs 3, vr s, vr (s + 163), vr (s + 203), vi ((i : Nat) : Int), v5, v6] [vi k] (S, I1, T1, c1, z1) Q
  refine w_is l_344_2476 ⟨Nat.le_of_ble_eq_true rfl, rfl⟩ ?_
  refine w_aln l_344_2478 rfl ?_
  refine w_asn l_344_2479 rfl ?_
  refine w_il l_344_2480 rfl ?_
  refine w_ic l_344_2482 (by decide) ?_
  refine w_add ((i + 1 : Nat) : Int) l_344_2483 (by unfold wr; omega) ?_
  refine w_xs (i + 1) (xs.getD (i + 1) 0) l_344_2484 rfl (by omega) rfl ?_
  refine w_iv [vi (xs.getD (i + 1) 0)] [] l_344_2485 rfl rfl rfl (Nat.le_of_ble_eq_true rfl) (by rw [mx_287]; exact Nat.le_of_ble_eq_true rfl) (by rw [mt_287]; exact hms) (by rw [mt_287]; decide) (by rw [rk_287]; decide) (CL_mono hr2 fun r2 m2 h2 => ?_)
  obtain ⟨b, I2, c2, rfl, rfl, IV2, hc2, e0, eb, hB⟩ := h2
  show WP xs 344 35 2488 [vs 3, vr s, vr (s + 163), vr (s + 203), vi ((i : Nat) : Int), vi k, v6] [vi b] (S, I2, T1, c1, z1) Q
  refine w_is l_344_2488 ⟨Nat.le_of_ble_eq_true rfl, rfl⟩ ?_
  refine w_aln l_344_2490 rfl ?_
  refine q_iv [] [] l_344_2491 rfl rfl (Nat.le_of_ble_eq_true rfl) (by rw [mx_168]; exact Nat.le_of_ble_eq_true rfl) (by rw [mt_168]; exact oModel_sh IV2.1) (by rw [mt_168]; decide) (by rw [rk_168]; decide) (s_168 IV2.1) ?_
  refine w_il l_344_2494 rfl ?_
  refine w_ceq 2501 l_344_2496 (by decide) (fun _ => ?_) (fun hx => absurd hx (by exact fun q => q e0))
  refine w_il l_344_2501 rfl ?_
  refine w_zne 2518 l_344_2503 (by decide) (fun h1 => ?_) (fun h1 => ?_)
  · skip
    refine w_go 2714 l_344_2518 (by decide) ?_
    exact KK _ _ _ _ _ _ _ IV2 (by omega) (by omega) (by omega)
  · skip
    refine w_aln l_344_2506 rfl ?_
    refine w_ic l_344_2507 (by decide) ?_
    refine w_la 0 (I2 (s + 203) 0) l_344_2508 h203 rfl (by omega) rfl ?_
    refine w_il l_344_2509 rfl ?_
    refine w_i2l l_344_2511 ?_
    refine w_lcmp l_344_2512 ?_
    refine w_zeq 2518 l_344_2513 (by decide) (fun _ => ?_) (fun hx => absurd hx (by exact fun q => q (by rw [eb h1]; exact cmpL_rf)))
    refine w_go 2714 l_344_2518 (by decide) ?_
    exact KK _ _ _ _ _ _ _ IV2 (by omega) (by omega) (by omega)

theorem cs_44 (IV : INV S T I s c) (hb : 1 ≤ cc ∧ 6 ≤ zz) (hc : c + 1 < 100000) (hi : i + 5 < xs.length) (hxl : xs.length ≤ 100000) (KK : KKP xs S s i cc zz c Q) : WP xs 344 35 2521 [vs 3, vr s, vr (s + 163), vr (s + 203), vi ((i : Nat) : Int), v5, v6] [] (S, I, T, cc, zz) Q := by
  have hms := oModel_sh IV.1
  have h203 := IV.2.1
  have hds := IV.sh
  refine w_aln l_344_2521 rfl ?_
  refine w_asn l_344_2522 rfl ?_
  refine w_il l_344_2523 rfl ?_
  refine w_ic l_344_2525 (by decide) ?_
  refine w_add ((i + 1 : Nat) : Int) l_344_2526 (by unfold wr; omega) ?_
  refine w_xs (i + 1) (xs.getD (i + 1) 0) l_344_2527 rfl (by omega) rfl ?_
  refine w_aln l_344_2528 rfl ?_
  refine w_st [vr s, vi (xs.getD (i + 1) 0), vr (s + 203)] [] l_344_2529 (by decide) rfl rfl (Nat.le_of_ble_eq_true rfl) (by rw [mx_341]; exact Nat.le_of_ble_eq_true rfl) (by rw [rk_341]; decide) (CL_mono (pr_341 IV hb hc) fun r1 m1 hr1 => ?_)
  obtain ⟨k, I1, T1, c1, z1, rfl, rfl, hcc, hzz, hr2⟩ := hr1
  show WP xs 344 35 2532 [vs 3, vr s, vr (s + 163), vr (s + 203), vi ((i : Nat) : Int), v5, v6] [vi k] (S, I1, T1, c1, z1) Q
  refine w_is l_344_2532 ⟨Nat.le_of_ble_eq_true rfl, rfl⟩ ?_
  refine w_aln l_344_2534 rfl ?_
  refine w_asn l_344_2535 rfl ?_
  refine w_il l_344_2536 rfl ?_
  refine w_ic l_344_2538 (by decide) ?_
  refine w_add ((i + 1 : Nat) : Int) l_344_2539 (by unfold wr; omega) ?_
  refine w_xs (i + 1) (xs.getD (i + 1) 0) l_344_2540 rfl (by omega) rfl ?_
  refine w_iv [vi (xs.getD (i + 1) 0)] [] l_344_2541 rfl rfl rfl (Nat.le_of_ble_eq_true rfl) (by rw [mx_288]; exact Nat.le_of_ble_eq_true rfl) (by rw [mt_288]; exact hms) (by rw [mt_288]; decide) (by rw [rk_288]; decide) (CL_mono hr2 fun r2 m2 h2 => ?_)
  obtain ⟨b, I2, c2, rfl, rfl, IV2, hc2, e0, eb, hB⟩ := h2
  show WP xs 344 35 2544 [vs 3, vr s, vr (s + 163), vr (s + 203), vi ((i : Nat) : Int), vi k, v6] [vi b] (S, I2, T1, c1, z1) Q
  refine w_is l_344_2544 ⟨Nat.le_of_ble_eq_true rfl, rfl⟩ ?_
  refine w_aln l_344_2546 rfl ?_
  refine q_iv [] [] l_344_2547 rfl rfl (Nat.le_of_ble_eq_true rfl) (by rw [mx_168]; exact Nat.le_of_ble_eq_true rfl) (by rw [mt_168]; exact oModel_sh IV2.1) (by rw [mt_168]; decide) (by rw [rk_168]; decide) (s_168 IV2.1) ?_
  refine w_il l_344_2550 rfl ?_
  refine w_ceq 2557 l_344_2552 (by decide) (fun _ => ?_) (fun hx => absurd hx (by exact fun q => q e0))
  refine w_il l_344_2557 rfl ?_
  refine w_zne 2574 l_344_2559 (by decide) (fun h1 => ?_) (fun h1 => ?_)
  · skip
    refine w_go 2714 l_344_2574 (by decide) ?_
    exact KK _ _ _ _ _ _ _ IV2 (by omega) (by omega) (by omega)
  · skip
    refine w_aln l_344_2562 rfl ?_
    refine w_ic l_344_2563 (by decide) ?_
    refine w_la 0 (I2 (s + 203) 0) l_344_2564 h203 rfl (by omega) rfl ?_
    refine w_il l_344_2565 rfl ?_
    refine w_i2l l_344_2567 ?_
    refine w_lcmp l_344_2568 ?_
    refine w_zeq 2574 l_344_2569 (by decide) (fun _ => ?_) (fun hx => absurd hx (by exact fun q => q (by rw [eb h1]; exact cmpL_rf)))
    refine w_go 2714 l_344_2574 (by decide) ?_
    exact KK _ _ _ _ _ _ _ IV2 (by omega) (by omega) (by omega)

theorem cs_45 (IV : INV S T I s c) (hb : 1 ≤ cc ∧ 6 ≤ zz) (hc : c + 1 < 100000) (hi : i + 5 < xs.length) (hxl : xs.length ≤ 100000) (KK : KKP xs S s i cc zz c Q) : WP xs 344 35 2577 [vs 3, vr s, vr (s + 163), vr (s + 203), vi ((i : Nat) : Int), v5, v6] [] (S, I, T, cc, zz) Q := by
  have hms := oModel_sh IV.1
  have h203 := IV.2.1
  have hds := IV.sh
  refine w_aln l_344_2577 rfl ?_
  refine w_asn l_344_2578 rfl ?_
  refine w_il l_344_2579 rfl ?_
  refine w_ic l_344_2581 (by decide) ?_
  refine w_add ((i + 1 : Nat) : Int) l_344_2582 (by unfold wr; omega) ?_
  refine w_xs (i + 1) (xs.getD (i + 1) 0) l_344_2583 rfl (by omega) rfl ?_
  refine w_aln l_344_2584 rfl ?_
  refine w_st [vr s, vi (xs.getD (i + 1) 0), vr (s + 203)] [] l_344_2585 (by decide) rfl rfl (Nat.le_of_ble_eq_true rfl) (by rw [mx_342]; exact Nat.le_of_ble_eq_true rfl) (by rw [rk_342]; decide) (CL_mono (pr_342 IV hb hc) fun r1 m1 hr1 => ?_)
  obtain ⟨k, I1, T1, c1, z1, rfl, rfl, hcc, hzz, hr2⟩ := hr1
  show WP xs 344 35 2588 [vs 3, vr s, vr (s + 163), vr (s + 203), vi ((i : Nat) : Int), v5, v6] [vi k] (S, I1, T1, c1, z1) Q
  refine w_is l_344_2588 ⟨Nat.le_of_ble_eq_true rfl, rfl⟩ ?_
  refine w_aln l_344_2590 rfl ?_
  refine w_asn l_344_2591 rfl ?_
  refine w_il l_344_2592 rfl ?_
  refine w_ic l_344_2594 (by decide) ?_
  refine w_add ((i + 1 : Nat) : Int) l_344_2595 (by unfold wr; omega) ?_
  refine w_xs (i + 1) (xs.getD (i + 1) 0) l_344_2596 rfl (by omega) rfl ?_
  refine w_iv [vi (xs.getD (i + 1) 0)] [] l_344_2597 rfl rfl rfl (Nat.le_of_ble_eq_true rfl) (by rw [mx_294]; exact Nat.le_of_ble_eq_true rfl) (by rw [mt_294]; exact hms) (by rw [mt_294]; decide) (by rw [rk_294]; decide) (CL_mono hr2 fun r2 m2 h2 => ?_)
  obtain ⟨b, I2, c2, rfl, rfl, IV2, hc2, e0, eb, hB⟩ := h2
  show WP xs 344 35 2600 [vs 3, vr s, vr (s + 163), vr (s + 203), vi ((i : Nat) : Int), vi k, v6] [vi b] (S, I2, T1, c1, z1) Q
  refine w_is l_344_2600 ⟨Nat.le_of_ble_eq_true rfl, rfl⟩ ?_
  refine w_aln l_344_2602 rfl ?_
  refine q_iv [] [] l_344_2603 rfl rfl (Nat.le_of_ble_eq_true rfl) (by rw [mx_168]; exact Nat.le_of_ble_eq_true rfl) (by rw [mt_168]; exact oModel_sh IV2.1) (by rw [mt_168]; decide) (by rw [rk_168]; decide) (s_168 IV2.1) ?_
  refine w_il l_344_2606 rfl ?_
  refine w_ceq 2613 l_344_2608 (by decide) (fun _ => ?_) (fun hx => absurd hx (by exact fun q => q e0))
  refine w_il l_344_2613 rfl ?_
  refine w_zne 2630 l_344_2615 (by decide) (fun h1 => ?_) (fun h1 => ?_)
  · skip
    refine w_go 2714 l_344_2630 (by decide) ?_
    exact KK _ _ _ _ _ _ _ IV2 (by omega) (by omega) (by omega)
  · skip
    refine w_aln l_344_2618 rfl ?_
    refine w_ic l_344_2619 (by decide) ?_
    refine w_la 0 (I2 (s + 203) 0) l_344_2620 h203 rfl (by omega) rfl ?_
    refine w_il l_344_2621 rfl ?_
    refine w_i2l l_344_2623 ?_
    refine w_lcmp l_344_2624 ?_
    refine w_zeq 2630 l_344_2625 (by decide) (fun _ => ?_) (fun hx => absurd hx (by exact fun q => q (by rw [eb h1]; exact cmpL_rf)))
    refine w_go 2714 l_344_2630 (by decide) ?_
    exact KK _ _ _ _ _ _ _ IV2 (by omega) (by omega) (by omega)

theorem cs_46 (IV : INV S T I s c) (hb : 1 ≤ cc ∧ 6 ≤ zz) (hc : c + 1 < 100000) (hi : i + 5 < xs.length) (hxl : xs.length ≤ 100000) (KK : KKP xs S s i cc zz c Q) : WP xs 344 35 2633 [vs 3, vr s, vr (s + 163), vr (s + 203), vi ((i : Nat) : Int), v5, v6] [] (S, I, T, cc, zz) Q := by
  have hms := oModel_sh IV.1
  have h203 := IV.2.1
  have hds := IV.sh
  refine w_aln l_344_2633 rfl ?_
  refine w_asn l_344_2634 rfl ?_
  refine w_il l_344_2635 rfl ?_
  refine w_ic l_344_2637 (by decide) ?_
  refine w_add ((i + 1 : Nat) : Int) l_344_2638 (by unfold wr; omega) ?_
  refine w_xs (i + 1) (xs.getD (i + 1) 0) l_344_2639 rfl (by omega) rfl ?_
  refine w_aln l_344_2640 rfl ?_
  refine w_st [vr s, vi (xs.getD (i + 1) 0), vr (s + 203)] [] l_344_2641 (by decide) rfl rfl (Nat.le_of_ble_eq_true rfl) (by rw [mx_343]; exact Nat.le_of_ble_eq_true rfl) (by rw [rk_343]; decide) (CL_mono (pr_343 IV hb hc) fun r1 m1 hr1 => ?_)
  obtain ⟨k, I1, T1, c1, z1, rfl, rfl, hcc, hzz, hr2⟩ := hr1
  show WP xs 344 35 2644 [vs 3, vr s, vr (s + 163), vr (s + 203), vi ((i : Nat) : Int), v5, v6] [vi k] (S, I1, T1, c1, z1) Q
  refine w_is l_344_2644 ⟨Nat.le_of_ble_eq_true rfl, rfl⟩ ?_
  refine w_aln l_344_2646 rfl ?_
  refine w_asn l_344_2647 rfl ?_
  refine w_il l_344_2648 rfl ?_
  refine w_ic l_344_2650 (by decide) ?_
  refine w_add ((i + 1 : Nat) : Int) l_344_2651 (by unfold wr; omega) ?_
  refine w_xs (i + 1) (xs.getD (i + 1) 0) l_344_2652 rfl (by omega) rfl ?_
  refine w_iv [vi (xs.getD (i + 1) 0)] [] l_344_2653 rfl rfl rfl (Nat.le_of_ble_eq_true rfl) (by rw [mx_295]; exact Nat.le_of_ble_eq_true rfl) (by rw [mt_295]; exact hms) (by rw [mt_295]; decide) (by rw [rk_295]; decide) (CL_mono hr2 fun r2 m2 h2 => ?_)
  obtain ⟨b, I2, c2, rfl, rfl, IV2, hc2, e0, eb, hB⟩ := h2
  show WP xs 344 35 2656 [vs 3, vr s, vr (s + 163), vr (s + 203), vi ((i : Nat) : Int), vi k, v6] [vi b] (S, I2, T1, c1, z1) Q
  refine w_is l_344_2656 ⟨Nat.le_of_ble_eq_true rfl, rfl⟩ ?_
  refine w_aln l_344_2658 rfl ?_
  refine q_iv [] [] l_344_2659 rfl rfl (Nat.le_of_ble_eq_true rfl) (by rw [mx_168]; exact Nat.le_of_ble_eq_true rfl) (by rw [mt_168]; exact oModel_sh IV2.1) (by rw [mt_168]; decide) (by rw [rk_168]; decide) (s_168 IV2.1) ?_
  refine w_il l_344_2662 rfl ?_
  refine w_ceq 2669 l_344_2664 (by decide) (fun _ => ?_) (fun hx => absurd hx (by exact fun q => q e0))
  refine w_il l_344_2669 rfl ?_
  refine w_zne 2686 l_344_2671 (by decide) (fun h1 => ?_) (fun h1 => ?_)
  · skip
    refine w_go 2714 l_344_2686 (by decide) ?_
    exact KK _ _ _ _ _ _ _ IV2 (by omega) (by omega) (by omega)
  · skip
    refine w_aln l_344_2674 rfl ?_
    refine w_ic l_344_2675 (by decide) ?_
    refine w_la 0 (I2 (s + 203) 0) l_344_2676 h203 rfl (by omega) rfl ?_
    refine w_il l_344_2677 rfl ?_
    refine w_i2l l_344_2679 ?_
    refine w_lcmp l_344_2680 ?_
    refine w_zeq 2686 l_344_2681 (by decide) (fun _ => ?_) (fun hx => absurd hx (by exact fun q => q (by rw [eb h1]; exact cmpL_rf)))
    refine w_go 2714 l_344_2686 (by decide) ?_
    exact KK _ _ _ _ _ _ _ IV2 (by omega) (by omega) (by omega)

theorem cs_47 (IV : INV S T I s c) (hb : 1 ≤ cc ∧ 6 ≤ zz) (hc : c + 1 < 100000) (hi : i + 5 < xs.length) (hxl : xs.length ≤ 100000) (KK : KKP xs S s i cc zz c Q) : WP xs 344 35 2689 [vs 3, vr s, vr (s + 163), vr (s + 203), vi ((i : Nat) : Int), v5, v6] [] (S, I, T, cc, zz) Q := by
  have hms := oModel_sh IV.1
  have h203 := IV.2.1
  have hds := IV.sh
  refine w_aln l_344_2689 rfl ?_
  refine w_asn l_344_2690 rfl ?_
  refine w_il l_344_2691 rfl ?_
  refine w_ic l_344_2693 (by decide) ?_
  refine w_add ((i + 1 : Nat) : Int) l_344_2694 (by unfold wr; omega) ?_
  refine w_xs (i + 1) (xs.getD (i + 1) 0) l_344_2695 rfl (by omega) rfl ?_
  refine w_iv [vi (xs.getD (i + 1) 0)] [] l_344_2696 rfl rfl rfl (Nat.le_of_ble_eq_true rfl) (by rw [mx_146]; exact Nat.le_of_ble_eq_true rfl) (by rw [mt_146]; exact hds) (by rw [mt_146]; decide) (by rw [rk_146]; decide) (CL_mono (py_146 IV hc) fun r1 m1 hr1 => ?_)
  obtain ⟨V, I1, rfl, rfl, hr2⟩ := hr1
  show WP xs 344 35 2699 [vs 3, vr s, vr (s + 163), vr (s + 203), vi ((i : Nat) : Int), v5, v6] [vi V] (S, I1, T, cc, zz) Q
  refine w_aln l_344_2699 rfl ?_
  refine w_asn l_344_2700 rfl ?_
  refine w_il l_344_2701 rfl ?_
  refine w_ic l_344_2703 (by decide) ?_
  refine w_add ((i + 1 : Nat) : Int) l_344_2704 (by unfold wr; omega) ?_
  refine w_xs (i + 1) (xs.getD (i + 1) 0) l_344_2705 rfl (by omega) rfl ?_
  refine w_iv [vi (xs.getD (i + 1) 0)] [vi V] l_344_2706 rfl rfl rfl (Nat.le_of_ble_eq_true rfl) (by rw [mx_296]; exact Nat.le_of_ble_eq_true rfl) (by rw [mt_296]; exact hms) (by rw [mt_296]; decide) (by rw [rk_296]; decide) (CL_mono hr2 fun r2 m2 h2 => ?_)
  obtain ⟨I2, c2, rfl, rfl, IV2, hc2⟩ := h2
  show WP xs 344 35 2709 [vs 3, vr s, vr (s + 163), vr (s + 203), vi ((i : Nat) : Int), v5, v6] [vi V, vi V] (S, I2, T, cc, zz) Q
  refine w_ceq 2714 l_344_2709 (by decide) (fun _ => ?_) (fun hx => absurd hx (by exact fun q => q rfl))
  exact KK _ _ _ _ _ _ _ IV2 (by omega) (by omega) (by omega)
end LWA6
