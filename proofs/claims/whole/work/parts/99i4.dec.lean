/-! decode rows of the law, the 4. quarter -/
theorem dL_law_2387 : decode cL_law 2387 = .ok (.aload_n 2, 1) := by decide +kernel
theorem dL_law_2388 : decode cL_law 2388 = .ok (.invokevirtual 316, 3) := by decide +kernel
theorem dL_law_2391 : decode cL_law 2391 = .ok (.if_icmp .eq 791, 3) := by decide +kernel
theorem dL_law_2396 : decode cL_law 2396 = .ok (.aload_n 1, 1) := by decide +kernel
theorem dL_law_2397 : decode cL_law 2397 = .ok (.invokevirtual 317, 3) := by decide +kernel
theorem dL_law_2400 : decode cL_law 2400 = .ok (.aload_n 2, 1) := by decide +kernel
theorem dL_law_2401 : decode cL_law 2401 = .ok (.invokevirtual 320, 3) := by decide +kernel
theorem dL_law_2404 : decode cL_law 2404 = .ok (.if_icmp .eq 778, 3) := by decide +kernel
theorem dL_law_2409 : decode cL_law 2409 = .ok (.aload_n 1, 1) := by decide +kernel
theorem dL_law_2410 : decode cL_law 2410 = .ok (.invokevirtual 321, 3) := by decide +kernel
theorem dL_law_2413 : decode cL_law 2413 = .ok (.aload_n 2, 1) := by decide +kernel
theorem dL_law_2414 : decode cL_law 2414 = .ok (.invokevirtual 324, 3) := by decide +kernel
theorem dL_law_2417 : decode cL_law 2417 = .ok (.if_icmp .eq 765, 3) := by decide +kernel
theorem dL_law_2422 : decode cL_law 2422 = .ok (.aload_n 1, 1) := by decide +kernel
theorem dL_law_2423 : decode cL_law 2423 = .ok (.invokevirtual 325, 3) := by decide +kernel
theorem dL_law_2426 : decode cL_law 2426 = .ok (.aload_n 2, 1) := by decide +kernel
theorem dL_law_2427 : decode cL_law 2427 = .ok (.invokevirtual 328, 3) := by decide +kernel
theorem dL_law_2430 : decode cL_law 2430 = .ok (.if_icmp .eq 752, 3) := by decide +kernel
theorem dL_law_2435 : decode cL_law 2435 = .ok (.aload_n 1, 1) := by decide +kernel
theorem dL_law_2436 : decode cL_law 2436 = .ok (.aload_n 0, 1) := by decide +kernel
theorem dL_law_2437 : decode cL_law 2437 = .ok (.iload 5, 2) := by decide +kernel
theorem dL_law_2439 : decode cL_law 2439 = .ok (.iconst 1, 1) := by decide +kernel
theorem dL_law_2440 : decode cL_law 2440 = .ok (.iadd, 1) := by decide +kernel
theorem dL_law_2441 : decode cL_law 2441 = .ok (.iaload, 1) := by decide +kernel
theorem dL_law_2442 : decode cL_law 2442 = .ok (.aload_n 3, 1) := by decide +kernel
theorem dL_law_2443 : decode cL_law 2443 = .ok (.invokestatic 329, 3) := by decide +kernel
theorem dL_law_2446 : decode cL_law 2446 = .ok (.istore 6, 2) := by decide +kernel
theorem dL_law_2448 : decode cL_law 2448 = .ok (.aload_n 2, 1) := by decide +kernel
theorem dL_law_2449 : decode cL_law 2449 = .ok (.aload_n 0, 1) := by decide +kernel
theorem dL_law_2450 : decode cL_law 2450 = .ok (.iload 5, 2) := by decide +kernel
theorem dL_law_2452 : decode cL_law 2452 = .ok (.iconst 1, 1) := by decide +kernel
theorem dL_law_2453 : decode cL_law 2453 = .ok (.iadd, 1) := by decide +kernel
theorem dL_law_2454 : decode cL_law 2454 = .ok (.iaload, 1) := by decide +kernel
theorem dL_law_2455 : decode cL_law 2455 = .ok (.invokevirtual 331, 3) := by decide +kernel
theorem dL_law_2458 : decode cL_law 2458 = .ok (.istore 7, 2) := by decide +kernel
theorem dL_law_2460 : decode cL_law 2460 = .ok (.aload_n 2, 1) := by decide +kernel
theorem dL_law_2461 : decode cL_law 2461 = .ok (.invokevirtual 179, 3) := by decide +kernel
theorem dL_law_2464 : decode cL_law 2464 = .ok (.iload 6, 2) := by decide +kernel
theorem dL_law_2466 : decode cL_law 2466 = .ok (.if_icmp .eq 5, 3) := by decide +kernel
theorem dL_law_2471 : decode cL_law 2471 = .ok (.iload 6, 2) := by decide +kernel
theorem dL_law_2473 : decode cL_law 2473 = .ok (.ifCond .ne 15, 3) := by decide +kernel
theorem dL_law_2476 : decode cL_law 2476 = .ok (.aload_n 3, 1) := by decide +kernel
theorem dL_law_2477 : decode cL_law 2477 = .ok (.iconst 0, 1) := by decide +kernel
theorem dL_law_2478 : decode cL_law 2478 = .ok (.laload, 1) := by decide +kernel
theorem dL_law_2479 : decode cL_law 2479 = .ok (.iload 7, 2) := by decide +kernel
theorem dL_law_2481 : decode cL_law 2481 = .ok (.i2l, 1) := by decide +kernel
theorem dL_law_2482 : decode cL_law 2482 = .ok (.lcmp, 1) := by decide +kernel
theorem dL_law_2483 : decode cL_law 2483 = .ok (.ifCond .eq 5, 3) := by decide +kernel
theorem dL_law_2488 : decode cL_law 2488 = .ok (.goto 694, 3) := by decide +kernel
theorem dL_law_2491 : decode cL_law 2491 = .ok (.aload_n 1, 1) := by decide +kernel
theorem dL_law_2492 : decode cL_law 2492 = .ok (.aload_n 0, 1) := by decide +kernel
theorem dL_law_2493 : decode cL_law 2493 = .ok (.iload 5, 2) := by decide +kernel
theorem dL_law_2495 : decode cL_law 2495 = .ok (.iconst 1, 1) := by decide +kernel
theorem dL_law_2496 : decode cL_law 2496 = .ok (.iadd, 1) := by decide +kernel
theorem dL_law_2497 : decode cL_law 2497 = .ok (.iaload, 1) := by decide +kernel
theorem dL_law_2498 : decode cL_law 2498 = .ok (.aload_n 3, 1) := by decide +kernel
theorem dL_law_2499 : decode cL_law 2499 = .ok (.invokestatic 332, 3) := by decide +kernel
theorem dL_law_2502 : decode cL_law 2502 = .ok (.istore 6, 2) := by decide +kernel
theorem dL_law_2504 : decode cL_law 2504 = .ok (.aload_n 2, 1) := by decide +kernel
theorem dL_law_2505 : decode cL_law 2505 = .ok (.aload_n 0, 1) := by decide +kernel
theorem dL_law_2506 : decode cL_law 2506 = .ok (.iload 5, 2) := by decide +kernel
theorem dL_law_2508 : decode cL_law 2508 = .ok (.iconst 1, 1) := by decide +kernel
theorem dL_law_2509 : decode cL_law 2509 = .ok (.iadd, 1) := by decide +kernel
theorem dL_law_2510 : decode cL_law 2510 = .ok (.iaload, 1) := by decide +kernel
theorem dL_law_2511 : decode cL_law 2511 = .ok (.invokevirtual 334, 3) := by decide +kernel
theorem dL_law_2514 : decode cL_law 2514 = .ok (.istore 7, 2) := by decide +kernel
theorem dL_law_2516 : decode cL_law 2516 = .ok (.aload_n 2, 1) := by decide +kernel
theorem dL_law_2517 : decode cL_law 2517 = .ok (.invokevirtual 179, 3) := by decide +kernel
theorem dL_law_2520 : decode cL_law 2520 = .ok (.iload 6, 2) := by decide +kernel
theorem dL_law_2522 : decode cL_law 2522 = .ok (.if_icmp .eq 5, 3) := by decide +kernel
theorem dL_law_2527 : decode cL_law 2527 = .ok (.iload 6, 2) := by decide +kernel
theorem dL_law_2529 : decode cL_law 2529 = .ok (.ifCond .ne 15, 3) := by decide +kernel
theorem dL_law_2532 : decode cL_law 2532 = .ok (.aload_n 3, 1) := by decide +kernel
theorem dL_law_2533 : decode cL_law 2533 = .ok (.iconst 0, 1) := by decide +kernel
theorem dL_law_2534 : decode cL_law 2534 = .ok (.laload, 1) := by decide +kernel
theorem dL_law_2535 : decode cL_law 2535 = .ok (.iload 7, 2) := by decide +kernel
theorem dL_law_2537 : decode cL_law 2537 = .ok (.i2l, 1) := by decide +kernel
theorem dL_law_2538 : decode cL_law 2538 = .ok (.lcmp, 1) := by decide +kernel
theorem dL_law_2539 : decode cL_law 2539 = .ok (.ifCond .eq 5, 3) := by decide +kernel
theorem dL_law_2544 : decode cL_law 2544 = .ok (.goto 638, 3) := by decide +kernel
theorem dL_law_2547 : decode cL_law 2547 = .ok (.aload_n 1, 1) := by decide +kernel
theorem dL_law_2548 : decode cL_law 2548 = .ok (.aload 4, 2) := by decide +kernel
theorem dL_law_2550 : decode cL_law 2550 = .ok (.invokestatic 335, 3) := by decide +kernel
theorem dL_law_2553 : decode cL_law 2553 = .ok (.istore 6, 2) := by decide +kernel
theorem dL_law_2555 : decode cL_law 2555 = .ok (.aload_n 2, 1) := by decide +kernel
theorem dL_law_2556 : decode cL_law 2556 = .ok (.invokevirtual 338, 3) := by decide +kernel
theorem dL_law_2559 : decode cL_law 2559 = .ok (.dstore 7, 2) := by decide +kernel
theorem dL_law_2561 : decode cL_law 2561 = .ok (.aload_n 2, 1) := by decide +kernel
theorem dL_law_2562 : decode cL_law 2562 = .ok (.invokevirtual 179, 3) := by decide +kernel
theorem dL_law_2565 : decode cL_law 2565 = .ok (.iload 6, 2) := by decide +kernel
theorem dL_law_2567 : decode cL_law 2567 = .ok (.if_icmp .eq 5, 3) := by decide +kernel
theorem dL_law_2572 : decode cL_law 2572 = .ok (.iload 6, 2) := by decide +kernel
theorem dL_law_2574 : decode cL_law 2574 = .ok (.ifCond .ne 35, 3) := by decide +kernel
theorem dL_law_2577 : decode cL_law 2577 = .ok (.aload 4, 2) := by decide +kernel
theorem dL_law_2579 : decode cL_law 2579 = .ok (.iconst 0, 1) := by decide +kernel
theorem dL_law_2580 : decode cL_law 2580 = .ok (.daload, 1) := by decide +kernel
theorem dL_law_2581 : decode cL_law 2581 = .ok (.dload 7, 2) := by decide +kernel
theorem dL_law_2583 : decode cL_law 2583 = .ok (.dcmp .l, 1) := by decide +kernel
theorem dL_law_2584 : decode cL_law 2584 = .ok (.ifCond .eq 25, 3) := by decide +kernel
theorem dL_law_2587 : decode cL_law 2587 = .ok (.aload 4, 2) := by decide +kernel
theorem dL_law_2589 : decode cL_law 2589 = .ok (.iconst 0, 1) := by decide +kernel
theorem dL_law_2590 : decode cL_law 2590 = .ok (.daload, 1) := by decide +kernel
theorem dL_law_2591 : decode cL_law 2591 = .ok (.aload 4, 2) := by decide +kernel
theorem dL_law_2593 : decode cL_law 2593 = .ok (.iconst 0, 1) := by decide +kernel
theorem dL_law_2594 : decode cL_law 2594 = .ok (.daload, 1) := by decide +kernel
theorem dL_law_2595 : decode cL_law 2595 = .ok (.dcmp .l, 1) := by decide +kernel
theorem dL_law_2596 : decode cL_law 2596 = .ok (.ifCond .eq 11, 3) := by decide +kernel
theorem dL_law_2599 : decode cL_law 2599 = .ok (.dload 7, 2) := by decide +kernel
theorem dL_law_2601 : decode cL_law 2601 = .ok (.dload 7, 2) := by decide +kernel
theorem dL_law_2603 : decode cL_law 2603 = .ok (.dcmp .l, 1) := by decide +kernel
theorem dL_law_2604 : decode cL_law 2604 = .ok (.ifCond .ne 5, 3) := by decide +kernel
theorem dL_law_2609 : decode cL_law 2609 = .ok (.goto 573, 3) := by decide +kernel
theorem dL_law_2612 : decode cL_law 2612 = .ok (.aload_n 1, 1) := by decide +kernel
theorem dL_law_2613 : decode cL_law 2613 = .ok (.aload 4, 2) := by decide +kernel
theorem dL_law_2615 : decode cL_law 2615 = .ok (.invokestatic 339, 3) := by decide +kernel
theorem dL_law_2618 : decode cL_law 2618 = .ok (.istore 6, 2) := by decide +kernel
theorem dL_law_2620 : decode cL_law 2620 = .ok (.aload_n 2, 1) := by decide +kernel
theorem dL_law_2621 : decode cL_law 2621 = .ok (.invokevirtual 341, 3) := by decide +kernel
theorem dL_law_2624 : decode cL_law 2624 = .ok (.fstore 7, 2) := by decide +kernel
theorem dL_law_2626 : decode cL_law 2626 = .ok (.aload_n 2, 1) := by decide +kernel
theorem dL_law_2627 : decode cL_law 2627 = .ok (.invokevirtual 179, 3) := by decide +kernel
theorem dL_law_2630 : decode cL_law 2630 = .ok (.iload 6, 2) := by decide +kernel
theorem dL_law_2632 : decode cL_law 2632 = .ok (.if_icmp .eq 5, 3) := by decide +kernel
theorem dL_law_2637 : decode cL_law 2637 = .ok (.iload 6, 2) := by decide +kernel
theorem dL_law_2639 : decode cL_law 2639 = .ok (.ifCond .ne 36, 3) := by decide +kernel
theorem dL_law_2642 : decode cL_law 2642 = .ok (.aload 4, 2) := by decide +kernel
theorem dL_law_2644 : decode cL_law 2644 = .ok (.iconst 0, 1) := by decide +kernel
theorem dL_law_2645 : decode cL_law 2645 = .ok (.daload, 1) := by decide +kernel
theorem dL_law_2646 : decode cL_law 2646 = .ok (.fload 7, 2) := by decide +kernel
theorem dL_law_2648 : decode cL_law 2648 = .ok (.f2d, 1) := by decide +kernel
theorem dL_law_2649 : decode cL_law 2649 = .ok (.dcmp .l, 1) := by decide +kernel
theorem dL_law_2650 : decode cL_law 2650 = .ok (.ifCond .eq 25, 3) := by decide +kernel
theorem dL_law_2653 : decode cL_law 2653 = .ok (.aload 4, 2) := by decide +kernel
theorem dL_law_2655 : decode cL_law 2655 = .ok (.iconst 0, 1) := by decide +kernel
theorem dL_law_2656 : decode cL_law 2656 = .ok (.daload, 1) := by decide +kernel
theorem dL_law_2657 : decode cL_law 2657 = .ok (.aload 4, 2) := by decide +kernel
theorem dL_law_2659 : decode cL_law 2659 = .ok (.iconst 0, 1) := by decide +kernel
theorem dL_law_2660 : decode cL_law 2660 = .ok (.daload, 1) := by decide +kernel
theorem dL_law_2661 : decode cL_law 2661 = .ok (.dcmp .l, 1) := by decide +kernel
theorem dL_law_2662 : decode cL_law 2662 = .ok (.ifCond .eq 11, 3) := by decide +kernel
theorem dL_law_2665 : decode cL_law 2665 = .ok (.fload 7, 2) := by decide +kernel
theorem dL_law_2667 : decode cL_law 2667 = .ok (.fload 7, 2) := by decide +kernel
theorem dL_law_2669 : decode cL_law 2669 = .ok (.fcmp .l, 1) := by decide +kernel
theorem dL_law_2670 : decode cL_law 2670 = .ok (.ifCond .ne 5, 3) := by decide +kernel
theorem dL_law_2675 : decode cL_law 2675 = .ok (.goto 507, 3) := by decide +kernel
theorem dL_law_2678 : decode cL_law 2678 = .ok (.aload_n 1, 1) := by decide +kernel
theorem dL_law_2679 : decode cL_law 2679 = .ok (.invokevirtual 342, 3) := by decide +kernel
theorem dL_law_2682 : decode cL_law 2682 = .ok (.aload_n 2, 1) := by decide +kernel
theorem dL_law_2683 : decode cL_law 2683 = .ok (.invokevirtual 346, 3) := by decide +kernel
theorem dL_law_2686 : decode cL_law 2686 = .ok (.if_icmp .eq 496, 3) := by decide +kernel
theorem dL_law_2691 : decode cL_law 2691 = .ok (.aload_n 1, 1) := by decide +kernel
theorem dL_law_2692 : decode cL_law 2692 = .ok (.aload_n 0, 1) := by decide +kernel
theorem dL_law_2693 : decode cL_law 2693 = .ok (.iload 5, 2) := by decide +kernel
theorem dL_law_2695 : decode cL_law 2695 = .ok (.iconst 1, 1) := by decide +kernel
theorem dL_law_2696 : decode cL_law 2696 = .ok (.iadd, 1) := by decide +kernel
theorem dL_law_2697 : decode cL_law 2697 = .ok (.iaload, 1) := by decide +kernel
theorem dL_law_2698 : decode cL_law 2698 = .ok (.aload_n 3, 1) := by decide +kernel
theorem dL_law_2699 : decode cL_law 2699 = .ok (.invokestatic 347, 3) := by decide +kernel
theorem dL_law_2702 : decode cL_law 2702 = .ok (.istore 6, 2) := by decide +kernel
theorem dL_law_2704 : decode cL_law 2704 = .ok (.aload_n 2, 1) := by decide +kernel
theorem dL_law_2705 : decode cL_law 2705 = .ok (.aload_n 0, 1) := by decide +kernel
theorem dL_law_2706 : decode cL_law 2706 = .ok (.iload 5, 2) := by decide +kernel
theorem dL_law_2708 : decode cL_law 2708 = .ok (.iconst 1, 1) := by decide +kernel
theorem dL_law_2709 : decode cL_law 2709 = .ok (.iadd, 1) := by decide +kernel
theorem dL_law_2710 : decode cL_law 2710 = .ok (.iaload, 1) := by decide +kernel
theorem dL_law_2711 : decode cL_law 2711 = .ok (.invokevirtual 349, 3) := by decide +kernel
theorem dL_law_2714 : decode cL_law 2714 = .ok (.istore 7, 2) := by decide +kernel
theorem dL_law_2716 : decode cL_law 2716 = .ok (.aload_n 2, 1) := by decide +kernel
theorem dL_law_2717 : decode cL_law 2717 = .ok (.invokevirtual 179, 3) := by decide +kernel
theorem dL_law_2720 : decode cL_law 2720 = .ok (.iload 6, 2) := by decide +kernel
theorem dL_law_2722 : decode cL_law 2722 = .ok (.if_icmp .eq 5, 3) := by decide +kernel
theorem dL_law_2727 : decode cL_law 2727 = .ok (.iload 6, 2) := by decide +kernel
theorem dL_law_2729 : decode cL_law 2729 = .ok (.ifCond .ne 15, 3) := by decide +kernel
theorem dL_law_2732 : decode cL_law 2732 = .ok (.aload_n 3, 1) := by decide +kernel
theorem dL_law_2733 : decode cL_law 2733 = .ok (.iconst 0, 1) := by decide +kernel
theorem dL_law_2734 : decode cL_law 2734 = .ok (.laload, 1) := by decide +kernel
theorem dL_law_2735 : decode cL_law 2735 = .ok (.iload 7, 2) := by decide +kernel
theorem dL_law_2737 : decode cL_law 2737 = .ok (.i2l, 1) := by decide +kernel
theorem dL_law_2738 : decode cL_law 2738 = .ok (.lcmp, 1) := by decide +kernel
theorem dL_law_2739 : decode cL_law 2739 = .ok (.ifCond .eq 5, 3) := by decide +kernel
theorem dL_law_2744 : decode cL_law 2744 = .ok (.goto 438, 3) := by decide +kernel
theorem dL_law_2747 : decode cL_law 2747 = .ok (.aload_n 1, 1) := by decide +kernel
theorem dL_law_2748 : decode cL_law 2748 = .ok (.aload_n 0, 1) := by decide +kernel
theorem dL_law_2749 : decode cL_law 2749 = .ok (.iload 5, 2) := by decide +kernel
theorem dL_law_2751 : decode cL_law 2751 = .ok (.iconst 1, 1) := by decide +kernel
theorem dL_law_2752 : decode cL_law 2752 = .ok (.iadd, 1) := by decide +kernel
theorem dL_law_2753 : decode cL_law 2753 = .ok (.iaload, 1) := by decide +kernel
theorem dL_law_2754 : decode cL_law 2754 = .ok (.aload_n 3, 1) := by decide +kernel
theorem dL_law_2755 : decode cL_law 2755 = .ok (.invokestatic 350, 3) := by decide +kernel
theorem dL_law_2758 : decode cL_law 2758 = .ok (.istore 6, 2) := by decide +kernel
theorem dL_law_2760 : decode cL_law 2760 = .ok (.aload_n 2, 1) := by decide +kernel
theorem dL_law_2761 : decode cL_law 2761 = .ok (.aload_n 0, 1) := by decide +kernel
theorem dL_law_2762 : decode cL_law 2762 = .ok (.iload 5, 2) := by decide +kernel
theorem dL_law_2764 : decode cL_law 2764 = .ok (.iconst 1, 1) := by decide +kernel
theorem dL_law_2765 : decode cL_law 2765 = .ok (.iadd, 1) := by decide +kernel
theorem dL_law_2766 : decode cL_law 2766 = .ok (.iaload, 1) := by decide +kernel
theorem dL_law_2767 : decode cL_law 2767 = .ok (.invokevirtual 352, 3) := by decide +kernel
theorem dL_law_2770 : decode cL_law 2770 = .ok (.istore 7, 2) := by decide +kernel
theorem dL_law_2772 : decode cL_law 2772 = .ok (.aload_n 2, 1) := by decide +kernel
theorem dL_law_2773 : decode cL_law 2773 = .ok (.invokevirtual 179, 3) := by decide +kernel
theorem dL_law_2776 : decode cL_law 2776 = .ok (.iload 6, 2) := by decide +kernel
theorem dL_law_2778 : decode cL_law 2778 = .ok (.if_icmp .eq 5, 3) := by decide +kernel
theorem dL_law_2783 : decode cL_law 2783 = .ok (.iload 6, 2) := by decide +kernel
theorem dL_law_2785 : decode cL_law 2785 = .ok (.ifCond .ne 15, 3) := by decide +kernel
theorem dL_law_2788 : decode cL_law 2788 = .ok (.aload_n 3, 1) := by decide +kernel
theorem dL_law_2789 : decode cL_law 2789 = .ok (.iconst 0, 1) := by decide +kernel
theorem dL_law_2790 : decode cL_law 2790 = .ok (.laload, 1) := by decide +kernel
theorem dL_law_2791 : decode cL_law 2791 = .ok (.iload 7, 2) := by decide +kernel
theorem dL_law_2793 : decode cL_law 2793 = .ok (.i2l, 1) := by decide +kernel
theorem dL_law_2794 : decode cL_law 2794 = .ok (.lcmp, 1) := by decide +kernel
theorem dL_law_2795 : decode cL_law 2795 = .ok (.ifCond .eq 5, 3) := by decide +kernel
theorem dL_law_2800 : decode cL_law 2800 = .ok (.goto 382, 3) := by decide +kernel
theorem dL_law_2803 : decode cL_law 2803 = .ok (.aload_n 1, 1) := by decide +kernel
theorem dL_law_2804 : decode cL_law 2804 = .ok (.aload_n 0, 1) := by decide +kernel
theorem dL_law_2805 : decode cL_law 2805 = .ok (.iload 5, 2) := by decide +kernel
theorem dL_law_2807 : decode cL_law 2807 = .ok (.iconst 1, 1) := by decide +kernel
theorem dL_law_2808 : decode cL_law 2808 = .ok (.iadd, 1) := by decide +kernel
theorem dL_law_2809 : decode cL_law 2809 = .ok (.iaload, 1) := by decide +kernel
theorem dL_law_2810 : decode cL_law 2810 = .ok (.i2c, 1) := by decide +kernel
theorem dL_law_2811 : decode cL_law 2811 = .ok (.aload_n 3, 1) := by decide +kernel
theorem dL_law_2812 : decode cL_law 2812 = .ok (.invokestatic 353, 3) := by decide +kernel
theorem dL_law_2815 : decode cL_law 2815 = .ok (.istore 6, 2) := by decide +kernel
theorem dL_law_2817 : decode cL_law 2817 = .ok (.aload_n 2, 1) := by decide +kernel
theorem dL_law_2818 : decode cL_law 2818 = .ok (.aload_n 0, 1) := by decide +kernel
theorem dL_law_2819 : decode cL_law 2819 = .ok (.iload 5, 2) := by decide +kernel
theorem dL_law_2821 : decode cL_law 2821 = .ok (.iconst 1, 1) := by decide +kernel
theorem dL_law_2822 : decode cL_law 2822 = .ok (.iadd, 1) := by decide +kernel
theorem dL_law_2823 : decode cL_law 2823 = .ok (.iaload, 1) := by decide +kernel
theorem dL_law_2824 : decode cL_law 2824 = .ok (.i2c, 1) := by decide +kernel
theorem dL_law_2825 : decode cL_law 2825 = .ok (.invokevirtual 356, 3) := by decide +kernel
theorem dL_law_2828 : decode cL_law 2828 = .ok (.istore 7, 2) := by decide +kernel
theorem dL_law_2830 : decode cL_law 2830 = .ok (.aload_n 2, 1) := by decide +kernel
theorem dL_law_2831 : decode cL_law 2831 = .ok (.invokevirtual 179, 3) := by decide +kernel
theorem dL_law_2834 : decode cL_law 2834 = .ok (.iload 6, 2) := by decide +kernel
theorem dL_law_2836 : decode cL_law 2836 = .ok (.if_icmp .eq 5, 3) := by decide +kernel
theorem dL_law_2841 : decode cL_law 2841 = .ok (.iload 6, 2) := by decide +kernel
theorem dL_law_2843 : decode cL_law 2843 = .ok (.ifCond .ne 15, 3) := by decide +kernel
theorem dL_law_2846 : decode cL_law 2846 = .ok (.aload_n 3, 1) := by decide +kernel
theorem dL_law_2847 : decode cL_law 2847 = .ok (.iconst 0, 1) := by decide +kernel
theorem dL_law_2848 : decode cL_law 2848 = .ok (.laload, 1) := by decide +kernel
theorem dL_law_2849 : decode cL_law 2849 = .ok (.iload 7, 2) := by decide +kernel
theorem dL_law_2851 : decode cL_law 2851 = .ok (.i2l, 1) := by decide +kernel
theorem dL_law_2852 : decode cL_law 2852 = .ok (.lcmp, 1) := by decide +kernel
theorem dL_law_2853 : decode cL_law 2853 = .ok (.ifCond .eq 5, 3) := by decide +kernel
theorem dL_law_2858 : decode cL_law 2858 = .ok (.goto 324, 3) := by decide +kernel
theorem dL_law_2861 : decode cL_law 2861 = .ok (.aload_n 1, 1) := by decide +kernel
theorem dL_law_2862 : decode cL_law 2862 = .ok (.aload_n 3, 1) := by decide +kernel
theorem dL_law_2863 : decode cL_law 2863 = .ok (.invokestatic 357, 3) := by decide +kernel
theorem dL_law_2866 : decode cL_law 2866 = .ok (.istore 6, 2) := by decide +kernel
theorem dL_law_2868 : decode cL_law 2868 = .ok (.aload_n 2, 1) := by decide +kernel
theorem dL_law_2869 : decode cL_law 2869 = .ok (.invokevirtual 360, 3) := by decide +kernel
theorem dL_law_2872 : decode cL_law 2872 = .ok (.istore 7, 2) := by decide +kernel
theorem dL_law_2874 : decode cL_law 2874 = .ok (.aload_n 2, 1) := by decide +kernel
theorem dL_law_2875 : decode cL_law 2875 = .ok (.invokevirtual 179, 3) := by decide +kernel
theorem dL_law_2878 : decode cL_law 2878 = .ok (.iload 6, 2) := by decide +kernel
theorem dL_law_2880 : decode cL_law 2880 = .ok (.if_icmp .eq 5, 3) := by decide +kernel
theorem dL_law_2885 : decode cL_law 2885 = .ok (.iload 6, 2) := by decide +kernel
theorem dL_law_2887 : decode cL_law 2887 = .ok (.ifCond .ne 15, 3) := by decide +kernel
theorem dL_law_2890 : decode cL_law 2890 = .ok (.aload_n 3, 1) := by decide +kernel
theorem dL_law_2891 : decode cL_law 2891 = .ok (.iconst 0, 1) := by decide +kernel
theorem dL_law_2892 : decode cL_law 2892 = .ok (.laload, 1) := by decide +kernel
theorem dL_law_2893 : decode cL_law 2893 = .ok (.iload 7, 2) := by decide +kernel
theorem dL_law_2895 : decode cL_law 2895 = .ok (.i2l, 1) := by decide +kernel
theorem dL_law_2896 : decode cL_law 2896 = .ok (.lcmp, 1) := by decide +kernel
theorem dL_law_2897 : decode cL_law 2897 = .ok (.ifCond .eq 5, 3) := by decide +kernel
theorem dL_law_2902 : decode cL_law 2902 = .ok (.goto 280, 3) := by decide +kernel
theorem dL_law_2905 : decode cL_law 2905 = .ok (.aload_n 1, 1) := by decide +kernel
theorem dL_law_2906 : decode cL_law 2906 = .ok (.aload_n 3, 1) := by decide +kernel
theorem dL_law_2907 : decode cL_law 2907 = .ok (.invokestatic 361, 3) := by decide +kernel
theorem dL_law_2910 : decode cL_law 2910 = .ok (.istore 6, 2) := by decide +kernel
theorem dL_law_2912 : decode cL_law 2912 = .ok (.aload_n 2, 1) := by decide +kernel
theorem dL_law_2913 : decode cL_law 2913 = .ok (.invokevirtual 363, 3) := by decide +kernel
theorem dL_law_2916 : decode cL_law 2916 = .ok (.istore 7, 2) := by decide +kernel
theorem dL_law_2918 : decode cL_law 2918 = .ok (.aload_n 2, 1) := by decide +kernel
theorem dL_law_2919 : decode cL_law 2919 = .ok (.invokevirtual 179, 3) := by decide +kernel
theorem dL_law_2922 : decode cL_law 2922 = .ok (.iload 6, 2) := by decide +kernel
theorem dL_law_2924 : decode cL_law 2924 = .ok (.if_icmp .eq 5, 3) := by decide +kernel
theorem dL_law_2929 : decode cL_law 2929 = .ok (.iload 6, 2) := by decide +kernel
theorem dL_law_2931 : decode cL_law 2931 = .ok (.ifCond .ne 15, 3) := by decide +kernel
theorem dL_law_2934 : decode cL_law 2934 = .ok (.aload_n 3, 1) := by decide +kernel
theorem dL_law_2935 : decode cL_law 2935 = .ok (.iconst 0, 1) := by decide +kernel
theorem dL_law_2936 : decode cL_law 2936 = .ok (.laload, 1) := by decide +kernel
theorem dL_law_2937 : decode cL_law 2937 = .ok (.iload 7, 2) := by decide +kernel
theorem dL_law_2939 : decode cL_law 2939 = .ok (.i2l, 1) := by decide +kernel
theorem dL_law_2940 : decode cL_law 2940 = .ok (.lcmp, 1) := by decide +kernel
theorem dL_law_2941 : decode cL_law 2941 = .ok (.ifCond .eq 5, 3) := by decide +kernel
theorem dL_law_2946 : decode cL_law 2946 = .ok (.goto 236, 3) := by decide +kernel
theorem dL_law_2949 : decode cL_law 2949 = .ok (.aload_n 1, 1) := by decide +kernel
theorem dL_law_2950 : decode cL_law 2950 = .ok (.aload_n 3, 1) := by decide +kernel
theorem dL_law_2951 : decode cL_law 2951 = .ok (.invokestatic 364, 3) := by decide +kernel
theorem dL_law_2954 : decode cL_law 2954 = .ok (.istore 6, 2) := by decide +kernel
theorem dL_law_2956 : decode cL_law 2956 = .ok (.aload_n 2, 1) := by decide +kernel
theorem dL_law_2957 : decode cL_law 2957 = .ok (.invokevirtual 366, 3) := by decide +kernel
theorem dL_law_2960 : decode cL_law 2960 = .ok (.istore 7, 2) := by decide +kernel
theorem dL_law_2962 : decode cL_law 2962 = .ok (.aload_n 2, 1) := by decide +kernel
theorem dL_law_2963 : decode cL_law 2963 = .ok (.invokevirtual 179, 3) := by decide +kernel
theorem dL_law_2966 : decode cL_law 2966 = .ok (.iload 6, 2) := by decide +kernel
theorem dL_law_2968 : decode cL_law 2968 = .ok (.if_icmp .eq 5, 3) := by decide +kernel
theorem dL_law_2973 : decode cL_law 2973 = .ok (.iload 6, 2) := by decide +kernel
theorem dL_law_2975 : decode cL_law 2975 = .ok (.ifCond .ne 15, 3) := by decide +kernel
theorem dL_law_2978 : decode cL_law 2978 = .ok (.aload_n 3, 1) := by decide +kernel
theorem dL_law_2979 : decode cL_law 2979 = .ok (.iconst 0, 1) := by decide +kernel
theorem dL_law_2980 : decode cL_law 2980 = .ok (.laload, 1) := by decide +kernel
theorem dL_law_2981 : decode cL_law 2981 = .ok (.iload 7, 2) := by decide +kernel
theorem dL_law_2983 : decode cL_law 2983 = .ok (.i2l, 1) := by decide +kernel
theorem dL_law_2984 : decode cL_law 2984 = .ok (.lcmp, 1) := by decide +kernel
theorem dL_law_2985 : decode cL_law 2985 = .ok (.ifCond .eq 5, 3) := by decide +kernel
theorem dL_law_2990 : decode cL_law 2990 = .ok (.goto 192, 3) := by decide +kernel
theorem dL_law_2993 : decode cL_law 2993 = .ok (.aload_n 1, 1) := by decide +kernel
theorem dL_law_2994 : decode cL_law 2994 = .ok (.aload_n 3, 1) := by decide +kernel
theorem dL_law_2995 : decode cL_law 2995 = .ok (.invokestatic 367, 3) := by decide +kernel
theorem dL_law_2998 : decode cL_law 2998 = .ok (.istore 6, 2) := by decide +kernel
theorem dL_law_3000 : decode cL_law 3000 = .ok (.aload_n 2, 1) := by decide +kernel
theorem dL_law_3001 : decode cL_law 3001 = .ok (.invokevirtual 369, 3) := by decide +kernel
theorem dL_law_3004 : decode cL_law 3004 = .ok (.istore 7, 2) := by decide +kernel
theorem dL_law_3006 : decode cL_law 3006 = .ok (.aload_n 2, 1) := by decide +kernel
theorem dL_law_3007 : decode cL_law 3007 = .ok (.invokevirtual 179, 3) := by decide +kernel
theorem dL_law_3010 : decode cL_law 3010 = .ok (.iload 6, 2) := by decide +kernel
theorem dL_law_3012 : decode cL_law 3012 = .ok (.if_icmp .eq 5, 3) := by decide +kernel
theorem dL_law_3017 : decode cL_law 3017 = .ok (.iload 6, 2) := by decide +kernel
theorem dL_law_3019 : decode cL_law 3019 = .ok (.ifCond .ne 15, 3) := by decide +kernel
theorem dL_law_3022 : decode cL_law 3022 = .ok (.aload_n 3, 1) := by decide +kernel
theorem dL_law_3023 : decode cL_law 3023 = .ok (.iconst 0, 1) := by decide +kernel
theorem dL_law_3024 : decode cL_law 3024 = .ok (.laload, 1) := by decide +kernel
theorem dL_law_3025 : decode cL_law 3025 = .ok (.iload 7, 2) := by decide +kernel
theorem dL_law_3027 : decode cL_law 3027 = .ok (.i2l, 1) := by decide +kernel
theorem dL_law_3028 : decode cL_law 3028 = .ok (.lcmp, 1) := by decide +kernel
theorem dL_law_3029 : decode cL_law 3029 = .ok (.ifCond .eq 5, 3) := by decide +kernel
theorem dL_law_3034 : decode cL_law 3034 = .ok (.goto 148, 3) := by decide +kernel
theorem dL_law_3037 : decode cL_law 3037 = .ok (.aload_n 1, 1) := by decide +kernel
theorem dL_law_3038 : decode cL_law 3038 = .ok (.aload_n 3, 1) := by decide +kernel
theorem dL_law_3039 : decode cL_law 3039 = .ok (.invokestatic 370, 3) := by decide +kernel
theorem dL_law_3042 : decode cL_law 3042 = .ok (.istore 6, 2) := by decide +kernel
theorem dL_law_3044 : decode cL_law 3044 = .ok (.aload_n 2, 1) := by decide +kernel
theorem dL_law_3045 : decode cL_law 3045 = .ok (.invokevirtual 372, 3) := by decide +kernel
theorem dL_law_3048 : decode cL_law 3048 = .ok (.istore 7, 2) := by decide +kernel
theorem dL_law_3050 : decode cL_law 3050 = .ok (.aload_n 2, 1) := by decide +kernel
theorem dL_law_3051 : decode cL_law 3051 = .ok (.invokevirtual 179, 3) := by decide +kernel
theorem dL_law_3054 : decode cL_law 3054 = .ok (.iload 6, 2) := by decide +kernel
theorem dL_law_3056 : decode cL_law 3056 = .ok (.if_icmp .eq 5, 3) := by decide +kernel
theorem dL_law_3061 : decode cL_law 3061 = .ok (.iload 6, 2) := by decide +kernel
theorem dL_law_3063 : decode cL_law 3063 = .ok (.ifCond .ne 15, 3) := by decide +kernel
theorem dL_law_3066 : decode cL_law 3066 = .ok (.aload_n 3, 1) := by decide +kernel
theorem dL_law_3067 : decode cL_law 3067 = .ok (.iconst 0, 1) := by decide +kernel
theorem dL_law_3068 : decode cL_law 3068 = .ok (.laload, 1) := by decide +kernel
theorem dL_law_3069 : decode cL_law 3069 = .ok (.iload 7, 2) := by decide +kernel
theorem dL_law_3071 : decode cL_law 3071 = .ok (.i2l, 1) := by decide +kernel
theorem dL_law_3072 : decode cL_law 3072 = .ok (.lcmp, 1) := by decide +kernel
theorem dL_law_3073 : decode cL_law 3073 = .ok (.ifCond .eq 5, 3) := by decide +kernel
theorem dL_law_3078 : decode cL_law 3078 = .ok (.goto 104, 3) := by decide +kernel
theorem dL_law_3081 : decode cL_law 3081 = .ok (.aload_n 1, 1) := by decide +kernel
theorem dL_law_3082 : decode cL_law 3082 = .ok (.aload_n 3, 1) := by decide +kernel
theorem dL_law_3083 : decode cL_law 3083 = .ok (.invokestatic 373, 3) := by decide +kernel
theorem dL_law_3086 : decode cL_law 3086 = .ok (.istore 6, 2) := by decide +kernel
theorem dL_law_3088 : decode cL_law 3088 = .ok (.aload_n 2, 1) := by decide +kernel
theorem dL_law_3089 : decode cL_law 3089 = .ok (.invokevirtual 375, 3) := by decide +kernel
theorem dL_law_3092 : decode cL_law 3092 = .ok (.istore 7, 2) := by decide +kernel
theorem dL_law_3094 : decode cL_law 3094 = .ok (.aload_n 2, 1) := by decide +kernel
theorem dL_law_3095 : decode cL_law 3095 = .ok (.invokevirtual 179, 3) := by decide +kernel
theorem dL_law_3098 : decode cL_law 3098 = .ok (.iload 6, 2) := by decide +kernel
theorem dL_law_3100 : decode cL_law 3100 = .ok (.if_icmp .eq 5, 3) := by decide +kernel
theorem dL_law_3105 : decode cL_law 3105 = .ok (.iload 6, 2) := by decide +kernel
theorem dL_law_3107 : decode cL_law 3107 = .ok (.ifCond .ne 15, 3) := by decide +kernel
theorem dL_law_3110 : decode cL_law 3110 = .ok (.aload_n 3, 1) := by decide +kernel
theorem dL_law_3111 : decode cL_law 3111 = .ok (.iconst 0, 1) := by decide +kernel
theorem dL_law_3112 : decode cL_law 3112 = .ok (.laload, 1) := by decide +kernel
theorem dL_law_3113 : decode cL_law 3113 = .ok (.iload 7, 2) := by decide +kernel
theorem dL_law_3115 : decode cL_law 3115 = .ok (.i2l, 1) := by decide +kernel
theorem dL_law_3116 : decode cL_law 3116 = .ok (.lcmp, 1) := by decide +kernel
theorem dL_law_3117 : decode cL_law 3117 = .ok (.ifCond .eq 5, 3) := by decide +kernel
theorem dL_law_3122 : decode cL_law 3122 = .ok (.goto 60, 3) := by decide +kernel
theorem dL_law_3125 : decode cL_law 3125 = .ok (.aload_n 1, 1) := by decide +kernel
theorem dL_law_3126 : decode cL_law 3126 = .ok (.invokevirtual 376, 3) := by decide +kernel
theorem dL_law_3129 : decode cL_law 3129 = .ok (.aload_n 2, 1) := by decide +kernel
theorem dL_law_3130 : decode cL_law 3130 = .ok (.invokevirtual 379, 3) := by decide +kernel
theorem dL_law_3133 : decode cL_law 3133 = .ok (.if_icmp .eq 49, 3) := by decide +kernel
theorem dL_law_3138 : decode cL_law 3138 = .ok (.aload_n 1, 1) := by decide +kernel
theorem dL_law_3139 : decode cL_law 3139 = .ok (.aload_n 3, 1) := by decide +kernel
theorem dL_law_3140 : decode cL_law 3140 = .ok (.invokestatic 380, 3) := by decide +kernel
theorem dL_law_3143 : decode cL_law 3143 = .ok (.istore 6, 2) := by decide +kernel
theorem dL_law_3145 : decode cL_law 3145 = .ok (.aload_n 2, 1) := by decide +kernel
theorem dL_law_3146 : decode cL_law 3146 = .ok (.invokevirtual 382, 3) := by decide +kernel
theorem dL_law_3149 : decode cL_law 3149 = .ok (.istore 7, 2) := by decide +kernel
theorem dL_law_3151 : decode cL_law 3151 = .ok (.aload_n 2, 1) := by decide +kernel
theorem dL_law_3152 : decode cL_law 3152 = .ok (.invokevirtual 179, 3) := by decide +kernel
theorem dL_law_3155 : decode cL_law 3155 = .ok (.iload 6, 2) := by decide +kernel
theorem dL_law_3157 : decode cL_law 3157 = .ok (.if_icmp .eq 5, 3) := by decide +kernel
theorem dL_law_3162 : decode cL_law 3162 = .ok (.iload 6, 2) := by decide +kernel
theorem dL_law_3164 : decode cL_law 3164 = .ok (.ifCond .ne 15, 3) := by decide +kernel
theorem dL_law_3167 : decode cL_law 3167 = .ok (.aload_n 3, 1) := by decide +kernel
theorem dL_law_3168 : decode cL_law 3168 = .ok (.iconst 0, 1) := by decide +kernel
theorem dL_law_3169 : decode cL_law 3169 = .ok (.laload, 1) := by decide +kernel
theorem dL_law_3170 : decode cL_law 3170 = .ok (.iload 7, 2) := by decide +kernel
theorem dL_law_3172 : decode cL_law 3172 = .ok (.i2l, 1) := by decide +kernel
theorem dL_law_3173 : decode cL_law 3173 = .ok (.lcmp, 1) := by decide +kernel
theorem dL_law_3174 : decode cL_law 3174 = .ok (.ifCond .eq 5, 3) := by decide +kernel
theorem dL_law_3179 : decode cL_law 3179 = .ok (.goto 3, 3) := by decide +kernel
theorem dL_law_3182 : decode cL_law 3182 = .ok (.iinc 5 4, 3) := by decide +kernel
theorem dL_law_3185 : decode cL_law 3185 = .ok (.goto (-3157), 3) := by decide +kernel
theorem dL_law_3188 : decode cL_law 3188 = .ok (.iconst 1, 1) := by decide +kernel
theorem dL_law_3189 : decode cL_law 3189 = .ok (.ireturn, 1) := by decide +kernel
