theorem dL_law_2420 : decode cL_law 2420 = .ok (.aload_n 1, 1) := by decide +kernel
theorem dL_law_2421 : decode cL_law 2421 = .ok (.aload_n 0, 1) := by decide +kernel
theorem dL_law_2422 : decode cL_law 2422 = .ok (.iload 5, 2) := by decide +kernel
theorem dL_law_2424 : decode cL_law 2424 = .ok (.iconst 1, 1) := by decide +kernel
theorem dL_law_2425 : decode cL_law 2425 = .ok (.iadd, 1) := by decide +kernel
theorem dL_law_2426 : decode cL_law 2426 = .ok (.iaload, 1) := by decide +kernel
theorem dL_law_2427 : decode cL_law 2427 = .ok (.aload_n 0, 1) := by decide +kernel
theorem dL_law_2428 : decode cL_law 2428 = .ok (.iload 5, 2) := by decide +kernel
theorem dL_law_2430 : decode cL_law 2430 = .ok (.iconst 2, 1) := by decide +kernel
theorem dL_law_2431 : decode cL_law 2431 = .ok (.iadd, 1) := by decide +kernel
theorem dL_law_2432 : decode cL_law 2432 = .ok (.iaload, 1) := by decide +kernel
theorem dL_law_2433 : decode cL_law 2433 = .ok (.aload_n 3, 1) := by decide +kernel
theorem dL_law_2434 : decode cL_law 2434 = .ok (.invokestatic 291, 3) := by decide +kernel
theorem dL_law_2437 : decode cL_law 2437 = .ok (.istore 6, 2) := by decide +kernel
theorem dL_law_2439 : decode cL_law 2439 = .ok (.aload_n 2, 1) := by decide +kernel
theorem dL_law_2440 : decode cL_law 2440 = .ok (.aload_n 0, 1) := by decide +kernel
theorem dL_law_2441 : decode cL_law 2441 = .ok (.iload 5, 2) := by decide +kernel
theorem dL_law_2443 : decode cL_law 2443 = .ok (.iconst 1, 1) := by decide +kernel
theorem dL_law_2444 : decode cL_law 2444 = .ok (.iadd, 1) := by decide +kernel
theorem dL_law_2445 : decode cL_law 2445 = .ok (.iaload, 1) := by decide +kernel
theorem dL_law_2446 : decode cL_law 2446 = .ok (.aload_n 0, 1) := by decide +kernel
theorem dL_law_2447 : decode cL_law 2447 = .ok (.iload 5, 2) := by decide +kernel
theorem dL_law_2449 : decode cL_law 2449 = .ok (.iconst 2, 1) := by decide +kernel
theorem dL_law_2450 : decode cL_law 2450 = .ok (.iadd, 1) := by decide +kernel
theorem dL_law_2451 : decode cL_law 2451 = .ok (.iaload, 1) := by decide +kernel
theorem dL_law_2452 : decode cL_law 2452 = .ok (.invokevirtual 293, 3) := by decide +kernel
theorem dL_law_2455 : decode cL_law 2455 = .ok (.istore 7, 2) := by decide +kernel
theorem dL_law_2457 : decode cL_law 2457 = .ok (.aload_n 2, 1) := by decide +kernel
theorem dL_law_2458 : decode cL_law 2458 = .ok (.invokevirtual 183, 3) := by decide +kernel
theorem dL_law_2461 : decode cL_law 2461 = .ok (.iload 6, 2) := by decide +kernel
theorem dL_law_2463 : decode cL_law 2463 = .ok (.if_icmp .eq 5, 3) := by decide +kernel
theorem dL_law_2468 : decode cL_law 2468 = .ok (.iload 6, 2) := by decide +kernel
theorem dL_law_2470 : decode cL_law 2470 = .ok (.ifCond .ne 15, 3) := by decide +kernel
theorem dL_law_2485 : decode cL_law 2485 = .ok (.goto 944, 3) := by decide +kernel
theorem dL_law_2488 : decode cL_law 2488 = .ok (.aload_n 1, 1) := by decide +kernel
theorem dL_law_2489 : decode cL_law 2489 = .ok (.aload_n 0, 1) := by decide +kernel
theorem dL_law_2490 : decode cL_law 2490 = .ok (.iload 5, 2) := by decide +kernel
theorem dL_law_2492 : decode cL_law 2492 = .ok (.iconst 1, 1) := by decide +kernel
theorem dL_law_2493 : decode cL_law 2493 = .ok (.iadd, 1) := by decide +kernel
theorem dL_law_2494 : decode cL_law 2494 = .ok (.iaload, 1) := by decide +kernel
theorem dL_law_2495 : decode cL_law 2495 = .ok (.aload_n 0, 1) := by decide +kernel
theorem dL_law_2496 : decode cL_law 2496 = .ok (.iload 5, 2) := by decide +kernel
theorem dL_law_2498 : decode cL_law 2498 = .ok (.iconst 2, 1) := by decide +kernel
theorem dL_law_2499 : decode cL_law 2499 = .ok (.iadd, 1) := by decide +kernel
theorem dL_law_2500 : decode cL_law 2500 = .ok (.iaload, 1) := by decide +kernel
theorem dL_law_2501 : decode cL_law 2501 = .ok (.aload_n 3, 1) := by decide +kernel
theorem dL_law_2502 : decode cL_law 2502 = .ok (.invokestatic 294, 3) := by decide +kernel
theorem dL_law_2505 : decode cL_law 2505 = .ok (.istore 6, 2) := by decide +kernel
theorem dL_law_2507 : decode cL_law 2507 = .ok (.aload_n 2, 1) := by decide +kernel
theorem dL_law_2508 : decode cL_law 2508 = .ok (.aload_n 0, 1) := by decide +kernel
theorem dL_law_2509 : decode cL_law 2509 = .ok (.iload 5, 2) := by decide +kernel
theorem dL_law_2511 : decode cL_law 2511 = .ok (.iconst 1, 1) := by decide +kernel
theorem dL_law_2512 : decode cL_law 2512 = .ok (.iadd, 1) := by decide +kernel
theorem dL_law_2513 : decode cL_law 2513 = .ok (.iaload, 1) := by decide +kernel
theorem dL_law_2514 : decode cL_law 2514 = .ok (.aload_n 0, 1) := by decide +kernel
theorem dL_law_2515 : decode cL_law 2515 = .ok (.iload 5, 2) := by decide +kernel
theorem dL_law_2517 : decode cL_law 2517 = .ok (.iconst 2, 1) := by decide +kernel
theorem dL_law_2518 : decode cL_law 2518 = .ok (.iadd, 1) := by decide +kernel
theorem dL_law_2519 : decode cL_law 2519 = .ok (.iaload, 1) := by decide +kernel
theorem dL_law_2520 : decode cL_law 2520 = .ok (.invokevirtual 296, 3) := by decide +kernel
theorem dL_law_2523 : decode cL_law 2523 = .ok (.istore 7, 2) := by decide +kernel
theorem dL_law_2525 : decode cL_law 2525 = .ok (.aload_n 2, 1) := by decide +kernel
theorem dL_law_2526 : decode cL_law 2526 = .ok (.invokevirtual 183, 3) := by decide +kernel
theorem dL_law_2529 : decode cL_law 2529 = .ok (.iload 6, 2) := by decide +kernel
theorem dL_law_2531 : decode cL_law 2531 = .ok (.if_icmp .eq 5, 3) := by decide +kernel
theorem dL_law_2536 : decode cL_law 2536 = .ok (.iload 6, 2) := by decide +kernel
theorem dL_law_2538 : decode cL_law 2538 = .ok (.ifCond .ne 15, 3) := by decide +kernel
theorem dL_law_2553 : decode cL_law 2553 = .ok (.goto 876, 3) := by decide +kernel
theorem dL_law_2556 : decode cL_law 2556 = .ok (.aload_n 1, 1) := by decide +kernel
theorem dL_law_2557 : decode cL_law 2557 = .ok (.aload_n 0, 1) := by decide +kernel
theorem dL_law_2558 : decode cL_law 2558 = .ok (.iload 5, 2) := by decide +kernel
theorem dL_law_2560 : decode cL_law 2560 = .ok (.iconst 1, 1) := by decide +kernel
theorem dL_law_2561 : decode cL_law 2561 = .ok (.iadd, 1) := by decide +kernel
theorem dL_law_2562 : decode cL_law 2562 = .ok (.iaload, 1) := by decide +kernel
theorem dL_law_2563 : decode cL_law 2563 = .ok (.aload_n 0, 1) := by decide +kernel
theorem dL_law_2564 : decode cL_law 2564 = .ok (.iload 5, 2) := by decide +kernel
theorem dL_law_2566 : decode cL_law 2566 = .ok (.iconst 2, 1) := by decide +kernel
theorem dL_law_2567 : decode cL_law 2567 = .ok (.iadd, 1) := by decide +kernel
theorem dL_law_2568 : decode cL_law 2568 = .ok (.iaload, 1) := by decide +kernel
theorem dL_law_2569 : decode cL_law 2569 = .ok (.aload_n 3, 1) := by decide +kernel
theorem dL_law_2570 : decode cL_law 2570 = .ok (.invokestatic 297, 3) := by decide +kernel
theorem dL_law_2573 : decode cL_law 2573 = .ok (.istore 6, 2) := by decide +kernel
theorem dL_law_2575 : decode cL_law 2575 = .ok (.aload_n 2, 1) := by decide +kernel
theorem dL_law_2576 : decode cL_law 2576 = .ok (.aload_n 0, 1) := by decide +kernel
theorem dL_law_2577 : decode cL_law 2577 = .ok (.iload 5, 2) := by decide +kernel
theorem dL_law_2579 : decode cL_law 2579 = .ok (.iconst 1, 1) := by decide +kernel
theorem dL_law_2580 : decode cL_law 2580 = .ok (.iadd, 1) := by decide +kernel
theorem dL_law_2581 : decode cL_law 2581 = .ok (.iaload, 1) := by decide +kernel
theorem dL_law_2582 : decode cL_law 2582 = .ok (.aload_n 0, 1) := by decide +kernel
theorem dL_law_2583 : decode cL_law 2583 = .ok (.iload 5, 2) := by decide +kernel
theorem dL_law_2585 : decode cL_law 2585 = .ok (.iconst 2, 1) := by decide +kernel
theorem dL_law_2586 : decode cL_law 2586 = .ok (.iadd, 1) := by decide +kernel
theorem dL_law_2587 : decode cL_law 2587 = .ok (.iaload, 1) := by decide +kernel
theorem dL_law_2588 : decode cL_law 2588 = .ok (.invokevirtual 299, 3) := by decide +kernel
theorem dL_law_2591 : decode cL_law 2591 = .ok (.istore 7, 2) := by decide +kernel
theorem dL_law_2593 : decode cL_law 2593 = .ok (.aload_n 2, 1) := by decide +kernel
theorem dL_law_2594 : decode cL_law 2594 = .ok (.invokevirtual 183, 3) := by decide +kernel
theorem dL_law_2597 : decode cL_law 2597 = .ok (.iload 6, 2) := by decide +kernel
theorem dL_law_2599 : decode cL_law 2599 = .ok (.if_icmp .eq 5, 3) := by decide +kernel
theorem dL_law_2604 : decode cL_law 2604 = .ok (.iload 6, 2) := by decide +kernel
theorem dL_law_2606 : decode cL_law 2606 = .ok (.ifCond .ne 15, 3) := by decide +kernel
theorem dL_law_2621 : decode cL_law 2621 = .ok (.goto 808, 3) := by decide +kernel
theorem dL_law_2624 : decode cL_law 2624 = .ok (.aload_n 1, 1) := by decide +kernel
theorem dL_law_2625 : decode cL_law 2625 = .ok (.aload_n 0, 1) := by decide +kernel
theorem dL_law_2626 : decode cL_law 2626 = .ok (.iload 5, 2) := by decide +kernel
theorem dL_law_2628 : decode cL_law 2628 = .ok (.iconst 1, 1) := by decide +kernel
theorem dL_law_2629 : decode cL_law 2629 = .ok (.iadd, 1) := by decide +kernel
theorem dL_law_2630 : decode cL_law 2630 = .ok (.iaload, 1) := by decide +kernel
theorem dL_law_2631 : decode cL_law 2631 = .ok (.aload_n 0, 1) := by decide +kernel
theorem dL_law_2632 : decode cL_law 2632 = .ok (.iload 5, 2) := by decide +kernel
theorem dL_law_2634 : decode cL_law 2634 = .ok (.iconst 2, 1) := by decide +kernel
theorem dL_law_2635 : decode cL_law 2635 = .ok (.iadd, 1) := by decide +kernel
theorem dL_law_2636 : decode cL_law 2636 = .ok (.iaload, 1) := by decide +kernel
theorem dL_law_2637 : decode cL_law 2637 = .ok (.aload_n 0, 1) := by decide +kernel
theorem dL_law_2638 : decode cL_law 2638 = .ok (.iload 5, 2) := by decide +kernel
theorem dL_law_2640 : decode cL_law 2640 = .ok (.iconst 3, 1) := by decide +kernel
theorem dL_law_2641 : decode cL_law 2641 = .ok (.iadd, 1) := by decide +kernel
theorem dL_law_2642 : decode cL_law 2642 = .ok (.iaload, 1) := by decide +kernel
theorem dL_law_2643 : decode cL_law 2643 = .ok (.aload_n 3, 1) := by decide +kernel
theorem dL_law_2644 : decode cL_law 2644 = .ok (.invokestatic 300, 3) := by decide +kernel
theorem dL_law_2647 : decode cL_law 2647 = .ok (.istore 6, 2) := by decide +kernel
theorem dL_law_2649 : decode cL_law 2649 = .ok (.aload_n 2, 1) := by decide +kernel
theorem dL_law_2650 : decode cL_law 2650 = .ok (.aload_n 0, 1) := by decide +kernel
theorem dL_law_2651 : decode cL_law 2651 = .ok (.iload 5, 2) := by decide +kernel
theorem dL_law_2653 : decode cL_law 2653 = .ok (.iconst 1, 1) := by decide +kernel
theorem dL_law_2654 : decode cL_law 2654 = .ok (.iadd, 1) := by decide +kernel
theorem dL_law_2655 : decode cL_law 2655 = .ok (.iaload, 1) := by decide +kernel
theorem dL_law_2656 : decode cL_law 2656 = .ok (.aload_n 0, 1) := by decide +kernel
theorem dL_law_2657 : decode cL_law 2657 = .ok (.iload 5, 2) := by decide +kernel
theorem dL_law_2659 : decode cL_law 2659 = .ok (.iconst 2, 1) := by decide +kernel
theorem dL_law_2660 : decode cL_law 2660 = .ok (.iadd, 1) := by decide +kernel
theorem dL_law_2661 : decode cL_law 2661 = .ok (.iaload, 1) := by decide +kernel
theorem dL_law_2662 : decode cL_law 2662 = .ok (.aload_n 0, 1) := by decide +kernel
theorem dL_law_2663 : decode cL_law 2663 = .ok (.iload 5, 2) := by decide +kernel
theorem dL_law_2665 : decode cL_law 2665 = .ok (.iconst 3, 1) := by decide +kernel
theorem dL_law_2666 : decode cL_law 2666 = .ok (.iadd, 1) := by decide +kernel
theorem dL_law_2667 : decode cL_law 2667 = .ok (.iaload, 1) := by decide +kernel
theorem dL_law_2668 : decode cL_law 2668 = .ok (.invokevirtual 302, 3) := by decide +kernel
theorem dL_law_2671 : decode cL_law 2671 = .ok (.istore 7, 2) := by decide +kernel
theorem dL_law_2673 : decode cL_law 2673 = .ok (.aload_n 2, 1) := by decide +kernel
theorem dL_law_2674 : decode cL_law 2674 = .ok (.invokevirtual 183, 3) := by decide +kernel
theorem dL_law_2677 : decode cL_law 2677 = .ok (.iload 6, 2) := by decide +kernel
theorem dL_law_2679 : decode cL_law 2679 = .ok (.if_icmp .eq 5, 3) := by decide +kernel
theorem dL_law_2684 : decode cL_law 2684 = .ok (.iload 6, 2) := by decide +kernel
theorem dL_law_2686 : decode cL_law 2686 = .ok (.ifCond .ne 15, 3) := by decide +kernel
theorem dL_law_2701 : decode cL_law 2701 = .ok (.goto 728, 3) := by decide +kernel
theorem dL_law_2704 : decode cL_law 2704 = .ok (.aload_n 1, 1) := by decide +kernel
theorem dL_law_2705 : decode cL_law 2705 = .ok (.aload_n 0, 1) := by decide +kernel
theorem dL_law_2706 : decode cL_law 2706 = .ok (.iload 5, 2) := by decide +kernel
theorem dL_law_2708 : decode cL_law 2708 = .ok (.iconst 1, 1) := by decide +kernel
theorem dL_law_2709 : decode cL_law 2709 = .ok (.iadd, 1) := by decide +kernel
theorem dL_law_2710 : decode cL_law 2710 = .ok (.iaload, 1) := by decide +kernel
theorem dL_law_2711 : decode cL_law 2711 = .ok (.aload_n 0, 1) := by decide +kernel
theorem dL_law_2712 : decode cL_law 2712 = .ok (.iload 5, 2) := by decide +kernel
theorem dL_law_2714 : decode cL_law 2714 = .ok (.iconst 2, 1) := by decide +kernel
theorem dL_law_2715 : decode cL_law 2715 = .ok (.iadd, 1) := by decide +kernel
theorem dL_law_2716 : decode cL_law 2716 = .ok (.iaload, 1) := by decide +kernel
theorem dL_law_2717 : decode cL_law 2717 = .ok (.aload_n 3, 1) := by decide +kernel
theorem dL_law_2718 : decode cL_law 2718 = .ok (.invokestatic 303, 3) := by decide +kernel
theorem dL_law_2721 : decode cL_law 2721 = .ok (.istore 6, 2) := by decide +kernel
theorem dL_law_2723 : decode cL_law 2723 = .ok (.aload_n 2, 1) := by decide +kernel
theorem dL_law_2724 : decode cL_law 2724 = .ok (.aload_n 0, 1) := by decide +kernel
theorem dL_law_2725 : decode cL_law 2725 = .ok (.iload 5, 2) := by decide +kernel
theorem dL_law_2727 : decode cL_law 2727 = .ok (.iconst 1, 1) := by decide +kernel
theorem dL_law_2728 : decode cL_law 2728 = .ok (.iadd, 1) := by decide +kernel
theorem dL_law_2729 : decode cL_law 2729 = .ok (.iaload, 1) := by decide +kernel
theorem dL_law_2730 : decode cL_law 2730 = .ok (.aload_n 0, 1) := by decide +kernel
theorem dL_law_2731 : decode cL_law 2731 = .ok (.iload 5, 2) := by decide +kernel
theorem dL_law_2733 : decode cL_law 2733 = .ok (.iconst 2, 1) := by decide +kernel
theorem dL_law_2734 : decode cL_law 2734 = .ok (.iadd, 1) := by decide +kernel
theorem dL_law_2735 : decode cL_law 2735 = .ok (.iaload, 1) := by decide +kernel
theorem dL_law_2736 : decode cL_law 2736 = .ok (.invokevirtual 305, 3) := by decide +kernel
theorem dL_law_2739 : decode cL_law 2739 = .ok (.istore 7, 2) := by decide +kernel
theorem dL_law_2741 : decode cL_law 2741 = .ok (.aload_n 2, 1) := by decide +kernel
theorem dL_law_2742 : decode cL_law 2742 = .ok (.invokevirtual 183, 3) := by decide +kernel
theorem dL_law_2745 : decode cL_law 2745 = .ok (.iload 6, 2) := by decide +kernel
theorem dL_law_2747 : decode cL_law 2747 = .ok (.if_icmp .eq 5, 3) := by decide +kernel
theorem dL_law_2752 : decode cL_law 2752 = .ok (.iload 6, 2) := by decide +kernel
theorem dL_law_2754 : decode cL_law 2754 = .ok (.ifCond .ne 15, 3) := by decide +kernel
theorem dL_law_2769 : decode cL_law 2769 = .ok (.goto 660, 3) := by decide +kernel
theorem dL_law_2772 : decode cL_law 2772 = .ok (.aload_n 1, 1) := by decide +kernel
theorem dL_law_2773 : decode cL_law 2773 = .ok (.aload_n 0, 1) := by decide +kernel
theorem dL_law_2774 : decode cL_law 2774 = .ok (.iload 5, 2) := by decide +kernel
theorem dL_law_2776 : decode cL_law 2776 = .ok (.iconst 1, 1) := by decide +kernel
theorem dL_law_2777 : decode cL_law 2777 = .ok (.iadd, 1) := by decide +kernel
theorem dL_law_2778 : decode cL_law 2778 = .ok (.iaload, 1) := by decide +kernel
theorem dL_law_2779 : decode cL_law 2779 = .ok (.aload_n 0, 1) := by decide +kernel
theorem dL_law_2780 : decode cL_law 2780 = .ok (.iload 5, 2) := by decide +kernel
theorem dL_law_2782 : decode cL_law 2782 = .ok (.iconst 2, 1) := by decide +kernel
theorem dL_law_2783 : decode cL_law 2783 = .ok (.iadd, 1) := by decide +kernel
theorem dL_law_2784 : decode cL_law 2784 = .ok (.iaload, 1) := by decide +kernel
theorem dL_law_2785 : decode cL_law 2785 = .ok (.aload_n 0, 1) := by decide +kernel
theorem dL_law_2786 : decode cL_law 2786 = .ok (.iload 5, 2) := by decide +kernel
theorem dL_law_2788 : decode cL_law 2788 = .ok (.iconst 3, 1) := by decide +kernel
theorem dL_law_2789 : decode cL_law 2789 = .ok (.iadd, 1) := by decide +kernel
theorem dL_law_2790 : decode cL_law 2790 = .ok (.iaload, 1) := by decide +kernel
theorem dL_law_2791 : decode cL_law 2791 = .ok (.aload_n 3, 1) := by decide +kernel
theorem dL_law_2792 : decode cL_law 2792 = .ok (.invokestatic 306, 3) := by decide +kernel
theorem dL_law_2795 : decode cL_law 2795 = .ok (.istore 6, 2) := by decide +kernel
theorem dL_law_2797 : decode cL_law 2797 = .ok (.aload_n 2, 1) := by decide +kernel
theorem dL_law_2798 : decode cL_law 2798 = .ok (.aload_n 0, 1) := by decide +kernel
theorem dL_law_2799 : decode cL_law 2799 = .ok (.iload 5, 2) := by decide +kernel
theorem dL_law_2801 : decode cL_law 2801 = .ok (.iconst 1, 1) := by decide +kernel
theorem dL_law_2802 : decode cL_law 2802 = .ok (.iadd, 1) := by decide +kernel
theorem dL_law_2803 : decode cL_law 2803 = .ok (.iaload, 1) := by decide +kernel
theorem dL_law_2804 : decode cL_law 2804 = .ok (.aload_n 0, 1) := by decide +kernel
theorem dL_law_2805 : decode cL_law 2805 = .ok (.iload 5, 2) := by decide +kernel
theorem dL_law_2807 : decode cL_law 2807 = .ok (.iconst 2, 1) := by decide +kernel
theorem dL_law_2808 : decode cL_law 2808 = .ok (.iadd, 1) := by decide +kernel
theorem dL_law_2809 : decode cL_law 2809 = .ok (.iaload, 1) := by decide +kernel
theorem dL_law_2810 : decode cL_law 2810 = .ok (.aload_n 0, 1) := by decide +kernel
theorem dL_law_2811 : decode cL_law 2811 = .ok (.iload 5, 2) := by decide +kernel
theorem dL_law_2813 : decode cL_law 2813 = .ok (.iconst 3, 1) := by decide +kernel
theorem dL_law_2814 : decode cL_law 2814 = .ok (.iadd, 1) := by decide +kernel
theorem dL_law_2815 : decode cL_law 2815 = .ok (.iaload, 1) := by decide +kernel
theorem dL_law_2816 : decode cL_law 2816 = .ok (.invokevirtual 308, 3) := by decide +kernel
theorem dL_law_2819 : decode cL_law 2819 = .ok (.istore 7, 2) := by decide +kernel
theorem dL_law_2821 : decode cL_law 2821 = .ok (.aload_n 2, 1) := by decide +kernel
theorem dL_law_2822 : decode cL_law 2822 = .ok (.invokevirtual 183, 3) := by decide +kernel
theorem dL_law_2825 : decode cL_law 2825 = .ok (.iload 6, 2) := by decide +kernel
theorem dL_law_2827 : decode cL_law 2827 = .ok (.if_icmp .eq 5, 3) := by decide +kernel
theorem dL_law_2832 : decode cL_law 2832 = .ok (.iload 6, 2) := by decide +kernel
theorem dL_law_2834 : decode cL_law 2834 = .ok (.ifCond .ne 15, 3) := by decide +kernel
theorem dL_law_2849 : decode cL_law 2849 = .ok (.goto 580, 3) := by decide +kernel
theorem dL_law_2920 : decode cL_law 2920 = .ok (.aload_n 1, 1) := by decide +kernel
theorem dL_law_2921 : decode cL_law 2921 = .ok (.aload_n 0, 1) := by decide +kernel
theorem dL_law_2922 : decode cL_law 2922 = .ok (.iload 5, 2) := by decide +kernel
theorem dL_law_2924 : decode cL_law 2924 = .ok (.iconst 1, 1) := by decide +kernel
theorem dL_law_2925 : decode cL_law 2925 = .ok (.iadd, 1) := by decide +kernel
theorem dL_law_2926 : decode cL_law 2926 = .ok (.iaload, 1) := by decide +kernel
theorem dL_law_2927 : decode cL_law 2927 = .ok (.aload_n 0, 1) := by decide +kernel
theorem dL_law_2928 : decode cL_law 2928 = .ok (.iload 5, 2) := by decide +kernel
theorem dL_law_2930 : decode cL_law 2930 = .ok (.iconst 2, 1) := by decide +kernel
theorem dL_law_2931 : decode cL_law 2931 = .ok (.iadd, 1) := by decide +kernel
theorem dL_law_2932 : decode cL_law 2932 = .ok (.iaload, 1) := by decide +kernel
theorem dL_law_2933 : decode cL_law 2933 = .ok (.aload_n 0, 1) := by decide +kernel
theorem dL_law_2934 : decode cL_law 2934 = .ok (.iload 5, 2) := by decide +kernel
theorem dL_law_2936 : decode cL_law 2936 = .ok (.iconst 3, 1) := by decide +kernel
theorem dL_law_2937 : decode cL_law 2937 = .ok (.iadd, 1) := by decide +kernel
theorem dL_law_2938 : decode cL_law 2938 = .ok (.iaload, 1) := by decide +kernel
theorem dL_law_2939 : decode cL_law 2939 = .ok (.aload_n 3, 1) := by decide +kernel
theorem dL_law_2940 : decode cL_law 2940 = .ok (.invokestatic 312, 3) := by decide +kernel
theorem dL_law_2943 : decode cL_law 2943 = .ok (.istore 6, 2) := by decide +kernel
theorem dL_law_2945 : decode cL_law 2945 = .ok (.aload_n 2, 1) := by decide +kernel
theorem dL_law_2946 : decode cL_law 2946 = .ok (.aload_n 0, 1) := by decide +kernel
theorem dL_law_2947 : decode cL_law 2947 = .ok (.iload 5, 2) := by decide +kernel
theorem dL_law_2949 : decode cL_law 2949 = .ok (.iconst 1, 1) := by decide +kernel
theorem dL_law_2950 : decode cL_law 2950 = .ok (.iadd, 1) := by decide +kernel
theorem dL_law_2951 : decode cL_law 2951 = .ok (.iaload, 1) := by decide +kernel
theorem dL_law_2952 : decode cL_law 2952 = .ok (.aload_n 0, 1) := by decide +kernel
theorem dL_law_2953 : decode cL_law 2953 = .ok (.iload 5, 2) := by decide +kernel
theorem dL_law_2955 : decode cL_law 2955 = .ok (.iconst 2, 1) := by decide +kernel
theorem dL_law_2956 : decode cL_law 2956 = .ok (.iadd, 1) := by decide +kernel
theorem dL_law_2957 : decode cL_law 2957 = .ok (.iaload, 1) := by decide +kernel
theorem dL_law_2958 : decode cL_law 2958 = .ok (.aload_n 0, 1) := by decide +kernel
theorem dL_law_2959 : decode cL_law 2959 = .ok (.iload 5, 2) := by decide +kernel
theorem dL_law_2961 : decode cL_law 2961 = .ok (.iconst 3, 1) := by decide +kernel
theorem dL_law_2962 : decode cL_law 2962 = .ok (.iadd, 1) := by decide +kernel
theorem dL_law_2963 : decode cL_law 2963 = .ok (.iaload, 1) := by decide +kernel
theorem dL_law_2964 : decode cL_law 2964 = .ok (.invokevirtual 314, 3) := by decide +kernel
theorem dL_law_2967 : decode cL_law 2967 = .ok (.istore 7, 2) := by decide +kernel
theorem dL_law_2969 : decode cL_law 2969 = .ok (.aload_n 2, 1) := by decide +kernel
theorem dL_law_2970 : decode cL_law 2970 = .ok (.invokevirtual 183, 3) := by decide +kernel
theorem dL_law_2973 : decode cL_law 2973 = .ok (.iload 6, 2) := by decide +kernel
theorem dL_law_2975 : decode cL_law 2975 = .ok (.if_icmp .eq 5, 3) := by decide +kernel
theorem dL_law_2980 : decode cL_law 2980 = .ok (.iload 6, 2) := by decide +kernel
theorem dL_law_2982 : decode cL_law 2982 = .ok (.ifCond .ne 15, 3) := by decide +kernel
theorem dL_law_2997 : decode cL_law 2997 = .ok (.goto 432, 3) := by decide +kernel
theorem dL_law_3000 : decode cL_law 3000 = .ok (.aload_n 1, 1) := by decide +kernel
theorem dL_law_3001 : decode cL_law 3001 = .ok (.aload_n 0, 1) := by decide +kernel
theorem dL_law_3002 : decode cL_law 3002 = .ok (.iload 5, 2) := by decide +kernel
theorem dL_law_3004 : decode cL_law 3004 = .ok (.iconst 1, 1) := by decide +kernel
theorem dL_law_3005 : decode cL_law 3005 = .ok (.iadd, 1) := by decide +kernel
theorem dL_law_3006 : decode cL_law 3006 = .ok (.iaload, 1) := by decide +kernel
theorem dL_law_3007 : decode cL_law 3007 = .ok (.aload_n 0, 1) := by decide +kernel
theorem dL_law_3008 : decode cL_law 3008 = .ok (.iload 5, 2) := by decide +kernel
theorem dL_law_3010 : decode cL_law 3010 = .ok (.iconst 2, 1) := by decide +kernel
theorem dL_law_3011 : decode cL_law 3011 = .ok (.iadd, 1) := by decide +kernel
theorem dL_law_3012 : decode cL_law 3012 = .ok (.iaload, 1) := by decide +kernel
theorem dL_law_3013 : decode cL_law 3013 = .ok (.aload_n 3, 1) := by decide +kernel
theorem dL_law_3014 : decode cL_law 3014 = .ok (.invokestatic 315, 3) := by decide +kernel
theorem dL_law_3017 : decode cL_law 3017 = .ok (.istore 6, 2) := by decide +kernel
theorem dL_law_3019 : decode cL_law 3019 = .ok (.aload_n 2, 1) := by decide +kernel
theorem dL_law_3020 : decode cL_law 3020 = .ok (.aload_n 0, 1) := by decide +kernel
theorem dL_law_3021 : decode cL_law 3021 = .ok (.iload 5, 2) := by decide +kernel
theorem dL_law_3023 : decode cL_law 3023 = .ok (.iconst 1, 1) := by decide +kernel
theorem dL_law_3024 : decode cL_law 3024 = .ok (.iadd, 1) := by decide +kernel
theorem dL_law_3025 : decode cL_law 3025 = .ok (.iaload, 1) := by decide +kernel
theorem dL_law_3026 : decode cL_law 3026 = .ok (.aload_n 0, 1) := by decide +kernel
theorem dL_law_3027 : decode cL_law 3027 = .ok (.iload 5, 2) := by decide +kernel
theorem dL_law_3029 : decode cL_law 3029 = .ok (.iconst 2, 1) := by decide +kernel
theorem dL_law_3030 : decode cL_law 3030 = .ok (.iadd, 1) := by decide +kernel
theorem dL_law_3031 : decode cL_law 3031 = .ok (.iaload, 1) := by decide +kernel
theorem dL_law_3032 : decode cL_law 3032 = .ok (.invokevirtual 317, 3) := by decide +kernel
theorem dL_law_3035 : decode cL_law 3035 = .ok (.istore 7, 2) := by decide +kernel
theorem dL_law_3037 : decode cL_law 3037 = .ok (.aload_n 2, 1) := by decide +kernel
theorem dL_law_3038 : decode cL_law 3038 = .ok (.invokevirtual 183, 3) := by decide +kernel
theorem dL_law_3041 : decode cL_law 3041 = .ok (.iload 6, 2) := by decide +kernel
theorem dL_law_3043 : decode cL_law 3043 = .ok (.if_icmp .eq 5, 3) := by decide +kernel
theorem dL_law_3048 : decode cL_law 3048 = .ok (.iload 6, 2) := by decide +kernel
theorem dL_law_3050 : decode cL_law 3050 = .ok (.ifCond .ne 15, 3) := by decide +kernel
theorem dL_law_3065 : decode cL_law 3065 = .ok (.goto 364, 3) := by decide +kernel
theorem dL_law_3135 : decode cL_law 3135 = .ok (.aload_n 1, 1) := by decide +kernel
theorem dL_law_3136 : decode cL_law 3136 = .ok (.aload_n 0, 1) := by decide +kernel
theorem dL_law_3137 : decode cL_law 3137 = .ok (.iload 5, 2) := by decide +kernel
theorem dL_law_3139 : decode cL_law 3139 = .ok (.iconst 1, 1) := by decide +kernel
theorem dL_law_3140 : decode cL_law 3140 = .ok (.iadd, 1) := by decide +kernel
theorem dL_law_3141 : decode cL_law 3141 = .ok (.iaload, 1) := by decide +kernel
theorem dL_law_3142 : decode cL_law 3142 = .ok (.aload_n 0, 1) := by decide +kernel
theorem dL_law_3143 : decode cL_law 3143 = .ok (.iload 5, 2) := by decide +kernel
theorem dL_law_3145 : decode cL_law 3145 = .ok (.iconst 2, 1) := by decide +kernel
theorem dL_law_3146 : decode cL_law 3146 = .ok (.iadd, 1) := by decide +kernel
theorem dL_law_3147 : decode cL_law 3147 = .ok (.iaload, 1) := by decide +kernel
theorem dL_law_3148 : decode cL_law 3148 = .ok (.aload_n 0, 1) := by decide +kernel
theorem dL_law_3149 : decode cL_law 3149 = .ok (.iload 5, 2) := by decide +kernel
theorem dL_law_3151 : decode cL_law 3151 = .ok (.iconst 3, 1) := by decide +kernel
theorem dL_law_3152 : decode cL_law 3152 = .ok (.iadd, 1) := by decide +kernel
theorem dL_law_3153 : decode cL_law 3153 = .ok (.iaload, 1) := by decide +kernel
theorem dL_law_3154 : decode cL_law 3154 = .ok (.aload_n 3, 1) := by decide +kernel
theorem dL_law_3155 : decode cL_law 3155 = .ok (.invokestatic 321, 3) := by decide +kernel
theorem dL_law_3158 : decode cL_law 3158 = .ok (.istore 6, 2) := by decide +kernel
theorem dL_law_3160 : decode cL_law 3160 = .ok (.aload_n 2, 1) := by decide +kernel
theorem dL_law_3161 : decode cL_law 3161 = .ok (.aload_n 0, 1) := by decide +kernel
theorem dL_law_3162 : decode cL_law 3162 = .ok (.iload 5, 2) := by decide +kernel
theorem dL_law_3164 : decode cL_law 3164 = .ok (.iconst 1, 1) := by decide +kernel
theorem dL_law_3165 : decode cL_law 3165 = .ok (.iadd, 1) := by decide +kernel
theorem dL_law_3166 : decode cL_law 3166 = .ok (.iaload, 1) := by decide +kernel
theorem dL_law_3167 : decode cL_law 3167 = .ok (.aload_n 0, 1) := by decide +kernel
theorem dL_law_3168 : decode cL_law 3168 = .ok (.iload 5, 2) := by decide +kernel
theorem dL_law_3170 : decode cL_law 3170 = .ok (.iconst 2, 1) := by decide +kernel
theorem dL_law_3171 : decode cL_law 3171 = .ok (.iadd, 1) := by decide +kernel
theorem dL_law_3172 : decode cL_law 3172 = .ok (.iaload, 1) := by decide +kernel
theorem dL_law_3173 : decode cL_law 3173 = .ok (.aload_n 0, 1) := by decide +kernel
theorem dL_law_3174 : decode cL_law 3174 = .ok (.iload 5, 2) := by decide +kernel
theorem dL_law_3176 : decode cL_law 3176 = .ok (.iconst 3, 1) := by decide +kernel
theorem dL_law_3177 : decode cL_law 3177 = .ok (.iadd, 1) := by decide +kernel
theorem dL_law_3178 : decode cL_law 3178 = .ok (.iaload, 1) := by decide +kernel
theorem dL_law_3179 : decode cL_law 3179 = .ok (.invokevirtual 323, 3) := by decide +kernel
theorem dL_law_3182 : decode cL_law 3182 = .ok (.istore 7, 2) := by decide +kernel
theorem dL_law_3184 : decode cL_law 3184 = .ok (.aload_n 2, 1) := by decide +kernel
theorem dL_law_3185 : decode cL_law 3185 = .ok (.invokevirtual 183, 3) := by decide +kernel
theorem dL_law_3188 : decode cL_law 3188 = .ok (.iload 6, 2) := by decide +kernel
theorem dL_law_3190 : decode cL_law 3190 = .ok (.if_icmp .eq 5, 3) := by decide +kernel
theorem dL_law_3195 : decode cL_law 3195 = .ok (.iload 6, 2) := by decide +kernel
theorem dL_law_3197 : decode cL_law 3197 = .ok (.ifCond .ne 15, 3) := by decide +kernel
theorem dL_law_3212 : decode cL_law 3212 = .ok (.goto 217, 3) := by decide +kernel
set_option maxHeartbeats 4000000 in
set_option maxRecDepth 100000 in
theorem law_34 {p : Program} {l : Launch} {e : Env} {s : State} {m : MethodId} {below : List Frame} {meth : Method} {c : Code} {Q : State → Prop} {b : Nat} {xs : Nat → Int32} {D : va_G} {e0 : kE} {A : Nat → Prop} (hst : l.stackTraces = false) (hx : p.tables.exec = Jvm.exec) (hb : c.code = cL_law) (hml : c.maxLocals = 9) (hts : ∀ w ∈ lw_tbl, w.before #[Value.ref b] s = true) (hown : s.vm.findClass RL = some m.cls) (hX : va_X b 5 xs s s.heap) (hbl : b < s.heap.size) (hbA : ¬ A b) {xa x1 x2 x3 x4 x5 g1 g2 g3 g4 h1 h2 h3 h4 h5 ma m1 m2 m3 m4 m5 m6 m7 m8 o1 o2 : Nat} {z1 z2 z3 z4 : ClassId}  {H : Heap} {locs : List Loc} {ls : Array Slot} (hh : kH D kStr e0 A s H (lwW e0 xa x1 x2 x3 x4 x5 g1 g2 g3 g4 h1 h2 h3 h4 h5 ma m1 m2 m3 m4 m5 m6 m7 m8 o1 o2 z1 z2 z3 z4) (lwT z1 z2 z3 z4) locs) (hl : lv_has ls 9 (lwL b xa ma o1 o2)) (kk : lwK p l e s m below meth c Q b A) : W p l e room_1 s m #[Value.ref b] below meth c H locs 100 10000 Q (F0 m 2420 ls []) := by
  have hh : kH D kStr e0 A s H [(xa, .inr (11, [.ref x1, .int 0, .ref x2, .int 0, .ref x3, .ref x4, .ref x5, .int 0])), (ma, .inr (16, [.int 0, .ref m1, .ref m2, .ref m3, .ref m4, .ref m5, .ref m6, .ref m7, .ref m8, .int 0, .int 0])), (m8, .inr (4, [.int 0, .ref e0.1, .int 0])), (o1, .inl (z3, 1, .inr (.inl (fun _ => 0))))] [(z3, .long)] _ := hh.sub [0, 5, 13, 14] [2] rfl rfl rfl
  have hl : lv_has ls 9 [(5, .int 0), (4, .ref o2), (3, .ref o1), (2, .ref ma), (1, .ref xa), (0, .ref b)] := hl
  refine lv_aload_n hx hb dL_law_2420 rfl (lv_at hl 4 rfl) ?_
  refine lv_aload_n hx hb dL_law_2421 rfl (lv_at hl 5 rfl) ?_
  refine lv_iload hx hb dL_law_2422 (lv_at hl 0 rfl) ?_
  refine lv_iconst (v := 1) hx hb dL_law_2424 (by decide) ?_
  refine lv_iadd hx hb dL_law_2425 ?_
  refine W.eq (g2 := F0 m 2426 ls [.int 1, .ref b, .ref xa]) (by first | rfl | decide) ?_
  refine va_sld hx hb hX hbl hbA hh.2.2.2.1 (by unfold vp_in; decide) dL_law_2426 ?_
  refine W.eq (g2 := F0 m 2427 ls [.int (xs 1), .ref xa]) rfl ?_
  refine lv_aload_n hx hb dL_law_2427 rfl (lv_at hl 5 rfl) ?_
  refine lv_iload hx hb dL_law_2428 (lv_at hl 0 rfl) ?_
  refine lv_iconst (v := 2) hx hb dL_law_2430 (by decide) ?_
  refine lv_iadd hx hb dL_law_2431 ?_
  refine W.eq (g2 := F0 m 2432 ls [.int 2, .ref b, .int (xs 1), .ref xa]) (by first | rfl | decide) ?_
  refine va_sld hx hb hX hbl hbA hh.2.2.2.1 (by unfold vp_in; decide) dL_law_2432 ?_
  refine W.eq (g2 := F0 m 2433 ls [.int (xs 2), .int (xs 1), .ref xa]) rfl ?_
  refine lv_aload_n hx hb dL_law_2433 rfl (lv_at hl 2 rfl) ?_
  refine k_callSX (wr := [(ma, .inr (16, [.int 0, .ref m1, .ref m2, .ref m3, .ref m4, .ref m5, .ref m6, .ref m7, .ref m8, .int 0, .int 0])), (m8, .inr (4, [.int 0, .ref e0.1, .int 0]))]) (rest := []) (own := RL) ⟨hx, hb, hml, hown, hts⟩ (c_L_match l hst D e0 xa x1 x2 x3 x4 x5 ((xs 1)) ((xs 2)) o1 z3 ((fun _ => 0)) ) (vx_cwSW 4 hts gl_S_c_L_match rfl rfl rfl (by decide +kernel) ⟨Nat.le_of_ble_eq_true rfl, Nat.le_of_ble_eq_true rfl⟩) hh [0, 3] [1, 2] [0] rfl rfl rfl rfl (by decide) rfl rfl hl rfl (Nat.le_of_ble_eq_true rfl) dL_law_2434 ⟨Nat.le_of_ble_eq_true rfl, (Nat.le_of_ble_eq_true rfl)⟩ (fun _ _ _ _ _ h => h.elim) (fun v w ty1 H locs hp hh => ?_)
  obtain ⟨rfl, rfl, rfl⟩ := hp
  have hh : kH D kStr e0 A s H [(ma, .inr (16, [.int 0, .ref m1, .ref m2, .ref m3, .ref m4, .ref m5, .ref m6, .ref m7, .ref m8, .int 0, .int 0])), (m8, .inr (4, [.int 0, .ref e0.1, .int 0])), (o1, .inl (z3, 1, .inr (.inl (fun _ => 0))))] [(z3, .long), (z3, .long)] _ := hh
  refine W.eq (g2 := F0 m 2437 ls [.int 1]) (by first | rfl | decide) ?_
  refine lv_istore (lv' := [(6, .int 1), (5, .int 0), (4, .ref o2), (3, .ref o1), (2, .ref ma), (1, .ref xa), (0, .ref b)]) hx hb dL_law_2437 hl (by decide) rfl (fun ls hl => ?_)
  refine lv_aload_n hx hb dL_law_2439 rfl (lv_at hl 4 rfl) ?_
  refine lv_aload_n hx hb dL_law_2440 rfl (lv_at hl 6 rfl) ?_
  refine lv_iload hx hb dL_law_2441 (lv_at hl 1 rfl) ?_
  refine lv_iconst (v := 1) hx hb dL_law_2443 (by decide) ?_
  refine lv_iadd hx hb dL_law_2444 ?_
  refine W.eq (g2 := F0 m 2445 ls [.int 1, .ref b, .ref ma]) (by first | rfl | decide) ?_
  refine va_sld hx hb hX hbl hbA hh.2.2.2.1 (by unfold vp_in; decide) dL_law_2445 ?_
  refine W.eq (g2 := F0 m 2446 ls [.int (xs 1), .ref ma]) rfl ?_
  refine lv_aload_n hx hb dL_law_2446 rfl (lv_at hl 6 rfl) ?_
  refine lv_iload hx hb dL_law_2447 (lv_at hl 1 rfl) ?_
  refine lv_iconst (v := 2) hx hb dL_law_2449 (by decide) ?_
  refine lv_iadd hx hb dL_law_2450 ?_
  refine W.eq (g2 := F0 m 2451 ls [.int 2, .ref b, .int (xs 1), .ref ma]) (by first | rfl | decide) ?_
  refine va_sld hx hb hX hbl hbA hh.2.2.2.1 (by unfold vp_in; decide) dL_law_2451 ?_
  refine W.eq (g2 := F0 m 2452 ls [.int (xs 2), .int (xs 1), .ref ma]) rfl ?_
  refine k_callV (C := RX11) (T := TX11) (N := 11) (ci := 16) (q0 := 0) (wr := [(o1, .inl (z3, 1, .inr (.inl (fun _ => 0))))]) (rest := []) (own := RL) ⟨hx, hb, hml, hown, hts⟩ (c_X11_match l hst D e0 ma 0 m1 m2 m3 m4 m5 m6 m7 m8 ((xs 1)) ((xs 2)) ) (cwV 2 hts gl_V_c_X11_match rfl rfl rfl (by decide +kernel) ⟨Nat.le_of_ble_eq_true rfl, Nat.le_of_ble_eq_true rfl⟩) hh rfl rfl [0, 1] [2] [] rfl rfl rfl rfl (by decide) rfl rfl hl rfl (Nat.le_of_ble_eq_true rfl) dL_law_2452 ⟨Nat.le_of_ble_eq_true rfl, (Nat.le_of_ble_eq_true rfl)⟩ (fun _ _ _ _ _ h => h.elim) (fun v w ty1 H locs hp hh => ?_)
  obtain ⟨rfl, rfl, rfl⟩ := hp
  have hh : kH D kStr e0 A s H [(o1, .inl (z3, 1, .inr (.inl (fun _ => 0)))), (ma, .inr (16, [.int 1, .ref m1, .ref m2, .ref m3, .ref m4, .ref m5, .ref m6, .ref m7, .ref m8, .int 0, .int 0]))] [(z3, .long), (z3, .long)] _ := hh
  refine W.eq (g2 := F0 m 2455 ls [.int 0]) (by first | rfl | decide) ?_
  refine lv_istore (lv' := [(7, .int 0), (6, .int 1), (5, .int 0), (4, .ref o2), (3, .ref o1), (2, .ref ma), (1, .ref xa), (0, .ref b)]) hx hb dL_law_2455 hl (by decide) rfl (fun ls hl => ?_)
  refine lv_aload_n hx hb dL_law_2457 rfl (lv_at hl 5 rfl) ?_
  refine k_callV (C := RX11) (T := TX11) (N := 11) (ci := 16) (q0 := 1) (wr := [(o1, .inl (z3, 1, .inr (.inl (fun _ => 0))))]) (rest := []) (own := RL) ⟨hx, hb, hml, hown, hts⟩ (c_X11_thrown l hst D e0 ma 1 m1 m2 m3 m4 m5 m6 m7 m8 ) (cwV 0 hts gl_V_c_X11_thrown rfl rfl rfl (by decide +kernel) ⟨Nat.le_of_ble_eq_true rfl, Nat.le_of_ble_eq_true rfl⟩) hh rfl rfl [1] [0] [] rfl rfl rfl rfl (by decide) rfl rfl hl rfl (Nat.le_of_ble_eq_true rfl) dL_law_2458 ⟨Nat.le_of_ble_eq_true rfl, (Nat.le_of_ble_eq_true rfl)⟩ (fun _ _ _ _ _ h => h.elim) (fun v w ty1 H locs hp hh => ?_)
  obtain ⟨rfl, rfl, rfl⟩ := hp
  have hh : kH D kStr e0 A s H [(o1, .inl (z3, 1, .inr (.inl (fun _ => 0)))), (ma, .inr (16, [.int 1, .ref m1, .ref m2, .ref m3, .ref m4, .ref m5, .ref m6, .ref m7, .ref m8, .int 0, .int 0]))] [(z3, .long), (z3, .long)] _ := hh
  refine W.eq (g2 := F0 m 2461 ls [.int 1]) (by first | rfl | decide) ?_
  refine lv_iload hx hb dL_law_2461 (lv_at hl 1 rfl) ?_
  refine lv_icmp_eq (tgt := 2468) hx hb dL_law_2463 (by decide) (fun _ => ?_) (fun c_2463 => absurd (by decide) c_2463)
  refine lv_iload hx hb dL_law_2468 (lv_at hl 1 rfl) ?_
  refine lv_if_ne (tgt := 2485) hx hb dL_law_2470 (by decide) (fun _ => ?_) (fun c_2470 => absurd c_2470 (by decide))
  refine lv_goto (tgt := 3429) hx hb dL_law_2485 (by decide) ?_
  refine W.widen (k := 1000) (n := 100000) (Nat.le_of_ble_eq_true rfl) (Nat.le_of_ble_eq_true rfl) ?_
  exact kk _ _ _ hh.2.2.2.1 (lv_sub hl [7, 2] rfl)
set_option maxHeartbeats 4000000 in
set_option maxRecDepth 100000 in
theorem law_35 {p : Program} {l : Launch} {e : Env} {s : State} {m : MethodId} {below : List Frame} {meth : Method} {c : Code} {Q : State → Prop} {b : Nat} {xs : Nat → Int32} {D : va_G} {e0 : kE} {A : Nat → Prop} (hst : l.stackTraces = false) (hx : p.tables.exec = Jvm.exec) (hb : c.code = cL_law) (hml : c.maxLocals = 9) (hts : ∀ w ∈ lw_tbl, w.before #[Value.ref b] s = true) (hown : s.vm.findClass RL = some m.cls) (hX : va_X b 5 xs s s.heap) (hbl : b < s.heap.size) (hbA : ¬ A b) {xa x1 x2 x3 x4 x5 g1 g2 g3 g4 h1 h2 h3 h4 h5 ma m1 m2 m3 m4 m5 m6 m7 m8 o1 o2 : Nat} {z1 z2 z3 z4 : ClassId}  {H : Heap} {locs : List Loc} {ls : Array Slot} (hh : kH D kStr e0 A s H (lwW e0 xa x1 x2 x3 x4 x5 g1 g2 g3 g4 h1 h2 h3 h4 h5 ma m1 m2 m3 m4 m5 m6 m7 m8 o1 o2 z1 z2 z3 z4) (lwT z1 z2 z3 z4) locs) (hl : lv_has ls 9 (lwL b xa ma o1 o2)) (kk : lwK p l e s m below meth c Q b A) : W p l e room_1 s m #[Value.ref b] below meth c H locs 100 10000 Q (F0 m 2488 ls []) := by
  have hh : kH D kStr e0 A s H [(xa, .inr (11, [.ref x1, .int 0, .ref x2, .int 0, .ref x3, .ref x4, .ref x5, .int 0])), (ma, .inr (16, [.int 0, .ref m1, .ref m2, .ref m3, .ref m4, .ref m5, .ref m6, .ref m7, .ref m8, .int 0, .int 0])), (m8, .inr (4, [.int 0, .ref e0.1, .int 0])), (o1, .inl (z3, 1, .inr (.inl (fun _ => 0))))] [(z3, .long)] _ := hh.sub [0, 5, 13, 14] [2] rfl rfl rfl
  have hl : lv_has ls 9 [(5, .int 0), (4, .ref o2), (3, .ref o1), (2, .ref ma), (1, .ref xa), (0, .ref b)] := hl
  refine lv_aload_n hx hb dL_law_2488 rfl (lv_at hl 4 rfl) ?_
  refine lv_aload_n hx hb dL_law_2489 rfl (lv_at hl 5 rfl) ?_
  refine lv_iload hx hb dL_law_2490 (lv_at hl 0 rfl) ?_
  refine lv_iconst (v := 1) hx hb dL_law_2492 (by decide) ?_
  refine lv_iadd hx hb dL_law_2493 ?_
  refine W.eq (g2 := F0 m 2494 ls [.int 1, .ref b, .ref xa]) (by first | rfl | decide) ?_
  refine va_sld hx hb hX hbl hbA hh.2.2.2.1 (by unfold vp_in; decide) dL_law_2494 ?_
  refine W.eq (g2 := F0 m 2495 ls [.int (xs 1), .ref xa]) rfl ?_
  refine lv_aload_n hx hb dL_law_2495 rfl (lv_at hl 5 rfl) ?_
  refine lv_iload hx hb dL_law_2496 (lv_at hl 0 rfl) ?_
  refine lv_iconst (v := 2) hx hb dL_law_2498 (by decide) ?_
  refine lv_iadd hx hb dL_law_2499 ?_
  refine W.eq (g2 := F0 m 2500 ls [.int 2, .ref b, .int (xs 1), .ref xa]) (by first | rfl | decide) ?_
  refine va_sld hx hb hX hbl hbA hh.2.2.2.1 (by unfold vp_in; decide) dL_law_2500 ?_
  refine W.eq (g2 := F0 m 2501 ls [.int (xs 2), .int (xs 1), .ref xa]) rfl ?_
  refine lv_aload_n hx hb dL_law_2501 rfl (lv_at hl 2 rfl) ?_
  refine k_callSX (wr := [(ma, .inr (16, [.int 0, .ref m1, .ref m2, .ref m3, .ref m4, .ref m5, .ref m6, .ref m7, .ref m8, .int 0, .int 0])), (m8, .inr (4, [.int 0, .ref e0.1, .int 0]))]) (rest := []) (own := RL) ⟨hx, hb, hml, hown, hts⟩ (c_L_difference l hst D e0 xa x1 x2 x3 x4 x5 ((xs 1)) ((xs 2)) o1 z3 ((fun _ => 0)) ) (vx_cwSW 4 hts gl_S_c_L_difference rfl rfl rfl (by decide +kernel) ⟨Nat.le_of_ble_eq_true rfl, Nat.le_of_ble_eq_true rfl⟩) hh [0, 3] [1, 2] [0] rfl rfl rfl rfl (by decide) rfl rfl hl rfl (Nat.le_of_ble_eq_true rfl) dL_law_2502 ⟨Nat.le_of_ble_eq_true rfl, (Nat.le_of_ble_eq_true rfl)⟩ (fun _ _ _ _ _ h => h.elim) (fun v w ty1 H locs hp hh => ?_)
  obtain ⟨rfl, rfl, rfl⟩ := hp
  have hh : kH D kStr e0 A s H [(ma, .inr (16, [.int 0, .ref m1, .ref m2, .ref m3, .ref m4, .ref m5, .ref m6, .ref m7, .ref m8, .int 0, .int 0])), (m8, .inr (4, [.int 0, .ref e0.1, .int 0])), (o1, .inl (z3, 1, .inr (.inl (fun _ => 0))))] [(z3, .long), (z3, .long)] _ := hh
  refine W.eq (g2 := F0 m 2505 ls [.int 1]) (by first | rfl | decide) ?_
  refine lv_istore (lv' := [(6, .int 1), (5, .int 0), (4, .ref o2), (3, .ref o1), (2, .ref ma), (1, .ref xa), (0, .ref b)]) hx hb dL_law_2505 hl (by decide) rfl (fun ls hl => ?_)
  refine lv_aload_n hx hb dL_law_2507 rfl (lv_at hl 4 rfl) ?_
  refine lv_aload_n hx hb dL_law_2508 rfl (lv_at hl 6 rfl) ?_
  refine lv_iload hx hb dL_law_2509 (lv_at hl 1 rfl) ?_
  refine lv_iconst (v := 1) hx hb dL_law_2511 (by decide) ?_
  refine lv_iadd hx hb dL_law_2512 ?_
  refine W.eq (g2 := F0 m 2513 ls [.int 1, .ref b, .ref ma]) (by first | rfl | decide) ?_
  refine va_sld hx hb hX hbl hbA hh.2.2.2.1 (by unfold vp_in; decide) dL_law_2513 ?_
  refine W.eq (g2 := F0 m 2514 ls [.int (xs 1), .ref ma]) rfl ?_
  refine lv_aload_n hx hb dL_law_2514 rfl (lv_at hl 6 rfl) ?_
  refine lv_iload hx hb dL_law_2515 (lv_at hl 1 rfl) ?_
  refine lv_iconst (v := 2) hx hb dL_law_2517 (by decide) ?_
  refine lv_iadd hx hb dL_law_2518 ?_
  refine W.eq (g2 := F0 m 2519 ls [.int 2, .ref b, .int (xs 1), .ref ma]) (by first | rfl | decide) ?_
  refine va_sld hx hb hX hbl hbA hh.2.2.2.1 (by unfold vp_in; decide) dL_law_2519 ?_
  refine W.eq (g2 := F0 m 2520 ls [.int (xs 2), .int (xs 1), .ref ma]) rfl ?_
  refine k_callV (C := RX11) (T := TX11) (N := 11) (ci := 16) (q0 := 0) (wr := [(o1, .inl (z3, 1, .inr (.inl (fun _ => 0))))]) (rest := []) (own := RL) ⟨hx, hb, hml, hown, hts⟩ (c_X11_difference l hst D e0 ma 0 m1 m2 m3 m4 m5 m6 m7 m8 ((xs 1)) ((xs 2)) ) (cwV 2 hts gl_V_c_X11_difference rfl rfl rfl (by decide +kernel) ⟨Nat.le_of_ble_eq_true rfl, Nat.le_of_ble_eq_true rfl⟩) hh rfl rfl [0, 1] [2] [] rfl rfl rfl rfl (by decide) rfl rfl hl rfl (Nat.le_of_ble_eq_true rfl) dL_law_2520 ⟨Nat.le_of_ble_eq_true rfl, (Nat.le_of_ble_eq_true rfl)⟩ (fun _ _ _ _ _ h => h.elim) (fun v w ty1 H locs hp hh => ?_)
  obtain ⟨rfl, rfl, rfl⟩ := hp
  have hh : kH D kStr e0 A s H [(o1, .inl (z3, 1, .inr (.inl (fun _ => 0)))), (ma, .inr (16, [.int 1, .ref m1, .ref m2, .ref m3, .ref m4, .ref m5, .ref m6, .ref m7, .ref m8, .int 0, .int 0]))] [(z3, .long), (z3, .long)] _ := hh
  refine W.eq (g2 := F0 m 2523 ls [.int 32]) (by first | rfl | decide) ?_
  refine lv_istore (lv' := [(7, .int 32), (6, .int 1), (5, .int 0), (4, .ref o2), (3, .ref o1), (2, .ref ma), (1, .ref xa), (0, .ref b)]) hx hb dL_law_2523 hl (by decide) rfl (fun ls hl => ?_)
  refine lv_aload_n hx hb dL_law_2525 rfl (lv_at hl 5 rfl) ?_
  refine k_callV (C := RX11) (T := TX11) (N := 11) (ci := 16) (q0 := 1) (wr := [(o1, .inl (z3, 1, .inr (.inl (fun _ => 0))))]) (rest := []) (own := RL) ⟨hx, hb, hml, hown, hts⟩ (c_X11_thrown l hst D e0 ma 1 m1 m2 m3 m4 m5 m6 m7 m8 ) (cwV 0 hts gl_V_c_X11_thrown rfl rfl rfl (by decide +kernel) ⟨Nat.le_of_ble_eq_true rfl, Nat.le_of_ble_eq_true rfl⟩) hh rfl rfl [1] [0] [] rfl rfl rfl rfl (by decide) rfl rfl hl rfl (Nat.le_of_ble_eq_true rfl) dL_law_2526 ⟨Nat.le_of_ble_eq_true rfl, (Nat.le_of_ble_eq_true rfl)⟩ (fun _ _ _ _ _ h => h.elim) (fun v w ty1 H locs hp hh => ?_)
  obtain ⟨rfl, rfl, rfl⟩ := hp
  have hh : kH D kStr e0 A s H [(o1, .inl (z3, 1, .inr (.inl (fun _ => 0)))), (ma, .inr (16, [.int 1, .ref m1, .ref m2, .ref m3, .ref m4, .ref m5, .ref m6, .ref m7, .ref m8, .int 0, .int 0]))] [(z3, .long), (z3, .long)] _ := hh
  refine W.eq (g2 := F0 m 2529 ls [.int 1]) (by first | rfl | decide) ?_
  refine lv_iload hx hb dL_law_2529 (lv_at hl 1 rfl) ?_
  refine lv_icmp_eq (tgt := 2536) hx hb dL_law_2531 (by decide) (fun _ => ?_) (fun c_2531 => absurd (by decide) c_2531)
  refine lv_iload hx hb dL_law_2536 (lv_at hl 1 rfl) ?_
  refine lv_if_ne (tgt := 2553) hx hb dL_law_2538 (by decide) (fun _ => ?_) (fun c_2538 => absurd c_2538 (by decide))
  refine lv_goto (tgt := 3429) hx hb dL_law_2553 (by decide) ?_
  refine W.widen (k := 1000) (n := 100000) (Nat.le_of_ble_eq_true rfl) (Nat.le_of_ble_eq_true rfl) ?_
  exact kk _ _ _ hh.2.2.2.1 (lv_sub hl [7, 2] rfl)
set_option maxHeartbeats 4000000 in
set_option maxRecDepth 100000 in
theorem law_36 {p : Program} {l : Launch} {e : Env} {s : State} {m : MethodId} {below : List Frame} {meth : Method} {c : Code} {Q : State → Prop} {b : Nat} {xs : Nat → Int32} {D : va_G} {e0 : kE} {A : Nat → Prop} (hst : l.stackTraces = false) (hx : p.tables.exec = Jvm.exec) (hb : c.code = cL_law) (hml : c.maxLocals = 9) (hts : ∀ w ∈ lw_tbl, w.before #[Value.ref b] s = true) (hown : s.vm.findClass RL = some m.cls) (hX : va_X b 5 xs s s.heap) (hbl : b < s.heap.size) (hbA : ¬ A b) {xa x1 x2 x3 x4 x5 g1 g2 g3 g4 h1 h2 h3 h4 h5 ma m1 m2 m3 m4 m5 m6 m7 m8 o1 o2 : Nat} {z1 z2 z3 z4 : ClassId}  {H : Heap} {locs : List Loc} {ls : Array Slot} (hh : kH D kStr e0 A s H (lwW e0 xa x1 x2 x3 x4 x5 g1 g2 g3 g4 h1 h2 h3 h4 h5 ma m1 m2 m3 m4 m5 m6 m7 m8 o1 o2 z1 z2 z3 z4) (lwT z1 z2 z3 z4) locs) (hl : lv_has ls 9 (lwL b xa ma o1 o2)) (kk : lwK p l e s m below meth c Q b A) : W p l e room_1 s m #[Value.ref b] below meth c H locs 100 10000 Q (F0 m 2556 ls []) := by
  have hh : kH D kStr e0 A s H [(xa, .inr (11, [.ref x1, .int 0, .ref x2, .int 0, .ref x3, .ref x4, .ref x5, .int 0])), (ma, .inr (16, [.int 0, .ref m1, .ref m2, .ref m3, .ref m4, .ref m5, .ref m6, .ref m7, .ref m8, .int 0, .int 0])), (m8, .inr (4, [.int 0, .ref e0.1, .int 0])), (o1, .inl (z3, 1, .inr (.inl (fun _ => 0))))] [(z3, .long)] _ := hh.sub [0, 5, 13, 14] [2] rfl rfl rfl
  have hl : lv_has ls 9 [(5, .int 0), (4, .ref o2), (3, .ref o1), (2, .ref ma), (1, .ref xa), (0, .ref b)] := hl
  refine lv_aload_n hx hb dL_law_2556 rfl (lv_at hl 4 rfl) ?_
  refine lv_aload_n hx hb dL_law_2557 rfl (lv_at hl 5 rfl) ?_
  refine lv_iload hx hb dL_law_2558 (lv_at hl 0 rfl) ?_
  refine lv_iconst (v := 1) hx hb dL_law_2560 (by decide) ?_
  refine lv_iadd hx hb dL_law_2561 ?_
  refine W.eq (g2 := F0 m 2562 ls [.int 1, .ref b, .ref xa]) (by first | rfl | decide) ?_
  refine va_sld hx hb hX hbl hbA hh.2.2.2.1 (by unfold vp_in; decide) dL_law_2562 ?_
  refine W.eq (g2 := F0 m 2563 ls [.int (xs 1), .ref xa]) rfl ?_
  refine lv_aload_n hx hb dL_law_2563 rfl (lv_at hl 5 rfl) ?_
  refine lv_iload hx hb dL_law_2564 (lv_at hl 0 rfl) ?_
  refine lv_iconst (v := 2) hx hb dL_law_2566 (by decide) ?_
  refine lv_iadd hx hb dL_law_2567 ?_
  refine W.eq (g2 := F0 m 2568 ls [.int 2, .ref b, .int (xs 1), .ref xa]) (by first | rfl | decide) ?_
  refine va_sld hx hb hX hbl hbA hh.2.2.2.1 (by unfold vp_in; decide) dL_law_2568 ?_
  refine W.eq (g2 := F0 m 2569 ls [.int (xs 2), .int (xs 1), .ref xa]) rfl ?_
  refine lv_aload_n hx hb dL_law_2569 rfl (lv_at hl 2 rfl) ?_
  refine k_callSX (wr := [(ma, .inr (16, [.int 0, .ref m1, .ref m2, .ref m3, .ref m4, .ref m5, .ref m6, .ref m7, .ref m8, .int 0, .int 0])), (m8, .inr (4, [.int 0, .ref e0.1, .int 0]))]) (rest := []) (own := RL) ⟨hx, hb, hml, hown, hts⟩ (c_L_differsAt l hst D e0 xa x1 x2 x3 x4 x5 ((xs 1)) ((xs 2)) o1 z3 ((fun _ => 0)) ) (vx_cwSW 4 hts gl_S_c_L_differsAt rfl rfl rfl (by decide +kernel) ⟨Nat.le_of_ble_eq_true rfl, Nat.le_of_ble_eq_true rfl⟩) hh [0, 3] [1, 2] [0] rfl rfl rfl rfl (by decide) rfl rfl hl rfl (Nat.le_of_ble_eq_true rfl) dL_law_2570 ⟨Nat.le_of_ble_eq_true rfl, (Nat.le_of_ble_eq_true rfl)⟩ (fun _ _ _ _ _ h => h.elim) (fun v w ty1 H locs hp hh => ?_)
  obtain ⟨rfl, rfl, rfl⟩ := hp
  have hh : kH D kStr e0 A s H [(ma, .inr (16, [.int 0, .ref m1, .ref m2, .ref m3, .ref m4, .ref m5, .ref m6, .ref m7, .ref m8, .int 0, .int 0])), (m8, .inr (4, [.int 0, .ref e0.1, .int 0])), (o1, .inl (z3, 1, .inr (.inl (fun _ => 0))))] [(z3, .long), (z3, .long)] _ := hh
  refine W.eq (g2 := F0 m 2573 ls [.int 1]) (by first | rfl | decide) ?_
  refine lv_istore (lv' := [(6, .int 1), (5, .int 0), (4, .ref o2), (3, .ref o1), (2, .ref ma), (1, .ref xa), (0, .ref b)]) hx hb dL_law_2573 hl (by decide) rfl (fun ls hl => ?_)
  refine lv_aload_n hx hb dL_law_2575 rfl (lv_at hl 4 rfl) ?_
  refine lv_aload_n hx hb dL_law_2576 rfl (lv_at hl 6 rfl) ?_
  refine lv_iload hx hb dL_law_2577 (lv_at hl 1 rfl) ?_
  refine lv_iconst (v := 1) hx hb dL_law_2579 (by decide) ?_
  refine lv_iadd hx hb dL_law_2580 ?_
  refine W.eq (g2 := F0 m 2581 ls [.int 1, .ref b, .ref ma]) (by first | rfl | decide) ?_
  refine va_sld hx hb hX hbl hbA hh.2.2.2.1 (by unfold vp_in; decide) dL_law_2581 ?_
  refine W.eq (g2 := F0 m 2582 ls [.int (xs 1), .ref ma]) rfl ?_
  refine lv_aload_n hx hb dL_law_2582 rfl (lv_at hl 6 rfl) ?_
  refine lv_iload hx hb dL_law_2583 (lv_at hl 1 rfl) ?_
  refine lv_iconst (v := 2) hx hb dL_law_2585 (by decide) ?_
  refine lv_iadd hx hb dL_law_2586 ?_
  refine W.eq (g2 := F0 m 2587 ls [.int 2, .ref b, .int (xs 1), .ref ma]) (by first | rfl | decide) ?_
  refine va_sld hx hb hX hbl hbA hh.2.2.2.1 (by unfold vp_in; decide) dL_law_2587 ?_
  refine W.eq (g2 := F0 m 2588 ls [.int (xs 2), .int (xs 1), .ref ma]) rfl ?_
  refine k_callV (C := RX11) (T := TX11) (N := 11) (ci := 16) (q0 := 0) (wr := [(o1, .inl (z3, 1, .inr (.inl (fun _ => 0))))]) (rest := []) (own := RL) ⟨hx, hb, hml, hown, hts⟩ (c_X11_differsAt l hst D e0 ma 0 m1 m2 m3 m4 m5 m6 m7 m8 ((xs 1)) ((xs 2)) ) (cwV 2 hts gl_V_c_X11_differsAt rfl rfl rfl (by decide +kernel) ⟨Nat.le_of_ble_eq_true rfl, Nat.le_of_ble_eq_true rfl⟩) hh rfl rfl [0, 1] [2] [] rfl rfl rfl rfl (by decide) rfl rfl hl rfl (Nat.le_of_ble_eq_true rfl) dL_law_2588 ⟨Nat.le_of_ble_eq_true rfl, (Nat.le_of_ble_eq_true rfl)⟩ (fun _ _ _ _ _ h => h.elim) (fun v w ty1 H locs hp hh => ?_)
  obtain ⟨rfl, rfl, rfl⟩ := hp
  have hh : kH D kStr e0 A s H [(o1, .inl (z3, 1, .inr (.inl (fun _ => 0)))), (ma, .inr (16, [.int 1, .ref m1, .ref m2, .ref m3, .ref m4, .ref m5, .ref m6, .ref m7, .ref m8, .int 0, .int 0]))] [(z3, .long), (z3, .long)] _ := hh
  refine W.eq (g2 := F0 m 2591 ls [.int 0]) (by first | rfl | decide) ?_
  refine lv_istore (lv' := [(7, .int 0), (6, .int 1), (5, .int 0), (4, .ref o2), (3, .ref o1), (2, .ref ma), (1, .ref xa), (0, .ref b)]) hx hb dL_law_2591 hl (by decide) rfl (fun ls hl => ?_)
  refine lv_aload_n hx hb dL_law_2593 rfl (lv_at hl 5 rfl) ?_
  refine k_callV (C := RX11) (T := TX11) (N := 11) (ci := 16) (q0 := 1) (wr := [(o1, .inl (z3, 1, .inr (.inl (fun _ => 0))))]) (rest := []) (own := RL) ⟨hx, hb, hml, hown, hts⟩ (c_X11_thrown l hst D e0 ma 1 m1 m2 m3 m4 m5 m6 m7 m8 ) (cwV 0 hts gl_V_c_X11_thrown rfl rfl rfl (by decide +kernel) ⟨Nat.le_of_ble_eq_true rfl, Nat.le_of_ble_eq_true rfl⟩) hh rfl rfl [1] [0] [] rfl rfl rfl rfl (by decide) rfl rfl hl rfl (Nat.le_of_ble_eq_true rfl) dL_law_2594 ⟨Nat.le_of_ble_eq_true rfl, (Nat.le_of_ble_eq_true rfl)⟩ (fun _ _ _ _ _ h => h.elim) (fun v w ty1 H locs hp hh => ?_)
  obtain ⟨rfl, rfl, rfl⟩ := hp
  have hh : kH D kStr e0 A s H [(o1, .inl (z3, 1, .inr (.inl (fun _ => 0)))), (ma, .inr (16, [.int 1, .ref m1, .ref m2, .ref m3, .ref m4, .ref m5, .ref m6, .ref m7, .ref m8, .int 0, .int 0]))] [(z3, .long), (z3, .long)] _ := hh
  refine W.eq (g2 := F0 m 2597 ls [.int 1]) (by first | rfl | decide) ?_
  refine lv_iload hx hb dL_law_2597 (lv_at hl 1 rfl) ?_
  refine lv_icmp_eq (tgt := 2604) hx hb dL_law_2599 (by decide) (fun _ => ?_) (fun c_2599 => absurd (by decide) c_2599)
  refine lv_iload hx hb dL_law_2604 (lv_at hl 1 rfl) ?_
  refine lv_if_ne (tgt := 2621) hx hb dL_law_2606 (by decide) (fun _ => ?_) (fun c_2606 => absurd c_2606 (by decide))
  refine lv_goto (tgt := 3429) hx hb dL_law_2621 (by decide) ?_
  refine W.widen (k := 1000) (n := 100000) (Nat.le_of_ble_eq_true rfl) (Nat.le_of_ble_eq_true rfl) ?_
  exact kk _ _ _ hh.2.2.2.1 (lv_sub hl [7, 2] rfl)
set_option maxHeartbeats 4000000 in
set_option maxRecDepth 100000 in
theorem law_37 {p : Program} {l : Launch} {e : Env} {s : State} {m : MethodId} {below : List Frame} {meth : Method} {c : Code} {Q : State → Prop} {b : Nat} {xs : Nat → Int32} {D : va_G} {e0 : kE} {A : Nat → Prop} (hst : l.stackTraces = false) (hx : p.tables.exec = Jvm.exec) (hb : c.code = cL_law) (hml : c.maxLocals = 9) (hts : ∀ w ∈ lw_tbl, w.before #[Value.ref b] s = true) (hown : s.vm.findClass RL = some m.cls) (hX : va_X b 5 xs s s.heap) (hbl : b < s.heap.size) (hbA : ¬ A b) {xa x1 x2 x3 x4 x5 g1 g2 g3 g4 h1 h2 h3 h4 h5 ma m1 m2 m3 m4 m5 m6 m7 m8 o1 o2 : Nat} {z1 z2 z3 z4 : ClassId}  {H : Heap} {locs : List Loc} {ls : Array Slot} (hh : kH D kStr e0 A s H (lwW e0 xa x1 x2 x3 x4 x5 g1 g2 g3 g4 h1 h2 h3 h4 h5 ma m1 m2 m3 m4 m5 m6 m7 m8 o1 o2 z1 z2 z3 z4) (lwT z1 z2 z3 z4) locs) (hl : lv_has ls 9 (lwL b xa ma o1 o2)) (kk : lwK p l e s m below meth c Q b A) : W p l e room_1 s m #[Value.ref b] below meth c H locs 100 10000 Q (F0 m 2624 ls []) := by
  have hh : kH D kStr e0 A s H [(xa, .inr (11, [.ref x1, .int 0, .ref x2, .int 0, .ref x3, .ref x4, .ref x5, .int 0])), (ma, .inr (16, [.int 0, .ref m1, .ref m2, .ref m3, .ref m4, .ref m5, .ref m6, .ref m7, .ref m8, .int 0, .int 0])), (m8, .inr (4, [.int 0, .ref e0.1, .int 0])), (o1, .inl (z3, 1, .inr (.inl (fun _ => 0))))] [(z3, .long)] _ := hh.sub [0, 5, 13, 14] [2] rfl rfl rfl
  have hl : lv_has ls 9 [(5, .int 0), (4, .ref o2), (3, .ref o1), (2, .ref ma), (1, .ref xa), (0, .ref b)] := hl
  refine lv_aload_n hx hb dL_law_2624 rfl (lv_at hl 4 rfl) ?_
  refine lv_aload_n hx hb dL_law_2625 rfl (lv_at hl 5 rfl) ?_
  refine lv_iload hx hb dL_law_2626 (lv_at hl 0 rfl) ?_
  refine lv_iconst (v := 1) hx hb dL_law_2628 (by decide) ?_
  refine lv_iadd hx hb dL_law_2629 ?_
  refine W.eq (g2 := F0 m 2630 ls [.int 1, .ref b, .ref xa]) (by first | rfl | decide) ?_
  refine va_sld hx hb hX hbl hbA hh.2.2.2.1 (by unfold vp_in; decide) dL_law_2630 ?_
  refine W.eq (g2 := F0 m 2631 ls [.int (xs 1), .ref xa]) rfl ?_
  refine lv_aload_n hx hb dL_law_2631 rfl (lv_at hl 5 rfl) ?_
  refine lv_iload hx hb dL_law_2632 (lv_at hl 0 rfl) ?_
  refine lv_iconst (v := 2) hx hb dL_law_2634 (by decide) ?_
  refine lv_iadd hx hb dL_law_2635 ?_
  refine W.eq (g2 := F0 m 2636 ls [.int 2, .ref b, .int (xs 1), .ref xa]) (by first | rfl | decide) ?_
  refine va_sld hx hb hX hbl hbA hh.2.2.2.1 (by unfold vp_in; decide) dL_law_2636 ?_
  refine W.eq (g2 := F0 m 2637 ls [.int (xs 2), .int (xs 1), .ref xa]) rfl ?_
  refine lv_aload_n hx hb dL_law_2637 rfl (lv_at hl 5 rfl) ?_
  refine lv_iload hx hb dL_law_2638 (lv_at hl 0 rfl) ?_
  refine lv_iconst (v := 3) hx hb dL_law_2640 (by decide) ?_
  refine lv_iadd hx hb dL_law_2641 ?_
  refine W.eq (g2 := F0 m 2642 ls [.int 3, .ref b, .int (xs 2), .int (xs 1), .ref xa]) (by first | rfl | decide) ?_
  refine va_sld hx hb hX hbl hbA hh.2.2.2.1 (by unfold vp_in; decide) dL_law_2642 ?_
  refine W.eq (g2 := F0 m 2643 ls [.int (xs 3), .int (xs 2), .int (xs 1), .ref xa]) rfl ?_
  refine lv_aload_n hx hb dL_law_2643 rfl (lv_at hl 2 rfl) ?_
  refine k_callSX (wr := [(ma, .inr (16, [.int 0, .ref m1, .ref m2, .ref m3, .ref m4, .ref m5, .ref m6, .ref m7, .ref m8, .int 0, .int 0])), (m8, .inr (4, [.int 0, .ref e0.1, .int 0]))]) (rest := []) (own := RL) ⟨hx, hb, hml, hown, hts⟩ (c_L_damage l hst D e0 xa x1 x2 x3 x4 x5 ((xs 1)) ((xs 2)) ((xs 3)) o1 z3 ((fun _ => 0)) ) (vx_cwSW 5 hts gl_S_c_L_damage rfl rfl rfl (by decide +kernel) ⟨Nat.le_of_ble_eq_true rfl, Nat.le_of_ble_eq_true rfl⟩) hh [0, 3] [1, 2] [0] rfl rfl rfl rfl (by decide) rfl rfl hl rfl (Nat.le_of_ble_eq_true rfl) dL_law_2644 ⟨Nat.le_of_ble_eq_true rfl, (Nat.le_of_ble_eq_true rfl)⟩ (fun _ _ _ _ _ h => h.elim) (fun v w ty1 H locs hp hh => ?_)
  obtain ⟨rfl, rfl, rfl⟩ := hp
  have hh : kH D kStr e0 A s H [(ma, .inr (16, [.int 0, .ref m1, .ref m2, .ref m3, .ref m4, .ref m5, .ref m6, .ref m7, .ref m8, .int 0, .int 0])), (m8, .inr (4, [.int 0, .ref e0.1, .int 0])), (o1, .inl (z3, 1, .inr (.inl (fun _ => 0))))] [(z3, .long), (z3, .long)] _ := hh
  refine W.eq (g2 := F0 m 2647 ls [.int 1]) (by first | rfl | decide) ?_
  refine lv_istore (lv' := [(6, .int 1), (5, .int 0), (4, .ref o2), (3, .ref o1), (2, .ref ma), (1, .ref xa), (0, .ref b)]) hx hb dL_law_2647 hl (by decide) rfl (fun ls hl => ?_)
  refine lv_aload_n hx hb dL_law_2649 rfl (lv_at hl 4 rfl) ?_
  refine lv_aload_n hx hb dL_law_2650 rfl (lv_at hl 6 rfl) ?_
  refine lv_iload hx hb dL_law_2651 (lv_at hl 1 rfl) ?_
  refine lv_iconst (v := 1) hx hb dL_law_2653 (by decide) ?_
  refine lv_iadd hx hb dL_law_2654 ?_
  refine W.eq (g2 := F0 m 2655 ls [.int 1, .ref b, .ref ma]) (by first | rfl | decide) ?_
  refine va_sld hx hb hX hbl hbA hh.2.2.2.1 (by unfold vp_in; decide) dL_law_2655 ?_
  refine W.eq (g2 := F0 m 2656 ls [.int (xs 1), .ref ma]) rfl ?_
  refine lv_aload_n hx hb dL_law_2656 rfl (lv_at hl 6 rfl) ?_
  refine lv_iload hx hb dL_law_2657 (lv_at hl 1 rfl) ?_
  refine lv_iconst (v := 2) hx hb dL_law_2659 (by decide) ?_
  refine lv_iadd hx hb dL_law_2660 ?_
  refine W.eq (g2 := F0 m 2661 ls [.int 2, .ref b, .int (xs 1), .ref ma]) (by first | rfl | decide) ?_
  refine va_sld hx hb hX hbl hbA hh.2.2.2.1 (by unfold vp_in; decide) dL_law_2661 ?_
  refine W.eq (g2 := F0 m 2662 ls [.int (xs 2), .int (xs 1), .ref ma]) rfl ?_
  refine lv_aload_n hx hb dL_law_2662 rfl (lv_at hl 6 rfl) ?_
  refine lv_iload hx hb dL_law_2663 (lv_at hl 1 rfl) ?_
  refine lv_iconst (v := 3) hx hb dL_law_2665 (by decide) ?_
  refine lv_iadd hx hb dL_law_2666 ?_
  refine W.eq (g2 := F0 m 2667 ls [.int 3, .ref b, .int (xs 2), .int (xs 1), .ref ma]) (by first | rfl | decide) ?_
  refine va_sld hx hb hX hbl hbA hh.2.2.2.1 (by unfold vp_in; decide) dL_law_2667 ?_
  refine W.eq (g2 := F0 m 2668 ls [.int (xs 3), .int (xs 2), .int (xs 1), .ref ma]) rfl ?_
  refine k_callV (C := RX11) (T := TX11) (N := 11) (ci := 16) (q0 := 0) (wr := [(o1, .inl (z3, 1, .inr (.inl (fun _ => 0))))]) (rest := []) (own := RL) ⟨hx, hb, hml, hown, hts⟩ (c_X11_damage l hst D e0 ma 0 m1 m2 m3 m4 m5 m6 m7 m8 ((xs 1)) ((xs 2)) ((xs 3)) ) (cwV 3 hts gl_V_c_X11_damage rfl rfl rfl (by decide +kernel) ⟨Nat.le_of_ble_eq_true rfl, Nat.le_of_ble_eq_true rfl⟩) hh rfl rfl [0, 1] [2] [] rfl rfl rfl rfl (by decide) rfl rfl hl rfl (Nat.le_of_ble_eq_true rfl) dL_law_2668 ⟨Nat.le_of_ble_eq_true rfl, (Nat.le_of_ble_eq_true rfl)⟩ (fun _ _ _ _ _ h => h.elim) (fun v w ty1 H locs hp hh => ?_)
  obtain ⟨rfl, rfl, rfl⟩ := hp
  have hh : kH D kStr e0 A s H [(o1, .inl (z3, 1, .inr (.inl (fun _ => 0)))), (ma, .inr (16, [.int 1, .ref m1, .ref m2, .ref m3, .ref m4, .ref m5, .ref m6, .ref m7, .ref m8, .int 0, .int 0]))] [(z3, .long), (z3, .long)] _ := hh
  refine W.eq (g2 := F0 m 2671 ls [.int 0]) (by first | rfl | decide) ?_
  refine lv_istore (lv' := [(7, .int 0), (6, .int 1), (5, .int 0), (4, .ref o2), (3, .ref o1), (2, .ref ma), (1, .ref xa), (0, .ref b)]) hx hb dL_law_2671 hl (by decide) rfl (fun ls hl => ?_)
  refine lv_aload_n hx hb dL_law_2673 rfl (lv_at hl 5 rfl) ?_
  refine k_callV (C := RX11) (T := TX11) (N := 11) (ci := 16) (q0 := 1) (wr := [(o1, .inl (z3, 1, .inr (.inl (fun _ => 0))))]) (rest := []) (own := RL) ⟨hx, hb, hml, hown, hts⟩ (c_X11_thrown l hst D e0 ma 1 m1 m2 m3 m4 m5 m6 m7 m8 ) (cwV 0 hts gl_V_c_X11_thrown rfl rfl rfl (by decide +kernel) ⟨Nat.le_of_ble_eq_true rfl, Nat.le_of_ble_eq_true rfl⟩) hh rfl rfl [1] [0] [] rfl rfl rfl rfl (by decide) rfl rfl hl rfl (Nat.le_of_ble_eq_true rfl) dL_law_2674 ⟨Nat.le_of_ble_eq_true rfl, (Nat.le_of_ble_eq_true rfl)⟩ (fun _ _ _ _ _ h => h.elim) (fun v w ty1 H locs hp hh => ?_)
  obtain ⟨rfl, rfl, rfl⟩ := hp
  have hh : kH D kStr e0 A s H [(o1, .inl (z3, 1, .inr (.inl (fun _ => 0)))), (ma, .inr (16, [.int 1, .ref m1, .ref m2, .ref m3, .ref m4, .ref m5, .ref m6, .ref m7, .ref m8, .int 0, .int 0]))] [(z3, .long), (z3, .long)] _ := hh
  refine W.eq (g2 := F0 m 2677 ls [.int 1]) (by first | rfl | decide) ?_
  refine lv_iload hx hb dL_law_2677 (lv_at hl 1 rfl) ?_
  refine lv_icmp_eq (tgt := 2684) hx hb dL_law_2679 (by decide) (fun _ => ?_) (fun c_2679 => absurd (by decide) c_2679)
  refine lv_iload hx hb dL_law_2684 (lv_at hl 1 rfl) ?_
  refine lv_if_ne (tgt := 2701) hx hb dL_law_2686 (by decide) (fun _ => ?_) (fun c_2686 => absurd c_2686 (by decide))
  refine lv_goto (tgt := 3429) hx hb dL_law_2701 (by decide) ?_
  refine W.widen (k := 1000) (n := 100000) (Nat.le_of_ble_eq_true rfl) (Nat.le_of_ble_eq_true rfl) ?_
  exact kk _ _ _ hh.2.2.2.1 (lv_sub hl [7, 2] rfl)
set_option maxHeartbeats 4000000 in
set_option maxRecDepth 100000 in
theorem law_38 {p : Program} {l : Launch} {e : Env} {s : State} {m : MethodId} {below : List Frame} {meth : Method} {c : Code} {Q : State → Prop} {b : Nat} {xs : Nat → Int32} {D : va_G} {e0 : kE} {A : Nat → Prop} (hst : l.stackTraces = false) (hx : p.tables.exec = Jvm.exec) (hb : c.code = cL_law) (hml : c.maxLocals = 9) (hts : ∀ w ∈ lw_tbl, w.before #[Value.ref b] s = true) (hown : s.vm.findClass RL = some m.cls) (hX : va_X b 5 xs s s.heap) (hbl : b < s.heap.size) (hbA : ¬ A b) {xa x1 x2 x3 x4 x5 g1 g2 g3 g4 h1 h2 h3 h4 h5 ma m1 m2 m3 m4 m5 m6 m7 m8 o1 o2 : Nat} {z1 z2 z3 z4 : ClassId}  {H : Heap} {locs : List Loc} {ls : Array Slot} (hh : kH D kStr e0 A s H (lwW e0 xa x1 x2 x3 x4 x5 g1 g2 g3 g4 h1 h2 h3 h4 h5 ma m1 m2 m3 m4 m5 m6 m7 m8 o1 o2 z1 z2 z3 z4) (lwT z1 z2 z3 z4) locs) (hl : lv_has ls 9 (lwL b xa ma o1 o2)) (kk : lwK p l e s m below meth c Q b A) : W p l e room_1 s m #[Value.ref b] below meth c H locs 100 10000 Q (F0 m 2704 ls []) := by
  have hh : kH D kStr e0 A s H [(xa, .inr (11, [.ref x1, .int 0, .ref x2, .int 0, .ref x3, .ref x4, .ref x5, .int 0])), (ma, .inr (16, [.int 0, .ref m1, .ref m2, .ref m3, .ref m4, .ref m5, .ref m6, .ref m7, .ref m8, .int 0, .int 0])), (m8, .inr (4, [.int 0, .ref e0.1, .int 0])), (o1, .inl (z3, 1, .inr (.inl (fun _ => 0))))] [(z3, .long)] _ := hh.sub [0, 5, 13, 14] [2] rfl rfl rfl
  have hl : lv_has ls 9 [(5, .int 0), (4, .ref o2), (3, .ref o1), (2, .ref ma), (1, .ref xa), (0, .ref b)] := hl
  refine lv_aload_n hx hb dL_law_2704 rfl (lv_at hl 4 rfl) ?_
  refine lv_aload_n hx hb dL_law_2705 rfl (lv_at hl 5 rfl) ?_
  refine lv_iload hx hb dL_law_2706 (lv_at hl 0 rfl) ?_
  refine lv_iconst (v := 1) hx hb dL_law_2708 (by decide) ?_
  refine lv_iadd hx hb dL_law_2709 ?_
  refine W.eq (g2 := F0 m 2710 ls [.int 1, .ref b, .ref xa]) (by first | rfl | decide) ?_
  refine va_sld hx hb hX hbl hbA hh.2.2.2.1 (by unfold vp_in; decide) dL_law_2710 ?_
  refine W.eq (g2 := F0 m 2711 ls [.int (xs 1), .ref xa]) rfl ?_
  refine lv_aload_n hx hb dL_law_2711 rfl (lv_at hl 5 rfl) ?_
  refine lv_iload hx hb dL_law_2712 (lv_at hl 0 rfl) ?_
  refine lv_iconst (v := 2) hx hb dL_law_2714 (by decide) ?_
  refine lv_iadd hx hb dL_law_2715 ?_
  refine W.eq (g2 := F0 m 2716 ls [.int 2, .ref b, .int (xs 1), .ref xa]) (by first | rfl | decide) ?_
  refine va_sld hx hb hX hbl hbA hh.2.2.2.1 (by unfold vp_in; decide) dL_law_2716 ?_
  refine W.eq (g2 := F0 m 2717 ls [.int (xs 2), .int (xs 1), .ref xa]) rfl ?_
  refine lv_aload_n hx hb dL_law_2717 rfl (lv_at hl 2 rfl) ?_
  refine k_callSX (wr := [(ma, .inr (16, [.int 0, .ref m1, .ref m2, .ref m3, .ref m4, .ref m5, .ref m6, .ref m7, .ref m8, .int 0, .int 0])), (m8, .inr (4, [.int 0, .ref e0.1, .int 0]))]) (rest := []) (own := RL) ⟨hx, hb, hml, hown, hts⟩ (c_L_repair l hst D e0 xa x1 x2 x3 x4 x5 ((xs 1)) ((xs 2)) o1 z3 ((fun _ => 0)) ) (vx_cwSW 4 hts gl_S_c_L_repair rfl rfl rfl (by decide +kernel) ⟨Nat.le_of_ble_eq_true rfl, Nat.le_of_ble_eq_true rfl⟩) hh [0, 3] [1, 2] [0] rfl rfl rfl rfl (by decide) rfl rfl hl rfl (Nat.le_of_ble_eq_true rfl) dL_law_2718 ⟨Nat.le_of_ble_eq_true rfl, (Nat.le_of_ble_eq_true rfl)⟩ (fun _ _ _ _ _ h => h.elim) (fun v w ty1 H locs hp hh => ?_)
  obtain ⟨rfl, rfl, rfl⟩ := hp
  have hh : kH D kStr e0 A s H [(ma, .inr (16, [.int 0, .ref m1, .ref m2, .ref m3, .ref m4, .ref m5, .ref m6, .ref m7, .ref m8, .int 0, .int 0])), (m8, .inr (4, [.int 0, .ref e0.1, .int 0])), (o1, .inl (z3, 1, .inr (.inl (fun _ => 0))))] [(z3, .long), (z3, .long)] _ := hh
  refine W.eq (g2 := F0 m 2721 ls [.int 1]) (by first | rfl | decide) ?_
  refine lv_istore (lv' := [(6, .int 1), (5, .int 0), (4, .ref o2), (3, .ref o1), (2, .ref ma), (1, .ref xa), (0, .ref b)]) hx hb dL_law_2721 hl (by decide) rfl (fun ls hl => ?_)
  refine lv_aload_n hx hb dL_law_2723 rfl (lv_at hl 4 rfl) ?_
  refine lv_aload_n hx hb dL_law_2724 rfl (lv_at hl 6 rfl) ?_
  refine lv_iload hx hb dL_law_2725 (lv_at hl 1 rfl) ?_
  refine lv_iconst (v := 1) hx hb dL_law_2727 (by decide) ?_
  refine lv_iadd hx hb dL_law_2728 ?_
  refine W.eq (g2 := F0 m 2729 ls [.int 1, .ref b, .ref ma]) (by first | rfl | decide) ?_
  refine va_sld hx hb hX hbl hbA hh.2.2.2.1 (by unfold vp_in; decide) dL_law_2729 ?_
  refine W.eq (g2 := F0 m 2730 ls [.int (xs 1), .ref ma]) rfl ?_
  refine lv_aload_n hx hb dL_law_2730 rfl (lv_at hl 6 rfl) ?_
  refine lv_iload hx hb dL_law_2731 (lv_at hl 1 rfl) ?_
  refine lv_iconst (v := 2) hx hb dL_law_2733 (by decide) ?_
  refine lv_iadd hx hb dL_law_2734 ?_
  refine W.eq (g2 := F0 m 2735 ls [.int 2, .ref b, .int (xs 1), .ref ma]) (by first | rfl | decide) ?_
  refine va_sld hx hb hX hbl hbA hh.2.2.2.1 (by unfold vp_in; decide) dL_law_2735 ?_
  refine W.eq (g2 := F0 m 2736 ls [.int (xs 2), .int (xs 1), .ref ma]) rfl ?_
  refine k_callV (C := RX11) (T := TX11) (N := 11) (ci := 16) (q0 := 0) (wr := [(o1, .inl (z3, 1, .inr (.inl (fun _ => 0))))]) (rest := []) (own := RL) ⟨hx, hb, hml, hown, hts⟩ (c_X11_repair l hst D e0 ma 0 m1 m2 m3 m4 m5 m6 m7 m8 ((xs 1)) ((xs 2)) ) (cwV 2 hts gl_V_c_X11_repair rfl rfl rfl (by decide +kernel) ⟨Nat.le_of_ble_eq_true rfl, Nat.le_of_ble_eq_true rfl⟩) hh rfl rfl [0, 1] [2] [] rfl rfl rfl rfl (by decide) rfl rfl hl rfl (Nat.le_of_ble_eq_true rfl) dL_law_2736 ⟨Nat.le_of_ble_eq_true rfl, (Nat.le_of_ble_eq_true rfl)⟩ (fun _ _ _ _ _ h => h.elim) (fun v w ty1 H locs hp hh => ?_)
  obtain ⟨rfl, rfl, rfl⟩ := hp
  have hh : kH D kStr e0 A s H [(o1, .inl (z3, 1, .inr (.inl (fun _ => 0)))), (ma, .inr (16, [.int 1, .ref m1, .ref m2, .ref m3, .ref m4, .ref m5, .ref m6, .ref m7, .ref m8, .int 0, .int 0]))] [(z3, .long), (z3, .long)] _ := hh
  refine W.eq (g2 := F0 m 2739 ls [.int 0]) (by first | rfl | decide) ?_
  refine lv_istore (lv' := [(7, .int 0), (6, .int 1), (5, .int 0), (4, .ref o2), (3, .ref o1), (2, .ref ma), (1, .ref xa), (0, .ref b)]) hx hb dL_law_2739 hl (by decide) rfl (fun ls hl => ?_)
  refine lv_aload_n hx hb dL_law_2741 rfl (lv_at hl 5 rfl) ?_
  refine k_callV (C := RX11) (T := TX11) (N := 11) (ci := 16) (q0 := 1) (wr := [(o1, .inl (z3, 1, .inr (.inl (fun _ => 0))))]) (rest := []) (own := RL) ⟨hx, hb, hml, hown, hts⟩ (c_X11_thrown l hst D e0 ma 1 m1 m2 m3 m4 m5 m6 m7 m8 ) (cwV 0 hts gl_V_c_X11_thrown rfl rfl rfl (by decide +kernel) ⟨Nat.le_of_ble_eq_true rfl, Nat.le_of_ble_eq_true rfl⟩) hh rfl rfl [1] [0] [] rfl rfl rfl rfl (by decide) rfl rfl hl rfl (Nat.le_of_ble_eq_true rfl) dL_law_2742 ⟨Nat.le_of_ble_eq_true rfl, (Nat.le_of_ble_eq_true rfl)⟩ (fun _ _ _ _ _ h => h.elim) (fun v w ty1 H locs hp hh => ?_)
  obtain ⟨rfl, rfl, rfl⟩ := hp
  have hh : kH D kStr e0 A s H [(o1, .inl (z3, 1, .inr (.inl (fun _ => 0)))), (ma, .inr (16, [.int 1, .ref m1, .ref m2, .ref m3, .ref m4, .ref m5, .ref m6, .ref m7, .ref m8, .int 0, .int 0]))] [(z3, .long), (z3, .long)] _ := hh
  refine W.eq (g2 := F0 m 2745 ls [.int 1]) (by first | rfl | decide) ?_
  refine lv_iload hx hb dL_law_2745 (lv_at hl 1 rfl) ?_
  refine lv_icmp_eq (tgt := 2752) hx hb dL_law_2747 (by decide) (fun _ => ?_) (fun c_2747 => absurd (by decide) c_2747)
  refine lv_iload hx hb dL_law_2752 (lv_at hl 1 rfl) ?_
  refine lv_if_ne (tgt := 2769) hx hb dL_law_2754 (by decide) (fun _ => ?_) (fun c_2754 => absurd c_2754 (by decide))
  refine lv_goto (tgt := 3429) hx hb dL_law_2769 (by decide) ?_
  refine W.widen (k := 1000) (n := 100000) (Nat.le_of_ble_eq_true rfl) (Nat.le_of_ble_eq_true rfl) ?_
  exact kk _ _ _ hh.2.2.2.1 (lv_sub hl [7, 2] rfl)
set_option maxHeartbeats 4000000 in
set_option maxRecDepth 100000 in
theorem law_39 {p : Program} {l : Launch} {e : Env} {s : State} {m : MethodId} {below : List Frame} {meth : Method} {c : Code} {Q : State → Prop} {b : Nat} {xs : Nat → Int32} {D : va_G} {e0 : kE} {A : Nat → Prop} (hst : l.stackTraces = false) (hx : p.tables.exec = Jvm.exec) (hb : c.code = cL_law) (hml : c.maxLocals = 9) (hts : ∀ w ∈ lw_tbl, w.before #[Value.ref b] s = true) (hown : s.vm.findClass RL = some m.cls) (hX : va_X b 5 xs s s.heap) (hbl : b < s.heap.size) (hbA : ¬ A b) {xa x1 x2 x3 x4 x5 g1 g2 g3 g4 h1 h2 h3 h4 h5 ma m1 m2 m3 m4 m5 m6 m7 m8 o1 o2 : Nat} {z1 z2 z3 z4 : ClassId}  {H : Heap} {locs : List Loc} {ls : Array Slot} (hh : kH D kStr e0 A s H (lwW e0 xa x1 x2 x3 x4 x5 g1 g2 g3 g4 h1 h2 h3 h4 h5 ma m1 m2 m3 m4 m5 m6 m7 m8 o1 o2 z1 z2 z3 z4) (lwT z1 z2 z3 z4) locs) (hl : lv_has ls 9 (lwL b xa ma o1 o2)) (kk : lwK p l e s m below meth c Q b A) : W p l e room_1 s m #[Value.ref b] below meth c H locs 100 10000 Q (F0 m 2772 ls []) := by
  have hh : kH D kStr e0 A s H [(xa, .inr (11, [.ref x1, .int 0, .ref x2, .int 0, .ref x3, .ref x4, .ref x5, .int 0])), (ma, .inr (16, [.int 0, .ref m1, .ref m2, .ref m3, .ref m4, .ref m5, .ref m6, .ref m7, .ref m8, .int 0, .int 0])), (m2, .inr (4, [.int 0, .ref e0.1, .int 0])), (o1, .inl (z3, 1, .inr (.inl (fun _ => 0))))] [(z3, .long)] _ := hh.sub [0, 5, 7, 14] [2] rfl rfl rfl
  have hl : lv_has ls 9 [(5, .int 0), (4, .ref o2), (3, .ref o1), (2, .ref ma), (1, .ref xa), (0, .ref b)] := hl
  refine lv_aload_n hx hb dL_law_2772 rfl (lv_at hl 4 rfl) ?_
  refine lv_aload_n hx hb dL_law_2773 rfl (lv_at hl 5 rfl) ?_
  refine lv_iload hx hb dL_law_2774 (lv_at hl 0 rfl) ?_
  refine lv_iconst (v := 1) hx hb dL_law_2776 (by decide) ?_
  refine lv_iadd hx hb dL_law_2777 ?_
  refine W.eq (g2 := F0 m 2778 ls [.int 1, .ref b, .ref xa]) (by first | rfl | decide) ?_
  refine va_sld hx hb hX hbl hbA hh.2.2.2.1 (by unfold vp_in; decide) dL_law_2778 ?_
  refine W.eq (g2 := F0 m 2779 ls [.int (xs 1), .ref xa]) rfl ?_
  refine lv_aload_n hx hb dL_law_2779 rfl (lv_at hl 5 rfl) ?_
  refine lv_iload hx hb dL_law_2780 (lv_at hl 0 rfl) ?_
  refine lv_iconst (v := 2) hx hb dL_law_2782 (by decide) ?_
  refine lv_iadd hx hb dL_law_2783 ?_
  refine W.eq (g2 := F0 m 2784 ls [.int 2, .ref b, .int (xs 1), .ref xa]) (by first | rfl | decide) ?_
  refine va_sld hx hb hX hbl hbA hh.2.2.2.1 (by unfold vp_in; decide) dL_law_2784 ?_
  refine W.eq (g2 := F0 m 2785 ls [.int (xs 2), .int (xs 1), .ref xa]) rfl ?_
  refine lv_aload_n hx hb dL_law_2785 rfl (lv_at hl 5 rfl) ?_
  refine lv_iload hx hb dL_law_2786 (lv_at hl 0 rfl) ?_
  refine lv_iconst (v := 3) hx hb dL_law_2788 (by decide) ?_
  refine lv_iadd hx hb dL_law_2789 ?_
  refine W.eq (g2 := F0 m 2790 ls [.int 3, .ref b, .int (xs 2), .int (xs 1), .ref xa]) (by first | rfl | decide) ?_
  refine va_sld hx hb hX hbl hbA hh.2.2.2.1 (by unfold vp_in; decide) dL_law_2790 ?_
  refine W.eq (g2 := F0 m 2791 ls [.int (xs 3), .int (xs 2), .int (xs 1), .ref xa]) rfl ?_
  refine lv_aload_n hx hb dL_law_2791 rfl (lv_at hl 2 rfl) ?_
  refine k_callSX (wr := [(ma, .inr (16, [.int 0, .ref m1, .ref m2, .ref m3, .ref m4, .ref m5, .ref m6, .ref m7, .ref m8, .int 0, .int 0])), (m2, .inr (4, [.int 0, .ref e0.1, .int 0]))]) (rest := []) (own := RL) ⟨hx, hb, hml, hown, hts⟩ (c_L_padding l hst D e0 xa x1 x2 x3 x4 x5 ((xs 1)) ((xs 2)) ((xs 3)) o1 z3 ((fun _ => 0)) ) (vx_cwSW 5 hts gl_S_c_L_padding rfl rfl rfl (by decide +kernel) ⟨Nat.le_of_ble_eq_true rfl, Nat.le_of_ble_eq_true rfl⟩) hh [0, 3] [1, 2] [0] rfl rfl rfl rfl (by decide) rfl rfl hl rfl (Nat.le_of_ble_eq_true rfl) dL_law_2792 ⟨Nat.le_of_ble_eq_true rfl, (Nat.le_of_ble_eq_true rfl)⟩ (fun _ _ _ _ _ h => h.elim) (fun v w ty1 H locs hp hh => ?_)
  obtain ⟨rfl, rfl, rfl⟩ := hp
  have hh : kH D kStr e0 A s H [(ma, .inr (16, [.int 0, .ref m1, .ref m2, .ref m3, .ref m4, .ref m5, .ref m6, .ref m7, .ref m8, .int 0, .int 0])), (m2, .inr (4, [.int 0, .ref e0.1, .int 0])), (o1, .inl (z3, 1, .inr (.inl (fun _ => 0))))] [(z3, .long), (z3, .long)] _ := hh
  refine W.eq (g2 := F0 m 2795 ls [.int 1]) (by first | rfl | decide) ?_
  refine lv_istore (lv' := [(6, .int 1), (5, .int 0), (4, .ref o2), (3, .ref o1), (2, .ref ma), (1, .ref xa), (0, .ref b)]) hx hb dL_law_2795 hl (by decide) rfl (fun ls hl => ?_)
  refine lv_aload_n hx hb dL_law_2797 rfl (lv_at hl 4 rfl) ?_
  refine lv_aload_n hx hb dL_law_2798 rfl (lv_at hl 6 rfl) ?_
  refine lv_iload hx hb dL_law_2799 (lv_at hl 1 rfl) ?_
  refine lv_iconst (v := 1) hx hb dL_law_2801 (by decide) ?_
  refine lv_iadd hx hb dL_law_2802 ?_
  refine W.eq (g2 := F0 m 2803 ls [.int 1, .ref b, .ref ma]) (by first | rfl | decide) ?_
  refine va_sld hx hb hX hbl hbA hh.2.2.2.1 (by unfold vp_in; decide) dL_law_2803 ?_
  refine W.eq (g2 := F0 m 2804 ls [.int (xs 1), .ref ma]) rfl ?_
  refine lv_aload_n hx hb dL_law_2804 rfl (lv_at hl 6 rfl) ?_
  refine lv_iload hx hb dL_law_2805 (lv_at hl 1 rfl) ?_
  refine lv_iconst (v := 2) hx hb dL_law_2807 (by decide) ?_
  refine lv_iadd hx hb dL_law_2808 ?_
  refine W.eq (g2 := F0 m 2809 ls [.int 2, .ref b, .int (xs 1), .ref ma]) (by first | rfl | decide) ?_
  refine va_sld hx hb hX hbl hbA hh.2.2.2.1 (by unfold vp_in; decide) dL_law_2809 ?_
  refine W.eq (g2 := F0 m 2810 ls [.int (xs 2), .int (xs 1), .ref ma]) rfl ?_
  refine lv_aload_n hx hb dL_law_2810 rfl (lv_at hl 6 rfl) ?_
  refine lv_iload hx hb dL_law_2811 (lv_at hl 1 rfl) ?_
  refine lv_iconst (v := 3) hx hb dL_law_2813 (by decide) ?_
  refine lv_iadd hx hb dL_law_2814 ?_
  refine W.eq (g2 := F0 m 2815 ls [.int 3, .ref b, .int (xs 2), .int (xs 1), .ref ma]) (by first | rfl | decide) ?_
  refine va_sld hx hb hX hbl hbA hh.2.2.2.1 (by unfold vp_in; decide) dL_law_2815 ?_
  refine W.eq (g2 := F0 m 2816 ls [.int (xs 3), .int (xs 2), .int (xs 1), .ref ma]) rfl ?_
  refine k_callV (C := RX11) (T := TX11) (N := 11) (ci := 16) (q0 := 0) (wr := [(o1, .inl (z3, 1, .inr (.inl (fun _ => 0))))]) (rest := []) (own := RL) ⟨hx, hb, hml, hown, hts⟩ (c_X11_padding l hst D e0 ma 0 m1 m2 m3 m4 m5 m6 m7 m8 ((xs 1)) ((xs 2)) ((xs 3)) ) (cwV 3 hts gl_V_c_X11_padding rfl rfl rfl (by decide +kernel) ⟨Nat.le_of_ble_eq_true rfl, Nat.le_of_ble_eq_true rfl⟩) hh rfl rfl [0, 1] [2] [] rfl rfl rfl rfl (by decide) rfl rfl hl rfl (Nat.le_of_ble_eq_true rfl) dL_law_2816 ⟨Nat.le_of_ble_eq_true rfl, (Nat.le_of_ble_eq_true rfl)⟩ (fun _ _ _ _ _ h => h.elim) (fun v w ty1 H locs hp hh => ?_)
  obtain ⟨rfl, rfl, rfl⟩ := hp
  have hh : kH D kStr e0 A s H [(o1, .inl (z3, 1, .inr (.inl (fun _ => 0)))), (ma, .inr (16, [.int 1, .ref m1, .ref m2, .ref m3, .ref m4, .ref m5, .ref m6, .ref m7, .ref m8, .int 0, .int 0]))] [(z3, .long), (z3, .long)] _ := hh
  refine W.eq (g2 := F0 m 2819 ls [.int 0]) (by first | rfl | decide) ?_
  refine lv_istore (lv' := [(7, .int 0), (6, .int 1), (5, .int 0), (4, .ref o2), (3, .ref o1), (2, .ref ma), (1, .ref xa), (0, .ref b)]) hx hb dL_law_2819 hl (by decide) rfl (fun ls hl => ?_)
  refine lv_aload_n hx hb dL_law_2821 rfl (lv_at hl 5 rfl) ?_
  refine k_callV (C := RX11) (T := TX11) (N := 11) (ci := 16) (q0 := 1) (wr := [(o1, .inl (z3, 1, .inr (.inl (fun _ => 0))))]) (rest := []) (own := RL) ⟨hx, hb, hml, hown, hts⟩ (c_X11_thrown l hst D e0 ma 1 m1 m2 m3 m4 m5 m6 m7 m8 ) (cwV 0 hts gl_V_c_X11_thrown rfl rfl rfl (by decide +kernel) ⟨Nat.le_of_ble_eq_true rfl, Nat.le_of_ble_eq_true rfl⟩) hh rfl rfl [1] [0] [] rfl rfl rfl rfl (by decide) rfl rfl hl rfl (Nat.le_of_ble_eq_true rfl) dL_law_2822 ⟨Nat.le_of_ble_eq_true rfl, (Nat.le_of_ble_eq_true rfl)⟩ (fun _ _ _ _ _ h => h.elim) (fun v w ty1 H locs hp hh => ?_)
  obtain ⟨rfl, rfl, rfl⟩ := hp
  have hh : kH D kStr e0 A s H [(o1, .inl (z3, 1, .inr (.inl (fun _ => 0)))), (ma, .inr (16, [.int 1, .ref m1, .ref m2, .ref m3, .ref m4, .ref m5, .ref m6, .ref m7, .ref m8, .int 0, .int 0]))] [(z3, .long), (z3, .long)] _ := hh
  refine W.eq (g2 := F0 m 2825 ls [.int 1]) (by first | rfl | decide) ?_
  refine lv_iload hx hb dL_law_2825 (lv_at hl 1 rfl) ?_
  refine lv_icmp_eq (tgt := 2832) hx hb dL_law_2827 (by decide) (fun _ => ?_) (fun c_2827 => absurd (by decide) c_2827)
  refine lv_iload hx hb dL_law_2832 (lv_at hl 1 rfl) ?_
  refine lv_if_ne (tgt := 2849) hx hb dL_law_2834 (by decide) (fun _ => ?_) (fun c_2834 => absurd c_2834 (by decide))
  refine lv_goto (tgt := 3429) hx hb dL_law_2849 (by decide) ?_
  refine W.widen (k := 1000) (n := 100000) (Nat.le_of_ble_eq_true rfl) (Nat.le_of_ble_eq_true rfl) ?_
  exact kk _ _ _ hh.2.2.2.1 (lv_sub hl [7, 2] rfl)
set_option maxHeartbeats 4000000 in
set_option maxRecDepth 100000 in
theorem law_41 {p : Program} {l : Launch} {e : Env} {s : State} {m : MethodId} {below : List Frame} {meth : Method} {c : Code} {Q : State → Prop} {b : Nat} {xs : Nat → Int32} {D : va_G} {e0 : kE} {A : Nat → Prop} (hst : l.stackTraces = false) (hx : p.tables.exec = Jvm.exec) (hb : c.code = cL_law) (hml : c.maxLocals = 9) (hts : ∀ w ∈ lw_tbl, w.before #[Value.ref b] s = true) (hown : s.vm.findClass RL = some m.cls) (hX : va_X b 5 xs s s.heap) (hbl : b < s.heap.size) (hbA : ¬ A b) {xa x1 x2 x3 x4 x5 g1 g2 g3 g4 h1 h2 h3 h4 h5 ma m1 m2 m3 m4 m5 m6 m7 m8 o1 o2 : Nat} {z1 z2 z3 z4 : ClassId}  {H : Heap} {locs : List Loc} {ls : Array Slot} (hh : kH D kStr e0 A s H (lwW e0 xa x1 x2 x3 x4 x5 g1 g2 g3 g4 h1 h2 h3 h4 h5 ma m1 m2 m3 m4 m5 m6 m7 m8 o1 o2 z1 z2 z3 z4) (lwT z1 z2 z3 z4) locs) (hl : lv_has ls 9 (lwL b xa ma o1 o2)) (kk : lwK p l e s m below meth c Q b A) : W p l e room_1 s m #[Value.ref b] below meth c H locs 100 10000 Q (F0 m 2920 ls []) := by
  have hh : kH D kStr e0 A s H [(xa, .inr (11, [.ref x1, .int 0, .ref x2, .int 0, .ref x3, .ref x4, .ref x5, .int 0])), (x3, .inr (9, [.ref g1, .int 0, .ref g2, .int 0, .ref g3, .ref g4])), (ma, .inr (16, [.int 0, .ref m1, .ref m2, .ref m3, .ref m4, .ref m5, .ref m6, .ref m7, .ref m8, .int 0, .int 0])), (m3, .inr (4, [.int 0, .ref e0.1, .int 0])), (o1, .inl (z3, 1, .inr (.inl (fun _ => 0))))] [(z3, .long)] _ := hh.sub [0, 1, 5, 8, 14] [2] rfl rfl rfl
  have hl : lv_has ls 9 [(5, .int 0), (4, .ref o2), (3, .ref o1), (2, .ref ma), (1, .ref xa), (0, .ref b)] := hl
  refine lv_aload_n hx hb dL_law_2920 rfl (lv_at hl 4 rfl) ?_
  refine lv_aload_n hx hb dL_law_2921 rfl (lv_at hl 5 rfl) ?_
  refine lv_iload hx hb dL_law_2922 (lv_at hl 0 rfl) ?_
  refine lv_iconst (v := 1) hx hb dL_law_2924 (by decide) ?_
  refine lv_iadd hx hb dL_law_2925 ?_
  refine W.eq (g2 := F0 m 2926 ls [.int 1, .ref b, .ref xa]) (by first | rfl | decide) ?_
  refine va_sld hx hb hX hbl hbA hh.2.2.2.1 (by unfold vp_in; decide) dL_law_2926 ?_
  refine W.eq (g2 := F0 m 2927 ls [.int (xs 1), .ref xa]) rfl ?_
  refine lv_aload_n hx hb dL_law_2927 rfl (lv_at hl 5 rfl) ?_
  refine lv_iload hx hb dL_law_2928 (lv_at hl 0 rfl) ?_
  refine lv_iconst (v := 2) hx hb dL_law_2930 (by decide) ?_
  refine lv_iadd hx hb dL_law_2931 ?_
  refine W.eq (g2 := F0 m 2932 ls [.int 2, .ref b, .int (xs 1), .ref xa]) (by first | rfl | decide) ?_
  refine va_sld hx hb hX hbl hbA hh.2.2.2.1 (by unfold vp_in; decide) dL_law_2932 ?_
  refine W.eq (g2 := F0 m 2933 ls [.int (xs 2), .int (xs 1), .ref xa]) rfl ?_
  refine lv_aload_n hx hb dL_law_2933 rfl (lv_at hl 5 rfl) ?_
  refine lv_iload hx hb dL_law_2934 (lv_at hl 0 rfl) ?_
  refine lv_iconst (v := 3) hx hb dL_law_2936 (by decide) ?_
  refine lv_iadd hx hb dL_law_2937 ?_
  refine W.eq (g2 := F0 m 2938 ls [.int 3, .ref b, .int (xs 2), .int (xs 1), .ref xa]) (by first | rfl | decide) ?_
  refine va_sld hx hb hX hbl hbA hh.2.2.2.1 (by unfold vp_in; decide) dL_law_2938 ?_
  refine W.eq (g2 := F0 m 2939 ls [.int (xs 3), .int (xs 2), .int (xs 1), .ref xa]) rfl ?_
  refine lv_aload_n hx hb dL_law_2939 rfl (lv_at hl 2 rfl) ?_
  refine k_callSX (wr := [(ma, .inr (16, [.int 0, .ref m1, .ref m2, .ref m3, .ref m4, .ref m5, .ref m6, .ref m7, .ref m8, .int 0, .int 0])), (m3, .inr (4, [.int 0, .ref e0.1, .int 0]))]) (rest := []) (own := RL) ⟨hx, hb, hml, hown, hts⟩ (c_L_split l hst D e0 xa x1 x2 x3 x4 x5 g1 g2 g3 g4 ((xs 1)) ((xs 2)) ((xs 3)) o1 z3 ((fun _ => 0)) ) (vx_cwSW 5 hts gl_S_c_L_split rfl rfl rfl (by decide +kernel) ⟨Nat.le_of_ble_eq_true rfl, Nat.le_of_ble_eq_true rfl⟩) hh [0, 1, 4] [2, 3] [0] rfl rfl rfl rfl (by decide) rfl rfl hl rfl (Nat.le_of_ble_eq_true rfl) dL_law_2940 ⟨Nat.le_of_ble_eq_true rfl, (Nat.le_of_ble_eq_true rfl)⟩ (fun _ _ _ _ _ h => h.elim) (fun v w ty1 H locs hp hh => ?_)
  obtain ⟨rfl, rfl, rfl⟩ := hp
  have hh : kH D kStr e0 A s H [(ma, .inr (16, [.int 0, .ref m1, .ref m2, .ref m3, .ref m4, .ref m5, .ref m6, .ref m7, .ref m8, .int 0, .int 0])), (m3, .inr (4, [.int 0, .ref e0.1, .int 0])), (o1, .inl (z3, 1, .inr (.inl (fun _ => 0))))] [(z3, .long), (z3, .long)] _ := hh
  refine W.eq (g2 := F0 m 2943 ls [.int 1]) (by first | rfl | decide) ?_
  refine lv_istore (lv' := [(6, .int 1), (5, .int 0), (4, .ref o2), (3, .ref o1), (2, .ref ma), (1, .ref xa), (0, .ref b)]) hx hb dL_law_2943 hl (by decide) rfl (fun ls hl => ?_)
  refine lv_aload_n hx hb dL_law_2945 rfl (lv_at hl 4 rfl) ?_
  refine lv_aload_n hx hb dL_law_2946 rfl (lv_at hl 6 rfl) ?_
  refine lv_iload hx hb dL_law_2947 (lv_at hl 1 rfl) ?_
  refine lv_iconst (v := 1) hx hb dL_law_2949 (by decide) ?_
  refine lv_iadd hx hb dL_law_2950 ?_
  refine W.eq (g2 := F0 m 2951 ls [.int 1, .ref b, .ref ma]) (by first | rfl | decide) ?_
  refine va_sld hx hb hX hbl hbA hh.2.2.2.1 (by unfold vp_in; decide) dL_law_2951 ?_
  refine W.eq (g2 := F0 m 2952 ls [.int (xs 1), .ref ma]) rfl ?_
  refine lv_aload_n hx hb dL_law_2952 rfl (lv_at hl 6 rfl) ?_
  refine lv_iload hx hb dL_law_2953 (lv_at hl 1 rfl) ?_
  refine lv_iconst (v := 2) hx hb dL_law_2955 (by decide) ?_
  refine lv_iadd hx hb dL_law_2956 ?_
  refine W.eq (g2 := F0 m 2957 ls [.int 2, .ref b, .int (xs 1), .ref ma]) (by first | rfl | decide) ?_
  refine va_sld hx hb hX hbl hbA hh.2.2.2.1 (by unfold vp_in; decide) dL_law_2957 ?_
  refine W.eq (g2 := F0 m 2958 ls [.int (xs 2), .int (xs 1), .ref ma]) rfl ?_
  refine lv_aload_n hx hb dL_law_2958 rfl (lv_at hl 6 rfl) ?_
  refine lv_iload hx hb dL_law_2959 (lv_at hl 1 rfl) ?_
  refine lv_iconst (v := 3) hx hb dL_law_2961 (by decide) ?_
  refine lv_iadd hx hb dL_law_2962 ?_
  refine W.eq (g2 := F0 m 2963 ls [.int 3, .ref b, .int (xs 2), .int (xs 1), .ref ma]) (by first | rfl | decide) ?_
  refine va_sld hx hb hX hbl hbA hh.2.2.2.1 (by unfold vp_in; decide) dL_law_2963 ?_
  refine W.eq (g2 := F0 m 2964 ls [.int (xs 3), .int (xs 2), .int (xs 1), .ref ma]) rfl ?_
  refine k_callV (C := RX11) (T := TX11) (N := 11) (ci := 16) (q0 := 0) (wr := [(o1, .inl (z3, 1, .inr (.inl (fun _ => 0))))]) (rest := []) (own := RL) ⟨hx, hb, hml, hown, hts⟩ (c_X11_split l hst D e0 ma 0 m1 m2 m3 m4 m5 m6 m7 m8 ((xs 1)) ((xs 2)) ((xs 3)) ) (cwV 3 hts gl_V_c_X11_split rfl rfl rfl (by decide +kernel) ⟨Nat.le_of_ble_eq_true rfl, Nat.le_of_ble_eq_true rfl⟩) hh rfl rfl [0, 1] [2] [] rfl rfl rfl rfl (by decide) rfl rfl hl rfl (Nat.le_of_ble_eq_true rfl) dL_law_2964 ⟨Nat.le_of_ble_eq_true rfl, (Nat.le_of_ble_eq_true rfl)⟩ (fun _ _ _ _ _ h => h.elim) (fun v w ty1 H locs hp hh => ?_)
  obtain ⟨rfl, rfl, rfl⟩ := hp
  have hh : kH D kStr e0 A s H [(o1, .inl (z3, 1, .inr (.inl (fun _ => 0)))), (ma, .inr (16, [.int 1, .ref m1, .ref m2, .ref m3, .ref m4, .ref m5, .ref m6, .ref m7, .ref m8, .int 0, .int 0]))] [(z3, .long), (z3, .long)] _ := hh
  refine W.eq (g2 := F0 m 2967 ls [.int 0]) (by first | rfl | decide) ?_
  refine lv_istore (lv' := [(7, .int 0), (6, .int 1), (5, .int 0), (4, .ref o2), (3, .ref o1), (2, .ref ma), (1, .ref xa), (0, .ref b)]) hx hb dL_law_2967 hl (by decide) rfl (fun ls hl => ?_)
  refine lv_aload_n hx hb dL_law_2969 rfl (lv_at hl 5 rfl) ?_
  refine k_callV (C := RX11) (T := TX11) (N := 11) (ci := 16) (q0 := 1) (wr := [(o1, .inl (z3, 1, .inr (.inl (fun _ => 0))))]) (rest := []) (own := RL) ⟨hx, hb, hml, hown, hts⟩ (c_X11_thrown l hst D e0 ma 1 m1 m2 m3 m4 m5 m6 m7 m8 ) (cwV 0 hts gl_V_c_X11_thrown rfl rfl rfl (by decide +kernel) ⟨Nat.le_of_ble_eq_true rfl, Nat.le_of_ble_eq_true rfl⟩) hh rfl rfl [1] [0] [] rfl rfl rfl rfl (by decide) rfl rfl hl rfl (Nat.le_of_ble_eq_true rfl) dL_law_2970 ⟨Nat.le_of_ble_eq_true rfl, (Nat.le_of_ble_eq_true rfl)⟩ (fun _ _ _ _ _ h => h.elim) (fun v w ty1 H locs hp hh => ?_)
  obtain ⟨rfl, rfl, rfl⟩ := hp
  have hh : kH D kStr e0 A s H [(o1, .inl (z3, 1, .inr (.inl (fun _ => 0)))), (ma, .inr (16, [.int 1, .ref m1, .ref m2, .ref m3, .ref m4, .ref m5, .ref m6, .ref m7, .ref m8, .int 0, .int 0]))] [(z3, .long), (z3, .long)] _ := hh
  refine W.eq (g2 := F0 m 2973 ls [.int 1]) (by first | rfl | decide) ?_
  refine lv_iload hx hb dL_law_2973 (lv_at hl 1 rfl) ?_
  refine lv_icmp_eq (tgt := 2980) hx hb dL_law_2975 (by decide) (fun _ => ?_) (fun c_2975 => absurd (by decide) c_2975)
  refine lv_iload hx hb dL_law_2980 (lv_at hl 1 rfl) ?_
  refine lv_if_ne (tgt := 2997) hx hb dL_law_2982 (by decide) (fun _ => ?_) (fun c_2982 => absurd c_2982 (by decide))
  refine lv_goto (tgt := 3429) hx hb dL_law_2997 (by decide) ?_
  refine W.widen (k := 1000) (n := 100000) (Nat.le_of_ble_eq_true rfl) (Nat.le_of_ble_eq_true rfl) ?_
  exact kk _ _ _ hh.2.2.2.1 (lv_sub hl [7, 2] rfl)
set_option maxHeartbeats 4000000 in
set_option maxRecDepth 100000 in
theorem law_42 {p : Program} {l : Launch} {e : Env} {s : State} {m : MethodId} {below : List Frame} {meth : Method} {c : Code} {Q : State → Prop} {b : Nat} {xs : Nat → Int32} {D : va_G} {e0 : kE} {A : Nat → Prop} (hst : l.stackTraces = false) (hx : p.tables.exec = Jvm.exec) (hb : c.code = cL_law) (hml : c.maxLocals = 9) (hts : ∀ w ∈ lw_tbl, w.before #[Value.ref b] s = true) (hown : s.vm.findClass RL = some m.cls) (hX : va_X b 5 xs s s.heap) (hbl : b < s.heap.size) (hbA : ¬ A b) {xa x1 x2 x3 x4 x5 g1 g2 g3 g4 h1 h2 h3 h4 h5 ma m1 m2 m3 m4 m5 m6 m7 m8 o1 o2 : Nat} {z1 z2 z3 z4 : ClassId}  {H : Heap} {locs : List Loc} {ls : Array Slot} (hh : kH D kStr e0 A s H (lwW e0 xa x1 x2 x3 x4 x5 g1 g2 g3 g4 h1 h2 h3 h4 h5 ma m1 m2 m3 m4 m5 m6 m7 m8 o1 o2 z1 z2 z3 z4) (lwT z1 z2 z3 z4) locs) (hl : lv_has ls 9 (lwL b xa ma o1 o2)) (kk : lwK p l e s m below meth c Q b A) : W p l e room_1 s m #[Value.ref b] below meth c H locs 100 10000 Q (F0 m 3000 ls []) := by
  have hh : kH D kStr e0 A s H [(xa, .inr (11, [.ref x1, .int 0, .ref x2, .int 0, .ref x3, .ref x4, .ref x5, .int 0])), (x3, .inr (9, [.ref g1, .int 0, .ref g2, .int 0, .ref g3, .ref g4])), (ma, .inr (16, [.int 0, .ref m1, .ref m2, .ref m3, .ref m4, .ref m5, .ref m6, .ref m7, .ref m8, .int 0, .int 0])), (m3, .inr (4, [.int 0, .ref e0.1, .int 0])), (o1, .inl (z3, 1, .inr (.inl (fun _ => 0))))] [(z3, .long)] _ := hh.sub [0, 1, 5, 8, 14] [2] rfl rfl rfl
  have hl : lv_has ls 9 [(5, .int 0), (4, .ref o2), (3, .ref o1), (2, .ref ma), (1, .ref xa), (0, .ref b)] := hl
  refine lv_aload_n hx hb dL_law_3000 rfl (lv_at hl 4 rfl) ?_
  refine lv_aload_n hx hb dL_law_3001 rfl (lv_at hl 5 rfl) ?_
  refine lv_iload hx hb dL_law_3002 (lv_at hl 0 rfl) ?_
  refine lv_iconst (v := 1) hx hb dL_law_3004 (by decide) ?_
  refine lv_iadd hx hb dL_law_3005 ?_
  refine W.eq (g2 := F0 m 3006 ls [.int 1, .ref b, .ref xa]) (by first | rfl | decide) ?_
  refine va_sld hx hb hX hbl hbA hh.2.2.2.1 (by unfold vp_in; decide) dL_law_3006 ?_
  refine W.eq (g2 := F0 m 3007 ls [.int (xs 1), .ref xa]) rfl ?_
  refine lv_aload_n hx hb dL_law_3007 rfl (lv_at hl 5 rfl) ?_
  refine lv_iload hx hb dL_law_3008 (lv_at hl 0 rfl) ?_
  refine lv_iconst (v := 2) hx hb dL_law_3010 (by decide) ?_
  refine lv_iadd hx hb dL_law_3011 ?_
  refine W.eq (g2 := F0 m 3012 ls [.int 2, .ref b, .int (xs 1), .ref xa]) (by first | rfl | decide) ?_
  refine va_sld hx hb hX hbl hbA hh.2.2.2.1 (by unfold vp_in; decide) dL_law_3012 ?_
  refine W.eq (g2 := F0 m 3013 ls [.int (xs 2), .int (xs 1), .ref xa]) rfl ?_
  refine lv_aload_n hx hb dL_law_3013 rfl (lv_at hl 2 rfl) ?_
  refine k_callSX (wr := [(ma, .inr (16, [.int 0, .ref m1, .ref m2, .ref m3, .ref m4, .ref m5, .ref m6, .ref m7, .ref m8, .int 0, .int 0])), (m3, .inr (4, [.int 0, .ref e0.1, .int 0]))]) (rest := []) (own := RL) ⟨hx, hb, hml, hown, hts⟩ (c_L_play l hst D e0 xa x1 x2 x3 x4 x5 g1 g2 g3 g4 ((xs 1)) ((xs 2)) o1 z3 ((fun _ => 0)) ) (vx_cwSW 4 hts gl_S_c_L_play rfl rfl rfl (by decide +kernel) ⟨Nat.le_of_ble_eq_true rfl, Nat.le_of_ble_eq_true rfl⟩) hh [0, 1, 4] [2, 3] [0] rfl rfl rfl rfl (by decide) rfl rfl hl rfl (Nat.le_of_ble_eq_true rfl) dL_law_3014 ⟨Nat.le_of_ble_eq_true rfl, (Nat.le_of_ble_eq_true rfl)⟩ (fun _ _ _ _ _ h => h.elim) (fun v w ty1 H locs hp hh => ?_)
  obtain ⟨rfl, rfl, rfl⟩ := hp
  have hh : kH D kStr e0 A s H [(ma, .inr (16, [.int 0, .ref m1, .ref m2, .ref m3, .ref m4, .ref m5, .ref m6, .ref m7, .ref m8, .int 0, .int 0])), (m3, .inr (4, [.int 0, .ref e0.1, .int 0])), (o1, .inl (z3, 1, .inr (.inl (fun _ => 0))))] [(z3, .long), (z3, .long)] _ := hh
  refine W.eq (g2 := F0 m 3017 ls [.int 1]) (by first | rfl | decide) ?_
  refine lv_istore (lv' := [(6, .int 1), (5, .int 0), (4, .ref o2), (3, .ref o1), (2, .ref ma), (1, .ref xa), (0, .ref b)]) hx hb dL_law_3017 hl (by decide) rfl (fun ls hl => ?_)
  refine lv_aload_n hx hb dL_law_3019 rfl (lv_at hl 4 rfl) ?_
  refine lv_aload_n hx hb dL_law_3020 rfl (lv_at hl 6 rfl) ?_
  refine lv_iload hx hb dL_law_3021 (lv_at hl 1 rfl) ?_
  refine lv_iconst (v := 1) hx hb dL_law_3023 (by decide) ?_
  refine lv_iadd hx hb dL_law_3024 ?_
  refine W.eq (g2 := F0 m 3025 ls [.int 1, .ref b, .ref ma]) (by first | rfl | decide) ?_
  refine va_sld hx hb hX hbl hbA hh.2.2.2.1 (by unfold vp_in; decide) dL_law_3025 ?_
  refine W.eq (g2 := F0 m 3026 ls [.int (xs 1), .ref ma]) rfl ?_
  refine lv_aload_n hx hb dL_law_3026 rfl (lv_at hl 6 rfl) ?_
  refine lv_iload hx hb dL_law_3027 (lv_at hl 1 rfl) ?_
  refine lv_iconst (v := 2) hx hb dL_law_3029 (by decide) ?_
  refine lv_iadd hx hb dL_law_3030 ?_
  refine W.eq (g2 := F0 m 3031 ls [.int 2, .ref b, .int (xs 1), .ref ma]) (by first | rfl | decide) ?_
  refine va_sld hx hb hX hbl hbA hh.2.2.2.1 (by unfold vp_in; decide) dL_law_3031 ?_
  refine W.eq (g2 := F0 m 3032 ls [.int (xs 2), .int (xs 1), .ref ma]) rfl ?_
  refine k_callV (C := RX11) (T := TX11) (N := 11) (ci := 16) (q0 := 0) (wr := [(o1, .inl (z3, 1, .inr (.inl (fun _ => 0))))]) (rest := []) (own := RL) ⟨hx, hb, hml, hown, hts⟩ (c_X11_play l hst D e0 ma 0 m1 m2 m3 m4 m5 m6 m7 m8 ((xs 1)) ((xs 2)) ) (cwV 2 hts gl_V_c_X11_play rfl rfl rfl (by decide +kernel) ⟨Nat.le_of_ble_eq_true rfl, Nat.le_of_ble_eq_true rfl⟩) hh rfl rfl [0, 1] [2] [] rfl rfl rfl rfl (by decide) rfl rfl hl rfl (Nat.le_of_ble_eq_true rfl) dL_law_3032 ⟨Nat.le_of_ble_eq_true rfl, (Nat.le_of_ble_eq_true rfl)⟩ (fun _ _ _ _ _ h => h.elim) (fun v w ty1 H locs hp hh => ?_)
  obtain ⟨rfl, rfl, rfl⟩ := hp
  have hh : kH D kStr e0 A s H [(o1, .inl (z3, 1, .inr (.inl (fun _ => 0)))), (ma, .inr (16, [.int 1, .ref m1, .ref m2, .ref m3, .ref m4, .ref m5, .ref m6, .ref m7, .ref m8, .int 0, .int 0]))] [(z3, .long), (z3, .long)] _ := hh
  refine W.eq (g2 := F0 m 3035 ls [.int 0]) (by first | rfl | decide) ?_
  refine lv_istore (lv' := [(7, .int 0), (6, .int 1), (5, .int 0), (4, .ref o2), (3, .ref o1), (2, .ref ma), (1, .ref xa), (0, .ref b)]) hx hb dL_law_3035 hl (by decide) rfl (fun ls hl => ?_)
  refine lv_aload_n hx hb dL_law_3037 rfl (lv_at hl 5 rfl) ?_
  refine k_callV (C := RX11) (T := TX11) (N := 11) (ci := 16) (q0 := 1) (wr := [(o1, .inl (z3, 1, .inr (.inl (fun _ => 0))))]) (rest := []) (own := RL) ⟨hx, hb, hml, hown, hts⟩ (c_X11_thrown l hst D e0 ma 1 m1 m2 m3 m4 m5 m6 m7 m8 ) (cwV 0 hts gl_V_c_X11_thrown rfl rfl rfl (by decide +kernel) ⟨Nat.le_of_ble_eq_true rfl, Nat.le_of_ble_eq_true rfl⟩) hh rfl rfl [1] [0] [] rfl rfl rfl rfl (by decide) rfl rfl hl rfl (Nat.le_of_ble_eq_true rfl) dL_law_3038 ⟨Nat.le_of_ble_eq_true rfl, (Nat.le_of_ble_eq_true rfl)⟩ (fun _ _ _ _ _ h => h.elim) (fun v w ty1 H locs hp hh => ?_)
  obtain ⟨rfl, rfl, rfl⟩ := hp
  have hh : kH D kStr e0 A s H [(o1, .inl (z3, 1, .inr (.inl (fun _ => 0)))), (ma, .inr (16, [.int 1, .ref m1, .ref m2, .ref m3, .ref m4, .ref m5, .ref m6, .ref m7, .ref m8, .int 0, .int 0]))] [(z3, .long), (z3, .long)] _ := hh
  refine W.eq (g2 := F0 m 3041 ls [.int 1]) (by first | rfl | decide) ?_
  refine lv_iload hx hb dL_law_3041 (lv_at hl 1 rfl) ?_
  refine lv_icmp_eq (tgt := 3048) hx hb dL_law_3043 (by decide) (fun _ => ?_) (fun c_3043 => absurd (by decide) c_3043)
  refine lv_iload hx hb dL_law_3048 (lv_at hl 1 rfl) ?_
  refine lv_if_ne (tgt := 3065) hx hb dL_law_3050 (by decide) (fun _ => ?_) (fun c_3050 => absurd c_3050 (by decide))
  refine lv_goto (tgt := 3429) hx hb dL_law_3065 (by decide) ?_
  refine W.widen (k := 1000) (n := 100000) (Nat.le_of_ble_eq_true rfl) (Nat.le_of_ble_eq_true rfl) ?_
  exact kk _ _ _ hh.2.2.2.1 (lv_sub hl [7, 2] rfl)
set_option maxHeartbeats 4000000 in
set_option maxRecDepth 100000 in
theorem law_44 {p : Program} {l : Launch} {e : Env} {s : State} {m : MethodId} {below : List Frame} {meth : Method} {c : Code} {Q : State → Prop} {b : Nat} {xs : Nat → Int32} {D : va_G} {e0 : kE} {A : Nat → Prop} (hst : l.stackTraces = false) (hx : p.tables.exec = Jvm.exec) (hb : c.code = cL_law) (hml : c.maxLocals = 9) (hts : ∀ w ∈ lw_tbl, w.before #[Value.ref b] s = true) (hown : s.vm.findClass RL = some m.cls) (hX : va_X b 5 xs s s.heap) (hbl : b < s.heap.size) (hbA : ¬ A b) {xa x1 x2 x3 x4 x5 g1 g2 g3 g4 h1 h2 h3 h4 h5 ma m1 m2 m3 m4 m5 m6 m7 m8 o1 o2 : Nat} {z1 z2 z3 z4 : ClassId}  {H : Heap} {locs : List Loc} {ls : Array Slot} (hh : kH D kStr e0 A s H (lwW e0 xa x1 x2 x3 x4 x5 g1 g2 g3 g4 h1 h2 h3 h4 h5 ma m1 m2 m3 m4 m5 m6 m7 m8 o1 o2 z1 z2 z3 z4) (lwT z1 z2 z3 z4) locs) (hl : lv_has ls 9 (lwL b xa ma o1 o2)) (kk : lwK p l e s m below meth c Q b A) : W p l e room_1 s m #[Value.ref b] below meth c H locs 100 10000 Q (F0 m 3135 ls []) := by
  have hh : kH D kStr e0 A s H [(xa, .inr (11, [.ref x1, .int 0, .ref x2, .int 0, .ref x3, .ref x4, .ref x5, .int 0])), (ma, .inr (16, [.int 0, .ref m1, .ref m2, .ref m3, .ref m4, .ref m5, .ref m6, .ref m7, .ref m8, .int 0, .int 0])), (m8, .inr (4, [.int 0, .ref e0.1, .int 0])), (o1, .inl (z3, 1, .inr (.inl (fun _ => 0))))] [(z3, .long)] _ := hh.sub [0, 5, 13, 14] [2] rfl rfl rfl
  have hl : lv_has ls 9 [(5, .int 0), (4, .ref o2), (3, .ref o1), (2, .ref ma), (1, .ref xa), (0, .ref b)] := hl
  refine lv_aload_n hx hb dL_law_3135 rfl (lv_at hl 4 rfl) ?_
  refine lv_aload_n hx hb dL_law_3136 rfl (lv_at hl 5 rfl) ?_
  refine lv_iload hx hb dL_law_3137 (lv_at hl 0 rfl) ?_
  refine lv_iconst (v := 1) hx hb dL_law_3139 (by decide) ?_
  refine lv_iadd hx hb dL_law_3140 ?_
  refine W.eq (g2 := F0 m 3141 ls [.int 1, .ref b, .ref xa]) (by first | rfl | decide) ?_
  refine va_sld hx hb hX hbl hbA hh.2.2.2.1 (by unfold vp_in; decide) dL_law_3141 ?_
  refine W.eq (g2 := F0 m 3142 ls [.int (xs 1), .ref xa]) rfl ?_
  refine lv_aload_n hx hb dL_law_3142 rfl (lv_at hl 5 rfl) ?_
  refine lv_iload hx hb dL_law_3143 (lv_at hl 0 rfl) ?_
  refine lv_iconst (v := 2) hx hb dL_law_3145 (by decide) ?_
  refine lv_iadd hx hb dL_law_3146 ?_
  refine W.eq (g2 := F0 m 3147 ls [.int 2, .ref b, .int (xs 1), .ref xa]) (by first | rfl | decide) ?_
  refine va_sld hx hb hX hbl hbA hh.2.2.2.1 (by unfold vp_in; decide) dL_law_3147 ?_
  refine W.eq (g2 := F0 m 3148 ls [.int (xs 2), .int (xs 1), .ref xa]) rfl ?_
  refine lv_aload_n hx hb dL_law_3148 rfl (lv_at hl 5 rfl) ?_
  refine lv_iload hx hb dL_law_3149 (lv_at hl 0 rfl) ?_
  refine lv_iconst (v := 3) hx hb dL_law_3151 (by decide) ?_
  refine lv_iadd hx hb dL_law_3152 ?_
  refine W.eq (g2 := F0 m 3153 ls [.int 3, .ref b, .int (xs 2), .int (xs 1), .ref xa]) (by first | rfl | decide) ?_
  refine va_sld hx hb hX hbl hbA hh.2.2.2.1 (by unfold vp_in; decide) dL_law_3153 ?_
  refine W.eq (g2 := F0 m 3154 ls [.int (xs 3), .int (xs 2), .int (xs 1), .ref xa]) rfl ?_
  refine lv_aload_n hx hb dL_law_3154 rfl (lv_at hl 2 rfl) ?_
  refine k_callSX (wr := [(ma, .inr (16, [.int 0, .ref m1, .ref m2, .ref m3, .ref m4, .ref m5, .ref m6, .ref m7, .ref m8, .int 0, .int 0])), (m8, .inr (4, [.int 0, .ref e0.1, .int 0]))]) (rest := []) (own := RL) ⟨hx, hb, hml, hown, hts⟩ (c_L_vote l hst D e0 xa x1 x2 x3 x4 x5 ((xs 1)) ((xs 2)) ((xs 3)) o1 z3 ((fun _ => 0)) ) (vx_cwSW 5 hts gl_S_c_L_vote rfl rfl rfl (by decide +kernel) ⟨Nat.le_of_ble_eq_true rfl, Nat.le_of_ble_eq_true rfl⟩) hh [0, 3] [1, 2] [0] rfl rfl rfl rfl (by decide) rfl rfl hl rfl (Nat.le_of_ble_eq_true rfl) dL_law_3155 ⟨Nat.le_of_ble_eq_true rfl, (Nat.le_of_ble_eq_true rfl)⟩ (fun _ _ _ _ _ h => h.elim) (fun v w ty1 H locs hp hh => ?_)
  obtain ⟨rfl, rfl, rfl⟩ := hp
  have hh : kH D kStr e0 A s H [(ma, .inr (16, [.int 0, .ref m1, .ref m2, .ref m3, .ref m4, .ref m5, .ref m6, .ref m7, .ref m8, .int 0, .int 0])), (m8, .inr (4, [.int 0, .ref e0.1, .int 0])), (o1, .inl (z3, 1, .inr (.inl (fun _ => 0))))] [(z3, .long), (z3, .long)] _ := hh
  refine W.eq (g2 := F0 m 3158 ls [.int 1]) (by first | rfl | decide) ?_
  refine lv_istore (lv' := [(6, .int 1), (5, .int 0), (4, .ref o2), (3, .ref o1), (2, .ref ma), (1, .ref xa), (0, .ref b)]) hx hb dL_law_3158 hl (by decide) rfl (fun ls hl => ?_)
  refine lv_aload_n hx hb dL_law_3160 rfl (lv_at hl 4 rfl) ?_
  refine lv_aload_n hx hb dL_law_3161 rfl (lv_at hl 6 rfl) ?_
  refine lv_iload hx hb dL_law_3162 (lv_at hl 1 rfl) ?_
  refine lv_iconst (v := 1) hx hb dL_law_3164 (by decide) ?_
  refine lv_iadd hx hb dL_law_3165 ?_
  refine W.eq (g2 := F0 m 3166 ls [.int 1, .ref b, .ref ma]) (by first | rfl | decide) ?_
  refine va_sld hx hb hX hbl hbA hh.2.2.2.1 (by unfold vp_in; decide) dL_law_3166 ?_
  refine W.eq (g2 := F0 m 3167 ls [.int (xs 1), .ref ma]) rfl ?_
  refine lv_aload_n hx hb dL_law_3167 rfl (lv_at hl 6 rfl) ?_
  refine lv_iload hx hb dL_law_3168 (lv_at hl 1 rfl) ?_
  refine lv_iconst (v := 2) hx hb dL_law_3170 (by decide) ?_
  refine lv_iadd hx hb dL_law_3171 ?_
  refine W.eq (g2 := F0 m 3172 ls [.int 2, .ref b, .int (xs 1), .ref ma]) (by first | rfl | decide) ?_
  refine va_sld hx hb hX hbl hbA hh.2.2.2.1 (by unfold vp_in; decide) dL_law_3172 ?_
  refine W.eq (g2 := F0 m 3173 ls [.int (xs 2), .int (xs 1), .ref ma]) rfl ?_
  refine lv_aload_n hx hb dL_law_3173 rfl (lv_at hl 6 rfl) ?_
  refine lv_iload hx hb dL_law_3174 (lv_at hl 1 rfl) ?_
  refine lv_iconst (v := 3) hx hb dL_law_3176 (by decide) ?_
  refine lv_iadd hx hb dL_law_3177 ?_
  refine W.eq (g2 := F0 m 3178 ls [.int 3, .ref b, .int (xs 2), .int (xs 1), .ref ma]) (by first | rfl | decide) ?_
  refine va_sld hx hb hX hbl hbA hh.2.2.2.1 (by unfold vp_in; decide) dL_law_3178 ?_
  refine W.eq (g2 := F0 m 3179 ls [.int (xs 3), .int (xs 2), .int (xs 1), .ref ma]) rfl ?_
  refine k_callV (C := RX11) (T := TX11) (N := 11) (ci := 16) (q0 := 0) (wr := [(o1, .inl (z3, 1, .inr (.inl (fun _ => 0))))]) (rest := []) (own := RL) ⟨hx, hb, hml, hown, hts⟩ (c_X11_vote l hst D e0 ma 0 m1 m2 m3 m4 m5 m6 m7 m8 ((xs 1)) ((xs 2)) ((xs 3)) ) (cwV 3 hts gl_V_c_X11_vote rfl rfl rfl (by decide +kernel) ⟨Nat.le_of_ble_eq_true rfl, Nat.le_of_ble_eq_true rfl⟩) hh rfl rfl [0, 1] [2] [] rfl rfl rfl rfl (by decide) rfl rfl hl rfl (Nat.le_of_ble_eq_true rfl) dL_law_3179 ⟨Nat.le_of_ble_eq_true rfl, (Nat.le_of_ble_eq_true rfl)⟩ (fun _ _ _ _ _ h => h.elim) (fun v w ty1 H locs hp hh => ?_)
  obtain ⟨rfl, rfl, rfl⟩ := hp
  have hh : kH D kStr e0 A s H [(o1, .inl (z3, 1, .inr (.inl (fun _ => 0)))), (ma, .inr (16, [.int 1, .ref m1, .ref m2, .ref m3, .ref m4, .ref m5, .ref m6, .ref m7, .ref m8, .int 0, .int 0]))] [(z3, .long), (z3, .long)] _ := hh
  refine W.eq (g2 := F0 m 3182 ls [.int 0]) (by first | rfl | decide) ?_
  refine lv_istore (lv' := [(7, .int 0), (6, .int 1), (5, .int 0), (4, .ref o2), (3, .ref o1), (2, .ref ma), (1, .ref xa), (0, .ref b)]) hx hb dL_law_3182 hl (by decide) rfl (fun ls hl => ?_)
  refine lv_aload_n hx hb dL_law_3184 rfl (lv_at hl 5 rfl) ?_
  refine k_callV (C := RX11) (T := TX11) (N := 11) (ci := 16) (q0 := 1) (wr := [(o1, .inl (z3, 1, .inr (.inl (fun _ => 0))))]) (rest := []) (own := RL) ⟨hx, hb, hml, hown, hts⟩ (c_X11_thrown l hst D e0 ma 1 m1 m2 m3 m4 m5 m6 m7 m8 ) (cwV 0 hts gl_V_c_X11_thrown rfl rfl rfl (by decide +kernel) ⟨Nat.le_of_ble_eq_true rfl, Nat.le_of_ble_eq_true rfl⟩) hh rfl rfl [1] [0] [] rfl rfl rfl rfl (by decide) rfl rfl hl rfl (Nat.le_of_ble_eq_true rfl) dL_law_3185 ⟨Nat.le_of_ble_eq_true rfl, (Nat.le_of_ble_eq_true rfl)⟩ (fun _ _ _ _ _ h => h.elim) (fun v w ty1 H locs hp hh => ?_)
  obtain ⟨rfl, rfl, rfl⟩ := hp
  have hh : kH D kStr e0 A s H [(o1, .inl (z3, 1, .inr (.inl (fun _ => 0)))), (ma, .inr (16, [.int 1, .ref m1, .ref m2, .ref m3, .ref m4, .ref m5, .ref m6, .ref m7, .ref m8, .int 0, .int 0]))] [(z3, .long), (z3, .long)] _ := hh
  refine W.eq (g2 := F0 m 3188 ls [.int 1]) (by first | rfl | decide) ?_
  refine lv_iload hx hb dL_law_3188 (lv_at hl 1 rfl) ?_
  refine lv_icmp_eq (tgt := 3195) hx hb dL_law_3190 (by decide) (fun _ => ?_) (fun c_3190 => absurd (by decide) c_3190)
  refine lv_iload hx hb dL_law_3195 (lv_at hl 1 rfl) ?_
  refine lv_if_ne (tgt := 3212) hx hb dL_law_3197 (by decide) (fun _ => ?_) (fun c_3197 => absurd c_3197 (by decide))
  refine lv_goto (tgt := 3429) hx hb dL_law_3212 (by decide) ?_
  refine W.widen (k := 1000) (n := 100000) (Nat.le_of_ble_eq_true rfl) (Nat.le_of_ble_eq_true rfl) ?_
  exact kk _ _ _ hh.2.2.2.1 (lv_sub hl [7, 2] rfl)
