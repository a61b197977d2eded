theorem dL_law_2466 : decode cL_law 2466 = .ok (.aload_n 0, 1) := by decide +kernel
theorem dL_law_2467 : decode cL_law 2467 = .ok (.iload 5, 2) := by decide +kernel
theorem dL_law_2469 : decode cL_law 2469 = .ok (.iconst 4, 1) := by decide +kernel
theorem dL_law_2470 : decode cL_law 2470 = .ok (.iadd, 1) := by decide +kernel
theorem dL_law_2471 : decode cL_law 2471 = .ok (.iaload, 1) := by decide +kernel
theorem dL_law_2472 : decode cL_law 2472 = .ok (.invokevirtual 268, 3) := by decide +kernel
theorem dL_law_2475 : decode cL_law 2475 = .ok (.istore 7, 2) := by decide +kernel
theorem dL_law_2477 : decode cL_law 2477 = .ok (.aload_n 2, 1) := by decide +kernel
theorem dL_law_2478 : decode cL_law 2478 = .ok (.invokevirtual 155, 3) := by decide +kernel
theorem dL_law_2481 : decode cL_law 2481 = .ok (.iload 6, 2) := by decide +kernel
theorem dL_law_2483 : decode cL_law 2483 = .ok (.if_icmp .eq 5, 3) := by decide +kernel
theorem dL_law_2486 : decode cL_law 2486 = .ok (.iconst 0, 1) := by decide +kernel
theorem dL_law_2487 : decode cL_law 2487 = .ok (.ireturn, 1) := by decide +kernel
theorem dL_law_2488 : decode cL_law 2488 = .ok (.iload 6, 2) := by decide +kernel
theorem dL_law_2490 : decode cL_law 2490 = .ok (.ifCond .ne 15, 3) := by decide +kernel
theorem dL_law_2493 : decode cL_law 2493 = .ok (.aload_n 3, 1) := by decide +kernel
theorem dL_law_2494 : decode cL_law 2494 = .ok (.iconst 0, 1) := by decide +kernel
theorem dL_law_2495 : decode cL_law 2495 = .ok (.laload, 1) := by decide +kernel
theorem dL_law_2496 : decode cL_law 2496 = .ok (.iload 7, 2) := by decide +kernel
theorem dL_law_2498 : decode cL_law 2498 = .ok (.i2l, 1) := by decide +kernel
theorem dL_law_2499 : decode cL_law 2499 = .ok (.lcmp, 1) := by decide +kernel
theorem dL_law_2500 : decode cL_law 2500 = .ok (.ifCond .eq 5, 3) := by decide +kernel
theorem dL_law_2503 : decode cL_law 2503 = .ok (.iconst 0, 1) := by decide +kernel
theorem dL_law_2504 : decode cL_law 2504 = .ok (.ireturn, 1) := by decide +kernel
theorem dL_law_2505 : decode cL_law 2505 = .ok (.goto 532, 3) := by decide +kernel
theorem dL_law_2508 : decode cL_law 2508 = .ok (.aload_n 1, 1) := by decide +kernel
theorem dL_law_2509 : decode cL_law 2509 = .ok (.aload_n 0, 1) := by decide +kernel
theorem dL_law_2510 : decode cL_law 2510 = .ok (.iload 5, 2) := by decide +kernel
theorem dL_law_2512 : decode cL_law 2512 = .ok (.iconst 1, 1) := by decide +kernel
theorem dL_law_2513 : decode cL_law 2513 = .ok (.iadd, 1) := by decide +kernel
theorem dL_law_2514 : decode cL_law 2514 = .ok (.iaload, 1) := by decide +kernel
theorem dL_law_2515 : decode cL_law 2515 = .ok (.aload_n 3, 1) := by decide +kernel
theorem dL_law_2516 : decode cL_law 2516 = .ok (.invokestatic 269, 3) := by decide +kernel
theorem dL_law_2519 : decode cL_law 2519 = .ok (.istore 6, 2) := by decide +kernel
theorem dL_law_2521 : decode cL_law 2521 = .ok (.aload_n 2, 1) := by decide +kernel
theorem dL_law_2522 : decode cL_law 2522 = .ok (.aload_n 0, 1) := by decide +kernel
theorem dL_law_2523 : decode cL_law 2523 = .ok (.iload 5, 2) := by decide +kernel
theorem dL_law_2525 : decode cL_law 2525 = .ok (.iconst 1, 1) := by decide +kernel
theorem dL_law_2526 : decode cL_law 2526 = .ok (.iadd, 1) := by decide +kernel
theorem dL_law_2527 : decode cL_law 2527 = .ok (.iaload, 1) := by decide +kernel
theorem dL_law_2528 : decode cL_law 2528 = .ok (.invokevirtual 271, 3) := by decide +kernel
theorem dL_law_2531 : decode cL_law 2531 = .ok (.istore 7, 2) := by decide +kernel
theorem dL_law_2533 : decode cL_law 2533 = .ok (.aload_n 2, 1) := by decide +kernel
theorem dL_law_2534 : decode cL_law 2534 = .ok (.invokevirtual 155, 3) := by decide +kernel
theorem dL_law_2537 : decode cL_law 2537 = .ok (.iload 6, 2) := by decide +kernel
theorem dL_law_2539 : decode cL_law 2539 = .ok (.if_icmp .eq 5, 3) := by decide +kernel
theorem dL_law_2542 : decode cL_law 2542 = .ok (.iconst 0, 1) := by decide +kernel
theorem dL_law_2543 : decode cL_law 2543 = .ok (.ireturn, 1) := by decide +kernel
theorem dL_law_2544 : decode cL_law 2544 = .ok (.iload 6, 2) := by decide +kernel
theorem dL_law_2546 : decode cL_law 2546 = .ok (.ifCond .ne 15, 3) := by decide +kernel
theorem dL_law_2549 : decode cL_law 2549 = .ok (.aload_n 3, 1) := by decide +kernel
theorem dL_law_2550 : decode cL_law 2550 = .ok (.iconst 0, 1) := by decide +kernel
theorem dL_law_2551 : decode cL_law 2551 = .ok (.laload, 1) := by decide +kernel
theorem dL_law_2552 : decode cL_law 2552 = .ok (.iload 7, 2) := by decide +kernel
theorem dL_law_2554 : decode cL_law 2554 = .ok (.i2l, 1) := by decide +kernel
theorem dL_law_2555 : decode cL_law 2555 = .ok (.lcmp, 1) := by decide +kernel
theorem dL_law_2556 : decode cL_law 2556 = .ok (.ifCond .eq 5, 3) := by decide +kernel
theorem dL_law_2559 : decode cL_law 2559 = .ok (.iconst 0, 1) := by decide +kernel
theorem dL_law_2560 : decode cL_law 2560 = .ok (.ireturn, 1) := by decide +kernel
theorem dL_law_2561 : decode cL_law 2561 = .ok (.goto 476, 3) := by decide +kernel
theorem dL_law_2564 : decode cL_law 2564 = .ok (.aload_n 1, 1) := by decide +kernel
theorem dL_law_2565 : decode cL_law 2565 = .ok (.aload_n 0, 1) := by decide +kernel
theorem dL_law_2566 : decode cL_law 2566 = .ok (.iload 5, 2) := by decide +kernel
theorem dL_law_2568 : decode cL_law 2568 = .ok (.iconst 1, 1) := by decide +kernel
theorem dL_law_2569 : decode cL_law 2569 = .ok (.iadd, 1) := by decide +kernel
theorem dL_law_2570 : decode cL_law 2570 = .ok (.iaload, 1) := by decide +kernel
theorem dL_law_2571 : decode cL_law 2571 = .ok (.aload 4, 2) := by decide +kernel
theorem dL_law_2573 : decode cL_law 2573 = .ok (.invokestatic 272, 3) := by decide +kernel
theorem dL_law_2576 : decode cL_law 2576 = .ok (.istore 6, 2) := by decide +kernel
theorem dL_law_2578 : decode cL_law 2578 = .ok (.aload_n 2, 1) := by decide +kernel
theorem dL_law_2579 : decode cL_law 2579 = .ok (.aload_n 0, 1) := by decide +kernel
theorem dL_law_2580 : decode cL_law 2580 = .ok (.iload 5, 2) := by decide +kernel
theorem dL_law_2582 : decode cL_law 2582 = .ok (.iconst 1, 1) := by decide +kernel
theorem dL_law_2583 : decode cL_law 2583 = .ok (.iadd, 1) := by decide +kernel
theorem dL_law_2584 : decode cL_law 2584 = .ok (.iaload, 1) := by decide +kernel
theorem dL_law_2585 : decode cL_law 2585 = .ok (.invokevirtual 275, 3) := by decide +kernel
theorem dL_law_2588 : decode cL_law 2588 = .ok (.dstore 7, 2) := by decide +kernel
theorem dL_law_2590 : decode cL_law 2590 = .ok (.aload_n 2, 1) := by decide +kernel
theorem dL_law_2591 : decode cL_law 2591 = .ok (.invokevirtual 155, 3) := by decide +kernel
theorem dL_law_2594 : decode cL_law 2594 = .ok (.iload 6, 2) := by decide +kernel
theorem dL_law_2596 : decode cL_law 2596 = .ok (.if_icmp .eq 5, 3) := by decide +kernel
theorem dL_law_2599 : decode cL_law 2599 = .ok (.iconst 0, 1) := by decide +kernel
theorem dL_law_2600 : decode cL_law 2600 = .ok (.ireturn, 1) := by decide +kernel
theorem dL_law_2601 : decode cL_law 2601 = .ok (.iload 6, 2) := by decide +kernel
theorem dL_law_2603 : decode cL_law 2603 = .ok (.ifCond .ne 35, 3) := by decide +kernel
theorem dL_law_2606 : decode cL_law 2606 = .ok (.aload 4, 2) := by decide +kernel
theorem dL_law_2608 : decode cL_law 2608 = .ok (.iconst 0, 1) := by decide +kernel
theorem dL_law_2609 : decode cL_law 2609 = .ok (.daload, 1) := by decide +kernel
theorem dL_law_2610 : decode cL_law 2610 = .ok (.dload 7, 2) := by decide +kernel
theorem dL_law_2612 : decode cL_law 2612 = .ok (.dcmp .l, 1) := by decide +kernel
theorem dL_law_2613 : decode cL_law 2613 = .ok (.ifCond .eq 25, 3) := by decide +kernel
theorem dL_law_2616 : decode cL_law 2616 = .ok (.aload 4, 2) := by decide +kernel
theorem dL_law_2618 : decode cL_law 2618 = .ok (.iconst 0, 1) := by decide +kernel
theorem dL_law_2619 : decode cL_law 2619 = .ok (.daload, 1) := by decide +kernel
theorem dL_law_2620 : decode cL_law 2620 = .ok (.aload 4, 2) := by decide +kernel
theorem dL_law_2622 : decode cL_law 2622 = .ok (.iconst 0, 1) := by decide +kernel
theorem dL_law_2623 : decode cL_law 2623 = .ok (.daload, 1) := by decide +kernel
theorem dL_law_2624 : decode cL_law 2624 = .ok (.dcmp .l, 1) := by decide +kernel
theorem dL_law_2625 : decode cL_law 2625 = .ok (.ifCond .eq 11, 3) := by decide +kernel
theorem dL_law_2628 : decode cL_law 2628 = .ok (.dload 7, 2) := by decide +kernel
theorem dL_law_2630 : decode cL_law 2630 = .ok (.dload 7, 2) := by decide +kernel
theorem dL_law_2632 : decode cL_law 2632 = .ok (.dcmp .l, 1) := by decide +kernel
theorem dL_law_2633 : decode cL_law 2633 = .ok (.ifCond .ne 5, 3) := by decide +kernel
theorem dL_law_2636 : decode cL_law 2636 = .ok (.iconst 0, 1) := by decide +kernel
theorem dL_law_2637 : decode cL_law 2637 = .ok (.ireturn, 1) := by decide +kernel
theorem dL_law_2638 : decode cL_law 2638 = .ok (.goto 399, 3) := by decide +kernel
theorem dL_law_2641 : decode cL_law 2641 = .ok (.aload_n 1, 1) := by decide +kernel
theorem dL_law_2642 : decode cL_law 2642 = .ok (.aload_n 0, 1) := by decide +kernel
theorem dL_law_2643 : decode cL_law 2643 = .ok (.iload 5, 2) := by decide +kernel
theorem dL_law_2645 : decode cL_law 2645 = .ok (.iconst 1, 1) := by decide +kernel
theorem dL_law_2646 : decode cL_law 2646 = .ok (.iadd, 1) := by decide +kernel
theorem dL_law_2647 : decode cL_law 2647 = .ok (.iaload, 1) := by decide +kernel
theorem dL_law_2648 : decode cL_law 2648 = .ok (.aload 4, 2) := by decide +kernel
theorem dL_law_2650 : decode cL_law 2650 = .ok (.invokestatic 276, 3) := by decide +kernel
theorem dL_law_2653 : decode cL_law 2653 = .ok (.istore 6, 2) := by decide +kernel
theorem dL_law_2655 : decode cL_law 2655 = .ok (.aload_n 2, 1) := by decide +kernel
theorem dL_law_2656 : decode cL_law 2656 = .ok (.aload_n 0, 1) := by decide +kernel
theorem dL_law_2657 : decode cL_law 2657 = .ok (.iload 5, 2) := by decide +kernel
theorem dL_law_2659 : decode cL_law 2659 = .ok (.iconst 1, 1) := by decide +kernel
theorem dL_law_2660 : decode cL_law 2660 = .ok (.iadd, 1) := by decide +kernel
theorem dL_law_2661 : decode cL_law 2661 = .ok (.iaload, 1) := by decide +kernel
theorem dL_law_2662 : decode cL_law 2662 = .ok (.invokevirtual 278, 3) := by decide +kernel
theorem dL_law_2665 : decode cL_law 2665 = .ok (.dstore 7, 2) := by decide +kernel
theorem dL_law_2667 : decode cL_law 2667 = .ok (.aload_n 2, 1) := by decide +kernel
theorem dL_law_2668 : decode cL_law 2668 = .ok (.invokevirtual 155, 3) := by decide +kernel
theorem dL_law_2671 : decode cL_law 2671 = .ok (.iload 6, 2) := by decide +kernel
theorem dL_law_2673 : decode cL_law 2673 = .ok (.if_icmp .eq 5, 3) := by decide +kernel
theorem dL_law_2676 : decode cL_law 2676 = .ok (.iconst 0, 1) := by decide +kernel
theorem dL_law_2677 : decode cL_law 2677 = .ok (.ireturn, 1) := by decide +kernel
theorem dL_law_2678 : decode cL_law 2678 = .ok (.iload 6, 2) := by decide +kernel
theorem dL_law_2680 : decode cL_law 2680 = .ok (.ifCond .ne 35, 3) := by decide +kernel
theorem dL_law_2683 : decode cL_law 2683 = .ok (.aload 4, 2) := by decide +kernel
theorem dL_law_2685 : decode cL_law 2685 = .ok (.iconst 0, 1) := by decide +kernel
theorem dL_law_2686 : decode cL_law 2686 = .ok (.daload, 1) := by decide +kernel
theorem dL_law_2687 : decode cL_law 2687 = .ok (.dload 7, 2) := by decide +kernel
theorem dL_law_2689 : decode cL_law 2689 = .ok (.dcmp .l, 1) := by decide +kernel
theorem dL_law_2690 : decode cL_law 2690 = .ok (.ifCond .eq 25, 3) := by decide +kernel
theorem dL_law_2693 : decode cL_law 2693 = .ok (.aload 4, 2) := by decide +kernel
theorem dL_law_2695 : decode cL_law 2695 = .ok (.iconst 0, 1) := by decide +kernel
theorem dL_law_2696 : decode cL_law 2696 = .ok (.daload, 1) := by decide +kernel
theorem dL_law_2697 : decode cL_law 2697 = .ok (.aload 4, 2) := by decide +kernel
theorem dL_law_2699 : decode cL_law 2699 = .ok (.iconst 0, 1) := by decide +kernel
theorem dL_law_2700 : decode cL_law 2700 = .ok (.daload, 1) := by decide +kernel
theorem dL_law_2701 : decode cL_law 2701 = .ok (.dcmp .l, 1) := by decide +kernel
theorem dL_law_2702 : decode cL_law 2702 = .ok (.ifCond .eq 11, 3) := by decide +kernel
theorem dL_law_2705 : decode cL_law 2705 = .ok (.dload 7, 2) := by decide +kernel
theorem dL_law_2707 : decode cL_law 2707 = .ok (.dload 7, 2) := by decide +kernel
theorem dL_law_2709 : decode cL_law 2709 = .ok (.dcmp .l, 1) := by decide +kernel
theorem dL_law_2710 : decode cL_law 2710 = .ok (.ifCond .ne 5, 3) := by decide +kernel
theorem dL_law_2713 : decode cL_law 2713 = .ok (.iconst 0, 1) := by decide +kernel
theorem dL_law_2714 : decode cL_law 2714 = .ok (.ireturn, 1) := by decide +kernel
theorem dL_law_2715 : decode cL_law 2715 = .ok (.goto 322, 3) := by decide +kernel
theorem dL_law_2718 : decode cL_law 2718 = .ok (.aload_n 1, 1) := by decide +kernel
theorem dL_law_2719 : decode cL_law 2719 = .ok (.aload_n 0, 1) := by decide +kernel
theorem dL_law_2720 : decode cL_law 2720 = .ok (.iload 5, 2) := by decide +kernel
theorem dL_law_2722 : decode cL_law 2722 = .ok (.iconst 1, 1) := by decide +kernel
theorem dL_law_2723 : decode cL_law 2723 = .ok (.iadd, 1) := by decide +kernel
theorem dL_law_2724 : decode cL_law 2724 = .ok (.iaload, 1) := by decide +kernel
theorem dL_law_2725 : decode cL_law 2725 = .ok (.aload_n 0, 1) := by decide +kernel
theorem dL_law_2726 : decode cL_law 2726 = .ok (.iload 5, 2) := by decide +kernel
theorem dL_law_2728 : decode cL_law 2728 = .ok (.iconst 2, 1) := by decide +kernel
theorem dL_law_2729 : decode cL_law 2729 = .ok (.iadd, 1) := by decide +kernel
theorem dL_law_2730 : decode cL_law 2730 = .ok (.iaload, 1) := by decide +kernel
theorem dL_law_2731 : decode cL_law 2731 = .ok (.aload_n 0, 1) := by decide +kernel
theorem dL_law_2732 : decode cL_law 2732 = .ok (.iload 5, 2) := by decide +kernel
theorem dL_law_2734 : decode cL_law 2734 = .ok (.iconst 3, 1) := by decide +kernel
theorem dL_law_2735 : decode cL_law 2735 = .ok (.iadd, 1) := by decide +kernel
theorem dL_law_2736 : decode cL_law 2736 = .ok (.iaload, 1) := by decide +kernel
theorem dL_law_2737 : decode cL_law 2737 = .ok (.aload_n 3, 1) := by decide +kernel
theorem dL_law_2738 : decode cL_law 2738 = .ok (.invokestatic 279, 3) := by decide +kernel
theorem dL_law_2741 : decode cL_law 2741 = .ok (.istore 6, 2) := by decide +kernel
theorem dL_law_2743 : decode cL_law 2743 = .ok (.aload_n 2, 1) := by decide +kernel
theorem dL_law_2744 : decode cL_law 2744 = .ok (.aload_n 0, 1) := by decide +kernel
theorem dL_law_2745 : decode cL_law 2745 = .ok (.iload 5, 2) := by decide +kernel
theorem dL_law_2747 : decode cL_law 2747 = .ok (.iconst 1, 1) := by decide +kernel
theorem dL_law_2748 : decode cL_law 2748 = .ok (.iadd, 1) := by decide +kernel
theorem dL_law_2749 : decode cL_law 2749 = .ok (.iaload, 1) := by decide +kernel
theorem dL_law_2750 : decode cL_law 2750 = .ok (.aload_n 0, 1) := by decide +kernel
theorem dL_law_2751 : decode cL_law 2751 = .ok (.iload 5, 2) := by decide +kernel
theorem dL_law_2753 : decode cL_law 2753 = .ok (.iconst 2, 1) := by decide +kernel
theorem dL_law_2754 : decode cL_law 2754 = .ok (.iadd, 1) := by decide +kernel
theorem dL_law_2755 : decode cL_law 2755 = .ok (.iaload, 1) := by decide +kernel
theorem dL_law_2756 : decode cL_law 2756 = .ok (.aload_n 0, 1) := by decide +kernel
theorem dL_law_2757 : decode cL_law 2757 = .ok (.iload 5, 2) := by decide +kernel
theorem dL_law_2759 : decode cL_law 2759 = .ok (.iconst 3, 1) := by decide +kernel
theorem dL_law_2760 : decode cL_law 2760 = .ok (.iadd, 1) := by decide +kernel
theorem dL_law_2761 : decode cL_law 2761 = .ok (.iaload, 1) := by decide +kernel
theorem dL_law_2762 : decode cL_law 2762 = .ok (.invokevirtual 281, 3) := by decide +kernel
theorem dL_law_2765 : decode cL_law 2765 = .ok (.istore 7, 2) := by decide +kernel
theorem dL_law_2767 : decode cL_law 2767 = .ok (.aload_n 2, 1) := by decide +kernel
theorem dL_law_2768 : decode cL_law 2768 = .ok (.invokevirtual 155, 3) := by decide +kernel
theorem dL_law_2771 : decode cL_law 2771 = .ok (.iload 6, 2) := by decide +kernel
theorem dL_law_2773 : decode cL_law 2773 = .ok (.if_icmp .eq 5, 3) := by decide +kernel
theorem dL_law_2776 : decode cL_law 2776 = .ok (.iconst 0, 1) := by decide +kernel
theorem dL_law_2777 : decode cL_law 2777 = .ok (.ireturn, 1) := by decide +kernel
theorem dL_law_2778 : decode cL_law 2778 = .ok (.iload 6, 2) := by decide +kernel
theorem dL_law_2780 : decode cL_law 2780 = .ok (.ifCond .ne 15, 3) := by decide +kernel
theorem dL_law_2783 : decode cL_law 2783 = .ok (.aload_n 3, 1) := by decide +kernel
theorem dL_law_2784 : decode cL_law 2784 = .ok (.iconst 0, 1) := by decide +kernel
theorem dL_law_2785 : decode cL_law 2785 = .ok (.laload, 1) := by decide +kernel
theorem dL_law_2786 : decode cL_law 2786 = .ok (.iload 7, 2) := by decide +kernel
theorem dL_law_2788 : decode cL_law 2788 = .ok (.i2l, 1) := by decide +kernel
theorem dL_law_2789 : decode cL_law 2789 = .ok (.lcmp, 1) := by decide +kernel
theorem dL_law_2790 : decode cL_law 2790 = .ok (.ifCond .eq 5, 3) := by decide +kernel
theorem dL_law_2793 : decode cL_law 2793 = .ok (.iconst 0, 1) := by decide +kernel
theorem dL_law_2794 : decode cL_law 2794 = .ok (.ireturn, 1) := by decide +kernel
theorem dL_law_2795 : decode cL_law 2795 = .ok (.goto 242, 3) := by decide +kernel
theorem dL_law_2798 : decode cL_law 2798 = .ok (.aload_n 1, 1) := by decide +kernel
theorem dL_law_2799 : decode cL_law 2799 = .ok (.invokevirtual 282, 3) := by decide +kernel
theorem dL_law_2802 : decode cL_law 2802 = .ok (.aload_n 2, 1) := by decide +kernel
theorem dL_law_2803 : decode cL_law 2803 = .ok (.invokevirtual 285, 3) := by decide +kernel
theorem dL_law_2806 : decode cL_law 2806 = .ok (.if_icmp .eq 231, 3) := by decide +kernel
theorem dL_law_2809 : decode cL_law 2809 = .ok (.iconst 0, 1) := by decide +kernel
theorem dL_law_2810 : decode cL_law 2810 = .ok (.ireturn, 1) := by decide +kernel
theorem dL_law_2811 : decode cL_law 2811 = .ok (.aload_n 1, 1) := by decide +kernel
theorem dL_law_2812 : decode cL_law 2812 = .ok (.aload_n 0, 1) := by decide +kernel
theorem dL_law_2813 : decode cL_law 2813 = .ok (.iload 5, 2) := by decide +kernel
theorem dL_law_2815 : decode cL_law 2815 = .ok (.iconst 1, 1) := by decide +kernel
theorem dL_law_2816 : decode cL_law 2816 = .ok (.iadd, 1) := by decide +kernel
theorem dL_law_2817 : decode cL_law 2817 = .ok (.iaload, 1) := by decide +kernel
theorem dL_law_2818 : decode cL_law 2818 = .ok (.aload_n 3, 1) := by decide +kernel
theorem dL_law_2819 : decode cL_law 2819 = .ok (.invokestatic 286, 3) := by decide +kernel
theorem dL_law_2822 : decode cL_law 2822 = .ok (.istore 6, 2) := by decide +kernel
theorem dL_law_2824 : decode cL_law 2824 = .ok (.aload_n 2, 1) := by decide +kernel
theorem dL_law_2825 : decode cL_law 2825 = .ok (.aload_n 0, 1) := by decide +kernel
theorem dL_law_2826 : decode cL_law 2826 = .ok (.iload 5, 2) := by decide +kernel
theorem dL_law_2828 : decode cL_law 2828 = .ok (.iconst 1, 1) := by decide +kernel
theorem dL_law_2829 : decode cL_law 2829 = .ok (.iadd, 1) := by decide +kernel
theorem dL_law_2830 : decode cL_law 2830 = .ok (.iaload, 1) := by decide +kernel
theorem dL_law_2831 : decode cL_law 2831 = .ok (.invokevirtual 288, 3) := by decide +kernel
theorem dL_law_2834 : decode cL_law 2834 = .ok (.istore 7, 2) := by decide +kernel
theorem dL_law_2836 : decode cL_law 2836 = .ok (.aload_n 2, 1) := by decide +kernel
theorem dL_law_2837 : decode cL_law 2837 = .ok (.invokevirtual 155, 3) := by decide +kernel
theorem dL_law_2840 : decode cL_law 2840 = .ok (.iload 6, 2) := by decide +kernel
theorem dL_law_2842 : decode cL_law 2842 = .ok (.if_icmp .eq 5, 3) := by decide +kernel
theorem dL_law_2845 : decode cL_law 2845 = .ok (.iconst 0, 1) := by decide +kernel
theorem dL_law_2846 : decode cL_law 2846 = .ok (.ireturn, 1) := by decide +kernel
theorem dL_law_2847 : decode cL_law 2847 = .ok (.iload 6, 2) := by decide +kernel
theorem dL_law_2849 : decode cL_law 2849 = .ok (.ifCond .ne 15, 3) := by decide +kernel
theorem dL_law_2852 : decode cL_law 2852 = .ok (.aload_n 3, 1) := by decide +kernel
theorem dL_law_2853 : decode cL_law 2853 = .ok (.iconst 0, 1) := by decide +kernel
theorem dL_law_2854 : decode cL_law 2854 = .ok (.laload, 1) := by decide +kernel
theorem dL_law_2855 : decode cL_law 2855 = .ok (.iload 7, 2) := by decide +kernel
theorem dL_law_2857 : decode cL_law 2857 = .ok (.i2l, 1) := by decide +kernel
theorem dL_law_2858 : decode cL_law 2858 = .ok (.lcmp, 1) := by decide +kernel
theorem dL_law_2859 : decode cL_law 2859 = .ok (.ifCond .eq 5, 3) := by decide +kernel
theorem dL_law_2862 : decode cL_law 2862 = .ok (.iconst 0, 1) := by decide +kernel
theorem dL_law_2863 : decode cL_law 2863 = .ok (.ireturn, 1) := by decide +kernel
theorem dL_law_2864 : decode cL_law 2864 = .ok (.goto 173, 3) := by decide +kernel
theorem dL_law_2867 : decode cL_law 2867 = .ok (.aload_n 1, 1) := by decide +kernel
theorem dL_law_2868 : decode cL_law 2868 = .ok (.aload 4, 2) := by decide +kernel
theorem dL_law_2870 : decode cL_law 2870 = .ok (.invokestatic 289, 3) := by decide +kernel
theorem dL_law_2873 : decode cL_law 2873 = .ok (.istore 6, 2) := by decide +kernel
theorem dL_law_2875 : decode cL_law 2875 = .ok (.aload_n 2, 1) := by decide +kernel
theorem dL_law_2876 : decode cL_law 2876 = .ok (.invokevirtual 292, 3) := by decide +kernel
theorem dL_law_2879 : decode cL_law 2879 = .ok (.fstore 7, 2) := by decide +kernel
theorem dL_law_2881 : decode cL_law 2881 = .ok (.aload_n 2, 1) := by decide +kernel
theorem dL_law_2882 : decode cL_law 2882 = .ok (.invokevirtual 155, 3) := by decide +kernel
theorem dL_law_2885 : decode cL_law 2885 = .ok (.iload 6, 2) := by decide +kernel
theorem dL_law_2887 : decode cL_law 2887 = .ok (.if_icmp .eq 5, 3) := by decide +kernel
theorem dL_law_2890 : decode cL_law 2890 = .ok (.iconst 0, 1) := by decide +kernel
theorem dL_law_2891 : decode cL_law 2891 = .ok (.ireturn, 1) := by decide +kernel
theorem dL_law_2892 : decode cL_law 2892 = .ok (.iload 6, 2) := by decide +kernel
theorem dL_law_2894 : decode cL_law 2894 = .ok (.ifCond .ne 36, 3) := by decide +kernel
theorem dL_law_2897 : decode cL_law 2897 = .ok (.aload 4, 2) := by decide +kernel
theorem dL_law_2899 : decode cL_law 2899 = .ok (.iconst 0, 1) := by decide +kernel
theorem dL_law_2900 : decode cL_law 2900 = .ok (.daload, 1) := by decide +kernel
theorem dL_law_2901 : decode cL_law 2901 = .ok (.fload 7, 2) := by decide +kernel
theorem dL_law_2903 : decode cL_law 2903 = .ok (.f2d, 1) := by decide +kernel
theorem dL_law_2904 : decode cL_law 2904 = .ok (.dcmp .l, 1) := by decide +kernel
theorem dL_law_2905 : decode cL_law 2905 = .ok (.ifCond .eq 25, 3) := by decide +kernel
theorem dL_law_2908 : decode cL_law 2908 = .ok (.aload 4, 2) := by decide +kernel
theorem dL_law_2910 : decode cL_law 2910 = .ok (.iconst 0, 1) := by decide +kernel
theorem dL_law_2911 : decode cL_law 2911 = .ok (.daload, 1) := by decide +kernel
theorem dL_law_2912 : decode cL_law 2912 = .ok (.aload 4, 2) := by decide +kernel
theorem dL_law_2914 : decode cL_law 2914 = .ok (.iconst 0, 1) := by decide +kernel
theorem dL_law_2915 : decode cL_law 2915 = .ok (.daload, 1) := by decide +kernel
theorem dL_law_2916 : decode cL_law 2916 = .ok (.dcmp .l, 1) := by decide +kernel
theorem dL_law_2917 : decode cL_law 2917 = .ok (.ifCond .eq 11, 3) := by decide +kernel
theorem dL_law_2920 : decode cL_law 2920 = .ok (.fload 7, 2) := by decide +kernel
theorem dL_law_2922 : decode cL_law 2922 = .ok (.fload 7, 2) := by decide +kernel
theorem dL_law_2924 : decode cL_law 2924 = .ok (.fcmp .l, 1) := by decide +kernel
theorem dL_law_2925 : decode cL_law 2925 = .ok (.ifCond .ne 5, 3) := by decide +kernel
theorem dL_law_2928 : decode cL_law 2928 = .ok (.iconst 0, 1) := by decide +kernel
theorem dL_law_2929 : decode cL_law 2929 = .ok (.ireturn, 1) := by decide +kernel
theorem dL_law_2930 : decode cL_law 2930 = .ok (.goto 107, 3) := by decide +kernel
theorem dL_law_2933 : decode cL_law 2933 = .ok (.aload_n 1, 1) := by decide +kernel
theorem dL_law_2934 : decode cL_law 2934 = .ok (.aload_n 0, 1) := by decide +kernel
theorem dL_law_2935 : decode cL_law 2935 = .ok (.iload 5, 2) := by decide +kernel
theorem dL_law_2937 : decode cL_law 2937 = .ok (.iconst 1, 1) := by decide +kernel
theorem dL_law_2938 : decode cL_law 2938 = .ok (.iadd, 1) := by decide +kernel
theorem dL_law_2939 : decode cL_law 2939 = .ok (.iaload, 1) := by decide +kernel
theorem dL_law_2940 : decode cL_law 2940 = .ok (.aload 4, 2) := by decide +kernel
theorem dL_law_2942 : decode cL_law 2942 = .ok (.invokestatic 293, 3) := by decide +kernel
theorem dL_law_2945 : decode cL_law 2945 = .ok (.istore 6, 2) := by decide +kernel
theorem dL_law_2947 : decode cL_law 2947 = .ok (.aload_n 2, 1) := by decide +kernel
theorem dL_law_2948 : decode cL_law 2948 = .ok (.aload_n 0, 1) := by decide +kernel
theorem dL_law_2949 : decode cL_law 2949 = .ok (.iload 5, 2) := by decide +kernel
theorem dL_law_2951 : decode cL_law 2951 = .ok (.iconst 1, 1) := by decide +kernel
theorem dL_law_2952 : decode cL_law 2952 = .ok (.iadd, 1) := by decide +kernel
theorem dL_law_2953 : decode cL_law 2953 = .ok (.iaload, 1) := by decide +kernel
theorem dL_law_2954 : decode cL_law 2954 = .ok (.invokevirtual 295, 3) := by decide +kernel
theorem dL_law_2957 : decode cL_law 2957 = .ok (.dstore 7, 2) := by decide +kernel
theorem dL_law_2959 : decode cL_law 2959 = .ok (.aload_n 2, 1) := by decide +kernel
theorem dL_law_2960 : decode cL_law 2960 = .ok (.invokevirtual 155, 3) := by decide +kernel
theorem dL_law_2963 : decode cL_law 2963 = .ok (.iload 6, 2) := by decide +kernel
theorem dL_law_2965 : decode cL_law 2965 = .ok (.if_icmp .eq 5, 3) := by decide +kernel
theorem dL_law_2968 : decode cL_law 2968 = .ok (.iconst 0, 1) := by decide +kernel
theorem dL_law_2969 : decode cL_law 2969 = .ok (.ireturn, 1) := by decide +kernel
theorem dL_law_2970 : decode cL_law 2970 = .ok (.iload 6, 2) := by decide +kernel
theorem dL_law_2972 : decode cL_law 2972 = .ok (.ifCond .ne 35, 3) := by decide +kernel
theorem dL_law_2975 : decode cL_law 2975 = .ok (.aload 4, 2) := by decide +kernel
theorem dL_law_2977 : decode cL_law 2977 = .ok (.iconst 0, 1) := by decide +kernel
theorem dL_law_2978 : decode cL_law 2978 = .ok (.daload, 1) := by decide +kernel
theorem dL_law_2979 : decode cL_law 2979 = .ok (.dload 7, 2) := by decide +kernel
theorem dL_law_2981 : decode cL_law 2981 = .ok (.dcmp .l, 1) := by decide +kernel
theorem dL_law_2982 : decode cL_law 2982 = .ok (.ifCond .eq 25, 3) := by decide +kernel
theorem dL_law_2985 : decode cL_law 2985 = .ok (.aload 4, 2) := by decide +kernel
theorem dL_law_2987 : decode cL_law 2987 = .ok (.iconst 0, 1) := by decide +kernel
theorem dL_law_2988 : decode cL_law 2988 = .ok (.daload, 1) := by decide +kernel
theorem dL_law_2989 : decode cL_law 2989 = .ok (.aload 4, 2) := by decide +kernel
theorem dL_law_2991 : decode cL_law 2991 = .ok (.iconst 0, 1) := by decide +kernel
theorem dL_law_2992 : decode cL_law 2992 = .ok (.daload, 1) := by decide +kernel
theorem dL_law_2993 : decode cL_law 2993 = .ok (.dcmp .l, 1) := by decide +kernel
theorem dL_law_2994 : decode cL_law 2994 = .ok (.ifCond .eq 11, 3) := by decide +kernel
theorem dL_law_2997 : decode cL_law 2997 = .ok (.dload 7, 2) := by decide +kernel
theorem dL_law_2999 : decode cL_law 2999 = .ok (.dload 7, 2) := by decide +kernel
theorem dL_law_3001 : decode cL_law 3001 = .ok (.dcmp .l, 1) := by decide +kernel
theorem dL_law_3002 : decode cL_law 3002 = .ok (.ifCond .ne 5, 3) := by decide +kernel
theorem dL_law_3005 : decode cL_law 3005 = .ok (.iconst 0, 1) := by decide +kernel
theorem dL_law_3006 : decode cL_law 3006 = .ok (.ireturn, 1) := by decide +kernel
theorem dL_law_3007 : decode cL_law 3007 = .ok (.goto 30, 3) := by decide +kernel
theorem dL_law_3010 : decode cL_law 3010 = .ok (.aload_n 1, 1) := by decide +kernel
theorem dL_law_3011 : decode cL_law 3011 = .ok (.invokevirtual 296, 3) := by decide +kernel
theorem dL_law_3014 : decode cL_law 3014 = .ok (.aload_n 2, 1) := by decide +kernel
theorem dL_law_3015 : decode cL_law 3015 = .ok (.invokevirtual 300, 3) := by decide +kernel
theorem dL_law_3018 : decode cL_law 3018 = .ok (.lcmp, 1) := by decide +kernel
theorem dL_law_3019 : decode cL_law 3019 = .ok (.ifCond .eq 18, 3) := by decide +kernel
theorem dL_law_3022 : decode cL_law 3022 = .ok (.iconst 0, 1) := by decide +kernel
theorem dL_law_3023 : decode cL_law 3023 = .ok (.ireturn, 1) := by decide +kernel
theorem dL_law_3024 : decode cL_law 3024 = .ok (.aload_n 1, 1) := by decide +kernel
theorem dL_law_3025 : decode cL_law 3025 = .ok (.invokevirtual 301, 3) := by decide +kernel
theorem dL_law_3028 : decode cL_law 3028 = .ok (.aload_n 2, 1) := by decide +kernel
theorem dL_law_3029 : decode cL_law 3029 = .ok (.invokevirtual 305, 3) := by decide +kernel
theorem dL_law_3032 : decode cL_law 3032 = .ok (.if_icmp .eq 5, 3) := by decide +kernel
theorem dL_law_3035 : decode cL_law 3035 = .ok (.iconst 0, 1) := by decide +kernel
theorem dL_law_3036 : decode cL_law 3036 = .ok (.ireturn, 1) := by decide +kernel
theorem dL_law_3037 : decode cL_law 3037 = .ok (.iinc 5 6, 3) := by decide +kernel
theorem dL_law_3040 : decode cL_law 3040 = .ok (.goto (-3012), 3) := by decide +kernel
theorem dL_law_3043 : decode cL_law 3043 = .ok (.iconst 1, 1) := by decide +kernel
theorem dL_law_3044 : decode cL_law 3044 = .ok (.ireturn, 1) := by decide +kernel
