theorem dL_law_2441 : decode cL_law 2441 = .ok (.istore 34, 2) := by decide +kernel
theorem dL_law_2443 : decode cL_law 2443 = .ok (.iload 34, 2) := by decide +kernel
theorem dL_law_2445 : decode cL_law 2445 = .ok (.iconst 3, 1) := by decide +kernel
theorem dL_law_2446 : decode cL_law 2446 = .ok (.if_icmp .ge 60, 3) := by decide +kernel
theorem dL_law_2449 : decode cL_law 2449 = .ok (.lload 30, 2) := by decide +kernel
theorem dL_law_2451 : decode cL_law 2451 = .ok (.lconst 0, 1) := by decide +kernel
theorem dL_law_2452 : decode cL_law 2452 = .ok (.lcmp, 1) := by decide +kernel
theorem dL_law_2453 : decode cL_law 2453 = .ok (.ifCond .le 53, 3) := by decide +kernel
theorem dL_law_2456 : decode cL_law 2456 = .ok (.lload 32, 2) := by decide +kernel
theorem dL_law_2458 : decode cL_law 2458 = .ok (.lconst 0, 1) := by decide +kernel
theorem dL_law_2459 : decode cL_law 2459 = .ok (.lcmp, 1) := by decide +kernel
theorem dL_law_2460 : decode cL_law 2460 = .ok (.ifCond .le 46, 3) := by decide +kernel
theorem dL_law_2463 : decode cL_law 2463 = .ok (.aload 10, 2) := by decide +kernel
theorem dL_law_2465 : decode cL_law 2465 = .ok (.iconst 3, 1) := by decide +kernel
theorem dL_law_2466 : decode cL_law 2466 = .ok (.iload 34, 2) := by decide +kernel
theorem dL_law_2468 : decode cL_law 2468 = .ok (.imul, 1) := by decide +kernel
theorem dL_law_2469 : decode cL_law 2469 = .ok (.iload 26, 2) := by decide +kernel
theorem dL_law_2471 : decode cL_law 2471 = .ok (.iadd, 1) := by decide +kernel
theorem dL_law_2472 : decode cL_law 2472 = .ok (.iaload, 1) := by decide +kernel
theorem dL_law_2473 : decode cL_law 2473 = .ok (.iconst 2, 1) := by decide +kernel
theorem dL_law_2474 : decode cL_law 2474 = .ok (.if_icmp .eq 6, 3) := by decide +kernel
theorem dL_law_2477 : decode cL_law 2477 = .ok (.goto 23, 3) := by decide +kernel
theorem dL_law_2480 : decode cL_law 2480 = .ok (.aload 9, 2) := by decide +kernel
theorem dL_law_2482 : decode cL_law 2482 = .ok (.iconst 3, 1) := by decide +kernel
theorem dL_law_2483 : decode cL_law 2483 = .ok (.iload 34, 2) := by decide +kernel
theorem dL_law_2485 : decode cL_law 2485 = .ok (.imul, 1) := by decide +kernel
theorem dL_law_2486 : decode cL_law 2486 = .ok (.iload 26, 2) := by decide +kernel
theorem dL_law_2488 : decode cL_law 2488 = .ok (.iadd, 1) := by decide +kernel
theorem dL_law_2489 : decode cL_law 2489 = .ok (.dup2, 1) := by decide +kernel
theorem dL_law_2490 : decode cL_law 2490 = .ok (.laload, 1) := by decide +kernel
theorem dL_law_2491 : decode cL_law 2491 = .ok (.lconst 1, 1) := by decide +kernel
theorem dL_law_2492 : decode cL_law 2492 = .ok (.ladd, 1) := by decide +kernel
theorem dL_law_2493 : decode cL_law 2493 = .ok (.lastore, 1) := by decide +kernel
theorem dL_law_2494 : decode cL_law 2494 = .ok (.lload 32, 2) := by decide +kernel
theorem dL_law_2496 : decode cL_law 2496 = .ok (.lconst 1, 1) := by decide +kernel
theorem dL_law_2497 : decode cL_law 2497 = .ok (.lsub, 1) := by decide +kernel
theorem dL_law_2498 : decode cL_law 2498 = .ok (.lstore 32, 2) := by decide +kernel
theorem dL_law_2500 : decode cL_law 2500 = .ok (.iinc 34 1, 3) := by decide +kernel
theorem dL_law_2503 : decode cL_law 2503 = .ok (.goto (-60), 3) := by decide +kernel
theorem dL_law_2506 : decode cL_law 2506 = .ok (.aload 10, 2) := by decide +kernel
theorem dL_law_2508 : decode cL_law 2508 = .ok (.bipush 12, 2) := by decide +kernel
theorem dL_law_2510 : decode cL_law 2510 = .ok (.iload 26, 2) := by decide +kernel
theorem dL_law_2512 : decode cL_law 2512 = .ok (.iconst 1, 1) := by decide +kernel
theorem dL_law_2513 : decode cL_law 2513 = .ok (.iadd, 1) := by decide +kernel
theorem dL_law_2514 : decode cL_law 2514 = .ok (.iastore, 1) := by decide +kernel
theorem dL_law_2515 : decode cL_law 2515 = .ok (.goto 45, 3) := by decide +kernel
theorem dL_law_2518 : decode cL_law 2518 = .ok (.iconst 1, 1) := by decide +kernel
theorem dL_law_2519 : decode cL_law 2519 = .ok (.iload 21, 2) := by decide +kernel
theorem dL_law_2521 : decode cL_law 2521 = .ok (.bipush 40, 2) := by decide +kernel
theorem dL_law_2523 : decode cL_law 2523 = .ok (.invokestatic 68, 3) := by decide +kernel
theorem dL_law_2526 : decode cL_law 2526 = .ok (.iadd, 1) := by decide +kernel
theorem dL_law_2527 : decode cL_law 2527 = .ok (.istore 26, 2) := by decide +kernel
theorem dL_law_2529 : decode cL_law 2529 = .ok (.iload 17, 2) := by decide +kernel
theorem dL_law_2531 : decode cL_law 2531 = .ok (.iload 26, 2) := by decide +kernel
theorem dL_law_2533 : decode cL_law 2533 = .ok (.iadd, 1) := by decide +kernel
theorem dL_law_2534 : decode cL_law 2534 = .ok (.sipush 300, 3) := by decide +kernel
theorem dL_law_2537 : decode cL_law 2537 = .ok (.if_icmp .ge 23, 3) := by decide +kernel
theorem dL_law_2540 : decode cL_law 2540 = .ok (.iload 17, 2) := by decide +kernel
theorem dL_law_2542 : decode cL_law 2542 = .ok (.iload 26, 2) := by decide +kernel
theorem dL_law_2544 : decode cL_law 2544 = .ok (.iadd, 1) := by decide +kernel
theorem dL_law_2545 : decode cL_law 2545 = .ok (.istore 17, 2) := by decide +kernel
theorem dL_law_2547 : decode cL_law 2547 = .ok (.aload_n 1, 1) := by decide +kernel
theorem dL_law_2548 : decode cL_law 2548 = .ok (.iload 26, 2) := by decide +kernel
theorem dL_law_2550 : decode cL_law 2550 = .ok (.invokevirtual 134, 3) := by decide +kernel
theorem dL_law_2553 : decode cL_law 2553 = .ok (.iload 17, 2) := by decide +kernel
theorem dL_law_2555 : decode cL_law 2555 = .ok (.if_icmp .eq 5, 3) := by decide +kernel
theorem dL_law_2558 : decode cL_law 2558 = .ok (.iconst 0, 1) := by decide +kernel
theorem dL_law_2559 : decode cL_law 2559 = .ok (.ireturn, 1) := by decide +kernel
theorem dL_law_2560 : decode cL_law 2560 = .ok (.iconst 0, 1) := by decide +kernel
theorem dL_law_2561 : decode cL_law 2561 = .ok (.istore 26, 2) := by decide +kernel
theorem dL_law_2563 : decode cL_law 2563 = .ok (.iload 26, 2) := by decide +kernel
theorem dL_law_2565 : decode cL_law 2565 = .ok (.iconst 3, 1) := by decide +kernel
theorem dL_law_2566 : decode cL_law 2566 = .ok (.if_icmp .ge 115, 3) := by decide +kernel
theorem dL_law_2569 : decode cL_law 2569 = .ok (.aload 11, 2) := by decide +kernel
theorem dL_law_2571 : decode cL_law 2571 = .ok (.iload 26, 2) := by decide +kernel
theorem dL_law_2573 : decode cL_law 2573 = .ok (.laload, 1) := by decide +kernel
theorem dL_law_2574 : decode cL_law 2574 = .ok (.lneg, 1) := by decide +kernel
theorem dL_law_2575 : decode cL_law 2575 = .ok (.lstore 27, 2) := by decide +kernel
theorem dL_law_2577 : decode cL_law 2577 = .ok (.iconst 0, 1) := by decide +kernel
theorem dL_law_2578 : decode cL_law 2578 = .ok (.istore 29, 2) := by decide +kernel
theorem dL_law_2580 : decode cL_law 2580 = .ok (.iload 29, 2) := by decide +kernel
theorem dL_law_2582 : decode cL_law 2582 = .ok (.iconst 3, 1) := by decide +kernel
theorem dL_law_2583 : decode cL_law 2583 = .ok (.if_icmp .ge 78, 3) := by decide +kernel
theorem dL_law_2586 : decode cL_law 2586 = .ok (.aload_n 2, 1) := by decide +kernel
theorem dL_law_2587 : decode cL_law 2587 = .ok (.iload 14, 2) := by decide +kernel
theorem dL_law_2589 : decode cL_law 2589 = .ok (.aload_n 3, 1) := by decide +kernel
theorem dL_law_2590 : decode cL_law 2590 = .ok (.aload 4, 2) := by decide +kernel
theorem dL_law_2592 : decode cL_law 2592 = .ok (.aload 8, 2) := by decide +kernel
theorem dL_law_2594 : decode cL_law 2594 = .ok (.aload 9, 2) := by decide +kernel
theorem dL_law_2596 : decode cL_law 2596 = .ok (.aload 10, 2) := by decide +kernel
theorem dL_law_2598 : decode cL_law 2598 = .ok (.iload 26, 2) := by decide +kernel
theorem dL_law_2600 : decode cL_law 2600 = .ok (.iload 29, 2) := by decide +kernel
theorem dL_law_2602 : decode cL_law 2602 = .ok (.invokestatic 118, 3) := by decide +kernel
theorem dL_law_2605 : decode cL_law 2605 = .ok (.lstore 30, 2) := by decide +kernel
theorem dL_law_2607 : decode cL_law 2607 = .ok (.lload 27, 2) := by decide +kernel
theorem dL_law_2609 : decode cL_law 2609 = .ok (.lload 30, 2) := by decide +kernel
theorem dL_law_2611 : decode cL_law 2611 = .ok (.ladd, 1) := by decide +kernel
theorem dL_law_2612 : decode cL_law 2612 = .ok (.lstore 27, 2) := by decide +kernel
theorem dL_law_2614 : decode cL_law 2614 = .ok (.aload_n 1, 1) := by decide +kernel
theorem dL_law_2615 : decode cL_law 2615 = .ok (.iload 26, 2) := by decide +kernel
theorem dL_law_2617 : decode cL_law 2617 = .ok (.iload 29, 2) := by decide +kernel
theorem dL_law_2619 : decode cL_law 2619 = .ok (.invokevirtual 137, 3) := by decide +kernel
theorem dL_law_2622 : decode cL_law 2622 = .ok (.lload 30, 2) := by decide +kernel
theorem dL_law_2624 : decode cL_law 2624 = .ok (.lcmp, 1) := by decide +kernel
theorem dL_law_2625 : decode cL_law 2625 = .ok (.ifCond .ne 28, 3) := by decide +kernel
theorem dL_law_2628 : decode cL_law 2628 = .ok (.aload_n 1, 1) := by decide +kernel
theorem dL_law_2629 : decode cL_law 2629 = .ok (.iload 26, 2) := by decide +kernel
theorem dL_law_2631 : decode cL_law 2631 = .ok (.iload 29, 2) := by decide +kernel
theorem dL_law_2633 : decode cL_law 2633 = .ok (.invokevirtual 139, 3) := by decide +kernel
theorem dL_law_2636 : decode cL_law 2636 = .ok (.aload_n 2, 1) := by decide +kernel
theorem dL_law_2637 : decode cL_law 2637 = .ok (.iload 14, 2) := by decide +kernel
theorem dL_law_2639 : decode cL_law 2639 = .ok (.aload_n 3, 1) := by decide +kernel
theorem dL_law_2640 : decode cL_law 2640 = .ok (.aload 4, 2) := by decide +kernel
theorem dL_law_2642 : decode cL_law 2642 = .ok (.iload 26, 2) := by decide +kernel
theorem dL_law_2644 : decode cL_law 2644 = .ok (.iload 29, 2) := by decide +kernel
theorem dL_law_2646 : decode cL_law 2646 = .ok (.invokestatic 24, 3) := by decide +kernel
theorem dL_law_2649 : decode cL_law 2649 = .ok (.lcmp, 1) := by decide +kernel
theorem dL_law_2650 : decode cL_law 2650 = .ok (.ifCond .eq 5, 3) := by decide +kernel
theorem dL_law_2653 : decode cL_law 2653 = .ok (.iconst 0, 1) := by decide +kernel
theorem dL_law_2654 : decode cL_law 2654 = .ok (.ireturn, 1) := by decide +kernel
theorem dL_law_2655 : decode cL_law 2655 = .ok (.iinc 29 1, 3) := by decide +kernel
theorem dL_law_2658 : decode cL_law 2658 = .ok (.goto (-78), 3) := by decide +kernel
theorem dL_law_2661 : decode cL_law 2661 = .ok (.aload_n 1, 1) := by decide +kernel
theorem dL_law_2662 : decode cL_law 2662 = .ok (.iload 26, 2) := by decide +kernel
theorem dL_law_2664 : decode cL_law 2664 = .ok (.invokevirtual 141, 3) := by decide +kernel
theorem dL_law_2667 : decode cL_law 2667 = .ok (.lload 27, 2) := by decide +kernel
theorem dL_law_2669 : decode cL_law 2669 = .ok (.lcmp, 1) := by decide +kernel
theorem dL_law_2670 : decode cL_law 2670 = .ok (.ifCond .eq 5, 3) := by decide +kernel
theorem dL_law_2673 : decode cL_law 2673 = .ok (.iconst 0, 1) := by decide +kernel
theorem dL_law_2674 : decode cL_law 2674 = .ok (.ireturn, 1) := by decide +kernel
theorem dL_law_2675 : decode cL_law 2675 = .ok (.iinc 26 1, 3) := by decide +kernel
theorem dL_law_2678 : decode cL_law 2678 = .ok (.goto (-115), 3) := by decide +kernel
theorem dL_law_2681 : decode cL_law 2681 = .ok (.iconst 0, 1) := by decide +kernel
theorem dL_law_2682 : decode cL_law 2682 = .ok (.istore 26, 2) := by decide +kernel
theorem dL_law_2684 : decode cL_law 2684 = .ok (.iload 26, 2) := by decide +kernel
theorem dL_law_2686 : decode cL_law 2686 = .ok (.iload 15, 2) := by decide +kernel
theorem dL_law_2688 : decode cL_law 2688 = .ok (.if_icmp .ge 44, 3) := by decide +kernel
theorem dL_law_2691 : decode cL_law 2691 = .ok (.aload_n 1, 1) := by decide +kernel
theorem dL_law_2692 : decode cL_law 2692 = .ok (.iload 26, 2) := by decide +kernel
theorem dL_law_2694 : decode cL_law 2694 = .ok (.iconst 2, 1) := by decide +kernel
theorem dL_law_2695 : decode cL_law 2695 = .ok (.invokevirtual 83, 3) := by decide +kernel
theorem dL_law_2698 : decode cL_law 2698 = .ok (.aload_n 2, 1) := by decide +kernel
theorem dL_law_2699 : decode cL_law 2699 = .ok (.iload 14, 2) := by decide +kernel
theorem dL_law_2701 : decode cL_law 2701 = .ok (.aload_n 3, 1) := by decide +kernel
theorem dL_law_2702 : decode cL_law 2702 = .ok (.aload 5, 2) := by decide +kernel
theorem dL_law_2704 : decode cL_law 2704 = .ok (.aload 10, 2) := by decide +kernel
theorem dL_law_2706 : decode cL_law 2706 = .ok (.iload 26, 2) := by decide +kernel
theorem dL_law_2708 : decode cL_law 2708 = .ok (.invokestatic 12, 3) := by decide +kernel
theorem dL_law_2711 : decode cL_law 2711 = .ok (.ifCond .eq 7, 3) := by decide +kernel
theorem dL_law_2714 : decode cL_law 2714 = .ok (.iconst 1, 1) := by decide +kernel
theorem dL_law_2715 : decode cL_law 2715 = .ok (.goto 4, 3) := by decide +kernel
theorem dL_law_2718 : decode cL_law 2718 = .ok (.iconst 0, 1) := by decide +kernel
theorem dL_law_2719 : decode cL_law 2719 = .ok (.i2l, 1) := by decide +kernel
theorem dL_law_2720 : decode cL_law 2720 = .ok (.lcmp, 1) := by decide +kernel
theorem dL_law_2721 : decode cL_law 2721 = .ok (.ifCond .eq 5, 3) := by decide +kernel
theorem dL_law_2724 : decode cL_law 2724 = .ok (.iconst 0, 1) := by decide +kernel
theorem dL_law_2725 : decode cL_law 2725 = .ok (.ireturn, 1) := by decide +kernel
theorem dL_law_2726 : decode cL_law 2726 = .ok (.iinc 26 1, 3) := by decide +kernel
theorem dL_law_2729 : decode cL_law 2729 = .ok (.goto (-45), 3) := by decide +kernel
theorem dL_law_2732 : decode cL_law 2732 = .ok (.iconst 0, 1) := by decide +kernel
theorem dL_law_2733 : decode cL_law 2733 = .ok (.istore 26, 2) := by decide +kernel
theorem dL_law_2735 : decode cL_law 2735 = .ok (.iload 26, 2) := by decide +kernel
theorem dL_law_2737 : decode cL_law 2737 = .ok (.iload 16, 2) := by decide +kernel
theorem dL_law_2739 : decode cL_law 2739 = .ok (.if_icmp .ge 41, 3) := by decide +kernel
theorem dL_law_2742 : decode cL_law 2742 = .ok (.aload_n 1, 1) := by decide +kernel
theorem dL_law_2743 : decode cL_law 2743 = .ok (.iload 26, 2) := by decide +kernel
theorem dL_law_2745 : decode cL_law 2745 = .ok (.iconst 1, 1) := by decide +kernel
theorem dL_law_2746 : decode cL_law 2746 = .ok (.invokevirtual 144, 3) := by decide +kernel
theorem dL_law_2749 : decode cL_law 2749 = .ok (.aload_n 2, 1) := by decide +kernel
theorem dL_law_2750 : decode cL_law 2750 = .ok (.iload 14, 2) := by decide +kernel
theorem dL_law_2752 : decode cL_law 2752 = .ok (.aload_n 3, 1) := by decide +kernel
theorem dL_law_2753 : decode cL_law 2753 = .ok (.aload 5, 2) := by decide +kernel
theorem dL_law_2755 : decode cL_law 2755 = .ok (.iload 15, 2) := by decide +kernel
theorem dL_law_2757 : decode cL_law 2757 = .ok (.aload 6, 2) := by decide +kernel
theorem dL_law_2759 : decode cL_law 2759 = .ok (.aload 7, 2) := by decide +kernel
theorem dL_law_2761 : decode cL_law 2761 = .ok (.aload 10, 2) := by decide +kernel
theorem dL_law_2763 : decode cL_law 2763 = .ok (.iload 26, 2) := by decide +kernel
theorem dL_law_2765 : decode cL_law 2765 = .ok (.invokestatic 20, 3) := by decide +kernel
theorem dL_law_2768 : decode cL_law 2768 = .ok (.lcmp, 1) := by decide +kernel
theorem dL_law_2769 : decode cL_law 2769 = .ok (.ifCond .eq 5, 3) := by decide +kernel
theorem dL_law_2772 : decode cL_law 2772 = .ok (.iconst 0, 1) := by decide +kernel
theorem dL_law_2773 : decode cL_law 2773 = .ok (.ireturn, 1) := by decide +kernel
theorem dL_law_2774 : decode cL_law 2774 = .ok (.iinc 26 1, 3) := by decide +kernel
theorem dL_law_2777 : decode cL_law 2777 = .ok (.goto (-42), 3) := by decide +kernel
theorem dL_law_2780 : decode cL_law 2780 = .ok (.iconst 0, 1) := by decide +kernel
theorem dL_law_2781 : decode cL_law 2781 = .ok (.istore 26, 2) := by decide +kernel
theorem dL_law_2783 : decode cL_law 2783 = .ok (.iload 26, 2) := by decide +kernel
theorem dL_law_2785 : decode cL_law 2785 = .ok (.iconst 3, 1) := by decide +kernel
theorem dL_law_2786 : decode cL_law 2786 = .ok (.if_icmp .ge 66, 3) := by decide +kernel
theorem dL_law_2789 : decode cL_law 2789 = .ok (.aload_n 1, 1) := by decide +kernel
theorem dL_law_2790 : decode cL_law 2790 = .ok (.iload 26, 2) := by decide +kernel
theorem dL_law_2792 : decode cL_law 2792 = .ok (.invokevirtual 147, 3) := by decide +kernel
theorem dL_law_2795 : decode cL_law 2795 = .ok (.aload_n 2, 1) := by decide +kernel
theorem dL_law_2796 : decode cL_law 2796 = .ok (.iload 14, 2) := by decide +kernel
theorem dL_law_2798 : decode cL_law 2798 = .ok (.aload_n 3, 1) := by decide +kernel
theorem dL_law_2799 : decode cL_law 2799 = .ok (.aload 5, 2) := by decide +kernel
theorem dL_law_2801 : decode cL_law 2801 = .ok (.iload 15, 2) := by decide +kernel
theorem dL_law_2803 : decode cL_law 2803 = .ok (.aload 6, 2) := by decide +kernel
theorem dL_law_2805 : decode cL_law 2805 = .ok (.aload 7, 2) := by decide +kernel
theorem dL_law_2807 : decode cL_law 2807 = .ok (.aload 10, 2) := by decide +kernel
theorem dL_law_2809 : decode cL_law 2809 = .ok (.iload 16, 2) := by decide +kernel
theorem dL_law_2811 : decode cL_law 2811 = .ok (.iload 26, 2) := by decide +kernel
theorem dL_law_2813 : decode cL_law 2813 = .ok (.invokestatic 126, 3) := by decide +kernel
theorem dL_law_2816 : decode cL_law 2816 = .ok (.lcmp, 1) := by decide +kernel
theorem dL_law_2817 : decode cL_law 2817 = .ok (.ifCond .ne 27, 3) := by decide +kernel
theorem dL_law_2820 : decode cL_law 2820 = .ok (.aload_n 1, 1) := by decide +kernel
theorem dL_law_2821 : decode cL_law 2821 = .ok (.iload 26, 2) := by decide +kernel
theorem dL_law_2823 : decode cL_law 2823 = .ok (.invokevirtual 149, 3) := by decide +kernel
theorem dL_law_2826 : decode cL_law 2826 = .ok (.iload 26, 2) := by decide +kernel
theorem dL_law_2828 : decode cL_law 2828 = .ok (.aload 10, 2) := by decide +kernel
theorem dL_law_2830 : decode cL_law 2830 = .ok (.bipush 12, 2) := by decide +kernel
theorem dL_law_2832 : decode cL_law 2832 = .ok (.iaload, 1) := by decide +kernel
theorem dL_law_2833 : decode cL_law 2833 = .ok (.if_icmp .ge 7, 3) := by decide +kernel
theorem dL_law_2836 : decode cL_law 2836 = .ok (.iconst 1, 1) := by decide +kernel
theorem dL_law_2837 : decode cL_law 2837 = .ok (.goto 4, 3) := by decide +kernel
theorem dL_law_2840 : decode cL_law 2840 = .ok (.iconst 0, 1) := by decide +kernel
theorem dL_law_2841 : decode cL_law 2841 = .ok (.if_icmp .eq 5, 3) := by decide +kernel
theorem dL_law_2844 : decode cL_law 2844 = .ok (.iconst 0, 1) := by decide +kernel
theorem dL_law_2845 : decode cL_law 2845 = .ok (.ireturn, 1) := by decide +kernel
theorem dL_law_2846 : decode cL_law 2846 = .ok (.iinc 26 1, 3) := by decide +kernel
theorem dL_law_2849 : decode cL_law 2849 = .ok (.goto (-66), 3) := by decide +kernel
theorem dL_law_2852 : decode cL_law 2852 = .ok (.aload_n 1, 1) := by decide +kernel
theorem dL_law_2853 : decode cL_law 2853 = .ok (.invokevirtual 153, 3) := by decide +kernel
theorem dL_law_2856 : decode cL_law 2856 = .ok (.lload 12, 2) := by decide +kernel
theorem dL_law_2858 : decode cL_law 2858 = .ok (.lcmp, 1) := by decide +kernel
theorem dL_law_2859 : decode cL_law 2859 = .ok (.ifCond .eq 5, 3) := by decide +kernel
theorem dL_law_2862 : decode cL_law 2862 = .ok (.iconst 0, 1) := by decide +kernel
theorem dL_law_2863 : decode cL_law 2863 = .ok (.ireturn, 1) := by decide +kernel
theorem dL_law_2864 : decode cL_law 2864 = .ok (.iinc 19 1, 3) := by decide +kernel
theorem dL_law_2867 : decode cL_law 2867 = .ok (.goto (-2590), 3) := by decide +kernel
theorem dL_law_2870 : decode cL_law 2870 = .ok (.iconst 1, 1) := by decide +kernel
theorem dL_law_2871 : decode cL_law 2871 = .ok (.ireturn, 1) := by decide +kernel
