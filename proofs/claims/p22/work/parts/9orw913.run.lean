/-! the walk runs: 13 -/
set_option maxRecDepth 100000 in
theorem w_g2587 : w_g (nat_lit 2587) = true := by decide +kernel
theorem w_r2588 : w_rg 2588 := w_rg_s (n := 2587) w_r2587 w_g2587
set_option maxRecDepth 100000 in
theorem w_g2588 : w_g (nat_lit 2588) = true := by decide +kernel
theorem w_r2589 : w_rg 2589 := w_rg_s (n := 2588) w_r2588 w_g2588
set_option maxRecDepth 100000 in
theorem w_g2589 : w_g (nat_lit 2589) = true := by decide +kernel
theorem w_r2590 : w_rg 2590 := w_rg_s (n := 2589) w_r2589 w_g2589
set_option maxRecDepth 100000 in
theorem w_g2590 : w_g (nat_lit 2590) = true := by decide +kernel
theorem w_r2591 : w_rg 2591 := w_rg_s (n := 2590) w_r2590 w_g2590
set_option maxRecDepth 100000 in
theorem w_g2591 : w_g (nat_lit 2591) = true := by decide +kernel
theorem w_r2592 : w_rg 2592 := w_rg_s (n := 2591) w_r2591 w_g2591
set_option maxRecDepth 100000 in
theorem w_g2592 : w_g (nat_lit 2592) = true := by decide +kernel
theorem w_r2593 : w_rg 2593 := w_rg_s (n := 2592) w_r2592 w_g2592
set_option maxRecDepth 100000 in
theorem w_g2593 : w_g (nat_lit 2593) = true := by decide +kernel
theorem w_r2594 : w_rg 2594 := w_rg_s (n := 2593) w_r2593 w_g2593
set_option maxRecDepth 100000 in
theorem w_g2594 : w_g (nat_lit 2594) = true := by decide +kernel
theorem w_r2595 : w_rg 2595 := w_rg_s (n := 2594) w_r2594 w_g2594
set_option maxRecDepth 100000 in
theorem w_g2595 : w_g (nat_lit 2595) = true := by decide +kernel
theorem w_r2596 : w_rg 2596 := w_rg_s (n := 2595) w_r2595 w_g2595
set_option maxRecDepth 100000 in
theorem w_g2596 : w_g (nat_lit 2596) = true := by decide +kernel
theorem w_r2597 : w_rg 2597 := w_rg_s (n := 2596) w_r2596 w_g2596
set_option maxRecDepth 100000 in
theorem w_g2597 : w_g (nat_lit 2597) = true := by decide +kernel
theorem w_r2598 : w_rg 2598 := w_rg_s (n := 2597) w_r2597 w_g2597
set_option maxRecDepth 100000 in
theorem w_g2598 : w_g (nat_lit 2598) = true := by decide +kernel
theorem w_r2599 : w_rg 2599 := w_rg_s (n := 2598) w_r2598 w_g2598
set_option maxRecDepth 100000 in
theorem w_g2599 : w_g (nat_lit 2599) = true := by decide +kernel
theorem w_r2600 : w_rg 2600 := w_rg_s (n := 2599) w_r2599 w_g2599
set_option maxRecDepth 100000 in
theorem w_g2600 : w_g (nat_lit 2600) = true := by decide +kernel
theorem w_r2601 : w_rg 2601 := w_rg_s (n := 2600) w_r2600 w_g2600
set_option maxRecDepth 100000 in
theorem w_g2601 : w_g (nat_lit 2601) = true := by decide +kernel
theorem w_r2602 : w_rg 2602 := w_rg_s (n := 2601) w_r2601 w_g2601
set_option maxRecDepth 100000 in
theorem w_g2602 : w_g (nat_lit 2602) = true := by decide +kernel
theorem w_r2603 : w_rg 2603 := w_rg_s (n := 2602) w_r2602 w_g2602
set_option maxRecDepth 100000 in
theorem w_g2603 : w_g (nat_lit 2603) = true := by decide +kernel
theorem w_r2604 : w_rg 2604 := w_rg_s (n := 2603) w_r2603 w_g2603
set_option maxRecDepth 100000 in
theorem w_g2604 : w_g (nat_lit 2604) = true := by decide +kernel
theorem w_r2605 : w_rg 2605 := w_rg_s (n := 2604) w_r2604 w_g2604
set_option maxRecDepth 100000 in
theorem w_g2605 : w_g (nat_lit 2605) = true := by decide +kernel
theorem w_r2606 : w_rg 2606 := w_rg_s (n := 2605) w_r2605 w_g2605
set_option maxRecDepth 100000 in
theorem w_g2606 : w_g (nat_lit 2606) = true := by decide +kernel
theorem w_r2607 : w_rg 2607 := w_rg_s (n := 2606) w_r2606 w_g2606
set_option maxRecDepth 100000 in
theorem w_g2607 : w_g (nat_lit 2607) = true := by decide +kernel
theorem w_r2608 : w_rg 2608 := w_rg_s (n := 2607) w_r2607 w_g2607
set_option maxRecDepth 100000 in
theorem w_g2608 : w_g (nat_lit 2608) = true := by decide +kernel
theorem w_r2609 : w_rg 2609 := w_rg_s (n := 2608) w_r2608 w_g2608
set_option maxRecDepth 100000 in
theorem w_g2609 : w_g (nat_lit 2609) = true := by decide +kernel
theorem w_r2610 : w_rg 2610 := w_rg_s (n := 2609) w_r2609 w_g2609
set_option maxRecDepth 100000 in
theorem w_g2610 : w_g (nat_lit 2610) = true := by decide +kernel
theorem w_r2611 : w_rg 2611 := w_rg_s (n := 2610) w_r2610 w_g2610
set_option maxRecDepth 100000 in
theorem w_g2611 : w_g (nat_lit 2611) = true := by decide +kernel
theorem w_r2612 : w_rg 2612 := w_rg_s (n := 2611) w_r2611 w_g2611
set_option maxRecDepth 100000 in
theorem w_g2612 : w_g (nat_lit 2612) = true := by decide +kernel
theorem w_r2613 : w_rg 2613 := w_rg_s (n := 2612) w_r2612 w_g2612
set_option maxRecDepth 100000 in
theorem w_g2613 : w_g (nat_lit 2613) = true := by decide +kernel
theorem w_r2614 : w_rg 2614 := w_rg_s (n := 2613) w_r2613 w_g2613
set_option maxRecDepth 100000 in
theorem w_g2614 : w_g (nat_lit 2614) = true := by decide +kernel
theorem w_r2615 : w_rg 2615 := w_rg_s (n := 2614) w_r2614 w_g2614
set_option maxRecDepth 100000 in
theorem w_g2615 : w_g (nat_lit 2615) = true := by decide +kernel
theorem w_r2616 : w_rg 2616 := w_rg_s (n := 2615) w_r2615 w_g2615
set_option maxRecDepth 100000 in
theorem w_g2616 : w_g (nat_lit 2616) = true := by decide +kernel
theorem w_r2617 : w_rg 2617 := w_rg_s (n := 2616) w_r2616 w_g2616
set_option maxRecDepth 100000 in
theorem w_g2617 : w_g (nat_lit 2617) = true := by decide +kernel
theorem w_r2618 : w_rg 2618 := w_rg_s (n := 2617) w_r2617 w_g2617
set_option maxRecDepth 100000 in
theorem w_g2618 : w_g (nat_lit 2618) = true := by decide +kernel
theorem w_r2619 : w_rg 2619 := w_rg_s (n := 2618) w_r2618 w_g2618
set_option maxRecDepth 100000 in
theorem w_g2619 : w_g (nat_lit 2619) = true := by decide +kernel
theorem w_r2620 : w_rg 2620 := w_rg_s (n := 2619) w_r2619 w_g2619
set_option maxRecDepth 100000 in
theorem w_g2620 : w_g (nat_lit 2620) = true := by decide +kernel
theorem w_r2621 : w_rg 2621 := w_rg_s (n := 2620) w_r2620 w_g2620
set_option maxRecDepth 100000 in
theorem w_g2621 : w_g (nat_lit 2621) = true := by decide +kernel
theorem w_r2622 : w_rg 2622 := w_rg_s (n := 2621) w_r2621 w_g2621
set_option maxRecDepth 100000 in
theorem w_g2622 : w_g (nat_lit 2622) = true := by decide +kernel
theorem w_r2623 : w_rg 2623 := w_rg_s (n := 2622) w_r2622 w_g2622
set_option maxRecDepth 100000 in
theorem w_g2623 : w_g (nat_lit 2623) = true := by decide +kernel
theorem w_r2624 : w_rg 2624 := w_rg_s (n := 2623) w_r2623 w_g2623
set_option maxRecDepth 100000 in
theorem w_g2624 : w_g (nat_lit 2624) = true := by decide +kernel
theorem w_r2625 : w_rg 2625 := w_rg_s (n := 2624) w_r2624 w_g2624
set_option maxRecDepth 100000 in
theorem w_g2625 : w_g (nat_lit 2625) = true := by decide +kernel
theorem w_r2626 : w_rg 2626 := w_rg_s (n := 2625) w_r2625 w_g2625
set_option maxRecDepth 100000 in
theorem w_g2626 : w_g (nat_lit 2626) = true := by decide +kernel
theorem w_r2627 : w_rg 2627 := w_rg_s (n := 2626) w_r2626 w_g2626
set_option maxRecDepth 100000 in
theorem w_g2627 : w_g (nat_lit 2627) = true := by decide +kernel
theorem w_r2628 : w_rg 2628 := w_rg_s (n := 2627) w_r2627 w_g2627
set_option maxRecDepth 100000 in
theorem w_g2628 : w_g (nat_lit 2628) = true := by decide +kernel
theorem w_r2629 : w_rg 2629 := w_rg_s (n := 2628) w_r2628 w_g2628
set_option maxRecDepth 100000 in
theorem w_g2629 : w_g (nat_lit 2629) = true := by decide +kernel
theorem w_r2630 : w_rg 2630 := w_rg_s (n := 2629) w_r2629 w_g2629
set_option maxRecDepth 100000 in
theorem w_g2630 : w_g (nat_lit 2630) = true := by decide +kernel
theorem w_r2631 : w_rg 2631 := w_rg_s (n := 2630) w_r2630 w_g2630
set_option maxRecDepth 100000 in
theorem w_g2631 : w_g (nat_lit 2631) = true := by decide +kernel
theorem w_r2632 : w_rg 2632 := w_rg_s (n := 2631) w_r2631 w_g2631
set_option maxRecDepth 100000 in
theorem w_g2632 : w_g (nat_lit 2632) = true := by decide +kernel
theorem w_r2633 : w_rg 2633 := w_rg_s (n := 2632) w_r2632 w_g2632
set_option maxRecDepth 100000 in
theorem w_g2633 : w_g (nat_lit 2633) = true := by decide +kernel
theorem w_r2634 : w_rg 2634 := w_rg_s (n := 2633) w_r2633 w_g2633
set_option maxRecDepth 100000 in
theorem w_g2634 : w_g (nat_lit 2634) = true := by decide +kernel
theorem w_r2635 : w_rg 2635 := w_rg_s (n := 2634) w_r2634 w_g2634
set_option maxRecDepth 100000 in
theorem w_g2635 : w_g (nat_lit 2635) = true := by decide +kernel
theorem w_r2636 : w_rg 2636 := w_rg_s (n := 2635) w_r2635 w_g2635
set_option maxRecDepth 100000 in
theorem w_g2636 : w_g (nat_lit 2636) = true := by decide +kernel
theorem w_r2637 : w_rg 2637 := w_rg_s (n := 2636) w_r2636 w_g2636
set_option maxRecDepth 100000 in
theorem w_g2637 : w_g (nat_lit 2637) = true := by decide +kernel
theorem w_r2638 : w_rg 2638 := w_rg_s (n := 2637) w_r2637 w_g2637
set_option maxRecDepth 100000 in
theorem w_g2638 : w_g (nat_lit 2638) = true := by decide +kernel
theorem w_r2639 : w_rg 2639 := w_rg_s (n := 2638) w_r2638 w_g2638
set_option maxRecDepth 100000 in
theorem w_g2639 : w_g (nat_lit 2639) = true := by decide +kernel
theorem w_r2640 : w_rg 2640 := w_rg_s (n := 2639) w_r2639 w_g2639
set_option maxRecDepth 100000 in
theorem w_g2640 : w_g (nat_lit 2640) = true := by decide +kernel
theorem w_r2641 : w_rg 2641 := w_rg_s (n := 2640) w_r2640 w_g2640
set_option maxRecDepth 100000 in
theorem w_g2641 : w_g (nat_lit 2641) = true := by decide +kernel
theorem w_r2642 : w_rg 2642 := w_rg_s (n := 2641) w_r2641 w_g2641
set_option maxRecDepth 100000 in
theorem w_g2642 : w_g (nat_lit 2642) = true := by decide +kernel
theorem w_r2643 : w_rg 2643 := w_rg_s (n := 2642) w_r2642 w_g2642
set_option maxRecDepth 100000 in
theorem w_g2643 : w_g (nat_lit 2643) = true := by decide +kernel
theorem w_r2644 : w_rg 2644 := w_rg_s (n := 2643) w_r2643 w_g2643
set_option maxRecDepth 100000 in
theorem w_g2644 : w_g (nat_lit 2644) = true := by decide +kernel
theorem w_r2645 : w_rg 2645 := w_rg_s (n := 2644) w_r2644 w_g2644
set_option maxRecDepth 100000 in
theorem w_g2645 : w_g (nat_lit 2645) = true := by decide +kernel
theorem w_r2646 : w_rg 2646 := w_rg_s (n := 2645) w_r2645 w_g2645
set_option maxRecDepth 100000 in
theorem w_g2646 : w_g (nat_lit 2646) = true := by decide +kernel
theorem w_r2647 : w_rg 2647 := w_rg_s (n := 2646) w_r2646 w_g2646
set_option maxRecDepth 100000 in
theorem w_g2647 : w_g (nat_lit 2647) = true := by decide +kernel
theorem w_r2648 : w_rg 2648 := w_rg_s (n := 2647) w_r2647 w_g2647
set_option maxRecDepth 100000 in
theorem w_g2648 : w_g (nat_lit 2648) = true := by decide +kernel
theorem w_r2649 : w_rg 2649 := w_rg_s (n := 2648) w_r2648 w_g2648
set_option maxRecDepth 100000 in
theorem w_g2649 : w_g (nat_lit 2649) = true := by decide +kernel
theorem w_r2650 : w_rg 2650 := w_rg_s (n := 2649) w_r2649 w_g2649
set_option maxRecDepth 100000 in
theorem w_g2650 : w_g (nat_lit 2650) = true := by decide +kernel
theorem w_r2651 : w_rg 2651 := w_rg_s (n := 2650) w_r2650 w_g2650
set_option maxRecDepth 100000 in
theorem w_g2651 : w_g (nat_lit 2651) = true := by decide +kernel
theorem w_r2652 : w_rg 2652 := w_rg_s (n := 2651) w_r2651 w_g2651
set_option maxRecDepth 100000 in
theorem w_g2652 : w_g (nat_lit 2652) = true := by decide +kernel
theorem w_r2653 : w_rg 2653 := w_rg_s (n := 2652) w_r2652 w_g2652
set_option maxRecDepth 100000 in
theorem w_g2653 : w_g (nat_lit 2653) = true := by decide +kernel
theorem w_r2654 : w_rg 2654 := w_rg_s (n := 2653) w_r2653 w_g2653
set_option maxRecDepth 100000 in
theorem w_g2654 : w_g (nat_lit 2654) = true := by decide +kernel
theorem w_r2655 : w_rg 2655 := w_rg_s (n := 2654) w_r2654 w_g2654
set_option maxRecDepth 100000 in
theorem w_g2655 : w_g (nat_lit 2655) = true := by decide +kernel
theorem w_r2656 : w_rg 2656 := w_rg_s (n := 2655) w_r2655 w_g2655
set_option maxRecDepth 100000 in
theorem w_g2656 : w_g (nat_lit 2656) = true := by decide +kernel
theorem w_r2657 : w_rg 2657 := w_rg_s (n := 2656) w_r2656 w_g2656
set_option maxRecDepth 100000 in
theorem w_g2657 : w_g (nat_lit 2657) = true := by decide +kernel
theorem w_r2658 : w_rg 2658 := w_rg_s (n := 2657) w_r2657 w_g2657
set_option maxRecDepth 100000 in
theorem w_g2658 : w_g (nat_lit 2658) = true := by decide +kernel
theorem w_r2659 : w_rg 2659 := w_rg_s (n := 2658) w_r2658 w_g2658
set_option maxRecDepth 100000 in
theorem w_g2659 : w_g (nat_lit 2659) = true := by decide +kernel
theorem w_r2660 : w_rg 2660 := w_rg_s (n := 2659) w_r2659 w_g2659
set_option maxRecDepth 100000 in
theorem w_g2660 : w_g (nat_lit 2660) = true := by decide +kernel
theorem w_r2661 : w_rg 2661 := w_rg_s (n := 2660) w_r2660 w_g2660
set_option maxRecDepth 100000 in
theorem w_g2661 : w_g (nat_lit 2661) = true := by decide +kernel
theorem w_r2662 : w_rg 2662 := w_rg_s (n := 2661) w_r2661 w_g2661
set_option maxRecDepth 100000 in
theorem w_g2662 : w_g (nat_lit 2662) = true := by decide +kernel
theorem w_r2663 : w_rg 2663 := w_rg_s (n := 2662) w_r2662 w_g2662
set_option maxRecDepth 100000 in
theorem w_g2663 : w_g (nat_lit 2663) = true := by decide +kernel
theorem w_r2664 : w_rg 2664 := w_rg_s (n := 2663) w_r2663 w_g2663
set_option maxRecDepth 100000 in
theorem w_g2664 : w_g (nat_lit 2664) = true := by decide +kernel
theorem w_r2665 : w_rg 2665 := w_rg_s (n := 2664) w_r2664 w_g2664
set_option maxRecDepth 100000 in
theorem w_g2665 : w_g (nat_lit 2665) = true := by decide +kernel
theorem w_r2666 : w_rg 2666 := w_rg_s (n := 2665) w_r2665 w_g2665
set_option maxRecDepth 100000 in
theorem w_g2666 : w_g (nat_lit 2666) = true := by decide +kernel
theorem w_r2667 : w_rg 2667 := w_rg_s (n := 2666) w_r2666 w_g2666
set_option maxRecDepth 100000 in
theorem w_g2667 : w_g (nat_lit 2667) = true := by decide +kernel
theorem w_r2668 : w_rg 2668 := w_rg_s (n := 2667) w_r2667 w_g2667
set_option maxRecDepth 100000 in
theorem w_g2668 : w_g (nat_lit 2668) = true := by decide +kernel
theorem w_r2669 : w_rg 2669 := w_rg_s (n := 2668) w_r2668 w_g2668
set_option maxRecDepth 100000 in
theorem w_g2669 : w_g (nat_lit 2669) = true := by decide +kernel
theorem w_r2670 : w_rg 2670 := w_rg_s (n := 2669) w_r2669 w_g2669
set_option maxRecDepth 100000 in
theorem w_g2670 : w_g (nat_lit 2670) = true := by decide +kernel
theorem w_r2671 : w_rg 2671 := w_rg_s (n := 2670) w_r2670 w_g2670
set_option maxRecDepth 100000 in
theorem w_g2671 : w_g (nat_lit 2671) = true := by decide +kernel
theorem w_r2672 : w_rg 2672 := w_rg_s (n := 2671) w_r2671 w_g2671
set_option maxRecDepth 100000 in
theorem w_g2672 : w_g (nat_lit 2672) = true := by decide +kernel
theorem w_r2673 : w_rg 2673 := w_rg_s (n := 2672) w_r2672 w_g2672
set_option maxRecDepth 100000 in
theorem w_g2673 : w_g (nat_lit 2673) = true := by decide +kernel
theorem w_r2674 : w_rg 2674 := w_rg_s (n := 2673) w_r2673 w_g2673
set_option maxRecDepth 100000 in
theorem w_g2674 : w_g (nat_lit 2674) = true := by decide +kernel
theorem w_r2675 : w_rg 2675 := w_rg_s (n := 2674) w_r2674 w_g2674
set_option maxRecDepth 100000 in
theorem w_g2675 : w_g (nat_lit 2675) = true := by decide +kernel
theorem w_r2676 : w_rg 2676 := w_rg_s (n := 2675) w_r2675 w_g2675
set_option maxRecDepth 100000 in
theorem w_g2676 : w_g (nat_lit 2676) = true := by decide +kernel
theorem w_r2677 : w_rg 2677 := w_rg_s (n := 2676) w_r2676 w_g2676
set_option maxRecDepth 100000 in
theorem w_g2677 : w_g (nat_lit 2677) = true := by decide +kernel
theorem w_r2678 : w_rg 2678 := w_rg_s (n := 2677) w_r2677 w_g2677
set_option maxRecDepth 100000 in
theorem w_g2678 : w_g (nat_lit 2678) = true := by decide +kernel
theorem w_r2679 : w_rg 2679 := w_rg_s (n := 2678) w_r2678 w_g2678
set_option maxRecDepth 100000 in
theorem w_g2679 : w_g (nat_lit 2679) = true := by decide +kernel
theorem w_r2680 : w_rg 2680 := w_rg_s (n := 2679) w_r2679 w_g2679
set_option maxRecDepth 100000 in
theorem w_g2680 : w_g (nat_lit 2680) = true := by decide +kernel
theorem w_r2681 : w_rg 2681 := w_rg_s (n := 2680) w_r2680 w_g2680
set_option maxRecDepth 100000 in
theorem w_g2681 : w_g (nat_lit 2681) = true := by decide +kernel
theorem w_r2682 : w_rg 2682 := w_rg_s (n := 2681) w_r2681 w_g2681
set_option maxRecDepth 100000 in
theorem w_g2682 : w_g (nat_lit 2682) = true := by decide +kernel
theorem w_r2683 : w_rg 2683 := w_rg_s (n := 2682) w_r2682 w_g2682
set_option maxRecDepth 100000 in
theorem w_g2683 : w_g (nat_lit 2683) = true := by decide +kernel
theorem w_r2684 : w_rg 2684 := w_rg_s (n := 2683) w_r2683 w_g2683
set_option maxRecDepth 100000 in
theorem w_g2684 : w_g (nat_lit 2684) = true := by decide +kernel
theorem w_r2685 : w_rg 2685 := w_rg_s (n := 2684) w_r2684 w_g2684
set_option maxRecDepth 100000 in
theorem w_g2685 : w_g (nat_lit 2685) = true := by decide +kernel
theorem w_r2686 : w_rg 2686 := w_rg_s (n := 2685) w_r2685 w_g2685
set_option maxRecDepth 100000 in
theorem w_g2686 : w_g (nat_lit 2686) = true := by decide +kernel
theorem w_r2687 : w_rg 2687 := w_rg_s (n := 2686) w_r2686 w_g2686
set_option maxRecDepth 100000 in
theorem w_g2687 : w_g (nat_lit 2687) = true := by decide +kernel
theorem w_r2688 : w_rg 2688 := w_rg_s (n := 2687) w_r2687 w_g2687
set_option maxRecDepth 100000 in
theorem w_g2688 : w_g (nat_lit 2688) = true := by decide +kernel
theorem w_r2689 : w_rg 2689 := w_rg_s (n := 2688) w_r2688 w_g2688
set_option maxRecDepth 100000 in
theorem w_g2689 : w_g (nat_lit 2689) = true := by decide +kernel
theorem w_r2690 : w_rg 2690 := w_rg_s (n := 2689) w_r2689 w_g2689
set_option maxRecDepth 100000 in
theorem w_g2690 : w_g (nat_lit 2690) = true := by decide +kernel
theorem w_r2691 : w_rg 2691 := w_rg_s (n := 2690) w_r2690 w_g2690
set_option maxRecDepth 100000 in
theorem w_g2691 : w_g (nat_lit 2691) = true := by decide +kernel
theorem w_r2692 : w_rg 2692 := w_rg_s (n := 2691) w_r2691 w_g2691
set_option maxRecDepth 100000 in
theorem w_g2692 : w_g (nat_lit 2692) = true := by decide +kernel
theorem w_r2693 : w_rg 2693 := w_rg_s (n := 2692) w_r2692 w_g2692
set_option maxRecDepth 100000 in
theorem w_g2693 : w_g (nat_lit 2693) = true := by decide +kernel
theorem w_r2694 : w_rg 2694 := w_rg_s (n := 2693) w_r2693 w_g2693
set_option maxRecDepth 100000 in
theorem w_g2694 : w_g (nat_lit 2694) = true := by decide +kernel
theorem w_r2695 : w_rg 2695 := w_rg_s (n := 2694) w_r2694 w_g2694
set_option maxRecDepth 100000 in
theorem w_g2695 : w_g (nat_lit 2695) = true := by decide +kernel
theorem w_r2696 : w_rg 2696 := w_rg_s (n := 2695) w_r2695 w_g2695
set_option maxRecDepth 100000 in
theorem w_g2696 : w_g (nat_lit 2696) = true := by decide +kernel
theorem w_r2697 : w_rg 2697 := w_rg_s (n := 2696) w_r2696 w_g2696
set_option maxRecDepth 100000 in
theorem w_g2697 : w_g (nat_lit 2697) = true := by decide +kernel
theorem w_r2698 : w_rg 2698 := w_rg_s (n := 2697) w_r2697 w_g2697
set_option maxRecDepth 100000 in
theorem w_g2698 : w_g (nat_lit 2698) = true := by decide +kernel
theorem w_r2699 : w_rg 2699 := w_rg_s (n := 2698) w_r2698 w_g2698
set_option maxRecDepth 100000 in
theorem w_g2699 : w_g (nat_lit 2699) = true := by decide +kernel
theorem w_r2700 : w_rg 2700 := w_rg_s (n := 2699) w_r2699 w_g2699
set_option maxRecDepth 100000 in
theorem w_g2700 : w_g (nat_lit 2700) = true := by decide +kernel
theorem w_r2701 : w_rg 2701 := w_rg_s (n := 2700) w_r2700 w_g2700
set_option maxRecDepth 100000 in
theorem w_g2701 : w_g (nat_lit 2701) = true := by decide +kernel
theorem w_r2702 : w_rg 2702 := w_rg_s (n := 2701) w_r2701 w_g2701
set_option maxRecDepth 100000 in
theorem w_g2702 : w_g (nat_lit 2702) = true := by decide +kernel
theorem w_r2703 : w_rg 2703 := w_rg_s (n := 2702) w_r2702 w_g2702
set_option maxRecDepth 100000 in
theorem w_g2703 : w_g (nat_lit 2703) = true := by decide +kernel
theorem w_r2704 : w_rg 2704 := w_rg_s (n := 2703) w_r2703 w_g2703
set_option maxRecDepth 100000 in
theorem w_g2704 : w_g (nat_lit 2704) = true := by decide +kernel
theorem w_r2705 : w_rg 2705 := w_rg_s (n := 2704) w_r2704 w_g2704
set_option maxRecDepth 100000 in
theorem w_g2705 : w_g (nat_lit 2705) = true := by decide +kernel
theorem w_r2706 : w_rg 2706 := w_rg_s (n := 2705) w_r2705 w_g2705
set_option maxRecDepth 100000 in
theorem w_g2706 : w_g (nat_lit 2706) = true := by decide +kernel
theorem w_r2707 : w_rg 2707 := w_rg_s (n := 2706) w_r2706 w_g2706
set_option maxRecDepth 100000 in
theorem w_g2707 : w_g (nat_lit 2707) = true := by decide +kernel
theorem w_r2708 : w_rg 2708 := w_rg_s (n := 2707) w_r2707 w_g2707
set_option maxRecDepth 100000 in
theorem w_g2708 : w_g (nat_lit 2708) = true := by decide +kernel
theorem w_r2709 : w_rg 2709 := w_rg_s (n := 2708) w_r2708 w_g2708
set_option maxRecDepth 100000 in
theorem w_g2709 : w_g (nat_lit 2709) = true := by decide +kernel
theorem w_r2710 : w_rg 2710 := w_rg_s (n := 2709) w_r2709 w_g2709
set_option maxRecDepth 100000 in
theorem w_g2710 : w_g (nat_lit 2710) = true := by decide +kernel
theorem w_r2711 : w_rg 2711 := w_rg_s (n := 2710) w_r2710 w_g2710
set_option maxRecDepth 100000 in
theorem w_g2711 : w_g (nat_lit 2711) = true := by decide +kernel
theorem w_r2712 : w_rg 2712 := w_rg_s (n := 2711) w_r2711 w_g2711
set_option maxRecDepth 100000 in
theorem w_g2712 : w_g (nat_lit 2712) = true := by decide +kernel
theorem w_r2713 : w_rg 2713 := w_rg_s (n := 2712) w_r2712 w_g2712
set_option maxRecDepth 100000 in
theorem w_g2713 : w_g (nat_lit 2713) = true := by decide +kernel
theorem w_r2714 : w_rg 2714 := w_rg_s (n := 2713) w_r2713 w_g2713
set_option maxRecDepth 100000 in
theorem w_g2714 : w_g (nat_lit 2714) = true := by decide +kernel
theorem w_r2715 : w_rg 2715 := w_rg_s (n := 2714) w_r2714 w_g2714
set_option maxRecDepth 100000 in
theorem w_g2715 : w_g (nat_lit 2715) = true := by decide +kernel
theorem w_r2716 : w_rg 2716 := w_rg_s (n := 2715) w_r2715 w_g2715
set_option maxRecDepth 100000 in
theorem w_g2716 : w_g (nat_lit 2716) = true := by decide +kernel
theorem w_r2717 : w_rg 2717 := w_rg_s (n := 2716) w_r2716 w_g2716
set_option maxRecDepth 100000 in
theorem w_g2717 : w_g (nat_lit 2717) = true := by decide +kernel
theorem w_r2718 : w_rg 2718 := w_rg_s (n := 2717) w_r2717 w_g2717
set_option maxRecDepth 100000 in
theorem w_g2718 : w_g (nat_lit 2718) = true := by decide +kernel
theorem w_r2719 : w_rg 2719 := w_rg_s (n := 2718) w_r2718 w_g2718
set_option maxRecDepth 100000 in
theorem w_g2719 : w_g (nat_lit 2719) = true := by decide +kernel
theorem w_r2720 : w_rg 2720 := w_rg_s (n := 2719) w_r2719 w_g2719
set_option maxRecDepth 100000 in
theorem w_g2720 : w_g (nat_lit 2720) = true := by decide +kernel
theorem w_r2721 : w_rg 2721 := w_rg_s (n := 2720) w_r2720 w_g2720
set_option maxRecDepth 100000 in
theorem w_g2721 : w_g (nat_lit 2721) = true := by decide +kernel
theorem w_r2722 : w_rg 2722 := w_rg_s (n := 2721) w_r2721 w_g2721
set_option maxRecDepth 100000 in
theorem w_g2722 : w_g (nat_lit 2722) = true := by decide +kernel
theorem w_r2723 : w_rg 2723 := w_rg_s (n := 2722) w_r2722 w_g2722
set_option maxRecDepth 100000 in
theorem w_g2723 : w_g (nat_lit 2723) = true := by decide +kernel
theorem w_r2724 : w_rg 2724 := w_rg_s (n := 2723) w_r2723 w_g2723
set_option maxRecDepth 100000 in
theorem w_g2724 : w_g (nat_lit 2724) = true := by decide +kernel
theorem w_r2725 : w_rg 2725 := w_rg_s (n := 2724) w_r2724 w_g2724
set_option maxRecDepth 100000 in
theorem w_g2725 : w_g (nat_lit 2725) = true := by decide +kernel
theorem w_r2726 : w_rg 2726 := w_rg_s (n := 2725) w_r2725 w_g2725
set_option maxRecDepth 100000 in
theorem w_g2726 : w_g (nat_lit 2726) = true := by decide +kernel
theorem w_r2727 : w_rg 2727 := w_rg_s (n := 2726) w_r2726 w_g2726
set_option maxRecDepth 100000 in
theorem w_g2727 : w_g (nat_lit 2727) = true := by decide +kernel
theorem w_r2728 : w_rg 2728 := w_rg_s (n := 2727) w_r2727 w_g2727
set_option maxRecDepth 100000 in
theorem w_g2728 : w_g (nat_lit 2728) = true := by decide +kernel
theorem w_r2729 : w_rg 2729 := w_rg_s (n := 2728) w_r2728 w_g2728
set_option maxRecDepth 100000 in
theorem w_g2729 : w_g (nat_lit 2729) = true := by decide +kernel
theorem w_r2730 : w_rg 2730 := w_rg_s (n := 2729) w_r2729 w_g2729
set_option maxRecDepth 100000 in
theorem w_g2730 : w_g (nat_lit 2730) = true := by decide +kernel
theorem w_r2731 : w_rg 2731 := w_rg_s (n := 2730) w_r2730 w_g2730
set_option maxRecDepth 100000 in
theorem w_g2731 : w_g (nat_lit 2731) = true := by decide +kernel
theorem w_r2732 : w_rg 2732 := w_rg_s (n := 2731) w_r2731 w_g2731
set_option maxRecDepth 100000 in
theorem w_g2732 : w_g (nat_lit 2732) = true := by decide +kernel
theorem w_r2733 : w_rg 2733 := w_rg_s (n := 2732) w_r2732 w_g2732
set_option maxRecDepth 100000 in
theorem w_g2733 : w_g (nat_lit 2733) = true := by decide +kernel
theorem w_r2734 : w_rg 2734 := w_rg_s (n := 2733) w_r2733 w_g2733
set_option maxRecDepth 100000 in
theorem w_g2734 : w_g (nat_lit 2734) = true := by decide +kernel
theorem w_r2735 : w_rg 2735 := w_rg_s (n := 2734) w_r2734 w_g2734
set_option maxRecDepth 100000 in
theorem w_g2735 : w_g (nat_lit 2735) = true := by decide +kernel
theorem w_r2736 : w_rg 2736 := w_rg_s (n := 2735) w_r2735 w_g2735
set_option maxRecDepth 100000 in
theorem w_g2736 : w_g (nat_lit 2736) = true := by decide +kernel
theorem w_r2737 : w_rg 2737 := w_rg_s (n := 2736) w_r2736 w_g2736
set_option maxRecDepth 100000 in
theorem w_g2737 : w_g (nat_lit 2737) = true := by decide +kernel
theorem w_r2738 : w_rg 2738 := w_rg_s (n := 2737) w_r2737 w_g2737
set_option maxRecDepth 100000 in
theorem w_g2738 : w_g (nat_lit 2738) = true := by decide +kernel
theorem w_r2739 : w_rg 2739 := w_rg_s (n := 2738) w_r2738 w_g2738
set_option maxRecDepth 100000 in
theorem w_g2739 : w_g (nat_lit 2739) = true := by decide +kernel
theorem w_r2740 : w_rg 2740 := w_rg_s (n := 2739) w_r2739 w_g2739
set_option maxRecDepth 100000 in
theorem w_g2740 : w_g (nat_lit 2740) = true := by decide +kernel
theorem w_r2741 : w_rg 2741 := w_rg_s (n := 2740) w_r2740 w_g2740
set_option maxRecDepth 100000 in
theorem w_g2741 : w_g (nat_lit 2741) = true := by decide +kernel
theorem w_r2742 : w_rg 2742 := w_rg_s (n := 2741) w_r2741 w_g2741
set_option maxRecDepth 100000 in
theorem w_g2742 : w_g (nat_lit 2742) = true := by decide +kernel
theorem w_r2743 : w_rg 2743 := w_rg_s (n := 2742) w_r2742 w_g2742
set_option maxRecDepth 100000 in
theorem w_g2743 : w_g (nat_lit 2743) = true := by decide +kernel
theorem w_r2744 : w_rg 2744 := w_rg_s (n := 2743) w_r2743 w_g2743
set_option maxRecDepth 100000 in
theorem w_g2744 : w_g (nat_lit 2744) = true := by decide +kernel
theorem w_r2745 : w_rg 2745 := w_rg_s (n := 2744) w_r2744 w_g2744
set_option maxRecDepth 100000 in
theorem w_g2745 : w_g (nat_lit 2745) = true := by decide +kernel
theorem w_r2746 : w_rg 2746 := w_rg_s (n := 2745) w_r2745 w_g2745
set_option maxRecDepth 100000 in
theorem w_g2746 : w_g (nat_lit 2746) = true := by decide +kernel
theorem w_r2747 : w_rg 2747 := w_rg_s (n := 2746) w_r2746 w_g2746
set_option maxRecDepth 100000 in
theorem w_g2747 : w_g (nat_lit 2747) = true := by decide +kernel
theorem w_r2748 : w_rg 2748 := w_rg_s (n := 2747) w_r2747 w_g2747
set_option maxRecDepth 100000 in
theorem w_g2748 : w_g (nat_lit 2748) = true := by decide +kernel
theorem w_r2749 : w_rg 2749 := w_rg_s (n := 2748) w_r2748 w_g2748
set_option maxRecDepth 100000 in
theorem w_g2749 : w_g (nat_lit 2749) = true := by decide +kernel
theorem w_r2750 : w_rg 2750 := w_rg_s (n := 2749) w_r2749 w_g2749
set_option maxRecDepth 100000 in
theorem w_g2750 : w_g (nat_lit 2750) = true := by decide +kernel
theorem w_r2751 : w_rg 2751 := w_rg_s (n := 2750) w_r2750 w_g2750
set_option maxRecDepth 100000 in
theorem w_g2751 : w_g (nat_lit 2751) = true := by decide +kernel
theorem w_r2752 : w_rg 2752 := w_rg_s (n := 2751) w_r2751 w_g2751
set_option maxRecDepth 100000 in
theorem w_g2752 : w_g (nat_lit 2752) = true := by decide +kernel
theorem w_r2753 : w_rg 2753 := w_rg_s (n := 2752) w_r2752 w_g2752
set_option maxRecDepth 100000 in
theorem w_g2753 : w_g (nat_lit 2753) = true := by decide +kernel
theorem w_r2754 : w_rg 2754 := w_rg_s (n := 2753) w_r2753 w_g2753
set_option maxRecDepth 100000 in
theorem w_g2754 : w_g (nat_lit 2754) = true := by decide +kernel
theorem w_r2755 : w_rg 2755 := w_rg_s (n := 2754) w_r2754 w_g2754
set_option maxRecDepth 100000 in
theorem w_g2755 : w_g (nat_lit 2755) = true := by decide +kernel
theorem w_r2756 : w_rg 2756 := w_rg_s (n := 2755) w_r2755 w_g2755
set_option maxRecDepth 100000 in
theorem w_g2756 : w_g (nat_lit 2756) = true := by decide +kernel
theorem w_r2757 : w_rg 2757 := w_rg_s (n := 2756) w_r2756 w_g2756
set_option maxRecDepth 100000 in
theorem w_g2757 : w_g (nat_lit 2757) = true := by decide +kernel
theorem w_r2758 : w_rg 2758 := w_rg_s (n := 2757) w_r2757 w_g2757
set_option maxRecDepth 100000 in
theorem w_g2758 : w_g (nat_lit 2758) = true := by decide +kernel
theorem w_r2759 : w_rg 2759 := w_rg_s (n := 2758) w_r2758 w_g2758
set_option maxRecDepth 100000 in
theorem w_g2759 : w_g (nat_lit 2759) = true := by decide +kernel
theorem w_r2760 : w_rg 2760 := w_rg_s (n := 2759) w_r2759 w_g2759
set_option maxRecDepth 100000 in
theorem w_g2760 : w_g (nat_lit 2760) = true := by decide +kernel
theorem w_r2761 : w_rg 2761 := w_rg_s (n := 2760) w_r2760 w_g2760
set_option maxRecDepth 100000 in
theorem w_g2761 : w_g (nat_lit 2761) = true := by decide +kernel
theorem w_r2762 : w_rg 2762 := w_rg_s (n := 2761) w_r2761 w_g2761
set_option maxRecDepth 100000 in
theorem w_g2762 : w_g (nat_lit 2762) = true := by decide +kernel
theorem w_r2763 : w_rg 2763 := w_rg_s (n := 2762) w_r2762 w_g2762
set_option maxRecDepth 100000 in
theorem w_g2763 : w_g (nat_lit 2763) = true := by decide +kernel
theorem w_r2764 : w_rg 2764 := w_rg_s (n := 2763) w_r2763 w_g2763
set_option maxRecDepth 100000 in
theorem w_g2764 : w_g (nat_lit 2764) = true := by decide +kernel
theorem w_r2765 : w_rg 2765 := w_rg_s (n := 2764) w_r2764 w_g2764
set_option maxRecDepth 100000 in
theorem w_g2765 : w_g (nat_lit 2765) = true := by decide +kernel
theorem w_r2766 : w_rg 2766 := w_rg_s (n := 2765) w_r2765 w_g2765
set_option maxRecDepth 100000 in
theorem w_g2766 : w_g (nat_lit 2766) = true := by decide +kernel
theorem w_r2767 : w_rg 2767 := w_rg_s (n := 2766) w_r2766 w_g2766
set_option maxRecDepth 100000 in
theorem w_g2767 : w_g (nat_lit 2767) = true := by decide +kernel
theorem w_r2768 : w_rg 2768 := w_rg_s (n := 2767) w_r2767 w_g2767
set_option maxRecDepth 100000 in
theorem w_g2768 : w_g (nat_lit 2768) = true := by decide +kernel
theorem w_r2769 : w_rg 2769 := w_rg_s (n := 2768) w_r2768 w_g2768
set_option maxRecDepth 100000 in
theorem w_g2769 : w_g (nat_lit 2769) = true := by decide +kernel
theorem w_r2770 : w_rg 2770 := w_rg_s (n := 2769) w_r2769 w_g2769
set_option maxRecDepth 100000 in
theorem w_g2770 : w_g (nat_lit 2770) = true := by decide +kernel
theorem w_r2771 : w_rg 2771 := w_rg_s (n := 2770) w_r2770 w_g2770
set_option maxRecDepth 100000 in
theorem w_g2771 : w_g (nat_lit 2771) = true := by decide +kernel
theorem w_r2772 : w_rg 2772 := w_rg_s (n := 2771) w_r2771 w_g2771
set_option maxRecDepth 100000 in
theorem w_g2772 : w_g (nat_lit 2772) = true := by decide +kernel
theorem w_r2773 : w_rg 2773 := w_rg_s (n := 2772) w_r2772 w_g2772
set_option maxRecDepth 100000 in
theorem w_g2773 : w_g (nat_lit 2773) = true := by decide +kernel
theorem w_r2774 : w_rg 2774 := w_rg_s (n := 2773) w_r2773 w_g2773
set_option maxRecDepth 100000 in
theorem w_g2774 : w_g (nat_lit 2774) = true := by decide +kernel
theorem w_r2775 : w_rg 2775 := w_rg_s (n := 2774) w_r2774 w_g2774
set_option maxRecDepth 100000 in
theorem w_g2775 : w_g (nat_lit 2775) = true := by decide +kernel
theorem w_r2776 : w_rg 2776 := w_rg_s (n := 2775) w_r2775 w_g2775
set_option maxRecDepth 100000 in
theorem w_g2776 : w_g (nat_lit 2776) = true := by decide +kernel
theorem w_r2777 : w_rg 2777 := w_rg_s (n := 2776) w_r2776 w_g2776
set_option maxRecDepth 100000 in
theorem w_g2777 : w_g (nat_lit 2777) = true := by decide +kernel
theorem w_r2778 : w_rg 2778 := w_rg_s (n := 2777) w_r2777 w_g2777
set_option maxRecDepth 100000 in
theorem w_g2778 : w_g (nat_lit 2778) = true := by decide +kernel
theorem w_r2779 : w_rg 2779 := w_rg_s (n := 2778) w_r2778 w_g2778
set_option maxRecDepth 100000 in
theorem w_g2779 : w_g (nat_lit 2779) = true := by decide +kernel
theorem w_r2780 : w_rg 2780 := w_rg_s (n := 2779) w_r2779 w_g2779
set_option maxRecDepth 100000 in
theorem w_g2780 : w_g (nat_lit 2780) = true := by decide +kernel
theorem w_r2781 : w_rg 2781 := w_rg_s (n := 2780) w_r2780 w_g2780
set_option maxRecDepth 100000 in
theorem w_g2781 : w_g (nat_lit 2781) = true := by decide +kernel
theorem w_r2782 : w_rg 2782 := w_rg_s (n := 2781) w_r2781 w_g2781
set_option maxRecDepth 100000 in
theorem w_g2782 : w_g (nat_lit 2782) = true := by decide +kernel
theorem w_r2783 : w_rg 2783 := w_rg_s (n := 2782) w_r2782 w_g2782
set_option maxRecDepth 100000 in
theorem w_g2783 : w_g (nat_lit 2783) = true := by decide +kernel
theorem w_r2784 : w_rg 2784 := w_rg_s (n := 2783) w_r2783 w_g2783
set_option maxRecDepth 100000 in
theorem w_g2784 : w_g (nat_lit 2784) = true := by decide +kernel
theorem w_r2785 : w_rg 2785 := w_rg_s (n := 2784) w_r2784 w_g2784
set_option maxRecDepth 100000 in
theorem w_g2785 : w_g (nat_lit 2785) = true := by decide +kernel
theorem w_r2786 : w_rg 2786 := w_rg_s (n := 2785) w_r2785 w_g2785
