/-! the law: its instructions -/
theorem d_Law_law_2638 : decode code 2638 = .ok (.invokestatic 351, 3) := by decide +kernel
theorem d_Law_law_2641 : decode code 2641 = .ok (.istore 6, 2) := by decide +kernel
theorem d_Law_law_2643 : decode code 2643 = .ok (.aload_n 2, 1) := by decide +kernel
theorem d_Law_law_2644 : decode code 2644 = .ok (.aload_n 0, 1) := by decide +kernel
theorem d_Law_law_2645 : decode code 2645 = .ok (.iload 5, 2) := by decide +kernel
theorem d_Law_law_2647 : decode code 2647 = .ok (.iconst 1, 1) := by decide +kernel
theorem d_Law_law_2648 : decode code 2648 = .ok (.iadd, 1) := by decide +kernel
theorem d_Law_law_2649 : decode code 2649 = .ok (.iaload, 1) := by decide +kernel
theorem d_Law_law_2650 : decode code 2650 = .ok (.i2c, 1) := by decide +kernel
theorem d_Law_law_2651 : decode code 2651 = .ok (.invokevirtual 353, 3) := by decide +kernel
theorem d_Law_law_2654 : decode code 2654 = .ok (.istore 7, 2) := by decide +kernel
theorem d_Law_law_2656 : decode code 2656 = .ok (.aload_n 2, 1) := by decide +kernel
theorem d_Law_law_2657 : decode code 2657 = .ok (.invokevirtual 163, 3) := by decide +kernel
theorem d_Law_law_2660 : decode code 2660 = .ok (.iload 6, 2) := by decide +kernel
theorem d_Law_law_2662 : decode code 2662 = .ok (.if_icmp .eq 5, 3) := by decide +kernel
theorem d_Law_law_2665 : decode code 2665 = .ok (.iconst 0, 1) := by decide +kernel
theorem d_Law_law_2666 : decode code 2666 = .ok (.ireturn, 1) := by decide +kernel
theorem d_Law_law_2667 : decode code 2667 = .ok (.iload 6, 2) := by decide +kernel
theorem d_Law_law_2669 : decode code 2669 = .ok (.ifCond .ne 15, 3) := by decide +kernel
theorem d_Law_law_2672 : decode code 2672 = .ok (.aload_n 3, 1) := by decide +kernel
theorem d_Law_law_2673 : decode code 2673 = .ok (.iconst 0, 1) := by decide +kernel
theorem d_Law_law_2674 : decode code 2674 = .ok (.laload, 1) := by decide +kernel
theorem d_Law_law_2675 : decode code 2675 = .ok (.iload 7, 2) := by decide +kernel
theorem d_Law_law_2677 : decode code 2677 = .ok (.i2l, 1) := by decide +kernel
theorem d_Law_law_2678 : decode code 2678 = .ok (.lcmp, 1) := by decide +kernel
theorem d_Law_law_2679 : decode code 2679 = .ok (.ifCond .eq 5, 3) := by decide +kernel
theorem d_Law_law_2682 : decode code 2682 = .ok (.iconst 0, 1) := by decide +kernel
theorem d_Law_law_2683 : decode code 2683 = .ok (.ireturn, 1) := by decide +kernel
theorem d_Law_law_2684 : decode code 2684 = .ok (.goto 249, 3) := by decide +kernel
theorem d_Law_law_2687 : decode code 2687 = .ok (.aload_n 1, 1) := by decide +kernel
theorem d_Law_law_2688 : decode code 2688 = .ok (.aload_n 3, 1) := by decide +kernel
theorem d_Law_law_2689 : decode code 2689 = .ok (.invokestatic 354, 3) := by decide +kernel
theorem d_Law_law_2692 : decode code 2692 = .ok (.istore 6, 2) := by decide +kernel
theorem d_Law_law_2694 : decode code 2694 = .ok (.aload_n 2, 1) := by decide +kernel
theorem d_Law_law_2695 : decode code 2695 = .ok (.invokevirtual 356, 3) := by decide +kernel
theorem d_Law_law_2698 : decode code 2698 = .ok (.istore 7, 2) := by decide +kernel
theorem d_Law_law_2700 : decode code 2700 = .ok (.aload_n 2, 1) := by decide +kernel
theorem d_Law_law_2701 : decode code 2701 = .ok (.invokevirtual 163, 3) := by decide +kernel
theorem d_Law_law_2704 : decode code 2704 = .ok (.iload 6, 2) := by decide +kernel
theorem d_Law_law_2706 : decode code 2706 = .ok (.if_icmp .eq 5, 3) := by decide +kernel
theorem d_Law_law_2709 : decode code 2709 = .ok (.iconst 0, 1) := by decide +kernel
theorem d_Law_law_2710 : decode code 2710 = .ok (.ireturn, 1) := by decide +kernel
theorem d_Law_law_2711 : decode code 2711 = .ok (.iload 6, 2) := by decide +kernel
theorem d_Law_law_2713 : decode code 2713 = .ok (.ifCond .ne 15, 3) := by decide +kernel
theorem d_Law_law_2716 : decode code 2716 = .ok (.aload_n 3, 1) := by decide +kernel
theorem d_Law_law_2717 : decode code 2717 = .ok (.iconst 0, 1) := by decide +kernel
theorem d_Law_law_2718 : decode code 2718 = .ok (.laload, 1) := by decide +kernel
theorem d_Law_law_2719 : decode code 2719 = .ok (.iload 7, 2) := by decide +kernel
theorem d_Law_law_2721 : decode code 2721 = .ok (.i2l, 1) := by decide +kernel
theorem d_Law_law_2722 : decode code 2722 = .ok (.lcmp, 1) := by decide +kernel
theorem d_Law_law_2723 : decode code 2723 = .ok (.ifCond .eq 5, 3) := by decide +kernel
theorem d_Law_law_2726 : decode code 2726 = .ok (.iconst 0, 1) := by decide +kernel
theorem d_Law_law_2727 : decode code 2727 = .ok (.ireturn, 1) := by decide +kernel
theorem d_Law_law_2728 : decode code 2728 = .ok (.goto 205, 3) := by decide +kernel
theorem d_Law_law_2731 : decode code 2731 = .ok (.aload_n 1, 1) := by decide +kernel
theorem d_Law_law_2732 : decode code 2732 = .ok (.aload_n 3, 1) := by decide +kernel
theorem d_Law_law_2733 : decode code 2733 = .ok (.invokestatic 357, 3) := by decide +kernel
theorem d_Law_law_2736 : decode code 2736 = .ok (.istore 6, 2) := by decide +kernel
theorem d_Law_law_2738 : decode code 2738 = .ok (.aload_n 2, 1) := by decide +kernel
theorem d_Law_law_2739 : decode code 2739 = .ok (.invokevirtual 359, 3) := by decide +kernel
theorem d_Law_law_2742 : decode code 2742 = .ok (.istore 7, 2) := by decide +kernel
theorem d_Law_law_2744 : decode code 2744 = .ok (.aload_n 2, 1) := by decide +kernel
theorem d_Law_law_2745 : decode code 2745 = .ok (.invokevirtual 163, 3) := by decide +kernel
theorem d_Law_law_2748 : decode code 2748 = .ok (.iload 6, 2) := by decide +kernel
theorem d_Law_law_2750 : decode code 2750 = .ok (.if_icmp .eq 5, 3) := by decide +kernel
theorem d_Law_law_2753 : decode code 2753 = .ok (.iconst 0, 1) := by decide +kernel
theorem d_Law_law_2754 : decode code 2754 = .ok (.ireturn, 1) := by decide +kernel
theorem d_Law_law_2755 : decode code 2755 = .ok (.iload 6, 2) := by decide +kernel
theorem d_Law_law_2757 : decode code 2757 = .ok (.ifCond .ne 15, 3) := by decide +kernel
theorem d_Law_law_2760 : decode code 2760 = .ok (.aload_n 3, 1) := by decide +kernel
theorem d_Law_law_2761 : decode code 2761 = .ok (.iconst 0, 1) := by decide +kernel
theorem d_Law_law_2762 : decode code 2762 = .ok (.laload, 1) := by decide +kernel
theorem d_Law_law_2763 : decode code 2763 = .ok (.iload 7, 2) := by decide +kernel
theorem d_Law_law_2765 : decode code 2765 = .ok (.i2l, 1) := by decide +kernel
theorem d_Law_law_2766 : decode code 2766 = .ok (.lcmp, 1) := by decide +kernel
theorem d_Law_law_2767 : decode code 2767 = .ok (.ifCond .eq 5, 3) := by decide +kernel
theorem d_Law_law_2770 : decode code 2770 = .ok (.iconst 0, 1) := by decide +kernel
theorem d_Law_law_2771 : decode code 2771 = .ok (.ireturn, 1) := by decide +kernel
theorem d_Law_law_2772 : decode code 2772 = .ok (.goto 161, 3) := by decide +kernel
theorem d_Law_law_2775 : decode code 2775 = .ok (.aload_n 1, 1) := by decide +kernel
theorem d_Law_law_2776 : decode code 2776 = .ok (.aload_n 3, 1) := by decide +kernel
theorem d_Law_law_2777 : decode code 2777 = .ok (.invokestatic 360, 3) := by decide +kernel
theorem d_Law_law_2780 : decode code 2780 = .ok (.istore 6, 2) := by decide +kernel
theorem d_Law_law_2782 : decode code 2782 = .ok (.aload_n 2, 1) := by decide +kernel
theorem d_Law_law_2783 : decode code 2783 = .ok (.invokevirtual 362, 3) := by decide +kernel
theorem d_Law_law_2786 : decode code 2786 = .ok (.istore 7, 2) := by decide +kernel
theorem d_Law_law_2788 : decode code 2788 = .ok (.aload_n 2, 1) := by decide +kernel
theorem d_Law_law_2789 : decode code 2789 = .ok (.invokevirtual 163, 3) := by decide +kernel
theorem d_Law_law_2792 : decode code 2792 = .ok (.iload 6, 2) := by decide +kernel
theorem d_Law_law_2794 : decode code 2794 = .ok (.if_icmp .eq 5, 3) := by decide +kernel
theorem d_Law_law_2797 : decode code 2797 = .ok (.iconst 0, 1) := by decide +kernel
theorem d_Law_law_2798 : decode code 2798 = .ok (.ireturn, 1) := by decide +kernel
theorem d_Law_law_2799 : decode code 2799 = .ok (.iload 6, 2) := by decide +kernel
theorem d_Law_law_2801 : decode code 2801 = .ok (.ifCond .ne 15, 3) := by decide +kernel
theorem d_Law_law_2804 : decode code 2804 = .ok (.aload_n 3, 1) := by decide +kernel
theorem d_Law_law_2805 : decode code 2805 = .ok (.iconst 0, 1) := by decide +kernel
theorem d_Law_law_2806 : decode code 2806 = .ok (.laload, 1) := by decide +kernel
theorem d_Law_law_2807 : decode code 2807 = .ok (.iload 7, 2) := by decide +kernel
theorem d_Law_law_2809 : decode code 2809 = .ok (.i2l, 1) := by decide +kernel
theorem d_Law_law_2810 : decode code 2810 = .ok (.lcmp, 1) := by decide +kernel
theorem d_Law_law_2811 : decode code 2811 = .ok (.ifCond .eq 5, 3) := by decide +kernel
theorem d_Law_law_2814 : decode code 2814 = .ok (.iconst 0, 1) := by decide +kernel
theorem d_Law_law_2815 : decode code 2815 = .ok (.ireturn, 1) := by decide +kernel
theorem d_Law_law_2816 : decode code 2816 = .ok (.goto 117, 3) := by decide +kernel
theorem d_Law_law_2819 : decode code 2819 = .ok (.aload_n 1, 1) := by decide +kernel
theorem d_Law_law_2820 : decode code 2820 = .ok (.invokevirtual 363, 3) := by decide +kernel
theorem d_Law_law_2823 : decode code 2823 = .ok (.aload_n 2, 1) := by decide +kernel
theorem d_Law_law_2824 : decode code 2824 = .ok (.invokevirtual 366, 3) := by decide +kernel
theorem d_Law_law_2827 : decode code 2827 = .ok (.if_icmp .eq 106, 3) := by decide +kernel
theorem d_Law_law_2830 : decode code 2830 = .ok (.iconst 0, 1) := by decide +kernel
theorem d_Law_law_2831 : decode code 2831 = .ok (.ireturn, 1) := by decide +kernel
theorem d_Law_law_2832 : decode code 2832 = .ok (.aload_n 1, 1) := by decide +kernel
theorem d_Law_law_2833 : decode code 2833 = .ok (.aload_n 3, 1) := by decide +kernel
theorem d_Law_law_2834 : decode code 2834 = .ok (.invokestatic 367, 3) := by decide +kernel
theorem d_Law_law_2837 : decode code 2837 = .ok (.istore 6, 2) := by decide +kernel
theorem d_Law_law_2839 : decode code 2839 = .ok (.aload_n 2, 1) := by decide +kernel
theorem d_Law_law_2840 : decode code 2840 = .ok (.invokevirtual 369, 3) := by decide +kernel
theorem d_Law_law_2843 : decode code 2843 = .ok (.istore 7, 2) := by decide +kernel
theorem d_Law_law_2845 : decode code 2845 = .ok (.aload_n 2, 1) := by decide +kernel
theorem d_Law_law_2846 : decode code 2846 = .ok (.invokevirtual 163, 3) := by decide +kernel
theorem d_Law_law_2849 : decode code 2849 = .ok (.iload 6, 2) := by decide +kernel
theorem d_Law_law_2851 : decode code 2851 = .ok (.if_icmp .eq 5, 3) := by decide +kernel
theorem d_Law_law_2854 : decode code 2854 = .ok (.iconst 0, 1) := by decide +kernel
theorem d_Law_law_2855 : decode code 2855 = .ok (.ireturn, 1) := by decide +kernel
theorem d_Law_law_2856 : decode code 2856 = .ok (.iload 6, 2) := by decide +kernel
theorem d_Law_law_2858 : decode code 2858 = .ok (.ifCond .ne 15, 3) := by decide +kernel
theorem d_Law_law_2861 : decode code 2861 = .ok (.aload_n 3, 1) := by decide +kernel
theorem d_Law_law_2862 : decode code 2862 = .ok (.iconst 0, 1) := by decide +kernel
theorem d_Law_law_2863 : decode code 2863 = .ok (.laload, 1) := by decide +kernel
theorem d_Law_law_2864 : decode code 2864 = .ok (.iload 7, 2) := by decide +kernel
theorem d_Law_law_2866 : decode code 2866 = .ok (.i2l, 1) := by decide +kernel
theorem d_Law_law_2867 : decode code 2867 = .ok (.lcmp, 1) := by decide +kernel
theorem d_Law_law_2868 : decode code 2868 = .ok (.ifCond .eq 5, 3) := by decide +kernel
theorem d_Law_law_2871 : decode code 2871 = .ok (.iconst 0, 1) := by decide +kernel
theorem d_Law_law_2872 : decode code 2872 = .ok (.ireturn, 1) := by decide +kernel
theorem d_Law_law_2873 : decode code 2873 = .ok (.goto 60, 3) := by decide +kernel
theorem d_Law_law_2876 : decode code 2876 = .ok (.aload_n 1, 1) := by decide +kernel
theorem d_Law_law_2877 : decode code 2877 = .ok (.invokevirtual 370, 3) := by decide +kernel
theorem d_Law_law_2880 : decode code 2880 = .ok (.aload_n 2, 1) := by decide +kernel
theorem d_Law_law_2881 : decode code 2881 = .ok (.invokevirtual 373, 3) := by decide +kernel
theorem d_Law_law_2884 : decode code 2884 = .ok (.if_icmp .eq 49, 3) := by decide +kernel
theorem d_Law_law_2887 : decode code 2887 = .ok (.iconst 0, 1) := by decide +kernel
theorem d_Law_law_2888 : decode code 2888 = .ok (.ireturn, 1) := by decide +kernel
theorem d_Law_law_2889 : decode code 2889 = .ok (.aload_n 1, 1) := by decide +kernel
theorem d_Law_law_2890 : decode code 2890 = .ok (.aload_n 3, 1) := by decide +kernel
theorem d_Law_law_2891 : decode code 2891 = .ok (.invokestatic 374, 3) := by decide +kernel
theorem d_Law_law_2894 : decode code 2894 = .ok (.istore 6, 2) := by decide +kernel
theorem d_Law_law_2896 : decode code 2896 = .ok (.aload_n 2, 1) := by decide +kernel
theorem d_Law_law_2897 : decode code 2897 = .ok (.invokevirtual 376, 3) := by decide +kernel
theorem d_Law_law_2900 : decode code 2900 = .ok (.istore 7, 2) := by decide +kernel
theorem d_Law_law_2902 : decode code 2902 = .ok (.aload_n 2, 1) := by decide +kernel
theorem d_Law_law_2903 : decode code 2903 = .ok (.invokevirtual 163, 3) := by decide +kernel
theorem d_Law_law_2906 : decode code 2906 = .ok (.iload 6, 2) := by decide +kernel
theorem d_Law_law_2908 : decode code 2908 = .ok (.if_icmp .eq 5, 3) := by decide +kernel
theorem d_Law_law_2911 : decode code 2911 = .ok (.iconst 0, 1) := by decide +kernel
theorem d_Law_law_2912 : decode code 2912 = .ok (.ireturn, 1) := by decide +kernel
theorem d_Law_law_2913 : decode code 2913 = .ok (.iload 6, 2) := by decide +kernel
theorem d_Law_law_2915 : decode code 2915 = .ok (.ifCond .ne 15, 3) := by decide +kernel
theorem d_Law_law_2918 : decode code 2918 = .ok (.aload_n 3, 1) := by decide +kernel
theorem d_Law_law_2919 : decode code 2919 = .ok (.iconst 0, 1) := by decide +kernel
theorem d_Law_law_2920 : decode code 2920 = .ok (.laload, 1) := by decide +kernel
theorem d_Law_law_2921 : decode code 2921 = .ok (.iload 7, 2) := by decide +kernel
theorem d_Law_law_2923 : decode code 2923 = .ok (.i2l, 1) := by decide +kernel
theorem d_Law_law_2924 : decode code 2924 = .ok (.lcmp, 1) := by decide +kernel
theorem d_Law_law_2925 : decode code 2925 = .ok (.ifCond .eq 5, 3) := by decide +kernel
theorem d_Law_law_2928 : decode code 2928 = .ok (.iconst 0, 1) := by decide +kernel
theorem d_Law_law_2929 : decode code 2929 = .ok (.ireturn, 1) := by decide +kernel
theorem d_Law_law_2930 : decode code 2930 = .ok (.goto 3, 3) := by decide +kernel
theorem d_Law_law_2933 : decode code 2933 = .ok (.iinc 5 3, 3) := by decide +kernel
theorem d_Law_law_2936 : decode code 2936 = .ok (.goto (-2908), 3) := by decide +kernel
theorem d_Law_law_2939 : decode code 2939 = .ok (.iconst 1, 1) := by decide +kernel
theorem d_Law_law_2940 : decode code 2940 = .ok (.ireturn, 1) := by decide +kernel
