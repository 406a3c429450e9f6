theorem dL_law_2648 : decode cL_law 2648 = .ok (.if_icmp .le 6, 3) := by decide +kernel
theorem dL_law_2651 : decode cL_law 2651 = .ok (.goto 351, 3) := by decide +kernel
theorem dL_law_2654 : decode cL_law 2654 = .ok (.iconst 0, 1) := by decide +kernel
theorem dL_law_2655 : decode cL_law 2655 = .ok (.istore 45, 2) := by decide +kernel
theorem dL_law_2657 : decode cL_law 2657 = .ok (.iconst 0, 1) := by decide +kernel
theorem dL_law_2658 : decode cL_law 2658 = .ok (.istore 46, 2) := by decide +kernel
theorem dL_law_2660 : decode cL_law 2660 = .ok (.iload 46, 2) := by decide +kernel
theorem dL_law_2662 : decode cL_law 2662 = .ok (.iload 44, 2) := by decide +kernel
theorem dL_law_2664 : decode cL_law 2664 = .ok (.if_icmp .ge 338, 3) := by decide +kernel
theorem dL_law_2667 : decode cL_law 2667 = .ok (.aload 11, 2) := by decide +kernel
theorem dL_law_2669 : decode cL_law 2669 = .ok (.iconst 2, 1) := by decide +kernel
theorem dL_law_2670 : decode cL_law 2670 = .ok (.iaload, 1) := by decide +kernel
theorem dL_law_2671 : decode cL_law 2671 = .ok (.bipush 60, 2) := by decide +kernel
theorem dL_law_2673 : decode cL_law 2673 = .ok (.if_icmp .ge 329, 3) := by decide +kernel
theorem dL_law_2676 : decode cL_law 2676 = .ok (.aload 11, 2) := by decide +kernel
theorem dL_law_2678 : decode cL_law 2678 = .ok (.iconst 0, 1) := by decide +kernel
theorem dL_law_2679 : decode cL_law 2679 = .ok (.dup2, 1) := by decide +kernel
theorem dL_law_2680 : decode cL_law 2680 = .ok (.iaload, 1) := by decide +kernel
theorem dL_law_2681 : decode cL_law 2681 = .ok (.iconst 1, 1) := by decide +kernel
theorem dL_law_2682 : decode cL_law 2682 = .ok (.iadd, 1) := by decide +kernel
theorem dL_law_2683 : decode cL_law 2683 = .ok (.iastore, 1) := by decide +kernel
theorem dL_law_2684 : decode cL_law 2684 = .ok (.iconst 0, 1) := by decide +kernel
theorem dL_law_2685 : decode cL_law 2685 = .ok (.istore 47, 2) := by decide +kernel
theorem dL_law_2687 : decode cL_law 2687 = .ok (.iload 47, 2) := by decide +kernel
theorem dL_law_2689 : decode cL_law 2689 = .ok (.aload 11, 2) := by decide +kernel
theorem dL_law_2691 : decode cL_law 2691 = .ok (.iconst 1, 1) := by decide +kernel
theorem dL_law_2692 : decode cL_law 2692 = .ok (.iaload, 1) := by decide +kernel
theorem dL_law_2693 : decode cL_law 2693 = .ok (.if_icmp .ge 243, 3) := by decide +kernel
theorem dL_law_2696 : decode cL_law 2696 = .ok (.aload 5, 2) := by decide +kernel
theorem dL_law_2698 : decode cL_law 2698 = .ok (.iload 47, 2) := by decide +kernel
theorem dL_law_2700 : decode cL_law 2700 = .ok (.iaload, 1) := by decide +kernel
theorem dL_law_2701 : decode cL_law 2701 = .ok (.invokestatic 96, 3) := by decide +kernel
theorem dL_law_2704 : decode cL_law 2704 = .ok (.iconst 1, 1) := by decide +kernel
theorem dL_law_2705 : decode cL_law 2705 = .ok (.if_icmp .ne 225, 3) := by decide +kernel
theorem dL_law_2708 : decode cL_law 2708 = .ok (.aload 5, 2) := by decide +kernel
theorem dL_law_2710 : decode cL_law 2710 = .ok (.iload 47, 2) := by decide +kernel
theorem dL_law_2712 : decode cL_law 2712 = .ok (.iaload, 1) := by decide +kernel
theorem dL_law_2713 : decode cL_law 2713 = .ok (.invokestatic 101, 3) := by decide +kernel
theorem dL_law_2716 : decode cL_law 2716 = .ok (.aload 11, 2) := by decide +kernel
theorem dL_law_2718 : decode cL_law 2718 = .ok (.iconst 0, 1) := by decide +kernel
theorem dL_law_2719 : decode cL_law 2719 = .ok (.iaload, 1) := by decide +kernel
theorem dL_law_2720 : decode cL_law 2720 = .ok (.if_icmp .eq 6, 3) := by decide +kernel
theorem dL_law_2723 : decode cL_law 2723 = .ok (.goto 207, 3) := by decide +kernel
theorem dL_law_2726 : decode cL_law 2726 = .ok (.aload 5, 2) := by decide +kernel
theorem dL_law_2728 : decode cL_law 2728 = .ok (.iload 47, 2) := by decide +kernel
theorem dL_law_2730 : decode cL_law 2730 = .ok (.iaload, 1) := by decide +kernel
theorem dL_law_2731 : decode cL_law 2731 = .ok (.bipush 6, 2) := by decide +kernel
theorem dL_law_2733 : decode cL_law 2733 = .ok (.ishr, 1) := by decide +kernel
theorem dL_law_2734 : decode cL_law 2734 = .ok (.bipush 15, 2) := by decide +kernel
theorem dL_law_2736 : decode cL_law 2736 = .ok (.iand, 1) := by decide +kernel
theorem dL_law_2737 : decode cL_law 2737 = .ok (.istore 48, 2) := by decide +kernel
theorem dL_law_2739 : decode cL_law 2739 = .ok (.aload_n 3, 1) := by decide +kernel
theorem dL_law_2740 : decode cL_law 2740 = .ok (.bipush 48, 2) := by decide +kernel
theorem dL_law_2742 : decode cL_law 2742 = .ok (.iload 48, 2) := by decide +kernel
theorem dL_law_2744 : decode cL_law 2744 = .ok (.iadd, 1) := by decide +kernel
theorem dL_law_2745 : decode cL_law 2745 = .ok (.iaload, 1) := by decide +kernel
theorem dL_law_2746 : decode cL_law 2746 = .ok (.aload 11, 2) := by decide +kernel
theorem dL_law_2748 : decode cL_law 2748 = .ok (.iconst 0, 1) := by decide +kernel
theorem dL_law_2749 : decode cL_law 2749 = .ok (.iaload, 1) := by decide +kernel
theorem dL_law_2750 : decode cL_law 2750 = .ok (.if_icmp .lt 53, 3) := by decide +kernel
theorem dL_law_2753 : decode cL_law 2753 = .ok (.aload 11, 2) := by decide +kernel
theorem dL_law_2755 : decode cL_law 2755 = .ok (.iconst 0, 1) := by decide +kernel
theorem dL_law_2756 : decode cL_law 2756 = .ok (.iaload, 1) := by decide +kernel
theorem dL_law_2757 : decode cL_law 2757 = .ok (.bipush 100, 2) := by decide +kernel
theorem dL_law_2759 : decode cL_law 2759 = .ok (.iadd, 1) := by decide +kernel
theorem dL_law_2760 : decode cL_law 2760 = .ok (.istore 49, 2) := by decide +kernel
theorem dL_law_2762 : decode cL_law 2762 = .ok (.iload 49, 2) := by decide +kernel
theorem dL_law_2764 : decode cL_law 2764 = .ok (.aload 5, 2) := by decide +kernel
theorem dL_law_2766 : decode cL_law 2766 = .ok (.aload 11, 2) := by decide +kernel
theorem dL_law_2768 : decode cL_law 2768 = .ok (.invokestatic 162, 3) := by decide +kernel
theorem dL_law_2771 : decode cL_law 2771 = .ok (.iconst 2, 1) := by decide +kernel
theorem dL_law_2772 : decode cL_law 2772 = .ok (.if_icmp .le 9, 3) := by decide +kernel
theorem dL_law_2775 : decode cL_law 2775 = .ok (.iinc 49 100, 3) := by decide +kernel
theorem dL_law_2778 : decode cL_law 2778 = .ok (.goto (-16), 3) := by decide +kernel
theorem dL_law_2781 : decode cL_law 2781 = .ok (.aload 5, 2) := by decide +kernel
theorem dL_law_2783 : decode cL_law 2783 = .ok (.iload 47, 2) := by decide +kernel
theorem dL_law_2785 : decode cL_law 2785 = .ok (.aload 5, 2) := by decide +kernel
theorem dL_law_2787 : decode cL_law 2787 = .ok (.iload 47, 2) := by decide +kernel
theorem dL_law_2789 : decode cL_law 2789 = .ok (.iaload, 1) := by decide +kernel
theorem dL_law_2790 : decode cL_law 2790 = .ok (.ldc 223, 2) := by decide +kernel
theorem dL_law_2792 : decode cL_law 2792 = .ok (.iand, 1) := by decide +kernel
theorem dL_law_2793 : decode cL_law 2793 = .ok (.iload 49, 2) := by decide +kernel
theorem dL_law_2795 : decode cL_law 2795 = .ok (.bipush 16, 2) := by decide +kernel
theorem dL_law_2797 : decode cL_law 2797 = .ok (.ishl, 1) := by decide +kernel
theorem dL_law_2798 : decode cL_law 2798 = .ok (.ior, 1) := by decide +kernel
theorem dL_law_2799 : decode cL_law 2799 = .ok (.iastore, 1) := by decide +kernel
theorem dL_law_2800 : decode cL_law 2800 = .ok (.goto 130, 3) := by decide +kernel
theorem dL_law_2803 : decode cL_law 2803 = .ok (.aload_n 3, 1) := by decide +kernel
theorem dL_law_2804 : decode cL_law 2804 = .ok (.iload 48, 2) := by decide +kernel
theorem dL_law_2806 : decode cL_law 2806 = .ok (.iaload, 1) := by decide +kernel
theorem dL_law_2807 : decode cL_law 2807 = .ok (.aload 5, 2) := by decide +kernel
theorem dL_law_2809 : decode cL_law 2809 = .ok (.iload 47, 2) := by decide +kernel
theorem dL_law_2811 : decode cL_law 2811 = .ok (.iaload, 1) := by decide +kernel
theorem dL_law_2812 : decode cL_law 2812 = .ok (.invokestatic 157, 3) := by decide +kernel
theorem dL_law_2815 : decode cL_law 2815 = .ok (.if_icmp .ne 15, 3) := by decide +kernel
theorem dL_law_2818 : decode cL_law 2818 = .ok (.aload 5, 2) := by decide +kernel
theorem dL_law_2820 : decode cL_law 2820 = .ok (.iload 47, 2) := by decide +kernel
theorem dL_law_2822 : decode cL_law 2822 = .ok (.dup2, 1) := by decide +kernel
theorem dL_law_2823 : decode cL_law 2823 = .ok (.iaload, 1) := by decide +kernel
theorem dL_law_2824 : decode cL_law 2824 = .ok (.iconst 2, 1) := by decide +kernel
theorem dL_law_2825 : decode cL_law 2825 = .ok (.iadd, 1) := by decide +kernel
theorem dL_law_2826 : decode cL_law 2826 = .ok (.iastore, 1) := by decide +kernel
theorem dL_law_2827 : decode cL_law 2827 = .ok (.goto 103, 3) := by decide +kernel
theorem dL_law_2830 : decode cL_law 2830 = .ok (.aload 5, 2) := by decide +kernel
theorem dL_law_2832 : decode cL_law 2832 = .ok (.iload 47, 2) := by decide +kernel
theorem dL_law_2834 : decode cL_law 2834 = .ok (.aload 5, 2) := by decide +kernel
theorem dL_law_2836 : decode cL_law 2836 = .ok (.iload 47, 2) := by decide +kernel
theorem dL_law_2838 : decode cL_law 2838 = .ok (.iaload, 1) := by decide +kernel
theorem dL_law_2839 : decode cL_law 2839 = .ok (.ldc 224, 2) := by decide +kernel
theorem dL_law_2841 : decode cL_law 2841 = .ok (.iand, 1) := by decide +kernel
theorem dL_law_2842 : decode cL_law 2842 = .ok (.aload_n 3, 1) := by decide +kernel
theorem dL_law_2843 : decode cL_law 2843 = .ok (.iload 48, 2) := by decide +kernel
theorem dL_law_2845 : decode cL_law 2845 = .ok (.iaload, 1) := by decide +kernel
theorem dL_law_2846 : decode cL_law 2846 = .ok (.iconst 1, 1) := by decide +kernel
theorem dL_law_2847 : decode cL_law 2847 = .ok (.iadd, 1) := by decide +kernel
theorem dL_law_2848 : decode cL_law 2848 = .ok (.bipush 13, 2) := by decide +kernel
theorem dL_law_2850 : decode cL_law 2850 = .ok (.ishl, 1) := by decide +kernel
theorem dL_law_2851 : decode cL_law 2851 = .ok (.ior, 1) := by decide +kernel
theorem dL_law_2852 : decode cL_law 2852 = .ok (.iastore, 1) := by decide +kernel
theorem dL_law_2853 : decode cL_law 2853 = .ok (.aload 5, 2) := by decide +kernel
theorem dL_law_2855 : decode cL_law 2855 = .ok (.iload 47, 2) := by decide +kernel
theorem dL_law_2857 : decode cL_law 2857 = .ok (.dup2, 1) := by decide +kernel
theorem dL_law_2858 : decode cL_law 2858 = .ok (.iaload, 1) := by decide +kernel
theorem dL_law_2859 : decode cL_law 2859 = .ok (.iconst 1, 1) := by decide +kernel
theorem dL_law_2860 : decode cL_law 2860 = .ok (.iadd, 1) := by decide +kernel
theorem dL_law_2861 : decode cL_law 2861 = .ok (.iastore, 1) := by decide +kernel
theorem dL_law_2862 : decode cL_law 2862 = .ok (.aload 6, 2) := by decide +kernel
theorem dL_law_2864 : decode cL_law 2864 = .ok (.iload 47, 2) := by decide +kernel
theorem dL_law_2866 : decode cL_law 2866 = .ok (.aload 11, 2) := by decide +kernel
theorem dL_law_2868 : decode cL_law 2868 = .ok (.iconst 0, 1) := by decide +kernel
theorem dL_law_2869 : decode cL_law 2869 = .ok (.iaload, 1) := by decide +kernel
theorem dL_law_2870 : decode cL_law 2870 = .ok (.iastore, 1) := by decide +kernel
theorem dL_law_2871 : decode cL_law 2871 = .ok (.aload 10, 2) := by decide +kernel
theorem dL_law_2873 : decode cL_law 2873 = .ok (.aload 5, 2) := by decide +kernel
theorem dL_law_2875 : decode cL_law 2875 = .ok (.iload 47, 2) := by decide +kernel
theorem dL_law_2877 : decode cL_law 2877 = .ok (.iaload, 1) := by decide +kernel
theorem dL_law_2878 : decode cL_law 2878 = .ok (.invokestatic 157, 3) := by decide +kernel
theorem dL_law_2881 : decode cL_law 2881 = .ok (.dup2, 1) := by decide +kernel
theorem dL_law_2882 : decode cL_law 2882 = .ok (.iaload, 1) := by decide +kernel
theorem dL_law_2883 : decode cL_law 2883 = .ok (.sipush 5120, 3) := by decide +kernel
theorem dL_law_2886 : decode cL_law 2886 = .ok (.isub, 1) := by decide +kernel
theorem dL_law_2887 : decode cL_law 2887 = .ok (.iastore, 1) := by decide +kernel
theorem dL_law_2888 : decode cL_law 2888 = .ok (.aload 10, 2) := by decide +kernel
theorem dL_law_2890 : decode cL_law 2890 = .ok (.aload_n 3, 1) := by decide +kernel
theorem dL_law_2891 : decode cL_law 2891 = .ok (.iload 48, 2) := by decide +kernel
theorem dL_law_2893 : decode cL_law 2893 = .ok (.iaload, 1) := by decide +kernel
theorem dL_law_2894 : decode cL_law 2894 = .ok (.dup2, 1) := by decide +kernel
theorem dL_law_2895 : decode cL_law 2895 = .ok (.iaload, 1) := by decide +kernel
theorem dL_law_2896 : decode cL_law 2896 = .ok (.sipush 5120, 3) := by decide +kernel
theorem dL_law_2899 : decode cL_law 2899 = .ok (.iadd, 1) := by decide +kernel
theorem dL_law_2900 : decode cL_law 2900 = .ok (.iastore, 1) := by decide +kernel
theorem dL_law_2901 : decode cL_law 2901 = .ok (.iload 48, 2) := by decide +kernel
theorem dL_law_2903 : decode cL_law 2903 = .ok (.aload 5, 2) := by decide +kernel
theorem dL_law_2905 : decode cL_law 2905 = .ok (.iload 47, 2) := by decide +kernel
theorem dL_law_2907 : decode cL_law 2907 = .ok (.iaload, 1) := by decide +kernel
theorem dL_law_2908 : decode cL_law 2908 = .ok (.invokestatic 157, 3) := by decide +kernel
theorem dL_law_2911 : decode cL_law 2911 = .ok (.aload_n 2, 1) := by decide +kernel
theorem dL_law_2912 : decode cL_law 2912 = .ok (.aload_n 3, 1) := by decide +kernel
theorem dL_law_2913 : decode cL_law 2913 = .ok (.aload 7, 2) := by decide +kernel
theorem dL_law_2915 : decode cL_law 2915 = .ok (.aload 11, 2) := by decide +kernel
theorem dL_law_2917 : decode cL_law 2917 = .ok (.invokestatic 198, 3) := by decide +kernel
theorem dL_law_2920 : decode cL_law 2920 = .ok (.aload 4, 2) := by decide +kernel
theorem dL_law_2922 : decode cL_law 2922 = .ok (.iload 48, 2) := by decide +kernel
theorem dL_law_2924 : decode cL_law 2924 = .ok (.iload 47, 2) := by decide +kernel
theorem dL_law_2926 : decode cL_law 2926 = .ok (.iastore, 1) := by decide +kernel
theorem dL_law_2927 : decode cL_law 2927 = .ok (.iinc 45 1, 3) := by decide +kernel
theorem dL_law_2930 : decode cL_law 2930 = .ok (.iinc 47 1, 3) := by decide +kernel
theorem dL_law_2933 : decode cL_law 2933 = .ok (.goto (-246), 3) := by decide +kernel
theorem dL_law_2936 : decode cL_law 2936 = .ok (.iconst 0, 1) := by decide +kernel
theorem dL_law_2937 : decode cL_law 2937 = .ok (.istore 47, 2) := by decide +kernel
theorem dL_law_2939 : decode cL_law 2939 = .ok (.iload 47, 2) := by decide +kernel
theorem dL_law_2941 : decode cL_law 2941 = .ok (.bipush 6, 2) := by decide +kernel
theorem dL_law_2943 : decode cL_law 2943 = .ok (.if_icmp .ge 26, 3) := by decide +kernel
theorem dL_law_2946 : decode cL_law 2946 = .ok (.iload 47, 2) := by decide +kernel
theorem dL_law_2948 : decode cL_law 2948 = .ok (.iconst 0, 1) := by decide +kernel
theorem dL_law_2949 : decode cL_law 2949 = .ok (.aload 7, 2) := by decide +kernel
theorem dL_law_2951 : decode cL_law 2951 = .ok (.aload 8, 2) := by decide +kernel
theorem dL_law_2953 : decode cL_law 2953 = .ok (.aload 9, 2) := by decide +kernel
theorem dL_law_2955 : decode cL_law 2955 = .ok (.aload 10, 2) := by decide +kernel
theorem dL_law_2957 : decode cL_law 2957 = .ok (.aload 11, 2) := by decide +kernel
theorem dL_law_2959 : decode cL_law 2959 = .ok (.invokestatic 209, 3) := by decide +kernel
theorem dL_law_2962 : decode cL_law 2962 = .ok (.pop, 1) := by decide +kernel
theorem dL_law_2963 : decode cL_law 2963 = .ok (.iinc 47 1, 3) := by decide +kernel
theorem dL_law_2966 : decode cL_law 2966 = .ok (.goto (-27), 3) := by decide +kernel
theorem dL_law_2969 : decode cL_law 2969 = .ok (.iload 46, 2) := by decide +kernel
theorem dL_law_2971 : decode cL_law 2971 = .ok (.iload 44, 2) := by decide +kernel
theorem dL_law_2973 : decode cL_law 2973 = .ok (.iconst 1, 1) := by decide +kernel
theorem dL_law_2974 : decode cL_law 2974 = .ok (.isub, 1) := by decide +kernel
theorem dL_law_2975 : decode cL_law 2975 = .ok (.if_icmp .ne 21, 3) := by decide +kernel
theorem dL_law_2978 : decode cL_law 2978 = .ok (.aload_n 1, 1) := by decide +kernel
theorem dL_law_2979 : decode cL_law 2979 = .ok (.iload 44, 2) := by decide +kernel
theorem dL_law_2981 : decode cL_law 2981 = .ok (.invokestatic 225, 3) := by decide +kernel
theorem dL_law_2984 : decode cL_law 2984 = .ok (.iload 45, 2) := by decide +kernel
theorem dL_law_2986 : decode cL_law 2986 = .ok (.if_icmp .ne 7, 3) := by decide +kernel
theorem dL_law_2989 : decode cL_law 2989 = .ok (.iconst 1, 1) := by decide +kernel
theorem dL_law_2990 : decode cL_law 2990 = .ok (.goto 4, 3) := by decide +kernel
theorem dL_law_2993 : decode cL_law 2993 = .ok (.iconst 0, 1) := by decide +kernel
theorem dL_law_2994 : decode cL_law 2994 = .ok (.istore 18, 2) := by decide +kernel
theorem dL_law_2996 : decode cL_law 2996 = .ok (.iinc 46 1, 3) := by decide +kernel
theorem dL_law_2999 : decode cL_law 2999 = .ok (.goto (-339), 3) := by decide +kernel
theorem dL_law_3002 : decode cL_law 3002 = .ok (.iload 18, 2) := by decide +kernel
theorem dL_law_3004 : decode cL_law 3004 = .ok (.ifCond .eq 29, 3) := by decide +kernel
theorem dL_law_3007 : decode cL_law 3007 = .ok (.aload_n 1, 1) := by decide +kernel
theorem dL_law_3008 : decode cL_law 3008 = .ok (.iload 14, 2) := by decide +kernel
theorem dL_law_3010 : decode cL_law 3010 = .ok (.iload 13, 2) := by decide +kernel
theorem dL_law_3012 : decode cL_law 3012 = .ok (.iconst 3, 1) := by decide +kernel
theorem dL_law_3013 : decode cL_law 3013 = .ok (.ishr, 1) := by decide +kernel
theorem dL_law_3014 : decode cL_law 3014 = .ok (.ixor, 1) := by decide +kernel
theorem dL_law_3015 : decode cL_law 3015 = .ok (.aload_n 2, 1) := by decide +kernel
theorem dL_law_3016 : decode cL_law 3016 = .ok (.aload_n 3, 1) := by decide +kernel
theorem dL_law_3017 : decode cL_law 3017 = .ok (.aload 5, 2) := by decide +kernel
theorem dL_law_3019 : decode cL_law 3019 = .ok (.aload 8, 2) := by decide +kernel
theorem dL_law_3021 : decode cL_law 3021 = .ok (.aload 9, 2) := by decide +kernel
theorem dL_law_3023 : decode cL_law 3023 = .ok (.aload 10, 2) := by decide +kernel
theorem dL_law_3025 : decode cL_law 3025 = .ok (.aload 11, 2) := by decide +kernel
theorem dL_law_3027 : decode cL_law 3027 = .ok (.invokestatic 227, 3) := by decide +kernel
theorem dL_law_3030 : decode cL_law 3030 = .ok (.ifCond .ne 5, 3) := by decide +kernel
theorem dL_law_3033 : decode cL_law 3033 = .ok (.iconst 0, 1) := by decide +kernel
theorem dL_law_3034 : decode cL_law 3034 = .ok (.ireturn, 1) := by decide +kernel
theorem dL_law_3035 : decode cL_law 3035 = .ok (.iinc 12 1, 3) := by decide +kernel
theorem dL_law_3038 : decode cL_law 3038 = .ok (.goto (-2844), 3) := by decide +kernel
theorem dL_law_3041 : decode cL_law 3041 = .ok (.aload_n 1, 1) := by decide +kernel
theorem dL_law_3042 : decode cL_law 3042 = .ok (.sipush 200, 3) := by decide +kernel
theorem dL_law_3045 : decode cL_law 3045 = .ok (.iconst 0, 1) := by decide +kernel
theorem dL_law_3046 : decode cL_law 3046 = .ok (.invokestatic 187, 3) := by decide +kernel
theorem dL_law_3049 : decode cL_law 3049 = .ok (.sipush (-7100), 3) := by decide +kernel
theorem dL_law_3052 : decode cL_law 3052 = .ok (.if_icmp .ne 20, 3) := by decide +kernel
theorem dL_law_3055 : decode cL_law 3055 = .ok (.aload_n 1, 1) := by decide +kernel
theorem dL_law_3056 : decode cL_law 3056 = .ok (.iconst 0, 1) := by decide +kernel
theorem dL_law_3057 : decode cL_law 3057 = .ok (.bipush 51, 2) := by decide +kernel
theorem dL_law_3059 : decode cL_law 3059 = .ok (.invokestatic 202, 3) := by decide +kernel
theorem dL_law_3062 : decode cL_law 3062 = .ok (.sipush (-7200), 3) := by decide +kernel
theorem dL_law_3065 : decode cL_law 3065 = .ok (.if_icmp .ne 7, 3) := by decide +kernel
theorem dL_law_3068 : decode cL_law 3068 = .ok (.iconst 1, 1) := by decide +kernel
theorem dL_law_3069 : decode cL_law 3069 = .ok (.goto 4, 3) := by decide +kernel
theorem dL_law_3072 : decode cL_law 3072 = .ok (.iconst 0, 1) := by decide +kernel
theorem dL_law_3073 : decode cL_law 3073 = .ok (.ireturn, 1) := by decide +kernel
