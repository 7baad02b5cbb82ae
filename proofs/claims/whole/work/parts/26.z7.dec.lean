theorem dL_law_2667 : decode cL_law 2667 = .ok (.ifCond .eq 5, 3) := by decide +kernel
theorem dL_law_2670 : decode cL_law 2670 = .ok (.iconst 0, 1) := by decide +kernel
theorem dL_law_2671 : decode cL_law 2671 = .ok (.ireturn, 1) := by decide +kernel
theorem dL_law_2672 : decode cL_law 2672 = .ok (.goto 780, 3) := by decide +kernel
theorem dL_law_2675 : decode cL_law 2675 = .ok (.aload_n 1, 1) := by decide +kernel
theorem dL_law_2676 : decode cL_law 2676 = .ok (.aload_n 0, 1) := by decide +kernel
theorem dL_law_2677 : decode cL_law 2677 = .ok (.iload 4, 2) := by decide +kernel
theorem dL_law_2679 : decode cL_law 2679 = .ok (.iconst 1, 1) := by decide +kernel
theorem dL_law_2680 : decode cL_law 2680 = .ok (.iadd, 1) := by decide +kernel
theorem dL_law_2681 : decode cL_law 2681 = .ok (.iaload, 1) := by decide +kernel
theorem dL_law_2682 : decode cL_law 2682 = .ok (.aload_n 0, 1) := by decide +kernel
theorem dL_law_2683 : decode cL_law 2683 = .ok (.iload 4, 2) := by decide +kernel
theorem dL_law_2685 : decode cL_law 2685 = .ok (.iconst 2, 1) := by decide +kernel
theorem dL_law_2686 : decode cL_law 2686 = .ok (.iadd, 1) := by decide +kernel
theorem dL_law_2687 : decode cL_law 2687 = .ok (.iaload, 1) := by decide +kernel
theorem dL_law_2688 : decode cL_law 2688 = .ok (.aload_n 3, 1) := by decide +kernel
theorem dL_law_2689 : decode cL_law 2689 = .ok (.invokestatic 347, 3) := by decide +kernel
theorem dL_law_2692 : decode cL_law 2692 = .ok (.istore 5, 2) := by decide +kernel
theorem dL_law_2694 : decode cL_law 2694 = .ok (.aload_n 2, 1) := by decide +kernel
theorem dL_law_2695 : decode cL_law 2695 = .ok (.aload_n 0, 1) := by decide +kernel
theorem dL_law_2696 : decode cL_law 2696 = .ok (.iload 4, 2) := by decide +kernel
theorem dL_law_2698 : decode cL_law 2698 = .ok (.iconst 1, 1) := by decide +kernel
theorem dL_law_2699 : decode cL_law 2699 = .ok (.iadd, 1) := by decide +kernel
theorem dL_law_2700 : decode cL_law 2700 = .ok (.iaload, 1) := by decide +kernel
theorem dL_law_2701 : decode cL_law 2701 = .ok (.aload_n 0, 1) := by decide +kernel
theorem dL_law_2702 : decode cL_law 2702 = .ok (.iload 4, 2) := by decide +kernel
theorem dL_law_2704 : decode cL_law 2704 = .ok (.iconst 2, 1) := by decide +kernel
theorem dL_law_2705 : decode cL_law 2705 = .ok (.iadd, 1) := by decide +kernel
theorem dL_law_2706 : decode cL_law 2706 = .ok (.iaload, 1) := by decide +kernel
theorem dL_law_2707 : decode cL_law 2707 = .ok (.invokevirtual 349, 3) := by decide +kernel
theorem dL_law_2710 : decode cL_law 2710 = .ok (.istore 6, 2) := by decide +kernel
theorem dL_law_2712 : decode cL_law 2712 = .ok (.aload_n 2, 1) := by decide +kernel
theorem dL_law_2713 : decode cL_law 2713 = .ok (.invokevirtual 175, 3) := by decide +kernel
theorem dL_law_2716 : decode cL_law 2716 = .ok (.iload 5, 2) := by decide +kernel
theorem dL_law_2718 : decode cL_law 2718 = .ok (.if_icmp .eq 5, 3) := by decide +kernel
theorem dL_law_2721 : decode cL_law 2721 = .ok (.iconst 0, 1) := by decide +kernel
theorem dL_law_2722 : decode cL_law 2722 = .ok (.ireturn, 1) := by decide +kernel
theorem dL_law_2723 : decode cL_law 2723 = .ok (.iload 5, 2) := by decide +kernel
theorem dL_law_2725 : decode cL_law 2725 = .ok (.ifCond .ne 15, 3) := by decide +kernel
theorem dL_law_2728 : decode cL_law 2728 = .ok (.aload_n 3, 1) := by decide +kernel
theorem dL_law_2729 : decode cL_law 2729 = .ok (.iconst 0, 1) := by decide +kernel
theorem dL_law_2730 : decode cL_law 2730 = .ok (.laload, 1) := by decide +kernel
theorem dL_law_2731 : decode cL_law 2731 = .ok (.iload 6, 2) := by decide +kernel
theorem dL_law_2733 : decode cL_law 2733 = .ok (.i2l, 1) := by decide +kernel
theorem dL_law_2734 : decode cL_law 2734 = .ok (.lcmp, 1) := by decide +kernel
theorem dL_law_2735 : decode cL_law 2735 = .ok (.ifCond .eq 5, 3) := by decide +kernel
theorem dL_law_2738 : decode cL_law 2738 = .ok (.iconst 0, 1) := by decide +kernel
theorem dL_law_2739 : decode cL_law 2739 = .ok (.ireturn, 1) := by decide +kernel
theorem dL_law_2740 : decode cL_law 2740 = .ok (.goto 712, 3) := by decide +kernel
theorem dL_law_2743 : decode cL_law 2743 = .ok (.aload_n 1, 1) := by decide +kernel
theorem dL_law_2744 : decode cL_law 2744 = .ok (.aload_n 0, 1) := by decide +kernel
theorem dL_law_2745 : decode cL_law 2745 = .ok (.iload 4, 2) := by decide +kernel
theorem dL_law_2747 : decode cL_law 2747 = .ok (.iconst 1, 1) := by decide +kernel
theorem dL_law_2748 : decode cL_law 2748 = .ok (.iadd, 1) := by decide +kernel
theorem dL_law_2749 : decode cL_law 2749 = .ok (.iaload, 1) := by decide +kernel
theorem dL_law_2750 : decode cL_law 2750 = .ok (.aload_n 0, 1) := by decide +kernel
theorem dL_law_2751 : decode cL_law 2751 = .ok (.iload 4, 2) := by decide +kernel
theorem dL_law_2753 : decode cL_law 2753 = .ok (.iconst 2, 1) := by decide +kernel
theorem dL_law_2754 : decode cL_law 2754 = .ok (.iadd, 1) := by decide +kernel
theorem dL_law_2755 : decode cL_law 2755 = .ok (.iaload, 1) := by decide +kernel
theorem dL_law_2756 : decode cL_law 2756 = .ok (.aload_n 3, 1) := by decide +kernel
theorem dL_law_2757 : decode cL_law 2757 = .ok (.invokestatic 350, 3) := by decide +kernel
theorem dL_law_2760 : decode cL_law 2760 = .ok (.istore 5, 2) := by decide +kernel
theorem dL_law_2762 : decode cL_law 2762 = .ok (.aload_n 2, 1) := by decide +kernel
theorem dL_law_2763 : decode cL_law 2763 = .ok (.aload_n 0, 1) := by decide +kernel
theorem dL_law_2764 : decode cL_law 2764 = .ok (.iload 4, 2) := by decide +kernel
theorem dL_law_2766 : decode cL_law 2766 = .ok (.iconst 1, 1) := by decide +kernel
theorem dL_law_2767 : decode cL_law 2767 = .ok (.iadd, 1) := by decide +kernel
theorem dL_law_2768 : decode cL_law 2768 = .ok (.iaload, 1) := by decide +kernel
theorem dL_law_2769 : decode cL_law 2769 = .ok (.aload_n 0, 1) := by decide +kernel
theorem dL_law_2770 : decode cL_law 2770 = .ok (.iload 4, 2) := by decide +kernel
theorem dL_law_2772 : decode cL_law 2772 = .ok (.iconst 2, 1) := by decide +kernel
theorem dL_law_2773 : decode cL_law 2773 = .ok (.iadd, 1) := by decide +kernel
theorem dL_law_2774 : decode cL_law 2774 = .ok (.iaload, 1) := by decide +kernel
theorem dL_law_2775 : decode cL_law 2775 = .ok (.invokevirtual 352, 3) := by decide +kernel
theorem dL_law_2778 : decode cL_law 2778 = .ok (.istore 6, 2) := by decide +kernel
theorem dL_law_2780 : decode cL_law 2780 = .ok (.aload_n 2, 1) := by decide +kernel
theorem dL_law_2781 : decode cL_law 2781 = .ok (.invokevirtual 175, 3) := by decide +kernel
theorem dL_law_2784 : decode cL_law 2784 = .ok (.iload 5, 2) := by decide +kernel
theorem dL_law_2786 : decode cL_law 2786 = .ok (.if_icmp .eq 5, 3) := by decide +kernel
theorem dL_law_2789 : decode cL_law 2789 = .ok (.iconst 0, 1) := by decide +kernel
theorem dL_law_2790 : decode cL_law 2790 = .ok (.ireturn, 1) := by decide +kernel
theorem dL_law_2791 : decode cL_law 2791 = .ok (.iload 5, 2) := by decide +kernel
theorem dL_law_2793 : decode cL_law 2793 = .ok (.ifCond .ne 15, 3) := by decide +kernel
theorem dL_law_2796 : decode cL_law 2796 = .ok (.aload_n 3, 1) := by decide +kernel
theorem dL_law_2797 : decode cL_law 2797 = .ok (.iconst 0, 1) := by decide +kernel
theorem dL_law_2798 : decode cL_law 2798 = .ok (.laload, 1) := by decide +kernel
theorem dL_law_2799 : decode cL_law 2799 = .ok (.iload 6, 2) := by decide +kernel
theorem dL_law_2801 : decode cL_law 2801 = .ok (.i2l, 1) := by decide +kernel
theorem dL_law_2802 : decode cL_law 2802 = .ok (.lcmp, 1) := by decide +kernel
theorem dL_law_2803 : decode cL_law 2803 = .ok (.ifCond .eq 5, 3) := by decide +kernel
theorem dL_law_2806 : decode cL_law 2806 = .ok (.iconst 0, 1) := by decide +kernel
theorem dL_law_2807 : decode cL_law 2807 = .ok (.ireturn, 1) := by decide +kernel
theorem dL_law_2808 : decode cL_law 2808 = .ok (.goto 644, 3) := by decide +kernel
theorem dL_law_2811 : decode cL_law 2811 = .ok (.aload_n 1, 1) := by decide +kernel
theorem dL_law_2812 : decode cL_law 2812 = .ok (.aload_n 0, 1) := by decide +kernel
theorem dL_law_2813 : decode cL_law 2813 = .ok (.iload 4, 2) := by decide +kernel
theorem dL_law_2815 : decode cL_law 2815 = .ok (.iconst 1, 1) := by decide +kernel
theorem dL_law_2816 : decode cL_law 2816 = .ok (.iadd, 1) := by decide +kernel
theorem dL_law_2817 : decode cL_law 2817 = .ok (.iaload, 1) := by decide +kernel
theorem dL_law_2818 : decode cL_law 2818 = .ok (.aload_n 3, 1) := by decide +kernel
theorem dL_law_2819 : decode cL_law 2819 = .ok (.invokestatic 353, 3) := by decide +kernel
theorem dL_law_2822 : decode cL_law 2822 = .ok (.istore 5, 2) := by decide +kernel
theorem dL_law_2824 : decode cL_law 2824 = .ok (.aload_n 2, 1) := by decide +kernel
theorem dL_law_2825 : decode cL_law 2825 = .ok (.aload_n 0, 1) := by decide +kernel
theorem dL_law_2826 : decode cL_law 2826 = .ok (.iload 4, 2) := by decide +kernel
theorem dL_law_2828 : decode cL_law 2828 = .ok (.iconst 1, 1) := by decide +kernel
theorem dL_law_2829 : decode cL_law 2829 = .ok (.iadd, 1) := by decide +kernel
theorem dL_law_2830 : decode cL_law 2830 = .ok (.iaload, 1) := by decide +kernel
theorem dL_law_2831 : decode cL_law 2831 = .ok (.invokevirtual 355, 3) := by decide +kernel
theorem dL_law_2834 : decode cL_law 2834 = .ok (.istore 6, 2) := by decide +kernel
theorem dL_law_2836 : decode cL_law 2836 = .ok (.aload_n 2, 1) := by decide +kernel
theorem dL_law_2837 : decode cL_law 2837 = .ok (.invokevirtual 175, 3) := by decide +kernel
theorem dL_law_2840 : decode cL_law 2840 = .ok (.iload 5, 2) := by decide +kernel
theorem dL_law_2842 : decode cL_law 2842 = .ok (.if_icmp .eq 5, 3) := by decide +kernel
theorem dL_law_2845 : decode cL_law 2845 = .ok (.iconst 0, 1) := by decide +kernel
theorem dL_law_2846 : decode cL_law 2846 = .ok (.ireturn, 1) := by decide +kernel
theorem dL_law_2847 : decode cL_law 2847 = .ok (.iload 5, 2) := by decide +kernel
theorem dL_law_2849 : decode cL_law 2849 = .ok (.ifCond .ne 15, 3) := by decide +kernel
theorem dL_law_2852 : decode cL_law 2852 = .ok (.aload_n 3, 1) := by decide +kernel
theorem dL_law_2853 : decode cL_law 2853 = .ok (.iconst 0, 1) := by decide +kernel
theorem dL_law_2854 : decode cL_law 2854 = .ok (.laload, 1) := by decide +kernel
theorem dL_law_2855 : decode cL_law 2855 = .ok (.iload 6, 2) := by decide +kernel
theorem dL_law_2857 : decode cL_law 2857 = .ok (.i2l, 1) := by decide +kernel
theorem dL_law_2858 : decode cL_law 2858 = .ok (.lcmp, 1) := by decide +kernel
theorem dL_law_2859 : decode cL_law 2859 = .ok (.ifCond .eq 5, 3) := by decide +kernel
theorem dL_law_2862 : decode cL_law 2862 = .ok (.iconst 0, 1) := by decide +kernel
theorem dL_law_2863 : decode cL_law 2863 = .ok (.ireturn, 1) := by decide +kernel
theorem dL_law_2864 : decode cL_law 2864 = .ok (.goto 588, 3) := by decide +kernel
theorem dL_law_2867 : decode cL_law 2867 = .ok (.aload_n 1, 1) := by decide +kernel
theorem dL_law_2868 : decode cL_law 2868 = .ok (.aload_n 0, 1) := by decide +kernel
theorem dL_law_2869 : decode cL_law 2869 = .ok (.iload 4, 2) := by decide +kernel
theorem dL_law_2871 : decode cL_law 2871 = .ok (.iconst 1, 1) := by decide +kernel
theorem dL_law_2872 : decode cL_law 2872 = .ok (.iadd, 1) := by decide +kernel
theorem dL_law_2873 : decode cL_law 2873 = .ok (.iaload, 1) := by decide +kernel
theorem dL_law_2874 : decode cL_law 2874 = .ok (.aload_n 3, 1) := by decide +kernel
theorem dL_law_2875 : decode cL_law 2875 = .ok (.invokestatic 356, 3) := by decide +kernel
theorem dL_law_2878 : decode cL_law 2878 = .ok (.istore 5, 2) := by decide +kernel
theorem dL_law_2880 : decode cL_law 2880 = .ok (.aload_n 2, 1) := by decide +kernel
theorem dL_law_2881 : decode cL_law 2881 = .ok (.aload_n 0, 1) := by decide +kernel
theorem dL_law_2882 : decode cL_law 2882 = .ok (.iload 4, 2) := by decide +kernel
theorem dL_law_2884 : decode cL_law 2884 = .ok (.iconst 1, 1) := by decide +kernel
theorem dL_law_2885 : decode cL_law 2885 = .ok (.iadd, 1) := by decide +kernel
theorem dL_law_2886 : decode cL_law 2886 = .ok (.iaload, 1) := by decide +kernel
theorem dL_law_2887 : decode cL_law 2887 = .ok (.invokevirtual 358, 3) := by decide +kernel
theorem dL_law_2890 : decode cL_law 2890 = .ok (.istore 6, 2) := by decide +kernel
theorem dL_law_2892 : decode cL_law 2892 = .ok (.aload_n 2, 1) := by decide +kernel
theorem dL_law_2893 : decode cL_law 2893 = .ok (.invokevirtual 175, 3) := by decide +kernel
theorem dL_law_2896 : decode cL_law 2896 = .ok (.iload 5, 2) := by decide +kernel
theorem dL_law_2898 : decode cL_law 2898 = .ok (.if_icmp .eq 5, 3) := by decide +kernel
theorem dL_law_2901 : decode cL_law 2901 = .ok (.iconst 0, 1) := by decide +kernel
theorem dL_law_2902 : decode cL_law 2902 = .ok (.ireturn, 1) := by decide +kernel
theorem dL_law_2903 : decode cL_law 2903 = .ok (.iload 5, 2) := by decide +kernel
theorem dL_law_2905 : decode cL_law 2905 = .ok (.ifCond .ne 15, 3) := by decide +kernel
theorem dL_law_2908 : decode cL_law 2908 = .ok (.aload_n 3, 1) := by decide +kernel
theorem dL_law_2909 : decode cL_law 2909 = .ok (.iconst 0, 1) := by decide +kernel
theorem dL_law_2910 : decode cL_law 2910 = .ok (.laload, 1) := by decide +kernel
theorem dL_law_2911 : decode cL_law 2911 = .ok (.iload 6, 2) := by decide +kernel
theorem dL_law_2913 : decode cL_law 2913 = .ok (.i2l, 1) := by decide +kernel
theorem dL_law_2914 : decode cL_law 2914 = .ok (.lcmp, 1) := by decide +kernel
theorem dL_law_2915 : decode cL_law 2915 = .ok (.ifCond .eq 5, 3) := by decide +kernel
theorem dL_law_2918 : decode cL_law 2918 = .ok (.iconst 0, 1) := by decide +kernel
theorem dL_law_2919 : decode cL_law 2919 = .ok (.ireturn, 1) := by decide +kernel
theorem dL_law_2920 : decode cL_law 2920 = .ok (.goto 532, 3) := by decide +kernel
theorem dL_law_2923 : decode cL_law 2923 = .ok (.aload_n 1, 1) := by decide +kernel
theorem dL_law_2924 : decode cL_law 2924 = .ok (.aload_n 0, 1) := by decide +kernel
theorem dL_law_2925 : decode cL_law 2925 = .ok (.iload 4, 2) := by decide +kernel
theorem dL_law_2927 : decode cL_law 2927 = .ok (.iconst 1, 1) := by decide +kernel
theorem dL_law_2928 : decode cL_law 2928 = .ok (.iadd, 1) := by decide +kernel
theorem dL_law_2929 : decode cL_law 2929 = .ok (.iaload, 1) := by decide +kernel
theorem dL_law_2930 : decode cL_law 2930 = .ok (.aload_n 3, 1) := by decide +kernel
theorem dL_law_2931 : decode cL_law 2931 = .ok (.invokestatic 359, 3) := by decide +kernel
theorem dL_law_2934 : decode cL_law 2934 = .ok (.istore 5, 2) := by decide +kernel
theorem dL_law_2936 : decode cL_law 2936 = .ok (.aload_n 2, 1) := by decide +kernel
theorem dL_law_2937 : decode cL_law 2937 = .ok (.aload_n 0, 1) := by decide +kernel
theorem dL_law_2938 : decode cL_law 2938 = .ok (.iload 4, 2) := by decide +kernel
theorem dL_law_2940 : decode cL_law 2940 = .ok (.iconst 1, 1) := by decide +kernel
theorem dL_law_2941 : decode cL_law 2941 = .ok (.iadd, 1) := by decide +kernel
theorem dL_law_2942 : decode cL_law 2942 = .ok (.iaload, 1) := by decide +kernel
theorem dL_law_2943 : decode cL_law 2943 = .ok (.invokevirtual 361, 3) := by decide +kernel
theorem dL_law_2946 : decode cL_law 2946 = .ok (.istore 6, 2) := by decide +kernel
theorem dL_law_2948 : decode cL_law 2948 = .ok (.aload_n 2, 1) := by decide +kernel
theorem dL_law_2949 : decode cL_law 2949 = .ok (.invokevirtual 175, 3) := by decide +kernel
theorem dL_law_2952 : decode cL_law 2952 = .ok (.iload 5, 2) := by decide +kernel
theorem dL_law_2954 : decode cL_law 2954 = .ok (.if_icmp .eq 5, 3) := by decide +kernel
theorem dL_law_2957 : decode cL_law 2957 = .ok (.iconst 0, 1) := by decide +kernel
theorem dL_law_2958 : decode cL_law 2958 = .ok (.ireturn, 1) := by decide +kernel
theorem dL_law_2959 : decode cL_law 2959 = .ok (.iload 5, 2) := by decide +kernel
theorem dL_law_2961 : decode cL_law 2961 = .ok (.ifCond .ne 15, 3) := by decide +kernel
theorem dL_law_2964 : decode cL_law 2964 = .ok (.aload_n 3, 1) := by decide +kernel
theorem dL_law_2965 : decode cL_law 2965 = .ok (.iconst 0, 1) := by decide +kernel
theorem dL_law_2966 : decode cL_law 2966 = .ok (.laload, 1) := by decide +kernel
theorem dL_law_2967 : decode cL_law 2967 = .ok (.iload 6, 2) := by decide +kernel
theorem dL_law_2969 : decode cL_law 2969 = .ok (.i2l, 1) := by decide +kernel
theorem dL_law_2970 : decode cL_law 2970 = .ok (.lcmp, 1) := by decide +kernel
theorem dL_law_2971 : decode cL_law 2971 = .ok (.ifCond .eq 5, 3) := by decide +kernel
theorem dL_law_2974 : decode cL_law 2974 = .ok (.iconst 0, 1) := by decide +kernel
theorem dL_law_2975 : decode cL_law 2975 = .ok (.ireturn, 1) := by decide +kernel
theorem dL_law_2976 : decode cL_law 2976 = .ok (.goto 476, 3) := by decide +kernel
theorem dL_law_2979 : decode cL_law 2979 = .ok (.aload_n 1, 1) := by decide +kernel
theorem dL_law_2980 : decode cL_law 2980 = .ok (.invokevirtual 362, 3) := by decide +kernel
theorem dL_law_2983 : decode cL_law 2983 = .ok (.aload_n 2, 1) := by decide +kernel
theorem dL_law_2984 : decode cL_law 2984 = .ok (.invokevirtual 365, 3) := by decide +kernel
theorem dL_law_2987 : decode cL_law 2987 = .ok (.if_icmp .eq 465, 3) := by decide +kernel
theorem dL_law_2990 : decode cL_law 2990 = .ok (.iconst 0, 1) := by decide +kernel
theorem dL_law_2991 : decode cL_law 2991 = .ok (.ireturn, 1) := by decide +kernel
theorem dL_law_2992 : decode cL_law 2992 = .ok (.aload_n 1, 1) := by decide +kernel
theorem dL_law_2993 : decode cL_law 2993 = .ok (.aload_n 0, 1) := by decide +kernel
theorem dL_law_2994 : decode cL_law 2994 = .ok (.iload 4, 2) := by decide +kernel
theorem dL_law_2996 : decode cL_law 2996 = .ok (.iconst 1, 1) := by decide +kernel
theorem dL_law_2997 : decode cL_law 2997 = .ok (.iadd, 1) := by decide +kernel
theorem dL_law_2998 : decode cL_law 2998 = .ok (.iaload, 1) := by decide +kernel
theorem dL_law_2999 : decode cL_law 2999 = .ok (.aload_n 0, 1) := by decide +kernel
theorem dL_law_3000 : decode cL_law 3000 = .ok (.iload 4, 2) := by decide +kernel
theorem dL_law_3002 : decode cL_law 3002 = .ok (.iconst 2, 1) := by decide +kernel
theorem dL_law_3003 : decode cL_law 3003 = .ok (.iadd, 1) := by decide +kernel
theorem dL_law_3004 : decode cL_law 3004 = .ok (.iaload, 1) := by decide +kernel
theorem dL_law_3005 : decode cL_law 3005 = .ok (.aload_n 3, 1) := by decide +kernel
theorem dL_law_3006 : decode cL_law 3006 = .ok (.invokestatic 366, 3) := by decide +kernel
theorem dL_law_3009 : decode cL_law 3009 = .ok (.istore 5, 2) := by decide +kernel
theorem dL_law_3011 : decode cL_law 3011 = .ok (.aload_n 2, 1) := by decide +kernel
theorem dL_law_3012 : decode cL_law 3012 = .ok (.aload_n 0, 1) := by decide +kernel
theorem dL_law_3013 : decode cL_law 3013 = .ok (.iload 4, 2) := by decide +kernel
theorem dL_law_3015 : decode cL_law 3015 = .ok (.iconst 1, 1) := by decide +kernel
theorem dL_law_3016 : decode cL_law 3016 = .ok (.iadd, 1) := by decide +kernel
theorem dL_law_3017 : decode cL_law 3017 = .ok (.iaload, 1) := by decide +kernel
theorem dL_law_3018 : decode cL_law 3018 = .ok (.aload_n 0, 1) := by decide +kernel
theorem dL_law_3019 : decode cL_law 3019 = .ok (.iload 4, 2) := by decide +kernel
theorem dL_law_3021 : decode cL_law 3021 = .ok (.iconst 2, 1) := by decide +kernel
theorem dL_law_3022 : decode cL_law 3022 = .ok (.iadd, 1) := by decide +kernel
theorem dL_law_3023 : decode cL_law 3023 = .ok (.iaload, 1) := by decide +kernel
theorem dL_law_3024 : decode cL_law 3024 = .ok (.invokevirtual 368, 3) := by decide +kernel
theorem dL_law_3027 : decode cL_law 3027 = .ok (.istore 6, 2) := by decide +kernel
theorem dL_law_3029 : decode cL_law 3029 = .ok (.aload_n 2, 1) := by decide +kernel
theorem dL_law_3030 : decode cL_law 3030 = .ok (.invokevirtual 175, 3) := by decide +kernel
theorem dL_law_3033 : decode cL_law 3033 = .ok (.iload 5, 2) := by decide +kernel
theorem dL_law_3035 : decode cL_law 3035 = .ok (.if_icmp .eq 5, 3) := by decide +kernel
theorem dL_law_3038 : decode cL_law 3038 = .ok (.iconst 0, 1) := by decide +kernel
theorem dL_law_3039 : decode cL_law 3039 = .ok (.ireturn, 1) := by decide +kernel
theorem dL_law_3040 : decode cL_law 3040 = .ok (.iload 5, 2) := by decide +kernel
theorem dL_law_3042 : decode cL_law 3042 = .ok (.ifCond .ne 15, 3) := by decide +kernel
theorem dL_law_3045 : decode cL_law 3045 = .ok (.aload_n 3, 1) := by decide +kernel
theorem dL_law_3046 : decode cL_law 3046 = .ok (.iconst 0, 1) := by decide +kernel
theorem dL_law_3047 : decode cL_law 3047 = .ok (.laload, 1) := by decide +kernel
theorem dL_law_3048 : decode cL_law 3048 = .ok (.iload 6, 2) := by decide +kernel
theorem dL_law_3050 : decode cL_law 3050 = .ok (.i2l, 1) := by decide +kernel
theorem dL_law_3051 : decode cL_law 3051 = .ok (.lcmp, 1) := by decide +kernel
theorem dL_law_3052 : decode cL_law 3052 = .ok (.ifCond .eq 5, 3) := by decide +kernel
theorem dL_law_3055 : decode cL_law 3055 = .ok (.iconst 0, 1) := by decide +kernel
theorem dL_law_3056 : decode cL_law 3056 = .ok (.ireturn, 1) := by decide +kernel
