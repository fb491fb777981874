theorem dk_29j_1 : (cL_law.data.toList.drop 2779).take 150 = [154, 0, 5, 3, 172, 167, 3, 108, 43, 42, 21, 4, 4, 96, 46, 42, 21, 4, 5, 96, 46, 42, 21, 4, 6, 96, 46, 45, 184, 1, 43, 54, 5, 44, 42, 21, 4, 4, 96, 46, 42, 21, 4, 5, 96, 46, 42, 21, 4, 6, 96, 46, 182, 1, 45, 54, 6, 44, 182, 0, 182, 21, 5, 159, 0, 5, 3, 172, 21, 5, 154, 0, 16, 45, 180, 0, 13, 21, 6, 133, 148, 153, 0, 5, 3, 172, 167, 3, 27, 43, 42, 21, 4, 4, 96, 46, 42, 21, 4, 5, 96, 46, 42, 21, 4, 6, 96, 46, 45, 184, 1, 46, 54, 5, 44, 42, 21, 4, 4, 96, 46, 42, 21, 4, 5, 96, 46, 42, 21, 4, 6, 96, 46, 182, 1, 48, 54, 6, 44, 182, 0, 182, 21, 5, 159, 0, 5, 3, 172, 21] := by decide +kernel
theorem dL_law_2779 : decode cL_law 2779 = .ok (.ifCond .ne 5, 3) := dq_op154 (dq_at (j := 0) dk_29j_1 rfl rfl) (dq_at (j := 1) dk_29j_1 rfl rfl) (dq_at (j := 2) dk_29j_1 rfl rfl) (by decide +kernel)
theorem dL_law_2782 : decode cL_law 2782 = .ok (.iconst 0, 1) := dq_op3 (dq_at (j := 3) dk_29j_1 rfl rfl)
theorem dL_law_2783 : decode cL_law 2783 = .ok (.ireturn, 1) := dq_op172 (dq_at (j := 4) dk_29j_1 rfl rfl)
theorem dL_law_2784 : decode cL_law 2784 = .ok (.goto 876, 3) := dq_op167 (dq_at (j := 5) dk_29j_1 rfl rfl) (dq_at (j := 6) dk_29j_1 rfl rfl) (dq_at (j := 7) dk_29j_1 rfl rfl) (by decide +kernel)
theorem dL_law_2787 : decode cL_law 2787 = .ok (.aload_n 1, 1) := dq_op43 (dq_at (j := 8) dk_29j_1 rfl rfl)
theorem dL_law_2788 : decode cL_law 2788 = .ok (.aload_n 0, 1) := dq_op42 (dq_at (j := 9) dk_29j_1 rfl rfl)
theorem dL_law_2789 : decode cL_law 2789 = .ok (.iload 4, 2) := dq_op21 (dq_at (j := 10) dk_29j_1 rfl rfl) (dq_at (j := 11) dk_29j_1 rfl rfl) rfl
theorem dL_law_2791 : decode cL_law 2791 = .ok (.iconst 1, 1) := dq_op4 (dq_at (j := 12) dk_29j_1 rfl rfl)
theorem dL_law_2792 : decode cL_law 2792 = .ok (.iadd, 1) := dq_op96 (dq_at (j := 13) dk_29j_1 rfl rfl)
theorem dL_law_2793 : decode cL_law 2793 = .ok (.iaload, 1) := dq_op46 (dq_at (j := 14) dk_29j_1 rfl rfl)
theorem dL_law_2794 : decode cL_law 2794 = .ok (.aload_n 0, 1) := dq_op42 (dq_at (j := 15) dk_29j_1 rfl rfl)
theorem dL_law_2795 : decode cL_law 2795 = .ok (.iload 4, 2) := dq_op21 (dq_at (j := 16) dk_29j_1 rfl rfl) (dq_at (j := 17) dk_29j_1 rfl rfl) rfl
theorem dL_law_2797 : decode cL_law 2797 = .ok (.iconst 2, 1) := dq_op5 (dq_at (j := 18) dk_29j_1 rfl rfl)
theorem dL_law_2798 : decode cL_law 2798 = .ok (.iadd, 1) := dq_op96 (dq_at (j := 19) dk_29j_1 rfl rfl)
theorem dL_law_2799 : decode cL_law 2799 = .ok (.iaload, 1) := dq_op46 (dq_at (j := 20) dk_29j_1 rfl rfl)
theorem dL_law_2800 : decode cL_law 2800 = .ok (.aload_n 0, 1) := dq_op42 (dq_at (j := 21) dk_29j_1 rfl rfl)
theorem dL_law_2801 : decode cL_law 2801 = .ok (.iload 4, 2) := dq_op21 (dq_at (j := 22) dk_29j_1 rfl rfl) (dq_at (j := 23) dk_29j_1 rfl rfl) rfl
theorem dL_law_2803 : decode cL_law 2803 = .ok (.iconst 3, 1) := dq_op6 (dq_at (j := 24) dk_29j_1 rfl rfl)
theorem dL_law_2804 : decode cL_law 2804 = .ok (.iadd, 1) := dq_op96 (dq_at (j := 25) dk_29j_1 rfl rfl)
theorem dL_law_2805 : decode cL_law 2805 = .ok (.iaload, 1) := dq_op46 (dq_at (j := 26) dk_29j_1 rfl rfl)
theorem dL_law_2806 : decode cL_law 2806 = .ok (.aload_n 3, 1) := dq_op45 (dq_at (j := 27) dk_29j_1 rfl rfl)
theorem dL_law_2807 : decode cL_law 2807 = .ok (.invokestatic 299, 3) := dq_op184 (dq_at (j := 28) dk_29j_1 rfl rfl) (dq_at (j := 29) dk_29j_1 rfl rfl) (dq_at (j := 30) dk_29j_1 rfl rfl) rfl
theorem dL_law_2810 : decode cL_law 2810 = .ok (.istore 5, 2) := dq_op54 (dq_at (j := 31) dk_29j_1 rfl rfl) (dq_at (j := 32) dk_29j_1 rfl rfl) rfl
theorem dL_law_2812 : decode cL_law 2812 = .ok (.aload_n 2, 1) := dq_op44 (dq_at (j := 33) dk_29j_1 rfl rfl)
theorem dL_law_2813 : decode cL_law 2813 = .ok (.aload_n 0, 1) := dq_op42 (dq_at (j := 34) dk_29j_1 rfl rfl)
theorem dL_law_2814 : decode cL_law 2814 = .ok (.iload 4, 2) := dq_op21 (dq_at (j := 35) dk_29j_1 rfl rfl) (dq_at (j := 36) dk_29j_1 rfl rfl) rfl
theorem dL_law_2816 : decode cL_law 2816 = .ok (.iconst 1, 1) := dq_op4 (dq_at (j := 37) dk_29j_1 rfl rfl)
theorem dL_law_2817 : decode cL_law 2817 = .ok (.iadd, 1) := dq_op96 (dq_at (j := 38) dk_29j_1 rfl rfl)
theorem dL_law_2818 : decode cL_law 2818 = .ok (.iaload, 1) := dq_op46 (dq_at (j := 39) dk_29j_1 rfl rfl)
theorem dL_law_2819 : decode cL_law 2819 = .ok (.aload_n 0, 1) := dq_op42 (dq_at (j := 40) dk_29j_1 rfl rfl)
theorem dL_law_2820 : decode cL_law 2820 = .ok (.iload 4, 2) := dq_op21 (dq_at (j := 41) dk_29j_1 rfl rfl) (dq_at (j := 42) dk_29j_1 rfl rfl) rfl
theorem dL_law_2822 : decode cL_law 2822 = .ok (.iconst 2, 1) := dq_op5 (dq_at (j := 43) dk_29j_1 rfl rfl)
theorem dL_law_2823 : decode cL_law 2823 = .ok (.iadd, 1) := dq_op96 (dq_at (j := 44) dk_29j_1 rfl rfl)
theorem dL_law_2824 : decode cL_law 2824 = .ok (.iaload, 1) := dq_op46 (dq_at (j := 45) dk_29j_1 rfl rfl)
theorem dL_law_2825 : decode cL_law 2825 = .ok (.aload_n 0, 1) := dq_op42 (dq_at (j := 46) dk_29j_1 rfl rfl)
theorem dL_law_2826 : decode cL_law 2826 = .ok (.iload 4, 2) := dq_op21 (dq_at (j := 47) dk_29j_1 rfl rfl) (dq_at (j := 48) dk_29j_1 rfl rfl) rfl
theorem dL_law_2828 : decode cL_law 2828 = .ok (.iconst 3, 1) := dq_op6 (dq_at (j := 49) dk_29j_1 rfl rfl)
theorem dL_law_2829 : decode cL_law 2829 = .ok (.iadd, 1) := dq_op96 (dq_at (j := 50) dk_29j_1 rfl rfl)
theorem dL_law_2830 : decode cL_law 2830 = .ok (.iaload, 1) := dq_op46 (dq_at (j := 51) dk_29j_1 rfl rfl)
theorem dL_law_2831 : decode cL_law 2831 = .ok (.invokevirtual 301, 3) := dq_op182 (dq_at (j := 52) dk_29j_1 rfl rfl) (dq_at (j := 53) dk_29j_1 rfl rfl) (dq_at (j := 54) dk_29j_1 rfl rfl) rfl
theorem dL_law_2834 : decode cL_law 2834 = .ok (.istore 6, 2) := dq_op54 (dq_at (j := 55) dk_29j_1 rfl rfl) (dq_at (j := 56) dk_29j_1 rfl rfl) rfl
theorem dL_law_2836 : decode cL_law 2836 = .ok (.aload_n 2, 1) := dq_op44 (dq_at (j := 57) dk_29j_1 rfl rfl)
theorem dL_law_2837 : decode cL_law 2837 = .ok (.invokevirtual 182, 3) := dq_op182 (dq_at (j := 58) dk_29j_1 rfl rfl) (dq_at (j := 59) dk_29j_1 rfl rfl) (dq_at (j := 60) dk_29j_1 rfl rfl) rfl
theorem dL_law_2840 : decode cL_law 2840 = .ok (.iload 5, 2) := dq_op21 (dq_at (j := 61) dk_29j_1 rfl rfl) (dq_at (j := 62) dk_29j_1 rfl rfl) rfl
theorem dL_law_2842 : decode cL_law 2842 = .ok (.if_icmp .eq 5, 3) := dq_op159 (dq_at (j := 63) dk_29j_1 rfl rfl) (dq_at (j := 64) dk_29j_1 rfl rfl) (dq_at (j := 65) dk_29j_1 rfl rfl) (by decide +kernel)
theorem dL_law_2845 : decode cL_law 2845 = .ok (.iconst 0, 1) := dq_op3 (dq_at (j := 66) dk_29j_1 rfl rfl)
theorem dL_law_2846 : decode cL_law 2846 = .ok (.ireturn, 1) := dq_op172 (dq_at (j := 67) dk_29j_1 rfl rfl)
theorem dL_law_2847 : decode cL_law 2847 = .ok (.iload 5, 2) := dq_op21 (dq_at (j := 68) dk_29j_1 rfl rfl) (dq_at (j := 69) dk_29j_1 rfl rfl) rfl
theorem dL_law_2849 : decode cL_law 2849 = .ok (.ifCond .ne 16, 3) := dq_op154 (dq_at (j := 70) dk_29j_1 rfl rfl) (dq_at (j := 71) dk_29j_1 rfl rfl) (dq_at (j := 72) dk_29j_1 rfl rfl) (by decide +kernel)
theorem dL_law_2852 : decode cL_law 2852 = .ok (.aload_n 3, 1) := dq_op45 (dq_at (j := 73) dk_29j_1 rfl rfl)
theorem dL_law_2853 : decode cL_law 2853 = .ok (.getfield 13, 3) := dq_op180 (dq_at (j := 74) dk_29j_1 rfl rfl) (dq_at (j := 75) dk_29j_1 rfl rfl) (dq_at (j := 76) dk_29j_1 rfl rfl) rfl
theorem dL_law_2856 : decode cL_law 2856 = .ok (.iload 6, 2) := dq_op21 (dq_at (j := 77) dk_29j_1 rfl rfl) (dq_at (j := 78) dk_29j_1 rfl rfl) rfl
theorem dL_law_2858 : decode cL_law 2858 = .ok (.i2l, 1) := dq_op133 (dq_at (j := 79) dk_29j_1 rfl rfl)
theorem dL_law_2859 : decode cL_law 2859 = .ok (.lcmp, 1) := dq_op148 (dq_at (j := 80) dk_29j_1 rfl rfl)
theorem dL_law_2860 : decode cL_law 2860 = .ok (.ifCond .eq 5, 3) := dq_op153 (dq_at (j := 81) dk_29j_1 rfl rfl) (dq_at (j := 82) dk_29j_1 rfl rfl) (dq_at (j := 83) dk_29j_1 rfl rfl) (by decide +kernel)
theorem dL_law_2863 : decode cL_law 2863 = .ok (.iconst 0, 1) := dq_op3 (dq_at (j := 84) dk_29j_1 rfl rfl)
theorem dL_law_2864 : decode cL_law 2864 = .ok (.ireturn, 1) := dq_op172 (dq_at (j := 85) dk_29j_1 rfl rfl)
theorem dL_law_2865 : decode cL_law 2865 = .ok (.goto 795, 3) := dq_op167 (dq_at (j := 86) dk_29j_1 rfl rfl) (dq_at (j := 87) dk_29j_1 rfl rfl) (dq_at (j := 88) dk_29j_1 rfl rfl) (by decide +kernel)
theorem dL_law_2868 : decode cL_law 2868 = .ok (.aload_n 1, 1) := dq_op43 (dq_at (j := 89) dk_29j_1 rfl rfl)
theorem dL_law_2869 : decode cL_law 2869 = .ok (.aload_n 0, 1) := dq_op42 (dq_at (j := 90) dk_29j_1 rfl rfl)
theorem dL_law_2870 : decode cL_law 2870 = .ok (.iload 4, 2) := dq_op21 (dq_at (j := 91) dk_29j_1 rfl rfl) (dq_at (j := 92) dk_29j_1 rfl rfl) rfl
theorem dL_law_2872 : decode cL_law 2872 = .ok (.iconst 1, 1) := dq_op4 (dq_at (j := 93) dk_29j_1 rfl rfl)
theorem dL_law_2873 : decode cL_law 2873 = .ok (.iadd, 1) := dq_op96 (dq_at (j := 94) dk_29j_1 rfl rfl)
theorem dL_law_2874 : decode cL_law 2874 = .ok (.iaload, 1) := dq_op46 (dq_at (j := 95) dk_29j_1 rfl rfl)
theorem dL_law_2875 : decode cL_law 2875 = .ok (.aload_n 0, 1) := dq_op42 (dq_at (j := 96) dk_29j_1 rfl rfl)
theorem dL_law_2876 : decode cL_law 2876 = .ok (.iload 4, 2) := dq_op21 (dq_at (j := 97) dk_29j_1 rfl rfl) (dq_at (j := 98) dk_29j_1 rfl rfl) rfl
theorem dL_law_2878 : decode cL_law 2878 = .ok (.iconst 2, 1) := dq_op5 (dq_at (j := 99) dk_29j_1 rfl rfl)
theorem dL_law_2879 : decode cL_law 2879 = .ok (.iadd, 1) := dq_op96 (dq_at (j := 100) dk_29j_1 rfl rfl)
theorem dL_law_2880 : decode cL_law 2880 = .ok (.iaload, 1) := dq_op46 (dq_at (j := 101) dk_29j_1 rfl rfl)
theorem dL_law_2881 : decode cL_law 2881 = .ok (.aload_n 0, 1) := dq_op42 (dq_at (j := 102) dk_29j_1 rfl rfl)
theorem dL_law_2882 : decode cL_law 2882 = .ok (.iload 4, 2) := dq_op21 (dq_at (j := 103) dk_29j_1 rfl rfl) (dq_at (j := 104) dk_29j_1 rfl rfl) rfl
theorem dL_law_2884 : decode cL_law 2884 = .ok (.iconst 3, 1) := dq_op6 (dq_at (j := 105) dk_29j_1 rfl rfl)
theorem dL_law_2885 : decode cL_law 2885 = .ok (.iadd, 1) := dq_op96 (dq_at (j := 106) dk_29j_1 rfl rfl)
theorem dL_law_2886 : decode cL_law 2886 = .ok (.iaload, 1) := dq_op46 (dq_at (j := 107) dk_29j_1 rfl rfl)
theorem dL_law_2887 : decode cL_law 2887 = .ok (.aload_n 3, 1) := dq_op45 (dq_at (j := 108) dk_29j_1 rfl rfl)
theorem dL_law_2888 : decode cL_law 2888 = .ok (.invokestatic 302, 3) := dq_op184 (dq_at (j := 109) dk_29j_1 rfl rfl) (dq_at (j := 110) dk_29j_1 rfl rfl) (dq_at (j := 111) dk_29j_1 rfl rfl) rfl
theorem dL_law_2891 : decode cL_law 2891 = .ok (.istore 5, 2) := dq_op54 (dq_at (j := 112) dk_29j_1 rfl rfl) (dq_at (j := 113) dk_29j_1 rfl rfl) rfl
theorem dL_law_2893 : decode cL_law 2893 = .ok (.aload_n 2, 1) := dq_op44 (dq_at (j := 114) dk_29j_1 rfl rfl)
theorem dL_law_2894 : decode cL_law 2894 = .ok (.aload_n 0, 1) := dq_op42 (dq_at (j := 115) dk_29j_1 rfl rfl)
theorem dL_law_2895 : decode cL_law 2895 = .ok (.iload 4, 2) := dq_op21 (dq_at (j := 116) dk_29j_1 rfl rfl) (dq_at (j := 117) dk_29j_1 rfl rfl) rfl
theorem dL_law_2897 : decode cL_law 2897 = .ok (.iconst 1, 1) := dq_op4 (dq_at (j := 118) dk_29j_1 rfl rfl)
theorem dL_law_2898 : decode cL_law 2898 = .ok (.iadd, 1) := dq_op96 (dq_at (j := 119) dk_29j_1 rfl rfl)
theorem dL_law_2899 : decode cL_law 2899 = .ok (.iaload, 1) := dq_op46 (dq_at (j := 120) dk_29j_1 rfl rfl)
theorem dL_law_2900 : decode cL_law 2900 = .ok (.aload_n 0, 1) := dq_op42 (dq_at (j := 121) dk_29j_1 rfl rfl)
theorem dL_law_2901 : decode cL_law 2901 = .ok (.iload 4, 2) := dq_op21 (dq_at (j := 122) dk_29j_1 rfl rfl) (dq_at (j := 123) dk_29j_1 rfl rfl) rfl
theorem dL_law_2903 : decode cL_law 2903 = .ok (.iconst 2, 1) := dq_op5 (dq_at (j := 124) dk_29j_1 rfl rfl)
theorem dL_law_2904 : decode cL_law 2904 = .ok (.iadd, 1) := dq_op96 (dq_at (j := 125) dk_29j_1 rfl rfl)
theorem dL_law_2905 : decode cL_law 2905 = .ok (.iaload, 1) := dq_op46 (dq_at (j := 126) dk_29j_1 rfl rfl)
theorem dL_law_2906 : decode cL_law 2906 = .ok (.aload_n 0, 1) := dq_op42 (dq_at (j := 127) dk_29j_1 rfl rfl)
theorem dL_law_2907 : decode cL_law 2907 = .ok (.iload 4, 2) := dq_op21 (dq_at (j := 128) dk_29j_1 rfl rfl) (dq_at (j := 129) dk_29j_1 rfl rfl) rfl
theorem dL_law_2909 : decode cL_law 2909 = .ok (.iconst 3, 1) := dq_op6 (dq_at (j := 130) dk_29j_1 rfl rfl)
theorem dL_law_2910 : decode cL_law 2910 = .ok (.iadd, 1) := dq_op96 (dq_at (j := 131) dk_29j_1 rfl rfl)
theorem dL_law_2911 : decode cL_law 2911 = .ok (.iaload, 1) := dq_op46 (dq_at (j := 132) dk_29j_1 rfl rfl)
theorem dL_law_2912 : decode cL_law 2912 = .ok (.invokevirtual 304, 3) := dq_op182 (dq_at (j := 133) dk_29j_1 rfl rfl) (dq_at (j := 134) dk_29j_1 rfl rfl) (dq_at (j := 135) dk_29j_1 rfl rfl) rfl
theorem dL_law_2915 : decode cL_law 2915 = .ok (.istore 6, 2) := dq_op54 (dq_at (j := 136) dk_29j_1 rfl rfl) (dq_at (j := 137) dk_29j_1 rfl rfl) rfl
theorem dL_law_2917 : decode cL_law 2917 = .ok (.aload_n 2, 1) := dq_op44 (dq_at (j := 138) dk_29j_1 rfl rfl)
theorem dL_law_2918 : decode cL_law 2918 = .ok (.invokevirtual 182, 3) := dq_op182 (dq_at (j := 139) dk_29j_1 rfl rfl) (dq_at (j := 140) dk_29j_1 rfl rfl) (dq_at (j := 141) dk_29j_1 rfl rfl) rfl
theorem dL_law_2921 : decode cL_law 2921 = .ok (.iload 5, 2) := dq_op21 (dq_at (j := 142) dk_29j_1 rfl rfl) (dq_at (j := 143) dk_29j_1 rfl rfl) rfl
theorem dL_law_2923 : decode cL_law 2923 = .ok (.if_icmp .eq 5, 3) := dq_op159 (dq_at (j := 144) dk_29j_1 rfl rfl) (dq_at (j := 145) dk_29j_1 rfl rfl) (dq_at (j := 146) dk_29j_1 rfl rfl) (by decide +kernel)
theorem dL_law_2926 : decode cL_law 2926 = .ok (.iconst 0, 1) := dq_op3 (dq_at (j := 147) dk_29j_1 rfl rfl)
theorem dk_29j_2 : (cL_law.data.toList.drop 2927).take 131 = [172, 21, 5, 154, 0, 23, 45, 180, 0, 13, 21, 6, 153, 0, 7, 10, 167, 0, 4, 9, 148, 153, 0, 5, 3, 172, 167, 2, 195, 43, 42, 21, 4, 4, 96, 46, 42, 21, 4, 5, 96, 46, 45, 184, 1, 49, 54, 5, 44, 42, 21, 4, 4, 96, 46, 42, 21, 4, 5, 96, 46, 182, 1, 51, 54, 6, 44, 182, 0, 182, 21, 5, 159, 0, 5, 3, 172, 21, 5, 154, 0, 23, 45, 180, 0, 13, 21, 6, 153, 0, 7, 10, 167, 0, 4, 9, 148, 153, 0, 5, 3, 172, 167, 2, 119, 43, 42, 21, 4, 4, 96, 46, 42, 21, 4, 5, 96, 46, 45, 184, 1, 52, 54, 5, 44, 42, 21, 4, 4, 96, 46] := by decide +kernel
theorem dL_law_2927 : decode cL_law 2927 = .ok (.ireturn, 1) := dq_op172 (dq_at (j := 0) dk_29j_2 rfl rfl)
theorem dL_law_2928 : decode cL_law 2928 = .ok (.iload 5, 2) := dq_op21 (dq_at (j := 1) dk_29j_2 rfl rfl) (dq_at (j := 2) dk_29j_2 rfl rfl) rfl
theorem dL_law_2930 : decode cL_law 2930 = .ok (.ifCond .ne 23, 3) := dq_op154 (dq_at (j := 3) dk_29j_2 rfl rfl) (dq_at (j := 4) dk_29j_2 rfl rfl) (dq_at (j := 5) dk_29j_2 rfl rfl) (by decide +kernel)
theorem dL_law_2933 : decode cL_law 2933 = .ok (.aload_n 3, 1) := dq_op45 (dq_at (j := 6) dk_29j_2 rfl rfl)
theorem dL_law_2934 : decode cL_law 2934 = .ok (.getfield 13, 3) := dq_op180 (dq_at (j := 7) dk_29j_2 rfl rfl) (dq_at (j := 8) dk_29j_2 rfl rfl) (dq_at (j := 9) dk_29j_2 rfl rfl) rfl
theorem dL_law_2937 : decode cL_law 2937 = .ok (.iload 6, 2) := dq_op21 (dq_at (j := 10) dk_29j_2 rfl rfl) (dq_at (j := 11) dk_29j_2 rfl rfl) rfl
theorem dL_law_2939 : decode cL_law 2939 = .ok (.ifCond .eq 7, 3) := dq_op153 (dq_at (j := 12) dk_29j_2 rfl rfl) (dq_at (j := 13) dk_29j_2 rfl rfl) (dq_at (j := 14) dk_29j_2 rfl rfl) (by decide +kernel)
theorem dL_law_2942 : decode cL_law 2942 = .ok (.lconst 1, 1) := dq_op10 (dq_at (j := 15) dk_29j_2 rfl rfl)
theorem dL_law_2943 : decode cL_law 2943 = .ok (.goto 4, 3) := dq_op167 (dq_at (j := 16) dk_29j_2 rfl rfl) (dq_at (j := 17) dk_29j_2 rfl rfl) (dq_at (j := 18) dk_29j_2 rfl rfl) (by decide +kernel)
theorem dL_law_2946 : decode cL_law 2946 = .ok (.lconst 0, 1) := dq_op9 (dq_at (j := 19) dk_29j_2 rfl rfl)
theorem dL_law_2947 : decode cL_law 2947 = .ok (.lcmp, 1) := dq_op148 (dq_at (j := 20) dk_29j_2 rfl rfl)
theorem dL_law_2948 : decode cL_law 2948 = .ok (.ifCond .eq 5, 3) := dq_op153 (dq_at (j := 21) dk_29j_2 rfl rfl) (dq_at (j := 22) dk_29j_2 rfl rfl) (dq_at (j := 23) dk_29j_2 rfl rfl) (by decide +kernel)
theorem dL_law_2951 : decode cL_law 2951 = .ok (.iconst 0, 1) := dq_op3 (dq_at (j := 24) dk_29j_2 rfl rfl)
theorem dL_law_2952 : decode cL_law 2952 = .ok (.ireturn, 1) := dq_op172 (dq_at (j := 25) dk_29j_2 rfl rfl)
theorem dL_law_2953 : decode cL_law 2953 = .ok (.goto 707, 3) := dq_op167 (dq_at (j := 26) dk_29j_2 rfl rfl) (dq_at (j := 27) dk_29j_2 rfl rfl) (dq_at (j := 28) dk_29j_2 rfl rfl) (by decide +kernel)
theorem dL_law_2956 : decode cL_law 2956 = .ok (.aload_n 1, 1) := dq_op43 (dq_at (j := 29) dk_29j_2 rfl rfl)
theorem dL_law_2957 : decode cL_law 2957 = .ok (.aload_n 0, 1) := dq_op42 (dq_at (j := 30) dk_29j_2 rfl rfl)
theorem dL_law_2958 : decode cL_law 2958 = .ok (.iload 4, 2) := dq_op21 (dq_at (j := 31) dk_29j_2 rfl rfl) (dq_at (j := 32) dk_29j_2 rfl rfl) rfl
theorem dL_law_2960 : decode cL_law 2960 = .ok (.iconst 1, 1) := dq_op4 (dq_at (j := 33) dk_29j_2 rfl rfl)
theorem dL_law_2961 : decode cL_law 2961 = .ok (.iadd, 1) := dq_op96 (dq_at (j := 34) dk_29j_2 rfl rfl)
theorem dL_law_2962 : decode cL_law 2962 = .ok (.iaload, 1) := dq_op46 (dq_at (j := 35) dk_29j_2 rfl rfl)
theorem dL_law_2963 : decode cL_law 2963 = .ok (.aload_n 0, 1) := dq_op42 (dq_at (j := 36) dk_29j_2 rfl rfl)
theorem dL_law_2964 : decode cL_law 2964 = .ok (.iload 4, 2) := dq_op21 (dq_at (j := 37) dk_29j_2 rfl rfl) (dq_at (j := 38) dk_29j_2 rfl rfl) rfl
theorem dL_law_2966 : decode cL_law 2966 = .ok (.iconst 2, 1) := dq_op5 (dq_at (j := 39) dk_29j_2 rfl rfl)
theorem dL_law_2967 : decode cL_law 2967 = .ok (.iadd, 1) := dq_op96 (dq_at (j := 40) dk_29j_2 rfl rfl)
theorem dL_law_2968 : decode cL_law 2968 = .ok (.iaload, 1) := dq_op46 (dq_at (j := 41) dk_29j_2 rfl rfl)
theorem dL_law_2969 : decode cL_law 2969 = .ok (.aload_n 3, 1) := dq_op45 (dq_at (j := 42) dk_29j_2 rfl rfl)
theorem dL_law_2970 : decode cL_law 2970 = .ok (.invokestatic 305, 3) := dq_op184 (dq_at (j := 43) dk_29j_2 rfl rfl) (dq_at (j := 44) dk_29j_2 rfl rfl) (dq_at (j := 45) dk_29j_2 rfl rfl) rfl
theorem dL_law_2973 : decode cL_law 2973 = .ok (.istore 5, 2) := dq_op54 (dq_at (j := 46) dk_29j_2 rfl rfl) (dq_at (j := 47) dk_29j_2 rfl rfl) rfl
theorem dL_law_2975 : decode cL_law 2975 = .ok (.aload_n 2, 1) := dq_op44 (dq_at (j := 48) dk_29j_2 rfl rfl)
theorem dL_law_2976 : decode cL_law 2976 = .ok (.aload_n 0, 1) := dq_op42 (dq_at (j := 49) dk_29j_2 rfl rfl)
theorem dL_law_2977 : decode cL_law 2977 = .ok (.iload 4, 2) := dq_op21 (dq_at (j := 50) dk_29j_2 rfl rfl) (dq_at (j := 51) dk_29j_2 rfl rfl) rfl
theorem dL_law_2979 : decode cL_law 2979 = .ok (.iconst 1, 1) := dq_op4 (dq_at (j := 52) dk_29j_2 rfl rfl)
theorem dL_law_2980 : decode cL_law 2980 = .ok (.iadd, 1) := dq_op96 (dq_at (j := 53) dk_29j_2 rfl rfl)
theorem dL_law_2981 : decode cL_law 2981 = .ok (.iaload, 1) := dq_op46 (dq_at (j := 54) dk_29j_2 rfl rfl)
theorem dL_law_2982 : decode cL_law 2982 = .ok (.aload_n 0, 1) := dq_op42 (dq_at (j := 55) dk_29j_2 rfl rfl)
theorem dL_law_2983 : decode cL_law 2983 = .ok (.iload 4, 2) := dq_op21 (dq_at (j := 56) dk_29j_2 rfl rfl) (dq_at (j := 57) dk_29j_2 rfl rfl) rfl
theorem dL_law_2985 : decode cL_law 2985 = .ok (.iconst 2, 1) := dq_op5 (dq_at (j := 58) dk_29j_2 rfl rfl)
theorem dL_law_2986 : decode cL_law 2986 = .ok (.iadd, 1) := dq_op96 (dq_at (j := 59) dk_29j_2 rfl rfl)
theorem dL_law_2987 : decode cL_law 2987 = .ok (.iaload, 1) := dq_op46 (dq_at (j := 60) dk_29j_2 rfl rfl)
theorem dL_law_2988 : decode cL_law 2988 = .ok (.invokevirtual 307, 3) := dq_op182 (dq_at (j := 61) dk_29j_2 rfl rfl) (dq_at (j := 62) dk_29j_2 rfl rfl) (dq_at (j := 63) dk_29j_2 rfl rfl) rfl
theorem dL_law_2991 : decode cL_law 2991 = .ok (.istore 6, 2) := dq_op54 (dq_at (j := 64) dk_29j_2 rfl rfl) (dq_at (j := 65) dk_29j_2 rfl rfl) rfl
theorem dL_law_2993 : decode cL_law 2993 = .ok (.aload_n 2, 1) := dq_op44 (dq_at (j := 66) dk_29j_2 rfl rfl)
theorem dL_law_2994 : decode cL_law 2994 = .ok (.invokevirtual 182, 3) := dq_op182 (dq_at (j := 67) dk_29j_2 rfl rfl) (dq_at (j := 68) dk_29j_2 rfl rfl) (dq_at (j := 69) dk_29j_2 rfl rfl) rfl
theorem dL_law_2997 : decode cL_law 2997 = .ok (.iload 5, 2) := dq_op21 (dq_at (j := 70) dk_29j_2 rfl rfl) (dq_at (j := 71) dk_29j_2 rfl rfl) rfl
theorem dL_law_2999 : decode cL_law 2999 = .ok (.if_icmp .eq 5, 3) := dq_op159 (dq_at (j := 72) dk_29j_2 rfl rfl) (dq_at (j := 73) dk_29j_2 rfl rfl) (dq_at (j := 74) dk_29j_2 rfl rfl) (by decide +kernel)
theorem dL_law_3002 : decode cL_law 3002 = .ok (.iconst 0, 1) := dq_op3 (dq_at (j := 75) dk_29j_2 rfl rfl)
theorem dL_law_3003 : decode cL_law 3003 = .ok (.ireturn, 1) := dq_op172 (dq_at (j := 76) dk_29j_2 rfl rfl)
theorem dL_law_3004 : decode cL_law 3004 = .ok (.iload 5, 2) := dq_op21 (dq_at (j := 77) dk_29j_2 rfl rfl) (dq_at (j := 78) dk_29j_2 rfl rfl) rfl
theorem dL_law_3006 : decode cL_law 3006 = .ok (.ifCond .ne 23, 3) := dq_op154 (dq_at (j := 79) dk_29j_2 rfl rfl) (dq_at (j := 80) dk_29j_2 rfl rfl) (dq_at (j := 81) dk_29j_2 rfl rfl) (by decide +kernel)
theorem dL_law_3009 : decode cL_law 3009 = .ok (.aload_n 3, 1) := dq_op45 (dq_at (j := 82) dk_29j_2 rfl rfl)
theorem dL_law_3010 : decode cL_law 3010 = .ok (.getfield 13, 3) := dq_op180 (dq_at (j := 83) dk_29j_2 rfl rfl) (dq_at (j := 84) dk_29j_2 rfl rfl) (dq_at (j := 85) dk_29j_2 rfl rfl) rfl
theorem dL_law_3013 : decode cL_law 3013 = .ok (.iload 6, 2) := dq_op21 (dq_at (j := 86) dk_29j_2 rfl rfl) (dq_at (j := 87) dk_29j_2 rfl rfl) rfl
theorem dL_law_3015 : decode cL_law 3015 = .ok (.ifCond .eq 7, 3) := dq_op153 (dq_at (j := 88) dk_29j_2 rfl rfl) (dq_at (j := 89) dk_29j_2 rfl rfl) (dq_at (j := 90) dk_29j_2 rfl rfl) (by decide +kernel)
theorem dL_law_3018 : decode cL_law 3018 = .ok (.lconst 1, 1) := dq_op10 (dq_at (j := 91) dk_29j_2 rfl rfl)
theorem dL_law_3019 : decode cL_law 3019 = .ok (.goto 4, 3) := dq_op167 (dq_at (j := 92) dk_29j_2 rfl rfl) (dq_at (j := 93) dk_29j_2 rfl rfl) (dq_at (j := 94) dk_29j_2 rfl rfl) (by decide +kernel)
theorem dL_law_3022 : decode cL_law 3022 = .ok (.lconst 0, 1) := dq_op9 (dq_at (j := 95) dk_29j_2 rfl rfl)
theorem dL_law_3023 : decode cL_law 3023 = .ok (.lcmp, 1) := dq_op148 (dq_at (j := 96) dk_29j_2 rfl rfl)
theorem dL_law_3024 : decode cL_law 3024 = .ok (.ifCond .eq 5, 3) := dq_op153 (dq_at (j := 97) dk_29j_2 rfl rfl) (dq_at (j := 98) dk_29j_2 rfl rfl) (dq_at (j := 99) dk_29j_2 rfl rfl) (by decide +kernel)
theorem dL_law_3027 : decode cL_law 3027 = .ok (.iconst 0, 1) := dq_op3 (dq_at (j := 100) dk_29j_2 rfl rfl)
theorem dL_law_3028 : decode cL_law 3028 = .ok (.ireturn, 1) := dq_op172 (dq_at (j := 101) dk_29j_2 rfl rfl)
theorem dL_law_3029 : decode cL_law 3029 = .ok (.goto 631, 3) := dq_op167 (dq_at (j := 102) dk_29j_2 rfl rfl) (dq_at (j := 103) dk_29j_2 rfl rfl) (dq_at (j := 104) dk_29j_2 rfl rfl) (by decide +kernel)
theorem dL_law_3032 : decode cL_law 3032 = .ok (.aload_n 1, 1) := dq_op43 (dq_at (j := 105) dk_29j_2 rfl rfl)
theorem dL_law_3033 : decode cL_law 3033 = .ok (.aload_n 0, 1) := dq_op42 (dq_at (j := 106) dk_29j_2 rfl rfl)
theorem dL_law_3034 : decode cL_law 3034 = .ok (.iload 4, 2) := dq_op21 (dq_at (j := 107) dk_29j_2 rfl rfl) (dq_at (j := 108) dk_29j_2 rfl rfl) rfl
theorem dL_law_3036 : decode cL_law 3036 = .ok (.iconst 1, 1) := dq_op4 (dq_at (j := 109) dk_29j_2 rfl rfl)
theorem dL_law_3037 : decode cL_law 3037 = .ok (.iadd, 1) := dq_op96 (dq_at (j := 110) dk_29j_2 rfl rfl)
theorem dL_law_3038 : decode cL_law 3038 = .ok (.iaload, 1) := dq_op46 (dq_at (j := 111) dk_29j_2 rfl rfl)
theorem dL_law_3039 : decode cL_law 3039 = .ok (.aload_n 0, 1) := dq_op42 (dq_at (j := 112) dk_29j_2 rfl rfl)
theorem dL_law_3040 : decode cL_law 3040 = .ok (.iload 4, 2) := dq_op21 (dq_at (j := 113) dk_29j_2 rfl rfl) (dq_at (j := 114) dk_29j_2 rfl rfl) rfl
theorem dL_law_3042 : decode cL_law 3042 = .ok (.iconst 2, 1) := dq_op5 (dq_at (j := 115) dk_29j_2 rfl rfl)
theorem dL_law_3043 : decode cL_law 3043 = .ok (.iadd, 1) := dq_op96 (dq_at (j := 116) dk_29j_2 rfl rfl)
theorem dL_law_3044 : decode cL_law 3044 = .ok (.iaload, 1) := dq_op46 (dq_at (j := 117) dk_29j_2 rfl rfl)
theorem dL_law_3045 : decode cL_law 3045 = .ok (.aload_n 3, 1) := dq_op45 (dq_at (j := 118) dk_29j_2 rfl rfl)
theorem dL_law_3046 : decode cL_law 3046 = .ok (.invokestatic 308, 3) := dq_op184 (dq_at (j := 119) dk_29j_2 rfl rfl) (dq_at (j := 120) dk_29j_2 rfl rfl) (dq_at (j := 121) dk_29j_2 rfl rfl) rfl
theorem dL_law_3049 : decode cL_law 3049 = .ok (.istore 5, 2) := dq_op54 (dq_at (j := 122) dk_29j_2 rfl rfl) (dq_at (j := 123) dk_29j_2 rfl rfl) rfl
theorem dL_law_3051 : decode cL_law 3051 = .ok (.aload_n 2, 1) := dq_op44 (dq_at (j := 124) dk_29j_2 rfl rfl)
theorem dL_law_3052 : decode cL_law 3052 = .ok (.aload_n 0, 1) := dq_op42 (dq_at (j := 125) dk_29j_2 rfl rfl)
theorem dL_law_3053 : decode cL_law 3053 = .ok (.iload 4, 2) := dq_op21 (dq_at (j := 126) dk_29j_2 rfl rfl) (dq_at (j := 127) dk_29j_2 rfl rfl) rfl
theorem dL_law_3055 : decode cL_law 3055 = .ok (.iconst 1, 1) := dq_op4 (dq_at (j := 128) dk_29j_2 rfl rfl)
noncomputable def dq_end_29j : Nat := 0
