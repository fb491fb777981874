theorem dk_29c_1 : (cL_law.data.toList.drop 733).take 147 = [43, 42, 21, 4, 4, 96, 46, 45, 184, 0, 216, 54, 5, 44, 42, 21, 4, 4, 96, 46, 182, 0, 218, 54, 6, 167, 5, 230, 43, 42, 21, 4, 4, 96, 46, 45, 184, 0, 219, 54, 5, 44, 42, 21, 4, 4, 96, 46, 182, 0, 221, 54, 6, 167, 5, 202, 43, 42, 21, 4, 4, 96, 46, 45, 184, 0, 222, 54, 5, 44, 42, 21, 4, 4, 96, 46, 182, 0, 224, 58, 6, 167, 5, 174, 43, 42, 21, 4, 4, 96, 46, 42, 21, 4, 5, 96, 46, 42, 21, 4, 6, 96, 46, 45, 184, 0, 225, 54, 5, 44, 42, 21, 4, 4, 96, 46, 42, 21, 4, 5, 96, 46, 42, 21, 4, 6, 96, 46, 182, 0, 227, 54, 6, 167, 5, 122, 43, 42, 21, 4, 4, 96, 46, 42, 21, 4, 5] := by decide +kernel
theorem dL_law_733 : decode cL_law 733 = .ok (.aload_n 1, 1) := dq_op43 (dq_at (j := 0) dk_29c_1 rfl rfl)
theorem dL_law_734 : decode cL_law 734 = .ok (.aload_n 0, 1) := dq_op42 (dq_at (j := 1) dk_29c_1 rfl rfl)
theorem dL_law_735 : decode cL_law 735 = .ok (.iload 4, 2) := dq_op21 (dq_at (j := 2) dk_29c_1 rfl rfl) (dq_at (j := 3) dk_29c_1 rfl rfl) rfl
theorem dL_law_737 : decode cL_law 737 = .ok (.iconst 1, 1) := dq_op4 (dq_at (j := 4) dk_29c_1 rfl rfl)
theorem dL_law_738 : decode cL_law 738 = .ok (.iadd, 1) := dq_op96 (dq_at (j := 5) dk_29c_1 rfl rfl)
theorem dL_law_739 : decode cL_law 739 = .ok (.iaload, 1) := dq_op46 (dq_at (j := 6) dk_29c_1 rfl rfl)
theorem dL_law_740 : decode cL_law 740 = .ok (.aload_n 3, 1) := dq_op45 (dq_at (j := 7) dk_29c_1 rfl rfl)
theorem dL_law_741 : decode cL_law 741 = .ok (.invokestatic 216, 3) := dq_op184 (dq_at (j := 8) dk_29c_1 rfl rfl) (dq_at (j := 9) dk_29c_1 rfl rfl) (dq_at (j := 10) dk_29c_1 rfl rfl) rfl
theorem dL_law_744 : decode cL_law 744 = .ok (.istore 5, 2) := dq_op54 (dq_at (j := 11) dk_29c_1 rfl rfl) (dq_at (j := 12) dk_29c_1 rfl rfl) rfl
theorem dL_law_746 : decode cL_law 746 = .ok (.aload_n 2, 1) := dq_op44 (dq_at (j := 13) dk_29c_1 rfl rfl)
theorem dL_law_747 : decode cL_law 747 = .ok (.aload_n 0, 1) := dq_op42 (dq_at (j := 14) dk_29c_1 rfl rfl)
theorem dL_law_748 : decode cL_law 748 = .ok (.iload 4, 2) := dq_op21 (dq_at (j := 15) dk_29c_1 rfl rfl) (dq_at (j := 16) dk_29c_1 rfl rfl) rfl
theorem dL_law_750 : decode cL_law 750 = .ok (.iconst 1, 1) := dq_op4 (dq_at (j := 17) dk_29c_1 rfl rfl)
theorem dL_law_751 : decode cL_law 751 = .ok (.iadd, 1) := dq_op96 (dq_at (j := 18) dk_29c_1 rfl rfl)
theorem dL_law_752 : decode cL_law 752 = .ok (.iaload, 1) := dq_op46 (dq_at (j := 19) dk_29c_1 rfl rfl)
theorem dL_law_753 : decode cL_law 753 = .ok (.invokevirtual 218, 3) := dq_op182 (dq_at (j := 20) dk_29c_1 rfl rfl) (dq_at (j := 21) dk_29c_1 rfl rfl) (dq_at (j := 22) dk_29c_1 rfl rfl) rfl
theorem dL_law_756 : decode cL_law 756 = .ok (.istore 6, 2) := dq_op54 (dq_at (j := 23) dk_29c_1 rfl rfl) (dq_at (j := 24) dk_29c_1 rfl rfl) rfl
theorem dL_law_758 : decode cL_law 758 = .ok (.goto 1510, 3) := dq_op167 (dq_at (j := 25) dk_29c_1 rfl rfl) (dq_at (j := 26) dk_29c_1 rfl rfl) (dq_at (j := 27) dk_29c_1 rfl rfl) (by decide +kernel)
theorem dL_law_761 : decode cL_law 761 = .ok (.aload_n 1, 1) := dq_op43 (dq_at (j := 28) dk_29c_1 rfl rfl)
theorem dL_law_762 : decode cL_law 762 = .ok (.aload_n 0, 1) := dq_op42 (dq_at (j := 29) dk_29c_1 rfl rfl)
theorem dL_law_763 : decode cL_law 763 = .ok (.iload 4, 2) := dq_op21 (dq_at (j := 30) dk_29c_1 rfl rfl) (dq_at (j := 31) dk_29c_1 rfl rfl) rfl
theorem dL_law_765 : decode cL_law 765 = .ok (.iconst 1, 1) := dq_op4 (dq_at (j := 32) dk_29c_1 rfl rfl)
theorem dL_law_766 : decode cL_law 766 = .ok (.iadd, 1) := dq_op96 (dq_at (j := 33) dk_29c_1 rfl rfl)
theorem dL_law_767 : decode cL_law 767 = .ok (.iaload, 1) := dq_op46 (dq_at (j := 34) dk_29c_1 rfl rfl)
theorem dL_law_768 : decode cL_law 768 = .ok (.aload_n 3, 1) := dq_op45 (dq_at (j := 35) dk_29c_1 rfl rfl)
theorem dL_law_769 : decode cL_law 769 = .ok (.invokestatic 219, 3) := dq_op184 (dq_at (j := 36) dk_29c_1 rfl rfl) (dq_at (j := 37) dk_29c_1 rfl rfl) (dq_at (j := 38) dk_29c_1 rfl rfl) rfl
theorem dL_law_772 : decode cL_law 772 = .ok (.istore 5, 2) := dq_op54 (dq_at (j := 39) dk_29c_1 rfl rfl) (dq_at (j := 40) dk_29c_1 rfl rfl) rfl
theorem dL_law_774 : decode cL_law 774 = .ok (.aload_n 2, 1) := dq_op44 (dq_at (j := 41) dk_29c_1 rfl rfl)
theorem dL_law_775 : decode cL_law 775 = .ok (.aload_n 0, 1) := dq_op42 (dq_at (j := 42) dk_29c_1 rfl rfl)
theorem dL_law_776 : decode cL_law 776 = .ok (.iload 4, 2) := dq_op21 (dq_at (j := 43) dk_29c_1 rfl rfl) (dq_at (j := 44) dk_29c_1 rfl rfl) rfl
theorem dL_law_778 : decode cL_law 778 = .ok (.iconst 1, 1) := dq_op4 (dq_at (j := 45) dk_29c_1 rfl rfl)
theorem dL_law_779 : decode cL_law 779 = .ok (.iadd, 1) := dq_op96 (dq_at (j := 46) dk_29c_1 rfl rfl)
theorem dL_law_780 : decode cL_law 780 = .ok (.iaload, 1) := dq_op46 (dq_at (j := 47) dk_29c_1 rfl rfl)
theorem dL_law_781 : decode cL_law 781 = .ok (.invokevirtual 221, 3) := dq_op182 (dq_at (j := 48) dk_29c_1 rfl rfl) (dq_at (j := 49) dk_29c_1 rfl rfl) (dq_at (j := 50) dk_29c_1 rfl rfl) rfl
theorem dL_law_784 : decode cL_law 784 = .ok (.istore 6, 2) := dq_op54 (dq_at (j := 51) dk_29c_1 rfl rfl) (dq_at (j := 52) dk_29c_1 rfl rfl) rfl
theorem dL_law_786 : decode cL_law 786 = .ok (.goto 1482, 3) := dq_op167 (dq_at (j := 53) dk_29c_1 rfl rfl) (dq_at (j := 54) dk_29c_1 rfl rfl) (dq_at (j := 55) dk_29c_1 rfl rfl) (by decide +kernel)
theorem dL_law_789 : decode cL_law 789 = .ok (.aload_n 1, 1) := dq_op43 (dq_at (j := 56) dk_29c_1 rfl rfl)
theorem dL_law_790 : decode cL_law 790 = .ok (.aload_n 0, 1) := dq_op42 (dq_at (j := 57) dk_29c_1 rfl rfl)
theorem dL_law_791 : decode cL_law 791 = .ok (.iload 4, 2) := dq_op21 (dq_at (j := 58) dk_29c_1 rfl rfl) (dq_at (j := 59) dk_29c_1 rfl rfl) rfl
theorem dL_law_793 : decode cL_law 793 = .ok (.iconst 1, 1) := dq_op4 (dq_at (j := 60) dk_29c_1 rfl rfl)
theorem dL_law_794 : decode cL_law 794 = .ok (.iadd, 1) := dq_op96 (dq_at (j := 61) dk_29c_1 rfl rfl)
theorem dL_law_795 : decode cL_law 795 = .ok (.iaload, 1) := dq_op46 (dq_at (j := 62) dk_29c_1 rfl rfl)
theorem dL_law_796 : decode cL_law 796 = .ok (.aload_n 3, 1) := dq_op45 (dq_at (j := 63) dk_29c_1 rfl rfl)
theorem dL_law_797 : decode cL_law 797 = .ok (.invokestatic 222, 3) := dq_op184 (dq_at (j := 64) dk_29c_1 rfl rfl) (dq_at (j := 65) dk_29c_1 rfl rfl) (dq_at (j := 66) dk_29c_1 rfl rfl) rfl
theorem dL_law_800 : decode cL_law 800 = .ok (.istore 5, 2) := dq_op54 (dq_at (j := 67) dk_29c_1 rfl rfl) (dq_at (j := 68) dk_29c_1 rfl rfl) rfl
theorem dL_law_802 : decode cL_law 802 = .ok (.aload_n 2, 1) := dq_op44 (dq_at (j := 69) dk_29c_1 rfl rfl)
theorem dL_law_803 : decode cL_law 803 = .ok (.aload_n 0, 1) := dq_op42 (dq_at (j := 70) dk_29c_1 rfl rfl)
theorem dL_law_804 : decode cL_law 804 = .ok (.iload 4, 2) := dq_op21 (dq_at (j := 71) dk_29c_1 rfl rfl) (dq_at (j := 72) dk_29c_1 rfl rfl) rfl
theorem dL_law_806 : decode cL_law 806 = .ok (.iconst 1, 1) := dq_op4 (dq_at (j := 73) dk_29c_1 rfl rfl)
theorem dL_law_807 : decode cL_law 807 = .ok (.iadd, 1) := dq_op96 (dq_at (j := 74) dk_29c_1 rfl rfl)
theorem dL_law_808 : decode cL_law 808 = .ok (.iaload, 1) := dq_op46 (dq_at (j := 75) dk_29c_1 rfl rfl)
theorem dL_law_809 : decode cL_law 809 = .ok (.invokevirtual 224, 3) := dq_op182 (dq_at (j := 76) dk_29c_1 rfl rfl) (dq_at (j := 77) dk_29c_1 rfl rfl) (dq_at (j := 78) dk_29c_1 rfl rfl) rfl
theorem dL_law_812 : decode cL_law 812 = .ok (.astore 6, 2) := dq_op58 (dq_at (j := 79) dk_29c_1 rfl rfl) (dq_at (j := 80) dk_29c_1 rfl rfl) rfl
theorem dL_law_814 : decode cL_law 814 = .ok (.goto 1454, 3) := dq_op167 (dq_at (j := 81) dk_29c_1 rfl rfl) (dq_at (j := 82) dk_29c_1 rfl rfl) (dq_at (j := 83) dk_29c_1 rfl rfl) (by decide +kernel)
theorem dL_law_817 : decode cL_law 817 = .ok (.aload_n 1, 1) := dq_op43 (dq_at (j := 84) dk_29c_1 rfl rfl)
theorem dL_law_818 : decode cL_law 818 = .ok (.aload_n 0, 1) := dq_op42 (dq_at (j := 85) dk_29c_1 rfl rfl)
theorem dL_law_819 : decode cL_law 819 = .ok (.iload 4, 2) := dq_op21 (dq_at (j := 86) dk_29c_1 rfl rfl) (dq_at (j := 87) dk_29c_1 rfl rfl) rfl
theorem dL_law_821 : decode cL_law 821 = .ok (.iconst 1, 1) := dq_op4 (dq_at (j := 88) dk_29c_1 rfl rfl)
theorem dL_law_822 : decode cL_law 822 = .ok (.iadd, 1) := dq_op96 (dq_at (j := 89) dk_29c_1 rfl rfl)
theorem dL_law_823 : decode cL_law 823 = .ok (.iaload, 1) := dq_op46 (dq_at (j := 90) dk_29c_1 rfl rfl)
theorem dL_law_824 : decode cL_law 824 = .ok (.aload_n 0, 1) := dq_op42 (dq_at (j := 91) dk_29c_1 rfl rfl)
theorem dL_law_825 : decode cL_law 825 = .ok (.iload 4, 2) := dq_op21 (dq_at (j := 92) dk_29c_1 rfl rfl) (dq_at (j := 93) dk_29c_1 rfl rfl) rfl
theorem dL_law_827 : decode cL_law 827 = .ok (.iconst 2, 1) := dq_op5 (dq_at (j := 94) dk_29c_1 rfl rfl)
theorem dL_law_828 : decode cL_law 828 = .ok (.iadd, 1) := dq_op96 (dq_at (j := 95) dk_29c_1 rfl rfl)
theorem dL_law_829 : decode cL_law 829 = .ok (.iaload, 1) := dq_op46 (dq_at (j := 96) dk_29c_1 rfl rfl)
theorem dL_law_830 : decode cL_law 830 = .ok (.aload_n 0, 1) := dq_op42 (dq_at (j := 97) dk_29c_1 rfl rfl)
theorem dL_law_831 : decode cL_law 831 = .ok (.iload 4, 2) := dq_op21 (dq_at (j := 98) dk_29c_1 rfl rfl) (dq_at (j := 99) dk_29c_1 rfl rfl) rfl
theorem dL_law_833 : decode cL_law 833 = .ok (.iconst 3, 1) := dq_op6 (dq_at (j := 100) dk_29c_1 rfl rfl)
theorem dL_law_834 : decode cL_law 834 = .ok (.iadd, 1) := dq_op96 (dq_at (j := 101) dk_29c_1 rfl rfl)
theorem dL_law_835 : decode cL_law 835 = .ok (.iaload, 1) := dq_op46 (dq_at (j := 102) dk_29c_1 rfl rfl)
theorem dL_law_836 : decode cL_law 836 = .ok (.aload_n 3, 1) := dq_op45 (dq_at (j := 103) dk_29c_1 rfl rfl)
theorem dL_law_837 : decode cL_law 837 = .ok (.invokestatic 225, 3) := dq_op184 (dq_at (j := 104) dk_29c_1 rfl rfl) (dq_at (j := 105) dk_29c_1 rfl rfl) (dq_at (j := 106) dk_29c_1 rfl rfl) rfl
theorem dL_law_840 : decode cL_law 840 = .ok (.istore 5, 2) := dq_op54 (dq_at (j := 107) dk_29c_1 rfl rfl) (dq_at (j := 108) dk_29c_1 rfl rfl) rfl
theorem dL_law_842 : decode cL_law 842 = .ok (.aload_n 2, 1) := dq_op44 (dq_at (j := 109) dk_29c_1 rfl rfl)
theorem dL_law_843 : decode cL_law 843 = .ok (.aload_n 0, 1) := dq_op42 (dq_at (j := 110) dk_29c_1 rfl rfl)
theorem dL_law_844 : decode cL_law 844 = .ok (.iload 4, 2) := dq_op21 (dq_at (j := 111) dk_29c_1 rfl rfl) (dq_at (j := 112) dk_29c_1 rfl rfl) rfl
theorem dL_law_846 : decode cL_law 846 = .ok (.iconst 1, 1) := dq_op4 (dq_at (j := 113) dk_29c_1 rfl rfl)
theorem dL_law_847 : decode cL_law 847 = .ok (.iadd, 1) := dq_op96 (dq_at (j := 114) dk_29c_1 rfl rfl)
theorem dL_law_848 : decode cL_law 848 = .ok (.iaload, 1) := dq_op46 (dq_at (j := 115) dk_29c_1 rfl rfl)
theorem dL_law_849 : decode cL_law 849 = .ok (.aload_n 0, 1) := dq_op42 (dq_at (j := 116) dk_29c_1 rfl rfl)
theorem dL_law_850 : decode cL_law 850 = .ok (.iload 4, 2) := dq_op21 (dq_at (j := 117) dk_29c_1 rfl rfl) (dq_at (j := 118) dk_29c_1 rfl rfl) rfl
theorem dL_law_852 : decode cL_law 852 = .ok (.iconst 2, 1) := dq_op5 (dq_at (j := 119) dk_29c_1 rfl rfl)
theorem dL_law_853 : decode cL_law 853 = .ok (.iadd, 1) := dq_op96 (dq_at (j := 120) dk_29c_1 rfl rfl)
theorem dL_law_854 : decode cL_law 854 = .ok (.iaload, 1) := dq_op46 (dq_at (j := 121) dk_29c_1 rfl rfl)
theorem dL_law_855 : decode cL_law 855 = .ok (.aload_n 0, 1) := dq_op42 (dq_at (j := 122) dk_29c_1 rfl rfl)
theorem dL_law_856 : decode cL_law 856 = .ok (.iload 4, 2) := dq_op21 (dq_at (j := 123) dk_29c_1 rfl rfl) (dq_at (j := 124) dk_29c_1 rfl rfl) rfl
theorem dL_law_858 : decode cL_law 858 = .ok (.iconst 3, 1) := dq_op6 (dq_at (j := 125) dk_29c_1 rfl rfl)
theorem dL_law_859 : decode cL_law 859 = .ok (.iadd, 1) := dq_op96 (dq_at (j := 126) dk_29c_1 rfl rfl)
theorem dL_law_860 : decode cL_law 860 = .ok (.iaload, 1) := dq_op46 (dq_at (j := 127) dk_29c_1 rfl rfl)
theorem dL_law_861 : decode cL_law 861 = .ok (.invokevirtual 227, 3) := dq_op182 (dq_at (j := 128) dk_29c_1 rfl rfl) (dq_at (j := 129) dk_29c_1 rfl rfl) (dq_at (j := 130) dk_29c_1 rfl rfl) rfl
theorem dL_law_864 : decode cL_law 864 = .ok (.istore 6, 2) := dq_op54 (dq_at (j := 131) dk_29c_1 rfl rfl) (dq_at (j := 132) dk_29c_1 rfl rfl) rfl
theorem dL_law_866 : decode cL_law 866 = .ok (.goto 1402, 3) := dq_op167 (dq_at (j := 133) dk_29c_1 rfl rfl) (dq_at (j := 134) dk_29c_1 rfl rfl) (dq_at (j := 135) dk_29c_1 rfl rfl) (by decide +kernel)
theorem dL_law_869 : decode cL_law 869 = .ok (.aload_n 1, 1) := dq_op43 (dq_at (j := 136) dk_29c_1 rfl rfl)
theorem dL_law_870 : decode cL_law 870 = .ok (.aload_n 0, 1) := dq_op42 (dq_at (j := 137) dk_29c_1 rfl rfl)
theorem dL_law_871 : decode cL_law 871 = .ok (.iload 4, 2) := dq_op21 (dq_at (j := 138) dk_29c_1 rfl rfl) (dq_at (j := 139) dk_29c_1 rfl rfl) rfl
theorem dL_law_873 : decode cL_law 873 = .ok (.iconst 1, 1) := dq_op4 (dq_at (j := 140) dk_29c_1 rfl rfl)
theorem dL_law_874 : decode cL_law 874 = .ok (.iadd, 1) := dq_op96 (dq_at (j := 141) dk_29c_1 rfl rfl)
theorem dL_law_875 : decode cL_law 875 = .ok (.iaload, 1) := dq_op46 (dq_at (j := 142) dk_29c_1 rfl rfl)
theorem dL_law_876 : decode cL_law 876 = .ok (.aload_n 0, 1) := dq_op42 (dq_at (j := 143) dk_29c_1 rfl rfl)
theorem dL_law_877 : decode cL_law 877 = .ok (.iload 4, 2) := dq_op21 (dq_at (j := 144) dk_29c_1 rfl rfl) (dq_at (j := 145) dk_29c_1 rfl rfl) rfl
theorem dk_29c_2 : (cL_law.data.toList.drop 879).take 112 = [5, 96, 46, 42, 21, 4, 6, 96, 46, 45, 184, 0, 228, 54, 5, 44, 42, 21, 4, 4, 96, 46, 42, 21, 4, 5, 96, 46, 42, 21, 4, 6, 96, 46, 182, 0, 230, 54, 6, 167, 5, 70, 43, 42, 21, 4, 4, 96, 46, 42, 21, 4, 5, 96, 46, 45, 184, 0, 231, 54, 5, 44, 42, 21, 4, 4, 96, 46, 42, 21, 4, 5, 96, 46, 182, 0, 233, 54, 6, 167, 5, 30, 43, 42, 21, 4, 4, 96, 46, 42, 21, 4, 5, 96, 46, 45, 184, 0, 234, 54, 5, 44, 42, 21, 4, 4, 96, 46, 42, 21, 4, 5] := by decide +kernel
theorem dL_law_879 : decode cL_law 879 = .ok (.iconst 2, 1) := dq_op5 (dq_at (j := 0) dk_29c_2 rfl rfl)
theorem dL_law_880 : decode cL_law 880 = .ok (.iadd, 1) := dq_op96 (dq_at (j := 1) dk_29c_2 rfl rfl)
theorem dL_law_881 : decode cL_law 881 = .ok (.iaload, 1) := dq_op46 (dq_at (j := 2) dk_29c_2 rfl rfl)
theorem dL_law_882 : decode cL_law 882 = .ok (.aload_n 0, 1) := dq_op42 (dq_at (j := 3) dk_29c_2 rfl rfl)
theorem dL_law_883 : decode cL_law 883 = .ok (.iload 4, 2) := dq_op21 (dq_at (j := 4) dk_29c_2 rfl rfl) (dq_at (j := 5) dk_29c_2 rfl rfl) rfl
theorem dL_law_885 : decode cL_law 885 = .ok (.iconst 3, 1) := dq_op6 (dq_at (j := 6) dk_29c_2 rfl rfl)
theorem dL_law_886 : decode cL_law 886 = .ok (.iadd, 1) := dq_op96 (dq_at (j := 7) dk_29c_2 rfl rfl)
theorem dL_law_887 : decode cL_law 887 = .ok (.iaload, 1) := dq_op46 (dq_at (j := 8) dk_29c_2 rfl rfl)
theorem dL_law_888 : decode cL_law 888 = .ok (.aload_n 3, 1) := dq_op45 (dq_at (j := 9) dk_29c_2 rfl rfl)
theorem dL_law_889 : decode cL_law 889 = .ok (.invokestatic 228, 3) := dq_op184 (dq_at (j := 10) dk_29c_2 rfl rfl) (dq_at (j := 11) dk_29c_2 rfl rfl) (dq_at (j := 12) dk_29c_2 rfl rfl) rfl
theorem dL_law_892 : decode cL_law 892 = .ok (.istore 5, 2) := dq_op54 (dq_at (j := 13) dk_29c_2 rfl rfl) (dq_at (j := 14) dk_29c_2 rfl rfl) rfl
theorem dL_law_894 : decode cL_law 894 = .ok (.aload_n 2, 1) := dq_op44 (dq_at (j := 15) dk_29c_2 rfl rfl)
theorem dL_law_895 : decode cL_law 895 = .ok (.aload_n 0, 1) := dq_op42 (dq_at (j := 16) dk_29c_2 rfl rfl)
theorem dL_law_896 : decode cL_law 896 = .ok (.iload 4, 2) := dq_op21 (dq_at (j := 17) dk_29c_2 rfl rfl) (dq_at (j := 18) dk_29c_2 rfl rfl) rfl
theorem dL_law_898 : decode cL_law 898 = .ok (.iconst 1, 1) := dq_op4 (dq_at (j := 19) dk_29c_2 rfl rfl)
theorem dL_law_899 : decode cL_law 899 = .ok (.iadd, 1) := dq_op96 (dq_at (j := 20) dk_29c_2 rfl rfl)
theorem dL_law_900 : decode cL_law 900 = .ok (.iaload, 1) := dq_op46 (dq_at (j := 21) dk_29c_2 rfl rfl)
theorem dL_law_901 : decode cL_law 901 = .ok (.aload_n 0, 1) := dq_op42 (dq_at (j := 22) dk_29c_2 rfl rfl)
theorem dL_law_902 : decode cL_law 902 = .ok (.iload 4, 2) := dq_op21 (dq_at (j := 23) dk_29c_2 rfl rfl) (dq_at (j := 24) dk_29c_2 rfl rfl) rfl
theorem dL_law_904 : decode cL_law 904 = .ok (.iconst 2, 1) := dq_op5 (dq_at (j := 25) dk_29c_2 rfl rfl)
theorem dL_law_905 : decode cL_law 905 = .ok (.iadd, 1) := dq_op96 (dq_at (j := 26) dk_29c_2 rfl rfl)
theorem dL_law_906 : decode cL_law 906 = .ok (.iaload, 1) := dq_op46 (dq_at (j := 27) dk_29c_2 rfl rfl)
theorem dL_law_907 : decode cL_law 907 = .ok (.aload_n 0, 1) := dq_op42 (dq_at (j := 28) dk_29c_2 rfl rfl)
theorem dL_law_908 : decode cL_law 908 = .ok (.iload 4, 2) := dq_op21 (dq_at (j := 29) dk_29c_2 rfl rfl) (dq_at (j := 30) dk_29c_2 rfl rfl) rfl
theorem dL_law_910 : decode cL_law 910 = .ok (.iconst 3, 1) := dq_op6 (dq_at (j := 31) dk_29c_2 rfl rfl)
theorem dL_law_911 : decode cL_law 911 = .ok (.iadd, 1) := dq_op96 (dq_at (j := 32) dk_29c_2 rfl rfl)
theorem dL_law_912 : decode cL_law 912 = .ok (.iaload, 1) := dq_op46 (dq_at (j := 33) dk_29c_2 rfl rfl)
theorem dL_law_913 : decode cL_law 913 = .ok (.invokevirtual 230, 3) := dq_op182 (dq_at (j := 34) dk_29c_2 rfl rfl) (dq_at (j := 35) dk_29c_2 rfl rfl) (dq_at (j := 36) dk_29c_2 rfl rfl) rfl
theorem dL_law_916 : decode cL_law 916 = .ok (.istore 6, 2) := dq_op54 (dq_at (j := 37) dk_29c_2 rfl rfl) (dq_at (j := 38) dk_29c_2 rfl rfl) rfl
theorem dL_law_918 : decode cL_law 918 = .ok (.goto 1350, 3) := dq_op167 (dq_at (j := 39) dk_29c_2 rfl rfl) (dq_at (j := 40) dk_29c_2 rfl rfl) (dq_at (j := 41) dk_29c_2 rfl rfl) (by decide +kernel)
theorem dL_law_921 : decode cL_law 921 = .ok (.aload_n 1, 1) := dq_op43 (dq_at (j := 42) dk_29c_2 rfl rfl)
theorem dL_law_922 : decode cL_law 922 = .ok (.aload_n 0, 1) := dq_op42 (dq_at (j := 43) dk_29c_2 rfl rfl)
theorem dL_law_923 : decode cL_law 923 = .ok (.iload 4, 2) := dq_op21 (dq_at (j := 44) dk_29c_2 rfl rfl) (dq_at (j := 45) dk_29c_2 rfl rfl) rfl
theorem dL_law_925 : decode cL_law 925 = .ok (.iconst 1, 1) := dq_op4 (dq_at (j := 46) dk_29c_2 rfl rfl)
theorem dL_law_926 : decode cL_law 926 = .ok (.iadd, 1) := dq_op96 (dq_at (j := 47) dk_29c_2 rfl rfl)
theorem dL_law_927 : decode cL_law 927 = .ok (.iaload, 1) := dq_op46 (dq_at (j := 48) dk_29c_2 rfl rfl)
theorem dL_law_928 : decode cL_law 928 = .ok (.aload_n 0, 1) := dq_op42 (dq_at (j := 49) dk_29c_2 rfl rfl)
theorem dL_law_929 : decode cL_law 929 = .ok (.iload 4, 2) := dq_op21 (dq_at (j := 50) dk_29c_2 rfl rfl) (dq_at (j := 51) dk_29c_2 rfl rfl) rfl
theorem dL_law_931 : decode cL_law 931 = .ok (.iconst 2, 1) := dq_op5 (dq_at (j := 52) dk_29c_2 rfl rfl)
theorem dL_law_932 : decode cL_law 932 = .ok (.iadd, 1) := dq_op96 (dq_at (j := 53) dk_29c_2 rfl rfl)
theorem dL_law_933 : decode cL_law 933 = .ok (.iaload, 1) := dq_op46 (dq_at (j := 54) dk_29c_2 rfl rfl)
theorem dL_law_934 : decode cL_law 934 = .ok (.aload_n 3, 1) := dq_op45 (dq_at (j := 55) dk_29c_2 rfl rfl)
theorem dL_law_935 : decode cL_law 935 = .ok (.invokestatic 231, 3) := dq_op184 (dq_at (j := 56) dk_29c_2 rfl rfl) (dq_at (j := 57) dk_29c_2 rfl rfl) (dq_at (j := 58) dk_29c_2 rfl rfl) rfl
theorem dL_law_938 : decode cL_law 938 = .ok (.istore 5, 2) := dq_op54 (dq_at (j := 59) dk_29c_2 rfl rfl) (dq_at (j := 60) dk_29c_2 rfl rfl) rfl
theorem dL_law_940 : decode cL_law 940 = .ok (.aload_n 2, 1) := dq_op44 (dq_at (j := 61) dk_29c_2 rfl rfl)
theorem dL_law_941 : decode cL_law 941 = .ok (.aload_n 0, 1) := dq_op42 (dq_at (j := 62) dk_29c_2 rfl rfl)
theorem dL_law_942 : decode cL_law 942 = .ok (.iload 4, 2) := dq_op21 (dq_at (j := 63) dk_29c_2 rfl rfl) (dq_at (j := 64) dk_29c_2 rfl rfl) rfl
theorem dL_law_944 : decode cL_law 944 = .ok (.iconst 1, 1) := dq_op4 (dq_at (j := 65) dk_29c_2 rfl rfl)
theorem dL_law_945 : decode cL_law 945 = .ok (.iadd, 1) := dq_op96 (dq_at (j := 66) dk_29c_2 rfl rfl)
theorem dL_law_946 : decode cL_law 946 = .ok (.iaload, 1) := dq_op46 (dq_at (j := 67) dk_29c_2 rfl rfl)
theorem dL_law_947 : decode cL_law 947 = .ok (.aload_n 0, 1) := dq_op42 (dq_at (j := 68) dk_29c_2 rfl rfl)
theorem dL_law_948 : decode cL_law 948 = .ok (.iload 4, 2) := dq_op21 (dq_at (j := 69) dk_29c_2 rfl rfl) (dq_at (j := 70) dk_29c_2 rfl rfl) rfl
theorem dL_law_950 : decode cL_law 950 = .ok (.iconst 2, 1) := dq_op5 (dq_at (j := 71) dk_29c_2 rfl rfl)
theorem dL_law_951 : decode cL_law 951 = .ok (.iadd, 1) := dq_op96 (dq_at (j := 72) dk_29c_2 rfl rfl)
theorem dL_law_952 : decode cL_law 952 = .ok (.iaload, 1) := dq_op46 (dq_at (j := 73) dk_29c_2 rfl rfl)
theorem dL_law_953 : decode cL_law 953 = .ok (.invokevirtual 233, 3) := dq_op182 (dq_at (j := 74) dk_29c_2 rfl rfl) (dq_at (j := 75) dk_29c_2 rfl rfl) (dq_at (j := 76) dk_29c_2 rfl rfl) rfl
theorem dL_law_956 : decode cL_law 956 = .ok (.istore 6, 2) := dq_op54 (dq_at (j := 77) dk_29c_2 rfl rfl) (dq_at (j := 78) dk_29c_2 rfl rfl) rfl
theorem dL_law_958 : decode cL_law 958 = .ok (.goto 1310, 3) := dq_op167 (dq_at (j := 79) dk_29c_2 rfl rfl) (dq_at (j := 80) dk_29c_2 rfl rfl) (dq_at (j := 81) dk_29c_2 rfl rfl) (by decide +kernel)
theorem dL_law_961 : decode cL_law 961 = .ok (.aload_n 1, 1) := dq_op43 (dq_at (j := 82) dk_29c_2 rfl rfl)
theorem dL_law_962 : decode cL_law 962 = .ok (.aload_n 0, 1) := dq_op42 (dq_at (j := 83) dk_29c_2 rfl rfl)
theorem dL_law_963 : decode cL_law 963 = .ok (.iload 4, 2) := dq_op21 (dq_at (j := 84) dk_29c_2 rfl rfl) (dq_at (j := 85) dk_29c_2 rfl rfl) rfl
theorem dL_law_965 : decode cL_law 965 = .ok (.iconst 1, 1) := dq_op4 (dq_at (j := 86) dk_29c_2 rfl rfl)
theorem dL_law_966 : decode cL_law 966 = .ok (.iadd, 1) := dq_op96 (dq_at (j := 87) dk_29c_2 rfl rfl)
theorem dL_law_967 : decode cL_law 967 = .ok (.iaload, 1) := dq_op46 (dq_at (j := 88) dk_29c_2 rfl rfl)
theorem dL_law_968 : decode cL_law 968 = .ok (.aload_n 0, 1) := dq_op42 (dq_at (j := 89) dk_29c_2 rfl rfl)
theorem dL_law_969 : decode cL_law 969 = .ok (.iload 4, 2) := dq_op21 (dq_at (j := 90) dk_29c_2 rfl rfl) (dq_at (j := 91) dk_29c_2 rfl rfl) rfl
theorem dL_law_971 : decode cL_law 971 = .ok (.iconst 2, 1) := dq_op5 (dq_at (j := 92) dk_29c_2 rfl rfl)
theorem dL_law_972 : decode cL_law 972 = .ok (.iadd, 1) := dq_op96 (dq_at (j := 93) dk_29c_2 rfl rfl)
theorem dL_law_973 : decode cL_law 973 = .ok (.iaload, 1) := dq_op46 (dq_at (j := 94) dk_29c_2 rfl rfl)
theorem dL_law_974 : decode cL_law 974 = .ok (.aload_n 3, 1) := dq_op45 (dq_at (j := 95) dk_29c_2 rfl rfl)
theorem dL_law_975 : decode cL_law 975 = .ok (.invokestatic 234, 3) := dq_op184 (dq_at (j := 96) dk_29c_2 rfl rfl) (dq_at (j := 97) dk_29c_2 rfl rfl) (dq_at (j := 98) dk_29c_2 rfl rfl) rfl
theorem dL_law_978 : decode cL_law 978 = .ok (.istore 5, 2) := dq_op54 (dq_at (j := 99) dk_29c_2 rfl rfl) (dq_at (j := 100) dk_29c_2 rfl rfl) rfl
theorem dL_law_980 : decode cL_law 980 = .ok (.aload_n 2, 1) := dq_op44 (dq_at (j := 101) dk_29c_2 rfl rfl)
theorem dL_law_981 : decode cL_law 981 = .ok (.aload_n 0, 1) := dq_op42 (dq_at (j := 102) dk_29c_2 rfl rfl)
theorem dL_law_982 : decode cL_law 982 = .ok (.iload 4, 2) := dq_op21 (dq_at (j := 103) dk_29c_2 rfl rfl) (dq_at (j := 104) dk_29c_2 rfl rfl) rfl
theorem dL_law_984 : decode cL_law 984 = .ok (.iconst 1, 1) := dq_op4 (dq_at (j := 105) dk_29c_2 rfl rfl)
theorem dL_law_985 : decode cL_law 985 = .ok (.iadd, 1) := dq_op96 (dq_at (j := 106) dk_29c_2 rfl rfl)
theorem dL_law_986 : decode cL_law 986 = .ok (.iaload, 1) := dq_op46 (dq_at (j := 107) dk_29c_2 rfl rfl)
theorem dL_law_987 : decode cL_law 987 = .ok (.aload_n 0, 1) := dq_op42 (dq_at (j := 108) dk_29c_2 rfl rfl)
theorem dL_law_988 : decode cL_law 988 = .ok (.iload 4, 2) := dq_op21 (dq_at (j := 109) dk_29c_2 rfl rfl) (dq_at (j := 110) dk_29c_2 rfl rfl) rfl
noncomputable def dq_end_29c : Nat := 0
