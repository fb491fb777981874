noncomputable def dz_p29c_1 : List (Nat × Instr × Nat) := [(733, (.aload_n 1, 1)), (734, (.aload_n 0, 1)), (735, (.iload 4, 2)), (737, (.iconst 1, 1)), (738, (.iadd, 1)), (739, (.iaload, 1)), (740, (.aload_n 3, 1)), (741, (.invokestatic 216, 3)), (744, (.istore 5, 2)), (746, (.aload_n 2, 1)), (747, (.aload_n 0, 1)), (748, (.iload 4, 2)), (750, (.iconst 1, 1)), (751, (.iadd, 1)), (752, (.iaload, 1)), (753, (.invokevirtual 218, 3)), (756, (.istore 6, 2)), (758, (.goto 1510, 3)), (761, (.aload_n 1, 1)), (762, (.aload_n 0, 1)), (763, (.iload 4, 2)), (765, (.iconst 1, 1)), (766, (.iadd, 1)), (767, (.iaload, 1)), (768, (.aload_n 3, 1)), (769, (.invokestatic 219, 3)), (772, (.istore 5, 2)), (774, (.aload_n 2, 1)), (775, (.aload_n 0, 1)), (776, (.iload 4, 2)), (778, (.iconst 1, 1)), (779, (.iadd, 1)), (780, (.iaload, 1)), (781, (.invokevirtual 221, 3)), (784, (.istore 6, 2)), (786, (.goto 1482, 3)), (789, (.aload_n 1, 1)), (790, (.aload_n 0, 1)), (791, (.iload 4, 2)), (793, (.iconst 1, 1))]
theorem dy_p29c_1 : dz_ok cL_law dz_p29c_1 = true := by decide +kernel
theorem dL_law_733 : decode cL_law 733 = .ok (.aload_n 1, 1) := dz_at (i := 0) dy_p29c_1 rfl
theorem dL_law_734 : decode cL_law 734 = .ok (.aload_n 0, 1) := dz_at (i := 1) dy_p29c_1 rfl
theorem dL_law_735 : decode cL_law 735 = .ok (.iload 4, 2) := dz_at (i := 2) dy_p29c_1 rfl
theorem dL_law_737 : decode cL_law 737 = .ok (.iconst 1, 1) := dz_at (i := 3) dy_p29c_1 rfl
theorem dL_law_738 : decode cL_law 738 = .ok (.iadd, 1) := dz_at (i := 4) dy_p29c_1 rfl
theorem dL_law_739 : decode cL_law 739 = .ok (.iaload, 1) := dz_at (i := 5) dy_p29c_1 rfl
theorem dL_law_740 : decode cL_law 740 = .ok (.aload_n 3, 1) := dz_at (i := 6) dy_p29c_1 rfl
theorem dL_law_741 : decode cL_law 741 = .ok (.invokestatic 216, 3) := dz_at (i := 7) dy_p29c_1 rfl
theorem dL_law_744 : decode cL_law 744 = .ok (.istore 5, 2) := dz_at (i := 8) dy_p29c_1 rfl
theorem dL_law_746 : decode cL_law 746 = .ok (.aload_n 2, 1) := dz_at (i := 9) dy_p29c_1 rfl
theorem dL_law_747 : decode cL_law 747 = .ok (.aload_n 0, 1) := dz_at (i := 10) dy_p29c_1 rfl
theorem dL_law_748 : decode cL_law 748 = .ok (.iload 4, 2) := dz_at (i := 11) dy_p29c_1 rfl
theorem dL_law_750 : decode cL_law 750 = .ok (.iconst 1, 1) := dz_at (i := 12) dy_p29c_1 rfl
theorem dL_law_751 : decode cL_law 751 = .ok (.iadd, 1) := dz_at (i := 13) dy_p29c_1 rfl
theorem dL_law_752 : decode cL_law 752 = .ok (.iaload, 1) := dz_at (i := 14) dy_p29c_1 rfl
theorem dL_law_753 : decode cL_law 753 = .ok (.invokevirtual 218, 3) := dz_at (i := 15) dy_p29c_1 rfl
theorem dL_law_756 : decode cL_law 756 = .ok (.istore 6, 2) := dz_at (i := 16) dy_p29c_1 rfl
theorem dL_law_758 : decode cL_law 758 = .ok (.goto 1510, 3) := dz_at (i := 17) dy_p29c_1 rfl
theorem dL_law_761 : decode cL_law 761 = .ok (.aload_n 1, 1) := dz_at (i := 18) dy_p29c_1 rfl
theorem dL_law_762 : decode cL_law 762 = .ok (.aload_n 0, 1) := dz_at (i := 19) dy_p29c_1 rfl
theorem dL_law_763 : decode cL_law 763 = .ok (.iload 4, 2) := dz_at (i := 20) dy_p29c_1 rfl
theorem dL_law_765 : decode cL_law 765 = .ok (.iconst 1, 1) := dz_at (i := 21) dy_p29c_1 rfl
theorem dL_law_766 : decode cL_law 766 = .ok (.iadd, 1) := dz_at (i := 22) dy_p29c_1 rfl
theorem dL_law_767 : decode cL_law 767 = .ok (.iaload, 1) := dz_at (i := 23) dy_p29c_1 rfl
theorem dL_law_768 : decode cL_law 768 = .ok (.aload_n 3, 1) := dz_at (i := 24) dy_p29c_1 rfl
theorem dL_law_769 : decode cL_law 769 = .ok (.invokestatic 219, 3) := dz_at (i := 25) dy_p29c_1 rfl
theorem dL_law_772 : decode cL_law 772 = .ok (.istore 5, 2) := dz_at (i := 26) dy_p29c_1 rfl
theorem dL_law_774 : decode cL_law 774 = .ok (.aload_n 2, 1) := dz_at (i := 27) dy_p29c_1 rfl
theorem dL_law_775 : decode cL_law 775 = .ok (.aload_n 0, 1) := dz_at (i := 28) dy_p29c_1 rfl
theorem dL_law_776 : decode cL_law 776 = .ok (.iload 4, 2) := dz_at (i := 29) dy_p29c_1 rfl
theorem dL_law_778 : decode cL_law 778 = .ok (.iconst 1, 1) := dz_at (i := 30) dy_p29c_1 rfl
theorem dL_law_779 : decode cL_law 779 = .ok (.iadd, 1) := dz_at (i := 31) dy_p29c_1 rfl
theorem dL_law_780 : decode cL_law 780 = .ok (.iaload, 1) := dz_at (i := 32) dy_p29c_1 rfl
theorem dL_law_781 : decode cL_law 781 = .ok (.invokevirtual 221, 3) := dz_at (i := 33) dy_p29c_1 rfl
theorem dL_law_784 : decode cL_law 784 = .ok (.istore 6, 2) := dz_at (i := 34) dy_p29c_1 rfl
theorem dL_law_786 : decode cL_law 786 = .ok (.goto 1482, 3) := dz_at (i := 35) dy_p29c_1 rfl
theorem dL_law_789 : decode cL_law 789 = .ok (.aload_n 1, 1) := dz_at (i := 36) dy_p29c_1 rfl
theorem dL_law_790 : decode cL_law 790 = .ok (.aload_n 0, 1) := dz_at (i := 37) dy_p29c_1 rfl
theorem dL_law_791 : decode cL_law 791 = .ok (.iload 4, 2) := dz_at (i := 38) dy_p29c_1 rfl
theorem dL_law_793 : decode cL_law 793 = .ok (.iconst 1, 1) := dz_at (i := 39) dy_p29c_1 rfl
noncomputable def dz_p29c_2 : List (Nat × Instr × Nat) := [(794, (.iadd, 1)), (795, (.iaload, 1)), (796, (.aload_n 3, 1)), (797, (.invokestatic 222, 3)), (800, (.istore 5, 2)), (802, (.aload_n 2, 1)), (803, (.aload_n 0, 1)), (804, (.iload 4, 2)), (806, (.iconst 1, 1)), (807, (.iadd, 1)), (808, (.iaload, 1)), (809, (.invokevirtual 224, 3)), (812, (.astore 6, 2)), (814, (.goto 1454, 3)), (817, (.aload_n 1, 1)), (818, (.aload_n 0, 1)), (819, (.iload 4, 2)), (821, (.iconst 1, 1)), (822, (.iadd, 1)), (823, (.iaload, 1)), (824, (.aload_n 0, 1)), (825, (.iload 4, 2)), (827, (.iconst 2, 1)), (828, (.iadd, 1)), (829, (.iaload, 1)), (830, (.aload_n 0, 1)), (831, (.iload 4, 2)), (833, (.iconst 3, 1)), (834, (.iadd, 1)), (835, (.iaload, 1)), (836, (.aload_n 3, 1)), (837, (.invokestatic 225, 3)), (840, (.istore 5, 2)), (842, (.aload_n 2, 1)), (843, (.aload_n 0, 1)), (844, (.iload 4, 2)), (846, (.iconst 1, 1)), (847, (.iadd, 1)), (848, (.iaload, 1)), (849, (.aload_n 0, 1))]
theorem dy_p29c_2 : dz_ok cL_law dz_p29c_2 = true := by decide +kernel
theorem dL_law_794 : decode cL_law 794 = .ok (.iadd, 1) := dz_at (i := 0) dy_p29c_2 rfl
theorem dL_law_795 : decode cL_law 795 = .ok (.iaload, 1) := dz_at (i := 1) dy_p29c_2 rfl
theorem dL_law_796 : decode cL_law 796 = .ok (.aload_n 3, 1) := dz_at (i := 2) dy_p29c_2 rfl
theorem dL_law_797 : decode cL_law 797 = .ok (.invokestatic 222, 3) := dz_at (i := 3) dy_p29c_2 rfl
theorem dL_law_800 : decode cL_law 800 = .ok (.istore 5, 2) := dz_at (i := 4) dy_p29c_2 rfl
theorem dL_law_802 : decode cL_law 802 = .ok (.aload_n 2, 1) := dz_at (i := 5) dy_p29c_2 rfl
theorem dL_law_803 : decode cL_law 803 = .ok (.aload_n 0, 1) := dz_at (i := 6) dy_p29c_2 rfl
theorem dL_law_804 : decode cL_law 804 = .ok (.iload 4, 2) := dz_at (i := 7) dy_p29c_2 rfl
theorem dL_law_806 : decode cL_law 806 = .ok (.iconst 1, 1) := dz_at (i := 8) dy_p29c_2 rfl
theorem dL_law_807 : decode cL_law 807 = .ok (.iadd, 1) := dz_at (i := 9) dy_p29c_2 rfl
theorem dL_law_808 : decode cL_law 808 = .ok (.iaload, 1) := dz_at (i := 10) dy_p29c_2 rfl
theorem dL_law_809 : decode cL_law 809 = .ok (.invokevirtual 224, 3) := dz_at (i := 11) dy_p29c_2 rfl
theorem dL_law_812 : decode cL_law 812 = .ok (.astore 6, 2) := dz_at (i := 12) dy_p29c_2 rfl
theorem dL_law_814 : decode cL_law 814 = .ok (.goto 1454, 3) := dz_at (i := 13) dy_p29c_2 rfl
theorem dL_law_817 : decode cL_law 817 = .ok (.aload_n 1, 1) := dz_at (i := 14) dy_p29c_2 rfl
theorem dL_law_818 : decode cL_law 818 = .ok (.aload_n 0, 1) := dz_at (i := 15) dy_p29c_2 rfl
theorem dL_law_819 : decode cL_law 819 = .ok (.iload 4, 2) := dz_at (i := 16) dy_p29c_2 rfl
theorem dL_law_821 : decode cL_law 821 = .ok (.iconst 1, 1) := dz_at (i := 17) dy_p29c_2 rfl
theorem dL_law_822 : decode cL_law 822 = .ok (.iadd, 1) := dz_at (i := 18) dy_p29c_2 rfl
theorem dL_law_823 : decode cL_law 823 = .ok (.iaload, 1) := dz_at (i := 19) dy_p29c_2 rfl
theorem dL_law_824 : decode cL_law 824 = .ok (.aload_n 0, 1) := dz_at (i := 20) dy_p29c_2 rfl
theorem dL_law_825 : decode cL_law 825 = .ok (.iload 4, 2) := dz_at (i := 21) dy_p29c_2 rfl
theorem dL_law_827 : decode cL_law 827 = .ok (.iconst 2, 1) := dz_at (i := 22) dy_p29c_2 rfl
theorem dL_law_828 : decode cL_law 828 = .ok (.iadd, 1) := dz_at (i := 23) dy_p29c_2 rfl
theorem dL_law_829 : decode cL_law 829 = .ok (.iaload, 1) := dz_at (i := 24) dy_p29c_2 rfl
theorem dL_law_830 : decode cL_law 830 = .ok (.aload_n 0, 1) := dz_at (i := 25) dy_p29c_2 rfl
theorem dL_law_831 : decode cL_law 831 = .ok (.iload 4, 2) := dz_at (i := 26) dy_p29c_2 rfl
theorem dL_law_833 : decode cL_law 833 = .ok (.iconst 3, 1) := dz_at (i := 27) dy_p29c_2 rfl
theorem dL_law_834 : decode cL_law 834 = .ok (.iadd, 1) := dz_at (i := 28) dy_p29c_2 rfl
theorem dL_law_835 : decode cL_law 835 = .ok (.iaload, 1) := dz_at (i := 29) dy_p29c_2 rfl
theorem dL_law_836 : decode cL_law 836 = .ok (.aload_n 3, 1) := dz_at (i := 30) dy_p29c_2 rfl
theorem dL_law_837 : decode cL_law 837 = .ok (.invokestatic 225, 3) := dz_at (i := 31) dy_p29c_2 rfl
theorem dL_law_840 : decode cL_law 840 = .ok (.istore 5, 2) := dz_at (i := 32) dy_p29c_2 rfl
theorem dL_law_842 : decode cL_law 842 = .ok (.aload_n 2, 1) := dz_at (i := 33) dy_p29c_2 rfl
theorem dL_law_843 : decode cL_law 843 = .ok (.aload_n 0, 1) := dz_at (i := 34) dy_p29c_2 rfl
theorem dL_law_844 : decode cL_law 844 = .ok (.iload 4, 2) := dz_at (i := 35) dy_p29c_2 rfl
theorem dL_law_846 : decode cL_law 846 = .ok (.iconst 1, 1) := dz_at (i := 36) dy_p29c_2 rfl
theorem dL_law_847 : decode cL_law 847 = .ok (.iadd, 1) := dz_at (i := 37) dy_p29c_2 rfl
theorem dL_law_848 : decode cL_law 848 = .ok (.iaload, 1) := dz_at (i := 38) dy_p29c_2 rfl
theorem dL_law_849 : decode cL_law 849 = .ok (.aload_n 0, 1) := dz_at (i := 39) dy_p29c_2 rfl
noncomputable def dz_p29c_3 : List (Nat × Instr × Nat) := [(850, (.iload 4, 2)), (852, (.iconst 2, 1)), (853, (.iadd, 1)), (854, (.iaload, 1)), (855, (.aload_n 0, 1)), (856, (.iload 4, 2)), (858, (.iconst 3, 1)), (859, (.iadd, 1)), (860, (.iaload, 1)), (861, (.invokevirtual 227, 3)), (864, (.istore 6, 2)), (866, (.goto 1402, 3)), (869, (.aload_n 1, 1)), (870, (.aload_n 0, 1)), (871, (.iload 4, 2)), (873, (.iconst 1, 1)), (874, (.iadd, 1)), (875, (.iaload, 1)), (876, (.aload_n 0, 1)), (877, (.iload 4, 2)), (879, (.iconst 2, 1)), (880, (.iadd, 1)), (881, (.iaload, 1)), (882, (.aload_n 0, 1)), (883, (.iload 4, 2)), (885, (.iconst 3, 1)), (886, (.iadd, 1)), (887, (.iaload, 1)), (888, (.aload_n 3, 1)), (889, (.invokestatic 228, 3)), (892, (.istore 5, 2)), (894, (.aload_n 2, 1)), (895, (.aload_n 0, 1)), (896, (.iload 4, 2)), (898, (.iconst 1, 1)), (899, (.iadd, 1)), (900, (.iaload, 1)), (901, (.aload_n 0, 1)), (902, (.iload 4, 2)), (904, (.iconst 2, 1))]
theorem dy_p29c_3 : dz_ok cL_law dz_p29c_3 = true := by decide +kernel
theorem dL_law_850 : decode cL_law 850 = .ok (.iload 4, 2) := dz_at (i := 0) dy_p29c_3 rfl
theorem dL_law_852 : decode cL_law 852 = .ok (.iconst 2, 1) := dz_at (i := 1) dy_p29c_3 rfl
theorem dL_law_853 : decode cL_law 853 = .ok (.iadd, 1) := dz_at (i := 2) dy_p29c_3 rfl
theorem dL_law_854 : decode cL_law 854 = .ok (.iaload, 1) := dz_at (i := 3) dy_p29c_3 rfl
theorem dL_law_855 : decode cL_law 855 = .ok (.aload_n 0, 1) := dz_at (i := 4) dy_p29c_3 rfl
theorem dL_law_856 : decode cL_law 856 = .ok (.iload 4, 2) := dz_at (i := 5) dy_p29c_3 rfl
theorem dL_law_858 : decode cL_law 858 = .ok (.iconst 3, 1) := dz_at (i := 6) dy_p29c_3 rfl
theorem dL_law_859 : decode cL_law 859 = .ok (.iadd, 1) := dz_at (i := 7) dy_p29c_3 rfl
theorem dL_law_860 : decode cL_law 860 = .ok (.iaload, 1) := dz_at (i := 8) dy_p29c_3 rfl
theorem dL_law_861 : decode cL_law 861 = .ok (.invokevirtual 227, 3) := dz_at (i := 9) dy_p29c_3 rfl
theorem dL_law_864 : decode cL_law 864 = .ok (.istore 6, 2) := dz_at (i := 10) dy_p29c_3 rfl
theorem dL_law_866 : decode cL_law 866 = .ok (.goto 1402, 3) := dz_at (i := 11) dy_p29c_3 rfl
theorem dL_law_869 : decode cL_law 869 = .ok (.aload_n 1, 1) := dz_at (i := 12) dy_p29c_3 rfl
theorem dL_law_870 : decode cL_law 870 = .ok (.aload_n 0, 1) := dz_at (i := 13) dy_p29c_3 rfl
theorem dL_law_871 : decode cL_law 871 = .ok (.iload 4, 2) := dz_at (i := 14) dy_p29c_3 rfl
theorem dL_law_873 : decode cL_law 873 = .ok (.iconst 1, 1) := dz_at (i := 15) dy_p29c_3 rfl
theorem dL_law_874 : decode cL_law 874 = .ok (.iadd, 1) := dz_at (i := 16) dy_p29c_3 rfl
theorem dL_law_875 : decode cL_law 875 = .ok (.iaload, 1) := dz_at (i := 17) dy_p29c_3 rfl
theorem dL_law_876 : decode cL_law 876 = .ok (.aload_n 0, 1) := dz_at (i := 18) dy_p29c_3 rfl
theorem dL_law_877 : decode cL_law 877 = .ok (.iload 4, 2) := dz_at (i := 19) dy_p29c_3 rfl
theorem dL_law_879 : decode cL_law 879 = .ok (.iconst 2, 1) := dz_at (i := 20) dy_p29c_3 rfl
theorem dL_law_880 : decode cL_law 880 = .ok (.iadd, 1) := dz_at (i := 21) dy_p29c_3 rfl
theorem dL_law_881 : decode cL_law 881 = .ok (.iaload, 1) := dz_at (i := 22) dy_p29c_3 rfl
theorem dL_law_882 : decode cL_law 882 = .ok (.aload_n 0, 1) := dz_at (i := 23) dy_p29c_3 rfl
theorem dL_law_883 : decode cL_law 883 = .ok (.iload 4, 2) := dz_at (i := 24) dy_p29c_3 rfl
theorem dL_law_885 : decode cL_law 885 = .ok (.iconst 3, 1) := dz_at (i := 25) dy_p29c_3 rfl
theorem dL_law_886 : decode cL_law 886 = .ok (.iadd, 1) := dz_at (i := 26) dy_p29c_3 rfl
theorem dL_law_887 : decode cL_law 887 = .ok (.iaload, 1) := dz_at (i := 27) dy_p29c_3 rfl
theorem dL_law_888 : decode cL_law 888 = .ok (.aload_n 3, 1) := dz_at (i := 28) dy_p29c_3 rfl
theorem dL_law_889 : decode cL_law 889 = .ok (.invokestatic 228, 3) := dz_at (i := 29) dy_p29c_3 rfl
theorem dL_law_892 : decode cL_law 892 = .ok (.istore 5, 2) := dz_at (i := 30) dy_p29c_3 rfl
theorem dL_law_894 : decode cL_law 894 = .ok (.aload_n 2, 1) := dz_at (i := 31) dy_p29c_3 rfl
theorem dL_law_895 : decode cL_law 895 = .ok (.aload_n 0, 1) := dz_at (i := 32) dy_p29c_3 rfl
theorem dL_law_896 : decode cL_law 896 = .ok (.iload 4, 2) := dz_at (i := 33) dy_p29c_3 rfl
theorem dL_law_898 : decode cL_law 898 = .ok (.iconst 1, 1) := dz_at (i := 34) dy_p29c_3 rfl
theorem dL_law_899 : decode cL_law 899 = .ok (.iadd, 1) := dz_at (i := 35) dy_p29c_3 rfl
theorem dL_law_900 : decode cL_law 900 = .ok (.iaload, 1) := dz_at (i := 36) dy_p29c_3 rfl
theorem dL_law_901 : decode cL_law 901 = .ok (.aload_n 0, 1) := dz_at (i := 37) dy_p29c_3 rfl
theorem dL_law_902 : decode cL_law 902 = .ok (.iload 4, 2) := dz_at (i := 38) dy_p29c_3 rfl
theorem dL_law_904 : decode cL_law 904 = .ok (.iconst 2, 1) := dz_at (i := 39) dy_p29c_3 rfl
noncomputable def dz_p29c_4 : List (Nat × Instr × Nat) := [(905, (.iadd, 1)), (906, (.iaload, 1)), (907, (.aload_n 0, 1)), (908, (.iload 4, 2)), (910, (.iconst 3, 1)), (911, (.iadd, 1)), (912, (.iaload, 1)), (913, (.invokevirtual 230, 3)), (916, (.istore 6, 2)), (918, (.goto 1350, 3)), (921, (.aload_n 1, 1)), (922, (.aload_n 0, 1)), (923, (.iload 4, 2)), (925, (.iconst 1, 1)), (926, (.iadd, 1)), (927, (.iaload, 1)), (928, (.aload_n 0, 1)), (929, (.iload 4, 2)), (931, (.iconst 2, 1)), (932, (.iadd, 1)), (933, (.iaload, 1)), (934, (.aload_n 3, 1)), (935, (.invokestatic 231, 3)), (938, (.istore 5, 2)), (940, (.aload_n 2, 1)), (941, (.aload_n 0, 1)), (942, (.iload 4, 2)), (944, (.iconst 1, 1)), (945, (.iadd, 1)), (946, (.iaload, 1)), (947, (.aload_n 0, 1)), (948, (.iload 4, 2)), (950, (.iconst 2, 1)), (951, (.iadd, 1)), (952, (.iaload, 1)), (953, (.invokevirtual 233, 3)), (956, (.istore 6, 2)), (958, (.goto 1310, 3)), (961, (.aload_n 1, 1)), (962, (.aload_n 0, 1))]
theorem dy_p29c_4 : dz_ok cL_law dz_p29c_4 = true := by decide +kernel
theorem dL_law_905 : decode cL_law 905 = .ok (.iadd, 1) := dz_at (i := 0) dy_p29c_4 rfl
theorem dL_law_906 : decode cL_law 906 = .ok (.iaload, 1) := dz_at (i := 1) dy_p29c_4 rfl
theorem dL_law_907 : decode cL_law 907 = .ok (.aload_n 0, 1) := dz_at (i := 2) dy_p29c_4 rfl
theorem dL_law_908 : decode cL_law 908 = .ok (.iload 4, 2) := dz_at (i := 3) dy_p29c_4 rfl
theorem dL_law_910 : decode cL_law 910 = .ok (.iconst 3, 1) := dz_at (i := 4) dy_p29c_4 rfl
theorem dL_law_911 : decode cL_law 911 = .ok (.iadd, 1) := dz_at (i := 5) dy_p29c_4 rfl
theorem dL_law_912 : decode cL_law 912 = .ok (.iaload, 1) := dz_at (i := 6) dy_p29c_4 rfl
theorem dL_law_913 : decode cL_law 913 = .ok (.invokevirtual 230, 3) := dz_at (i := 7) dy_p29c_4 rfl
theorem dL_law_916 : decode cL_law 916 = .ok (.istore 6, 2) := dz_at (i := 8) dy_p29c_4 rfl
theorem dL_law_918 : decode cL_law 918 = .ok (.goto 1350, 3) := dz_at (i := 9) dy_p29c_4 rfl
theorem dL_law_921 : decode cL_law 921 = .ok (.aload_n 1, 1) := dz_at (i := 10) dy_p29c_4 rfl
theorem dL_law_922 : decode cL_law 922 = .ok (.aload_n 0, 1) := dz_at (i := 11) dy_p29c_4 rfl
theorem dL_law_923 : decode cL_law 923 = .ok (.iload 4, 2) := dz_at (i := 12) dy_p29c_4 rfl
theorem dL_law_925 : decode cL_law 925 = .ok (.iconst 1, 1) := dz_at (i := 13) dy_p29c_4 rfl
theorem dL_law_926 : decode cL_law 926 = .ok (.iadd, 1) := dz_at (i := 14) dy_p29c_4 rfl
theorem dL_law_927 : decode cL_law 927 = .ok (.iaload, 1) := dz_at (i := 15) dy_p29c_4 rfl
theorem dL_law_928 : decode cL_law 928 = .ok (.aload_n 0, 1) := dz_at (i := 16) dy_p29c_4 rfl
theorem dL_law_929 : decode cL_law 929 = .ok (.iload 4, 2) := dz_at (i := 17) dy_p29c_4 rfl
theorem dL_law_931 : decode cL_law 931 = .ok (.iconst 2, 1) := dz_at (i := 18) dy_p29c_4 rfl
theorem dL_law_932 : decode cL_law 932 = .ok (.iadd, 1) := dz_at (i := 19) dy_p29c_4 rfl
theorem dL_law_933 : decode cL_law 933 = .ok (.iaload, 1) := dz_at (i := 20) dy_p29c_4 rfl
theorem dL_law_934 : decode cL_law 934 = .ok (.aload_n 3, 1) := dz_at (i := 21) dy_p29c_4 rfl
theorem dL_law_935 : decode cL_law 935 = .ok (.invokestatic 231, 3) := dz_at (i := 22) dy_p29c_4 rfl
theorem dL_law_938 : decode cL_law 938 = .ok (.istore 5, 2) := dz_at (i := 23) dy_p29c_4 rfl
theorem dL_law_940 : decode cL_law 940 = .ok (.aload_n 2, 1) := dz_at (i := 24) dy_p29c_4 rfl
theorem dL_law_941 : decode cL_law 941 = .ok (.aload_n 0, 1) := dz_at (i := 25) dy_p29c_4 rfl
theorem dL_law_942 : decode cL_law 942 = .ok (.iload 4, 2) := dz_at (i := 26) dy_p29c_4 rfl
theorem dL_law_944 : decode cL_law 944 = .ok (.iconst 1, 1) := dz_at (i := 27) dy_p29c_4 rfl
theorem dL_law_945 : decode cL_law 945 = .ok (.iadd, 1) := dz_at (i := 28) dy_p29c_4 rfl
theorem dL_law_946 : decode cL_law 946 = .ok (.iaload, 1) := dz_at (i := 29) dy_p29c_4 rfl
theorem dL_law_947 : decode cL_law 947 = .ok (.aload_n 0, 1) := dz_at (i := 30) dy_p29c_4 rfl
theorem dL_law_948 : decode cL_law 948 = .ok (.iload 4, 2) := dz_at (i := 31) dy_p29c_4 rfl
theorem dL_law_950 : decode cL_law 950 = .ok (.iconst 2, 1) := dz_at (i := 32) dy_p29c_4 rfl
theorem dL_law_951 : decode cL_law 951 = .ok (.iadd, 1) := dz_at (i := 33) dy_p29c_4 rfl
theorem dL_law_952 : decode cL_law 952 = .ok (.iaload, 1) := dz_at (i := 34) dy_p29c_4 rfl
theorem dL_law_953 : decode cL_law 953 = .ok (.invokevirtual 233, 3) := dz_at (i := 35) dy_p29c_4 rfl
theorem dL_law_956 : decode cL_law 956 = .ok (.istore 6, 2) := dz_at (i := 36) dy_p29c_4 rfl
theorem dL_law_958 : decode cL_law 958 = .ok (.goto 1310, 3) := dz_at (i := 37) dy_p29c_4 rfl
theorem dL_law_961 : decode cL_law 961 = .ok (.aload_n 1, 1) := dz_at (i := 38) dy_p29c_4 rfl
theorem dL_law_962 : decode cL_law 962 = .ok (.aload_n 0, 1) := dz_at (i := 39) dy_p29c_4 rfl
noncomputable def dz_p29c_5 : List (Nat × Instr × Nat) := [(963, (.iload 4, 2)), (965, (.iconst 1, 1)), (966, (.iadd, 1)), (967, (.iaload, 1)), (968, (.aload_n 0, 1)), (969, (.iload 4, 2)), (971, (.iconst 2, 1)), (972, (.iadd, 1)), (973, (.iaload, 1)), (974, (.aload_n 3, 1)), (975, (.invokestatic 234, 3)), (978, (.istore 5, 2)), (980, (.aload_n 2, 1)), (981, (.aload_n 0, 1)), (982, (.iload 4, 2)), (984, (.iconst 1, 1)), (985, (.iadd, 1)), (986, (.iaload, 1)), (987, (.aload_n 0, 1)), (988, (.iload 4, 2))]
theorem dy_p29c_5 : dz_ok cL_law dz_p29c_5 = true := by decide +kernel
theorem dL_law_963 : decode cL_law 963 = .ok (.iload 4, 2) := dz_at (i := 0) dy_p29c_5 rfl
theorem dL_law_965 : decode cL_law 965 = .ok (.iconst 1, 1) := dz_at (i := 1) dy_p29c_5 rfl
theorem dL_law_966 : decode cL_law 966 = .ok (.iadd, 1) := dz_at (i := 2) dy_p29c_5 rfl
theorem dL_law_967 : decode cL_law 967 = .ok (.iaload, 1) := dz_at (i := 3) dy_p29c_5 rfl
theorem dL_law_968 : decode cL_law 968 = .ok (.aload_n 0, 1) := dz_at (i := 4) dy_p29c_5 rfl
theorem dL_law_969 : decode cL_law 969 = .ok (.iload 4, 2) := dz_at (i := 5) dy_p29c_5 rfl
theorem dL_law_971 : decode cL_law 971 = .ok (.iconst 2, 1) := dz_at (i := 6) dy_p29c_5 rfl
theorem dL_law_972 : decode cL_law 972 = .ok (.iadd, 1) := dz_at (i := 7) dy_p29c_5 rfl
theorem dL_law_973 : decode cL_law 973 = .ok (.iaload, 1) := dz_at (i := 8) dy_p29c_5 rfl
theorem dL_law_974 : decode cL_law 974 = .ok (.aload_n 3, 1) := dz_at (i := 9) dy_p29c_5 rfl
theorem dL_law_975 : decode cL_law 975 = .ok (.invokestatic 234, 3) := dz_at (i := 10) dy_p29c_5 rfl
theorem dL_law_978 : decode cL_law 978 = .ok (.istore 5, 2) := dz_at (i := 11) dy_p29c_5 rfl
theorem dL_law_980 : decode cL_law 980 = .ok (.aload_n 2, 1) := dz_at (i := 12) dy_p29c_5 rfl
theorem dL_law_981 : decode cL_law 981 = .ok (.aload_n 0, 1) := dz_at (i := 13) dy_p29c_5 rfl
theorem dL_law_982 : decode cL_law 982 = .ok (.iload 4, 2) := dz_at (i := 14) dy_p29c_5 rfl
theorem dL_law_984 : decode cL_law 984 = .ok (.iconst 1, 1) := dz_at (i := 15) dy_p29c_5 rfl
theorem dL_law_985 : decode cL_law 985 = .ok (.iadd, 1) := dz_at (i := 16) dy_p29c_5 rfl
theorem dL_law_986 : decode cL_law 986 = .ok (.iaload, 1) := dz_at (i := 17) dy_p29c_5 rfl
theorem dL_law_987 : decode cL_law 987 = .ok (.aload_n 0, 1) := dz_at (i := 18) dy_p29c_5 rfl
theorem dL_law_988 : decode cL_law 988 = .ok (.iload 4, 2) := dz_at (i := 19) dy_p29c_5 rfl
