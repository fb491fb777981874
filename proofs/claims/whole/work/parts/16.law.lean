noncomputable abbrev cw_831 : Cond := Cond.classLink RL 19 "java/lang/IndexOutOfBoundsException"
noncomputable abbrev cw_832 : Cond := Cond.methodLink RL 7 yX2_putWide
noncomputable abbrev cw_833 : Cond := Cond.instanceMethod yX2_putWide
noncomputable abbrev cw_834 : Cond := Cond.selects RX2 yX2_putWide yX2_putWide
noncomputable abbrev cw_835 : Cond := Cond.code yX2_putWide cX2_putWide 4 (some .int)
noncomputable def wsL_putWide_r1 : List Cond := [cw_831, cw_832, cw_833, cw_834, cw_24, cw_835, cw_385, cw_394, cw_395, cw_396, cw_397, cw_33, cw_398, cw_3, cw_23, cw_25, cw_7, cw_8, cw_26, cw_27, cw_28, cw_15, cw_29, cw_10]
noncomputable def wsL_putWide_r2 : List Cond := [cw_12, cw_13, cw_14, cw_16, cw_9, cw_17, cw_18, cw_19, cw_20, cw_11, cw_30, cw_31, cw_32, cw_34, cw_21, cw_35, cw_36, cw_37, cw_38, cw_22, cw_5]
noncomputable def wsL_putWide : List Cond := .codeWith yL_putWide cL_putWide 6 (some .int) [(0, 13, 16, 19)] :: ((wsL_putWide_r1 ++ wsL_putWide_r2) ++ wsX30 ++ wsX20 ++ wsX00 ++ wsX10 ++ (vx_atS RX2 152 "java/lang/IndexOutOfBoundsException" ["java/lang/RuntimeException", "java/lang/Exception"]).filter goodWord)
noncomputable abbrev cw_836 : Cond := Cond.classLink RL 25 "java/lang/IllegalArgumentException"
noncomputable abbrev cw_837 : Cond := Cond.methodLink RL 21 yX2_wideQuarters
noncomputable abbrev cw_838 : Cond := Cond.instanceMethod yX2_wideQuarters
noncomputable abbrev cw_839 : Cond := Cond.selects RX2 yX2_wideQuarters yX2_wideQuarters
noncomputable abbrev cw_840 : Cond := Cond.code yX2_wideQuarters cX2_wideQuarters 3 (some .int)
noncomputable def wsL_wideQuarters_r1 : List Cond := [cw_831, cw_836, cw_837, cw_838, cw_839, cw_24, cw_840, cw_385, cw_399, cw_400, cw_401, cw_33, cw_402, cw_45, cw_46, cw_3, cw_23, cw_25, cw_7, cw_8, cw_47, cw_48, cw_49, cw_15]
noncomputable def wsL_wideQuarters_r2 : List Cond := [cw_50, cw_39, cw_9, cw_11, cw_40, cw_41, cw_42, cw_43, cw_44, cw_35, cw_36, cw_37, cw_38, cw_22, cw_5]
noncomputable def wsL_wideQuarters : List Cond := .codeWith yL_wideQuarters cL_wideQuarters 5 (some .int) [(0, 11, 14, 19), (0, 11, 18, 25)] :: ((wsL_wideQuarters_r1 ++ wsL_wideQuarters_r2) ++ wsX30 ++ wsX20 ++ wsX00 ++ wsX10 ++ (vx_atS RX0 48 "java/lang/IllegalArgumentException" ["java/lang/RuntimeException", "java/lang/Exception"]).filter goodWord ++ (vx_atS RX2 152 "java/lang/IndexOutOfBoundsException" ["java/lang/RuntimeException", "java/lang/Exception"]).filter goodWord)
noncomputable abbrev cw_841 : Cond := Cond.methodLink RL 27 yX2_wideKnown
noncomputable abbrev cw_842 : Cond := Cond.instanceMethod yX2_wideKnown
noncomputable abbrev cw_843 : Cond := Cond.selects RX2 yX2_wideKnown yX2_wideKnown
noncomputable abbrev cw_844 : Cond := Cond.code yX2_wideKnown cX2_wideKnown 3 (some .int)
noncomputable def wsL_wideKnown_r1 : List Cond := [cw_831, cw_836, cw_841, cw_842, cw_843, cw_24, cw_844, cw_385, cw_403, cw_404, cw_405, cw_33, cw_406, cw_3, cw_23, cw_25, cw_7, cw_8, cw_52, cw_53, cw_51, cw_46, cw_54, cw_55]
noncomputable def wsL_wideKnown_r2 : List Cond := [cw_56, cw_15, cw_57, cw_10, cw_9, cw_40, cw_35, cw_36, cw_37, cw_38, cw_22, cw_5]
noncomputable def wsL_wideKnown : List Cond := .codeWith yL_wideKnown cL_wideKnown 5 (some .int) [(0, 11, 14, 19), (0, 11, 18, 25)] :: ((wsL_wideKnown_r1 ++ wsL_wideKnown_r2) ++ wsX30 ++ wsX20 ++ wsX00 ++ wsX10 ++ (vx_atS RX2 152 "java/lang/IndexOutOfBoundsException" ["java/lang/RuntimeException", "java/lang/Exception"]).filter goodWord ++ (vx_atS RX2 159 "java/lang/IllegalArgumentException" ["java/lang/RuntimeException", "java/lang/Exception"]).filter goodWord)
noncomputable abbrev cw_845 : Cond := Cond.methodLink RL 30 yX2_wideCopy
noncomputable abbrev cw_846 : Cond := Cond.instanceMethod yX2_wideCopy
noncomputable abbrev cw_847 : Cond := Cond.selects RX2 yX2_wideCopy yX2_wideCopy
noncomputable abbrev cw_848 : Cond := Cond.code yX2_wideCopy cX2_wideCopy 3 (some .int)
noncomputable def wsL_wideCopy : List Cond := .codeWith yL_wideCopy cL_wideCopy 5 (some .int) [(0, 11, 14, 19)] :: ([cw_831, cw_845, cw_846, cw_847, cw_24, cw_848, cw_385, cw_407, cw_408, cw_409, cw_33, cw_410, cw_5, cw_23, cw_25, cw_7, cw_8, cw_35, cw_36, cw_37, cw_38, cw_22] ++ wsX30 ++ wsX20 ++ wsX00 ++ (vx_atS RX2 152 "java/lang/IndexOutOfBoundsException" ["java/lang/RuntimeException", "java/lang/Exception"]).filter goodWord)
noncomputable abbrev cw_849 : Cond := Cond.methodLink RL 33 yX2_wideSwap
noncomputable abbrev cw_850 : Cond := Cond.instanceMethod yX2_wideSwap
noncomputable abbrev cw_851 : Cond := Cond.selects RX2 yX2_wideSwap yX2_wideSwap
noncomputable abbrev cw_852 : Cond := Cond.code yX2_wideSwap cX2_wideSwap 3 (some .int)
noncomputable def wsL_wideSwap : List Cond := .codeWith yL_wideSwap cL_wideSwap 5 (some .int) [(0, 11, 14, 19)] :: ([cw_831, cw_849, cw_850, cw_851, cw_24, cw_852, cw_385, cw_411, cw_412, cw_413, cw_33, cw_414, cw_5, cw_23, cw_25, cw_7, cw_8, cw_35, cw_36, cw_37, cw_38, cw_22] ++ wsX30 ++ wsX20 ++ wsX00 ++ (vx_atS RX2 152 "java/lang/IndexOutOfBoundsException" ["java/lang/RuntimeException", "java/lang/Exception"]).filter goodWord)
noncomputable abbrev cw_853 : Cond := Cond.methodLink RL 36 yX2_wideMax
noncomputable abbrev cw_854 : Cond := Cond.instanceMethod yX2_wideMax
noncomputable abbrev cw_855 : Cond := Cond.selects RX2 yX2_wideMax yX2_wideMax
noncomputable abbrev cw_856 : Cond := Cond.code yX2_wideMax cX2_wideMax 4 (some .int)
noncomputable def wsL_wideMax_r1 : List Cond := [cw_831, cw_853, cw_854, cw_855, cw_24, cw_856, cw_385, cw_415, cw_416, cw_417, cw_33, cw_418, cw_3, cw_5, cw_67, cw_68, cw_69, cw_23, cw_25, cw_7, cw_8, cw_70, cw_71, cw_72]
noncomputable def wsL_wideMax_r2 : List Cond := [cw_15, cw_73, cw_63, cw_64, cw_65, cw_66, cw_59, cw_60, cw_61, cw_62, cw_58, cw_40, cw_35, cw_36, cw_37, cw_38, cw_22]
noncomputable def wsL_wideMax : List Cond := .codeWith yL_wideMax cL_wideMax 6 (some .int) [(0, 13, 16, 19)] :: ((wsL_wideMax_r1 ++ wsL_wideMax_r2) ++ wsX30 ++ wsX20 ++ wsX00 ++ wsX10 ++ (vx_atS RX2 152 "java/lang/IndexOutOfBoundsException" ["java/lang/RuntimeException", "java/lang/Exception"]).filter goodWord)
noncomputable abbrev cw_857 : Cond := Cond.methodLink RL 39 yX2_wideMin
noncomputable abbrev cw_858 : Cond := Cond.instanceMethod yX2_wideMin
noncomputable abbrev cw_859 : Cond := Cond.selects RX2 yX2_wideMin yX2_wideMin
noncomputable abbrev cw_860 : Cond := Cond.code yX2_wideMin cX2_wideMin 4 (some .int)
noncomputable def wsL_wideMin_r1 : List Cond := [cw_831, cw_857, cw_858, cw_859, cw_24, cw_860, cw_385, cw_419, cw_420, cw_421, cw_33, cw_422, cw_3, cw_5, cw_67, cw_68, cw_69, cw_23, cw_25, cw_7, cw_8, cw_74, cw_75, cw_76]
noncomputable def wsL_wideMin_r2 : List Cond := [cw_15, cw_77, cw_63, cw_64, cw_65, cw_66, cw_59, cw_60, cw_61, cw_62, cw_58, cw_40, cw_35, cw_36, cw_37, cw_38, cw_22]
noncomputable def wsL_wideMin : List Cond := .codeWith yL_wideMin cL_wideMin 6 (some .int) [(0, 13, 16, 19)] :: ((wsL_wideMin_r1 ++ wsL_wideMin_r2) ++ wsX30 ++ wsX20 ++ wsX00 ++ wsX10 ++ (vx_atS RX2 152 "java/lang/IndexOutOfBoundsException" ["java/lang/RuntimeException", "java/lang/Exception"]).filter goodWord)
noncomputable abbrev cw_861 : Cond := Cond.methodLink RL 42 yX2_wideSum
noncomputable abbrev cw_862 : Cond := Cond.instanceMethod yX2_wideSum
noncomputable abbrev cw_863 : Cond := Cond.selects RX2 yX2_wideSum yX2_wideSum
noncomputable abbrev cw_864 : Cond := Cond.code yX2_wideSum cX2_wideSum 4 (some .int)
noncomputable def wsL_wideSum_r1 : List Cond := [cw_831, cw_861, cw_862, cw_863, cw_24, cw_864, cw_385, cw_423, cw_424, cw_425, cw_33, cw_426, cw_3, cw_5, cw_67, cw_68, cw_69, cw_23, cw_25, cw_7, cw_8, cw_101, cw_102, cw_103]
noncomputable def wsL_wideSum_r2 : List Cond := [cw_15, cw_104, cw_78, cw_92, cw_93, cw_94, cw_95, cw_10, cw_12, cw_13, cw_14, cw_16, cw_9, cw_17, cw_18, cw_19, cw_20, cw_11, cw_96, cw_97, cw_98, cw_99, cw_79, cw_88]
noncomputable def wsL_wideSum_r3 : List Cond := [cw_89, cw_90, cw_91, cw_39, cw_80, cw_81, cw_82, cw_83, cw_58, cw_41, cw_42, cw_43, cw_44, cw_84, cw_85, cw_86, cw_87, cw_40, cw_30, cw_31, cw_32, cw_34, cw_21, cw_105]
noncomputable def wsL_wideSum_r4 : List Cond := [cw_106, cw_107, cw_108, cw_100, cw_48, cw_49, cw_50, cw_35, cw_36, cw_37, cw_38, cw_22]
noncomputable def wsL_wideSum : List Cond := .codeWith yL_wideSum cL_wideSum 6 (some .int) [(0, 13, 16, 19)] :: ((wsL_wideSum_r1 ++ (wsL_wideSum_r2 ++ (wsL_wideSum_r3 ++ wsL_wideSum_r4))) ++ wsX30 ++ wsX20 ++ wsX00 ++ wsX10 ++ (vx_atS RX2 152 "java/lang/IndexOutOfBoundsException" ["java/lang/RuntimeException", "java/lang/Exception"]).filter goodWord)
noncomputable abbrev cw_865 : Cond := Cond.methodLink RL 45 yX2_wideSort
noncomputable abbrev cw_866 : Cond := Cond.instanceMethod yX2_wideSort
noncomputable abbrev cw_867 : Cond := Cond.selects RX2 yX2_wideSort yX2_wideSort
noncomputable abbrev cw_868 : Cond := Cond.code yX2_wideSort cX2_wideSort 2 (some .int)
noncomputable def wsL_wideSort_r1 : List Cond := [cw_836, cw_865, cw_866, cw_867, cw_24, cw_868, cw_385, cw_427, cw_428, cw_429, cw_33, cw_430, cw_22, cw_5, cw_6, cw_110, cw_111, cw_112, cw_113, cw_52, cw_53, cw_51, cw_46, cw_114]
noncomputable def wsL_wideSort_r2 : List Cond := [cw_115, cw_116, cw_117, cw_3, cw_109, cw_64, cw_65, cw_15, cw_66, cw_59, cw_60, cw_61, cw_62, cw_58, cw_40]
noncomputable def wsL_wideSort : List Cond := .codeWith yL_wideSort cL_wideSort 4 (some .int) [(0, 10, 13, 25)] :: ((wsL_wideSort_r1 ++ wsL_wideSort_r2) ++ wsX30 ++ wsX20 ++ wsX00 ++ wsX10 ++ (vx_atS RX2 159 "java/lang/IllegalArgumentException" ["java/lang/RuntimeException", "java/lang/Exception"]).filter goodWord)
noncomputable abbrev cw_869 : Cond := Cond.methodLink RL 49 yX2_wideEnd
noncomputable abbrev cw_870 : Cond := Cond.instanceMethod yX2_wideEnd
noncomputable abbrev cw_871 : Cond := Cond.selects RX2 yX2_wideEnd yX2_wideEnd
noncomputable abbrev cw_872 : Cond := Cond.code yX2_wideEnd cX2_wideEnd 3 (some .int)
noncomputable def wsL_wideEnd_r1 : List Cond := [cw_831, cw_869, cw_870, cw_871, cw_24, cw_872, cw_385, cw_431, cw_432, cw_433, cw_33, cw_434, cw_5, cw_3, cw_23, cw_25, cw_7, cw_8, cw_70, cw_71, cw_72, cw_15, cw_73, cw_63]
noncomputable def wsL_wideEnd_r2 : List Cond := [cw_64, cw_65, cw_66, cw_59, cw_60, cw_61, cw_62, cw_58, cw_40, cw_74, cw_75, cw_76, cw_77, cw_35, cw_36, cw_37, cw_38, cw_22]
noncomputable def wsL_wideEnd : List Cond := .codeWith yL_wideEnd cL_wideEnd 5 (some .int) [(0, 11, 14, 19)] :: ((wsL_wideEnd_r1 ++ wsL_wideEnd_r2) ++ wsX30 ++ wsX20 ++ wsX00 ++ wsX10 ++ (vx_atS RX2 152 "java/lang/IndexOutOfBoundsException" ["java/lang/RuntimeException", "java/lang/Exception"]).filter goodWord)
noncomputable abbrev cw_873 : Cond := Cond.methodLink RL 53 yX2_upper
noncomputable abbrev cw_874 : Cond := Cond.instanceMethod yX2_upper
noncomputable abbrev cw_875 : Cond := Cond.selects RX2 yX2_upper yX2_upper
noncomputable abbrev cw_876 : Cond := Cond.code yX2_upper cX2_upper 2 (some .int)
noncomputable def wsL_upper : List Cond := .codeWith yL_upper cL_upper 4 (some .int) [(0, 10, 13, 19)] :: ([cw_831, cw_873, cw_874, cw_875, cw_24, cw_876, cw_385, cw_435, cw_436, cw_437, cw_33, cw_438, cw_5, cw_23, cw_25, cw_7, cw_8] ++ wsX30 ++ wsX20 ++ wsX00 ++ (vx_atS RX2 152 "java/lang/IndexOutOfBoundsException" ["java/lang/RuntimeException", "java/lang/Exception"]).filter goodWord)
noncomputable abbrev cw_877 : Cond := Cond.methodLink RL 56 yX2_lower
noncomputable abbrev cw_878 : Cond := Cond.instanceMethod yX2_lower
noncomputable abbrev cw_879 : Cond := Cond.selects RX2 yX2_lower yX2_lower
noncomputable abbrev cw_880 : Cond := Cond.code yX2_lower cX2_lower 2 (some .int)
noncomputable def wsL_lower : List Cond := .codeWith yL_lower cL_lower 4 (some .int) [(0, 10, 13, 19)] :: ([cw_831, cw_877, cw_878, cw_879, cw_24, cw_880, cw_385, cw_439, cw_440, cw_441, cw_33, cw_442, cw_5, cw_23, cw_25, cw_7, cw_8] ++ wsX30 ++ wsX20 ++ wsX00 ++ (vx_atS RX2 152 "java/lang/IndexOutOfBoundsException" ["java/lang/RuntimeException", "java/lang/Exception"]).filter goodWord)
noncomputable abbrev cw_881 : Cond := Cond.methodLink RL 67 yX2_wideOrder
noncomputable abbrev cw_882 : Cond := Cond.instanceMethod yX2_wideOrder
noncomputable abbrev cw_883 : Cond := Cond.selects RX2 yX2_wideOrder yX2_wideOrder
noncomputable abbrev cw_884 : Cond := Cond.code yX2_wideOrder cX2_wideOrder 4 (some .int)
noncomputable def wsL_wideOrder_r1 : List Cond := [cw_831, cw_836, cw_881, cw_882, cw_883, cw_24, cw_884, cw_385, cw_447, cw_341, cw_342, cw_33, cw_343, cw_3, cw_5, cw_23, cw_25, cw_7, cw_8, cw_52, cw_53, cw_51, cw_46, cw_109]
noncomputable def wsL_wideOrder_r2 : List Cond := [cw_64, cw_65, cw_15, cw_66, cw_59, cw_60, cw_61, cw_62, cw_58, cw_40]
noncomputable def wsL_wideOrder : List Cond := .codeWith yL_wideOrder cL_wideOrder 6 (some .int) [(0, 13, 16, 19), (0, 13, 20, 25)] :: ((wsL_wideOrder_r1 ++ wsL_wideOrder_r2) ++ wsX30 ++ wsX20 ++ wsX00 ++ wsX10 ++ (vx_atS RX2 152 "java/lang/IndexOutOfBoundsException" ["java/lang/RuntimeException", "java/lang/Exception"]).filter goodWord ++ (vx_atS RX2 159 "java/lang/IllegalArgumentException" ["java/lang/RuntimeException", "java/lang/Exception"]).filter goodWord)
noncomputable abbrev cw_885 : Cond := Cond.methodLink RL 70 yX2_wideSame
noncomputable abbrev cw_886 : Cond := Cond.instanceMethod yX2_wideSame
noncomputable abbrev cw_887 : Cond := Cond.selects RX2 yX2_wideSame yX2_wideSame
noncomputable abbrev cw_888 : Cond := Cond.code yX2_wideSame cX2_wideSame 4 (some .boolean)
noncomputable def wsL_wideSame_r1 : List Cond := [cw_831, cw_836, cw_885, cw_886, cw_887, cw_24, cw_888, cw_385, cw_448, cw_449, cw_450, cw_33, cw_451, cw_340, cw_341, cw_342, cw_343, cw_3, cw_5, cw_23, cw_25, cw_7, cw_8, cw_52]
noncomputable def wsL_wideSame_r2 : List Cond := [cw_53, cw_51, cw_46, cw_109, cw_64, cw_65, cw_15, cw_66, cw_59, cw_60, cw_61, cw_62, cw_58, cw_40]
noncomputable def wsL_wideSame : List Cond := .codeWith yL_wideSame cL_wideSame 6 (some .int) [(0, 20, 23, 19), (0, 20, 27, 25)] :: ((wsL_wideSame_r1 ++ wsL_wideSame_r2) ++ wsX30 ++ wsX20 ++ wsX00 ++ wsX10 ++ (vx_atS RX2 152 "java/lang/IndexOutOfBoundsException" ["java/lang/RuntimeException", "java/lang/Exception"]).filter goodWord ++ (vx_atS RX2 159 "java/lang/IllegalArgumentException" ["java/lang/RuntimeException", "java/lang/Exception"]).filter goodWord)
noncomputable abbrev cw_889 : Cond := Cond.methodLink RL 74 yX2_wideOther
noncomputable abbrev cw_890 : Cond := Cond.instanceMethod yX2_wideOther
noncomputable abbrev cw_891 : Cond := Cond.selects RX2 yX2_wideOther yX2_wideOther
noncomputable abbrev cw_892 : Cond := Cond.code yX2_wideOther cX2_wideOther 3 (some .boolean)
noncomputable def wsL_wideOther : List Cond := .codeWith yL_wideOther cL_wideOther 5 (some .int) [(0, 18, 21, 19), (0, 18, 25, 25)] :: ([cw_831, cw_836, cw_889, cw_890, cw_891, cw_24, cw_892, cw_385, cw_452, cw_453, cw_454, cw_33, cw_455, cw_23, cw_25, cw_7, cw_8, cw_52, cw_53, cw_51, cw_46] ++ wsX30 ++ wsX20 ++ (vx_atS RX2 152 "java/lang/IndexOutOfBoundsException" ["java/lang/RuntimeException", "java/lang/Exception"]).filter goodWord ++ (vx_atS RX2 159 "java/lang/IllegalArgumentException" ["java/lang/RuntimeException", "java/lang/Exception"]).filter goodWord)
noncomputable abbrev cw_893 : Cond := Cond.methodLink RL 78 yX2_wideLike
noncomputable abbrev cw_894 : Cond := Cond.instanceMethod yX2_wideLike
noncomputable abbrev cw_895 : Cond := Cond.selects RX2 yX2_wideLike yX2_wideLike
noncomputable abbrev cw_896 : Cond := Cond.code yX2_wideLike cX2_wideLike 3 (some .boolean)
noncomputable def wsL_wideLike_r1 : List Cond := [cw_831, cw_893, cw_894, cw_895, cw_24, cw_896, cw_385, cw_456, cw_457, cw_458, cw_33, cw_459, cw_3, cw_5, cw_23, cw_25, cw_7, cw_8, cw_348, cw_349, cw_350, cw_15, cw_351, cw_344]
noncomputable def wsL_wideLike_r2 : List Cond := [cw_345, cw_346, cw_347, cw_58, cw_40]
noncomputable def wsL_wideLike : List Cond := .codeWith yL_wideLike cL_wideLike 5 (some .int) [(0, 18, 21, 19)] :: ((wsL_wideLike_r1 ++ wsL_wideLike_r2) ++ wsX30 ++ wsX20 ++ wsX00 ++ wsX10 ++ (vx_atS RX2 152 "java/lang/IndexOutOfBoundsException" ["java/lang/RuntimeException", "java/lang/Exception"]).filter goodWord)
noncomputable abbrev cw_897 : Cond := Cond.methodLink RL 81 yX2_wideBelow
noncomputable abbrev cw_898 : Cond := Cond.instanceMethod yX2_wideBelow
noncomputable abbrev cw_899 : Cond := Cond.selects RX2 yX2_wideBelow yX2_wideBelow
noncomputable abbrev cw_900 : Cond := Cond.code yX2_wideBelow cX2_wideBelow 4 (some .boolean)
noncomputable def wsL_wideBelow_r1 : List Cond := [cw_831, cw_897, cw_898, cw_899, cw_24, cw_900, cw_385, cw_460, cw_461, cw_462, cw_33, cw_463, cw_3, cw_5, cw_23, cw_25, cw_7, cw_8, cw_352, cw_353, cw_354, cw_15, cw_355, cw_344]
noncomputable def wsL_wideBelow_r2 : List Cond := [cw_345, cw_346, cw_347, cw_58, cw_40, cw_348, cw_349, cw_350, cw_351]
noncomputable def wsL_wideBelow : List Cond := .codeWith yL_wideBelow cL_wideBelow 6 (some .int) [(0, 20, 23, 19)] :: ((wsL_wideBelow_r1 ++ wsL_wideBelow_r2) ++ wsX30 ++ wsX20 ++ wsX00 ++ wsX10 ++ (vx_atS RX2 152 "java/lang/IndexOutOfBoundsException" ["java/lang/RuntimeException", "java/lang/Exception"]).filter goodWord)
noncomputable abbrev cw_901 : Cond := Cond.methodLink RL 85 yX2_wideHash
noncomputable abbrev cw_902 : Cond := Cond.instanceMethod yX2_wideHash
noncomputable abbrev cw_903 : Cond := Cond.selects RX2 yX2_wideHash yX2_wideHash
noncomputable abbrev cw_904 : Cond := Cond.code yX2_wideHash cX2_wideHash 3 (some .int)
noncomputable def wsL_wideHash_r1 : List Cond := [cw_831, cw_836, cw_901, cw_902, cw_903, cw_24, cw_904, cw_385, cw_464, cw_465, cw_466, cw_33, cw_467, cw_3, cw_5, cw_23, cw_25, cw_7, cw_8, cw_52, cw_53, cw_51, cw_46, cw_356]
noncomputable def wsL_wideHash_r2 : List Cond := [cw_357, cw_358, cw_15, cw_359]
noncomputable def wsL_wideHash : List Cond := .codeWith yL_wideHash cL_wideHash 5 (some .int) [(0, 11, 14, 19), (0, 11, 18, 25)] :: ((wsL_wideHash_r1 ++ wsL_wideHash_r2) ++ wsX30 ++ wsX20 ++ wsX00 ++ (vx_atS RX2 152 "java/lang/IndexOutOfBoundsException" ["java/lang/RuntimeException", "java/lang/Exception"]).filter goodWord ++ (vx_atS RX2 159 "java/lang/IllegalArgumentException" ["java/lang/RuntimeException", "java/lang/Exception"]).filter goodWord)
noncomputable abbrev cw_905 : Cond := Cond.methodLink RL 88 yX2_wideEndless
noncomputable abbrev cw_906 : Cond := Cond.instanceMethod yX2_wideEndless
noncomputable abbrev cw_907 : Cond := Cond.selects RX2 yX2_wideEndless yX2_wideEndless
noncomputable abbrev cw_908 : Cond := Cond.code yX2_wideEndless cX2_wideEndless 3 (some .boolean)
noncomputable def wsL_wideEndless_r1 : List Cond := [cw_831, cw_836, cw_905, cw_906, cw_907, cw_24, cw_908, cw_385, cw_468, cw_469, cw_470, cw_33, cw_471, cw_3, cw_5, cw_23, cw_25, cw_7, cw_8, cw_52, cw_53, cw_51, cw_46, cw_360]
noncomputable def wsL_wideEndless_r2 : List Cond := [cw_93, cw_94, cw_15, cw_95, cw_10, cw_12, cw_13, cw_14, cw_16, cw_9, cw_17, cw_18, cw_19, cw_20, cw_11]
noncomputable def wsL_wideEndless : List Cond := .codeWith yL_wideEndless cL_wideEndless 5 (some .int) [(0, 18, 21, 19), (0, 18, 25, 25)] :: ((wsL_wideEndless_r1 ++ wsL_wideEndless_r2) ++ wsX30 ++ wsX20 ++ wsX00 ++ wsX10 ++ (vx_atS RX2 152 "java/lang/IndexOutOfBoundsException" ["java/lang/RuntimeException", "java/lang/Exception"]).filter goodWord ++ (vx_atS RX2 159 "java/lang/IllegalArgumentException" ["java/lang/RuntimeException", "java/lang/Exception"]).filter goodWord)
noncomputable abbrev cw_909 : Cond := Cond.methodLink RL 91 yX2_wideCount
noncomputable abbrev cw_910 : Cond := Cond.instanceMethod yX2_wideCount
noncomputable abbrev cw_911 : Cond := Cond.selects RX2 yX2_wideCount yX2_wideCount
noncomputable abbrev cw_912 : Cond := Cond.code yX2_wideCount cX2_wideCount 2 (some .int)
noncomputable def wsL_wideCount_r1 : List Cond := [cw_831, cw_909, cw_910, cw_911, cw_24, cw_912, cw_385, cw_472, cw_473, cw_474, cw_33, cw_475, cw_3, cw_5, cw_23, cw_25, cw_7, cw_8, cw_361, cw_89, cw_90, cw_15, cw_91, cw_39]
noncomputable def wsL_wideCount_r2 : List Cond := [cw_78, cw_79, cw_9, cw_80, cw_81, cw_82, cw_83, cw_58, cw_12, cw_13, cw_14, cw_16, cw_10, cw_41, cw_42, cw_43, cw_44, cw_17, cw_18, cw_19, cw_20, cw_11, cw_84, cw_85]
noncomputable def wsL_wideCount_r3 : List Cond := [cw_86, cw_87, cw_40]
noncomputable def wsL_wideCount : List Cond := .codeWith yL_wideCount cL_wideCount 4 (some .int) [(0, 10, 13, 19)] :: ((wsL_wideCount_r1 ++ (wsL_wideCount_r2 ++ wsL_wideCount_r3)) ++ wsX30 ++ wsX20 ++ wsX00 ++ wsX10 ++ (vx_atS RX2 152 "java/lang/IndexOutOfBoundsException" ["java/lang/RuntimeException", "java/lang/Exception"]).filter goodWord)
noncomputable abbrev cw_913 : Cond := Cond.methodLink RL 94 yX2_wideFind
noncomputable abbrev cw_914 : Cond := Cond.instanceMethod yX2_wideFind
noncomputable abbrev cw_915 : Cond := Cond.selects RX2 yX2_wideFind yX2_wideFind
noncomputable abbrev cw_916 : Cond := Cond.code yX2_wideFind cX2_wideFind 3 (some .int)
noncomputable def wsL_wideFind : List Cond := .codeWith yL_wideFind cL_wideFind 5 (some .int) [(0, 11, 14, 19)] :: ([cw_831, cw_913, cw_914, cw_915, cw_24, cw_916, cw_385, cw_476, cw_477, cw_478, cw_33, cw_479, cw_5, cw_23, cw_25, cw_7, cw_8] ++ wsX30 ++ wsX20 ++ wsX00 ++ (vx_atS RX2 152 "java/lang/IndexOutOfBoundsException" ["java/lang/RuntimeException", "java/lang/Exception"]).filter goodWord)
noncomputable abbrev cw_917 : Cond := Cond.methodLink RL 98 yX2_wideHas
noncomputable abbrev cw_918 : Cond := Cond.instanceMethod yX2_wideHas
noncomputable abbrev cw_919 : Cond := Cond.selects RX2 yX2_wideHas yX2_wideHas
noncomputable abbrev cw_920 : Cond := Cond.code yX2_wideHas cX2_wideHas 2 (some .boolean)
noncomputable def wsL_wideHas_r1 : List Cond := [cw_836, cw_917, cw_918, cw_919, cw_24, cw_920, cw_385, cw_480, cw_481, cw_482, cw_33, cw_483, cw_3, cw_5, cw_52, cw_53, cw_51, cw_46, cw_54, cw_55, cw_56, cw_15, cw_57, cw_10]
noncomputable def wsL_wideHas_r2 : List Cond := [cw_9, cw_40]
noncomputable def wsL_wideHas : List Cond := .codeWith yL_wideHas cL_wideHas 4 (some .int) [(0, 17, 20, 25)] :: ((wsL_wideHas_r1 ++ wsL_wideHas_r2) ++ wsX30 ++ wsX20 ++ wsX00 ++ wsX10 ++ (vx_atS RX2 159 "java/lang/IllegalArgumentException" ["java/lang/RuntimeException", "java/lang/Exception"]).filter goodWord)
noncomputable abbrev cw_921 : Cond := Cond.methodLink RL 102 yX2_putNarrow
noncomputable abbrev cw_922 : Cond := Cond.instanceMethod yX2_putNarrow
noncomputable abbrev cw_923 : Cond := Cond.selects RX2 yX2_putNarrow yX2_putNarrow
noncomputable abbrev cw_924 : Cond := Cond.code yX2_putNarrow cX2_putNarrow 3 (some .int)
noncomputable def wsL_putNarrow_r1 : List Cond := [cw_831, cw_921, cw_922, cw_923, cw_24, cw_924, cw_387, cw_394, cw_395, cw_396, cw_397, cw_33, cw_398, cw_3, cw_23, cw_25, cw_7, cw_8, cw_26, cw_27, cw_28, cw_15, cw_29, cw_10]
noncomputable def wsL_putNarrow_r2 : List Cond := [cw_12, cw_13, cw_14, cw_16, cw_9, cw_17, cw_18, cw_19, cw_20, cw_11, cw_30, cw_31, cw_32, cw_34, cw_21, cw_35, cw_36, cw_37, cw_38, cw_22, cw_5]
noncomputable def wsL_putNarrow : List Cond := .codeWith yL_putNarrow cL_putNarrow 5 (some .int) [(0, 11, 14, 19)] :: ((wsL_putNarrow_r1 ++ wsL_putNarrow_r2) ++ wsX30 ++ wsX20 ++ wsX00 ++ wsX10 ++ (vx_atS RX2 152 "java/lang/IndexOutOfBoundsException" ["java/lang/RuntimeException", "java/lang/Exception"]).filter goodWord)
noncomputable abbrev cw_925 : Cond := Cond.methodLink RL 105 yX2_narrowQuarters
noncomputable abbrev cw_926 : Cond := Cond.instanceMethod yX2_narrowQuarters
noncomputable abbrev cw_927 : Cond := Cond.selects RX2 yX2_narrowQuarters yX2_narrowQuarters
noncomputable abbrev cw_928 : Cond := Cond.code yX2_narrowQuarters cX2_narrowQuarters 3 (some .int)
noncomputable def wsL_narrowQuarters_r1 : List Cond := [cw_831, cw_836, cw_925, cw_926, cw_927, cw_24, cw_928, cw_387, cw_399, cw_400, cw_401, cw_33, cw_402, cw_45, cw_46, cw_3, cw_23, cw_25, cw_7, cw_8, cw_47, cw_48, cw_49, cw_15]
noncomputable def wsL_narrowQuarters_r2 : List Cond := [cw_50, cw_39, cw_9, cw_11, cw_40, cw_41, cw_42, cw_43, cw_44, cw_35, cw_36, cw_37, cw_38, cw_22, cw_5]
noncomputable def wsL_narrowQuarters : List Cond := .codeWith yL_narrowQuarters cL_narrowQuarters 5 (some .int) [(0, 11, 14, 19), (0, 11, 18, 25)] :: ((wsL_narrowQuarters_r1 ++ wsL_narrowQuarters_r2) ++ wsX30 ++ wsX20 ++ wsX00 ++ wsX10 ++ (vx_atS RX0 48 "java/lang/IllegalArgumentException" ["java/lang/RuntimeException", "java/lang/Exception"]).filter goodWord ++ (vx_atS RX2 152 "java/lang/IndexOutOfBoundsException" ["java/lang/RuntimeException", "java/lang/Exception"]).filter goodWord)
noncomputable abbrev cw_929 : Cond := Cond.methodLink RL 108 yX2_narrowKnown
noncomputable abbrev cw_930 : Cond := Cond.instanceMethod yX2_narrowKnown
noncomputable abbrev cw_931 : Cond := Cond.selects RX2 yX2_narrowKnown yX2_narrowKnown
noncomputable abbrev cw_932 : Cond := Cond.code yX2_narrowKnown cX2_narrowKnown 3 (some .int)
noncomputable def wsL_narrowKnown_r1 : List Cond := [cw_831, cw_836, cw_929, cw_930, cw_931, cw_24, cw_932, cw_387, cw_403, cw_404, cw_405, cw_33, cw_406, cw_3, cw_23, cw_25, cw_7, cw_8, cw_52, cw_53, cw_51, cw_46, cw_54, cw_55]
noncomputable def wsL_narrowKnown_r2 : List Cond := [cw_56, cw_15, cw_57, cw_10, cw_9, cw_40, cw_35, cw_36, cw_37, cw_38, cw_22, cw_5]
noncomputable def wsL_narrowKnown : List Cond := .codeWith yL_narrowKnown cL_narrowKnown 5 (some .int) [(0, 11, 14, 19), (0, 11, 18, 25)] :: ((wsL_narrowKnown_r1 ++ wsL_narrowKnown_r2) ++ wsX30 ++ wsX20 ++ wsX00 ++ wsX10 ++ (vx_atS RX2 152 "java/lang/IndexOutOfBoundsException" ["java/lang/RuntimeException", "java/lang/Exception"]).filter goodWord ++ (vx_atS RX2 159 "java/lang/IllegalArgumentException" ["java/lang/RuntimeException", "java/lang/Exception"]).filter goodWord)
noncomputable abbrev cw_933 : Cond := Cond.methodLink RL 111 yX2_narrowCopy
noncomputable abbrev cw_934 : Cond := Cond.instanceMethod yX2_narrowCopy
noncomputable abbrev cw_935 : Cond := Cond.selects RX2 yX2_narrowCopy yX2_narrowCopy
noncomputable abbrev cw_936 : Cond := Cond.code yX2_narrowCopy cX2_narrowCopy 3 (some .int)
noncomputable def wsL_narrowCopy : List Cond := .codeWith yL_narrowCopy cL_narrowCopy 5 (some .int) [(0, 11, 14, 19)] :: ([cw_831, cw_933, cw_934, cw_935, cw_24, cw_936, cw_387, cw_407, cw_408, cw_409, cw_33, cw_410, cw_5, cw_23, cw_25, cw_7, cw_8, cw_35, cw_36, cw_37, cw_38, cw_22] ++ wsX30 ++ wsX20 ++ wsX00 ++ (vx_atS RX2 152 "java/lang/IndexOutOfBoundsException" ["java/lang/RuntimeException", "java/lang/Exception"]).filter goodWord)
noncomputable abbrev cw_937 : Cond := Cond.methodLink RL 114 yX2_narrowSwap
noncomputable abbrev cw_938 : Cond := Cond.instanceMethod yX2_narrowSwap
noncomputable abbrev cw_939 : Cond := Cond.selects RX2 yX2_narrowSwap yX2_narrowSwap
noncomputable abbrev cw_940 : Cond := Cond.code yX2_narrowSwap cX2_narrowSwap 3 (some .int)
noncomputable def wsL_narrowSwap : List Cond := .codeWith yL_narrowSwap cL_narrowSwap 5 (some .int) [(0, 11, 14, 19)] :: ([cw_831, cw_937, cw_938, cw_939, cw_24, cw_940, cw_387, cw_411, cw_412, cw_413, cw_33, cw_414, cw_5, cw_23, cw_25, cw_7, cw_8, cw_35, cw_36, cw_37, cw_38, cw_22] ++ wsX30 ++ wsX20 ++ wsX00 ++ (vx_atS RX2 152 "java/lang/IndexOutOfBoundsException" ["java/lang/RuntimeException", "java/lang/Exception"]).filter goodWord)
noncomputable abbrev cw_941 : Cond := Cond.methodLink RL 117 yX2_narrowMax
noncomputable abbrev cw_942 : Cond := Cond.instanceMethod yX2_narrowMax
noncomputable abbrev cw_943 : Cond := Cond.selects RX2 yX2_narrowMax yX2_narrowMax
noncomputable abbrev cw_944 : Cond := Cond.code yX2_narrowMax cX2_narrowMax 4 (some .int)
noncomputable def wsL_narrowMax_r1 : List Cond := [cw_831, cw_941, cw_942, cw_943, cw_24, cw_944, cw_387, cw_415, cw_416, cw_417, cw_33, cw_418, cw_3, cw_5, cw_67, cw_68, cw_69, cw_23, cw_25, cw_7, cw_8, cw_70, cw_71, cw_72]
noncomputable def wsL_narrowMax_r2 : List Cond := [cw_15, cw_73, cw_63, cw_64, cw_65, cw_66, cw_59, cw_60, cw_61, cw_62, cw_58, cw_40, cw_35, cw_36, cw_37, cw_38, cw_22]
noncomputable def wsL_narrowMax : List Cond := .codeWith yL_narrowMax cL_narrowMax 6 (some .int) [(0, 13, 16, 19)] :: ((wsL_narrowMax_r1 ++ wsL_narrowMax_r2) ++ wsX30 ++ wsX20 ++ wsX00 ++ wsX10 ++ (vx_atS RX2 152 "java/lang/IndexOutOfBoundsException" ["java/lang/RuntimeException", "java/lang/Exception"]).filter goodWord)
noncomputable abbrev cw_945 : Cond := Cond.methodLink RL 120 yX2_narrowMin
noncomputable abbrev cw_946 : Cond := Cond.instanceMethod yX2_narrowMin
noncomputable abbrev cw_947 : Cond := Cond.selects RX2 yX2_narrowMin yX2_narrowMin
noncomputable abbrev cw_948 : Cond := Cond.code yX2_narrowMin cX2_narrowMin 4 (some .int)
noncomputable def wsL_narrowMin_r1 : List Cond := [cw_831, cw_945, cw_946, cw_947, cw_24, cw_948, cw_387, cw_419, cw_420, cw_421, cw_33, cw_422, cw_3, cw_5, cw_67, cw_68, cw_69, cw_23, cw_25, cw_7, cw_8, cw_74, cw_75, cw_76]
noncomputable def wsL_narrowMin_r2 : List Cond := [cw_15, cw_77, cw_63, cw_64, cw_65, cw_66, cw_59, cw_60, cw_61, cw_62, cw_58, cw_40, cw_35, cw_36, cw_37, cw_38, cw_22]
noncomputable def wsL_narrowMin : List Cond := .codeWith yL_narrowMin cL_narrowMin 6 (some .int) [(0, 13, 16, 19)] :: ((wsL_narrowMin_r1 ++ wsL_narrowMin_r2) ++ wsX30 ++ wsX20 ++ wsX00 ++ wsX10 ++ (vx_atS RX2 152 "java/lang/IndexOutOfBoundsException" ["java/lang/RuntimeException", "java/lang/Exception"]).filter goodWord)
noncomputable abbrev cw_949 : Cond := Cond.methodLink RL 123 yX2_narrowSum
noncomputable abbrev cw_950 : Cond := Cond.instanceMethod yX2_narrowSum
noncomputable abbrev cw_951 : Cond := Cond.selects RX2 yX2_narrowSum yX2_narrowSum
noncomputable abbrev cw_952 : Cond := Cond.code yX2_narrowSum cX2_narrowSum 4 (some .int)
noncomputable def wsL_narrowSum_r1 : List Cond := [cw_831, cw_949, cw_950, cw_951, cw_24, cw_952, cw_387, cw_423, cw_424, cw_425, cw_33, cw_426, cw_3, cw_5, cw_67, cw_68, cw_69, cw_23, cw_25, cw_7, cw_8, cw_101, cw_102, cw_103]
noncomputable def wsL_narrowSum_r2 : List Cond := [cw_15, cw_104, cw_78, cw_92, cw_93, cw_94, cw_95, cw_10, cw_12, cw_13, cw_14, cw_16, cw_9, cw_17, cw_18, cw_19, cw_20, cw_11, cw_96, cw_97, cw_98, cw_99, cw_79, cw_88]
noncomputable def wsL_narrowSum_r3 : List Cond := [cw_89, cw_90, cw_91, cw_39, cw_80, cw_81, cw_82, cw_83, cw_58, cw_41, cw_42, cw_43, cw_44, cw_84, cw_85, cw_86, cw_87, cw_40, cw_30, cw_31, cw_32, cw_34, cw_21, cw_105]
noncomputable def wsL_narrowSum_r4 : List Cond := [cw_106, cw_107, cw_108, cw_100, cw_48, cw_49, cw_50, cw_35, cw_36, cw_37, cw_38, cw_22]
noncomputable def wsL_narrowSum : List Cond := .codeWith yL_narrowSum cL_narrowSum 6 (some .int) [(0, 13, 16, 19)] :: ((wsL_narrowSum_r1 ++ (wsL_narrowSum_r2 ++ (wsL_narrowSum_r3 ++ wsL_narrowSum_r4))) ++ wsX30 ++ wsX20 ++ wsX00 ++ wsX10 ++ (vx_atS RX2 152 "java/lang/IndexOutOfBoundsException" ["java/lang/RuntimeException", "java/lang/Exception"]).filter goodWord)
noncomputable abbrev cw_953 : Cond := Cond.methodLink RL 126 yX2_narrowSort
noncomputable abbrev cw_954 : Cond := Cond.instanceMethod yX2_narrowSort
noncomputable abbrev cw_955 : Cond := Cond.selects RX2 yX2_narrowSort yX2_narrowSort
noncomputable abbrev cw_956 : Cond := Cond.code yX2_narrowSort cX2_narrowSort 2 (some .int)
noncomputable def wsL_narrowSort_r1 : List Cond := [cw_836, cw_953, cw_954, cw_955, cw_24, cw_956, cw_387, cw_427, cw_428, cw_429, cw_33, cw_430, cw_22, cw_5, cw_6, cw_110, cw_111, cw_112, cw_113, cw_52, cw_53, cw_51, cw_46, cw_114]
noncomputable def wsL_narrowSort_r2 : List Cond := [cw_115, cw_116, cw_117, cw_3, cw_109, cw_64, cw_65, cw_15, cw_66, cw_59, cw_60, cw_61, cw_62, cw_58, cw_40]
noncomputable def wsL_narrowSort : List Cond := .codeWith yL_narrowSort cL_narrowSort 4 (some .int) [(0, 10, 13, 25)] :: ((wsL_narrowSort_r1 ++ wsL_narrowSort_r2) ++ wsX30 ++ wsX20 ++ wsX00 ++ wsX10 ++ (vx_atS RX2 159 "java/lang/IllegalArgumentException" ["java/lang/RuntimeException", "java/lang/Exception"]).filter goodWord)
noncomputable abbrev cw_957 : Cond := Cond.methodLink RL 129 yX2_narrowEnd
noncomputable abbrev cw_958 : Cond := Cond.instanceMethod yX2_narrowEnd
noncomputable abbrev cw_959 : Cond := Cond.selects RX2 yX2_narrowEnd yX2_narrowEnd
noncomputable abbrev cw_960 : Cond := Cond.code yX2_narrowEnd cX2_narrowEnd 3 (some .int)
noncomputable def wsL_narrowEnd_r1 : List Cond := [cw_831, cw_957, cw_958, cw_959, cw_24, cw_960, cw_387, cw_431, cw_432, cw_433, cw_33, cw_434, cw_5, cw_3, cw_23, cw_25, cw_7, cw_8, cw_70, cw_71, cw_72, cw_15, cw_73, cw_63]
noncomputable def wsL_narrowEnd_r2 : List Cond := [cw_64, cw_65, cw_66, cw_59, cw_60, cw_61, cw_62, cw_58, cw_40, cw_74, cw_75, cw_76, cw_77, cw_35, cw_36, cw_37, cw_38, cw_22]
noncomputable def wsL_narrowEnd : List Cond := .codeWith yL_narrowEnd cL_narrowEnd 5 (some .int) [(0, 11, 14, 19)] :: ((wsL_narrowEnd_r1 ++ wsL_narrowEnd_r2) ++ wsX30 ++ wsX20 ++ wsX00 ++ wsX10 ++ (vx_atS RX2 152 "java/lang/IndexOutOfBoundsException" ["java/lang/RuntimeException", "java/lang/Exception"]).filter goodWord)
noncomputable abbrev cw_961 : Cond := Cond.methodLink RL 132 yX2_digits
noncomputable abbrev cw_962 : Cond := Cond.instanceMethod yX2_digits
noncomputable abbrev cw_963 : Cond := Cond.selects RX2 yX2_digits yX2_digits
noncomputable abbrev cw_964 : Cond := Cond.code yX2_digits cX2_digits 2 (some .int)
noncomputable def wsL_digits : List Cond := .codeWith yL_digits cL_digits 4 (some .int) [(0, 10, 13, 19)] :: ([cw_831, cw_961, cw_962, cw_963, cw_24, cw_964, cw_387, cw_439, cw_440, cw_441, cw_33, cw_442, cw_5, cw_23, cw_25, cw_7, cw_8] ++ wsX30 ++ wsX20 ++ wsX00 ++ (vx_atS RX2 152 "java/lang/IndexOutOfBoundsException" ["java/lang/RuntimeException", "java/lang/Exception"]).filter goodWord)
noncomputable abbrev cw_965 : Cond := Cond.methodLink RL 138 yX2_narrowOrder
noncomputable abbrev cw_966 : Cond := Cond.instanceMethod yX2_narrowOrder
noncomputable abbrev cw_967 : Cond := Cond.selects RX2 yX2_narrowOrder yX2_narrowOrder
noncomputable abbrev cw_968 : Cond := Cond.code yX2_narrowOrder cX2_narrowOrder 4 (some .int)
noncomputable def wsL_narrowOrder_r1 : List Cond := [cw_831, cw_836, cw_965, cw_966, cw_967, cw_24, cw_968, cw_387, cw_447, cw_341, cw_342, cw_33, cw_343, cw_3, cw_5, cw_23, cw_25, cw_7, cw_8, cw_52, cw_53, cw_51, cw_46, cw_109]
noncomputable def wsL_narrowOrder_r2 : List Cond := [cw_64, cw_65, cw_15, cw_66, cw_59, cw_60, cw_61, cw_62, cw_58, cw_40]
noncomputable def wsL_narrowOrder : List Cond := .codeWith yL_narrowOrder cL_narrowOrder 6 (some .int) [(0, 13, 16, 19), (0, 13, 20, 25)] :: ((wsL_narrowOrder_r1 ++ wsL_narrowOrder_r2) ++ wsX30 ++ wsX20 ++ wsX00 ++ wsX10 ++ (vx_atS RX2 152 "java/lang/IndexOutOfBoundsException" ["java/lang/RuntimeException", "java/lang/Exception"]).filter goodWord ++ (vx_atS RX2 159 "java/lang/IllegalArgumentException" ["java/lang/RuntimeException", "java/lang/Exception"]).filter goodWord)
noncomputable abbrev cw_969 : Cond := Cond.methodLink RL 141 yX2_narrowSame
noncomputable abbrev cw_970 : Cond := Cond.instanceMethod yX2_narrowSame
noncomputable abbrev cw_971 : Cond := Cond.selects RX2 yX2_narrowSame yX2_narrowSame
noncomputable abbrev cw_972 : Cond := Cond.code yX2_narrowSame cX2_narrowSame 4 (some .boolean)
noncomputable def wsL_narrowSame_r1 : List Cond := [cw_831, cw_836, cw_969, cw_970, cw_971, cw_24, cw_972, cw_387, cw_448, cw_449, cw_450, cw_33, cw_451, cw_340, cw_341, cw_342, cw_343, cw_3, cw_5, cw_23, cw_25, cw_7, cw_8, cw_52]
noncomputable def wsL_narrowSame_r2 : List Cond := [cw_53, cw_51, cw_46, cw_109, cw_64, cw_65, cw_15, cw_66, cw_59, cw_60, cw_61, cw_62, cw_58, cw_40]
noncomputable def wsL_narrowSame : List Cond := .codeWith yL_narrowSame cL_narrowSame 6 (some .int) [(0, 20, 23, 19), (0, 20, 27, 25)] :: ((wsL_narrowSame_r1 ++ wsL_narrowSame_r2) ++ wsX30 ++ wsX20 ++ wsX00 ++ wsX10 ++ (vx_atS RX2 152 "java/lang/IndexOutOfBoundsException" ["java/lang/RuntimeException", "java/lang/Exception"]).filter goodWord ++ (vx_atS RX2 159 "java/lang/IllegalArgumentException" ["java/lang/RuntimeException", "java/lang/Exception"]).filter goodWord)
noncomputable abbrev cw_973 : Cond := Cond.methodLink RL 144 yX2_narrowOther
noncomputable abbrev cw_974 : Cond := Cond.instanceMethod yX2_narrowOther
noncomputable abbrev cw_975 : Cond := Cond.selects RX2 yX2_narrowOther yX2_narrowOther
noncomputable abbrev cw_976 : Cond := Cond.code yX2_narrowOther cX2_narrowOther 3 (some .boolean)
noncomputable def wsL_narrowOther : List Cond := .codeWith yL_narrowOther cL_narrowOther 5 (some .int) [(0, 18, 21, 19), (0, 18, 25, 25)] :: ([cw_831, cw_836, cw_973, cw_974, cw_975, cw_24, cw_976, cw_387, cw_452, cw_453, cw_454, cw_33, cw_455, cw_23, cw_25, cw_7, cw_8, cw_52, cw_53, cw_51, cw_46] ++ wsX30 ++ wsX20 ++ (vx_atS RX2 152 "java/lang/IndexOutOfBoundsException" ["java/lang/RuntimeException", "java/lang/Exception"]).filter goodWord ++ (vx_atS RX2 159 "java/lang/IllegalArgumentException" ["java/lang/RuntimeException", "java/lang/Exception"]).filter goodWord)
noncomputable abbrev cw_977 : Cond := Cond.methodLink RL 147 yX2_narrowLike
noncomputable abbrev cw_978 : Cond := Cond.instanceMethod yX2_narrowLike
noncomputable abbrev cw_979 : Cond := Cond.selects RX2 yX2_narrowLike yX2_narrowLike
noncomputable abbrev cw_980 : Cond := Cond.code yX2_narrowLike cX2_narrowLike 3 (some .boolean)
noncomputable def wsL_narrowLike_r1 : List Cond := [cw_831, cw_977, cw_978, cw_979, cw_24, cw_980, cw_387, cw_456, cw_457, cw_458, cw_33, cw_459, cw_3, cw_5, cw_23, cw_25, cw_7, cw_8, cw_348, cw_349, cw_350, cw_15, cw_351, cw_344]
noncomputable def wsL_narrowLike_r2 : List Cond := [cw_345, cw_346, cw_347, cw_58, cw_40]
noncomputable def wsL_narrowLike : List Cond := .codeWith yL_narrowLike cL_narrowLike 5 (some .int) [(0, 18, 21, 19)] :: ((wsL_narrowLike_r1 ++ wsL_narrowLike_r2) ++ wsX30 ++ wsX20 ++ wsX00 ++ wsX10 ++ (vx_atS RX2 152 "java/lang/IndexOutOfBoundsException" ["java/lang/RuntimeException", "java/lang/Exception"]).filter goodWord)
noncomputable abbrev cw_981 : Cond := Cond.methodLink RL 150 yX2_narrowBelow
noncomputable abbrev cw_982 : Cond := Cond.instanceMethod yX2_narrowBelow
noncomputable abbrev cw_983 : Cond := Cond.selects RX2 yX2_narrowBelow yX2_narrowBelow
noncomputable abbrev cw_984 : Cond := Cond.code yX2_narrowBelow cX2_narrowBelow 4 (some .boolean)
noncomputable def wsL_narrowBelow_r1 : List Cond := [cw_831, cw_981, cw_982, cw_983, cw_24, cw_984, cw_387, cw_460, cw_461, cw_462, cw_33, cw_463, cw_3, cw_5, cw_23, cw_25, cw_7, cw_8, cw_352, cw_353, cw_354, cw_15, cw_355, cw_344]
noncomputable def wsL_narrowBelow_r2 : List Cond := [cw_345, cw_346, cw_347, cw_58, cw_40, cw_348, cw_349, cw_350, cw_351]
noncomputable def wsL_narrowBelow : List Cond := .codeWith yL_narrowBelow cL_narrowBelow 6 (some .int) [(0, 20, 23, 19)] :: ((wsL_narrowBelow_r1 ++ wsL_narrowBelow_r2) ++ wsX30 ++ wsX20 ++ wsX00 ++ wsX10 ++ (vx_atS RX2 152 "java/lang/IndexOutOfBoundsException" ["java/lang/RuntimeException", "java/lang/Exception"]).filter goodWord)
noncomputable abbrev cw_985 : Cond := Cond.methodLink RL 153 yX2_narrowHash
noncomputable abbrev cw_986 : Cond := Cond.instanceMethod yX2_narrowHash
noncomputable abbrev cw_987 : Cond := Cond.selects RX2 yX2_narrowHash yX2_narrowHash
noncomputable abbrev cw_988 : Cond := Cond.code yX2_narrowHash cX2_narrowHash 3 (some .int)
noncomputable def wsL_narrowHash_r1 : List Cond := [cw_831, cw_836, cw_985, cw_986, cw_987, cw_24, cw_988, cw_387, cw_464, cw_465, cw_466, cw_33, cw_467, cw_3, cw_5, cw_23, cw_25, cw_7, cw_8, cw_52, cw_53, cw_51, cw_46, cw_356]
noncomputable def wsL_narrowHash_r2 : List Cond := [cw_357, cw_358, cw_15, cw_359]
noncomputable def wsL_narrowHash : List Cond := .codeWith yL_narrowHash cL_narrowHash 5 (some .int) [(0, 11, 14, 19), (0, 11, 18, 25)] :: ((wsL_narrowHash_r1 ++ wsL_narrowHash_r2) ++ wsX30 ++ wsX20 ++ wsX00 ++ (vx_atS RX2 152 "java/lang/IndexOutOfBoundsException" ["java/lang/RuntimeException", "java/lang/Exception"]).filter goodWord ++ (vx_atS RX2 159 "java/lang/IllegalArgumentException" ["java/lang/RuntimeException", "java/lang/Exception"]).filter goodWord)
noncomputable abbrev cw_989 : Cond := Cond.methodLink RL 156 yX2_narrowEndless
noncomputable abbrev cw_990 : Cond := Cond.instanceMethod yX2_narrowEndless
noncomputable abbrev cw_991 : Cond := Cond.selects RX2 yX2_narrowEndless yX2_narrowEndless
noncomputable abbrev cw_992 : Cond := Cond.code yX2_narrowEndless cX2_narrowEndless 3 (some .boolean)
noncomputable def wsL_narrowEndless_r1 : List Cond := [cw_831, cw_836, cw_989, cw_990, cw_991, cw_24, cw_992, cw_387, cw_468, cw_469, cw_470, cw_33, cw_471, cw_3, cw_5, cw_23, cw_25, cw_7, cw_8, cw_52, cw_53, cw_51, cw_46, cw_360]
noncomputable def wsL_narrowEndless_r2 : List Cond := [cw_93, cw_94, cw_15, cw_95, cw_10, cw_12, cw_13, cw_14, cw_16, cw_9, cw_17, cw_18, cw_19, cw_20, cw_11]
noncomputable def wsL_narrowEndless : List Cond := .codeWith yL_narrowEndless cL_narrowEndless 5 (some .int) [(0, 18, 21, 19), (0, 18, 25, 25)] :: ((wsL_narrowEndless_r1 ++ wsL_narrowEndless_r2) ++ wsX30 ++ wsX20 ++ wsX00 ++ wsX10 ++ (vx_atS RX2 152 "java/lang/IndexOutOfBoundsException" ["java/lang/RuntimeException", "java/lang/Exception"]).filter goodWord ++ (vx_atS RX2 159 "java/lang/IllegalArgumentException" ["java/lang/RuntimeException", "java/lang/Exception"]).filter goodWord)
noncomputable abbrev cw_993 : Cond := Cond.methodLink RL 159 yX2_narrowCount
noncomputable abbrev cw_994 : Cond := Cond.instanceMethod yX2_narrowCount
noncomputable abbrev cw_995 : Cond := Cond.selects RX2 yX2_narrowCount yX2_narrowCount
noncomputable abbrev cw_996 : Cond := Cond.code yX2_narrowCount cX2_narrowCount 2 (some .int)
noncomputable def wsL_narrowCount_r1 : List Cond := [cw_831, cw_993, cw_994, cw_995, cw_24, cw_996, cw_387, cw_472, cw_473, cw_474, cw_33, cw_475, cw_3, cw_5, cw_23, cw_25, cw_7, cw_8, cw_361, cw_89, cw_90, cw_15, cw_91, cw_39]
noncomputable def wsL_narrowCount_r2 : List Cond := [cw_78, cw_79, cw_9, cw_80, cw_81, cw_82, cw_83, cw_58, cw_12, cw_13, cw_14, cw_16, cw_10, cw_41, cw_42, cw_43, cw_44, cw_17, cw_18, cw_19, cw_20, cw_11, cw_84, cw_85]
noncomputable def wsL_narrowCount_r3 : List Cond := [cw_86, cw_87, cw_40]
noncomputable def wsL_narrowCount : List Cond := .codeWith yL_narrowCount cL_narrowCount 4 (some .int) [(0, 10, 13, 19)] :: ((wsL_narrowCount_r1 ++ (wsL_narrowCount_r2 ++ wsL_narrowCount_r3)) ++ wsX30 ++ wsX20 ++ wsX00 ++ wsX10 ++ (vx_atS RX2 152 "java/lang/IndexOutOfBoundsException" ["java/lang/RuntimeException", "java/lang/Exception"]).filter goodWord)
noncomputable abbrev cw_997 : Cond := Cond.methodLink RL 162 yX2_narrowFind
noncomputable abbrev cw_998 : Cond := Cond.instanceMethod yX2_narrowFind
noncomputable abbrev cw_999 : Cond := Cond.selects RX2 yX2_narrowFind yX2_narrowFind
noncomputable abbrev cw_1000 : Cond := Cond.code yX2_narrowFind cX2_narrowFind 3 (some .int)
noncomputable def wsL_narrowFind : List Cond := .codeWith yL_narrowFind cL_narrowFind 5 (some .int) [(0, 11, 14, 19)] :: ([cw_831, cw_997, cw_998, cw_999, cw_24, cw_1000, cw_387, cw_476, cw_477, cw_478, cw_33, cw_479, cw_5, cw_23, cw_25, cw_7, cw_8] ++ wsX30 ++ wsX20 ++ wsX00 ++ (vx_atS RX2 152 "java/lang/IndexOutOfBoundsException" ["java/lang/RuntimeException", "java/lang/Exception"]).filter goodWord)
noncomputable abbrev cw_1001 : Cond := Cond.methodLink RL 165 yX2_narrowHas
noncomputable abbrev cw_1002 : Cond := Cond.instanceMethod yX2_narrowHas
noncomputable abbrev cw_1003 : Cond := Cond.selects RX2 yX2_narrowHas yX2_narrowHas
noncomputable abbrev cw_1004 : Cond := Cond.code yX2_narrowHas cX2_narrowHas 2 (some .boolean)
noncomputable def wsL_narrowHas_r1 : List Cond := [cw_836, cw_1001, cw_1002, cw_1003, cw_24, cw_1004, cw_387, cw_480, cw_481, cw_482, cw_33, cw_483, cw_3, cw_5, cw_52, cw_53, cw_51, cw_46, cw_54, cw_55, cw_56, cw_15, cw_57, cw_10]
noncomputable def wsL_narrowHas_r2 : List Cond := [cw_9, cw_40]
noncomputable def wsL_narrowHas : List Cond := .codeWith yL_narrowHas cL_narrowHas 4 (some .int) [(0, 17, 20, 25)] :: ((wsL_narrowHas_r1 ++ wsL_narrowHas_r2) ++ wsX30 ++ wsX20 ++ wsX00 ++ wsX10 ++ (vx_atS RX2 159 "java/lang/IllegalArgumentException" ["java/lang/RuntimeException", "java/lang/Exception"]).filter goodWord)
noncomputable abbrev cw_1005 : Cond := Cond.methodLink RL 168 yX2_house
noncomputable abbrev cw_1006 : Cond := Cond.instanceMethod yX2_house
noncomputable abbrev cw_1007 : Cond := Cond.selects RX2 yX2_house yX2_house
noncomputable abbrev cw_1008 : Cond := Cond.code yX2_house cX2_house 2 (some .int)
noncomputable def wsL_house : List Cond := .codeWith yL_house cL_house 4 (some .int) [(0, 10, 13, 25)] :: ([cw_836, cw_1005, cw_1006, cw_1007, cw_24, cw_1008, cw_485, cw_52, cw_53, cw_51, cw_46, cw_486, cw_487, cw_488, cw_489, cw_385, cw_387, cw_484] ++ wsX30 ++ wsX20 ++ wsX00 ++ (vx_atS RX2 159 "java/lang/IllegalArgumentException" ["java/lang/RuntimeException", "java/lang/Exception"]).filter goodWord)
theorem cl_L_putWide_1 : ∀ w ∈ wsL_putWide_r1, w ∈ wsL_putWide := fun _ h => (List.mem_cons_of_mem _ (List.mem_append_left _ (List.mem_append_left _ (List.mem_append_left _ (List.mem_append_left _ (List.mem_append_left _ (List.mem_append_left _ h)))))))
theorem cl_L_putWide_2 : ∀ w ∈ wsL_putWide_r2, w ∈ wsL_putWide := fun _ h => (List.mem_cons_of_mem _ (List.mem_append_left _ (List.mem_append_left _ (List.mem_append_left _ (List.mem_append_left _ (List.mem_append_left _ (List.mem_append_right _ h)))))))
theorem cl_L_putWide_3 : ∀ w ∈ wsX30, w ∈ wsL_putWide := fun _ h => (List.mem_cons_of_mem _ (List.mem_append_left _ (List.mem_append_left _ (List.mem_append_left _ (List.mem_append_left _ (List.mem_append_right _ h))))))
theorem cl_L_putWide_4 : ∀ w ∈ wsX20, w ∈ wsL_putWide := fun _ h => (List.mem_cons_of_mem _ (List.mem_append_left _ (List.mem_append_left _ (List.mem_append_left _ (List.mem_append_right _ h)))))
theorem cl_L_putWide_5 : ∀ w ∈ wsX00, w ∈ wsL_putWide := fun _ h => (List.mem_cons_of_mem _ (List.mem_append_left _ (List.mem_append_left _ (List.mem_append_right _ h))))
theorem cl_L_putWide_6 : ∀ w ∈ wsX10, w ∈ wsL_putWide := fun _ h => (List.mem_cons_of_mem _ (List.mem_append_left _ (List.mem_append_right _ h)))
theorem cl_L_putWide_7 : ∀ w ∈ (vx_atS RX2 152 "java/lang/IndexOutOfBoundsException" ["java/lang/RuntimeException", "java/lang/Exception"]).filter goodWord, w ∈ wsL_putWide := fun _ h => (List.mem_cons_of_mem _ (List.mem_append_right _ h))
set_option maxRecDepth 20000 in
theorem ggL_putWide_X2_putWide : GoodIn wsL_putWide wsX2_putWide := goodIn_sub (List.forall_mem_cons.mpr ⟨(cl_L_putWide_1 _ (List.mem_of_getElem? (i := 5) rfl)), fun w h => (List.mem_append.mp h).elim ((fun w h => (List.mem_append.mp h).elim ((fun w h => (List.mem_append.mp h).elim ((fun w h => (List.mem_append.mp h).elim ((fun w h => (List.mem_append.mp h).elim ((List.forall_mem_cons.mpr ⟨(cl_L_putWide_1 _ (List.mem_of_getElem? (i := 6) rfl)), List.forall_mem_cons.mpr ⟨(cl_L_putWide_1 _ (List.mem_of_getElem? (i := 7) rfl)), List.forall_mem_cons.mpr ⟨(cl_L_putWide_1 _ (List.mem_of_getElem? (i := 8) rfl)), List.forall_mem_cons.mpr ⟨(cl_L_putWide_1 _ (List.mem_of_getElem? (i := 9) rfl)), List.forall_mem_cons.mpr ⟨(cl_L_putWide_1 _ (List.mem_of_getElem? (i := 10) rfl)), List.forall_mem_cons.mpr ⟨(cl_L_putWide_1 _ (List.mem_of_getElem? (i := 11) rfl)), List.forall_mem_cons.mpr ⟨(cl_L_putWide_1 _ (List.mem_of_getElem? (i := 12) rfl)), List.forall_mem_cons.mpr ⟨(cl_L_putWide_1 _ (List.mem_of_getElem? (i := 13) rfl)), List.forall_mem_cons.mpr ⟨(cl_L_putWide_1 _ (List.mem_of_getElem? (i := 14) rfl)), List.forall_mem_cons.mpr ⟨(cl_L_putWide_1 _ (List.mem_of_getElem? (i := 4) rfl)), List.forall_mem_cons.mpr ⟨(cl_L_putWide_1 _ (List.mem_of_getElem? (i := 15) rfl)), List.forall_mem_cons.mpr ⟨(cl_L_putWide_1 _ (List.mem_of_getElem? (i := 16) rfl)), List.forall_mem_cons.mpr ⟨(cl_L_putWide_1 _ (List.mem_of_getElem? (i := 17) rfl)), List.forall_mem_cons.mpr ⟨(cl_L_putWide_1 _ (List.mem_of_getElem? (i := 18) rfl)), List.forall_mem_cons.mpr ⟨(cl_L_putWide_1 _ (List.mem_of_getElem? (i := 19) rfl)), List.forall_mem_cons.mpr ⟨(cl_L_putWide_1 _ (List.mem_of_getElem? (i := 20) rfl)), List.forall_mem_cons.mpr ⟨(cl_L_putWide_1 _ (List.mem_of_getElem? (i := 21) rfl)), List.forall_mem_cons.mpr ⟨(cl_L_putWide_1 _ (List.mem_of_getElem? (i := 22) rfl)), List.forall_mem_cons.mpr ⟨(cl_L_putWide_1 _ (List.mem_of_getElem? (i := 23) rfl)), List.forall_mem_cons.mpr ⟨(cl_L_putWide_2 _ (List.mem_of_getElem? (i := 0) rfl)), List.forall_mem_cons.mpr ⟨(cl_L_putWide_2 _ (List.mem_of_getElem? (i := 1) rfl)), List.forall_mem_cons.mpr ⟨(cl_L_putWide_2 _ (List.mem_of_getElem? (i := 2) rfl)), List.forall_mem_cons.mpr ⟨(cl_L_putWide_2 _ (List.mem_of_getElem? (i := 3) rfl)), List.forall_mem_cons.mpr ⟨(cl_L_putWide_2 _ (List.mem_of_getElem? (i := 4) rfl)), fun _ h => absurd h List.not_mem_nil⟩⟩⟩⟩⟩⟩⟩⟩⟩⟩⟩⟩⟩⟩⟩⟩⟩⟩⟩⟩⟩⟩⟩⟩) w) ((List.forall_mem_cons.mpr ⟨(cl_L_putWide_2 _ (List.mem_of_getElem? (i := 5) rfl)), List.forall_mem_cons.mpr ⟨(cl_L_putWide_2 _ (List.mem_of_getElem? (i := 6) rfl)), List.forall_mem_cons.mpr ⟨(cl_L_putWide_2 _ (List.mem_of_getElem? (i := 7) rfl)), List.forall_mem_cons.mpr ⟨(cl_L_putWide_2 _ (List.mem_of_getElem? (i := 8) rfl)), List.forall_mem_cons.mpr ⟨(cl_L_putWide_2 _ (List.mem_of_getElem? (i := 9) rfl)), List.forall_mem_cons.mpr ⟨(cl_L_putWide_2 _ (List.mem_of_getElem? (i := 10) rfl)), List.forall_mem_cons.mpr ⟨(cl_L_putWide_2 _ (List.mem_of_getElem? (i := 11) rfl)), List.forall_mem_cons.mpr ⟨(cl_L_putWide_2 _ (List.mem_of_getElem? (i := 12) rfl)), List.forall_mem_cons.mpr ⟨(cl_L_putWide_2 _ (List.mem_of_getElem? (i := 13) rfl)), List.forall_mem_cons.mpr ⟨(cl_L_putWide_2 _ (List.mem_of_getElem? (i := 14) rfl)), List.forall_mem_cons.mpr ⟨(cl_L_putWide_2 _ (List.mem_of_getElem? (i := 15) rfl)), List.forall_mem_cons.mpr ⟨(cl_L_putWide_2 _ (List.mem_of_getElem? (i := 16) rfl)), List.forall_mem_cons.mpr ⟨(cl_L_putWide_2 _ (List.mem_of_getElem? (i := 17) rfl)), List.forall_mem_cons.mpr ⟨(cl_L_putWide_2 _ (List.mem_of_getElem? (i := 18) rfl)), List.forall_mem_cons.mpr ⟨(cl_L_putWide_2 _ (List.mem_of_getElem? (i := 19) rfl)), List.forall_mem_cons.mpr ⟨(cl_L_putWide_2 _ (List.mem_of_getElem? (i := 20) rfl)), fun _ h => absurd h List.not_mem_nil⟩⟩⟩⟩⟩⟩⟩⟩⟩⟩⟩⟩⟩⟩⟩⟩) w)) w) ((cl_L_putWide_4) w)) w) ((cl_L_putWide_5) w)) w) ((cl_L_putWide_6) w)) w) ((cl_L_putWide_7) w)⟩) (by decide +kernel)
set_option maxRecDepth 20000 in
theorem gL_putWide_X2_putWide : GoodIn wsL_putWide (wsV RL 7 RX2 yX2_putWide wsX2_putWide) := goodIn_app (goodIn_sub (List.forall_mem_cons.mpr ⟨(cl_L_putWide_1 _ (List.mem_of_getElem? (i := 1) rfl)), List.forall_mem_cons.mpr ⟨(cl_L_putWide_1 _ (List.mem_of_getElem? (i := 2) rfl)), List.forall_mem_cons.mpr ⟨(cl_L_putWide_1 _ (List.mem_of_getElem? (i := 3) rfl)), List.forall_mem_cons.mpr ⟨(cl_L_putWide_1 _ (List.mem_of_getElem? (i := 4) rfl)), fun _ h => absurd h List.not_mem_nil⟩⟩⟩⟩) (by decide +kernel)) ggL_putWide_X2_putWide
noncomputable def dz_p16_1 : List (Nat × Instr × Nat) := [(0, (.aload 4, 2)), (2, (.aload_n 0, 1)), (3, (.iload_n 1, 1)), (4, (.iload_n 2, 1)), (5, (.iload_n 3, 1)), (6, (.invokevirtual 7, 3)), (9, (.i2l, 1)), (10, (.putfield 13, 3)), (13, (.goto 7, 3)), (16, (.astore 5, 2)), (18, (.iconst 1, 1)), (19, (.ireturn, 1)), (20, (.iconst 0, 1)), (21, (.ireturn, 1))]
theorem dy_p16_1 : dz_ok cL_putWide dz_p16_1 = true := by decide +kernel
theorem dL_putWide_0 : decode cL_putWide 0 = .ok (.aload 4, 2) := dz_at (i := 0) dy_p16_1 rfl
theorem dL_putWide_2 : decode cL_putWide 2 = .ok (.aload_n 0, 1) := dz_at (i := 1) dy_p16_1 rfl
theorem dL_putWide_3 : decode cL_putWide 3 = .ok (.iload_n 1, 1) := dz_at (i := 2) dy_p16_1 rfl
theorem dL_putWide_4 : decode cL_putWide 4 = .ok (.iload_n 2, 1) := dz_at (i := 3) dy_p16_1 rfl
theorem dL_putWide_5 : decode cL_putWide 5 = .ok (.iload_n 3, 1) := dz_at (i := 4) dy_p16_1 rfl
theorem dL_putWide_6 : decode cL_putWide 6 = .ok (.invokevirtual 7, 3) := dz_at (i := 5) dy_p16_1 rfl
theorem dL_putWide_9 : decode cL_putWide 9 = .ok (.i2l, 1) := dz_at (i := 6) dy_p16_1 rfl
theorem dL_putWide_10 : decode cL_putWide 10 = .ok (.putfield 13, 3) := dz_at (i := 7) dy_p16_1 rfl
theorem dL_putWide_13 : decode cL_putWide 13 = .ok (.goto 7, 3) := dz_at (i := 8) dy_p16_1 rfl
theorem dL_putWide_16 : decode cL_putWide 16 = .ok (.astore 5, 2) := dz_at (i := 9) dy_p16_1 rfl
theorem dL_putWide_18 : decode cL_putWide 18 = .ok (.iconst 1, 1) := dz_at (i := 10) dy_p16_1 rfl
theorem dL_putWide_19 : decode cL_putWide 19 = .ok (.ireturn, 1) := dz_at (i := 11) dy_p16_1 rfl
theorem dL_putWide_20 : decode cL_putWide 20 = .ok (.iconst 0, 1) := dz_at (i := 12) dy_p16_1 rfl
theorem dL_putWide_21 : decode cL_putWide 21 = .ok (.ireturn, 1) := dz_at (i := 13) dy_p16_1 rfl
noncomputable def o_L_putWide (a1 : Int32) (r1 : Int32) (f1 : Nat → Int64) (nv : Int64) (p1 : Int32) (p2 : Int32) (p3 : Int32) : Int32 × Int32 × Int32 × (Nat → Int64) × Int64 :=
  if (o_X2_putWide a1 r1 f1 p1 p2 p3).1 = 0 then (0, (o_X2_putWide a1 r1 f1 p1 p2 p3).2.2.1, (o_X2_putWide a1 r1 f1 p1 p2 p3).2.2.2.1, (o_X2_putWide a1 r1 f1 p1 p2 p3).2.2.2.2, (((o_X2_putWide a1 r1 f1 p1 p2 p3).2.1).toInt64))
  else (1, a1, r1, f1, nv)
set_option maxHeartbeats 4000000 in
set_option maxRecDepth 100000 in
theorem k_L_putWide (l : Launch) (hfl : l.flags = flags0) (dC : Nat → ClassId) (dI : Nat → Nat → Nat) (cy : ClassId) (h0 : Nat) (h1 : Nat) (hw1 : Nat) (hc1 : Nat) (hb1 : Nat) (h2 : Nat) (hw2 : Nat) (hc2 : Nat) (hb2 : Nat) (a1 : Int32) (r1 : Int32) (f1 : Nat → Int64) (g1 : Nat → Int64) (a2 : Int32) (r2 : Int32) (f2 : Nat → Int64) (g2 : Nat → Int64) (kn : Int32) (ho : Nat) (nv : Int64) (sv : Value) (sz : Nat) (N : Nat) (p1 : Int32) (p2 : Int32) (p3 : Int32) : Met l yL_putWide wsL_putWide ({ frames := 9, cells := 1, slots := 6, locals := 166 }) (va_Pc [.ref h0, .int p1, .int p2, .int p3, .ref ho] (xL (dC, dI) xCl [(h0, eE h1 h2 kn), (h1, eR hw1 hc1 hb1 a1 r1), (hw1, eW true), (hc1, eA cy f1), (hb1, eA cy g1), (h2, eR hw2 hc2 hb2 a2 r2), (hw2, eW false), (hc2, eA cy f2), (hb2, eA cy g2), (ho, eO nv sv)] [(cy, .long)] sz N)) (va_Qi (fun (r : Int32) (_ : Unit) => r = (o_L_putWide a1 r1 f1 nv p1 p2 p3).1) (fun _ t => xW (dC, dI) xCl [(h0, eE h1 h2 kn), (h1, eR hw1 hc1 hb1 (o_L_putWide a1 r1 f1 nv p1 p2 p3).2.1 (o_L_putWide a1 r1 f1 nv p1 p2 p3).2.2.1), (hw1, eW true), (hc1, eA cy (o_L_putWide a1 r1 f1 nv p1 p2 p3).2.2.2.1), (hb1, eA cy g1), (h2, eR hw2 hc2 hb2 a2 r2), (hw2, eW false), (hc2, eA cy f2), (hb2, eA cy g2), (ho, eO (o_L_putWide a1 r1 f1 nv p1 p2 p3).2.2.2.2 sv)] (va_A [(h0, eE h1 h2 kn), (h1, eR hw1 hc1 hb1 a1 r1), (hw1, eW true), (hc1, eA cy f1), (hb1, eA cy g1), (h2, eR hw2 hc2 hb2 a2 r2), (hw2, eW false), (hc2, eA cy f2), (hb2, eA cy g2), (ho, eO nv sv)] sz) t) (va_A [(h0, eE h1 h2 kn), (h1, eR hw1 hc1 hb1 a1 r1), (hw1, eW true), (hc1, eA cy f1), (hb1, eA cy g1), (h2, eR hw2 hc2 hb2 a2 r2), (hw2, eW false), (hc2, eA cy f2), (hb2, eA cy g2), (ho, eO nv sv)] sz)) 1 6 (va_A [(h0, eE h1 h2 kn), (h1, eR hw1 hc1 hb1 a1 r1), (hw1, eW true), (hc1, eA cy f1), (hb1, eA cy g1), (h2, eR hw2 hc2 hb2 a2 r2), (hw2, eW false), (hc2, eA cy f2), (hb2, eA cy g2), (ho, eO nv sv)] sz) := by
  refine va_MetW (cc := cL_putWide) (maxL := 6) (ret := (some .int)) (by decide +kernel) rfl ?_
  intro p e s m args below meth c s₁ B hml hv
  obtain ⟨rfl, ⟨hsz, hP, hK, hD0, hN, hG⟩, hnc⟩ := hv
  have hx := B.exec
  have hb := B.bytes
  have hr := B.returns
  have hts := atoms_spec (ws := wsL_putWide) B.pre
  have hown : s.vm.findClass RL = some m.cls := findClass_of_methodNamed B.named
  have hlocks := B.notSynchronized
  have htab := vx_table (x := yL_putWide) B (hts _ List.mem_cons_self)
  subst hsz
  have hAN : ∀ q, va_A [(h0, eE h1 h2 kn), (h1, eR hw1 hc1 hb1 a1 r1), (hw1, eW true), (hc1, eA cy f1), (hb1, eA cy g1), (h2, eR hw2 hc2 hb2 a2 r2), (hw2, eW false), (hc2, eA cy f2), (hb2, eA cy g2), (ho, eO nv sv)] s.heap.size q → N ≤ q := xA_N hD0 hN
  have hD := hD0.self (sz := s.heap.size)
  generalize hAe : va_A [(h0, eE h1 h2 kn), (h1, eR hw1 hc1 hb1 a1 r1), (hw1, eW true), (hc1, eA cy f1), (hb1, eA cy g1), (h2, eR hw2 hc2 hb2 a2 r2), (hw2, eW false), (hc2, eA cy f2), (hb2, eA cy g2), (ho, eO nv sv)] s.heap.size = A at hD hAN ⊢
  have hA : ∀ q : Nat, s.heap.size ≤ q → A q := fun q h => by rw [← hAe]; exact Or.inr h
  have hS : va_S A s.heap s.heap [] := va_S.rf
  have hP : va_P (dC, dI) xCl [(h0, eE h1 h2 kn), (h1, eR hw1 hc1 hb1 a1 r1), (hw1, eW true), (hc1, eA cy f1), (hb1, eA cy g1), (h2, eR hw2 hc2 hb2 a2 r2), (hw2, eW false), (hc2, eA cy f2), (hb2, eA cy g2), (ho, eO nv sv)] s.heap := hP
  have hl := lv_entry ([.ref h0, .int p1, .int p2, .int p3, .ref ho]) (n := 6) (Nat.le_of_ble_eq_true rfl)
  rw [lg_entry_eq]
  generalize (lg_sl ([.ref h0, .int p1, .int p2, .int p3, .ref ho]) ++ List.replicate (6 - (lg_sl ([.ref h0, .int p1, .int p2, .int p3, .ref ho])).length) Slot.unset).toArray = ls at hl ⊢
  have hl : lv_has ls 6 [(0, .ref h0), (1, .int p1), (2, .int p2), (3, .int p3), (4, .ref ho)] := hl
  refine lv_aload hx hb dL_putWide_0 (lv_at hl 4 rfl) ?_
  refine lv_aload_n hx hb dL_putWide_2 rfl (lv_at hl 0 rfl) ?_
  refine lv_iload_n hx hb dL_putWide_3 rfl (lv_at hl 1 rfl) ?_
  refine lv_iload_n hx hb dL_putWide_4 rfl (lv_at hl 2 rfl) ?_
  refine lv_iload_n hx hb dL_putWide_5 rfl (lv_at hl 3 rfl) ?_
  have hPc := hP.sub (ws' := [(h0, eE h1 h2 kn), (h1, eR hw1 hc1 hb1 a1 r1), (hw1, eW true), (hc1, eA cy f1), (hb1, eA cy g1), (h2, eR hw2 hc2 hb2 a2 r2), (hw2, eW false), (hc2, eA cy f2), (hb2, eA cy g2)]) [0, 1, 2, 3, 4, 5, 6, 7, 8] rfl
  have hDc := hD.sub (ws' := [(h0, eE h1 h2 kn), (h1, eR hw1 hc1 hb1 a1 r1), (hw1, eW true), (hc1, eA cy f1), (hb1, eA cy g1), (h2, eR hw2 hc2 hb2 a2 r2), (hw2, eW false), (hc2, eA cy f2), (hb2, eA cy g2)]) [0, 1, 2, 3, 4, 5, 6, 7, 8] (by decide +kernel) rfl
  have hKc := hK.sub (tys' := [(cy, .long)]) [0] rfl
  have hFc := va_free (wc := [(h0, eE h1 h2 kn), (h1, eR hw1 hc1 hb1 a1 r1), (hw1, eW true), (hc1, eA cy f1), (hb1, eA cy g1), (h2, eR hw2 hc2 hb2 a2 r2), (hw2, eW false), (hc2, eA cy f2), (hb2, eA cy g2)]) hD hS hA [0, 1, 2, 3, 4, 5, 6, 7, 8] rfl
  refine vx_calli (vx_runV (As := [.int p1, .int p2, .int p3]) (rest := [.ref ho]) ⟨hx, hb, hml, hown, hts⟩ (k_X2_putWide l hfl dC dI cy h0 h1 hw1 hc1 hb1 h2 hw2 hc2 hb2 a1 r1 f1 g1 a2 r2 f2 g2 kn s.heap.size N p1 p2 p3) (cwV 3 hts gL_putWide_X2_putWide rfl rfl rfl (by decide +kernel) ⟨Nat.le_of_ble_eq_true rfl, Nat.le_of_ble_eq_true rfl⟩) (xM.preV hKc hPc hDc hAN (Nat.le_trans hN hS.1) (hG.kept hS hAN) (ci := 4) (q0 := 0) rfl rfl) rfl rfl hl.1 rfl (lv_room (Nat.le_of_ble_eq_true rfl)) dL_putWide_6 ⟨Nat.le_of_ble_eq_true rfl, Nat.le_of_ble_eq_true rfl⟩) hS (fun q _ h => hFc q h) hFc (fun q _ h => hFc q h) (fun E ce q9 u9 t H locs ht hvm hpx hbx hz hk hS hce hcv hcl => ?_) (fun r_1 u t H locs ht hvm hw hB hz hk hS => ?_)
  · have c_2 : ¬ (o_X2_putWide a1 r1 f1 p1 p2 p3).1 = 0 := hpx
    obtain ⟨hbe, hP1, hD1⟩ := hbx
    rw [ht] at hP1
    obtain ⟨hP, hD⟩ := va_join (wr := [(ho, eO nv sv)]) (w1 := [(h0, eE h1 h2 kn), (h1, eR hw1 hc1 hb1 a1 r1), (hw1, eW true), (hc1, eA cy f1), (hb1, eA cy g1), (h2, eR hw2 hc2 hb2 a2 r2), (hw2, eW false), (hc2, eA cy f2), (hb2, eA cy g2)]) hP hD [0, 1, 2, 3, 4, 5, 6, 7, 8] [9] rfl rfl (by decide +kernel) (by decide +kernel) hk hFc hP1 hD1
    have hP := hP.sub (ws' := [(h0, eE h1 h2 kn), (h1, eR hw1 hc1 hb1 a1 r1), (hw1, eW true), (hc1, eA cy f1), (hb1, eA cy g1), (h2, eR hw2 hc2 hb2 a2 r2), (hw2, eW false), (hc2, eA cy f2), (hb2, eA cy g2), (ho, eO nv sv)]) [1, 2, 3, 4, 5, 6, 7, 8, 9, 0] rfl
    have hD := hD.sub (ws' := [(h0, eE h1 h2 kn), (h1, eR hw1 hc1 hb1 a1 r1), (hw1, eW true), (hc1, eA cy f1), (hb1, eA cy g1), (h2, eR hw2 hc2 hb2 a2 r2), (hw2, eW false), (hc2, eA cy f2), (hb2, eA cy g2), (ho, eO nv sv)]) [1, 2, 3, 4, 5, 6, 7, 8, 9, 0] (by decide +kernel) rfl
    have hE : E = "java/lang/IndexOutOfBoundsException" := hbe.trans (by rw [show (o_X2_putWide a1 r1 f1 p1 p2 p3).1 = 1 from (xr_X2_putWide _ _ _ _ _ _ c_2)]; rfl)
    subst hE
    refine vx_catch (own := RL) (name := "java/lang/IndexOutOfBoundsException") hown [] ⟨0, 13, 16, 19⟩ [] htab (fun z hz => absurd hz List.not_mem_nil) (by decide +kernel) (by decide +kernel) (hts (.classLink RL 19 "java/lang/IndexOutOfBoundsException") (by decide +kernel)) (va_Nw.use rfl (hG.1 (.castable "java/lang/IndexOutOfBoundsException" "java/lang/IndexOutOfBoundsException") (List.mem_of_getElem? (i := 11) rfl))) hce hcv hcl ?_
    refine lv_astore (lv' := [(5, .ref q9), (0, .ref h0), (1, .int p1), (2, .int p2), (3, .int p3), (4, .ref ho)]) hx hb dL_putWide_16 hl (by decide +kernel) rfl (fun ls hl => ?_)
    refine lv_iconst (v := 1) hx hb dL_putWide_18 (by decide +kernel) ?_
    have he : o_L_putWide a1 r1 f1 nv p1 p2 p3 = (1, a1, r1, f1, nv) := by (rw [o_L_putWide, if_neg c_2]) <;> rfl
    refine W.widen (k := 1) (n := 6) (by omega) (by omega) ?_
    exact W.iret (v := 1) hx hb hr (fun t ht hW => ⟨⟨_, (), rfl, (by (rw [he]) <;> rfl), (by rw [he]; exact ⟨by rw [ht]; exact hP, hD⟩)⟩, hS.F ht⟩) hS.2.2 dL_putWide_19
  · skip
    obtain ⟨c_3, hw⟩ := hw
    have c_3 : (o_X2_putWide a1 r1 f1 p1 p2 p3).1 = 0 := c_3
    replace hw : r_1 = (o_X2_putWide a1 r1 f1 p1 p2 p3).2.1 := hw
    subst r_1
    obtain ⟨hP1, hD1⟩ := hB
    rw [ht] at hP1
    obtain ⟨hP, hD⟩ := va_join (wr := [(ho, eO nv sv)]) (w1 := [(h0, eE h1 h2 kn), (h1, eR hw1 hc1 hb1 (o_X2_putWide a1 r1 f1 p1 p2 p3).2.2.1 (o_X2_putWide a1 r1 f1 p1 p2 p3).2.2.2.1), (hw1, eW true), (hc1, eA cy (o_X2_putWide a1 r1 f1 p1 p2 p3).2.2.2.2), (hb1, eA cy g1), (h2, eR hw2 hc2 hb2 a2 r2), (hw2, eW false), (hc2, eA cy f2), (hb2, eA cy g2)]) hP hD [0, 1, 2, 3, 4, 5, 6, 7, 8] [9] rfl rfl (by decide +kernel) (by decide +kernel) hk hFc hP1 hD1
    have hP := hP.sub (ws' := [(h0, eE h1 h2 kn), (h1, eR hw1 hc1 hb1 (o_X2_putWide a1 r1 f1 p1 p2 p3).2.2.1 (o_X2_putWide a1 r1 f1 p1 p2 p3).2.2.2.1), (hw1, eW true), (hc1, eA cy (o_X2_putWide a1 r1 f1 p1 p2 p3).2.2.2.2), (hb1, eA cy g1), (h2, eR hw2 hc2 hb2 a2 r2), (hw2, eW false), (hc2, eA cy f2), (hb2, eA cy g2), (ho, eO nv sv)]) [1, 2, 3, 4, 5, 6, 7, 8, 9, 0] rfl
    have hD := hD.sub (ws' := [(h0, eE h1 h2 kn), (h1, eR hw1 hc1 hb1 (o_X2_putWide a1 r1 f1 p1 p2 p3).2.2.1 (o_X2_putWide a1 r1 f1 p1 p2 p3).2.2.2.1), (hw1, eW true), (hc1, eA cy (o_X2_putWide a1 r1 f1 p1 p2 p3).2.2.2.2), (hb1, eA cy g1), (h2, eR hw2 hc2 hb2 a2 r2), (hw2, eW false), (hc2, eA cy f2), (hb2, eA cy g2), (ho, eO nv sv)]) [1, 2, 3, 4, 5, 6, 7, 8, 9, 0] (by decide +kernel) rfl
    refine lv_i2l (v := (((o_X2_putWide a1 r1 f1 p1 p2 p3).2.1).toInt64)) hx hb dL_putWide_9 rfl ?_
    refine va_putN (D := (dC, dI)) (ci := 5) (v := .long (((o_X2_putWide a1 r1 f1 p1 p2 p3).2.1).toInt64)) (ty := .long) (C := RX3) (T := TX3) (N := 2) hx hb hts (by decide +kernel) tyX3 tyX3_ok nmX3 hown hK hP hD hS 9 rfl rfl 0 (by decide +kernel) (va_Nw.use rfl (hG.1 (.fieldLinkNest RL 13 "EdgefloatsLaw$Out" "n" "J" RL) (List.mem_of_getElem? (i := 6) rfl))) (fun _ h9 => h9) rfl (by decide +kernel) rfl rfl (Nat.le_of_ble_eq_true rfl) dL_putWide_10 (fun H locs hP hD hS => ?_)
    have hP : va_P (dC, dI) xCl [(h0, eE h1 h2 kn), (h1, eR hw1 hc1 hb1 (o_X2_putWide a1 r1 f1 p1 p2 p3).2.2.1 (o_X2_putWide a1 r1 f1 p1 p2 p3).2.2.2.1), (hw1, eW true), (hc1, eA cy (o_X2_putWide a1 r1 f1 p1 p2 p3).2.2.2.2), (hb1, eA cy g1), (h2, eR hw2 hc2 hb2 a2 r2), (hw2, eW false), (hc2, eA cy f2), (hb2, eA cy g2), (ho, eO (((o_X2_putWide a1 r1 f1 p1 p2 p3).2.1).toInt64) sv)] H := hP
    have hD : va_D A [(h0, eE h1 h2 kn), (h1, eR hw1 hc1 hb1 (o_X2_putWide a1 r1 f1 p1 p2 p3).2.2.1 (o_X2_putWide a1 r1 f1 p1 p2 p3).2.2.2.1), (hw1, eW true), (hc1, eA cy (o_X2_putWide a1 r1 f1 p1 p2 p3).2.2.2.2), (hb1, eA cy g1), (h2, eR hw2 hc2 hb2 a2 r2), (hw2, eW false), (hc2, eA cy f2), (hb2, eA cy g2), (ho, eO (((o_X2_putWide a1 r1 f1 p1 p2 p3).2.1).toInt64) sv)] := hD
    refine lv_goto (tgt := 20) hx hb dL_putWide_13 (by decide +kernel) ?_
    refine lv_iconst (v := 0) hx hb dL_putWide_20 (by decide +kernel) ?_
    have he : o_L_putWide a1 r1 f1 nv p1 p2 p3 = (0, (o_X2_putWide a1 r1 f1 p1 p2 p3).2.2.1, (o_X2_putWide a1 r1 f1 p1 p2 p3).2.2.2.1, (o_X2_putWide a1 r1 f1 p1 p2 p3).2.2.2.2, (((o_X2_putWide a1 r1 f1 p1 p2 p3).2.1).toInt64)) := by (rw [o_L_putWide, if_pos c_3]) <;> rfl
    refine W.widen (k := 1) (n := 6) (by omega) (by omega) ?_
    exact W.iret (v := 0) hx hb hr (fun t ht hW => ⟨⟨_, (), rfl, (by (rw [he]) <;> rfl), (by rw [he]; exact ⟨by rw [ht]; exact hP, hD⟩)⟩, hS.F ht⟩) hS.2.2 dL_putWide_21
theorem cl_L_wideQuarters_1 : ∀ w ∈ wsL_wideQuarters_r1, w ∈ wsL_wideQuarters := fun _ h => (List.mem_cons_of_mem _ (List.mem_append_left _ (List.mem_append_left _ (List.mem_append_left _ (List.mem_append_left _ (List.mem_append_left _ (List.mem_append_left _ (List.mem_append_left _ h))))))))
theorem cl_L_wideQuarters_2 : ∀ w ∈ wsL_wideQuarters_r2, w ∈ wsL_wideQuarters := fun _ h => (List.mem_cons_of_mem _ (List.mem_append_left _ (List.mem_append_left _ (List.mem_append_left _ (List.mem_append_left _ (List.mem_append_left _ (List.mem_append_left _ (List.mem_append_right _ h))))))))
theorem cl_L_wideQuarters_3 : ∀ w ∈ wsX30, w ∈ wsL_wideQuarters := fun _ h => (List.mem_cons_of_mem _ (List.mem_append_left _ (List.mem_append_left _ (List.mem_append_left _ (List.mem_append_left _ (List.mem_append_left _ (List.mem_append_right _ h)))))))
theorem cl_L_wideQuarters_4 : ∀ w ∈ wsX20, w ∈ wsL_wideQuarters := fun _ h => (List.mem_cons_of_mem _ (List.mem_append_left _ (List.mem_append_left _ (List.mem_append_left _ (List.mem_append_left _ (List.mem_append_right _ h))))))
theorem cl_L_wideQuarters_5 : ∀ w ∈ wsX00, w ∈ wsL_wideQuarters := fun _ h => (List.mem_cons_of_mem _ (List.mem_append_left _ (List.mem_append_left _ (List.mem_append_left _ (List.mem_append_right _ h)))))
theorem cl_L_wideQuarters_6 : ∀ w ∈ wsX10, w ∈ wsL_wideQuarters := fun _ h => (List.mem_cons_of_mem _ (List.mem_append_left _ (List.mem_append_left _ (List.mem_append_right _ h))))
theorem cl_L_wideQuarters_7 : ∀ w ∈ (vx_atS RX0 48 "java/lang/IllegalArgumentException" ["java/lang/RuntimeException", "java/lang/Exception"]).filter goodWord, w ∈ wsL_wideQuarters := fun _ h => (List.mem_cons_of_mem _ (List.mem_append_left _ (List.mem_append_right _ h)))
theorem cl_L_wideQuarters_8 : ∀ w ∈ (vx_atS RX2 152 "java/lang/IndexOutOfBoundsException" ["java/lang/RuntimeException", "java/lang/Exception"]).filter goodWord, w ∈ wsL_wideQuarters := fun _ h => (List.mem_cons_of_mem _ (List.mem_append_right _ h))
set_option maxRecDepth 20000 in
theorem ggL_wideQuarters_X2_wideQuarters : GoodIn wsL_wideQuarters wsX2_wideQuarters := goodIn_sub (List.forall_mem_cons.mpr ⟨(cl_L_wideQuarters_1 _ (List.mem_of_getElem? (i := 6) rfl)), fun w h => (List.mem_append.mp h).elim ((fun w h => (List.mem_append.mp h).elim ((fun w h => (List.mem_append.mp h).elim ((fun w h => (List.mem_append.mp h).elim ((fun w h => (List.mem_append.mp h).elim ((fun w h => (List.mem_append.mp h).elim ((List.forall_mem_cons.mpr ⟨(cl_L_wideQuarters_1 _ (List.mem_of_getElem? (i := 7) rfl)), List.forall_mem_cons.mpr ⟨(cl_L_wideQuarters_1 _ (List.mem_of_getElem? (i := 8) rfl)), List.forall_mem_cons.mpr ⟨(cl_L_wideQuarters_1 _ (List.mem_of_getElem? (i := 9) rfl)), List.forall_mem_cons.mpr ⟨(cl_L_wideQuarters_1 _ (List.mem_of_getElem? (i := 10) rfl)), List.forall_mem_cons.mpr ⟨(cl_L_wideQuarters_1 _ (List.mem_of_getElem? (i := 11) rfl)), List.forall_mem_cons.mpr ⟨(cl_L_wideQuarters_1 _ (List.mem_of_getElem? (i := 12) rfl)), List.forall_mem_cons.mpr ⟨(cl_L_wideQuarters_1 _ (List.mem_of_getElem? (i := 13) rfl)), List.forall_mem_cons.mpr ⟨(cl_L_wideQuarters_1 _ (List.mem_of_getElem? (i := 14) rfl)), List.forall_mem_cons.mpr ⟨(cl_L_wideQuarters_1 _ (List.mem_of_getElem? (i := 15) rfl)), List.forall_mem_cons.mpr ⟨(cl_L_wideQuarters_1 _ (List.mem_of_getElem? (i := 16) rfl)), List.forall_mem_cons.mpr ⟨(cl_L_wideQuarters_1 _ (List.mem_of_getElem? (i := 5) rfl)), List.forall_mem_cons.mpr ⟨(cl_L_wideQuarters_1 _ (List.mem_of_getElem? (i := 17) rfl)), List.forall_mem_cons.mpr ⟨(cl_L_wideQuarters_1 _ (List.mem_of_getElem? (i := 18) rfl)), List.forall_mem_cons.mpr ⟨(cl_L_wideQuarters_1 _ (List.mem_of_getElem? (i := 19) rfl)), List.forall_mem_cons.mpr ⟨(cl_L_wideQuarters_1 _ (List.mem_of_getElem? (i := 20) rfl)), List.forall_mem_cons.mpr ⟨(cl_L_wideQuarters_1 _ (List.mem_of_getElem? (i := 21) rfl)), List.forall_mem_cons.mpr ⟨(cl_L_wideQuarters_1 _ (List.mem_of_getElem? (i := 22) rfl)), List.forall_mem_cons.mpr ⟨(cl_L_wideQuarters_1 _ (List.mem_of_getElem? (i := 23) rfl)), List.forall_mem_cons.mpr ⟨(cl_L_wideQuarters_2 _ (List.mem_of_getElem? (i := 0) rfl)), List.forall_mem_cons.mpr ⟨(cl_L_wideQuarters_2 _ (List.mem_of_getElem? (i := 1) rfl)), List.forall_mem_cons.mpr ⟨(cl_L_wideQuarters_2 _ (List.mem_of_getElem? (i := 2) rfl)), List.forall_mem_cons.mpr ⟨(cl_L_wideQuarters_2 _ (List.mem_of_getElem? (i := 3) rfl)), List.forall_mem_cons.mpr ⟨(cl_L_wideQuarters_2 _ (List.mem_of_getElem? (i := 4) rfl)), List.forall_mem_cons.mpr ⟨(cl_L_wideQuarters_2 _ (List.mem_of_getElem? (i := 5) rfl)), fun _ h => absurd h List.not_mem_nil⟩⟩⟩⟩⟩⟩⟩⟩⟩⟩⟩⟩⟩⟩⟩⟩⟩⟩⟩⟩⟩⟩⟩⟩) w) ((List.forall_mem_cons.mpr ⟨(cl_L_wideQuarters_2 _ (List.mem_of_getElem? (i := 6) rfl)), List.forall_mem_cons.mpr ⟨(cl_L_wideQuarters_2 _ (List.mem_of_getElem? (i := 7) rfl)), List.forall_mem_cons.mpr ⟨(cl_L_wideQuarters_2 _ (List.mem_of_getElem? (i := 8) rfl)), List.forall_mem_cons.mpr ⟨(cl_L_wideQuarters_2 _ (List.mem_of_getElem? (i := 9) rfl)), List.forall_mem_cons.mpr ⟨(cl_L_wideQuarters_2 _ (List.mem_of_getElem? (i := 10) rfl)), List.forall_mem_cons.mpr ⟨(cl_L_wideQuarters_2 _ (List.mem_of_getElem? (i := 11) rfl)), List.forall_mem_cons.mpr ⟨(cl_L_wideQuarters_2 _ (List.mem_of_getElem? (i := 12) rfl)), List.forall_mem_cons.mpr ⟨(cl_L_wideQuarters_2 _ (List.mem_of_getElem? (i := 13) rfl)), List.forall_mem_cons.mpr ⟨(cl_L_wideQuarters_2 _ (List.mem_of_getElem? (i := 14) rfl)), fun _ h => absurd h List.not_mem_nil⟩⟩⟩⟩⟩⟩⟩⟩⟩) w)) w) ((cl_L_wideQuarters_4) w)) w) ((cl_L_wideQuarters_5) w)) w) ((cl_L_wideQuarters_6) w)) w) ((cl_L_wideQuarters_7) w)) w) ((cl_L_wideQuarters_8) w)⟩) (by decide +kernel)
set_option maxRecDepth 20000 in
theorem gL_wideQuarters_X2_wideQuarters : GoodIn wsL_wideQuarters (wsV RL 21 RX2 yX2_wideQuarters wsX2_wideQuarters) := goodIn_app (goodIn_sub (List.forall_mem_cons.mpr ⟨(cl_L_wideQuarters_1 _ (List.mem_of_getElem? (i := 2) rfl)), List.forall_mem_cons.mpr ⟨(cl_L_wideQuarters_1 _ (List.mem_of_getElem? (i := 3) rfl)), List.forall_mem_cons.mpr ⟨(cl_L_wideQuarters_1 _ (List.mem_of_getElem? (i := 4) rfl)), List.forall_mem_cons.mpr ⟨(cl_L_wideQuarters_1 _ (List.mem_of_getElem? (i := 5) rfl)), fun _ h => absurd h List.not_mem_nil⟩⟩⟩⟩) (by decide +kernel)) ggL_wideQuarters_X2_wideQuarters
noncomputable def dz_p16_2 : List (Nat × Instr × Nat) := [(0, (.aload_n 3, 1)), (1, (.aload_n 0, 1)), (2, (.iload_n 1, 1)), (3, (.iload_n 2, 1)), (4, (.invokevirtual 21, 3)), (7, (.i2l, 1)), (8, (.putfield 13, 3)), (11, (.goto 11, 3)), (14, (.astore 4, 2)), (16, (.iconst 1, 1)), (17, (.ireturn, 1)), (18, (.astore 4, 2)), (20, (.iconst 2, 1)), (21, (.ireturn, 1)), (22, (.iconst 0, 1)), (23, (.ireturn, 1))]
theorem dy_p16_2 : dz_ok cL_wideQuarters dz_p16_2 = true := by decide +kernel
theorem dL_wideQuarters_0 : decode cL_wideQuarters 0 = .ok (.aload_n 3, 1) := dz_at (i := 0) dy_p16_2 rfl
theorem dL_wideQuarters_1 : decode cL_wideQuarters 1 = .ok (.aload_n 0, 1) := dz_at (i := 1) dy_p16_2 rfl
theorem dL_wideQuarters_2 : decode cL_wideQuarters 2 = .ok (.iload_n 1, 1) := dz_at (i := 2) dy_p16_2 rfl
theorem dL_wideQuarters_3 : decode cL_wideQuarters 3 = .ok (.iload_n 2, 1) := dz_at (i := 3) dy_p16_2 rfl
theorem dL_wideQuarters_4 : decode cL_wideQuarters 4 = .ok (.invokevirtual 21, 3) := dz_at (i := 4) dy_p16_2 rfl
theorem dL_wideQuarters_7 : decode cL_wideQuarters 7 = .ok (.i2l, 1) := dz_at (i := 5) dy_p16_2 rfl
theorem dL_wideQuarters_8 : decode cL_wideQuarters 8 = .ok (.putfield 13, 3) := dz_at (i := 6) dy_p16_2 rfl
theorem dL_wideQuarters_11 : decode cL_wideQuarters 11 = .ok (.goto 11, 3) := dz_at (i := 7) dy_p16_2 rfl
theorem dL_wideQuarters_14 : decode cL_wideQuarters 14 = .ok (.astore 4, 2) := dz_at (i := 8) dy_p16_2 rfl
theorem dL_wideQuarters_16 : decode cL_wideQuarters 16 = .ok (.iconst 1, 1) := dz_at (i := 9) dy_p16_2 rfl
theorem dL_wideQuarters_17 : decode cL_wideQuarters 17 = .ok (.ireturn, 1) := dz_at (i := 10) dy_p16_2 rfl
theorem dL_wideQuarters_18 : decode cL_wideQuarters 18 = .ok (.astore 4, 2) := dz_at (i := 11) dy_p16_2 rfl
theorem dL_wideQuarters_20 : decode cL_wideQuarters 20 = .ok (.iconst 2, 1) := dz_at (i := 12) dy_p16_2 rfl
theorem dL_wideQuarters_21 : decode cL_wideQuarters 21 = .ok (.ireturn, 1) := dz_at (i := 13) dy_p16_2 rfl
theorem dL_wideQuarters_22 : decode cL_wideQuarters 22 = .ok (.iconst 0, 1) := dz_at (i := 14) dy_p16_2 rfl
theorem dL_wideQuarters_23 : decode cL_wideQuarters 23 = .ok (.ireturn, 1) := dz_at (i := 15) dy_p16_2 rfl
noncomputable def o_L_wideQuarters (a1 : Int32) (f1 : Nat → Int64) (nv : Int64) (p1 : Int32) (p2 : Int32) : Int32 × Int32 × (Nat → Int64) × Int64 :=
  if (o_X2_wideQuarters a1 f1 p1 p2).1 = 0 then (0, (o_X2_wideQuarters a1 f1 p1 p2).2.2.1, (o_X2_wideQuarters a1 f1 p1 p2).2.2.2, (((o_X2_wideQuarters a1 f1 p1 p2).2.1).toInt64))
  else if (o_X2_wideQuarters a1 f1 p1 p2).1 = 1 then (1, a1, f1, nv)
  else (2, a1, f1, nv)
set_option maxHeartbeats 4000000 in
set_option maxRecDepth 100000 in
theorem k_L_wideQuarters (l : Launch) (hfl : l.flags = flags0) (dC : Nat → ClassId) (dI : Nat → Nat → Nat) (cy : ClassId) (h0 : Nat) (h1 : Nat) (hw1 : Nat) (hc1 : Nat) (hb1 : Nat) (h2 : Nat) (hw2 : Nat) (hc2 : Nat) (hb2 : Nat) (a1 : Int32) (r1 : Int32) (f1 : Nat → Int64) (g1 : Nat → Int64) (a2 : Int32) (r2 : Int32) (f2 : Nat → Int64) (g2 : Nat → Int64) (kn : Int32) (ho : Nat) (nv : Int64) (sv : Value) (sz : Nat) (N : Nat) (p1 : Int32) (p2 : Int32) : Met l yL_wideQuarters wsL_wideQuarters ({ frames := 9, cells := 2, slots := 12, locals := 164 }) (va_Pc [.ref h0, .int p1, .int p2, .ref ho] (xL (dC, dI) xCl [(h0, eE h1 h2 kn), (h1, eR hw1 hc1 hb1 a1 r1), (hw1, eW true), (hc1, eA cy f1), (hb1, eA cy g1), (h2, eR hw2 hc2 hb2 a2 r2), (hw2, eW false), (hc2, eA cy f2), (hb2, eA cy g2), (ho, eO nv sv)] [(cy, .long)] sz N)) (va_Qi (fun (r : Int32) (_ : Unit) => r = (o_L_wideQuarters a1 f1 nv p1 p2).1) (fun _ t => xW (dC, dI) xCl [(h0, eE h1 h2 kn), (h1, eR hw1 hc1 hb1 (o_L_wideQuarters a1 f1 nv p1 p2).2.1 r1), (hw1, eW true), (hc1, eA cy (o_L_wideQuarters a1 f1 nv p1 p2).2.2.1), (hb1, eA cy g1), (h2, eR hw2 hc2 hb2 a2 r2), (hw2, eW false), (hc2, eA cy f2), (hb2, eA cy g2), (ho, eO (o_L_wideQuarters a1 f1 nv p1 p2).2.2.2 sv)] (va_A [(h0, eE h1 h2 kn), (h1, eR hw1 hc1 hb1 a1 r1), (hw1, eW true), (hc1, eA cy f1), (hb1, eA cy g1), (h2, eR hw2 hc2 hb2 a2 r2), (hw2, eW false), (hc2, eA cy f2), (hb2, eA cy g2), (ho, eO nv sv)] sz) t) (va_A [(h0, eE h1 h2 kn), (h1, eR hw1 hc1 hb1 a1 r1), (hw1, eW true), (hc1, eA cy f1), (hb1, eA cy g1), (h2, eR hw2 hc2 hb2 a2 r2), (hw2, eW false), (hc2, eA cy f2), (hb2, eA cy g2), (ho, eO nv sv)] sz)) 2 12 (va_A [(h0, eE h1 h2 kn), (h1, eR hw1 hc1 hb1 a1 r1), (hw1, eW true), (hc1, eA cy f1), (hb1, eA cy g1), (h2, eR hw2 hc2 hb2 a2 r2), (hw2, eW false), (hc2, eA cy f2), (hb2, eA cy g2), (ho, eO nv sv)] sz) := by
  refine va_MetW (cc := cL_wideQuarters) (maxL := 5) (ret := (some .int)) (by decide +kernel) rfl ?_
  intro p e s m args below meth c s₁ B hml hv
  obtain ⟨rfl, ⟨hsz, hP, hK, hD0, hN, hG⟩, hnc⟩ := hv
  have hx := B.exec
  have hb := B.bytes
  have hr := B.returns
  have hts := atoms_spec (ws := wsL_wideQuarters) B.pre
  have hown : s.vm.findClass RL = some m.cls := findClass_of_methodNamed B.named
  have hlocks := B.notSynchronized
  have htab := vx_table (x := yL_wideQuarters) B (hts _ List.mem_cons_self)
  subst hsz
  have hAN : ∀ q, va_A [(h0, eE h1 h2 kn), (h1, eR hw1 hc1 hb1 a1 r1), (hw1, eW true), (hc1, eA cy f1), (hb1, eA cy g1), (h2, eR hw2 hc2 hb2 a2 r2), (hw2, eW false), (hc2, eA cy f2), (hb2, eA cy g2), (ho, eO nv sv)] s.heap.size q → N ≤ q := xA_N hD0 hN
  have hD := hD0.self (sz := s.heap.size)
  generalize hAe : va_A [(h0, eE h1 h2 kn), (h1, eR hw1 hc1 hb1 a1 r1), (hw1, eW true), (hc1, eA cy f1), (hb1, eA cy g1), (h2, eR hw2 hc2 hb2 a2 r2), (hw2, eW false), (hc2, eA cy f2), (hb2, eA cy g2), (ho, eO nv sv)] s.heap.size = A at hD hAN ⊢
  have hA : ∀ q : Nat, s.heap.size ≤ q → A q := fun q h => by rw [← hAe]; exact Or.inr h
  have hS : va_S A s.heap s.heap [] := va_S.rf
  have hP : va_P (dC, dI) xCl [(h0, eE h1 h2 kn), (h1, eR hw1 hc1 hb1 a1 r1), (hw1, eW true), (hc1, eA cy f1), (hb1, eA cy g1), (h2, eR hw2 hc2 hb2 a2 r2), (hw2, eW false), (hc2, eA cy f2), (hb2, eA cy g2), (ho, eO nv sv)] s.heap := hP
  have hl := lv_entry ([.ref h0, .int p1, .int p2, .ref ho]) (n := 5) (Nat.le_of_ble_eq_true rfl)
  rw [lg_entry_eq]
  generalize (lg_sl ([.ref h0, .int p1, .int p2, .ref ho]) ++ List.replicate (5 - (lg_sl ([.ref h0, .int p1, .int p2, .ref ho])).length) Slot.unset).toArray = ls at hl ⊢
  have hl : lv_has ls 5 [(0, .ref h0), (1, .int p1), (2, .int p2), (3, .ref ho)] := hl
  refine lv_aload_n hx hb dL_wideQuarters_0 rfl (lv_at hl 3 rfl) ?_
  refine lv_aload_n hx hb dL_wideQuarters_1 rfl (lv_at hl 0 rfl) ?_
  refine lv_iload_n hx hb dL_wideQuarters_2 rfl (lv_at hl 1 rfl) ?_
  refine lv_iload_n hx hb dL_wideQuarters_3 rfl (lv_at hl 2 rfl) ?_
  have hPc := hP.sub (ws' := [(h0, eE h1 h2 kn), (h1, eR hw1 hc1 hb1 a1 r1), (hw1, eW true), (hc1, eA cy f1), (hb1, eA cy g1), (h2, eR hw2 hc2 hb2 a2 r2), (hw2, eW false), (hc2, eA cy f2), (hb2, eA cy g2)]) [0, 1, 2, 3, 4, 5, 6, 7, 8] rfl
  have hDc := hD.sub (ws' := [(h0, eE h1 h2 kn), (h1, eR hw1 hc1 hb1 a1 r1), (hw1, eW true), (hc1, eA cy f1), (hb1, eA cy g1), (h2, eR hw2 hc2 hb2 a2 r2), (hw2, eW false), (hc2, eA cy f2), (hb2, eA cy g2)]) [0, 1, 2, 3, 4, 5, 6, 7, 8] (by decide +kernel) rfl
  have hKc := hK.sub (tys' := [(cy, .long)]) [0] rfl
  have hFc := va_free (wc := [(h0, eE h1 h2 kn), (h1, eR hw1 hc1 hb1 a1 r1), (hw1, eW true), (hc1, eA cy f1), (hb1, eA cy g1), (h2, eR hw2 hc2 hb2 a2 r2), (hw2, eW false), (hc2, eA cy f2), (hb2, eA cy g2)]) hD hS hA [0, 1, 2, 3, 4, 5, 6, 7, 8] rfl
  refine vx_calli (vx_runV (As := [.int p1, .int p2]) (rest := [.ref ho]) ⟨hx, hb, hml, hown, hts⟩ (k_X2_wideQuarters l hfl dC dI cy h0 h1 hw1 hc1 hb1 h2 hw2 hc2 hb2 a1 r1 f1 g1 a2 r2 f2 g2 kn s.heap.size N p1 p2) (cwV 2 hts gL_wideQuarters_X2_wideQuarters rfl rfl rfl (by decide +kernel) ⟨Nat.le_of_ble_eq_true rfl, Nat.le_of_ble_eq_true rfl⟩) (xM.preV hKc hPc hDc hAN (Nat.le_trans hN hS.1) (hG.kept hS hAN) (ci := 4) (q0 := 0) rfl rfl) rfl rfl hl.1 rfl (lv_room (Nat.le_of_ble_eq_true rfl)) dL_wideQuarters_4 ⟨Nat.le_of_ble_eq_true rfl, Nat.le_of_ble_eq_true rfl⟩) hS (fun q _ h => hFc q h) hFc (fun q _ h => hFc q h) (fun E ce q9 u9 t H locs ht hvm hpx hbx hz hk hS hce hcv hcl => ?_) (fun r_1 u t H locs ht hvm hw hB hz hk hS => ?_)
  · have c_2 : ¬ (o_X2_wideQuarters a1 f1 p1 p2).1 = 0 := hpx
    obtain ⟨hbe, hP1, hD1⟩ := hbx
    rw [ht] at hP1
    obtain ⟨hP, hD⟩ := va_join (wr := [(ho, eO nv sv)]) (w1 := [(h0, eE h1 h2 kn), (h1, eR hw1 hc1 hb1 a1 r1), (hw1, eW true), (hc1, eA cy f1), (hb1, eA cy g1), (h2, eR hw2 hc2 hb2 a2 r2), (hw2, eW false), (hc2, eA cy f2), (hb2, eA cy g2)]) hP hD [0, 1, 2, 3, 4, 5, 6, 7, 8] [9] rfl rfl (by decide +kernel) (by decide +kernel) hk hFc hP1 hD1
    have hP := hP.sub (ws' := [(h0, eE h1 h2 kn), (h1, eR hw1 hc1 hb1 a1 r1), (hw1, eW true), (hc1, eA cy f1), (hb1, eA cy g1), (h2, eR hw2 hc2 hb2 a2 r2), (hw2, eW false), (hc2, eA cy f2), (hb2, eA cy g2), (ho, eO nv sv)]) [1, 2, 3, 4, 5, 6, 7, 8, 9, 0] rfl
    have hD := hD.sub (ws' := [(h0, eE h1 h2 kn), (h1, eR hw1 hc1 hb1 a1 r1), (hw1, eW true), (hc1, eA cy f1), (hb1, eA cy g1), (h2, eR hw2 hc2 hb2 a2 r2), (hw2, eW false), (hc2, eA cy f2), (hb2, eA cy g2), (ho, eO nv sv)]) [1, 2, 3, 4, 5, 6, 7, 8, 9, 0] (by decide +kernel) rfl
    by_cases c_3 : (o_X2_wideQuarters a1 f1 p1 p2).1 = 1
    · skip
      have hE : E = "java/lang/IndexOutOfBoundsException" := hbe.trans (by rw [c_3]; rfl)
      subst hE
      refine vx_catch (own := RL) (name := "java/lang/IndexOutOfBoundsException") hown [] ⟨0, 11, 14, 19⟩ [⟨0, 11, 18, 25⟩] htab (fun z hz => absurd hz List.not_mem_nil) (by decide +kernel) (by decide +kernel) (hts (.classLink RL 19 "java/lang/IndexOutOfBoundsException") (by decide +kernel)) (va_Nw.use rfl (hG.1 (.castable "java/lang/IndexOutOfBoundsException" "java/lang/IndexOutOfBoundsException") (List.mem_of_getElem? (i := 11) rfl))) hce hcv hcl ?_
      refine lv_astore (lv' := [(4, .ref q9), (0, .ref h0), (1, .int p1), (2, .int p2), (3, .ref ho)]) hx hb dL_wideQuarters_14 hl (by decide +kernel) rfl (fun ls hl => ?_)
      refine lv_iconst (v := 1) hx hb dL_wideQuarters_16 (by decide +kernel) ?_
      have he : o_L_wideQuarters a1 f1 nv p1 p2 = (1, a1, f1, nv) := by (rw [o_L_wideQuarters, if_neg c_2, if_pos c_3]) <;> rfl
      refine W.widen (k := 2) (n := 12) (by omega) (by omega) ?_
      exact W.iret (v := 1) hx hb hr (fun t ht hW => ⟨⟨_, (), rfl, (by (rw [he]) <;> rfl), (by rw [he]; exact ⟨by rw [ht]; exact hP, hD⟩)⟩, hS.F ht⟩) hS.2.2 dL_wideQuarters_17
    · skip
      have hE : E = "java/lang/IllegalArgumentException" := hbe.trans (if_neg c_3)
      subst hE
      refine vx_catch (own := RL) (name := "java/lang/IllegalArgumentException") hown [⟨0, 11, 14, 19⟩] ⟨0, 11, 18, 25⟩ [] htab (fun z hz => by cases List.mem_singleton.mp hz; exact Or.inr ⟨by decide, "java/lang/IndexOutOfBoundsException", hts (.classLink RL 19 "java/lang/IndexOutOfBoundsException") (by decide +kernel), hnc⟩) (by decide +kernel) (by decide +kernel) (hts (.classLink RL 25 "java/lang/IllegalArgumentException") (by decide +kernel)) (va_Nw.use rfl (hG.1 (.castable "java/lang/IllegalArgumentException" "java/lang/IllegalArgumentException") (List.mem_of_getElem? (i := 12) rfl))) hce hcv hcl ?_
      refine lv_astore (lv' := [(4, .ref q9), (0, .ref h0), (1, .int p1), (2, .int p2), (3, .ref ho)]) hx hb dL_wideQuarters_18 hl (by decide +kernel) rfl (fun ls hl => ?_)
      refine lv_iconst (v := 2) hx hb dL_wideQuarters_20 (by decide +kernel) ?_
      have he : o_L_wideQuarters a1 f1 nv p1 p2 = (2, a1, f1, nv) := by (rw [o_L_wideQuarters, if_neg c_2, if_neg c_3]) <;> rfl
      refine W.widen (k := 2) (n := 12) (by omega) (by omega) ?_
      exact W.iret (v := 2) hx hb hr (fun t ht hW => ⟨⟨_, (), rfl, (by (rw [he]) <;> rfl), (by rw [he]; exact ⟨by rw [ht]; exact hP, hD⟩)⟩, hS.F ht⟩) hS.2.2 dL_wideQuarters_21
  · skip
    obtain ⟨c_4, hw⟩ := hw
    have c_4 : (o_X2_wideQuarters a1 f1 p1 p2).1 = 0 := c_4
    replace hw : r_1 = (o_X2_wideQuarters a1 f1 p1 p2).2.1 := hw
    subst r_1
    obtain ⟨hP1, hD1⟩ := hB
    rw [ht] at hP1
    obtain ⟨hP, hD⟩ := va_join (wr := [(ho, eO nv sv)]) (w1 := [(h0, eE h1 h2 kn), (h1, eR hw1 hc1 hb1 (o_X2_wideQuarters a1 f1 p1 p2).2.2.1 r1), (hw1, eW true), (hc1, eA cy (o_X2_wideQuarters a1 f1 p1 p2).2.2.2), (hb1, eA cy g1), (h2, eR hw2 hc2 hb2 a2 r2), (hw2, eW false), (hc2, eA cy f2), (hb2, eA cy g2)]) hP hD [0, 1, 2, 3, 4, 5, 6, 7, 8] [9] rfl rfl (by decide +kernel) (by decide +kernel) hk hFc hP1 hD1
    have hP := hP.sub (ws' := [(h0, eE h1 h2 kn), (h1, eR hw1 hc1 hb1 (o_X2_wideQuarters a1 f1 p1 p2).2.2.1 r1), (hw1, eW true), (hc1, eA cy (o_X2_wideQuarters a1 f1 p1 p2).2.2.2), (hb1, eA cy g1), (h2, eR hw2 hc2 hb2 a2 r2), (hw2, eW false), (hc2, eA cy f2), (hb2, eA cy g2), (ho, eO nv sv)]) [1, 2, 3, 4, 5, 6, 7, 8, 9, 0] rfl
    have hD := hD.sub (ws' := [(h0, eE h1 h2 kn), (h1, eR hw1 hc1 hb1 (o_X2_wideQuarters a1 f1 p1 p2).2.2.1 r1), (hw1, eW true), (hc1, eA cy (o_X2_wideQuarters a1 f1 p1 p2).2.2.2), (hb1, eA cy g1), (h2, eR hw2 hc2 hb2 a2 r2), (hw2, eW false), (hc2, eA cy f2), (hb2, eA cy g2), (ho, eO nv sv)]) [1, 2, 3, 4, 5, 6, 7, 8, 9, 0] (by decide +kernel) rfl
    refine lv_i2l (v := (((o_X2_wideQuarters a1 f1 p1 p2).2.1).toInt64)) hx hb dL_wideQuarters_7 rfl ?_
    refine va_putN (D := (dC, dI)) (ci := 5) (v := .long (((o_X2_wideQuarters a1 f1 p1 p2).2.1).toInt64)) (ty := .long) (C := RX3) (T := TX3) (N := 2) hx hb hts (by decide +kernel) tyX3 tyX3_ok nmX3 hown hK hP hD hS 9 rfl rfl 0 (by decide +kernel) (va_Nw.use rfl (hG.1 (.fieldLinkNest RL 13 "EdgefloatsLaw$Out" "n" "J" RL) (List.mem_of_getElem? (i := 6) rfl))) (fun _ h9 => h9) rfl (by decide +kernel) rfl rfl (Nat.le_of_ble_eq_true rfl) dL_wideQuarters_8 (fun H locs hP hD hS => ?_)
    have hP : va_P (dC, dI) xCl [(h0, eE h1 h2 kn), (h1, eR hw1 hc1 hb1 (o_X2_wideQuarters a1 f1 p1 p2).2.2.1 r1), (hw1, eW true), (hc1, eA cy (o_X2_wideQuarters a1 f1 p1 p2).2.2.2), (hb1, eA cy g1), (h2, eR hw2 hc2 hb2 a2 r2), (hw2, eW false), (hc2, eA cy f2), (hb2, eA cy g2), (ho, eO (((o_X2_wideQuarters a1 f1 p1 p2).2.1).toInt64) sv)] H := hP
    have hD : va_D A [(h0, eE h1 h2 kn), (h1, eR hw1 hc1 hb1 (o_X2_wideQuarters a1 f1 p1 p2).2.2.1 r1), (hw1, eW true), (hc1, eA cy (o_X2_wideQuarters a1 f1 p1 p2).2.2.2), (hb1, eA cy g1), (h2, eR hw2 hc2 hb2 a2 r2), (hw2, eW false), (hc2, eA cy f2), (hb2, eA cy g2), (ho, eO (((o_X2_wideQuarters a1 f1 p1 p2).2.1).toInt64) sv)] := hD
    refine lv_goto (tgt := 22) hx hb dL_wideQuarters_11 (by decide +kernel) ?_
    refine lv_iconst (v := 0) hx hb dL_wideQuarters_22 (by decide +kernel) ?_
    have he : o_L_wideQuarters a1 f1 nv p1 p2 = (0, (o_X2_wideQuarters a1 f1 p1 p2).2.2.1, (o_X2_wideQuarters a1 f1 p1 p2).2.2.2, (((o_X2_wideQuarters a1 f1 p1 p2).2.1).toInt64)) := by (rw [o_L_wideQuarters, if_pos c_4]) <;> rfl
    refine W.widen (k := 2) (n := 12) (by omega) (by omega) ?_
    exact W.iret (v := 0) hx hb hr (fun t ht hW => ⟨⟨_, (), rfl, (by (rw [he]) <;> rfl), (by rw [he]; exact ⟨by rw [ht]; exact hP, hD⟩)⟩, hS.F ht⟩) hS.2.2 dL_wideQuarters_23
theorem cl_L_wideKnown_1 : ∀ w ∈ wsL_wideKnown_r1, w ∈ wsL_wideKnown := fun _ h => (List.mem_cons_of_mem _ (List.mem_append_left _ (List.mem_append_left _ (List.mem_append_left _ (List.mem_append_left _ (List.mem_append_left _ (List.mem_append_left _ (List.mem_append_left _ h))))))))
theorem cl_L_wideKnown_2 : ∀ w ∈ wsL_wideKnown_r2, w ∈ wsL_wideKnown := fun _ h => (List.mem_cons_of_mem _ (List.mem_append_left _ (List.mem_append_left _ (List.mem_append_left _ (List.mem_append_left _ (List.mem_append_left _ (List.mem_append_left _ (List.mem_append_right _ h))))))))
theorem cl_L_wideKnown_3 : ∀ w ∈ wsX30, w ∈ wsL_wideKnown := fun _ h => (List.mem_cons_of_mem _ (List.mem_append_left _ (List.mem_append_left _ (List.mem_append_left _ (List.mem_append_left _ (List.mem_append_left _ (List.mem_append_right _ h)))))))
theorem cl_L_wideKnown_4 : ∀ w ∈ wsX20, w ∈ wsL_wideKnown := fun _ h => (List.mem_cons_of_mem _ (List.mem_append_left _ (List.mem_append_left _ (List.mem_append_left _ (List.mem_append_left _ (List.mem_append_right _ h))))))
theorem cl_L_wideKnown_5 : ∀ w ∈ wsX00, w ∈ wsL_wideKnown := fun _ h => (List.mem_cons_of_mem _ (List.mem_append_left _ (List.mem_append_left _ (List.mem_append_left _ (List.mem_append_right _ h)))))
theorem cl_L_wideKnown_6 : ∀ w ∈ wsX10, w ∈ wsL_wideKnown := fun _ h => (List.mem_cons_of_mem _ (List.mem_append_left _ (List.mem_append_left _ (List.mem_append_right _ h))))
theorem cl_L_wideKnown_7 : ∀ w ∈ (vx_atS RX2 152 "java/lang/IndexOutOfBoundsException" ["java/lang/RuntimeException", "java/lang/Exception"]).filter goodWord, w ∈ wsL_wideKnown := fun _ h => (List.mem_cons_of_mem _ (List.mem_append_left _ (List.mem_append_right _ h)))
theorem cl_L_wideKnown_8 : ∀ w ∈ (vx_atS RX2 159 "java/lang/IllegalArgumentException" ["java/lang/RuntimeException", "java/lang/Exception"]).filter goodWord, w ∈ wsL_wideKnown := fun _ h => (List.mem_cons_of_mem _ (List.mem_append_right _ h))
set_option maxRecDepth 20000 in
theorem ggL_wideKnown_X2_wideKnown : GoodIn wsL_wideKnown wsX2_wideKnown := goodIn_sub (List.forall_mem_cons.mpr ⟨(cl_L_wideKnown_1 _ (List.mem_of_getElem? (i := 6) rfl)), fun w h => (List.mem_append.mp h).elim ((fun w h => (List.mem_append.mp h).elim ((fun w h => (List.mem_append.mp h).elim ((fun w h => (List.mem_append.mp h).elim ((fun w h => (List.mem_append.mp h).elim ((fun w h => (List.mem_append.mp h).elim ((List.forall_mem_cons.mpr ⟨(cl_L_wideKnown_1 _ (List.mem_of_getElem? (i := 7) rfl)), List.forall_mem_cons.mpr ⟨(cl_L_wideKnown_1 _ (List.mem_of_getElem? (i := 8) rfl)), List.forall_mem_cons.mpr ⟨(cl_L_wideKnown_1 _ (List.mem_of_getElem? (i := 9) rfl)), List.forall_mem_cons.mpr ⟨(cl_L_wideKnown_1 _ (List.mem_of_getElem? (i := 10) rfl)), List.forall_mem_cons.mpr ⟨(cl_L_wideKnown_1 _ (List.mem_of_getElem? (i := 11) rfl)), List.forall_mem_cons.mpr ⟨(cl_L_wideKnown_1 _ (List.mem_of_getElem? (i := 12) rfl)), List.forall_mem_cons.mpr ⟨(cl_L_wideKnown_1 _ (List.mem_of_getElem? (i := 13) rfl)), List.forall_mem_cons.mpr ⟨(cl_L_wideKnown_1 _ (List.mem_of_getElem? (i := 14) rfl)), List.forall_mem_cons.mpr ⟨(cl_L_wideKnown_1 _ (List.mem_of_getElem? (i := 5) rfl)), List.forall_mem_cons.mpr ⟨(cl_L_wideKnown_1 _ (List.mem_of_getElem? (i := 15) rfl)), List.forall_mem_cons.mpr ⟨(cl_L_wideKnown_1 _ (List.mem_of_getElem? (i := 16) rfl)), List.forall_mem_cons.mpr ⟨(cl_L_wideKnown_1 _ (List.mem_of_getElem? (i := 17) rfl)), List.forall_mem_cons.mpr ⟨(cl_L_wideKnown_1 _ (List.mem_of_getElem? (i := 18) rfl)), List.forall_mem_cons.mpr ⟨(cl_L_wideKnown_1 _ (List.mem_of_getElem? (i := 19) rfl)), List.forall_mem_cons.mpr ⟨(cl_L_wideKnown_1 _ (List.mem_of_getElem? (i := 20) rfl)), List.forall_mem_cons.mpr ⟨(cl_L_wideKnown_1 _ (List.mem_of_getElem? (i := 21) rfl)), List.forall_mem_cons.mpr ⟨(cl_L_wideKnown_1 _ (List.mem_of_getElem? (i := 22) rfl)), List.forall_mem_cons.mpr ⟨(cl_L_wideKnown_1 _ (List.mem_of_getElem? (i := 23) rfl)), List.forall_mem_cons.mpr ⟨(cl_L_wideKnown_2 _ (List.mem_of_getElem? (i := 0) rfl)), List.forall_mem_cons.mpr ⟨(cl_L_wideKnown_2 _ (List.mem_of_getElem? (i := 1) rfl)), List.forall_mem_cons.mpr ⟨(cl_L_wideKnown_2 _ (List.mem_of_getElem? (i := 2) rfl)), List.forall_mem_cons.mpr ⟨(cl_L_wideKnown_2 _ (List.mem_of_getElem? (i := 3) rfl)), List.forall_mem_cons.mpr ⟨(cl_L_wideKnown_2 _ (List.mem_of_getElem? (i := 4) rfl)), List.forall_mem_cons.mpr ⟨(cl_L_wideKnown_2 _ (List.mem_of_getElem? (i := 5) rfl)), fun _ h => absurd h List.not_mem_nil⟩⟩⟩⟩⟩⟩⟩⟩⟩⟩⟩⟩⟩⟩⟩⟩⟩⟩⟩⟩⟩⟩⟩⟩) w) ((List.forall_mem_cons.mpr ⟨(cl_L_wideKnown_2 _ (List.mem_of_getElem? (i := 6) rfl)), List.forall_mem_cons.mpr ⟨(cl_L_wideKnown_2 _ (List.mem_of_getElem? (i := 7) rfl)), List.forall_mem_cons.mpr ⟨(cl_L_wideKnown_2 _ (List.mem_of_getElem? (i := 8) rfl)), List.forall_mem_cons.mpr ⟨(cl_L_wideKnown_2 _ (List.mem_of_getElem? (i := 9) rfl)), List.forall_mem_cons.mpr ⟨(cl_L_wideKnown_2 _ (List.mem_of_getElem? (i := 10) rfl)), List.forall_mem_cons.mpr ⟨(cl_L_wideKnown_2 _ (List.mem_of_getElem? (i := 11) rfl)), fun _ h => absurd h List.not_mem_nil⟩⟩⟩⟩⟩⟩) w)) w) ((cl_L_wideKnown_4) w)) w) ((cl_L_wideKnown_5) w)) w) ((cl_L_wideKnown_6) w)) w) ((cl_L_wideKnown_7) w)) w) ((cl_L_wideKnown_8) w)⟩) (by decide +kernel)
set_option maxRecDepth 20000 in
theorem gL_wideKnown_X2_wideKnown : GoodIn wsL_wideKnown (wsV RL 27 RX2 yX2_wideKnown wsX2_wideKnown) := goodIn_app (goodIn_sub (List.forall_mem_cons.mpr ⟨(cl_L_wideKnown_1 _ (List.mem_of_getElem? (i := 2) rfl)), List.forall_mem_cons.mpr ⟨(cl_L_wideKnown_1 _ (List.mem_of_getElem? (i := 3) rfl)), List.forall_mem_cons.mpr ⟨(cl_L_wideKnown_1 _ (List.mem_of_getElem? (i := 4) rfl)), List.forall_mem_cons.mpr ⟨(cl_L_wideKnown_1 _ (List.mem_of_getElem? (i := 5) rfl)), fun _ h => absurd h List.not_mem_nil⟩⟩⟩⟩) (by decide +kernel)) ggL_wideKnown_X2_wideKnown
noncomputable def dz_p16_3 : List (Nat × Instr × Nat) := [(0, (.aload_n 3, 1)), (1, (.aload_n 0, 1)), (2, (.iload_n 1, 1)), (3, (.iload_n 2, 1)), (4, (.invokevirtual 27, 3)), (7, (.i2l, 1)), (8, (.putfield 13, 3)), (11, (.goto 11, 3)), (14, (.astore 4, 2)), (16, (.iconst 1, 1)), (17, (.ireturn, 1)), (18, (.astore 4, 2)), (20, (.iconst 2, 1)), (21, (.ireturn, 1)), (22, (.iconst 0, 1)), (23, (.ireturn, 1))]
theorem dy_p16_3 : dz_ok cL_wideKnown dz_p16_3 = true := by decide +kernel
theorem dL_wideKnown_0 : decode cL_wideKnown 0 = .ok (.aload_n 3, 1) := dz_at (i := 0) dy_p16_3 rfl
theorem dL_wideKnown_1 : decode cL_wideKnown 1 = .ok (.aload_n 0, 1) := dz_at (i := 1) dy_p16_3 rfl
theorem dL_wideKnown_2 : decode cL_wideKnown 2 = .ok (.iload_n 1, 1) := dz_at (i := 2) dy_p16_3 rfl
theorem dL_wideKnown_3 : decode cL_wideKnown 3 = .ok (.iload_n 2, 1) := dz_at (i := 3) dy_p16_3 rfl
theorem dL_wideKnown_4 : decode cL_wideKnown 4 = .ok (.invokevirtual 27, 3) := dz_at (i := 4) dy_p16_3 rfl
theorem dL_wideKnown_7 : decode cL_wideKnown 7 = .ok (.i2l, 1) := dz_at (i := 5) dy_p16_3 rfl
theorem dL_wideKnown_8 : decode cL_wideKnown 8 = .ok (.putfield 13, 3) := dz_at (i := 6) dy_p16_3 rfl
theorem dL_wideKnown_11 : decode cL_wideKnown 11 = .ok (.goto 11, 3) := dz_at (i := 7) dy_p16_3 rfl
theorem dL_wideKnown_14 : decode cL_wideKnown 14 = .ok (.astore 4, 2) := dz_at (i := 8) dy_p16_3 rfl
theorem dL_wideKnown_16 : decode cL_wideKnown 16 = .ok (.iconst 1, 1) := dz_at (i := 9) dy_p16_3 rfl
theorem dL_wideKnown_17 : decode cL_wideKnown 17 = .ok (.ireturn, 1) := dz_at (i := 10) dy_p16_3 rfl
theorem dL_wideKnown_18 : decode cL_wideKnown 18 = .ok (.astore 4, 2) := dz_at (i := 11) dy_p16_3 rfl
theorem dL_wideKnown_20 : decode cL_wideKnown 20 = .ok (.iconst 2, 1) := dz_at (i := 12) dy_p16_3 rfl
theorem dL_wideKnown_21 : decode cL_wideKnown 21 = .ok (.ireturn, 1) := dz_at (i := 13) dy_p16_3 rfl
theorem dL_wideKnown_22 : decode cL_wideKnown 22 = .ok (.iconst 0, 1) := dz_at (i := 14) dy_p16_3 rfl
theorem dL_wideKnown_23 : decode cL_wideKnown 23 = .ok (.ireturn, 1) := dz_at (i := 15) dy_p16_3 rfl
noncomputable def o_L_wideKnown (a1 : Int32) (f1 : Nat → Int64) (nv : Int64) (p1 : Int32) (p2 : Int32) : Int32 × Int32 × (Nat → Int64) × Int64 :=
  if (o_X2_wideKnown a1 f1 p1 p2).1 = 0 then (0, (o_X2_wideKnown a1 f1 p1 p2).2.2.1, (o_X2_wideKnown a1 f1 p1 p2).2.2.2, (((o_X2_wideKnown a1 f1 p1 p2).2.1).toInt64))
  else if (o_X2_wideKnown a1 f1 p1 p2).1 = 1 then (1, a1, f1, nv)
  else (2, a1, f1, nv)
set_option maxHeartbeats 4000000 in
set_option maxRecDepth 100000 in
theorem k_L_wideKnown (l : Launch) (hfl : l.flags = flags0) (dC : Nat → ClassId) (dI : Nat → Nat → Nat) (cy : ClassId) (h0 : Nat) (h1 : Nat) (hw1 : Nat) (hc1 : Nat) (hb1 : Nat) (h2 : Nat) (hw2 : Nat) (hc2 : Nat) (hb2 : Nat) (a1 : Int32) (r1 : Int32) (f1 : Nat → Int64) (g1 : Nat → Int64) (a2 : Int32) (r2 : Int32) (f2 : Nat → Int64) (g2 : Nat → Int64) (kn : Int32) (ho : Nat) (nv : Int64) (sv : Value) (sz : Nat) (N : Nat) (p1 : Int32) (p2 : Int32) : Met l yL_wideKnown wsL_wideKnown ({ frames := 9, cells := 2, slots := 12, locals := 165 }) (va_Pc [.ref h0, .int p1, .int p2, .ref ho] (xL (dC, dI) xCl [(h0, eE h1 h2 kn), (h1, eR hw1 hc1 hb1 a1 r1), (hw1, eW true), (hc1, eA cy f1), (hb1, eA cy g1), (h2, eR hw2 hc2 hb2 a2 r2), (hw2, eW false), (hc2, eA cy f2), (hb2, eA cy g2), (ho, eO nv sv)] [(cy, .long)] sz N)) (va_Qi (fun (r : Int32) (_ : Unit) => r = (o_L_wideKnown a1 f1 nv p1 p2).1) (fun _ t => xW (dC, dI) xCl [(h0, eE h1 h2 kn), (h1, eR hw1 hc1 hb1 (o_L_wideKnown a1 f1 nv p1 p2).2.1 r1), (hw1, eW true), (hc1, eA cy (o_L_wideKnown a1 f1 nv p1 p2).2.2.1), (hb1, eA cy g1), (h2, eR hw2 hc2 hb2 a2 r2), (hw2, eW false), (hc2, eA cy f2), (hb2, eA cy g2), (ho, eO (o_L_wideKnown a1 f1 nv p1 p2).2.2.2 sv)] (va_A [(h0, eE h1 h2 kn), (h1, eR hw1 hc1 hb1 a1 r1), (hw1, eW true), (hc1, eA cy f1), (hb1, eA cy g1), (h2, eR hw2 hc2 hb2 a2 r2), (hw2, eW false), (hc2, eA cy f2), (hb2, eA cy g2), (ho, eO nv sv)] sz) t) (va_A [(h0, eE h1 h2 kn), (h1, eR hw1 hc1 hb1 a1 r1), (hw1, eW true), (hc1, eA cy f1), (hb1, eA cy g1), (h2, eR hw2 hc2 hb2 a2 r2), (hw2, eW false), (hc2, eA cy f2), (hb2, eA cy g2), (ho, eO nv sv)] sz)) 2 12 (va_A [(h0, eE h1 h2 kn), (h1, eR hw1 hc1 hb1 a1 r1), (hw1, eW true), (hc1, eA cy f1), (hb1, eA cy g1), (h2, eR hw2 hc2 hb2 a2 r2), (hw2, eW false), (hc2, eA cy f2), (hb2, eA cy g2), (ho, eO nv sv)] sz) := by
  refine va_MetW (cc := cL_wideKnown) (maxL := 5) (ret := (some .int)) (by decide +kernel) rfl ?_
  intro p e s m args below meth c s₁ B hml hv
  obtain ⟨rfl, ⟨hsz, hP, hK, hD0, hN, hG⟩, hnc⟩ := hv
  have hx := B.exec
  have hb := B.bytes
  have hr := B.returns
  have hts := atoms_spec (ws := wsL_wideKnown) B.pre
  have hown : s.vm.findClass RL = some m.cls := findClass_of_methodNamed B.named
  have hlocks := B.notSynchronized
  have htab := vx_table (x := yL_wideKnown) B (hts _ List.mem_cons_self)
  subst hsz
  have hAN : ∀ q, va_A [(h0, eE h1 h2 kn), (h1, eR hw1 hc1 hb1 a1 r1), (hw1, eW true), (hc1, eA cy f1), (hb1, eA cy g1), (h2, eR hw2 hc2 hb2 a2 r2), (hw2, eW false), (hc2, eA cy f2), (hb2, eA cy g2), (ho, eO nv sv)] s.heap.size q → N ≤ q := xA_N hD0 hN
  have hD := hD0.self (sz := s.heap.size)
  generalize hAe : va_A [(h0, eE h1 h2 kn), (h1, eR hw1 hc1 hb1 a1 r1), (hw1, eW true), (hc1, eA cy f1), (hb1, eA cy g1), (h2, eR hw2 hc2 hb2 a2 r2), (hw2, eW false), (hc2, eA cy f2), (hb2, eA cy g2), (ho, eO nv sv)] s.heap.size = A at hD hAN ⊢
  have hA : ∀ q : Nat, s.heap.size ≤ q → A q := fun q h => by rw [← hAe]; exact Or.inr h
  have hS : va_S A s.heap s.heap [] := va_S.rf
  have hP : va_P (dC, dI) xCl [(h0, eE h1 h2 kn), (h1, eR hw1 hc1 hb1 a1 r1), (hw1, eW true), (hc1, eA cy f1), (hb1, eA cy g1), (h2, eR hw2 hc2 hb2 a2 r2), (hw2, eW false), (hc2, eA cy f2), (hb2, eA cy g2), (ho, eO nv sv)] s.heap := hP
  have hl := lv_entry ([.ref h0, .int p1, .int p2, .ref ho]) (n := 5) (Nat.le_of_ble_eq_true rfl)
  rw [lg_entry_eq]
  generalize (lg_sl ([.ref h0, .int p1, .int p2, .ref ho]) ++ List.replicate (5 - (lg_sl ([.ref h0, .int p1, .int p2, .ref ho])).length) Slot.unset).toArray = ls at hl ⊢
  have hl : lv_has ls 5 [(0, .ref h0), (1, .int p1), (2, .int p2), (3, .ref ho)] := hl
  refine lv_aload_n hx hb dL_wideKnown_0 rfl (lv_at hl 3 rfl) ?_
  refine lv_aload_n hx hb dL_wideKnown_1 rfl (lv_at hl 0 rfl) ?_
  refine lv_iload_n hx hb dL_wideKnown_2 rfl (lv_at hl 1 rfl) ?_
  refine lv_iload_n hx hb dL_wideKnown_3 rfl (lv_at hl 2 rfl) ?_
  have hPc := hP.sub (ws' := [(h0, eE h1 h2 kn), (h1, eR hw1 hc1 hb1 a1 r1), (hw1, eW true), (hc1, eA cy f1), (hb1, eA cy g1), (h2, eR hw2 hc2 hb2 a2 r2), (hw2, eW false), (hc2, eA cy f2), (hb2, eA cy g2)]) [0, 1, 2, 3, 4, 5, 6, 7, 8] rfl
  have hDc := hD.sub (ws' := [(h0, eE h1 h2 kn), (h1, eR hw1 hc1 hb1 a1 r1), (hw1, eW true), (hc1, eA cy f1), (hb1, eA cy g1), (h2, eR hw2 hc2 hb2 a2 r2), (hw2, eW false), (hc2, eA cy f2), (hb2, eA cy g2)]) [0, 1, 2, 3, 4, 5, 6, 7, 8] (by decide +kernel) rfl
  have hKc := hK.sub (tys' := [(cy, .long)]) [0] rfl
  have hFc := va_free (wc := [(h0, eE h1 h2 kn), (h1, eR hw1 hc1 hb1 a1 r1), (hw1, eW true), (hc1, eA cy f1), (hb1, eA cy g1), (h2, eR hw2 hc2 hb2 a2 r2), (hw2, eW false), (hc2, eA cy f2), (hb2, eA cy g2)]) hD hS hA [0, 1, 2, 3, 4, 5, 6, 7, 8] rfl
  refine vx_calli (vx_runV (As := [.int p1, .int p2]) (rest := [.ref ho]) ⟨hx, hb, hml, hown, hts⟩ (k_X2_wideKnown l hfl dC dI cy h0 h1 hw1 hc1 hb1 h2 hw2 hc2 hb2 a1 r1 f1 g1 a2 r2 f2 g2 kn s.heap.size N p1 p2) (cwV 2 hts gL_wideKnown_X2_wideKnown rfl rfl rfl (by decide +kernel) ⟨Nat.le_of_ble_eq_true rfl, Nat.le_of_ble_eq_true rfl⟩) (xM.preV hKc hPc hDc hAN (Nat.le_trans hN hS.1) (hG.kept hS hAN) (ci := 4) (q0 := 0) rfl rfl) rfl rfl hl.1 rfl (lv_room (Nat.le_of_ble_eq_true rfl)) dL_wideKnown_4 ⟨Nat.le_of_ble_eq_true rfl, Nat.le_of_ble_eq_true rfl⟩) hS (fun q _ h => hFc q h) hFc (fun q _ h => hFc q h) (fun E ce q9 u9 t H locs ht hvm hpx hbx hz hk hS hce hcv hcl => ?_) (fun r_1 u t H locs ht hvm hw hB hz hk hS => ?_)
  · have c_2 : ¬ (o_X2_wideKnown a1 f1 p1 p2).1 = 0 := hpx
    obtain ⟨hbe, hP1, hD1⟩ := hbx
    rw [ht] at hP1
    obtain ⟨hP, hD⟩ := va_join (wr := [(ho, eO nv sv)]) (w1 := [(h0, eE h1 h2 kn), (h1, eR hw1 hc1 hb1 a1 r1), (hw1, eW true), (hc1, eA cy f1), (hb1, eA cy g1), (h2, eR hw2 hc2 hb2 a2 r2), (hw2, eW false), (hc2, eA cy f2), (hb2, eA cy g2)]) hP hD [0, 1, 2, 3, 4, 5, 6, 7, 8] [9] rfl rfl (by decide +kernel) (by decide +kernel) hk hFc hP1 hD1
    have hP := hP.sub (ws' := [(h0, eE h1 h2 kn), (h1, eR hw1 hc1 hb1 a1 r1), (hw1, eW true), (hc1, eA cy f1), (hb1, eA cy g1), (h2, eR hw2 hc2 hb2 a2 r2), (hw2, eW false), (hc2, eA cy f2), (hb2, eA cy g2), (ho, eO nv sv)]) [1, 2, 3, 4, 5, 6, 7, 8, 9, 0] rfl
    have hD := hD.sub (ws' := [(h0, eE h1 h2 kn), (h1, eR hw1 hc1 hb1 a1 r1), (hw1, eW true), (hc1, eA cy f1), (hb1, eA cy g1), (h2, eR hw2 hc2 hb2 a2 r2), (hw2, eW false), (hc2, eA cy f2), (hb2, eA cy g2), (ho, eO nv sv)]) [1, 2, 3, 4, 5, 6, 7, 8, 9, 0] (by decide +kernel) rfl
    by_cases c_3 : (o_X2_wideKnown a1 f1 p1 p2).1 = 1
    · skip
      have hE : E = "java/lang/IndexOutOfBoundsException" := hbe.trans (by rw [c_3]; rfl)
      subst hE
      refine vx_catch (own := RL) (name := "java/lang/IndexOutOfBoundsException") hown [] ⟨0, 11, 14, 19⟩ [⟨0, 11, 18, 25⟩] htab (fun z hz => absurd hz List.not_mem_nil) (by decide +kernel) (by decide +kernel) (hts (.classLink RL 19 "java/lang/IndexOutOfBoundsException") (by decide +kernel)) (va_Nw.use rfl (hG.1 (.castable "java/lang/IndexOutOfBoundsException" "java/lang/IndexOutOfBoundsException") (List.mem_of_getElem? (i := 11) rfl))) hce hcv hcl ?_
      refine lv_astore (lv' := [(4, .ref q9), (0, .ref h0), (1, .int p1), (2, .int p2), (3, .ref ho)]) hx hb dL_wideKnown_14 hl (by decide +kernel) rfl (fun ls hl => ?_)
      refine lv_iconst (v := 1) hx hb dL_wideKnown_16 (by decide +kernel) ?_
      have he : o_L_wideKnown a1 f1 nv p1 p2 = (1, a1, f1, nv) := by (rw [o_L_wideKnown, if_neg c_2, if_pos c_3]) <;> rfl
      refine W.widen (k := 2) (n := 12) (by omega) (by omega) ?_
      exact W.iret (v := 1) hx hb hr (fun t ht hW => ⟨⟨_, (), rfl, (by (rw [he]) <;> rfl), (by rw [he]; exact ⟨by rw [ht]; exact hP, hD⟩)⟩, hS.F ht⟩) hS.2.2 dL_wideKnown_17
    · skip
      have hE : E = "java/lang/IllegalArgumentException" := hbe.trans (if_neg c_3)
      subst hE
      refine vx_catch (own := RL) (name := "java/lang/IllegalArgumentException") hown [⟨0, 11, 14, 19⟩] ⟨0, 11, 18, 25⟩ [] htab (fun z hz => by cases List.mem_singleton.mp hz; exact Or.inr ⟨by decide, "java/lang/IndexOutOfBoundsException", hts (.classLink RL 19 "java/lang/IndexOutOfBoundsException") (by decide +kernel), hnc⟩) (by decide +kernel) (by decide +kernel) (hts (.classLink RL 25 "java/lang/IllegalArgumentException") (by decide +kernel)) (va_Nw.use rfl (hG.1 (.castable "java/lang/IllegalArgumentException" "java/lang/IllegalArgumentException") (List.mem_of_getElem? (i := 12) rfl))) hce hcv hcl ?_
      refine lv_astore (lv' := [(4, .ref q9), (0, .ref h0), (1, .int p1), (2, .int p2), (3, .ref ho)]) hx hb dL_wideKnown_18 hl (by decide +kernel) rfl (fun ls hl => ?_)
      refine lv_iconst (v := 2) hx hb dL_wideKnown_20 (by decide +kernel) ?_
      have he : o_L_wideKnown a1 f1 nv p1 p2 = (2, a1, f1, nv) := by (rw [o_L_wideKnown, if_neg c_2, if_neg c_3]) <;> rfl
      refine W.widen (k := 2) (n := 12) (by omega) (by omega) ?_
      exact W.iret (v := 2) hx hb hr (fun t ht hW => ⟨⟨_, (), rfl, (by (rw [he]) <;> rfl), (by rw [he]; exact ⟨by rw [ht]; exact hP, hD⟩)⟩, hS.F ht⟩) hS.2.2 dL_wideKnown_21
  · skip
    obtain ⟨c_4, hw⟩ := hw
    have c_4 : (o_X2_wideKnown a1 f1 p1 p2).1 = 0 := c_4
    replace hw : r_1 = (o_X2_wideKnown a1 f1 p1 p2).2.1 := hw
    subst r_1
    obtain ⟨hP1, hD1⟩ := hB
    rw [ht] at hP1
    obtain ⟨hP, hD⟩ := va_join (wr := [(ho, eO nv sv)]) (w1 := [(h0, eE h1 h2 kn), (h1, eR hw1 hc1 hb1 (o_X2_wideKnown a1 f1 p1 p2).2.2.1 r1), (hw1, eW true), (hc1, eA cy (o_X2_wideKnown a1 f1 p1 p2).2.2.2), (hb1, eA cy g1), (h2, eR hw2 hc2 hb2 a2 r2), (hw2, eW false), (hc2, eA cy f2), (hb2, eA cy g2)]) hP hD [0, 1, 2, 3, 4, 5, 6, 7, 8] [9] rfl rfl (by decide +kernel) (by decide +kernel) hk hFc hP1 hD1
    have hP := hP.sub (ws' := [(h0, eE h1 h2 kn), (h1, eR hw1 hc1 hb1 (o_X2_wideKnown a1 f1 p1 p2).2.2.1 r1), (hw1, eW true), (hc1, eA cy (o_X2_wideKnown a1 f1 p1 p2).2.2.2), (hb1, eA cy g1), (h2, eR hw2 hc2 hb2 a2 r2), (hw2, eW false), (hc2, eA cy f2), (hb2, eA cy g2), (ho, eO nv sv)]) [1, 2, 3, 4, 5, 6, 7, 8, 9, 0] rfl
    have hD := hD.sub (ws' := [(h0, eE h1 h2 kn), (h1, eR hw1 hc1 hb1 (o_X2_wideKnown a1 f1 p1 p2).2.2.1 r1), (hw1, eW true), (hc1, eA cy (o_X2_wideKnown a1 f1 p1 p2).2.2.2), (hb1, eA cy g1), (h2, eR hw2 hc2 hb2 a2 r2), (hw2, eW false), (hc2, eA cy f2), (hb2, eA cy g2), (ho, eO nv sv)]) [1, 2, 3, 4, 5, 6, 7, 8, 9, 0] (by decide +kernel) rfl
    refine lv_i2l (v := (((o_X2_wideKnown a1 f1 p1 p2).2.1).toInt64)) hx hb dL_wideKnown_7 rfl ?_
    refine va_putN (D := (dC, dI)) (ci := 5) (v := .long (((o_X2_wideKnown a1 f1 p1 p2).2.1).toInt64)) (ty := .long) (C := RX3) (T := TX3) (N := 2) hx hb hts (by decide +kernel) tyX3 tyX3_ok nmX3 hown hK hP hD hS 9 rfl rfl 0 (by decide +kernel) (va_Nw.use rfl (hG.1 (.fieldLinkNest RL 13 "EdgefloatsLaw$Out" "n" "J" RL) (List.mem_of_getElem? (i := 6) rfl))) (fun _ h9 => h9) rfl (by decide +kernel) rfl rfl (Nat.le_of_ble_eq_true rfl) dL_wideKnown_8 (fun H locs hP hD hS => ?_)
    have hP : va_P (dC, dI) xCl [(h0, eE h1 h2 kn), (h1, eR hw1 hc1 hb1 (o_X2_wideKnown a1 f1 p1 p2).2.2.1 r1), (hw1, eW true), (hc1, eA cy (o_X2_wideKnown a1 f1 p1 p2).2.2.2), (hb1, eA cy g1), (h2, eR hw2 hc2 hb2 a2 r2), (hw2, eW false), (hc2, eA cy f2), (hb2, eA cy g2), (ho, eO (((o_X2_wideKnown a1 f1 p1 p2).2.1).toInt64) sv)] H := hP
    have hD : va_D A [(h0, eE h1 h2 kn), (h1, eR hw1 hc1 hb1 (o_X2_wideKnown a1 f1 p1 p2).2.2.1 r1), (hw1, eW true), (hc1, eA cy (o_X2_wideKnown a1 f1 p1 p2).2.2.2), (hb1, eA cy g1), (h2, eR hw2 hc2 hb2 a2 r2), (hw2, eW false), (hc2, eA cy f2), (hb2, eA cy g2), (ho, eO (((o_X2_wideKnown a1 f1 p1 p2).2.1).toInt64) sv)] := hD
    refine lv_goto (tgt := 22) hx hb dL_wideKnown_11 (by decide +kernel) ?_
    refine lv_iconst (v := 0) hx hb dL_wideKnown_22 (by decide +kernel) ?_
    have he : o_L_wideKnown a1 f1 nv p1 p2 = (0, (o_X2_wideKnown a1 f1 p1 p2).2.2.1, (o_X2_wideKnown a1 f1 p1 p2).2.2.2, (((o_X2_wideKnown a1 f1 p1 p2).2.1).toInt64)) := by (rw [o_L_wideKnown, if_pos c_4]) <;> rfl
    refine W.widen (k := 2) (n := 12) (by omega) (by omega) ?_
    exact W.iret (v := 0) hx hb hr (fun t ht hW => ⟨⟨_, (), rfl, (by (rw [he]) <;> rfl), (by rw [he]; exact ⟨by rw [ht]; exact hP, hD⟩)⟩, hS.F ht⟩) hS.2.2 dL_wideKnown_23
theorem cl_L_wideCopy_1 : ∀ w ∈ [.classLink RL 19 "java/lang/IndexOutOfBoundsException", .methodLink RL 30 yX2_wideCopy, .instanceMethod yX2_wideCopy, .selects RX2 yX2_wideCopy yX2_wideCopy, .initialized RX2, .code yX2_wideCopy cX2_wideCopy 3 (some .int), .fieldLink RX2 20 "Edgefloats" "wide" "LEdgefloats$Row;", .methodLink RX2 41 yX0_copy, .instanceMethod yX0_copy, .selects RX0 yX0_copy yX0_copy, .initialized RX0, .code yX0_copy cX0_copy 3 (some .int), .fieldLink RX0 15 "Edgefloats$Row" "cells" "[J", .static yX2_checkCell, .code yX2_checkCell cX2_checkCell 1 none, .classLink RX2 148 "java/lang/IndexOutOfBoundsException", .initialized "java/lang/IndexOutOfBoundsException", .methodLink RX0 36 yX0_place, .instanceMethod yX0_place, .selects RX0 yX0_place yX0_place, .code yX0_place cX0_place 5 (some .int), .fieldLink RX0 80 "Edgefloats$Row" "acts" "I"], w ∈ wsL_wideCopy := fun _ h => (List.mem_cons_of_mem _ (List.mem_append_left _ (List.mem_append_left _ (List.mem_append_left _ (List.mem_append_left _ h)))))
theorem cl_L_wideCopy_2 : ∀ w ∈ wsX30, w ∈ wsL_wideCopy := fun _ h => (List.mem_cons_of_mem _ (List.mem_append_left _ (List.mem_append_left _ (List.mem_append_left _ (List.mem_append_right _ h)))))
theorem cl_L_wideCopy_3 : ∀ w ∈ wsX20, w ∈ wsL_wideCopy := fun _ h => (List.mem_cons_of_mem _ (List.mem_append_left _ (List.mem_append_left _ (List.mem_append_right _ h))))
theorem cl_L_wideCopy_4 : ∀ w ∈ wsX00, w ∈ wsL_wideCopy := fun _ h => (List.mem_cons_of_mem _ (List.mem_append_left _ (List.mem_append_right _ h)))
theorem cl_L_wideCopy_5 : ∀ w ∈ (vx_atS RX2 152 "java/lang/IndexOutOfBoundsException" ["java/lang/RuntimeException", "java/lang/Exception"]).filter goodWord, w ∈ wsL_wideCopy := fun _ h => (List.mem_cons_of_mem _ (List.mem_append_right _ h))
set_option maxRecDepth 20000 in
theorem ggL_wideCopy_X2_wideCopy : GoodIn wsL_wideCopy wsX2_wideCopy := goodIn_sub (List.forall_mem_cons.mpr ⟨(cl_L_wideCopy_1 _ (List.mem_of_getElem? (i := 5) rfl)), fun w h => (List.mem_append.mp h).elim ((fun w h => (List.mem_append.mp h).elim ((fun w h => (List.mem_append.mp h).elim ((List.forall_mem_cons.mpr ⟨(cl_L_wideCopy_1 _ (List.mem_of_getElem? (i := 6) rfl)), List.forall_mem_cons.mpr ⟨(cl_L_wideCopy_1 _ (List.mem_of_getElem? (i := 7) rfl)), List.forall_mem_cons.mpr ⟨(cl_L_wideCopy_1 _ (List.mem_of_getElem? (i := 8) rfl)), List.forall_mem_cons.mpr ⟨(cl_L_wideCopy_1 _ (List.mem_of_getElem? (i := 9) rfl)), List.forall_mem_cons.mpr ⟨(cl_L_wideCopy_1 _ (List.mem_of_getElem? (i := 10) rfl)), List.forall_mem_cons.mpr ⟨(cl_L_wideCopy_1 _ (List.mem_of_getElem? (i := 11) rfl)), List.forall_mem_cons.mpr ⟨(cl_L_wideCopy_1 _ (List.mem_of_getElem? (i := 12) rfl)), List.forall_mem_cons.mpr ⟨(cl_L_wideCopy_1 _ (List.mem_of_getElem? (i := 13) rfl)), List.forall_mem_cons.mpr ⟨(cl_L_wideCopy_1 _ (List.mem_of_getElem? (i := 4) rfl)), List.forall_mem_cons.mpr ⟨(cl_L_wideCopy_1 _ (List.mem_of_getElem? (i := 14) rfl)), List.forall_mem_cons.mpr ⟨(cl_L_wideCopy_1 _ (List.mem_of_getElem? (i := 15) rfl)), List.forall_mem_cons.mpr ⟨(cl_L_wideCopy_1 _ (List.mem_of_getElem? (i := 16) rfl)), List.forall_mem_cons.mpr ⟨(cl_L_wideCopy_1 _ (List.mem_of_getElem? (i := 17) rfl)), List.forall_mem_cons.mpr ⟨(cl_L_wideCopy_1 _ (List.mem_of_getElem? (i := 18) rfl)), List.forall_mem_cons.mpr ⟨(cl_L_wideCopy_1 _ (List.mem_of_getElem? (i := 19) rfl)), List.forall_mem_cons.mpr ⟨(cl_L_wideCopy_1 _ (List.mem_of_getElem? (i := 20) rfl)), List.forall_mem_cons.mpr ⟨(cl_L_wideCopy_1 _ (List.mem_of_getElem? (i := 21) rfl)), fun _ h => absurd h List.not_mem_nil⟩⟩⟩⟩⟩⟩⟩⟩⟩⟩⟩⟩⟩⟩⟩⟩⟩) w) ((cl_L_wideCopy_3) w)) w) ((cl_L_wideCopy_4) w)) w) ((cl_L_wideCopy_5) w)⟩) (by decide +kernel)
set_option maxRecDepth 20000 in
theorem gL_wideCopy_X2_wideCopy : GoodIn wsL_wideCopy (wsV RL 30 RX2 yX2_wideCopy wsX2_wideCopy) := goodIn_app (goodIn_sub (List.forall_mem_cons.mpr ⟨(cl_L_wideCopy_1 _ (List.mem_of_getElem? (i := 1) rfl)), List.forall_mem_cons.mpr ⟨(cl_L_wideCopy_1 _ (List.mem_of_getElem? (i := 2) rfl)), List.forall_mem_cons.mpr ⟨(cl_L_wideCopy_1 _ (List.mem_of_getElem? (i := 3) rfl)), List.forall_mem_cons.mpr ⟨(cl_L_wideCopy_1 _ (List.mem_of_getElem? (i := 4) rfl)), fun _ h => absurd h List.not_mem_nil⟩⟩⟩⟩) (by decide +kernel)) ggL_wideCopy_X2_wideCopy
noncomputable def dz_p16_4 : List (Nat × Instr × Nat) := [(0, (.aload_n 3, 1)), (1, (.aload_n 0, 1)), (2, (.iload_n 1, 1)), (3, (.iload_n 2, 1)), (4, (.invokevirtual 30, 3)), (7, (.i2l, 1)), (8, (.putfield 13, 3)), (11, (.goto 7, 3)), (14, (.astore 4, 2)), (16, (.iconst 1, 1)), (17, (.ireturn, 1)), (18, (.iconst 0, 1)), (19, (.ireturn, 1))]
theorem dy_p16_4 : dz_ok cL_wideCopy dz_p16_4 = true := by decide +kernel
theorem dL_wideCopy_0 : decode cL_wideCopy 0 = .ok (.aload_n 3, 1) := dz_at (i := 0) dy_p16_4 rfl
theorem dL_wideCopy_1 : decode cL_wideCopy 1 = .ok (.aload_n 0, 1) := dz_at (i := 1) dy_p16_4 rfl
theorem dL_wideCopy_2 : decode cL_wideCopy 2 = .ok (.iload_n 1, 1) := dz_at (i := 2) dy_p16_4 rfl
theorem dL_wideCopy_3 : decode cL_wideCopy 3 = .ok (.iload_n 2, 1) := dz_at (i := 3) dy_p16_4 rfl
theorem dL_wideCopy_4 : decode cL_wideCopy 4 = .ok (.invokevirtual 30, 3) := dz_at (i := 4) dy_p16_4 rfl
theorem dL_wideCopy_7 : decode cL_wideCopy 7 = .ok (.i2l, 1) := dz_at (i := 5) dy_p16_4 rfl
theorem dL_wideCopy_8 : decode cL_wideCopy 8 = .ok (.putfield 13, 3) := dz_at (i := 6) dy_p16_4 rfl
theorem dL_wideCopy_11 : decode cL_wideCopy 11 = .ok (.goto 7, 3) := dz_at (i := 7) dy_p16_4 rfl
theorem dL_wideCopy_14 : decode cL_wideCopy 14 = .ok (.astore 4, 2) := dz_at (i := 8) dy_p16_4 rfl
theorem dL_wideCopy_16 : decode cL_wideCopy 16 = .ok (.iconst 1, 1) := dz_at (i := 9) dy_p16_4 rfl
theorem dL_wideCopy_17 : decode cL_wideCopy 17 = .ok (.ireturn, 1) := dz_at (i := 10) dy_p16_4 rfl
theorem dL_wideCopy_18 : decode cL_wideCopy 18 = .ok (.iconst 0, 1) := dz_at (i := 11) dy_p16_4 rfl
theorem dL_wideCopy_19 : decode cL_wideCopy 19 = .ok (.ireturn, 1) := dz_at (i := 12) dy_p16_4 rfl
noncomputable def o_L_wideCopy (a1 : Int32) (f1 : Nat → Int64) (nv : Int64) (p1 : Int32) (p2 : Int32) : Int32 × Int32 × (Nat → Int64) × Int64 :=
  if (o_X2_wideCopy a1 f1 p1 p2).1 = 0 then (0, (o_X2_wideCopy a1 f1 p1 p2).2.2.1, (o_X2_wideCopy a1 f1 p1 p2).2.2.2, (((o_X2_wideCopy a1 f1 p1 p2).2.1).toInt64))
  else (1, a1, f1, nv)
set_option maxHeartbeats 4000000 in
set_option maxRecDepth 100000 in
theorem k_L_wideCopy (l : Launch) (hfl : l.flags = flags0) (dC : Nat → ClassId) (dI : Nat → Nat → Nat) (cy : ClassId) (h0 : Nat) (h1 : Nat) (hw1 : Nat) (hc1 : Nat) (hb1 : Nat) (h2 : Nat) (hw2 : Nat) (hc2 : Nat) (hb2 : Nat) (a1 : Int32) (r1 : Int32) (f1 : Nat → Int64) (g1 : Nat → Int64) (a2 : Int32) (r2 : Int32) (f2 : Nat → Int64) (g2 : Nat → Int64) (kn : Int32) (ho : Nat) (nv : Int64) (sv : Value) (sz : Nat) (N : Nat) (p1 : Int32) (p2 : Int32) : Met l yL_wideCopy wsL_wideCopy ({ frames := 9, cells := 2, slots := 12, locals := 164 }) (va_Pc [.ref h0, .int p1, .int p2, .ref ho] (xL (dC, dI) xCl [(h0, eE h1 h2 kn), (h1, eR hw1 hc1 hb1 a1 r1), (hw1, eW true), (hc1, eA cy f1), (hb1, eA cy g1), (h2, eR hw2 hc2 hb2 a2 r2), (hw2, eW false), (hc2, eA cy f2), (hb2, eA cy g2), (ho, eO nv sv)] [(cy, .long)] sz N)) (va_Qi (fun (r : Int32) (_ : Unit) => r = (o_L_wideCopy a1 f1 nv p1 p2).1) (fun _ t => xW (dC, dI) xCl [(h0, eE h1 h2 kn), (h1, eR hw1 hc1 hb1 (o_L_wideCopy a1 f1 nv p1 p2).2.1 r1), (hw1, eW true), (hc1, eA cy (o_L_wideCopy a1 f1 nv p1 p2).2.2.1), (hb1, eA cy g1), (h2, eR hw2 hc2 hb2 a2 r2), (hw2, eW false), (hc2, eA cy f2), (hb2, eA cy g2), (ho, eO (o_L_wideCopy a1 f1 nv p1 p2).2.2.2 sv)] (va_A [(h0, eE h1 h2 kn), (h1, eR hw1 hc1 hb1 a1 r1), (hw1, eW true), (hc1, eA cy f1), (hb1, eA cy g1), (h2, eR hw2 hc2 hb2 a2 r2), (hw2, eW false), (hc2, eA cy f2), (hb2, eA cy g2), (ho, eO nv sv)] sz) t) (va_A [(h0, eE h1 h2 kn), (h1, eR hw1 hc1 hb1 a1 r1), (hw1, eW true), (hc1, eA cy f1), (hb1, eA cy g1), (h2, eR hw2 hc2 hb2 a2 r2), (hw2, eW false), (hc2, eA cy f2), (hb2, eA cy g2), (ho, eO nv sv)] sz)) 2 12 (va_A [(h0, eE h1 h2 kn), (h1, eR hw1 hc1 hb1 a1 r1), (hw1, eW true), (hc1, eA cy f1), (hb1, eA cy g1), (h2, eR hw2 hc2 hb2 a2 r2), (hw2, eW false), (hc2, eA cy f2), (hb2, eA cy g2), (ho, eO nv sv)] sz) := by
  refine va_MetW (cc := cL_wideCopy) (maxL := 5) (ret := (some .int)) (by decide +kernel) rfl ?_
  intro p e s m args below meth c s₁ B hml hv
  obtain ⟨rfl, ⟨hsz, hP, hK, hD0, hN, hG⟩, hnc⟩ := hv
  have hx := B.exec
  have hb := B.bytes
  have hr := B.returns
  have hts := atoms_spec (ws := wsL_wideCopy) B.pre
  have hown : s.vm.findClass RL = some m.cls := findClass_of_methodNamed B.named
  have hlocks := B.notSynchronized
  have htab := vx_table (x := yL_wideCopy) B (hts _ List.mem_cons_self)
  subst hsz
  have hAN : ∀ q, va_A [(h0, eE h1 h2 kn), (h1, eR hw1 hc1 hb1 a1 r1), (hw1, eW true), (hc1, eA cy f1), (hb1, eA cy g1), (h2, eR hw2 hc2 hb2 a2 r2), (hw2, eW false), (hc2, eA cy f2), (hb2, eA cy g2), (ho, eO nv sv)] s.heap.size q → N ≤ q := xA_N hD0 hN
  have hD := hD0.self (sz := s.heap.size)
  generalize hAe : va_A [(h0, eE h1 h2 kn), (h1, eR hw1 hc1 hb1 a1 r1), (hw1, eW true), (hc1, eA cy f1), (hb1, eA cy g1), (h2, eR hw2 hc2 hb2 a2 r2), (hw2, eW false), (hc2, eA cy f2), (hb2, eA cy g2), (ho, eO nv sv)] s.heap.size = A at hD hAN ⊢
  have hA : ∀ q : Nat, s.heap.size ≤ q → A q := fun q h => by rw [← hAe]; exact Or.inr h
  have hS : va_S A s.heap s.heap [] := va_S.rf
  have hP : va_P (dC, dI) xCl [(h0, eE h1 h2 kn), (h1, eR hw1 hc1 hb1 a1 r1), (hw1, eW true), (hc1, eA cy f1), (hb1, eA cy g1), (h2, eR hw2 hc2 hb2 a2 r2), (hw2, eW false), (hc2, eA cy f2), (hb2, eA cy g2), (ho, eO nv sv)] s.heap := hP
  have hl := lv_entry ([.ref h0, .int p1, .int p2, .ref ho]) (n := 5) (Nat.le_of_ble_eq_true rfl)
  rw [lg_entry_eq]
  generalize (lg_sl ([.ref h0, .int p1, .int p2, .ref ho]) ++ List.replicate (5 - (lg_sl ([.ref h0, .int p1, .int p2, .ref ho])).length) Slot.unset).toArray = ls at hl ⊢
  have hl : lv_has ls 5 [(0, .ref h0), (1, .int p1), (2, .int p2), (3, .ref ho)] := hl
  refine lv_aload_n hx hb dL_wideCopy_0 rfl (lv_at hl 3 rfl) ?_
  refine lv_aload_n hx hb dL_wideCopy_1 rfl (lv_at hl 0 rfl) ?_
  refine lv_iload_n hx hb dL_wideCopy_2 rfl (lv_at hl 1 rfl) ?_
  refine lv_iload_n hx hb dL_wideCopy_3 rfl (lv_at hl 2 rfl) ?_
  have hPc := hP.sub (ws' := [(h0, eE h1 h2 kn), (h1, eR hw1 hc1 hb1 a1 r1), (hw1, eW true), (hc1, eA cy f1), (hb1, eA cy g1), (h2, eR hw2 hc2 hb2 a2 r2), (hw2, eW false), (hc2, eA cy f2), (hb2, eA cy g2)]) [0, 1, 2, 3, 4, 5, 6, 7, 8] rfl
  have hDc := hD.sub (ws' := [(h0, eE h1 h2 kn), (h1, eR hw1 hc1 hb1 a1 r1), (hw1, eW true), (hc1, eA cy f1), (hb1, eA cy g1), (h2, eR hw2 hc2 hb2 a2 r2), (hw2, eW false), (hc2, eA cy f2), (hb2, eA cy g2)]) [0, 1, 2, 3, 4, 5, 6, 7, 8] (by decide +kernel) rfl
  have hKc := hK.sub (tys' := [(cy, .long)]) [0] rfl
  have hFc := va_free (wc := [(h0, eE h1 h2 kn), (h1, eR hw1 hc1 hb1 a1 r1), (hw1, eW true), (hc1, eA cy f1), (hb1, eA cy g1), (h2, eR hw2 hc2 hb2 a2 r2), (hw2, eW false), (hc2, eA cy f2), (hb2, eA cy g2)]) hD hS hA [0, 1, 2, 3, 4, 5, 6, 7, 8] rfl
  refine vx_calli (vx_runV (As := [.int p1, .int p2]) (rest := [.ref ho]) ⟨hx, hb, hml, hown, hts⟩ (k_X2_wideCopy l hfl dC dI cy h0 h1 hw1 hc1 hb1 h2 hw2 hc2 hb2 a1 r1 f1 g1 a2 r2 f2 g2 kn s.heap.size N p1 p2) (cwV 2 hts gL_wideCopy_X2_wideCopy rfl rfl rfl (by decide +kernel) ⟨Nat.le_of_ble_eq_true rfl, Nat.le_of_ble_eq_true rfl⟩) (xM.preV hKc hPc hDc hAN (Nat.le_trans hN hS.1) (hG.kept hS hAN) (ci := 4) (q0 := 0) rfl rfl) rfl rfl hl.1 rfl (lv_room (Nat.le_of_ble_eq_true rfl)) dL_wideCopy_4 ⟨Nat.le_of_ble_eq_true rfl, Nat.le_of_ble_eq_true rfl⟩) hS (fun q _ h => hFc q h) hFc (fun q _ h => hFc q h) (fun E ce q9 u9 t H locs ht hvm hpx hbx hz hk hS hce hcv hcl => ?_) (fun r_1 u t H locs ht hvm hw hB hz hk hS => ?_)
  · have c_2 : ¬ (o_X2_wideCopy a1 f1 p1 p2).1 = 0 := hpx
    obtain ⟨hbe, hP1, hD1⟩ := hbx
    rw [ht] at hP1
    obtain ⟨hP, hD⟩ := va_join (wr := [(ho, eO nv sv)]) (w1 := [(h0, eE h1 h2 kn), (h1, eR hw1 hc1 hb1 a1 r1), (hw1, eW true), (hc1, eA cy f1), (hb1, eA cy g1), (h2, eR hw2 hc2 hb2 a2 r2), (hw2, eW false), (hc2, eA cy f2), (hb2, eA cy g2)]) hP hD [0, 1, 2, 3, 4, 5, 6, 7, 8] [9] rfl rfl (by decide +kernel) (by decide +kernel) hk hFc hP1 hD1
    have hP := hP.sub (ws' := [(h0, eE h1 h2 kn), (h1, eR hw1 hc1 hb1 a1 r1), (hw1, eW true), (hc1, eA cy f1), (hb1, eA cy g1), (h2, eR hw2 hc2 hb2 a2 r2), (hw2, eW false), (hc2, eA cy f2), (hb2, eA cy g2), (ho, eO nv sv)]) [1, 2, 3, 4, 5, 6, 7, 8, 9, 0] rfl
    have hD := hD.sub (ws' := [(h0, eE h1 h2 kn), (h1, eR hw1 hc1 hb1 a1 r1), (hw1, eW true), (hc1, eA cy f1), (hb1, eA cy g1), (h2, eR hw2 hc2 hb2 a2 r2), (hw2, eW false), (hc2, eA cy f2), (hb2, eA cy g2), (ho, eO nv sv)]) [1, 2, 3, 4, 5, 6, 7, 8, 9, 0] (by decide +kernel) rfl
    have hE : E = "java/lang/IndexOutOfBoundsException" := hbe.trans (by rw [show (o_X2_wideCopy a1 f1 p1 p2).1 = 1 from (xr_X2_wideCopy _ _ _ _ c_2)]; rfl)
    subst hE
    refine vx_catch (own := RL) (name := "java/lang/IndexOutOfBoundsException") hown [] ⟨0, 11, 14, 19⟩ [] htab (fun z hz => absurd hz List.not_mem_nil) (by decide +kernel) (by decide +kernel) (hts (.classLink RL 19 "java/lang/IndexOutOfBoundsException") (by decide +kernel)) (va_Nw.use rfl (hG.1 (.castable "java/lang/IndexOutOfBoundsException" "java/lang/IndexOutOfBoundsException") (List.mem_of_getElem? (i := 11) rfl))) hce hcv hcl ?_
    refine lv_astore (lv' := [(4, .ref q9), (0, .ref h0), (1, .int p1), (2, .int p2), (3, .ref ho)]) hx hb dL_wideCopy_14 hl (by decide +kernel) rfl (fun ls hl => ?_)
    refine lv_iconst (v := 1) hx hb dL_wideCopy_16 (by decide +kernel) ?_
    have he : o_L_wideCopy a1 f1 nv p1 p2 = (1, a1, f1, nv) := by (rw [o_L_wideCopy, if_neg c_2]) <;> rfl
    refine W.widen (k := 2) (n := 12) (by omega) (by omega) ?_
    exact W.iret (v := 1) hx hb hr (fun t ht hW => ⟨⟨_, (), rfl, (by (rw [he]) <;> rfl), (by rw [he]; exact ⟨by rw [ht]; exact hP, hD⟩)⟩, hS.F ht⟩) hS.2.2 dL_wideCopy_17
  · skip
    obtain ⟨c_3, hw⟩ := hw
    have c_3 : (o_X2_wideCopy a1 f1 p1 p2).1 = 0 := c_3
    replace hw : r_1 = (o_X2_wideCopy a1 f1 p1 p2).2.1 := hw
    subst r_1
    obtain ⟨hP1, hD1⟩ := hB
    rw [ht] at hP1
    obtain ⟨hP, hD⟩ := va_join (wr := [(ho, eO nv sv)]) (w1 := [(h0, eE h1 h2 kn), (h1, eR hw1 hc1 hb1 (o_X2_wideCopy a1 f1 p1 p2).2.2.1 r1), (hw1, eW true), (hc1, eA cy (o_X2_wideCopy a1 f1 p1 p2).2.2.2), (hb1, eA cy g1), (h2, eR hw2 hc2 hb2 a2 r2), (hw2, eW false), (hc2, eA cy f2), (hb2, eA cy g2)]) hP hD [0, 1, 2, 3, 4, 5, 6, 7, 8] [9] rfl rfl (by decide +kernel) (by decide +kernel) hk hFc hP1 hD1
    have hP := hP.sub (ws' := [(h0, eE h1 h2 kn), (h1, eR hw1 hc1 hb1 (o_X2_wideCopy a1 f1 p1 p2).2.2.1 r1), (hw1, eW true), (hc1, eA cy (o_X2_wideCopy a1 f1 p1 p2).2.2.2), (hb1, eA cy g1), (h2, eR hw2 hc2 hb2 a2 r2), (hw2, eW false), (hc2, eA cy f2), (hb2, eA cy g2), (ho, eO nv sv)]) [1, 2, 3, 4, 5, 6, 7, 8, 9, 0] rfl
    have hD := hD.sub (ws' := [(h0, eE h1 h2 kn), (h1, eR hw1 hc1 hb1 (o_X2_wideCopy a1 f1 p1 p2).2.2.1 r1), (hw1, eW true), (hc1, eA cy (o_X2_wideCopy a1 f1 p1 p2).2.2.2), (hb1, eA cy g1), (h2, eR hw2 hc2 hb2 a2 r2), (hw2, eW false), (hc2, eA cy f2), (hb2, eA cy g2), (ho, eO nv sv)]) [1, 2, 3, 4, 5, 6, 7, 8, 9, 0] (by decide +kernel) rfl
    refine lv_i2l (v := (((o_X2_wideCopy a1 f1 p1 p2).2.1).toInt64)) hx hb dL_wideCopy_7 rfl ?_
    refine va_putN (D := (dC, dI)) (ci := 5) (v := .long (((o_X2_wideCopy a1 f1 p1 p2).2.1).toInt64)) (ty := .long) (C := RX3) (T := TX3) (N := 2) hx hb hts (by decide +kernel) tyX3 tyX3_ok nmX3 hown hK hP hD hS 9 rfl rfl 0 (by decide +kernel) (va_Nw.use rfl (hG.1 (.fieldLinkNest RL 13 "EdgefloatsLaw$Out" "n" "J" RL) (List.mem_of_getElem? (i := 6) rfl))) (fun _ h9 => h9) rfl (by decide +kernel) rfl rfl (Nat.le_of_ble_eq_true rfl) dL_wideCopy_8 (fun H locs hP hD hS => ?_)
    have hP : va_P (dC, dI) xCl [(h0, eE h1 h2 kn), (h1, eR hw1 hc1 hb1 (o_X2_wideCopy a1 f1 p1 p2).2.2.1 r1), (hw1, eW true), (hc1, eA cy (o_X2_wideCopy a1 f1 p1 p2).2.2.2), (hb1, eA cy g1), (h2, eR hw2 hc2 hb2 a2 r2), (hw2, eW false), (hc2, eA cy f2), (hb2, eA cy g2), (ho, eO (((o_X2_wideCopy a1 f1 p1 p2).2.1).toInt64) sv)] H := hP
    have hD : va_D A [(h0, eE h1 h2 kn), (h1, eR hw1 hc1 hb1 (o_X2_wideCopy a1 f1 p1 p2).2.2.1 r1), (hw1, eW true), (hc1, eA cy (o_X2_wideCopy a1 f1 p1 p2).2.2.2), (hb1, eA cy g1), (h2, eR hw2 hc2 hb2 a2 r2), (hw2, eW false), (hc2, eA cy f2), (hb2, eA cy g2), (ho, eO (((o_X2_wideCopy a1 f1 p1 p2).2.1).toInt64) sv)] := hD
    refine lv_goto (tgt := 18) hx hb dL_wideCopy_11 (by decide +kernel) ?_
    refine lv_iconst (v := 0) hx hb dL_wideCopy_18 (by decide +kernel) ?_
    have he : o_L_wideCopy a1 f1 nv p1 p2 = (0, (o_X2_wideCopy a1 f1 p1 p2).2.2.1, (o_X2_wideCopy a1 f1 p1 p2).2.2.2, (((o_X2_wideCopy a1 f1 p1 p2).2.1).toInt64)) := by (rw [o_L_wideCopy, if_pos c_3]) <;> rfl
    refine W.widen (k := 2) (n := 12) (by omega) (by omega) ?_
    exact W.iret (v := 0) hx hb hr (fun t ht hW => ⟨⟨_, (), rfl, (by (rw [he]) <;> rfl), (by rw [he]; exact ⟨by rw [ht]; exact hP, hD⟩)⟩, hS.F ht⟩) hS.2.2 dL_wideCopy_19
theorem cl_L_wideSwap_1 : ∀ w ∈ [.classLink RL 19 "java/lang/IndexOutOfBoundsException", .methodLink RL 33 yX2_wideSwap, .instanceMethod yX2_wideSwap, .selects RX2 yX2_wideSwap yX2_wideSwap, .initialized RX2, .code yX2_wideSwap cX2_wideSwap 3 (some .int), .fieldLink RX2 20 "Edgefloats" "wide" "LEdgefloats$Row;", .methodLink RX2 44 yX0_swap, .instanceMethod yX0_swap, .selects RX0 yX0_swap yX0_swap, .initialized RX0, .code yX0_swap cX0_swap 5 (some .int), .fieldLink RX0 15 "Edgefloats$Row" "cells" "[J", .static yX2_checkCell, .code yX2_checkCell cX2_checkCell 1 none, .classLink RX2 148 "java/lang/IndexOutOfBoundsException", .initialized "java/lang/IndexOutOfBoundsException", .methodLink RX0 36 yX0_place, .instanceMethod yX0_place, .selects RX0 yX0_place yX0_place, .code yX0_place cX0_place 5 (some .int), .fieldLink RX0 80 "Edgefloats$Row" "acts" "I"], w ∈ wsL_wideSwap := fun _ h => (List.mem_cons_of_mem _ (List.mem_append_left _ (List.mem_append_left _ (List.mem_append_left _ (List.mem_append_left _ h)))))
theorem cl_L_wideSwap_2 : ∀ w ∈ wsX30, w ∈ wsL_wideSwap := fun _ h => (List.mem_cons_of_mem _ (List.mem_append_left _ (List.mem_append_left _ (List.mem_append_left _ (List.mem_append_right _ h)))))
theorem cl_L_wideSwap_3 : ∀ w ∈ wsX20, w ∈ wsL_wideSwap := fun _ h => (List.mem_cons_of_mem _ (List.mem_append_left _ (List.mem_append_left _ (List.mem_append_right _ h))))
theorem cl_L_wideSwap_4 : ∀ w ∈ wsX00, w ∈ wsL_wideSwap := fun _ h => (List.mem_cons_of_mem _ (List.mem_append_left _ (List.mem_append_right _ h)))
theorem cl_L_wideSwap_5 : ∀ w ∈ (vx_atS RX2 152 "java/lang/IndexOutOfBoundsException" ["java/lang/RuntimeException", "java/lang/Exception"]).filter goodWord, w ∈ wsL_wideSwap := fun _ h => (List.mem_cons_of_mem _ (List.mem_append_right _ h))
set_option maxRecDepth 20000 in
theorem ggL_wideSwap_X2_wideSwap : GoodIn wsL_wideSwap wsX2_wideSwap := goodIn_sub (List.forall_mem_cons.mpr ⟨(cl_L_wideSwap_1 _ (List.mem_of_getElem? (i := 5) rfl)), fun w h => (List.mem_append.mp h).elim ((fun w h => (List.mem_append.mp h).elim ((fun w h => (List.mem_append.mp h).elim ((List.forall_mem_cons.mpr ⟨(cl_L_wideSwap_1 _ (List.mem_of_getElem? (i := 6) rfl)), List.forall_mem_cons.mpr ⟨(cl_L_wideSwap_1 _ (List.mem_of_getElem? (i := 7) rfl)), List.forall_mem_cons.mpr ⟨(cl_L_wideSwap_1 _ (List.mem_of_getElem? (i := 8) rfl)), List.forall_mem_cons.mpr ⟨(cl_L_wideSwap_1 _ (List.mem_of_getElem? (i := 9) rfl)), List.forall_mem_cons.mpr ⟨(cl_L_wideSwap_1 _ (List.mem_of_getElem? (i := 10) rfl)), List.forall_mem_cons.mpr ⟨(cl_L_wideSwap_1 _ (List.mem_of_getElem? (i := 11) rfl)), List.forall_mem_cons.mpr ⟨(cl_L_wideSwap_1 _ (List.mem_of_getElem? (i := 12) rfl)), List.forall_mem_cons.mpr ⟨(cl_L_wideSwap_1 _ (List.mem_of_getElem? (i := 13) rfl)), List.forall_mem_cons.mpr ⟨(cl_L_wideSwap_1 _ (List.mem_of_getElem? (i := 4) rfl)), List.forall_mem_cons.mpr ⟨(cl_L_wideSwap_1 _ (List.mem_of_getElem? (i := 14) rfl)), List.forall_mem_cons.mpr ⟨(cl_L_wideSwap_1 _ (List.mem_of_getElem? (i := 15) rfl)), List.forall_mem_cons.mpr ⟨(cl_L_wideSwap_1 _ (List.mem_of_getElem? (i := 16) rfl)), List.forall_mem_cons.mpr ⟨(cl_L_wideSwap_1 _ (List.mem_of_getElem? (i := 17) rfl)), List.forall_mem_cons.mpr ⟨(cl_L_wideSwap_1 _ (List.mem_of_getElem? (i := 18) rfl)), List.forall_mem_cons.mpr ⟨(cl_L_wideSwap_1 _ (List.mem_of_getElem? (i := 19) rfl)), List.forall_mem_cons.mpr ⟨(cl_L_wideSwap_1 _ (List.mem_of_getElem? (i := 20) rfl)), List.forall_mem_cons.mpr ⟨(cl_L_wideSwap_1 _ (List.mem_of_getElem? (i := 21) rfl)), fun _ h => absurd h List.not_mem_nil⟩⟩⟩⟩⟩⟩⟩⟩⟩⟩⟩⟩⟩⟩⟩⟩⟩) w) ((cl_L_wideSwap_3) w)) w) ((cl_L_wideSwap_4) w)) w) ((cl_L_wideSwap_5) w)⟩) (by decide +kernel)
set_option maxRecDepth 20000 in
theorem gL_wideSwap_X2_wideSwap : GoodIn wsL_wideSwap (wsV RL 33 RX2 yX2_wideSwap wsX2_wideSwap) := goodIn_app (goodIn_sub (List.forall_mem_cons.mpr ⟨(cl_L_wideSwap_1 _ (List.mem_of_getElem? (i := 1) rfl)), List.forall_mem_cons.mpr ⟨(cl_L_wideSwap_1 _ (List.mem_of_getElem? (i := 2) rfl)), List.forall_mem_cons.mpr ⟨(cl_L_wideSwap_1 _ (List.mem_of_getElem? (i := 3) rfl)), List.forall_mem_cons.mpr ⟨(cl_L_wideSwap_1 _ (List.mem_of_getElem? (i := 4) rfl)), fun _ h => absurd h List.not_mem_nil⟩⟩⟩⟩) (by decide +kernel)) ggL_wideSwap_X2_wideSwap
noncomputable def dz_p16_5 : List (Nat × Instr × Nat) := [(0, (.aload_n 3, 1)), (1, (.aload_n 0, 1)), (2, (.iload_n 1, 1)), (3, (.iload_n 2, 1)), (4, (.invokevirtual 33, 3)), (7, (.i2l, 1)), (8, (.putfield 13, 3)), (11, (.goto 7, 3)), (14, (.astore 4, 2)), (16, (.iconst 1, 1)), (17, (.ireturn, 1)), (18, (.iconst 0, 1)), (19, (.ireturn, 1))]
theorem dy_p16_5 : dz_ok cL_wideSwap dz_p16_5 = true := by decide +kernel
theorem dL_wideSwap_0 : decode cL_wideSwap 0 = .ok (.aload_n 3, 1) := dz_at (i := 0) dy_p16_5 rfl
theorem dL_wideSwap_1 : decode cL_wideSwap 1 = .ok (.aload_n 0, 1) := dz_at (i := 1) dy_p16_5 rfl
theorem dL_wideSwap_2 : decode cL_wideSwap 2 = .ok (.iload_n 1, 1) := dz_at (i := 2) dy_p16_5 rfl
theorem dL_wideSwap_3 : decode cL_wideSwap 3 = .ok (.iload_n 2, 1) := dz_at (i := 3) dy_p16_5 rfl
theorem dL_wideSwap_4 : decode cL_wideSwap 4 = .ok (.invokevirtual 33, 3) := dz_at (i := 4) dy_p16_5 rfl
theorem dL_wideSwap_7 : decode cL_wideSwap 7 = .ok (.i2l, 1) := dz_at (i := 5) dy_p16_5 rfl
theorem dL_wideSwap_8 : decode cL_wideSwap 8 = .ok (.putfield 13, 3) := dz_at (i := 6) dy_p16_5 rfl
theorem dL_wideSwap_11 : decode cL_wideSwap 11 = .ok (.goto 7, 3) := dz_at (i := 7) dy_p16_5 rfl
theorem dL_wideSwap_14 : decode cL_wideSwap 14 = .ok (.astore 4, 2) := dz_at (i := 8) dy_p16_5 rfl
theorem dL_wideSwap_16 : decode cL_wideSwap 16 = .ok (.iconst 1, 1) := dz_at (i := 9) dy_p16_5 rfl
theorem dL_wideSwap_17 : decode cL_wideSwap 17 = .ok (.ireturn, 1) := dz_at (i := 10) dy_p16_5 rfl
theorem dL_wideSwap_18 : decode cL_wideSwap 18 = .ok (.iconst 0, 1) := dz_at (i := 11) dy_p16_5 rfl
theorem dL_wideSwap_19 : decode cL_wideSwap 19 = .ok (.ireturn, 1) := dz_at (i := 12) dy_p16_5 rfl
noncomputable def o_L_wideSwap (a1 : Int32) (f1 : Nat → Int64) (nv : Int64) (p1 : Int32) (p2 : Int32) : Int32 × Int32 × (Nat → Int64) × Int64 :=
  if (o_X2_wideSwap a1 f1 p1 p2).1 = 0 then (0, (o_X2_wideSwap a1 f1 p1 p2).2.2.1, (o_X2_wideSwap a1 f1 p1 p2).2.2.2, (((o_X2_wideSwap a1 f1 p1 p2).2.1).toInt64))
  else (1, a1, f1, nv)
set_option maxHeartbeats 4000000 in
set_option maxRecDepth 100000 in
theorem k_L_wideSwap (l : Launch) (hfl : l.flags = flags0) (dC : Nat → ClassId) (dI : Nat → Nat → Nat) (cy : ClassId) (h0 : Nat) (h1 : Nat) (hw1 : Nat) (hc1 : Nat) (hb1 : Nat) (h2 : Nat) (hw2 : Nat) (hc2 : Nat) (hb2 : Nat) (a1 : Int32) (r1 : Int32) (f1 : Nat → Int64) (g1 : Nat → Int64) (a2 : Int32) (r2 : Int32) (f2 : Nat → Int64) (g2 : Nat → Int64) (kn : Int32) (ho : Nat) (nv : Int64) (sv : Value) (sz : Nat) (N : Nat) (p1 : Int32) (p2 : Int32) : Met l yL_wideSwap wsL_wideSwap ({ frames := 9, cells := 2, slots := 12, locals := 166 }) (va_Pc [.ref h0, .int p1, .int p2, .ref ho] (xL (dC, dI) xCl [(h0, eE h1 h2 kn), (h1, eR hw1 hc1 hb1 a1 r1), (hw1, eW true), (hc1, eA cy f1), (hb1, eA cy g1), (h2, eR hw2 hc2 hb2 a2 r2), (hw2, eW false), (hc2, eA cy f2), (hb2, eA cy g2), (ho, eO nv sv)] [(cy, .long)] sz N)) (va_Qi (fun (r : Int32) (_ : Unit) => r = (o_L_wideSwap a1 f1 nv p1 p2).1) (fun _ t => xW (dC, dI) xCl [(h0, eE h1 h2 kn), (h1, eR hw1 hc1 hb1 (o_L_wideSwap a1 f1 nv p1 p2).2.1 r1), (hw1, eW true), (hc1, eA cy (o_L_wideSwap a1 f1 nv p1 p2).2.2.1), (hb1, eA cy g1), (h2, eR hw2 hc2 hb2 a2 r2), (hw2, eW false), (hc2, eA cy f2), (hb2, eA cy g2), (ho, eO (o_L_wideSwap a1 f1 nv p1 p2).2.2.2 sv)] (va_A [(h0, eE h1 h2 kn), (h1, eR hw1 hc1 hb1 a1 r1), (hw1, eW true), (hc1, eA cy f1), (hb1, eA cy g1), (h2, eR hw2 hc2 hb2 a2 r2), (hw2, eW false), (hc2, eA cy f2), (hb2, eA cy g2), (ho, eO nv sv)] sz) t) (va_A [(h0, eE h1 h2 kn), (h1, eR hw1 hc1 hb1 a1 r1), (hw1, eW true), (hc1, eA cy f1), (hb1, eA cy g1), (h2, eR hw2 hc2 hb2 a2 r2), (hw2, eW false), (hc2, eA cy f2), (hb2, eA cy g2), (ho, eO nv sv)] sz)) 2 12 (va_A [(h0, eE h1 h2 kn), (h1, eR hw1 hc1 hb1 a1 r1), (hw1, eW true), (hc1, eA cy f1), (hb1, eA cy g1), (h2, eR hw2 hc2 hb2 a2 r2), (hw2, eW false), (hc2, eA cy f2), (hb2, eA cy g2), (ho, eO nv sv)] sz) := by
  refine va_MetW (cc := cL_wideSwap) (maxL := 5) (ret := (some .int)) (by decide +kernel) rfl ?_
  intro p e s m args below meth c s₁ B hml hv
  obtain ⟨rfl, ⟨hsz, hP, hK, hD0, hN, hG⟩, hnc⟩ := hv
  have hx := B.exec
  have hb := B.bytes
  have hr := B.returns
  have hts := atoms_spec (ws := wsL_wideSwap) B.pre
  have hown : s.vm.findClass RL = some m.cls := findClass_of_methodNamed B.named
  have hlocks := B.notSynchronized
  have htab := vx_table (x := yL_wideSwap) B (hts _ List.mem_cons_self)
  subst hsz
  have hAN : ∀ q, va_A [(h0, eE h1 h2 kn), (h1, eR hw1 hc1 hb1 a1 r1), (hw1, eW true), (hc1, eA cy f1), (hb1, eA cy g1), (h2, eR hw2 hc2 hb2 a2 r2), (hw2, eW false), (hc2, eA cy f2), (hb2, eA cy g2), (ho, eO nv sv)] s.heap.size q → N ≤ q := xA_N hD0 hN
  have hD := hD0.self (sz := s.heap.size)
  generalize hAe : va_A [(h0, eE h1 h2 kn), (h1, eR hw1 hc1 hb1 a1 r1), (hw1, eW true), (hc1, eA cy f1), (hb1, eA cy g1), (h2, eR hw2 hc2 hb2 a2 r2), (hw2, eW false), (hc2, eA cy f2), (hb2, eA cy g2), (ho, eO nv sv)] s.heap.size = A at hD hAN ⊢
  have hA : ∀ q : Nat, s.heap.size ≤ q → A q := fun q h => by rw [← hAe]; exact Or.inr h
  have hS : va_S A s.heap s.heap [] := va_S.rf
  have hP : va_P (dC, dI) xCl [(h0, eE h1 h2 kn), (h1, eR hw1 hc1 hb1 a1 r1), (hw1, eW true), (hc1, eA cy f1), (hb1, eA cy g1), (h2, eR hw2 hc2 hb2 a2 r2), (hw2, eW false), (hc2, eA cy f2), (hb2, eA cy g2), (ho, eO nv sv)] s.heap := hP
  have hl := lv_entry ([.ref h0, .int p1, .int p2, .ref ho]) (n := 5) (Nat.le_of_ble_eq_true rfl)
  rw [lg_entry_eq]
  generalize (lg_sl ([.ref h0, .int p1, .int p2, .ref ho]) ++ List.replicate (5 - (lg_sl ([.ref h0, .int p1, .int p2, .ref ho])).length) Slot.unset).toArray = ls at hl ⊢
  have hl : lv_has ls 5 [(0, .ref h0), (1, .int p1), (2, .int p2), (3, .ref ho)] := hl
  refine lv_aload_n hx hb dL_wideSwap_0 rfl (lv_at hl 3 rfl) ?_
  refine lv_aload_n hx hb dL_wideSwap_1 rfl (lv_at hl 0 rfl) ?_
  refine lv_iload_n hx hb dL_wideSwap_2 rfl (lv_at hl 1 rfl) ?_
  refine lv_iload_n hx hb dL_wideSwap_3 rfl (lv_at hl 2 rfl) ?_
  have hPc := hP.sub (ws' := [(h0, eE h1 h2 kn), (h1, eR hw1 hc1 hb1 a1 r1), (hw1, eW true), (hc1, eA cy f1), (hb1, eA cy g1), (h2, eR hw2 hc2 hb2 a2 r2), (hw2, eW false), (hc2, eA cy f2), (hb2, eA cy g2)]) [0, 1, 2, 3, 4, 5, 6, 7, 8] rfl
  have hDc := hD.sub (ws' := [(h0, eE h1 h2 kn), (h1, eR hw1 hc1 hb1 a1 r1), (hw1, eW true), (hc1, eA cy f1), (hb1, eA cy g1), (h2, eR hw2 hc2 hb2 a2 r2), (hw2, eW false), (hc2, eA cy f2), (hb2, eA cy g2)]) [0, 1, 2, 3, 4, 5, 6, 7, 8] (by decide +kernel) rfl
  have hKc := hK.sub (tys' := [(cy, .long)]) [0] rfl
  have hFc := va_free (wc := [(h0, eE h1 h2 kn), (h1, eR hw1 hc1 hb1 a1 r1), (hw1, eW true), (hc1, eA cy f1), (hb1, eA cy g1), (h2, eR hw2 hc2 hb2 a2 r2), (hw2, eW false), (hc2, eA cy f2), (hb2, eA cy g2)]) hD hS hA [0, 1, 2, 3, 4, 5, 6, 7, 8] rfl
  refine vx_calli (vx_runV (As := [.int p1, .int p2]) (rest := [.ref ho]) ⟨hx, hb, hml, hown, hts⟩ (k_X2_wideSwap l hfl dC dI cy h0 h1 hw1 hc1 hb1 h2 hw2 hc2 hb2 a1 r1 f1 g1 a2 r2 f2 g2 kn s.heap.size N p1 p2) (cwV 2 hts gL_wideSwap_X2_wideSwap rfl rfl rfl (by decide +kernel) ⟨Nat.le_of_ble_eq_true rfl, Nat.le_of_ble_eq_true rfl⟩) (xM.preV hKc hPc hDc hAN (Nat.le_trans hN hS.1) (hG.kept hS hAN) (ci := 4) (q0 := 0) rfl rfl) rfl rfl hl.1 rfl (lv_room (Nat.le_of_ble_eq_true rfl)) dL_wideSwap_4 ⟨Nat.le_of_ble_eq_true rfl, Nat.le_of_ble_eq_true rfl⟩) hS (fun q _ h => hFc q h) hFc (fun q _ h => hFc q h) (fun E ce q9 u9 t H locs ht hvm hpx hbx hz hk hS hce hcv hcl => ?_) (fun r_1 u t H locs ht hvm hw hB hz hk hS => ?_)
  · have c_2 : ¬ (o_X2_wideSwap a1 f1 p1 p2).1 = 0 := hpx
    obtain ⟨hbe, hP1, hD1⟩ := hbx
    rw [ht] at hP1
    obtain ⟨hP, hD⟩ := va_join (wr := [(ho, eO nv sv)]) (w1 := [(h0, eE h1 h2 kn), (h1, eR hw1 hc1 hb1 a1 r1), (hw1, eW true), (hc1, eA cy f1), (hb1, eA cy g1), (h2, eR hw2 hc2 hb2 a2 r2), (hw2, eW false), (hc2, eA cy f2), (hb2, eA cy g2)]) hP hD [0, 1, 2, 3, 4, 5, 6, 7, 8] [9] rfl rfl (by decide +kernel) (by decide +kernel) hk hFc hP1 hD1
    have hP := hP.sub (ws' := [(h0, eE h1 h2 kn), (h1, eR hw1 hc1 hb1 a1 r1), (hw1, eW true), (hc1, eA cy f1), (hb1, eA cy g1), (h2, eR hw2 hc2 hb2 a2 r2), (hw2, eW false), (hc2, eA cy f2), (hb2, eA cy g2), (ho, eO nv sv)]) [1, 2, 3, 4, 5, 6, 7, 8, 9, 0] rfl
    have hD := hD.sub (ws' := [(h0, eE h1 h2 kn), (h1, eR hw1 hc1 hb1 a1 r1), (hw1, eW true), (hc1, eA cy f1), (hb1, eA cy g1), (h2, eR hw2 hc2 hb2 a2 r2), (hw2, eW false), (hc2, eA cy f2), (hb2, eA cy g2), (ho, eO nv sv)]) [1, 2, 3, 4, 5, 6, 7, 8, 9, 0] (by decide +kernel) rfl
    have hE : E = "java/lang/IndexOutOfBoundsException" := hbe.trans (by rw [show (o_X2_wideSwap a1 f1 p1 p2).1 = 1 from (xr_X2_wideSwap _ _ _ _ c_2)]; rfl)
    subst hE
    refine vx_catch (own := RL) (name := "java/lang/IndexOutOfBoundsException") hown [] ⟨0, 11, 14, 19⟩ [] htab (fun z hz => absurd hz List.not_mem_nil) (by decide +kernel) (by decide +kernel) (hts (.classLink RL 19 "java/lang/IndexOutOfBoundsException") (by decide +kernel)) (va_Nw.use rfl (hG.1 (.castable "java/lang/IndexOutOfBoundsException" "java/lang/IndexOutOfBoundsException") (List.mem_of_getElem? (i := 11) rfl))) hce hcv hcl ?_
    refine lv_astore (lv' := [(4, .ref q9), (0, .ref h0), (1, .int p1), (2, .int p2), (3, .ref ho)]) hx hb dL_wideSwap_14 hl (by decide +kernel) rfl (fun ls hl => ?_)
    refine lv_iconst (v := 1) hx hb dL_wideSwap_16 (by decide +kernel) ?_
    have he : o_L_wideSwap a1 f1 nv p1 p2 = (1, a1, f1, nv) := by (rw [o_L_wideSwap, if_neg c_2]) <;> rfl
    refine W.widen (k := 2) (n := 12) (by omega) (by omega) ?_
    exact W.iret (v := 1) hx hb hr (fun t ht hW => ⟨⟨_, (), rfl, (by (rw [he]) <;> rfl), (by rw [he]; exact ⟨by rw [ht]; exact hP, hD⟩)⟩, hS.F ht⟩) hS.2.2 dL_wideSwap_17
  · skip
    obtain ⟨c_3, hw⟩ := hw
    have c_3 : (o_X2_wideSwap a1 f1 p1 p2).1 = 0 := c_3
    replace hw : r_1 = (o_X2_wideSwap a1 f1 p1 p2).2.1 := hw
    subst r_1
    obtain ⟨hP1, hD1⟩ := hB
    rw [ht] at hP1
    obtain ⟨hP, hD⟩ := va_join (wr := [(ho, eO nv sv)]) (w1 := [(h0, eE h1 h2 kn), (h1, eR hw1 hc1 hb1 (o_X2_wideSwap a1 f1 p1 p2).2.2.1 r1), (hw1, eW true), (hc1, eA cy (o_X2_wideSwap a1 f1 p1 p2).2.2.2), (hb1, eA cy g1), (h2, eR hw2 hc2 hb2 a2 r2), (hw2, eW false), (hc2, eA cy f2), (hb2, eA cy g2)]) hP hD [0, 1, 2, 3, 4, 5, 6, 7, 8] [9] rfl rfl (by decide +kernel) (by decide +kernel) hk hFc hP1 hD1
    have hP := hP.sub (ws' := [(h0, eE h1 h2 kn), (h1, eR hw1 hc1 hb1 (o_X2_wideSwap a1 f1 p1 p2).2.2.1 r1), (hw1, eW true), (hc1, eA cy (o_X2_wideSwap a1 f1 p1 p2).2.2.2), (hb1, eA cy g1), (h2, eR hw2 hc2 hb2 a2 r2), (hw2, eW false), (hc2, eA cy f2), (hb2, eA cy g2), (ho, eO nv sv)]) [1, 2, 3, 4, 5, 6, 7, 8, 9, 0] rfl
    have hD := hD.sub (ws' := [(h0, eE h1 h2 kn), (h1, eR hw1 hc1 hb1 (o_X2_wideSwap a1 f1 p1 p2).2.2.1 r1), (hw1, eW true), (hc1, eA cy (o_X2_wideSwap a1 f1 p1 p2).2.2.2), (hb1, eA cy g1), (h2, eR hw2 hc2 hb2 a2 r2), (hw2, eW false), (hc2, eA cy f2), (hb2, eA cy g2), (ho, eO nv sv)]) [1, 2, 3, 4, 5, 6, 7, 8, 9, 0] (by decide +kernel) rfl
    refine lv_i2l (v := (((o_X2_wideSwap a1 f1 p1 p2).2.1).toInt64)) hx hb dL_wideSwap_7 rfl ?_
    refine va_putN (D := (dC, dI)) (ci := 5) (v := .long (((o_X2_wideSwap a1 f1 p1 p2).2.1).toInt64)) (ty := .long) (C := RX3) (T := TX3) (N := 2) hx hb hts (by decide +kernel) tyX3 tyX3_ok nmX3 hown hK hP hD hS 9 rfl rfl 0 (by decide +kernel) (va_Nw.use rfl (hG.1 (.fieldLinkNest RL 13 "EdgefloatsLaw$Out" "n" "J" RL) (List.mem_of_getElem? (i := 6) rfl))) (fun _ h9 => h9) rfl (by decide +kernel) rfl rfl (Nat.le_of_ble_eq_true rfl) dL_wideSwap_8 (fun H locs hP hD hS => ?_)
    have hP : va_P (dC, dI) xCl [(h0, eE h1 h2 kn), (h1, eR hw1 hc1 hb1 (o_X2_wideSwap a1 f1 p1 p2).2.2.1 r1), (hw1, eW true), (hc1, eA cy (o_X2_wideSwap a1 f1 p1 p2).2.2.2), (hb1, eA cy g1), (h2, eR hw2 hc2 hb2 a2 r2), (hw2, eW false), (hc2, eA cy f2), (hb2, eA cy g2), (ho, eO (((o_X2_wideSwap a1 f1 p1 p2).2.1).toInt64) sv)] H := hP
    have hD : va_D A [(h0, eE h1 h2 kn), (h1, eR hw1 hc1 hb1 (o_X2_wideSwap a1 f1 p1 p2).2.2.1 r1), (hw1, eW true), (hc1, eA cy (o_X2_wideSwap a1 f1 p1 p2).2.2.2), (hb1, eA cy g1), (h2, eR hw2 hc2 hb2 a2 r2), (hw2, eW false), (hc2, eA cy f2), (hb2, eA cy g2), (ho, eO (((o_X2_wideSwap a1 f1 p1 p2).2.1).toInt64) sv)] := hD
    refine lv_goto (tgt := 18) hx hb dL_wideSwap_11 (by decide +kernel) ?_
    refine lv_iconst (v := 0) hx hb dL_wideSwap_18 (by decide +kernel) ?_
    have he : o_L_wideSwap a1 f1 nv p1 p2 = (0, (o_X2_wideSwap a1 f1 p1 p2).2.2.1, (o_X2_wideSwap a1 f1 p1 p2).2.2.2, (((o_X2_wideSwap a1 f1 p1 p2).2.1).toInt64)) := by (rw [o_L_wideSwap, if_pos c_3]) <;> rfl
    refine W.widen (k := 2) (n := 12) (by omega) (by omega) ?_
    exact W.iret (v := 0) hx hb hr (fun t ht hW => ⟨⟨_, (), rfl, (by (rw [he]) <;> rfl), (by rw [he]; exact ⟨by rw [ht]; exact hP, hD⟩)⟩, hS.F ht⟩) hS.2.2 dL_wideSwap_19
theorem cl_L_wideMax_1 : ∀ w ∈ wsL_wideMax_r1, w ∈ wsL_wideMax := fun _ h => (List.mem_cons_of_mem _ (List.mem_append_left _ (List.mem_append_left _ (List.mem_append_left _ (List.mem_append_left _ (List.mem_append_left _ (List.mem_append_left _ h)))))))
theorem cl_L_wideMax_2 : ∀ w ∈ wsL_wideMax_r2, w ∈ wsL_wideMax := fun _ h => (List.mem_cons_of_mem _ (List.mem_append_left _ (List.mem_append_left _ (List.mem_append_left _ (List.mem_append_left _ (List.mem_append_left _ (List.mem_append_right _ h)))))))
theorem cl_L_wideMax_3 : ∀ w ∈ wsX30, w ∈ wsL_wideMax := fun _ h => (List.mem_cons_of_mem _ (List.mem_append_left _ (List.mem_append_left _ (List.mem_append_left _ (List.mem_append_left _ (List.mem_append_right _ h))))))
theorem cl_L_wideMax_4 : ∀ w ∈ wsX20, w ∈ wsL_wideMax := fun _ h => (List.mem_cons_of_mem _ (List.mem_append_left _ (List.mem_append_left _ (List.mem_append_left _ (List.mem_append_right _ h)))))
theorem cl_L_wideMax_5 : ∀ w ∈ wsX00, w ∈ wsL_wideMax := fun _ h => (List.mem_cons_of_mem _ (List.mem_append_left _ (List.mem_append_left _ (List.mem_append_right _ h))))
theorem cl_L_wideMax_6 : ∀ w ∈ wsX10, w ∈ wsL_wideMax := fun _ h => (List.mem_cons_of_mem _ (List.mem_append_left _ (List.mem_append_right _ h)))
theorem cl_L_wideMax_7 : ∀ w ∈ (vx_atS RX2 152 "java/lang/IndexOutOfBoundsException" ["java/lang/RuntimeException", "java/lang/Exception"]).filter goodWord, w ∈ wsL_wideMax := fun _ h => (List.mem_cons_of_mem _ (List.mem_append_right _ h))
set_option maxRecDepth 20000 in
theorem ggL_wideMax_X2_wideMax : GoodIn wsL_wideMax wsX2_wideMax := goodIn_sub (List.forall_mem_cons.mpr ⟨(cl_L_wideMax_1 _ (List.mem_of_getElem? (i := 5) rfl)), fun w h => (List.mem_append.mp h).elim ((fun w h => (List.mem_append.mp h).elim ((fun w h => (List.mem_append.mp h).elim ((fun w h => (List.mem_append.mp h).elim ((fun w h => (List.mem_append.mp h).elim ((List.forall_mem_cons.mpr ⟨(cl_L_wideMax_1 _ (List.mem_of_getElem? (i := 6) rfl)), List.forall_mem_cons.mpr ⟨(cl_L_wideMax_1 _ (List.mem_of_getElem? (i := 7) rfl)), List.forall_mem_cons.mpr ⟨(cl_L_wideMax_1 _ (List.mem_of_getElem? (i := 8) rfl)), List.forall_mem_cons.mpr ⟨(cl_L_wideMax_1 _ (List.mem_of_getElem? (i := 9) rfl)), List.forall_mem_cons.mpr ⟨(cl_L_wideMax_1 _ (List.mem_of_getElem? (i := 10) rfl)), List.forall_mem_cons.mpr ⟨(cl_L_wideMax_1 _ (List.mem_of_getElem? (i := 11) rfl)), List.forall_mem_cons.mpr ⟨(cl_L_wideMax_1 _ (List.mem_of_getElem? (i := 12) rfl)), List.forall_mem_cons.mpr ⟨(cl_L_wideMax_1 _ (List.mem_of_getElem? (i := 13) rfl)), List.forall_mem_cons.mpr ⟨(cl_L_wideMax_1 _ (List.mem_of_getElem? (i := 14) rfl)), List.forall_mem_cons.mpr ⟨(cl_L_wideMax_1 _ (List.mem_of_getElem? (i := 15) rfl)), List.forall_mem_cons.mpr ⟨(cl_L_wideMax_1 _ (List.mem_of_getElem? (i := 16) rfl)), List.forall_mem_cons.mpr ⟨(cl_L_wideMax_1 _ (List.mem_of_getElem? (i := 17) rfl)), List.forall_mem_cons.mpr ⟨(cl_L_wideMax_1 _ (List.mem_of_getElem? (i := 4) rfl)), List.forall_mem_cons.mpr ⟨(cl_L_wideMax_1 _ (List.mem_of_getElem? (i := 18) rfl)), List.forall_mem_cons.mpr ⟨(cl_L_wideMax_1 _ (List.mem_of_getElem? (i := 19) rfl)), List.forall_mem_cons.mpr ⟨(cl_L_wideMax_1 _ (List.mem_of_getElem? (i := 20) rfl)), List.forall_mem_cons.mpr ⟨(cl_L_wideMax_1 _ (List.mem_of_getElem? (i := 21) rfl)), List.forall_mem_cons.mpr ⟨(cl_L_wideMax_1 _ (List.mem_of_getElem? (i := 22) rfl)), List.forall_mem_cons.mpr ⟨(cl_L_wideMax_1 _ (List.mem_of_getElem? (i := 23) rfl)), List.forall_mem_cons.mpr ⟨(cl_L_wideMax_2 _ (List.mem_of_getElem? (i := 0) rfl)), List.forall_mem_cons.mpr ⟨(cl_L_wideMax_2 _ (List.mem_of_getElem? (i := 1) rfl)), List.forall_mem_cons.mpr ⟨(cl_L_wideMax_2 _ (List.mem_of_getElem? (i := 2) rfl)), List.forall_mem_cons.mpr ⟨(cl_L_wideMax_2 _ (List.mem_of_getElem? (i := 3) rfl)), List.forall_mem_cons.mpr ⟨(cl_L_wideMax_2 _ (List.mem_of_getElem? (i := 4) rfl)), fun _ h => absurd h List.not_mem_nil⟩⟩⟩⟩⟩⟩⟩⟩⟩⟩⟩⟩⟩⟩⟩⟩⟩⟩⟩⟩⟩⟩⟩⟩) w) ((List.forall_mem_cons.mpr ⟨(cl_L_wideMax_2 _ (List.mem_of_getElem? (i := 5) rfl)), List.forall_mem_cons.mpr ⟨(cl_L_wideMax_2 _ (List.mem_of_getElem? (i := 6) rfl)), List.forall_mem_cons.mpr ⟨(cl_L_wideMax_2 _ (List.mem_of_getElem? (i := 7) rfl)), List.forall_mem_cons.mpr ⟨(cl_L_wideMax_2 _ (List.mem_of_getElem? (i := 8) rfl)), List.forall_mem_cons.mpr ⟨(cl_L_wideMax_2 _ (List.mem_of_getElem? (i := 9) rfl)), List.forall_mem_cons.mpr ⟨(cl_L_wideMax_2 _ (List.mem_of_getElem? (i := 10) rfl)), List.forall_mem_cons.mpr ⟨(cl_L_wideMax_2 _ (List.mem_of_getElem? (i := 11) rfl)), List.forall_mem_cons.mpr ⟨(cl_L_wideMax_2 _ (List.mem_of_getElem? (i := 12) rfl)), List.forall_mem_cons.mpr ⟨(cl_L_wideMax_2 _ (List.mem_of_getElem? (i := 13) rfl)), List.forall_mem_cons.mpr ⟨(cl_L_wideMax_2 _ (List.mem_of_getElem? (i := 14) rfl)), List.forall_mem_cons.mpr ⟨(cl_L_wideMax_2 _ (List.mem_of_getElem? (i := 15) rfl)), List.forall_mem_cons.mpr ⟨(cl_L_wideMax_2 _ (List.mem_of_getElem? (i := 16) rfl)), fun _ h => absurd h List.not_mem_nil⟩⟩⟩⟩⟩⟩⟩⟩⟩⟩⟩⟩) w)) w) ((cl_L_wideMax_4) w)) w) ((cl_L_wideMax_5) w)) w) ((cl_L_wideMax_6) w)) w) ((cl_L_wideMax_7) w)⟩) (by decide +kernel)
set_option maxRecDepth 20000 in
theorem gL_wideMax_X2_wideMax : GoodIn wsL_wideMax (wsV RL 36 RX2 yX2_wideMax wsX2_wideMax) := goodIn_app (goodIn_sub (List.forall_mem_cons.mpr ⟨(cl_L_wideMax_1 _ (List.mem_of_getElem? (i := 1) rfl)), List.forall_mem_cons.mpr ⟨(cl_L_wideMax_1 _ (List.mem_of_getElem? (i := 2) rfl)), List.forall_mem_cons.mpr ⟨(cl_L_wideMax_1 _ (List.mem_of_getElem? (i := 3) rfl)), List.forall_mem_cons.mpr ⟨(cl_L_wideMax_1 _ (List.mem_of_getElem? (i := 4) rfl)), fun _ h => absurd h List.not_mem_nil⟩⟩⟩⟩) (by decide +kernel)) ggL_wideMax_X2_wideMax
noncomputable def dz_p16_6 : List (Nat × Instr × Nat) := [(0, (.aload 4, 2)), (2, (.aload_n 0, 1)), (3, (.iload_n 1, 1)), (4, (.iload_n 2, 1)), (5, (.iload_n 3, 1)), (6, (.invokevirtual 36, 3)), (9, (.i2l, 1)), (10, (.putfield 13, 3)), (13, (.goto 7, 3)), (16, (.astore 5, 2)), (18, (.iconst 1, 1)), (19, (.ireturn, 1)), (20, (.iconst 0, 1)), (21, (.ireturn, 1))]
theorem dy_p16_6 : dz_ok cL_wideMax dz_p16_6 = true := by decide +kernel
theorem dL_wideMax_0 : decode cL_wideMax 0 = .ok (.aload 4, 2) := dz_at (i := 0) dy_p16_6 rfl
theorem dL_wideMax_2 : decode cL_wideMax 2 = .ok (.aload_n 0, 1) := dz_at (i := 1) dy_p16_6 rfl
theorem dL_wideMax_3 : decode cL_wideMax 3 = .ok (.iload_n 1, 1) := dz_at (i := 2) dy_p16_6 rfl
theorem dL_wideMax_4 : decode cL_wideMax 4 = .ok (.iload_n 2, 1) := dz_at (i := 3) dy_p16_6 rfl
theorem dL_wideMax_5 : decode cL_wideMax 5 = .ok (.iload_n 3, 1) := dz_at (i := 4) dy_p16_6 rfl
theorem dL_wideMax_6 : decode cL_wideMax 6 = .ok (.invokevirtual 36, 3) := dz_at (i := 5) dy_p16_6 rfl
theorem dL_wideMax_9 : decode cL_wideMax 9 = .ok (.i2l, 1) := dz_at (i := 6) dy_p16_6 rfl
theorem dL_wideMax_10 : decode cL_wideMax 10 = .ok (.putfield 13, 3) := dz_at (i := 7) dy_p16_6 rfl
theorem dL_wideMax_13 : decode cL_wideMax 13 = .ok (.goto 7, 3) := dz_at (i := 8) dy_p16_6 rfl
theorem dL_wideMax_16 : decode cL_wideMax 16 = .ok (.astore 5, 2) := dz_at (i := 9) dy_p16_6 rfl
theorem dL_wideMax_18 : decode cL_wideMax 18 = .ok (.iconst 1, 1) := dz_at (i := 10) dy_p16_6 rfl
theorem dL_wideMax_19 : decode cL_wideMax 19 = .ok (.ireturn, 1) := dz_at (i := 11) dy_p16_6 rfl
theorem dL_wideMax_20 : decode cL_wideMax 20 = .ok (.iconst 0, 1) := dz_at (i := 12) dy_p16_6 rfl
theorem dL_wideMax_21 : decode cL_wideMax 21 = .ok (.ireturn, 1) := dz_at (i := 13) dy_p16_6 rfl
noncomputable def o_L_wideMax (a1 : Int32) (f1 : Nat → Int64) (nv : Int64) (p1 : Int32) (p2 : Int32) (p3 : Int32) : Int32 × Int32 × (Nat → Int64) × Int64 :=
  if (o_X2_wideMax a1 f1 p1 p2 p3).1 = 0 then (0, (o_X2_wideMax a1 f1 p1 p2 p3).2.2.1, (o_X2_wideMax a1 f1 p1 p2 p3).2.2.2, (((o_X2_wideMax a1 f1 p1 p2 p3).2.1).toInt64))
  else (1, a1, f1, nv)
set_option maxHeartbeats 4000000 in
set_option maxRecDepth 100000 in
theorem k_L_wideMax (l : Launch) (hfl : l.flags = flags0) (dC : Nat → ClassId) (dI : Nat → Nat → Nat) (cy : ClassId) (h0 : Nat) (h1 : Nat) (hw1 : Nat) (hc1 : Nat) (hb1 : Nat) (h2 : Nat) (hw2 : Nat) (hc2 : Nat) (hb2 : Nat) (a1 : Int32) (r1 : Int32) (f1 : Nat → Int64) (g1 : Nat → Int64) (a2 : Int32) (r2 : Int32) (f2 : Nat → Int64) (g2 : Nat → Int64) (kn : Int32) (ho : Nat) (nv : Int64) (sv : Value) (sz : Nat) (N : Nat) (p1 : Int32) (p2 : Int32) (p3 : Int32) : Met l yL_wideMax wsL_wideMax ({ frames := 10, cells := 3, slots := 18, locals := 188 }) (va_Pc [.ref h0, .int p1, .int p2, .int p3, .ref ho] (xL (dC, dI) xCl [(h0, eE h1 h2 kn), (h1, eR hw1 hc1 hb1 a1 r1), (hw1, eW true), (hc1, eA cy f1), (hb1, eA cy g1), (h2, eR hw2 hc2 hb2 a2 r2), (hw2, eW false), (hc2, eA cy f2), (hb2, eA cy g2), (ho, eO nv sv)] [(cy, .long)] sz N)) (va_Qi (fun (r : Int32) (_ : Unit) => r = (o_L_wideMax a1 f1 nv p1 p2 p3).1) (fun _ t => xW (dC, dI) xCl [(h0, eE h1 h2 kn), (h1, eR hw1 hc1 hb1 (o_L_wideMax a1 f1 nv p1 p2 p3).2.1 r1), (hw1, eW true), (hc1, eA cy (o_L_wideMax a1 f1 nv p1 p2 p3).2.2.1), (hb1, eA cy g1), (h2, eR hw2 hc2 hb2 a2 r2), (hw2, eW false), (hc2, eA cy f2), (hb2, eA cy g2), (ho, eO (o_L_wideMax a1 f1 nv p1 p2 p3).2.2.2 sv)] (va_A [(h0, eE h1 h2 kn), (h1, eR hw1 hc1 hb1 a1 r1), (hw1, eW true), (hc1, eA cy f1), (hb1, eA cy g1), (h2, eR hw2 hc2 hb2 a2 r2), (hw2, eW false), (hc2, eA cy f2), (hb2, eA cy g2), (ho, eO nv sv)] sz) t) (va_A [(h0, eE h1 h2 kn), (h1, eR hw1 hc1 hb1 a1 r1), (hw1, eW true), (hc1, eA cy f1), (hb1, eA cy g1), (h2, eR hw2 hc2 hb2 a2 r2), (hw2, eW false), (hc2, eA cy f2), (hb2, eA cy g2), (ho, eO nv sv)] sz)) 3 18 (va_A [(h0, eE h1 h2 kn), (h1, eR hw1 hc1 hb1 a1 r1), (hw1, eW true), (hc1, eA cy f1), (hb1, eA cy g1), (h2, eR hw2 hc2 hb2 a2 r2), (hw2, eW false), (hc2, eA cy f2), (hb2, eA cy g2), (ho, eO nv sv)] sz) := by
  refine va_MetW (cc := cL_wideMax) (maxL := 6) (ret := (some .int)) (by decide +kernel) rfl ?_
  intro p e s m args below meth c s₁ B hml hv
  obtain ⟨rfl, ⟨hsz, hP, hK, hD0, hN, hG⟩, hnc⟩ := hv
  have hx := B.exec
  have hb := B.bytes
  have hr := B.returns
  have hts := atoms_spec (ws := wsL_wideMax) B.pre
  have hown : s.vm.findClass RL = some m.cls := findClass_of_methodNamed B.named
  have hlocks := B.notSynchronized
  have htab := vx_table (x := yL_wideMax) B (hts _ List.mem_cons_self)
  subst hsz
  have hAN : ∀ q, va_A [(h0, eE h1 h2 kn), (h1, eR hw1 hc1 hb1 a1 r1), (hw1, eW true), (hc1, eA cy f1), (hb1, eA cy g1), (h2, eR hw2 hc2 hb2 a2 r2), (hw2, eW false), (hc2, eA cy f2), (hb2, eA cy g2), (ho, eO nv sv)] s.heap.size q → N ≤ q := xA_N hD0 hN
  have hD := hD0.self (sz := s.heap.size)
  generalize hAe : va_A [(h0, eE h1 h2 kn), (h1, eR hw1 hc1 hb1 a1 r1), (hw1, eW true), (hc1, eA cy f1), (hb1, eA cy g1), (h2, eR hw2 hc2 hb2 a2 r2), (hw2, eW false), (hc2, eA cy f2), (hb2, eA cy g2), (ho, eO nv sv)] s.heap.size = A at hD hAN ⊢
  have hA : ∀ q : Nat, s.heap.size ≤ q → A q := fun q h => by rw [← hAe]; exact Or.inr h
  have hS : va_S A s.heap s.heap [] := va_S.rf
  have hP : va_P (dC, dI) xCl [(h0, eE h1 h2 kn), (h1, eR hw1 hc1 hb1 a1 r1), (hw1, eW true), (hc1, eA cy f1), (hb1, eA cy g1), (h2, eR hw2 hc2 hb2 a2 r2), (hw2, eW false), (hc2, eA cy f2), (hb2, eA cy g2), (ho, eO nv sv)] s.heap := hP
  have hl := lv_entry ([.ref h0, .int p1, .int p2, .int p3, .ref ho]) (n := 6) (Nat.le_of_ble_eq_true rfl)
  rw [lg_entry_eq]
  generalize (lg_sl ([.ref h0, .int p1, .int p2, .int p3, .ref ho]) ++ List.replicate (6 - (lg_sl ([.ref h0, .int p1, .int p2, .int p3, .ref ho])).length) Slot.unset).toArray = ls at hl ⊢
  have hl : lv_has ls 6 [(0, .ref h0), (1, .int p1), (2, .int p2), (3, .int p3), (4, .ref ho)] := hl
  refine lv_aload hx hb dL_wideMax_0 (lv_at hl 4 rfl) ?_
  refine lv_aload_n hx hb dL_wideMax_2 rfl (lv_at hl 0 rfl) ?_
  refine lv_iload_n hx hb dL_wideMax_3 rfl (lv_at hl 1 rfl) ?_
  refine lv_iload_n hx hb dL_wideMax_4 rfl (lv_at hl 2 rfl) ?_
  refine lv_iload_n hx hb dL_wideMax_5 rfl (lv_at hl 3 rfl) ?_
  have hPc := hP.sub (ws' := [(h0, eE h1 h2 kn), (h1, eR hw1 hc1 hb1 a1 r1), (hw1, eW true), (hc1, eA cy f1), (hb1, eA cy g1), (h2, eR hw2 hc2 hb2 a2 r2), (hw2, eW false), (hc2, eA cy f2), (hb2, eA cy g2)]) [0, 1, 2, 3, 4, 5, 6, 7, 8] rfl
  have hDc := hD.sub (ws' := [(h0, eE h1 h2 kn), (h1, eR hw1 hc1 hb1 a1 r1), (hw1, eW true), (hc1, eA cy f1), (hb1, eA cy g1), (h2, eR hw2 hc2 hb2 a2 r2), (hw2, eW false), (hc2, eA cy f2), (hb2, eA cy g2)]) [0, 1, 2, 3, 4, 5, 6, 7, 8] (by decide +kernel) rfl
  have hKc := hK.sub (tys' := [(cy, .long)]) [0] rfl
  have hFc := va_free (wc := [(h0, eE h1 h2 kn), (h1, eR hw1 hc1 hb1 a1 r1), (hw1, eW true), (hc1, eA cy f1), (hb1, eA cy g1), (h2, eR hw2 hc2 hb2 a2 r2), (hw2, eW false), (hc2, eA cy f2), (hb2, eA cy g2)]) hD hS hA [0, 1, 2, 3, 4, 5, 6, 7, 8] rfl
  refine vx_calli (vx_runV (As := [.int p1, .int p2, .int p3]) (rest := [.ref ho]) ⟨hx, hb, hml, hown, hts⟩ (k_X2_wideMax l hfl dC dI cy h0 h1 hw1 hc1 hb1 h2 hw2 hc2 hb2 a1 r1 f1 g1 a2 r2 f2 g2 kn s.heap.size N p1 p2 p3) (cwV 3 hts gL_wideMax_X2_wideMax rfl rfl rfl (by decide +kernel) ⟨Nat.le_of_ble_eq_true rfl, Nat.le_of_ble_eq_true rfl⟩) (xM.preV hKc hPc hDc hAN (Nat.le_trans hN hS.1) (hG.kept hS hAN) (ci := 4) (q0 := 0) rfl rfl) rfl rfl hl.1 rfl (lv_room (Nat.le_of_ble_eq_true rfl)) dL_wideMax_6 ⟨Nat.le_of_ble_eq_true rfl, Nat.le_of_ble_eq_true rfl⟩) hS (fun q _ h => hFc q h) hFc (fun q _ h => hFc q h) (fun E ce q9 u9 t H locs ht hvm hpx hbx hz hk hS hce hcv hcl => ?_) (fun r_1 u t H locs ht hvm hw hB hz hk hS => ?_)
  · have c_2 : ¬ (o_X2_wideMax a1 f1 p1 p2 p3).1 = 0 := hpx
    obtain ⟨hbe, hP1, hD1⟩ := hbx
    rw [ht] at hP1
    obtain ⟨hP, hD⟩ := va_join (wr := [(ho, eO nv sv)]) (w1 := [(h0, eE h1 h2 kn), (h1, eR hw1 hc1 hb1 a1 r1), (hw1, eW true), (hc1, eA cy f1), (hb1, eA cy g1), (h2, eR hw2 hc2 hb2 a2 r2), (hw2, eW false), (hc2, eA cy f2), (hb2, eA cy g2)]) hP hD [0, 1, 2, 3, 4, 5, 6, 7, 8] [9] rfl rfl (by decide +kernel) (by decide +kernel) hk hFc hP1 hD1
    have hP := hP.sub (ws' := [(h0, eE h1 h2 kn), (h1, eR hw1 hc1 hb1 a1 r1), (hw1, eW true), (hc1, eA cy f1), (hb1, eA cy g1), (h2, eR hw2 hc2 hb2 a2 r2), (hw2, eW false), (hc2, eA cy f2), (hb2, eA cy g2), (ho, eO nv sv)]) [1, 2, 3, 4, 5, 6, 7, 8, 9, 0] rfl
    have hD := hD.sub (ws' := [(h0, eE h1 h2 kn), (h1, eR hw1 hc1 hb1 a1 r1), (hw1, eW true), (hc1, eA cy f1), (hb1, eA cy g1), (h2, eR hw2 hc2 hb2 a2 r2), (hw2, eW false), (hc2, eA cy f2), (hb2, eA cy g2), (ho, eO nv sv)]) [1, 2, 3, 4, 5, 6, 7, 8, 9, 0] (by decide +kernel) rfl
    have hE : E = "java/lang/IndexOutOfBoundsException" := hbe.trans (by rw [show (o_X2_wideMax a1 f1 p1 p2 p3).1 = 1 from (xr_X2_wideMax _ _ _ _ _ c_2)]; rfl)
    subst hE
    refine vx_catch (own := RL) (name := "java/lang/IndexOutOfBoundsException") hown [] ⟨0, 13, 16, 19⟩ [] htab (fun z hz => absurd hz List.not_mem_nil) (by decide +kernel) (by decide +kernel) (hts (.classLink RL 19 "java/lang/IndexOutOfBoundsException") (by decide +kernel)) (va_Nw.use rfl (hG.1 (.castable "java/lang/IndexOutOfBoundsException" "java/lang/IndexOutOfBoundsException") (List.mem_of_getElem? (i := 11) rfl))) hce hcv hcl ?_
    refine lv_astore (lv' := [(5, .ref q9), (0, .ref h0), (1, .int p1), (2, .int p2), (3, .int p3), (4, .ref ho)]) hx hb dL_wideMax_16 hl (by decide +kernel) rfl (fun ls hl => ?_)
    refine lv_iconst (v := 1) hx hb dL_wideMax_18 (by decide +kernel) ?_
    have he : o_L_wideMax a1 f1 nv p1 p2 p3 = (1, a1, f1, nv) := by (rw [o_L_wideMax, if_neg c_2]) <;> rfl
    refine W.widen (k := 3) (n := 18) (by omega) (by omega) ?_
    exact W.iret (v := 1) hx hb hr (fun t ht hW => ⟨⟨_, (), rfl, (by (rw [he]) <;> rfl), (by rw [he]; exact ⟨by rw [ht]; dsimp only; exact hP, by dsimp only; exact hD⟩)⟩, hS.F ht⟩) hS.2.2 dL_wideMax_19
  · skip
    obtain ⟨c_3, hw⟩ := hw
    have c_3 : (o_X2_wideMax a1 f1 p1 p2 p3).1 = 0 := c_3
    replace hw : r_1 = (o_X2_wideMax a1 f1 p1 p2 p3).2.1 := hw
    subst r_1
    obtain ⟨hP1, hD1⟩ := hB
    rw [ht] at hP1
    obtain ⟨hP, hD⟩ := va_join (wr := [(ho, eO nv sv)]) (w1 := [(h0, eE h1 h2 kn), (h1, eR hw1 hc1 hb1 (o_X2_wideMax a1 f1 p1 p2 p3).2.2.1 r1), (hw1, eW true), (hc1, eA cy (o_X2_wideMax a1 f1 p1 p2 p3).2.2.2), (hb1, eA cy g1), (h2, eR hw2 hc2 hb2 a2 r2), (hw2, eW false), (hc2, eA cy f2), (hb2, eA cy g2)]) hP hD [0, 1, 2, 3, 4, 5, 6, 7, 8] [9] rfl rfl (by decide +kernel) (by decide +kernel) hk hFc hP1 hD1
    have hP := hP.sub (ws' := [(h0, eE h1 h2 kn), (h1, eR hw1 hc1 hb1 (o_X2_wideMax a1 f1 p1 p2 p3).2.2.1 r1), (hw1, eW true), (hc1, eA cy (o_X2_wideMax a1 f1 p1 p2 p3).2.2.2), (hb1, eA cy g1), (h2, eR hw2 hc2 hb2 a2 r2), (hw2, eW false), (hc2, eA cy f2), (hb2, eA cy g2), (ho, eO nv sv)]) [1, 2, 3, 4, 5, 6, 7, 8, 9, 0] rfl
    have hD := hD.sub (ws' := [(h0, eE h1 h2 kn), (h1, eR hw1 hc1 hb1 (o_X2_wideMax a1 f1 p1 p2 p3).2.2.1 r1), (hw1, eW true), (hc1, eA cy (o_X2_wideMax a1 f1 p1 p2 p3).2.2.2), (hb1, eA cy g1), (h2, eR hw2 hc2 hb2 a2 r2), (hw2, eW false), (hc2, eA cy f2), (hb2, eA cy g2), (ho, eO nv sv)]) [1, 2, 3, 4, 5, 6, 7, 8, 9, 0] (by decide +kernel) rfl
    refine lv_i2l (v := (((o_X2_wideMax a1 f1 p1 p2 p3).2.1).toInt64)) hx hb dL_wideMax_9 rfl ?_
    refine va_putN (D := (dC, dI)) (ci := 5) (v := .long (((o_X2_wideMax a1 f1 p1 p2 p3).2.1).toInt64)) (ty := .long) (C := RX3) (T := TX3) (N := 2) hx hb hts (by decide +kernel) tyX3 tyX3_ok nmX3 hown hK hP hD hS 9 rfl rfl 0 (by decide +kernel) (va_Nw.use rfl (hG.1 (.fieldLinkNest RL 13 "EdgefloatsLaw$Out" "n" "J" RL) (List.mem_of_getElem? (i := 6) rfl))) (fun _ h9 => h9) rfl (by decide +kernel) rfl rfl (Nat.le_of_ble_eq_true rfl) dL_wideMax_10 (fun H locs hP hD hS => ?_)
    have hP : va_P (dC, dI) xCl [(h0, eE h1 h2 kn), (h1, eR hw1 hc1 hb1 (o_X2_wideMax a1 f1 p1 p2 p3).2.2.1 r1), (hw1, eW true), (hc1, eA cy (o_X2_wideMax a1 f1 p1 p2 p3).2.2.2), (hb1, eA cy g1), (h2, eR hw2 hc2 hb2 a2 r2), (hw2, eW false), (hc2, eA cy f2), (hb2, eA cy g2), (ho, eO (((o_X2_wideMax a1 f1 p1 p2 p3).2.1).toInt64) sv)] H := hP
    have hD : va_D A [(h0, eE h1 h2 kn), (h1, eR hw1 hc1 hb1 (o_X2_wideMax a1 f1 p1 p2 p3).2.2.1 r1), (hw1, eW true), (hc1, eA cy (o_X2_wideMax a1 f1 p1 p2 p3).2.2.2), (hb1, eA cy g1), (h2, eR hw2 hc2 hb2 a2 r2), (hw2, eW false), (hc2, eA cy f2), (hb2, eA cy g2), (ho, eO (((o_X2_wideMax a1 f1 p1 p2 p3).2.1).toInt64) sv)] := hD
    refine lv_goto (tgt := 20) hx hb dL_wideMax_13 (by decide +kernel) ?_
    refine lv_iconst (v := 0) hx hb dL_wideMax_20 (by decide +kernel) ?_
    have he : o_L_wideMax a1 f1 nv p1 p2 p3 = (0, (o_X2_wideMax a1 f1 p1 p2 p3).2.2.1, (o_X2_wideMax a1 f1 p1 p2 p3).2.2.2, (((o_X2_wideMax a1 f1 p1 p2 p3).2.1).toInt64)) := by (rw [o_L_wideMax, if_pos c_3]) <;> rfl
    refine W.widen (k := 3) (n := 18) (by omega) (by omega) ?_
    exact W.iret (v := 0) hx hb hr (fun t ht hW => ⟨⟨_, (), rfl, (by (rw [he]) <;> rfl), (by rw [he]; exact ⟨by rw [ht]; dsimp only; exact hP, by dsimp only; exact hD⟩)⟩, hS.F ht⟩) hS.2.2 dL_wideMax_21
theorem cl_L_wideMin_1 : ∀ w ∈ wsL_wideMin_r1, w ∈ wsL_wideMin := fun _ h => (List.mem_cons_of_mem _ (List.mem_append_left _ (List.mem_append_left _ (List.mem_append_left _ (List.mem_append_left _ (List.mem_append_left _ (List.mem_append_left _ h)))))))
theorem cl_L_wideMin_2 : ∀ w ∈ wsL_wideMin_r2, w ∈ wsL_wideMin := fun _ h => (List.mem_cons_of_mem _ (List.mem_append_left _ (List.mem_append_left _ (List.mem_append_left _ (List.mem_append_left _ (List.mem_append_left _ (List.mem_append_right _ h)))))))
theorem cl_L_wideMin_3 : ∀ w ∈ wsX30, w ∈ wsL_wideMin := fun _ h => (List.mem_cons_of_mem _ (List.mem_append_left _ (List.mem_append_left _ (List.mem_append_left _ (List.mem_append_left _ (List.mem_append_right _ h))))))
theorem cl_L_wideMin_4 : ∀ w ∈ wsX20, w ∈ wsL_wideMin := fun _ h => (List.mem_cons_of_mem _ (List.mem_append_left _ (List.mem_append_left _ (List.mem_append_left _ (List.mem_append_right _ h)))))
theorem cl_L_wideMin_5 : ∀ w ∈ wsX00, w ∈ wsL_wideMin := fun _ h => (List.mem_cons_of_mem _ (List.mem_append_left _ (List.mem_append_left _ (List.mem_append_right _ h))))
theorem cl_L_wideMin_6 : ∀ w ∈ wsX10, w ∈ wsL_wideMin := fun _ h => (List.mem_cons_of_mem _ (List.mem_append_left _ (List.mem_append_right _ h)))
theorem cl_L_wideMin_7 : ∀ w ∈ (vx_atS RX2 152 "java/lang/IndexOutOfBoundsException" ["java/lang/RuntimeException", "java/lang/Exception"]).filter goodWord, w ∈ wsL_wideMin := fun _ h => (List.mem_cons_of_mem _ (List.mem_append_right _ h))
set_option maxRecDepth 20000 in
theorem ggL_wideMin_X2_wideMin : GoodIn wsL_wideMin wsX2_wideMin := goodIn_sub (List.forall_mem_cons.mpr ⟨(cl_L_wideMin_1 _ (List.mem_of_getElem? (i := 5) rfl)), fun w h => (List.mem_append.mp h).elim ((fun w h => (List.mem_append.mp h).elim ((fun w h => (List.mem_append.mp h).elim ((fun w h => (List.mem_append.mp h).elim ((fun w h => (List.mem_append.mp h).elim ((List.forall_mem_cons.mpr ⟨(cl_L_wideMin_1 _ (List.mem_of_getElem? (i := 6) rfl)), List.forall_mem_cons.mpr ⟨(cl_L_wideMin_1 _ (List.mem_of_getElem? (i := 7) rfl)), List.forall_mem_cons.mpr ⟨(cl_L_wideMin_1 _ (List.mem_of_getElem? (i := 8) rfl)), List.forall_mem_cons.mpr ⟨(cl_L_wideMin_1 _ (List.mem_of_getElem? (i := 9) rfl)), List.forall_mem_cons.mpr ⟨(cl_L_wideMin_1 _ (List.mem_of_getElem? (i := 10) rfl)), List.forall_mem_cons.mpr ⟨(cl_L_wideMin_1 _ (List.mem_of_getElem? (i := 11) rfl)), List.forall_mem_cons.mpr ⟨(cl_L_wideMin_1 _ (List.mem_of_getElem? (i := 12) rfl)), List.forall_mem_cons.mpr ⟨(cl_L_wideMin_1 _ (List.mem_of_getElem? (i := 13) rfl)), List.forall_mem_cons.mpr ⟨(cl_L_wideMin_1 _ (List.mem_of_getElem? (i := 14) rfl)), List.forall_mem_cons.mpr ⟨(cl_L_wideMin_1 _ (List.mem_of_getElem? (i := 15) rfl)), List.forall_mem_cons.mpr ⟨(cl_L_wideMin_1 _ (List.mem_of_getElem? (i := 16) rfl)), List.forall_mem_cons.mpr ⟨(cl_L_wideMin_1 _ (List.mem_of_getElem? (i := 17) rfl)), List.forall_mem_cons.mpr ⟨(cl_L_wideMin_1 _ (List.mem_of_getElem? (i := 4) rfl)), List.forall_mem_cons.mpr ⟨(cl_L_wideMin_1 _ (List.mem_of_getElem? (i := 18) rfl)), List.forall_mem_cons.mpr ⟨(cl_L_wideMin_1 _ (List.mem_of_getElem? (i := 19) rfl)), List.forall_mem_cons.mpr ⟨(cl_L_wideMin_1 _ (List.mem_of_getElem? (i := 20) rfl)), List.forall_mem_cons.mpr ⟨(cl_L_wideMin_1 _ (List.mem_of_getElem? (i := 21) rfl)), List.forall_mem_cons.mpr ⟨(cl_L_wideMin_1 _ (List.mem_of_getElem? (i := 22) rfl)), List.forall_mem_cons.mpr ⟨(cl_L_wideMin_1 _ (List.mem_of_getElem? (i := 23) rfl)), List.forall_mem_cons.mpr ⟨(cl_L_wideMin_2 _ (List.mem_of_getElem? (i := 0) rfl)), List.forall_mem_cons.mpr ⟨(cl_L_wideMin_2 _ (List.mem_of_getElem? (i := 1) rfl)), List.forall_mem_cons.mpr ⟨(cl_L_wideMin_2 _ (List.mem_of_getElem? (i := 2) rfl)), List.forall_mem_cons.mpr ⟨(cl_L_wideMin_2 _ (List.mem_of_getElem? (i := 3) rfl)), List.forall_mem_cons.mpr ⟨(cl_L_wideMin_2 _ (List.mem_of_getElem? (i := 4) rfl)), fun _ h => absurd h List.not_mem_nil⟩⟩⟩⟩⟩⟩⟩⟩⟩⟩⟩⟩⟩⟩⟩⟩⟩⟩⟩⟩⟩⟩⟩⟩) w) ((List.forall_mem_cons.mpr ⟨(cl_L_wideMin_2 _ (List.mem_of_getElem? (i := 5) rfl)), List.forall_mem_cons.mpr ⟨(cl_L_wideMin_2 _ (List.mem_of_getElem? (i := 6) rfl)), List.forall_mem_cons.mpr ⟨(cl_L_wideMin_2 _ (List.mem_of_getElem? (i := 7) rfl)), List.forall_mem_cons.mpr ⟨(cl_L_wideMin_2 _ (List.mem_of_getElem? (i := 8) rfl)), List.forall_mem_cons.mpr ⟨(cl_L_wideMin_2 _ (List.mem_of_getElem? (i := 9) rfl)), List.forall_mem_cons.mpr ⟨(cl_L_wideMin_2 _ (List.mem_of_getElem? (i := 10) rfl)), List.forall_mem_cons.mpr ⟨(cl_L_wideMin_2 _ (List.mem_of_getElem? (i := 11) rfl)), List.forall_mem_cons.mpr ⟨(cl_L_wideMin_2 _ (List.mem_of_getElem? (i := 12) rfl)), List.forall_mem_cons.mpr ⟨(cl_L_wideMin_2 _ (List.mem_of_getElem? (i := 13) rfl)), List.forall_mem_cons.mpr ⟨(cl_L_wideMin_2 _ (List.mem_of_getElem? (i := 14) rfl)), List.forall_mem_cons.mpr ⟨(cl_L_wideMin_2 _ (List.mem_of_getElem? (i := 15) rfl)), List.forall_mem_cons.mpr ⟨(cl_L_wideMin_2 _ (List.mem_of_getElem? (i := 16) rfl)), fun _ h => absurd h List.not_mem_nil⟩⟩⟩⟩⟩⟩⟩⟩⟩⟩⟩⟩) w)) w) ((cl_L_wideMin_4) w)) w) ((cl_L_wideMin_5) w)) w) ((cl_L_wideMin_6) w)) w) ((cl_L_wideMin_7) w)⟩) (by decide +kernel)
set_option maxRecDepth 20000 in
theorem gL_wideMin_X2_wideMin : GoodIn wsL_wideMin (wsV RL 39 RX2 yX2_wideMin wsX2_wideMin) := goodIn_app (goodIn_sub (List.forall_mem_cons.mpr ⟨(cl_L_wideMin_1 _ (List.mem_of_getElem? (i := 1) rfl)), List.forall_mem_cons.mpr ⟨(cl_L_wideMin_1 _ (List.mem_of_getElem? (i := 2) rfl)), List.forall_mem_cons.mpr ⟨(cl_L_wideMin_1 _ (List.mem_of_getElem? (i := 3) rfl)), List.forall_mem_cons.mpr ⟨(cl_L_wideMin_1 _ (List.mem_of_getElem? (i := 4) rfl)), fun _ h => absurd h List.not_mem_nil⟩⟩⟩⟩) (by decide +kernel)) ggL_wideMin_X2_wideMin
noncomputable def dz_p16_7 : List (Nat × Instr × Nat) := [(0, (.aload 4, 2)), (2, (.aload_n 0, 1)), (3, (.iload_n 1, 1)), (4, (.iload_n 2, 1)), (5, (.iload_n 3, 1)), (6, (.invokevirtual 39, 3)), (9, (.i2l, 1)), (10, (.putfield 13, 3)), (13, (.goto 7, 3)), (16, (.astore 5, 2)), (18, (.iconst 1, 1)), (19, (.ireturn, 1)), (20, (.iconst 0, 1)), (21, (.ireturn, 1))]
theorem dy_p16_7 : dz_ok cL_wideMin dz_p16_7 = true := by decide +kernel
theorem dL_wideMin_0 : decode cL_wideMin 0 = .ok (.aload 4, 2) := dz_at (i := 0) dy_p16_7 rfl
theorem dL_wideMin_2 : decode cL_wideMin 2 = .ok (.aload_n 0, 1) := dz_at (i := 1) dy_p16_7 rfl
theorem dL_wideMin_3 : decode cL_wideMin 3 = .ok (.iload_n 1, 1) := dz_at (i := 2) dy_p16_7 rfl
theorem dL_wideMin_4 : decode cL_wideMin 4 = .ok (.iload_n 2, 1) := dz_at (i := 3) dy_p16_7 rfl
theorem dL_wideMin_5 : decode cL_wideMin 5 = .ok (.iload_n 3, 1) := dz_at (i := 4) dy_p16_7 rfl
theorem dL_wideMin_6 : decode cL_wideMin 6 = .ok (.invokevirtual 39, 3) := dz_at (i := 5) dy_p16_7 rfl
theorem dL_wideMin_9 : decode cL_wideMin 9 = .ok (.i2l, 1) := dz_at (i := 6) dy_p16_7 rfl
theorem dL_wideMin_10 : decode cL_wideMin 10 = .ok (.putfield 13, 3) := dz_at (i := 7) dy_p16_7 rfl
theorem dL_wideMin_13 : decode cL_wideMin 13 = .ok (.goto 7, 3) := dz_at (i := 8) dy_p16_7 rfl
theorem dL_wideMin_16 : decode cL_wideMin 16 = .ok (.astore 5, 2) := dz_at (i := 9) dy_p16_7 rfl
theorem dL_wideMin_18 : decode cL_wideMin 18 = .ok (.iconst 1, 1) := dz_at (i := 10) dy_p16_7 rfl
theorem dL_wideMin_19 : decode cL_wideMin 19 = .ok (.ireturn, 1) := dz_at (i := 11) dy_p16_7 rfl
theorem dL_wideMin_20 : decode cL_wideMin 20 = .ok (.iconst 0, 1) := dz_at (i := 12) dy_p16_7 rfl
theorem dL_wideMin_21 : decode cL_wideMin 21 = .ok (.ireturn, 1) := dz_at (i := 13) dy_p16_7 rfl
noncomputable def o_L_wideMin (a1 : Int32) (f1 : Nat → Int64) (nv : Int64) (p1 : Int32) (p2 : Int32) (p3 : Int32) : Int32 × Int32 × (Nat → Int64) × Int64 :=
  if (o_X2_wideMin a1 f1 p1 p2 p3).1 = 0 then (0, (o_X2_wideMin a1 f1 p1 p2 p3).2.2.1, (o_X2_wideMin a1 f1 p1 p2 p3).2.2.2, (((o_X2_wideMin a1 f1 p1 p2 p3).2.1).toInt64))
  else (1, a1, f1, nv)
set_option maxHeartbeats 4000000 in
set_option maxRecDepth 100000 in
theorem k_L_wideMin (l : Launch) (hfl : l.flags = flags0) (dC : Nat → ClassId) (dI : Nat → Nat → Nat) (cy : ClassId) (h0 : Nat) (h1 : Nat) (hw1 : Nat) (hc1 : Nat) (hb1 : Nat) (h2 : Nat) (hw2 : Nat) (hc2 : Nat) (hb2 : Nat) (a1 : Int32) (r1 : Int32) (f1 : Nat → Int64) (g1 : Nat → Int64) (a2 : Int32) (r2 : Int32) (f2 : Nat → Int64) (g2 : Nat → Int64) (kn : Int32) (ho : Nat) (nv : Int64) (sv : Value) (sz : Nat) (N : Nat) (p1 : Int32) (p2 : Int32) (p3 : Int32) : Met l yL_wideMin wsL_wideMin ({ frames := 10, cells := 3, slots := 18, locals := 188 }) (va_Pc [.ref h0, .int p1, .int p2, .int p3, .ref ho] (xL (dC, dI) xCl [(h0, eE h1 h2 kn), (h1, eR hw1 hc1 hb1 a1 r1), (hw1, eW true), (hc1, eA cy f1), (hb1, eA cy g1), (h2, eR hw2 hc2 hb2 a2 r2), (hw2, eW false), (hc2, eA cy f2), (hb2, eA cy g2), (ho, eO nv sv)] [(cy, .long)] sz N)) (va_Qi (fun (r : Int32) (_ : Unit) => r = (o_L_wideMin a1 f1 nv p1 p2 p3).1) (fun _ t => xW (dC, dI) xCl [(h0, eE h1 h2 kn), (h1, eR hw1 hc1 hb1 (o_L_wideMin a1 f1 nv p1 p2 p3).2.1 r1), (hw1, eW true), (hc1, eA cy (o_L_wideMin a1 f1 nv p1 p2 p3).2.2.1), (hb1, eA cy g1), (h2, eR hw2 hc2 hb2 a2 r2), (hw2, eW false), (hc2, eA cy f2), (hb2, eA cy g2), (ho, eO (o_L_wideMin a1 f1 nv p1 p2 p3).2.2.2 sv)] (va_A [(h0, eE h1 h2 kn), (h1, eR hw1 hc1 hb1 a1 r1), (hw1, eW true), (hc1, eA cy f1), (hb1, eA cy g1), (h2, eR hw2 hc2 hb2 a2 r2), (hw2, eW false), (hc2, eA cy f2), (hb2, eA cy g2), (ho, eO nv sv)] sz) t) (va_A [(h0, eE h1 h2 kn), (h1, eR hw1 hc1 hb1 a1 r1), (hw1, eW true), (hc1, eA cy f1), (hb1, eA cy g1), (h2, eR hw2 hc2 hb2 a2 r2), (hw2, eW false), (hc2, eA cy f2), (hb2, eA cy g2), (ho, eO nv sv)] sz)) 3 18 (va_A [(h0, eE h1 h2 kn), (h1, eR hw1 hc1 hb1 a1 r1), (hw1, eW true), (hc1, eA cy f1), (hb1, eA cy g1), (h2, eR hw2 hc2 hb2 a2 r2), (hw2, eW false), (hc2, eA cy f2), (hb2, eA cy g2), (ho, eO nv sv)] sz) := by
  refine va_MetW (cc := cL_wideMin) (maxL := 6) (ret := (some .int)) (by decide +kernel) rfl ?_
  intro p e s m args below meth c s₁ B hml hv
  obtain ⟨rfl, ⟨hsz, hP, hK, hD0, hN, hG⟩, hnc⟩ := hv
  have hx := B.exec
  have hb := B.bytes
  have hr := B.returns
  have hts := atoms_spec (ws := wsL_wideMin) B.pre
  have hown : s.vm.findClass RL = some m.cls := findClass_of_methodNamed B.named
  have hlocks := B.notSynchronized
  have htab := vx_table (x := yL_wideMin) B (hts _ List.mem_cons_self)
  subst hsz
  have hAN : ∀ q, va_A [(h0, eE h1 h2 kn), (h1, eR hw1 hc1 hb1 a1 r1), (hw1, eW true), (hc1, eA cy f1), (hb1, eA cy g1), (h2, eR hw2 hc2 hb2 a2 r2), (hw2, eW false), (hc2, eA cy f2), (hb2, eA cy g2), (ho, eO nv sv)] s.heap.size q → N ≤ q := xA_N hD0 hN
  have hD := hD0.self (sz := s.heap.size)
  generalize hAe : va_A [(h0, eE h1 h2 kn), (h1, eR hw1 hc1 hb1 a1 r1), (hw1, eW true), (hc1, eA cy f1), (hb1, eA cy g1), (h2, eR hw2 hc2 hb2 a2 r2), (hw2, eW false), (hc2, eA cy f2), (hb2, eA cy g2), (ho, eO nv sv)] s.heap.size = A at hD hAN ⊢
  have hA : ∀ q : Nat, s.heap.size ≤ q → A q := fun q h => by rw [← hAe]; exact Or.inr h
  have hS : va_S A s.heap s.heap [] := va_S.rf
  have hP : va_P (dC, dI) xCl [(h0, eE h1 h2 kn), (h1, eR hw1 hc1 hb1 a1 r1), (hw1, eW true), (hc1, eA cy f1), (hb1, eA cy g1), (h2, eR hw2 hc2 hb2 a2 r2), (hw2, eW false), (hc2, eA cy f2), (hb2, eA cy g2), (ho, eO nv sv)] s.heap := hP
  have hl := lv_entry ([.ref h0, .int p1, .int p2, .int p3, .ref ho]) (n := 6) (Nat.le_of_ble_eq_true rfl)
  rw [lg_entry_eq]
  generalize (lg_sl ([.ref h0, .int p1, .int p2, .int p3, .ref ho]) ++ List.replicate (6 - (lg_sl ([.ref h0, .int p1, .int p2, .int p3, .ref ho])).length) Slot.unset).toArray = ls at hl ⊢
  have hl : lv_has ls 6 [(0, .ref h0), (1, .int p1), (2, .int p2), (3, .int p3), (4, .ref ho)] := hl
  refine lv_aload hx hb dL_wideMin_0 (lv_at hl 4 rfl) ?_
  refine lv_aload_n hx hb dL_wideMin_2 rfl (lv_at hl 0 rfl) ?_
  refine lv_iload_n hx hb dL_wideMin_3 rfl (lv_at hl 1 rfl) ?_
  refine lv_iload_n hx hb dL_wideMin_4 rfl (lv_at hl 2 rfl) ?_
  refine lv_iload_n hx hb dL_wideMin_5 rfl (lv_at hl 3 rfl) ?_
  have hPc := hP.sub (ws' := [(h0, eE h1 h2 kn), (h1, eR hw1 hc1 hb1 a1 r1), (hw1, eW true), (hc1, eA cy f1), (hb1, eA cy g1), (h2, eR hw2 hc2 hb2 a2 r2), (hw2, eW false), (hc2, eA cy f2), (hb2, eA cy g2)]) [0, 1, 2, 3, 4, 5, 6, 7, 8] rfl
  have hDc := hD.sub (ws' := [(h0, eE h1 h2 kn), (h1, eR hw1 hc1 hb1 a1 r1), (hw1, eW true), (hc1, eA cy f1), (hb1, eA cy g1), (h2, eR hw2 hc2 hb2 a2 r2), (hw2, eW false), (hc2, eA cy f2), (hb2, eA cy g2)]) [0, 1, 2, 3, 4, 5, 6, 7, 8] (by decide +kernel) rfl
  have hKc := hK.sub (tys' := [(cy, .long)]) [0] rfl
  have hFc := va_free (wc := [(h0, eE h1 h2 kn), (h1, eR hw1 hc1 hb1 a1 r1), (hw1, eW true), (hc1, eA cy f1), (hb1, eA cy g1), (h2, eR hw2 hc2 hb2 a2 r2), (hw2, eW false), (hc2, eA cy f2), (hb2, eA cy g2)]) hD hS hA [0, 1, 2, 3, 4, 5, 6, 7, 8] rfl
  refine vx_calli (vx_runV (As := [.int p1, .int p2, .int p3]) (rest := [.ref ho]) ⟨hx, hb, hml, hown, hts⟩ (k_X2_wideMin l hfl dC dI cy h0 h1 hw1 hc1 hb1 h2 hw2 hc2 hb2 a1 r1 f1 g1 a2 r2 f2 g2 kn s.heap.size N p1 p2 p3) (cwV 3 hts gL_wideMin_X2_wideMin rfl rfl rfl (by decide +kernel) ⟨Nat.le_of_ble_eq_true rfl, Nat.le_of_ble_eq_true rfl⟩) (xM.preV hKc hPc hDc hAN (Nat.le_trans hN hS.1) (hG.kept hS hAN) (ci := 4) (q0 := 0) rfl rfl) rfl rfl hl.1 rfl (lv_room (Nat.le_of_ble_eq_true rfl)) dL_wideMin_6 ⟨Nat.le_of_ble_eq_true rfl, Nat.le_of_ble_eq_true rfl⟩) hS (fun q _ h => hFc q h) hFc (fun q _ h => hFc q h) (fun E ce q9 u9 t H locs ht hvm hpx hbx hz hk hS hce hcv hcl => ?_) (fun r_1 u t H locs ht hvm hw hB hz hk hS => ?_)
  · have c_2 : ¬ (o_X2_wideMin a1 f1 p1 p2 p3).1 = 0 := hpx
    obtain ⟨hbe, hP1, hD1⟩ := hbx
    rw [ht] at hP1
    obtain ⟨hP, hD⟩ := va_join (wr := [(ho, eO nv sv)]) (w1 := [(h0, eE h1 h2 kn), (h1, eR hw1 hc1 hb1 a1 r1), (hw1, eW true), (hc1, eA cy f1), (hb1, eA cy g1), (h2, eR hw2 hc2 hb2 a2 r2), (hw2, eW false), (hc2, eA cy f2), (hb2, eA cy g2)]) hP hD [0, 1, 2, 3, 4, 5, 6, 7, 8] [9] rfl rfl (by decide +kernel) (by decide +kernel) hk hFc hP1 hD1
    have hP := hP.sub (ws' := [(h0, eE h1 h2 kn), (h1, eR hw1 hc1 hb1 a1 r1), (hw1, eW true), (hc1, eA cy f1), (hb1, eA cy g1), (h2, eR hw2 hc2 hb2 a2 r2), (hw2, eW false), (hc2, eA cy f2), (hb2, eA cy g2), (ho, eO nv sv)]) [1, 2, 3, 4, 5, 6, 7, 8, 9, 0] rfl
    have hD := hD.sub (ws' := [(h0, eE h1 h2 kn), (h1, eR hw1 hc1 hb1 a1 r1), (hw1, eW true), (hc1, eA cy f1), (hb1, eA cy g1), (h2, eR hw2 hc2 hb2 a2 r2), (hw2, eW false), (hc2, eA cy f2), (hb2, eA cy g2), (ho, eO nv sv)]) [1, 2, 3, 4, 5, 6, 7, 8, 9, 0] (by decide +kernel) rfl
    have hE : E = "java/lang/IndexOutOfBoundsException" := hbe.trans (by rw [show (o_X2_wideMin a1 f1 p1 p2 p3).1 = 1 from (xr_X2_wideMin _ _ _ _ _ c_2)]; rfl)
    subst hE
    refine vx_catch (own := RL) (name := "java/lang/IndexOutOfBoundsException") hown [] ⟨0, 13, 16, 19⟩ [] htab (fun z hz => absurd hz List.not_mem_nil) (by decide +kernel) (by decide +kernel) (hts (.classLink RL 19 "java/lang/IndexOutOfBoundsException") (by decide +kernel)) (va_Nw.use rfl (hG.1 (.castable "java/lang/IndexOutOfBoundsException" "java/lang/IndexOutOfBoundsException") (List.mem_of_getElem? (i := 11) rfl))) hce hcv hcl ?_
    refine lv_astore (lv' := [(5, .ref q9), (0, .ref h0), (1, .int p1), (2, .int p2), (3, .int p3), (4, .ref ho)]) hx hb dL_wideMin_16 hl (by decide +kernel) rfl (fun ls hl => ?_)
    refine lv_iconst (v := 1) hx hb dL_wideMin_18 (by decide +kernel) ?_
    have he : o_L_wideMin a1 f1 nv p1 p2 p3 = (1, a1, f1, nv) := by (rw [o_L_wideMin, if_neg c_2]) <;> rfl
    refine W.widen (k := 3) (n := 18) (by omega) (by omega) ?_
    exact W.iret (v := 1) hx hb hr (fun t ht hW => ⟨⟨_, (), rfl, (by (rw [he]) <;> rfl), (by rw [he]; exact ⟨by rw [ht]; dsimp only; exact hP, by dsimp only; exact hD⟩)⟩, hS.F ht⟩) hS.2.2 dL_wideMin_19
  · skip
    obtain ⟨c_3, hw⟩ := hw
    have c_3 : (o_X2_wideMin a1 f1 p1 p2 p3).1 = 0 := c_3
    replace hw : r_1 = (o_X2_wideMin a1 f1 p1 p2 p3).2.1 := hw
    subst r_1
    obtain ⟨hP1, hD1⟩ := hB
    rw [ht] at hP1
    obtain ⟨hP, hD⟩ := va_join (wr := [(ho, eO nv sv)]) (w1 := [(h0, eE h1 h2 kn), (h1, eR hw1 hc1 hb1 (o_X2_wideMin a1 f1 p1 p2 p3).2.2.1 r1), (hw1, eW true), (hc1, eA cy (o_X2_wideMin a1 f1 p1 p2 p3).2.2.2), (hb1, eA cy g1), (h2, eR hw2 hc2 hb2 a2 r2), (hw2, eW false), (hc2, eA cy f2), (hb2, eA cy g2)]) hP hD [0, 1, 2, 3, 4, 5, 6, 7, 8] [9] rfl rfl (by decide +kernel) (by decide +kernel) hk hFc hP1 hD1
    have hP := hP.sub (ws' := [(h0, eE h1 h2 kn), (h1, eR hw1 hc1 hb1 (o_X2_wideMin a1 f1 p1 p2 p3).2.2.1 r1), (hw1, eW true), (hc1, eA cy (o_X2_wideMin a1 f1 p1 p2 p3).2.2.2), (hb1, eA cy g1), (h2, eR hw2 hc2 hb2 a2 r2), (hw2, eW false), (hc2, eA cy f2), (hb2, eA cy g2), (ho, eO nv sv)]) [1, 2, 3, 4, 5, 6, 7, 8, 9, 0] rfl
    have hD := hD.sub (ws' := [(h0, eE h1 h2 kn), (h1, eR hw1 hc1 hb1 (o_X2_wideMin a1 f1 p1 p2 p3).2.2.1 r1), (hw1, eW true), (hc1, eA cy (o_X2_wideMin a1 f1 p1 p2 p3).2.2.2), (hb1, eA cy g1), (h2, eR hw2 hc2 hb2 a2 r2), (hw2, eW false), (hc2, eA cy f2), (hb2, eA cy g2), (ho, eO nv sv)]) [1, 2, 3, 4, 5, 6, 7, 8, 9, 0] (by decide +kernel) rfl
    refine lv_i2l (v := (((o_X2_wideMin a1 f1 p1 p2 p3).2.1).toInt64)) hx hb dL_wideMin_9 rfl ?_
    refine va_putN (D := (dC, dI)) (ci := 5) (v := .long (((o_X2_wideMin a1 f1 p1 p2 p3).2.1).toInt64)) (ty := .long) (C := RX3) (T := TX3) (N := 2) hx hb hts (by decide +kernel) tyX3 tyX3_ok nmX3 hown hK hP hD hS 9 rfl rfl 0 (by decide +kernel) (va_Nw.use rfl (hG.1 (.fieldLinkNest RL 13 "EdgefloatsLaw$Out" "n" "J" RL) (List.mem_of_getElem? (i := 6) rfl))) (fun _ h9 => h9) rfl (by decide +kernel) rfl rfl (Nat.le_of_ble_eq_true rfl) dL_wideMin_10 (fun H locs hP hD hS => ?_)
    have hP : va_P (dC, dI) xCl [(h0, eE h1 h2 kn), (h1, eR hw1 hc1 hb1 (o_X2_wideMin a1 f1 p1 p2 p3).2.2.1 r1), (hw1, eW true), (hc1, eA cy (o_X2_wideMin a1 f1 p1 p2 p3).2.2.2), (hb1, eA cy g1), (h2, eR hw2 hc2 hb2 a2 r2), (hw2, eW false), (hc2, eA cy f2), (hb2, eA cy g2), (ho, eO (((o_X2_wideMin a1 f1 p1 p2 p3).2.1).toInt64) sv)] H := hP
    have hD : va_D A [(h0, eE h1 h2 kn), (h1, eR hw1 hc1 hb1 (o_X2_wideMin a1 f1 p1 p2 p3).2.2.1 r1), (hw1, eW true), (hc1, eA cy (o_X2_wideMin a1 f1 p1 p2 p3).2.2.2), (hb1, eA cy g1), (h2, eR hw2 hc2 hb2 a2 r2), (hw2, eW false), (hc2, eA cy f2), (hb2, eA cy g2), (ho, eO (((o_X2_wideMin a1 f1 p1 p2 p3).2.1).toInt64) sv)] := hD
    refine lv_goto (tgt := 20) hx hb dL_wideMin_13 (by decide +kernel) ?_
    refine lv_iconst (v := 0) hx hb dL_wideMin_20 (by decide +kernel) ?_
    have he : o_L_wideMin a1 f1 nv p1 p2 p3 = (0, (o_X2_wideMin a1 f1 p1 p2 p3).2.2.1, (o_X2_wideMin a1 f1 p1 p2 p3).2.2.2, (((o_X2_wideMin a1 f1 p1 p2 p3).2.1).toInt64)) := by (rw [o_L_wideMin, if_pos c_3]) <;> rfl
    refine W.widen (k := 3) (n := 18) (by omega) (by omega) ?_
    exact W.iret (v := 0) hx hb hr (fun t ht hW => ⟨⟨_, (), rfl, (by (rw [he]) <;> rfl), (by rw [he]; exact ⟨by rw [ht]; dsimp only; exact hP, by dsimp only; exact hD⟩)⟩, hS.F ht⟩) hS.2.2 dL_wideMin_21
theorem cl_L_wideSum_1 : ∀ w ∈ wsL_wideSum_r1, w ∈ wsL_wideSum := fun _ h => (List.mem_cons_of_mem _ (List.mem_append_left _ (List.mem_append_left _ (List.mem_append_left _ (List.mem_append_left _ (List.mem_append_left _ (List.mem_append_left _ h)))))))
theorem cl_L_wideSum_2 : ∀ w ∈ wsL_wideSum_r2, w ∈ wsL_wideSum := fun _ h => (List.mem_cons_of_mem _ (List.mem_append_left _ (List.mem_append_left _ (List.mem_append_left _ (List.mem_append_left _ (List.mem_append_left _ (List.mem_append_right _ (List.mem_append_left _ h))))))))
theorem cl_L_wideSum_3 : ∀ w ∈ wsL_wideSum_r3, w ∈ wsL_wideSum := fun _ h => (List.mem_cons_of_mem _ (List.mem_append_left _ (List.mem_append_left _ (List.mem_append_left _ (List.mem_append_left _ (List.mem_append_left _ (List.mem_append_right _ (List.mem_append_right _ (List.mem_append_left _ h)))))))))
theorem cl_L_wideSum_4 : ∀ w ∈ wsL_wideSum_r4, w ∈ wsL_wideSum := fun _ h => (List.mem_cons_of_mem _ (List.mem_append_left _ (List.mem_append_left _ (List.mem_append_left _ (List.mem_append_left _ (List.mem_append_left _ (List.mem_append_right _ (List.mem_append_right _ (List.mem_append_right _ h)))))))))
theorem cl_L_wideSum_5 : ∀ w ∈ wsX30, w ∈ wsL_wideSum := fun _ h => (List.mem_cons_of_mem _ (List.mem_append_left _ (List.mem_append_left _ (List.mem_append_left _ (List.mem_append_left _ (List.mem_append_right _ h))))))
theorem cl_L_wideSum_6 : ∀ w ∈ wsX20, w ∈ wsL_wideSum := fun _ h => (List.mem_cons_of_mem _ (List.mem_append_left _ (List.mem_append_left _ (List.mem_append_left _ (List.mem_append_right _ h)))))
theorem cl_L_wideSum_7 : ∀ w ∈ wsX00, w ∈ wsL_wideSum := fun _ h => (List.mem_cons_of_mem _ (List.mem_append_left _ (List.mem_append_left _ (List.mem_append_right _ h))))
theorem cl_L_wideSum_8 : ∀ w ∈ wsX10, w ∈ wsL_wideSum := fun _ h => (List.mem_cons_of_mem _ (List.mem_append_left _ (List.mem_append_right _ h)))
theorem cl_L_wideSum_9 : ∀ w ∈ (vx_atS RX2 152 "java/lang/IndexOutOfBoundsException" ["java/lang/RuntimeException", "java/lang/Exception"]).filter goodWord, w ∈ wsL_wideSum := fun _ h => (List.mem_cons_of_mem _ (List.mem_append_right _ h))
set_option maxRecDepth 20000 in
theorem ggL_wideSum_X2_wideSum : GoodIn wsL_wideSum wsX2_wideSum := goodIn_sub (List.forall_mem_cons.mpr ⟨(cl_L_wideSum_1 _ (List.mem_of_getElem? (i := 5) rfl)), fun w h => (List.mem_append.mp h).elim ((fun w h => (List.mem_append.mp h).elim ((fun w h => (List.mem_append.mp h).elim ((fun w h => (List.mem_append.mp h).elim ((fun w h => (List.mem_append.mp h).elim ((List.forall_mem_cons.mpr ⟨(cl_L_wideSum_1 _ (List.mem_of_getElem? (i := 6) rfl)), List.forall_mem_cons.mpr ⟨(cl_L_wideSum_1 _ (List.mem_of_getElem? (i := 7) rfl)), List.forall_mem_cons.mpr ⟨(cl_L_wideSum_1 _ (List.mem_of_getElem? (i := 8) rfl)), List.forall_mem_cons.mpr ⟨(cl_L_wideSum_1 _ (List.mem_of_getElem? (i := 9) rfl)), List.forall_mem_cons.mpr ⟨(cl_L_wideSum_1 _ (List.mem_of_getElem? (i := 10) rfl)), List.forall_mem_cons.mpr ⟨(cl_L_wideSum_1 _ (List.mem_of_getElem? (i := 11) rfl)), List.forall_mem_cons.mpr ⟨(cl_L_wideSum_1 _ (List.mem_of_getElem? (i := 12) rfl)), List.forall_mem_cons.mpr ⟨(cl_L_wideSum_1 _ (List.mem_of_getElem? (i := 13) rfl)), List.forall_mem_cons.mpr ⟨(cl_L_wideSum_1 _ (List.mem_of_getElem? (i := 14) rfl)), List.forall_mem_cons.mpr ⟨(cl_L_wideSum_1 _ (List.mem_of_getElem? (i := 15) rfl)), List.forall_mem_cons.mpr ⟨(cl_L_wideSum_1 _ (List.mem_of_getElem? (i := 16) rfl)), List.forall_mem_cons.mpr ⟨(cl_L_wideSum_1 _ (List.mem_of_getElem? (i := 17) rfl)), List.forall_mem_cons.mpr ⟨(cl_L_wideSum_1 _ (List.mem_of_getElem? (i := 4) rfl)), List.forall_mem_cons.mpr ⟨(cl_L_wideSum_1 _ (List.mem_of_getElem? (i := 18) rfl)), List.forall_mem_cons.mpr ⟨(cl_L_wideSum_1 _ (List.mem_of_getElem? (i := 19) rfl)), List.forall_mem_cons.mpr ⟨(cl_L_wideSum_1 _ (List.mem_of_getElem? (i := 20) rfl)), List.forall_mem_cons.mpr ⟨(cl_L_wideSum_1 _ (List.mem_of_getElem? (i := 21) rfl)), List.forall_mem_cons.mpr ⟨(cl_L_wideSum_1 _ (List.mem_of_getElem? (i := 22) rfl)), List.forall_mem_cons.mpr ⟨(cl_L_wideSum_1 _ (List.mem_of_getElem? (i := 23) rfl)), List.forall_mem_cons.mpr ⟨(cl_L_wideSum_2 _ (List.mem_of_getElem? (i := 0) rfl)), List.forall_mem_cons.mpr ⟨(cl_L_wideSum_2 _ (List.mem_of_getElem? (i := 1) rfl)), List.forall_mem_cons.mpr ⟨(cl_L_wideSum_2 _ (List.mem_of_getElem? (i := 2) rfl)), List.forall_mem_cons.mpr ⟨(cl_L_wideSum_2 _ (List.mem_of_getElem? (i := 3) rfl)), List.forall_mem_cons.mpr ⟨(cl_L_wideSum_2 _ (List.mem_of_getElem? (i := 4) rfl)), fun _ h => absurd h List.not_mem_nil⟩⟩⟩⟩⟩⟩⟩⟩⟩⟩⟩⟩⟩⟩⟩⟩⟩⟩⟩⟩⟩⟩⟩⟩) w) ((fun w h => (List.mem_append.mp h).elim ((List.forall_mem_cons.mpr ⟨(cl_L_wideSum_2 _ (List.mem_of_getElem? (i := 5) rfl)), List.forall_mem_cons.mpr ⟨(cl_L_wideSum_2 _ (List.mem_of_getElem? (i := 6) rfl)), List.forall_mem_cons.mpr ⟨(cl_L_wideSum_2 _ (List.mem_of_getElem? (i := 7) rfl)), List.forall_mem_cons.mpr ⟨(cl_L_wideSum_2 _ (List.mem_of_getElem? (i := 8) rfl)), List.forall_mem_cons.mpr ⟨(cl_L_wideSum_2 _ (List.mem_of_getElem? (i := 9) rfl)), List.forall_mem_cons.mpr ⟨(cl_L_wideSum_2 _ (List.mem_of_getElem? (i := 10) rfl)), List.forall_mem_cons.mpr ⟨(cl_L_wideSum_2 _ (List.mem_of_getElem? (i := 11) rfl)), List.forall_mem_cons.mpr ⟨(cl_L_wideSum_2 _ (List.mem_of_getElem? (i := 12) rfl)), List.forall_mem_cons.mpr ⟨(cl_L_wideSum_2 _ (List.mem_of_getElem? (i := 13) rfl)), List.forall_mem_cons.mpr ⟨(cl_L_wideSum_2 _ (List.mem_of_getElem? (i := 14) rfl)), List.forall_mem_cons.mpr ⟨(cl_L_wideSum_2 _ (List.mem_of_getElem? (i := 15) rfl)), List.forall_mem_cons.mpr ⟨(cl_L_wideSum_2 _ (List.mem_of_getElem? (i := 16) rfl)), List.forall_mem_cons.mpr ⟨(cl_L_wideSum_2 _ (List.mem_of_getElem? (i := 17) rfl)), List.forall_mem_cons.mpr ⟨(cl_L_wideSum_2 _ (List.mem_of_getElem? (i := 18) rfl)), List.forall_mem_cons.mpr ⟨(cl_L_wideSum_2 _ (List.mem_of_getElem? (i := 19) rfl)), List.forall_mem_cons.mpr ⟨(cl_L_wideSum_2 _ (List.mem_of_getElem? (i := 20) rfl)), List.forall_mem_cons.mpr ⟨(cl_L_wideSum_2 _ (List.mem_of_getElem? (i := 21) rfl)), List.forall_mem_cons.mpr ⟨(cl_L_wideSum_2 _ (List.mem_of_getElem? (i := 22) rfl)), List.forall_mem_cons.mpr ⟨(cl_L_wideSum_2 _ (List.mem_of_getElem? (i := 23) rfl)), List.forall_mem_cons.mpr ⟨(cl_L_wideSum_3 _ (List.mem_of_getElem? (i := 0) rfl)), List.forall_mem_cons.mpr ⟨(cl_L_wideSum_3 _ (List.mem_of_getElem? (i := 1) rfl)), List.forall_mem_cons.mpr ⟨(cl_L_wideSum_3 _ (List.mem_of_getElem? (i := 2) rfl)), List.forall_mem_cons.mpr ⟨(cl_L_wideSum_3 _ (List.mem_of_getElem? (i := 3) rfl)), List.forall_mem_cons.mpr ⟨(cl_L_wideSum_3 _ (List.mem_of_getElem? (i := 4) rfl)), fun _ h => absurd h List.not_mem_nil⟩⟩⟩⟩⟩⟩⟩⟩⟩⟩⟩⟩⟩⟩⟩⟩⟩⟩⟩⟩⟩⟩⟩⟩) w) ((fun w h => (List.mem_append.mp h).elim ((List.forall_mem_cons.mpr ⟨(cl_L_wideSum_3 _ (List.mem_of_getElem? (i := 5) rfl)), List.forall_mem_cons.mpr ⟨(cl_L_wideSum_3 _ (List.mem_of_getElem? (i := 6) rfl)), List.forall_mem_cons.mpr ⟨(cl_L_wideSum_3 _ (List.mem_of_getElem? (i := 7) rfl)), List.forall_mem_cons.mpr ⟨(cl_L_wideSum_3 _ (List.mem_of_getElem? (i := 8) rfl)), List.forall_mem_cons.mpr ⟨(cl_L_wideSum_3 _ (List.mem_of_getElem? (i := 9) rfl)), List.forall_mem_cons.mpr ⟨(cl_L_wideSum_3 _ (List.mem_of_getElem? (i := 10) rfl)), List.forall_mem_cons.mpr ⟨(cl_L_wideSum_3 _ (List.mem_of_getElem? (i := 11) rfl)), List.forall_mem_cons.mpr ⟨(cl_L_wideSum_3 _ (List.mem_of_getElem? (i := 12) rfl)), List.forall_mem_cons.mpr ⟨(cl_L_wideSum_3 _ (List.mem_of_getElem? (i := 13) rfl)), List.forall_mem_cons.mpr ⟨(cl_L_wideSum_3 _ (List.mem_of_getElem? (i := 14) rfl)), List.forall_mem_cons.mpr ⟨(cl_L_wideSum_3 _ (List.mem_of_getElem? (i := 15) rfl)), List.forall_mem_cons.mpr ⟨(cl_L_wideSum_3 _ (List.mem_of_getElem? (i := 16) rfl)), List.forall_mem_cons.mpr ⟨(cl_L_wideSum_3 _ (List.mem_of_getElem? (i := 17) rfl)), List.forall_mem_cons.mpr ⟨(cl_L_wideSum_3 _ (List.mem_of_getElem? (i := 18) rfl)), List.forall_mem_cons.mpr ⟨(cl_L_wideSum_3 _ (List.mem_of_getElem? (i := 19) rfl)), List.forall_mem_cons.mpr ⟨(cl_L_wideSum_3 _ (List.mem_of_getElem? (i := 20) rfl)), List.forall_mem_cons.mpr ⟨(cl_L_wideSum_3 _ (List.mem_of_getElem? (i := 21) rfl)), List.forall_mem_cons.mpr ⟨(cl_L_wideSum_3 _ (List.mem_of_getElem? (i := 22) rfl)), List.forall_mem_cons.mpr ⟨(cl_L_wideSum_3 _ (List.mem_of_getElem? (i := 23) rfl)), List.forall_mem_cons.mpr ⟨(cl_L_wideSum_4 _ (List.mem_of_getElem? (i := 0) rfl)), List.forall_mem_cons.mpr ⟨(cl_L_wideSum_4 _ (List.mem_of_getElem? (i := 1) rfl)), List.forall_mem_cons.mpr ⟨(cl_L_wideSum_4 _ (List.mem_of_getElem? (i := 2) rfl)), List.forall_mem_cons.mpr ⟨(cl_L_wideSum_4 _ (List.mem_of_getElem? (i := 3) rfl)), List.forall_mem_cons.mpr ⟨(cl_L_wideSum_4 _ (List.mem_of_getElem? (i := 4) rfl)), fun _ h => absurd h List.not_mem_nil⟩⟩⟩⟩⟩⟩⟩⟩⟩⟩⟩⟩⟩⟩⟩⟩⟩⟩⟩⟩⟩⟩⟩⟩) w) ((List.forall_mem_cons.mpr ⟨(cl_L_wideSum_4 _ (List.mem_of_getElem? (i := 5) rfl)), List.forall_mem_cons.mpr ⟨(cl_L_wideSum_4 _ (List.mem_of_getElem? (i := 6) rfl)), List.forall_mem_cons.mpr ⟨(cl_L_wideSum_4 _ (List.mem_of_getElem? (i := 7) rfl)), List.forall_mem_cons.mpr ⟨(cl_L_wideSum_4 _ (List.mem_of_getElem? (i := 8) rfl)), List.forall_mem_cons.mpr ⟨(cl_L_wideSum_4 _ (List.mem_of_getElem? (i := 9) rfl)), List.forall_mem_cons.mpr ⟨(cl_L_wideSum_4 _ (List.mem_of_getElem? (i := 10) rfl)), List.forall_mem_cons.mpr ⟨(cl_L_wideSum_4 _ (List.mem_of_getElem? (i := 11) rfl)), fun _ h => absurd h List.not_mem_nil⟩⟩⟩⟩⟩⟩⟩) w)) w)) w)) w) ((cl_L_wideSum_6) w)) w) ((cl_L_wideSum_7) w)) w) ((cl_L_wideSum_8) w)) w) ((cl_L_wideSum_9) w)⟩) (by decide +kernel)
set_option maxRecDepth 20000 in
theorem gL_wideSum_X2_wideSum : GoodIn wsL_wideSum (wsV RL 42 RX2 yX2_wideSum wsX2_wideSum) := goodIn_app (goodIn_sub (List.forall_mem_cons.mpr ⟨(cl_L_wideSum_1 _ (List.mem_of_getElem? (i := 1) rfl)), List.forall_mem_cons.mpr ⟨(cl_L_wideSum_1 _ (List.mem_of_getElem? (i := 2) rfl)), List.forall_mem_cons.mpr ⟨(cl_L_wideSum_1 _ (List.mem_of_getElem? (i := 3) rfl)), List.forall_mem_cons.mpr ⟨(cl_L_wideSum_1 _ (List.mem_of_getElem? (i := 4) rfl)), fun _ h => absurd h List.not_mem_nil⟩⟩⟩⟩) (by decide +kernel)) ggL_wideSum_X2_wideSum
noncomputable def dz_p16_8 : List (Nat × Instr × Nat) := [(0, (.aload 4, 2)), (2, (.aload_n 0, 1)), (3, (.iload_n 1, 1)), (4, (.iload_n 2, 1)), (5, (.iload_n 3, 1)), (6, (.invokevirtual 42, 3)), (9, (.i2l, 1)), (10, (.putfield 13, 3)), (13, (.goto 7, 3)), (16, (.astore 5, 2)), (18, (.iconst 1, 1)), (19, (.ireturn, 1)), (20, (.iconst 0, 1)), (21, (.ireturn, 1))]
theorem dy_p16_8 : dz_ok cL_wideSum dz_p16_8 = true := by decide +kernel
theorem dL_wideSum_0 : decode cL_wideSum 0 = .ok (.aload 4, 2) := dz_at (i := 0) dy_p16_8 rfl
theorem dL_wideSum_2 : decode cL_wideSum 2 = .ok (.aload_n 0, 1) := dz_at (i := 1) dy_p16_8 rfl
theorem dL_wideSum_3 : decode cL_wideSum 3 = .ok (.iload_n 1, 1) := dz_at (i := 2) dy_p16_8 rfl
theorem dL_wideSum_4 : decode cL_wideSum 4 = .ok (.iload_n 2, 1) := dz_at (i := 3) dy_p16_8 rfl
theorem dL_wideSum_5 : decode cL_wideSum 5 = .ok (.iload_n 3, 1) := dz_at (i := 4) dy_p16_8 rfl
theorem dL_wideSum_6 : decode cL_wideSum 6 = .ok (.invokevirtual 42, 3) := dz_at (i := 5) dy_p16_8 rfl
theorem dL_wideSum_9 : decode cL_wideSum 9 = .ok (.i2l, 1) := dz_at (i := 6) dy_p16_8 rfl
theorem dL_wideSum_10 : decode cL_wideSum 10 = .ok (.putfield 13, 3) := dz_at (i := 7) dy_p16_8 rfl
theorem dL_wideSum_13 : decode cL_wideSum 13 = .ok (.goto 7, 3) := dz_at (i := 8) dy_p16_8 rfl
theorem dL_wideSum_16 : decode cL_wideSum 16 = .ok (.astore 5, 2) := dz_at (i := 9) dy_p16_8 rfl
theorem dL_wideSum_18 : decode cL_wideSum 18 = .ok (.iconst 1, 1) := dz_at (i := 10) dy_p16_8 rfl
theorem dL_wideSum_19 : decode cL_wideSum 19 = .ok (.ireturn, 1) := dz_at (i := 11) dy_p16_8 rfl
theorem dL_wideSum_20 : decode cL_wideSum 20 = .ok (.iconst 0, 1) := dz_at (i := 12) dy_p16_8 rfl
theorem dL_wideSum_21 : decode cL_wideSum 21 = .ok (.ireturn, 1) := dz_at (i := 13) dy_p16_8 rfl
noncomputable def o_L_wideSum (a1 : Int32) (r1 : Int32) (f1 : Nat → Int64) (nv : Int64) (p1 : Int32) (p2 : Int32) (p3 : Int32) : Int32 × Int32 × Int32 × (Nat → Int64) × Int64 :=
  if (o_X2_wideSum a1 r1 f1 p1 p2 p3).1 = 0 then (0, (o_X2_wideSum a1 r1 f1 p1 p2 p3).2.2.1, (o_X2_wideSum a1 r1 f1 p1 p2 p3).2.2.2.1, (o_X2_wideSum a1 r1 f1 p1 p2 p3).2.2.2.2, (((o_X2_wideSum a1 r1 f1 p1 p2 p3).2.1).toInt64))
  else (1, a1, r1, f1, nv)
set_option maxHeartbeats 4000000 in
set_option maxRecDepth 100000 in
theorem k_L_wideSum (l : Launch) (hfl : l.flags = flags0) (dC : Nat → ClassId) (dI : Nat → Nat → Nat) (cy : ClassId) (h0 : Nat) (h1 : Nat) (hw1 : Nat) (hc1 : Nat) (hb1 : Nat) (h2 : Nat) (hw2 : Nat) (hc2 : Nat) (hb2 : Nat) (a1 : Int32) (r1 : Int32) (f1 : Nat → Int64) (g1 : Nat → Int64) (a2 : Int32) (r2 : Int32) (f2 : Nat → Int64) (g2 : Nat → Int64) (kn : Int32) (ho : Nat) (nv : Int64) (sv : Value) (sz : Nat) (N : Nat) (p1 : Int32) (p2 : Int32) (p3 : Int32) : Met l yL_wideSum wsL_wideSum ({ frames := 10, cells := 3, slots := 18, locals := 188 }) (va_Pc [.ref h0, .int p1, .int p2, .int p3, .ref ho] (xL (dC, dI) xCl [(h0, eE h1 h2 kn), (h1, eR hw1 hc1 hb1 a1 r1), (hw1, eW true), (hc1, eA cy f1), (hb1, eA cy g1), (h2, eR hw2 hc2 hb2 a2 r2), (hw2, eW false), (hc2, eA cy f2), (hb2, eA cy g2), (ho, eO nv sv)] [(cy, .long)] sz N)) (va_Qi (fun (r : Int32) (_ : Unit) => r = (o_L_wideSum a1 r1 f1 nv p1 p2 p3).1) (fun _ t => xW (dC, dI) xCl [(h0, eE h1 h2 kn), (h1, eR hw1 hc1 hb1 (o_L_wideSum a1 r1 f1 nv p1 p2 p3).2.1 (o_L_wideSum a1 r1 f1 nv p1 p2 p3).2.2.1), (hw1, eW true), (hc1, eA cy (o_L_wideSum a1 r1 f1 nv p1 p2 p3).2.2.2.1), (hb1, eA cy g1), (h2, eR hw2 hc2 hb2 a2 r2), (hw2, eW false), (hc2, eA cy f2), (hb2, eA cy g2), (ho, eO (o_L_wideSum a1 r1 f1 nv p1 p2 p3).2.2.2.2 sv)] (va_A [(h0, eE h1 h2 kn), (h1, eR hw1 hc1 hb1 a1 r1), (hw1, eW true), (hc1, eA cy f1), (hb1, eA cy g1), (h2, eR hw2 hc2 hb2 a2 r2), (hw2, eW false), (hc2, eA cy f2), (hb2, eA cy g2), (ho, eO nv sv)] sz) t) (va_A [(h0, eE h1 h2 kn), (h1, eR hw1 hc1 hb1 a1 r1), (hw1, eW true), (hc1, eA cy f1), (hb1, eA cy g1), (h2, eR hw2 hc2 hb2 a2 r2), (hw2, eW false), (hc2, eA cy f2), (hb2, eA cy g2), (ho, eO nv sv)] sz)) 3 18 (va_A [(h0, eE h1 h2 kn), (h1, eR hw1 hc1 hb1 a1 r1), (hw1, eW true), (hc1, eA cy f1), (hb1, eA cy g1), (h2, eR hw2 hc2 hb2 a2 r2), (hw2, eW false), (hc2, eA cy f2), (hb2, eA cy g2), (ho, eO nv sv)] sz) := by
  refine va_MetW (cc := cL_wideSum) (maxL := 6) (ret := (some .int)) (by decide +kernel) rfl ?_
  intro p e s m args below meth c s₁ B hml hv
  obtain ⟨rfl, ⟨hsz, hP, hK, hD0, hN, hG⟩, hnc⟩ := hv
  have hx := B.exec
  have hb := B.bytes
  have hr := B.returns
  have hts := atoms_spec (ws := wsL_wideSum) B.pre
  have hown : s.vm.findClass RL = some m.cls := findClass_of_methodNamed B.named
  have hlocks := B.notSynchronized
  have htab := vx_table (x := yL_wideSum) B (hts _ List.mem_cons_self)
  subst hsz
  have hAN : ∀ q, va_A [(h0, eE h1 h2 kn), (h1, eR hw1 hc1 hb1 a1 r1), (hw1, eW true), (hc1, eA cy f1), (hb1, eA cy g1), (h2, eR hw2 hc2 hb2 a2 r2), (hw2, eW false), (hc2, eA cy f2), (hb2, eA cy g2), (ho, eO nv sv)] s.heap.size q → N ≤ q := xA_N hD0 hN
  have hD := hD0.self (sz := s.heap.size)
  generalize hAe : va_A [(h0, eE h1 h2 kn), (h1, eR hw1 hc1 hb1 a1 r1), (hw1, eW true), (hc1, eA cy f1), (hb1, eA cy g1), (h2, eR hw2 hc2 hb2 a2 r2), (hw2, eW false), (hc2, eA cy f2), (hb2, eA cy g2), (ho, eO nv sv)] s.heap.size = A at hD hAN ⊢
  have hA : ∀ q : Nat, s.heap.size ≤ q → A q := fun q h => by rw [← hAe]; exact Or.inr h
  have hS : va_S A s.heap s.heap [] := va_S.rf
  have hP : va_P (dC, dI) xCl [(h0, eE h1 h2 kn), (h1, eR hw1 hc1 hb1 a1 r1), (hw1, eW true), (hc1, eA cy f1), (hb1, eA cy g1), (h2, eR hw2 hc2 hb2 a2 r2), (hw2, eW false), (hc2, eA cy f2), (hb2, eA cy g2), (ho, eO nv sv)] s.heap := hP
  have hl := lv_entry ([.ref h0, .int p1, .int p2, .int p3, .ref ho]) (n := 6) (Nat.le_of_ble_eq_true rfl)
  rw [lg_entry_eq]
  generalize (lg_sl ([.ref h0, .int p1, .int p2, .int p3, .ref ho]) ++ List.replicate (6 - (lg_sl ([.ref h0, .int p1, .int p2, .int p3, .ref ho])).length) Slot.unset).toArray = ls at hl ⊢
  have hl : lv_has ls 6 [(0, .ref h0), (1, .int p1), (2, .int p2), (3, .int p3), (4, .ref ho)] := hl
  refine lv_aload hx hb dL_wideSum_0 (lv_at hl 4 rfl) ?_
  refine lv_aload_n hx hb dL_wideSum_2 rfl (lv_at hl 0 rfl) ?_
  refine lv_iload_n hx hb dL_wideSum_3 rfl (lv_at hl 1 rfl) ?_
  refine lv_iload_n hx hb dL_wideSum_4 rfl (lv_at hl 2 rfl) ?_
  refine lv_iload_n hx hb dL_wideSum_5 rfl (lv_at hl 3 rfl) ?_
  have hPc := hP.sub (ws' := [(h0, eE h1 h2 kn), (h1, eR hw1 hc1 hb1 a1 r1), (hw1, eW true), (hc1, eA cy f1), (hb1, eA cy g1), (h2, eR hw2 hc2 hb2 a2 r2), (hw2, eW false), (hc2, eA cy f2), (hb2, eA cy g2)]) [0, 1, 2, 3, 4, 5, 6, 7, 8] rfl
  have hDc := hD.sub (ws' := [(h0, eE h1 h2 kn), (h1, eR hw1 hc1 hb1 a1 r1), (hw1, eW true), (hc1, eA cy f1), (hb1, eA cy g1), (h2, eR hw2 hc2 hb2 a2 r2), (hw2, eW false), (hc2, eA cy f2), (hb2, eA cy g2)]) [0, 1, 2, 3, 4, 5, 6, 7, 8] (by decide +kernel) rfl
  have hKc := hK.sub (tys' := [(cy, .long)]) [0] rfl
  have hFc := va_free (wc := [(h0, eE h1 h2 kn), (h1, eR hw1 hc1 hb1 a1 r1), (hw1, eW true), (hc1, eA cy f1), (hb1, eA cy g1), (h2, eR hw2 hc2 hb2 a2 r2), (hw2, eW false), (hc2, eA cy f2), (hb2, eA cy g2)]) hD hS hA [0, 1, 2, 3, 4, 5, 6, 7, 8] rfl
  refine vx_calli (vx_runV (As := [.int p1, .int p2, .int p3]) (rest := [.ref ho]) ⟨hx, hb, hml, hown, hts⟩ (k_X2_wideSum l hfl dC dI cy h0 h1 hw1 hc1 hb1 h2 hw2 hc2 hb2 a1 r1 f1 g1 a2 r2 f2 g2 kn s.heap.size N p1 p2 p3) (cwV 3 hts gL_wideSum_X2_wideSum rfl rfl rfl (by decide +kernel) ⟨Nat.le_of_ble_eq_true rfl, Nat.le_of_ble_eq_true rfl⟩) (xM.preV hKc hPc hDc hAN (Nat.le_trans hN hS.1) (hG.kept hS hAN) (ci := 4) (q0 := 0) rfl rfl) rfl rfl hl.1 rfl (lv_room (Nat.le_of_ble_eq_true rfl)) dL_wideSum_6 ⟨Nat.le_of_ble_eq_true rfl, Nat.le_of_ble_eq_true rfl⟩) hS (fun q _ h => hFc q h) hFc (fun q _ h => hFc q h) (fun E ce q9 u9 t H locs ht hvm hpx hbx hz hk hS hce hcv hcl => ?_) (fun r_1 u t H locs ht hvm hw hB hz hk hS => ?_)
  · have c_2 : ¬ (o_X2_wideSum a1 r1 f1 p1 p2 p3).1 = 0 := hpx
    obtain ⟨hbe, hP1, hD1⟩ := hbx
    rw [ht] at hP1
    obtain ⟨hP, hD⟩ := va_join (wr := [(ho, eO nv sv)]) (w1 := [(h0, eE h1 h2 kn), (h1, eR hw1 hc1 hb1 a1 r1), (hw1, eW true), (hc1, eA cy f1), (hb1, eA cy g1), (h2, eR hw2 hc2 hb2 a2 r2), (hw2, eW false), (hc2, eA cy f2), (hb2, eA cy g2)]) hP hD [0, 1, 2, 3, 4, 5, 6, 7, 8] [9] rfl rfl (by decide +kernel) (by decide +kernel) hk hFc hP1 hD1
    have hP := hP.sub (ws' := [(h0, eE h1 h2 kn), (h1, eR hw1 hc1 hb1 a1 r1), (hw1, eW true), (hc1, eA cy f1), (hb1, eA cy g1), (h2, eR hw2 hc2 hb2 a2 r2), (hw2, eW false), (hc2, eA cy f2), (hb2, eA cy g2), (ho, eO nv sv)]) [1, 2, 3, 4, 5, 6, 7, 8, 9, 0] rfl
    have hD := hD.sub (ws' := [(h0, eE h1 h2 kn), (h1, eR hw1 hc1 hb1 a1 r1), (hw1, eW true), (hc1, eA cy f1), (hb1, eA cy g1), (h2, eR hw2 hc2 hb2 a2 r2), (hw2, eW false), (hc2, eA cy f2), (hb2, eA cy g2), (ho, eO nv sv)]) [1, 2, 3, 4, 5, 6, 7, 8, 9, 0] (by decide +kernel) rfl
    have hE : E = "java/lang/IndexOutOfBoundsException" := hbe.trans (by rw [show (o_X2_wideSum a1 r1 f1 p1 p2 p3).1 = 1 from (xr_X2_wideSum _ _ _ _ _ _ c_2)]; rfl)
    subst hE
    refine vx_catch (own := RL) (name := "java/lang/IndexOutOfBoundsException") hown [] ⟨0, 13, 16, 19⟩ [] htab (fun z hz => absurd hz List.not_mem_nil) (by decide +kernel) (by decide +kernel) (hts (.classLink RL 19 "java/lang/IndexOutOfBoundsException") (by decide +kernel)) (va_Nw.use rfl (hG.1 (.castable "java/lang/IndexOutOfBoundsException" "java/lang/IndexOutOfBoundsException") (List.mem_of_getElem? (i := 11) rfl))) hce hcv hcl ?_
    refine lv_astore (lv' := [(5, .ref q9), (0, .ref h0), (1, .int p1), (2, .int p2), (3, .int p3), (4, .ref ho)]) hx hb dL_wideSum_16 hl (by decide +kernel) rfl (fun ls hl => ?_)
    refine lv_iconst (v := 1) hx hb dL_wideSum_18 (by decide +kernel) ?_
    have he : o_L_wideSum a1 r1 f1 nv p1 p2 p3 = (1, a1, r1, f1, nv) := by (rw [o_L_wideSum, if_neg c_2]) <;> rfl
    refine W.widen (k := 3) (n := 18) (by omega) (by omega) ?_
    exact W.iret (v := 1) hx hb hr (fun t ht hW => ⟨⟨_, (), rfl, (by (rw [he]) <;> rfl), (by rw [he]; exact ⟨by rw [ht]; dsimp only; exact hP, by dsimp only; exact hD⟩)⟩, hS.F ht⟩) hS.2.2 dL_wideSum_19
  · skip
    obtain ⟨c_3, hw⟩ := hw
    have c_3 : (o_X2_wideSum a1 r1 f1 p1 p2 p3).1 = 0 := c_3
    replace hw : r_1 = (o_X2_wideSum a1 r1 f1 p1 p2 p3).2.1 := hw
    subst r_1
    obtain ⟨hP1, hD1⟩ := hB
    rw [ht] at hP1
    obtain ⟨hP, hD⟩ := va_join (wr := [(ho, eO nv sv)]) (w1 := [(h0, eE h1 h2 kn), (h1, eR hw1 hc1 hb1 (o_X2_wideSum a1 r1 f1 p1 p2 p3).2.2.1 (o_X2_wideSum a1 r1 f1 p1 p2 p3).2.2.2.1), (hw1, eW true), (hc1, eA cy (o_X2_wideSum a1 r1 f1 p1 p2 p3).2.2.2.2), (hb1, eA cy g1), (h2, eR hw2 hc2 hb2 a2 r2), (hw2, eW false), (hc2, eA cy f2), (hb2, eA cy g2)]) hP hD [0, 1, 2, 3, 4, 5, 6, 7, 8] [9] rfl rfl (by decide +kernel) (by decide +kernel) hk hFc hP1 hD1
    have hP := hP.sub (ws' := [(h0, eE h1 h2 kn), (h1, eR hw1 hc1 hb1 (o_X2_wideSum a1 r1 f1 p1 p2 p3).2.2.1 (o_X2_wideSum a1 r1 f1 p1 p2 p3).2.2.2.1), (hw1, eW true), (hc1, eA cy (o_X2_wideSum a1 r1 f1 p1 p2 p3).2.2.2.2), (hb1, eA cy g1), (h2, eR hw2 hc2 hb2 a2 r2), (hw2, eW false), (hc2, eA cy f2), (hb2, eA cy g2), (ho, eO nv sv)]) [1, 2, 3, 4, 5, 6, 7, 8, 9, 0] rfl
    have hD := hD.sub (ws' := [(h0, eE h1 h2 kn), (h1, eR hw1 hc1 hb1 (o_X2_wideSum a1 r1 f1 p1 p2 p3).2.2.1 (o_X2_wideSum a1 r1 f1 p1 p2 p3).2.2.2.1), (hw1, eW true), (hc1, eA cy (o_X2_wideSum a1 r1 f1 p1 p2 p3).2.2.2.2), (hb1, eA cy g1), (h2, eR hw2 hc2 hb2 a2 r2), (hw2, eW false), (hc2, eA cy f2), (hb2, eA cy g2), (ho, eO nv sv)]) [1, 2, 3, 4, 5, 6, 7, 8, 9, 0] (by decide +kernel) rfl
    refine lv_i2l (v := (((o_X2_wideSum a1 r1 f1 p1 p2 p3).2.1).toInt64)) hx hb dL_wideSum_9 rfl ?_
    refine va_putN (D := (dC, dI)) (ci := 5) (v := .long (((o_X2_wideSum a1 r1 f1 p1 p2 p3).2.1).toInt64)) (ty := .long) (C := RX3) (T := TX3) (N := 2) hx hb hts (by decide +kernel) tyX3 tyX3_ok nmX3 hown hK hP hD hS 9 rfl rfl 0 (by decide +kernel) (va_Nw.use rfl (hG.1 (.fieldLinkNest RL 13 "EdgefloatsLaw$Out" "n" "J" RL) (List.mem_of_getElem? (i := 6) rfl))) (fun _ h9 => h9) rfl (by decide +kernel) rfl rfl (Nat.le_of_ble_eq_true rfl) dL_wideSum_10 (fun H locs hP hD hS => ?_)
    have hP : va_P (dC, dI) xCl [(h0, eE h1 h2 kn), (h1, eR hw1 hc1 hb1 (o_X2_wideSum a1 r1 f1 p1 p2 p3).2.2.1 (o_X2_wideSum a1 r1 f1 p1 p2 p3).2.2.2.1), (hw1, eW true), (hc1, eA cy (o_X2_wideSum a1 r1 f1 p1 p2 p3).2.2.2.2), (hb1, eA cy g1), (h2, eR hw2 hc2 hb2 a2 r2), (hw2, eW false), (hc2, eA cy f2), (hb2, eA cy g2), (ho, eO (((o_X2_wideSum a1 r1 f1 p1 p2 p3).2.1).toInt64) sv)] H := hP
    have hD : va_D A [(h0, eE h1 h2 kn), (h1, eR hw1 hc1 hb1 (o_X2_wideSum a1 r1 f1 p1 p2 p3).2.2.1 (o_X2_wideSum a1 r1 f1 p1 p2 p3).2.2.2.1), (hw1, eW true), (hc1, eA cy (o_X2_wideSum a1 r1 f1 p1 p2 p3).2.2.2.2), (hb1, eA cy g1), (h2, eR hw2 hc2 hb2 a2 r2), (hw2, eW false), (hc2, eA cy f2), (hb2, eA cy g2), (ho, eO (((o_X2_wideSum a1 r1 f1 p1 p2 p3).2.1).toInt64) sv)] := hD
    refine lv_goto (tgt := 20) hx hb dL_wideSum_13 (by decide +kernel) ?_
    refine lv_iconst (v := 0) hx hb dL_wideSum_20 (by decide +kernel) ?_
    have he : o_L_wideSum a1 r1 f1 nv p1 p2 p3 = (0, (o_X2_wideSum a1 r1 f1 p1 p2 p3).2.2.1, (o_X2_wideSum a1 r1 f1 p1 p2 p3).2.2.2.1, (o_X2_wideSum a1 r1 f1 p1 p2 p3).2.2.2.2, (((o_X2_wideSum a1 r1 f1 p1 p2 p3).2.1).toInt64)) := by (rw [o_L_wideSum, if_pos c_3]) <;> rfl
    refine W.widen (k := 3) (n := 18) (by omega) (by omega) ?_
    exact W.iret (v := 0) hx hb hr (fun t ht hW => ⟨⟨_, (), rfl, (by (rw [he]) <;> rfl), (by rw [he]; exact ⟨by rw [ht]; dsimp only; exact hP, by dsimp only; exact hD⟩)⟩, hS.F ht⟩) hS.2.2 dL_wideSum_21
theorem cl_L_wideSort_1 : ∀ w ∈ wsL_wideSort_r1, w ∈ wsL_wideSort := fun _ h => (List.mem_cons_of_mem _ (List.mem_append_left _ (List.mem_append_left _ (List.mem_append_left _ (List.mem_append_left _ (List.mem_append_left _ (List.mem_append_left _ h)))))))
theorem cl_L_wideSort_2 : ∀ w ∈ wsL_wideSort_r2, w ∈ wsL_wideSort := fun _ h => (List.mem_cons_of_mem _ (List.mem_append_left _ (List.mem_append_left _ (List.mem_append_left _ (List.mem_append_left _ (List.mem_append_left _ (List.mem_append_right _ h)))))))
theorem cl_L_wideSort_3 : ∀ w ∈ wsX30, w ∈ wsL_wideSort := fun _ h => (List.mem_cons_of_mem _ (List.mem_append_left _ (List.mem_append_left _ (List.mem_append_left _ (List.mem_append_left _ (List.mem_append_right _ h))))))
theorem cl_L_wideSort_4 : ∀ w ∈ wsX20, w ∈ wsL_wideSort := fun _ h => (List.mem_cons_of_mem _ (List.mem_append_left _ (List.mem_append_left _ (List.mem_append_left _ (List.mem_append_right _ h)))))
theorem cl_L_wideSort_5 : ∀ w ∈ wsX00, w ∈ wsL_wideSort := fun _ h => (List.mem_cons_of_mem _ (List.mem_append_left _ (List.mem_append_left _ (List.mem_append_right _ h))))
theorem cl_L_wideSort_6 : ∀ w ∈ wsX10, w ∈ wsL_wideSort := fun _ h => (List.mem_cons_of_mem _ (List.mem_append_left _ (List.mem_append_right _ h)))
theorem cl_L_wideSort_7 : ∀ w ∈ (vx_atS RX2 159 "java/lang/IllegalArgumentException" ["java/lang/RuntimeException", "java/lang/Exception"]).filter goodWord, w ∈ wsL_wideSort := fun _ h => (List.mem_cons_of_mem _ (List.mem_append_right _ h))
set_option maxRecDepth 20000 in
theorem ggL_wideSort_X2_wideSort : GoodIn wsL_wideSort wsX2_wideSort := goodIn_sub (List.forall_mem_cons.mpr ⟨(cl_L_wideSort_1 _ (List.mem_of_getElem? (i := 5) rfl)), fun w h => (List.mem_append.mp h).elim ((fun w h => (List.mem_append.mp h).elim ((fun w h => (List.mem_append.mp h).elim ((fun w h => (List.mem_append.mp h).elim ((fun w h => (List.mem_append.mp h).elim ((List.forall_mem_cons.mpr ⟨(cl_L_wideSort_1 _ (List.mem_of_getElem? (i := 6) rfl)), List.forall_mem_cons.mpr ⟨(cl_L_wideSort_1 _ (List.mem_of_getElem? (i := 7) rfl)), List.forall_mem_cons.mpr ⟨(cl_L_wideSort_1 _ (List.mem_of_getElem? (i := 8) rfl)), List.forall_mem_cons.mpr ⟨(cl_L_wideSort_1 _ (List.mem_of_getElem? (i := 9) rfl)), List.forall_mem_cons.mpr ⟨(cl_L_wideSort_1 _ (List.mem_of_getElem? (i := 10) rfl)), List.forall_mem_cons.mpr ⟨(cl_L_wideSort_1 _ (List.mem_of_getElem? (i := 11) rfl)), List.forall_mem_cons.mpr ⟨(cl_L_wideSort_1 _ (List.mem_of_getElem? (i := 12) rfl)), List.forall_mem_cons.mpr ⟨(cl_L_wideSort_1 _ (List.mem_of_getElem? (i := 13) rfl)), List.forall_mem_cons.mpr ⟨(cl_L_wideSort_1 _ (List.mem_of_getElem? (i := 14) rfl)), List.forall_mem_cons.mpr ⟨(cl_L_wideSort_1 _ (List.mem_of_getElem? (i := 15) rfl)), List.forall_mem_cons.mpr ⟨(cl_L_wideSort_1 _ (List.mem_of_getElem? (i := 16) rfl)), List.forall_mem_cons.mpr ⟨(cl_L_wideSort_1 _ (List.mem_of_getElem? (i := 17) rfl)), List.forall_mem_cons.mpr ⟨(cl_L_wideSort_1 _ (List.mem_of_getElem? (i := 18) rfl)), List.forall_mem_cons.mpr ⟨(cl_L_wideSort_1 _ (List.mem_of_getElem? (i := 19) rfl)), List.forall_mem_cons.mpr ⟨(cl_L_wideSort_1 _ (List.mem_of_getElem? (i := 4) rfl)), List.forall_mem_cons.mpr ⟨(cl_L_wideSort_1 _ (List.mem_of_getElem? (i := 20) rfl)), List.forall_mem_cons.mpr ⟨(cl_L_wideSort_1 _ (List.mem_of_getElem? (i := 21) rfl)), List.forall_mem_cons.mpr ⟨(cl_L_wideSort_1 _ (List.mem_of_getElem? (i := 22) rfl)), List.forall_mem_cons.mpr ⟨(cl_L_wideSort_1 _ (List.mem_of_getElem? (i := 23) rfl)), List.forall_mem_cons.mpr ⟨(cl_L_wideSort_2 _ (List.mem_of_getElem? (i := 0) rfl)), List.forall_mem_cons.mpr ⟨(cl_L_wideSort_2 _ (List.mem_of_getElem? (i := 1) rfl)), List.forall_mem_cons.mpr ⟨(cl_L_wideSort_2 _ (List.mem_of_getElem? (i := 2) rfl)), List.forall_mem_cons.mpr ⟨(cl_L_wideSort_2 _ (List.mem_of_getElem? (i := 3) rfl)), List.forall_mem_cons.mpr ⟨(cl_L_wideSort_2 _ (List.mem_of_getElem? (i := 4) rfl)), fun _ h => absurd h List.not_mem_nil⟩⟩⟩⟩⟩⟩⟩⟩⟩⟩⟩⟩⟩⟩⟩⟩⟩⟩⟩⟩⟩⟩⟩⟩) w) ((List.forall_mem_cons.mpr ⟨(cl_L_wideSort_2 _ (List.mem_of_getElem? (i := 5) rfl)), List.forall_mem_cons.mpr ⟨(cl_L_wideSort_2 _ (List.mem_of_getElem? (i := 6) rfl)), List.forall_mem_cons.mpr ⟨(cl_L_wideSort_2 _ (List.mem_of_getElem? (i := 7) rfl)), List.forall_mem_cons.mpr ⟨(cl_L_wideSort_2 _ (List.mem_of_getElem? (i := 8) rfl)), List.forall_mem_cons.mpr ⟨(cl_L_wideSort_2 _ (List.mem_of_getElem? (i := 9) rfl)), List.forall_mem_cons.mpr ⟨(cl_L_wideSort_2 _ (List.mem_of_getElem? (i := 10) rfl)), List.forall_mem_cons.mpr ⟨(cl_L_wideSort_2 _ (List.mem_of_getElem? (i := 11) rfl)), List.forall_mem_cons.mpr ⟨(cl_L_wideSort_2 _ (List.mem_of_getElem? (i := 12) rfl)), List.forall_mem_cons.mpr ⟨(cl_L_wideSort_2 _ (List.mem_of_getElem? (i := 13) rfl)), List.forall_mem_cons.mpr ⟨(cl_L_wideSort_2 _ (List.mem_of_getElem? (i := 14) rfl)), fun _ h => absurd h List.not_mem_nil⟩⟩⟩⟩⟩⟩⟩⟩⟩⟩) w)) w) ((cl_L_wideSort_4) w)) w) ((cl_L_wideSort_5) w)) w) ((cl_L_wideSort_6) w)) w) ((cl_L_wideSort_7) w)⟩) (by decide +kernel)
set_option maxRecDepth 20000 in
theorem gL_wideSort_X2_wideSort : GoodIn wsL_wideSort (wsV RL 45 RX2 yX2_wideSort wsX2_wideSort) := goodIn_app (goodIn_sub (List.forall_mem_cons.mpr ⟨(cl_L_wideSort_1 _ (List.mem_of_getElem? (i := 1) rfl)), List.forall_mem_cons.mpr ⟨(cl_L_wideSort_1 _ (List.mem_of_getElem? (i := 2) rfl)), List.forall_mem_cons.mpr ⟨(cl_L_wideSort_1 _ (List.mem_of_getElem? (i := 3) rfl)), List.forall_mem_cons.mpr ⟨(cl_L_wideSort_1 _ (List.mem_of_getElem? (i := 4) rfl)), fun _ h => absurd h List.not_mem_nil⟩⟩⟩⟩) (by decide +kernel)) ggL_wideSort_X2_wideSort
noncomputable def dz_p16_9 : List (Nat × Instr × Nat) := [(0, (.aload_n 2, 1)), (1, (.aload_n 0, 1)), (2, (.iload_n 1, 1)), (3, (.invokevirtual 45, 3)), (6, (.i2l, 1)), (7, (.putfield 13, 3)), (10, (.goto 6, 3)), (13, (.astore_n 3, 1)), (14, (.iconst 1, 1)), (15, (.ireturn, 1)), (16, (.iconst 0, 1)), (17, (.ireturn, 1))]
theorem dy_p16_9 : dz_ok cL_wideSort dz_p16_9 = true := by decide +kernel
theorem dL_wideSort_0 : decode cL_wideSort 0 = .ok (.aload_n 2, 1) := dz_at (i := 0) dy_p16_9 rfl
theorem dL_wideSort_1 : decode cL_wideSort 1 = .ok (.aload_n 0, 1) := dz_at (i := 1) dy_p16_9 rfl
theorem dL_wideSort_2 : decode cL_wideSort 2 = .ok (.iload_n 1, 1) := dz_at (i := 2) dy_p16_9 rfl
theorem dL_wideSort_3 : decode cL_wideSort 3 = .ok (.invokevirtual 45, 3) := dz_at (i := 3) dy_p16_9 rfl
theorem dL_wideSort_6 : decode cL_wideSort 6 = .ok (.i2l, 1) := dz_at (i := 4) dy_p16_9 rfl
theorem dL_wideSort_7 : decode cL_wideSort 7 = .ok (.putfield 13, 3) := dz_at (i := 5) dy_p16_9 rfl
theorem dL_wideSort_10 : decode cL_wideSort 10 = .ok (.goto 6, 3) := dz_at (i := 6) dy_p16_9 rfl
theorem dL_wideSort_13 : decode cL_wideSort 13 = .ok (.astore_n 3, 1) := dz_at (i := 7) dy_p16_9 rfl
theorem dL_wideSort_14 : decode cL_wideSort 14 = .ok (.iconst 1, 1) := dz_at (i := 8) dy_p16_9 rfl
theorem dL_wideSort_15 : decode cL_wideSort 15 = .ok (.ireturn, 1) := dz_at (i := 9) dy_p16_9 rfl
theorem dL_wideSort_16 : decode cL_wideSort 16 = .ok (.iconst 0, 1) := dz_at (i := 10) dy_p16_9 rfl
theorem dL_wideSort_17 : decode cL_wideSort 17 = .ok (.ireturn, 1) := dz_at (i := 11) dy_p16_9 rfl
noncomputable def o_L_wideSort (a1 : Int32) (f1 : Nat → Int64) (g1 : Nat → Int64) (nv : Int64) (p1 : Int32) : Int32 × Int32 × (Nat → Int64) × (Nat → Int64) × Int64 :=
  if (o_X2_wideSort a1 f1 g1 p1).1 = 0 then (0, (o_X2_wideSort a1 f1 g1 p1).2.2.1, (o_X2_wideSort a1 f1 g1 p1).2.2.2.1, (o_X2_wideSort a1 f1 g1 p1).2.2.2.2, (((o_X2_wideSort a1 f1 g1 p1).2.1).toInt64))
  else (1, a1, f1, g1, nv)
set_option maxHeartbeats 4000000 in
set_option maxRecDepth 100000 in
theorem k_L_wideSort (l : Launch) (hfl : l.flags = flags0) (dC : Nat → ClassId) (dI : Nat → Nat → Nat) (cy : ClassId) (h0 : Nat) (h1 : Nat) (hw1 : Nat) (hc1 : Nat) (hb1 : Nat) (h2 : Nat) (hw2 : Nat) (hc2 : Nat) (hb2 : Nat) (a1 : Int32) (r1 : Int32) (f1 : Nat → Int64) (g1 : Nat → Int64) (a2 : Int32) (r2 : Int32) (f2 : Nat → Int64) (g2 : Nat → Int64) (kn : Int32) (ho : Nat) (nv : Int64) (sv : Value) (sz : Nat) (N : Nat) (p1 : Int32) : Met l yL_wideSort wsL_wideSort ({ frames := 9, cells := 1, slots := 6, locals := 165 }) (va_Pc [.ref h0, .int p1, .ref ho] (xL (dC, dI) xCl [(h0, eE h1 h2 kn), (h1, eR hw1 hc1 hb1 a1 r1), (hw1, eW true), (hc1, eA cy f1), (hb1, eA cy g1), (h2, eR hw2 hc2 hb2 a2 r2), (hw2, eW false), (hc2, eA cy f2), (hb2, eA cy g2), (ho, eO nv sv)] [(cy, .long)] sz N)) (va_Qi (fun (r : Int32) (_ : Unit) => r = (o_L_wideSort a1 f1 g1 nv p1).1) (fun _ t => xW (dC, dI) xCl [(h0, eE h1 h2 kn), (h1, eR hw1 hc1 hb1 (o_L_wideSort a1 f1 g1 nv p1).2.1 r1), (hw1, eW true), (hc1, eA cy (o_L_wideSort a1 f1 g1 nv p1).2.2.1), (hb1, eA cy (o_L_wideSort a1 f1 g1 nv p1).2.2.2.1), (h2, eR hw2 hc2 hb2 a2 r2), (hw2, eW false), (hc2, eA cy f2), (hb2, eA cy g2), (ho, eO (o_L_wideSort a1 f1 g1 nv p1).2.2.2.2 sv)] (va_A [(h0, eE h1 h2 kn), (h1, eR hw1 hc1 hb1 a1 r1), (hw1, eW true), (hc1, eA cy f1), (hb1, eA cy g1), (h2, eR hw2 hc2 hb2 a2 r2), (hw2, eW false), (hc2, eA cy f2), (hb2, eA cy g2), (ho, eO nv sv)] sz) t) (va_A [(h0, eE h1 h2 kn), (h1, eR hw1 hc1 hb1 a1 r1), (hw1, eW true), (hc1, eA cy f1), (hb1, eA cy g1), (h2, eR hw2 hc2 hb2 a2 r2), (hw2, eW false), (hc2, eA cy f2), (hb2, eA cy g2), (ho, eO nv sv)] sz)) 1 6 (va_A [(h0, eE h1 h2 kn), (h1, eR hw1 hc1 hb1 a1 r1), (hw1, eW true), (hc1, eA cy f1), (hb1, eA cy g1), (h2, eR hw2 hc2 hb2 a2 r2), (hw2, eW false), (hc2, eA cy f2), (hb2, eA cy g2), (ho, eO nv sv)] sz) := by
  refine va_MetW (cc := cL_wideSort) (maxL := 4) (ret := (some .int)) (by decide +kernel) rfl ?_
  intro p e s m args below meth c s₁ B hml hv
  obtain ⟨rfl, ⟨hsz, hP, hK, hD0, hN, hG⟩, hnc⟩ := hv
  have hx := B.exec
  have hb := B.bytes
  have hr := B.returns
  have hts := atoms_spec (ws := wsL_wideSort) B.pre
  have hown : s.vm.findClass RL = some m.cls := findClass_of_methodNamed B.named
  have hlocks := B.notSynchronized
  have htab := vx_table (x := yL_wideSort) B (hts _ List.mem_cons_self)
  subst hsz
  have hAN : ∀ q, va_A [(h0, eE h1 h2 kn), (h1, eR hw1 hc1 hb1 a1 r1), (hw1, eW true), (hc1, eA cy f1), (hb1, eA cy g1), (h2, eR hw2 hc2 hb2 a2 r2), (hw2, eW false), (hc2, eA cy f2), (hb2, eA cy g2), (ho, eO nv sv)] s.heap.size q → N ≤ q := xA_N hD0 hN
  have hD := hD0.self (sz := s.heap.size)
  generalize hAe : va_A [(h0, eE h1 h2 kn), (h1, eR hw1 hc1 hb1 a1 r1), (hw1, eW true), (hc1, eA cy f1), (hb1, eA cy g1), (h2, eR hw2 hc2 hb2 a2 r2), (hw2, eW false), (hc2, eA cy f2), (hb2, eA cy g2), (ho, eO nv sv)] s.heap.size = A at hD hAN ⊢
  have hA : ∀ q : Nat, s.heap.size ≤ q → A q := fun q h => by rw [← hAe]; exact Or.inr h
  have hS : va_S A s.heap s.heap [] := va_S.rf
  have hP : va_P (dC, dI) xCl [(h0, eE h1 h2 kn), (h1, eR hw1 hc1 hb1 a1 r1), (hw1, eW true), (hc1, eA cy f1), (hb1, eA cy g1), (h2, eR hw2 hc2 hb2 a2 r2), (hw2, eW false), (hc2, eA cy f2), (hb2, eA cy g2), (ho, eO nv sv)] s.heap := hP
  have hl := lv_entry ([.ref h0, .int p1, .ref ho]) (n := 4) (Nat.le_of_ble_eq_true rfl)
  rw [lg_entry_eq]
  generalize (lg_sl ([.ref h0, .int p1, .ref ho]) ++ List.replicate (4 - (lg_sl ([.ref h0, .int p1, .ref ho])).length) Slot.unset).toArray = ls at hl ⊢
  have hl : lv_has ls 4 [(0, .ref h0), (1, .int p1), (2, .ref ho)] := hl
  refine lv_aload_n hx hb dL_wideSort_0 rfl (lv_at hl 2 rfl) ?_
  refine lv_aload_n hx hb dL_wideSort_1 rfl (lv_at hl 0 rfl) ?_
  refine lv_iload_n hx hb dL_wideSort_2 rfl (lv_at hl 1 rfl) ?_
  have hPc := hP.sub (ws' := [(h0, eE h1 h2 kn), (h1, eR hw1 hc1 hb1 a1 r1), (hw1, eW true), (hc1, eA cy f1), (hb1, eA cy g1), (h2, eR hw2 hc2 hb2 a2 r2), (hw2, eW false), (hc2, eA cy f2), (hb2, eA cy g2)]) [0, 1, 2, 3, 4, 5, 6, 7, 8] rfl
  have hDc := hD.sub (ws' := [(h0, eE h1 h2 kn), (h1, eR hw1 hc1 hb1 a1 r1), (hw1, eW true), (hc1, eA cy f1), (hb1, eA cy g1), (h2, eR hw2 hc2 hb2 a2 r2), (hw2, eW false), (hc2, eA cy f2), (hb2, eA cy g2)]) [0, 1, 2, 3, 4, 5, 6, 7, 8] (by decide +kernel) rfl
  have hKc := hK.sub (tys' := [(cy, .long)]) [0] rfl
  have hFc := va_free (wc := [(h0, eE h1 h2 kn), (h1, eR hw1 hc1 hb1 a1 r1), (hw1, eW true), (hc1, eA cy f1), (hb1, eA cy g1), (h2, eR hw2 hc2 hb2 a2 r2), (hw2, eW false), (hc2, eA cy f2), (hb2, eA cy g2)]) hD hS hA [0, 1, 2, 3, 4, 5, 6, 7, 8] rfl
  refine vx_calli (vx_runV (As := [.int p1]) (rest := [.ref ho]) ⟨hx, hb, hml, hown, hts⟩ (k_X2_wideSort l hfl dC dI cy h0 h1 hw1 hc1 hb1 h2 hw2 hc2 hb2 a1 r1 f1 g1 a2 r2 f2 g2 kn s.heap.size N p1) (cwV 1 hts gL_wideSort_X2_wideSort rfl rfl rfl (by decide +kernel) ⟨Nat.le_of_ble_eq_true rfl, Nat.le_of_ble_eq_true rfl⟩) (xM.preV hKc hPc hDc hAN (Nat.le_trans hN hS.1) (hG.kept hS hAN) (ci := 4) (q0 := 0) rfl rfl) rfl rfl hl.1 rfl (lv_room (Nat.le_of_ble_eq_true rfl)) dL_wideSort_3 ⟨Nat.le_of_ble_eq_true rfl, Nat.le_of_ble_eq_true rfl⟩) hS (fun q _ h => hFc q h) hFc (fun q _ h => hFc q h) (fun E ce q9 u9 t H locs ht hvm hpx hbx hz hk hS hce hcv hcl => ?_) (fun r_1 u t H locs ht hvm hw hB hz hk hS => ?_)
  · have c_2 : ¬ (o_X2_wideSort a1 f1 g1 p1).1 = 0 := hpx
    obtain ⟨hbe, hP1, hD1⟩ := hbx
    rw [ht] at hP1
    obtain ⟨hP, hD⟩ := va_join (wr := [(ho, eO nv sv)]) (w1 := [(h0, eE h1 h2 kn), (h1, eR hw1 hc1 hb1 a1 r1), (hw1, eW true), (hc1, eA cy f1), (hb1, eA cy g1), (h2, eR hw2 hc2 hb2 a2 r2), (hw2, eW false), (hc2, eA cy f2), (hb2, eA cy g2)]) hP hD [0, 1, 2, 3, 4, 5, 6, 7, 8] [9] rfl rfl (by decide +kernel) (by decide +kernel) hk hFc hP1 hD1
    have hP := hP.sub (ws' := [(h0, eE h1 h2 kn), (h1, eR hw1 hc1 hb1 a1 r1), (hw1, eW true), (hc1, eA cy f1), (hb1, eA cy g1), (h2, eR hw2 hc2 hb2 a2 r2), (hw2, eW false), (hc2, eA cy f2), (hb2, eA cy g2), (ho, eO nv sv)]) [1, 2, 3, 4, 5, 6, 7, 8, 9, 0] rfl
    have hD := hD.sub (ws' := [(h0, eE h1 h2 kn), (h1, eR hw1 hc1 hb1 a1 r1), (hw1, eW true), (hc1, eA cy f1), (hb1, eA cy g1), (h2, eR hw2 hc2 hb2 a2 r2), (hw2, eW false), (hc2, eA cy f2), (hb2, eA cy g2), (ho, eO nv sv)]) [1, 2, 3, 4, 5, 6, 7, 8, 9, 0] (by decide +kernel) rfl
    have hE : E = "java/lang/IllegalArgumentException" := hbe.trans (by rw [show (o_X2_wideSort a1 f1 g1 p1).1 = 2 from (xr_X2_wideSort _ _ _ _ c_2)]; rfl)
    subst hE
    refine vx_catch (own := RL) (name := "java/lang/IllegalArgumentException") hown [] ⟨0, 10, 13, 25⟩ [] htab (fun z hz => absurd hz List.not_mem_nil) (by decide +kernel) (by decide +kernel) (hts (.classLink RL 25 "java/lang/IllegalArgumentException") (by decide +kernel)) (va_Nw.use rfl (hG.1 (.castable "java/lang/IllegalArgumentException" "java/lang/IllegalArgumentException") (List.mem_of_getElem? (i := 12) rfl))) hce hcv hcl ?_
    refine lv_astore_n (lv' := [(3, .ref q9), (0, .ref h0), (1, .int p1), (2, .ref ho)]) hx hb dL_wideSort_13 rfl hl (by decide +kernel) rfl (fun ls hl => ?_)
    refine lv_iconst (v := 1) hx hb dL_wideSort_14 (by decide +kernel) ?_
    have he : o_L_wideSort a1 f1 g1 nv p1 = (1, a1, f1, g1, nv) := by (rw [o_L_wideSort, if_neg c_2]) <;> rfl
    refine W.widen (k := 1) (n := 6) (by omega) (by omega) ?_
    exact W.iret (v := 1) hx hb hr (fun t ht hW => ⟨⟨_, (), rfl, (by (rw [he]) <;> rfl), (by rw [he]; exact ⟨by rw [ht]; exact hP, hD⟩)⟩, hS.F ht⟩) hS.2.2 dL_wideSort_15
  · skip
    obtain ⟨c_3, hw⟩ := hw
    have c_3 : (o_X2_wideSort a1 f1 g1 p1).1 = 0 := c_3
    replace hw : r_1 = (o_X2_wideSort a1 f1 g1 p1).2.1 := hw
    subst r_1
    obtain ⟨hP1, hD1⟩ := hB
    rw [ht] at hP1
    obtain ⟨hP, hD⟩ := va_join (wr := [(ho, eO nv sv)]) (w1 := [(h0, eE h1 h2 kn), (h1, eR hw1 hc1 hb1 (o_X2_wideSort a1 f1 g1 p1).2.2.1 r1), (hw1, eW true), (hc1, eA cy (o_X2_wideSort a1 f1 g1 p1).2.2.2.1), (hb1, eA cy (o_X2_wideSort a1 f1 g1 p1).2.2.2.2), (h2, eR hw2 hc2 hb2 a2 r2), (hw2, eW false), (hc2, eA cy f2), (hb2, eA cy g2)]) hP hD [0, 1, 2, 3, 4, 5, 6, 7, 8] [9] rfl rfl (by decide +kernel) (by decide +kernel) hk hFc hP1 hD1
    have hP := hP.sub (ws' := [(h0, eE h1 h2 kn), (h1, eR hw1 hc1 hb1 (o_X2_wideSort a1 f1 g1 p1).2.2.1 r1), (hw1, eW true), (hc1, eA cy (o_X2_wideSort a1 f1 g1 p1).2.2.2.1), (hb1, eA cy (o_X2_wideSort a1 f1 g1 p1).2.2.2.2), (h2, eR hw2 hc2 hb2 a2 r2), (hw2, eW false), (hc2, eA cy f2), (hb2, eA cy g2), (ho, eO nv sv)]) [1, 2, 3, 4, 5, 6, 7, 8, 9, 0] rfl
    have hD := hD.sub (ws' := [(h0, eE h1 h2 kn), (h1, eR hw1 hc1 hb1 (o_X2_wideSort a1 f1 g1 p1).2.2.1 r1), (hw1, eW true), (hc1, eA cy (o_X2_wideSort a1 f1 g1 p1).2.2.2.1), (hb1, eA cy (o_X2_wideSort a1 f1 g1 p1).2.2.2.2), (h2, eR hw2 hc2 hb2 a2 r2), (hw2, eW false), (hc2, eA cy f2), (hb2, eA cy g2), (ho, eO nv sv)]) [1, 2, 3, 4, 5, 6, 7, 8, 9, 0] (by decide +kernel) rfl
    refine lv_i2l (v := (((o_X2_wideSort a1 f1 g1 p1).2.1).toInt64)) hx hb dL_wideSort_6 rfl ?_
    refine va_putN (D := (dC, dI)) (ci := 5) (v := .long (((o_X2_wideSort a1 f1 g1 p1).2.1).toInt64)) (ty := .long) (C := RX3) (T := TX3) (N := 2) hx hb hts (by decide +kernel) tyX3 tyX3_ok nmX3 hown hK hP hD hS 9 rfl rfl 0 (by decide +kernel) (va_Nw.use rfl (hG.1 (.fieldLinkNest RL 13 "EdgefloatsLaw$Out" "n" "J" RL) (List.mem_of_getElem? (i := 6) rfl))) (fun _ h9 => h9) rfl (by decide +kernel) rfl rfl (Nat.le_of_ble_eq_true rfl) dL_wideSort_7 (fun H locs hP hD hS => ?_)
    have hP : va_P (dC, dI) xCl [(h0, eE h1 h2 kn), (h1, eR hw1 hc1 hb1 (o_X2_wideSort a1 f1 g1 p1).2.2.1 r1), (hw1, eW true), (hc1, eA cy (o_X2_wideSort a1 f1 g1 p1).2.2.2.1), (hb1, eA cy (o_X2_wideSort a1 f1 g1 p1).2.2.2.2), (h2, eR hw2 hc2 hb2 a2 r2), (hw2, eW false), (hc2, eA cy f2), (hb2, eA cy g2), (ho, eO (((o_X2_wideSort a1 f1 g1 p1).2.1).toInt64) sv)] H := hP
    have hD : va_D A [(h0, eE h1 h2 kn), (h1, eR hw1 hc1 hb1 (o_X2_wideSort a1 f1 g1 p1).2.2.1 r1), (hw1, eW true), (hc1, eA cy (o_X2_wideSort a1 f1 g1 p1).2.2.2.1), (hb1, eA cy (o_X2_wideSort a1 f1 g1 p1).2.2.2.2), (h2, eR hw2 hc2 hb2 a2 r2), (hw2, eW false), (hc2, eA cy f2), (hb2, eA cy g2), (ho, eO (((o_X2_wideSort a1 f1 g1 p1).2.1).toInt64) sv)] := hD
    refine lv_goto (tgt := 16) hx hb dL_wideSort_10 (by decide +kernel) ?_
    refine lv_iconst (v := 0) hx hb dL_wideSort_16 (by decide +kernel) ?_
    have he : o_L_wideSort a1 f1 g1 nv p1 = (0, (o_X2_wideSort a1 f1 g1 p1).2.2.1, (o_X2_wideSort a1 f1 g1 p1).2.2.2.1, (o_X2_wideSort a1 f1 g1 p1).2.2.2.2, (((o_X2_wideSort a1 f1 g1 p1).2.1).toInt64)) := by (rw [o_L_wideSort, if_pos c_3]) <;> rfl
    refine W.widen (k := 1) (n := 6) (by omega) (by omega) ?_
    exact W.iret (v := 0) hx hb hr (fun t ht hW => ⟨⟨_, (), rfl, (by (rw [he]) <;> rfl), (by rw [he]; exact ⟨by rw [ht]; exact hP, hD⟩)⟩, hS.F ht⟩) hS.2.2 dL_wideSort_17
theorem cl_L_wideEnd_1 : ∀ w ∈ wsL_wideEnd_r1, w ∈ wsL_wideEnd := fun _ h => (List.mem_cons_of_mem _ (List.mem_append_left _ (List.mem_append_left _ (List.mem_append_left _ (List.mem_append_left _ (List.mem_append_left _ (List.mem_append_left _ h)))))))
theorem cl_L_wideEnd_2 : ∀ w ∈ wsL_wideEnd_r2, w ∈ wsL_wideEnd := fun _ h => (List.mem_cons_of_mem _ (List.mem_append_left _ (List.mem_append_left _ (List.mem_append_left _ (List.mem_append_left _ (List.mem_append_left _ (List.mem_append_right _ h)))))))
theorem cl_L_wideEnd_3 : ∀ w ∈ wsX30, w ∈ wsL_wideEnd := fun _ h => (List.mem_cons_of_mem _ (List.mem_append_left _ (List.mem_append_left _ (List.mem_append_left _ (List.mem_append_left _ (List.mem_append_right _ h))))))
theorem cl_L_wideEnd_4 : ∀ w ∈ wsX20, w ∈ wsL_wideEnd := fun _ h => (List.mem_cons_of_mem _ (List.mem_append_left _ (List.mem_append_left _ (List.mem_append_left _ (List.mem_append_right _ h)))))
theorem cl_L_wideEnd_5 : ∀ w ∈ wsX00, w ∈ wsL_wideEnd := fun _ h => (List.mem_cons_of_mem _ (List.mem_append_left _ (List.mem_append_left _ (List.mem_append_right _ h))))
theorem cl_L_wideEnd_6 : ∀ w ∈ wsX10, w ∈ wsL_wideEnd := fun _ h => (List.mem_cons_of_mem _ (List.mem_append_left _ (List.mem_append_right _ h)))
theorem cl_L_wideEnd_7 : ∀ w ∈ (vx_atS RX2 152 "java/lang/IndexOutOfBoundsException" ["java/lang/RuntimeException", "java/lang/Exception"]).filter goodWord, w ∈ wsL_wideEnd := fun _ h => (List.mem_cons_of_mem _ (List.mem_append_right _ h))
set_option maxRecDepth 20000 in
theorem ggL_wideEnd_X2_wideEnd : GoodIn wsL_wideEnd wsX2_wideEnd := goodIn_sub (List.forall_mem_cons.mpr ⟨(cl_L_wideEnd_1 _ (List.mem_of_getElem? (i := 5) rfl)), fun w h => (List.mem_append.mp h).elim ((fun w h => (List.mem_append.mp h).elim ((fun w h => (List.mem_append.mp h).elim ((fun w h => (List.mem_append.mp h).elim ((fun w h => (List.mem_append.mp h).elim ((List.forall_mem_cons.mpr ⟨(cl_L_wideEnd_1 _ (List.mem_of_getElem? (i := 6) rfl)), List.forall_mem_cons.mpr ⟨(cl_L_wideEnd_1 _ (List.mem_of_getElem? (i := 7) rfl)), List.forall_mem_cons.mpr ⟨(cl_L_wideEnd_1 _ (List.mem_of_getElem? (i := 8) rfl)), List.forall_mem_cons.mpr ⟨(cl_L_wideEnd_1 _ (List.mem_of_getElem? (i := 9) rfl)), List.forall_mem_cons.mpr ⟨(cl_L_wideEnd_1 _ (List.mem_of_getElem? (i := 10) rfl)), List.forall_mem_cons.mpr ⟨(cl_L_wideEnd_1 _ (List.mem_of_getElem? (i := 11) rfl)), List.forall_mem_cons.mpr ⟨(cl_L_wideEnd_1 _ (List.mem_of_getElem? (i := 12) rfl)), List.forall_mem_cons.mpr ⟨(cl_L_wideEnd_1 _ (List.mem_of_getElem? (i := 13) rfl)), List.forall_mem_cons.mpr ⟨(cl_L_wideEnd_1 _ (List.mem_of_getElem? (i := 14) rfl)), List.forall_mem_cons.mpr ⟨(cl_L_wideEnd_1 _ (List.mem_of_getElem? (i := 4) rfl)), List.forall_mem_cons.mpr ⟨(cl_L_wideEnd_1 _ (List.mem_of_getElem? (i := 15) rfl)), List.forall_mem_cons.mpr ⟨(cl_L_wideEnd_1 _ (List.mem_of_getElem? (i := 16) rfl)), List.forall_mem_cons.mpr ⟨(cl_L_wideEnd_1 _ (List.mem_of_getElem? (i := 17) rfl)), List.forall_mem_cons.mpr ⟨(cl_L_wideEnd_1 _ (List.mem_of_getElem? (i := 18) rfl)), List.forall_mem_cons.mpr ⟨(cl_L_wideEnd_1 _ (List.mem_of_getElem? (i := 19) rfl)), List.forall_mem_cons.mpr ⟨(cl_L_wideEnd_1 _ (List.mem_of_getElem? (i := 20) rfl)), List.forall_mem_cons.mpr ⟨(cl_L_wideEnd_1 _ (List.mem_of_getElem? (i := 21) rfl)), List.forall_mem_cons.mpr ⟨(cl_L_wideEnd_1 _ (List.mem_of_getElem? (i := 22) rfl)), List.forall_mem_cons.mpr ⟨(cl_L_wideEnd_1 _ (List.mem_of_getElem? (i := 23) rfl)), List.forall_mem_cons.mpr ⟨(cl_L_wideEnd_2 _ (List.mem_of_getElem? (i := 0) rfl)), List.forall_mem_cons.mpr ⟨(cl_L_wideEnd_2 _ (List.mem_of_getElem? (i := 1) rfl)), List.forall_mem_cons.mpr ⟨(cl_L_wideEnd_2 _ (List.mem_of_getElem? (i := 2) rfl)), List.forall_mem_cons.mpr ⟨(cl_L_wideEnd_2 _ (List.mem_of_getElem? (i := 3) rfl)), List.forall_mem_cons.mpr ⟨(cl_L_wideEnd_2 _ (List.mem_of_getElem? (i := 4) rfl)), fun _ h => absurd h List.not_mem_nil⟩⟩⟩⟩⟩⟩⟩⟩⟩⟩⟩⟩⟩⟩⟩⟩⟩⟩⟩⟩⟩⟩⟩⟩) w) ((List.forall_mem_cons.mpr ⟨(cl_L_wideEnd_2 _ (List.mem_of_getElem? (i := 5) rfl)), List.forall_mem_cons.mpr ⟨(cl_L_wideEnd_2 _ (List.mem_of_getElem? (i := 6) rfl)), List.forall_mem_cons.mpr ⟨(cl_L_wideEnd_2 _ (List.mem_of_getElem? (i := 7) rfl)), List.forall_mem_cons.mpr ⟨(cl_L_wideEnd_2 _ (List.mem_of_getElem? (i := 8) rfl)), List.forall_mem_cons.mpr ⟨(cl_L_wideEnd_2 _ (List.mem_of_getElem? (i := 9) rfl)), List.forall_mem_cons.mpr ⟨(cl_L_wideEnd_2 _ (List.mem_of_getElem? (i := 10) rfl)), List.forall_mem_cons.mpr ⟨(cl_L_wideEnd_2 _ (List.mem_of_getElem? (i := 11) rfl)), List.forall_mem_cons.mpr ⟨(cl_L_wideEnd_2 _ (List.mem_of_getElem? (i := 12) rfl)), List.forall_mem_cons.mpr ⟨(cl_L_wideEnd_2 _ (List.mem_of_getElem? (i := 13) rfl)), List.forall_mem_cons.mpr ⟨(cl_L_wideEnd_2 _ (List.mem_of_getElem? (i := 14) rfl)), List.forall_mem_cons.mpr ⟨(cl_L_wideEnd_2 _ (List.mem_of_getElem? (i := 15) rfl)), List.forall_mem_cons.mpr ⟨(cl_L_wideEnd_2 _ (List.mem_of_getElem? (i := 16) rfl)), List.forall_mem_cons.mpr ⟨(cl_L_wideEnd_2 _ (List.mem_of_getElem? (i := 17) rfl)), fun _ h => absurd h List.not_mem_nil⟩⟩⟩⟩⟩⟩⟩⟩⟩⟩⟩⟩⟩) w)) w) ((cl_L_wideEnd_4) w)) w) ((cl_L_wideEnd_5) w)) w) ((cl_L_wideEnd_6) w)) w) ((cl_L_wideEnd_7) w)⟩) (by decide +kernel)
set_option maxRecDepth 20000 in
theorem gL_wideEnd_X2_wideEnd : GoodIn wsL_wideEnd (wsV RL 49 RX2 yX2_wideEnd wsX2_wideEnd) := goodIn_app (goodIn_sub (List.forall_mem_cons.mpr ⟨(cl_L_wideEnd_1 _ (List.mem_of_getElem? (i := 1) rfl)), List.forall_mem_cons.mpr ⟨(cl_L_wideEnd_1 _ (List.mem_of_getElem? (i := 2) rfl)), List.forall_mem_cons.mpr ⟨(cl_L_wideEnd_1 _ (List.mem_of_getElem? (i := 3) rfl)), List.forall_mem_cons.mpr ⟨(cl_L_wideEnd_1 _ (List.mem_of_getElem? (i := 4) rfl)), fun _ h => absurd h List.not_mem_nil⟩⟩⟩⟩) (by decide +kernel)) ggL_wideEnd_X2_wideEnd
noncomputable def dz_p16_10 : List (Nat × Instr × Nat) := [(0, (.aload_n 3, 1)), (1, (.aload_n 0, 1)), (2, (.iload_n 1, 1)), (3, (.iload_n 2, 1)), (4, (.invokevirtual 49, 3)), (7, (.i2l, 1)), (8, (.putfield 13, 3)), (11, (.goto 7, 3)), (14, (.astore 4, 2)), (16, (.iconst 1, 1)), (17, (.ireturn, 1)), (18, (.iconst 0, 1)), (19, (.ireturn, 1))]
theorem dy_p16_10 : dz_ok cL_wideEnd dz_p16_10 = true := by decide +kernel
theorem dL_wideEnd_0 : decode cL_wideEnd 0 = .ok (.aload_n 3, 1) := dz_at (i := 0) dy_p16_10 rfl
theorem dL_wideEnd_1 : decode cL_wideEnd 1 = .ok (.aload_n 0, 1) := dz_at (i := 1) dy_p16_10 rfl
theorem dL_wideEnd_2 : decode cL_wideEnd 2 = .ok (.iload_n 1, 1) := dz_at (i := 2) dy_p16_10 rfl
theorem dL_wideEnd_3 : decode cL_wideEnd 3 = .ok (.iload_n 2, 1) := dz_at (i := 3) dy_p16_10 rfl
theorem dL_wideEnd_4 : decode cL_wideEnd 4 = .ok (.invokevirtual 49, 3) := dz_at (i := 4) dy_p16_10 rfl
theorem dL_wideEnd_7 : decode cL_wideEnd 7 = .ok (.i2l, 1) := dz_at (i := 5) dy_p16_10 rfl
theorem dL_wideEnd_8 : decode cL_wideEnd 8 = .ok (.putfield 13, 3) := dz_at (i := 6) dy_p16_10 rfl
theorem dL_wideEnd_11 : decode cL_wideEnd 11 = .ok (.goto 7, 3) := dz_at (i := 7) dy_p16_10 rfl
theorem dL_wideEnd_14 : decode cL_wideEnd 14 = .ok (.astore 4, 2) := dz_at (i := 8) dy_p16_10 rfl
theorem dL_wideEnd_16 : decode cL_wideEnd 16 = .ok (.iconst 1, 1) := dz_at (i := 9) dy_p16_10 rfl
theorem dL_wideEnd_17 : decode cL_wideEnd 17 = .ok (.ireturn, 1) := dz_at (i := 10) dy_p16_10 rfl
theorem dL_wideEnd_18 : decode cL_wideEnd 18 = .ok (.iconst 0, 1) := dz_at (i := 11) dy_p16_10 rfl
theorem dL_wideEnd_19 : decode cL_wideEnd 19 = .ok (.ireturn, 1) := dz_at (i := 12) dy_p16_10 rfl
noncomputable def o_L_wideEnd (a1 : Int32) (f1 : Nat → Int64) (nv : Int64) (p1 : Bool) (p2 : Int32) : Int32 × Int32 × (Nat → Int64) × Int64 :=
  if (o_X2_wideEnd a1 f1 p1 p2).1 = 0 then (0, (o_X2_wideEnd a1 f1 p1 p2).2.2.1, (o_X2_wideEnd a1 f1 p1 p2).2.2.2, (((o_X2_wideEnd a1 f1 p1 p2).2.1).toInt64))
  else (1, a1, f1, nv)
set_option maxHeartbeats 4000000 in
set_option maxRecDepth 100000 in
theorem k_L_wideEnd (l : Launch) (hfl : l.flags = flags0) (dC : Nat → ClassId) (dI : Nat → Nat → Nat) (cy : ClassId) (h0 : Nat) (h1 : Nat) (hw1 : Nat) (hc1 : Nat) (hb1 : Nat) (h2 : Nat) (hw2 : Nat) (hc2 : Nat) (hb2 : Nat) (a1 : Int32) (r1 : Int32) (f1 : Nat → Int64) (g1 : Nat → Int64) (a2 : Int32) (r2 : Int32) (f2 : Nat → Int64) (g2 : Nat → Int64) (kn : Int32) (ho : Nat) (nv : Int64) (sv : Value) (sz : Nat) (N : Nat) (p1 : Bool) (p2 : Int32) : Met l yL_wideEnd wsL_wideEnd ({ frames := 9, cells := 1, slots := 6, locals := 167 }) (va_Pc [.ref h0, .int (b2i p1), .int p2, .ref ho] (xL (dC, dI) xCl [(h0, eE h1 h2 kn), (h1, eR hw1 hc1 hb1 a1 r1), (hw1, eW true), (hc1, eA cy f1), (hb1, eA cy g1), (h2, eR hw2 hc2 hb2 a2 r2), (hw2, eW false), (hc2, eA cy f2), (hb2, eA cy g2), (ho, eO nv sv)] [(cy, .long)] sz N)) (va_Qi (fun (r : Int32) (_ : Unit) => r = (o_L_wideEnd a1 f1 nv p1 p2).1) (fun _ t => xW (dC, dI) xCl [(h0, eE h1 h2 kn), (h1, eR hw1 hc1 hb1 (o_L_wideEnd a1 f1 nv p1 p2).2.1 r1), (hw1, eW true), (hc1, eA cy (o_L_wideEnd a1 f1 nv p1 p2).2.2.1), (hb1, eA cy g1), (h2, eR hw2 hc2 hb2 a2 r2), (hw2, eW false), (hc2, eA cy f2), (hb2, eA cy g2), (ho, eO (o_L_wideEnd a1 f1 nv p1 p2).2.2.2 sv)] (va_A [(h0, eE h1 h2 kn), (h1, eR hw1 hc1 hb1 a1 r1), (hw1, eW true), (hc1, eA cy f1), (hb1, eA cy g1), (h2, eR hw2 hc2 hb2 a2 r2), (hw2, eW false), (hc2, eA cy f2), (hb2, eA cy g2), (ho, eO nv sv)] sz) t) (va_A [(h0, eE h1 h2 kn), (h1, eR hw1 hc1 hb1 a1 r1), (hw1, eW true), (hc1, eA cy f1), (hb1, eA cy g1), (h2, eR hw2 hc2 hb2 a2 r2), (hw2, eW false), (hc2, eA cy f2), (hb2, eA cy g2), (ho, eO nv sv)] sz)) 1 6 (va_A [(h0, eE h1 h2 kn), (h1, eR hw1 hc1 hb1 a1 r1), (hw1, eW true), (hc1, eA cy f1), (hb1, eA cy g1), (h2, eR hw2 hc2 hb2 a2 r2), (hw2, eW false), (hc2, eA cy f2), (hb2, eA cy g2), (ho, eO nv sv)] sz) := by
  refine va_MetW (cc := cL_wideEnd) (maxL := 5) (ret := (some .int)) (by decide +kernel) rfl ?_
  intro p e s m args below meth c s₁ B hml hv
  obtain ⟨rfl, ⟨hsz, hP, hK, hD0, hN, hG⟩, hnc⟩ := hv
  have hx := B.exec
  have hb := B.bytes
  have hr := B.returns
  have hts := atoms_spec (ws := wsL_wideEnd) B.pre
  have hown : s.vm.findClass RL = some m.cls := findClass_of_methodNamed B.named
  have hlocks := B.notSynchronized
  have htab := vx_table (x := yL_wideEnd) B (hts _ List.mem_cons_self)
  subst hsz
  have hAN : ∀ q, va_A [(h0, eE h1 h2 kn), (h1, eR hw1 hc1 hb1 a1 r1), (hw1, eW true), (hc1, eA cy f1), (hb1, eA cy g1), (h2, eR hw2 hc2 hb2 a2 r2), (hw2, eW false), (hc2, eA cy f2), (hb2, eA cy g2), (ho, eO nv sv)] s.heap.size q → N ≤ q := xA_N hD0 hN
  have hD := hD0.self (sz := s.heap.size)
  generalize hAe : va_A [(h0, eE h1 h2 kn), (h1, eR hw1 hc1 hb1 a1 r1), (hw1, eW true), (hc1, eA cy f1), (hb1, eA cy g1), (h2, eR hw2 hc2 hb2 a2 r2), (hw2, eW false), (hc2, eA cy f2), (hb2, eA cy g2), (ho, eO nv sv)] s.heap.size = A at hD hAN ⊢
  have hA : ∀ q : Nat, s.heap.size ≤ q → A q := fun q h => by rw [← hAe]; exact Or.inr h
  have hS : va_S A s.heap s.heap [] := va_S.rf
  have hP : va_P (dC, dI) xCl [(h0, eE h1 h2 kn), (h1, eR hw1 hc1 hb1 a1 r1), (hw1, eW true), (hc1, eA cy f1), (hb1, eA cy g1), (h2, eR hw2 hc2 hb2 a2 r2), (hw2, eW false), (hc2, eA cy f2), (hb2, eA cy g2), (ho, eO nv sv)] s.heap := hP
  have hl := lv_entry ([.ref h0, .int (b2i p1), .int p2, .ref ho]) (n := 5) (Nat.le_of_ble_eq_true rfl)
  rw [lg_entry_eq]
  generalize (lg_sl ([.ref h0, .int (b2i p1), .int p2, .ref ho]) ++ List.replicate (5 - (lg_sl ([.ref h0, .int (b2i p1), .int p2, .ref ho])).length) Slot.unset).toArray = ls at hl ⊢
  have hl : lv_has ls 5 [(0, .ref h0), (1, .int (b2i p1)), (2, .int p2), (3, .ref ho)] := hl
  refine lv_aload_n hx hb dL_wideEnd_0 rfl (lv_at hl 3 rfl) ?_
  refine lv_aload_n hx hb dL_wideEnd_1 rfl (lv_at hl 0 rfl) ?_
  refine lv_iload_n hx hb dL_wideEnd_2 rfl (lv_at hl 1 rfl) ?_
  refine lv_iload_n hx hb dL_wideEnd_3 rfl (lv_at hl 2 rfl) ?_
  have hPc := hP.sub (ws' := [(h0, eE h1 h2 kn), (h1, eR hw1 hc1 hb1 a1 r1), (hw1, eW true), (hc1, eA cy f1), (hb1, eA cy g1), (h2, eR hw2 hc2 hb2 a2 r2), (hw2, eW false), (hc2, eA cy f2), (hb2, eA cy g2)]) [0, 1, 2, 3, 4, 5, 6, 7, 8] rfl
  have hDc := hD.sub (ws' := [(h0, eE h1 h2 kn), (h1, eR hw1 hc1 hb1 a1 r1), (hw1, eW true), (hc1, eA cy f1), (hb1, eA cy g1), (h2, eR hw2 hc2 hb2 a2 r2), (hw2, eW false), (hc2, eA cy f2), (hb2, eA cy g2)]) [0, 1, 2, 3, 4, 5, 6, 7, 8] (by decide +kernel) rfl
  have hKc := hK.sub (tys' := [(cy, .long)]) [0] rfl
  have hFc := va_free (wc := [(h0, eE h1 h2 kn), (h1, eR hw1 hc1 hb1 a1 r1), (hw1, eW true), (hc1, eA cy f1), (hb1, eA cy g1), (h2, eR hw2 hc2 hb2 a2 r2), (hw2, eW false), (hc2, eA cy f2), (hb2, eA cy g2)]) hD hS hA [0, 1, 2, 3, 4, 5, 6, 7, 8] rfl
  refine vx_calli (vx_runV (As := [.int (b2i p1), .int p2]) (rest := [.ref ho]) ⟨hx, hb, hml, hown, hts⟩ (k_X2_wideEnd l hfl dC dI cy h0 h1 hw1 hc1 hb1 h2 hw2 hc2 hb2 a1 r1 f1 g1 a2 r2 f2 g2 kn s.heap.size N p1 p2) (cwV 2 hts gL_wideEnd_X2_wideEnd rfl rfl rfl (by decide +kernel) ⟨Nat.le_of_ble_eq_true rfl, Nat.le_of_ble_eq_true rfl⟩) (xM.preV hKc hPc hDc hAN (Nat.le_trans hN hS.1) (hG.kept hS hAN) (ci := 4) (q0 := 0) rfl rfl) rfl rfl hl.1 rfl (lv_room (Nat.le_of_ble_eq_true rfl)) dL_wideEnd_4 ⟨Nat.le_of_ble_eq_true rfl, Nat.le_of_ble_eq_true rfl⟩) hS (fun q _ h => hFc q h) hFc (fun q _ h => hFc q h) (fun E ce q9 u9 t H locs ht hvm hpx hbx hz hk hS hce hcv hcl => ?_) (fun r_1 u t H locs ht hvm hw hB hz hk hS => ?_)
  · have c_2 : ¬ (o_X2_wideEnd a1 f1 p1 p2).1 = 0 := hpx
    obtain ⟨hbe, hP1, hD1⟩ := hbx
    rw [ht] at hP1
    obtain ⟨hP, hD⟩ := va_join (wr := [(ho, eO nv sv)]) (w1 := [(h0, eE h1 h2 kn), (h1, eR hw1 hc1 hb1 a1 r1), (hw1, eW true), (hc1, eA cy f1), (hb1, eA cy g1), (h2, eR hw2 hc2 hb2 a2 r2), (hw2, eW false), (hc2, eA cy f2), (hb2, eA cy g2)]) hP hD [0, 1, 2, 3, 4, 5, 6, 7, 8] [9] rfl rfl (by decide +kernel) (by decide +kernel) hk hFc hP1 hD1
    have hP := hP.sub (ws' := [(h0, eE h1 h2 kn), (h1, eR hw1 hc1 hb1 a1 r1), (hw1, eW true), (hc1, eA cy f1), (hb1, eA cy g1), (h2, eR hw2 hc2 hb2 a2 r2), (hw2, eW false), (hc2, eA cy f2), (hb2, eA cy g2), (ho, eO nv sv)]) [1, 2, 3, 4, 5, 6, 7, 8, 9, 0] rfl
    have hD := hD.sub (ws' := [(h0, eE h1 h2 kn), (h1, eR hw1 hc1 hb1 a1 r1), (hw1, eW true), (hc1, eA cy f1), (hb1, eA cy g1), (h2, eR hw2 hc2 hb2 a2 r2), (hw2, eW false), (hc2, eA cy f2), (hb2, eA cy g2), (ho, eO nv sv)]) [1, 2, 3, 4, 5, 6, 7, 8, 9, 0] (by decide +kernel) rfl
    have hE : E = "java/lang/IndexOutOfBoundsException" := hbe.trans (by rw [show (o_X2_wideEnd a1 f1 p1 p2).1 = 1 from (xr_X2_wideEnd _ _ _ _ c_2)]; rfl)
    subst hE
    refine vx_catch (own := RL) (name := "java/lang/IndexOutOfBoundsException") hown [] ⟨0, 11, 14, 19⟩ [] htab (fun z hz => absurd hz List.not_mem_nil) (by decide +kernel) (by decide +kernel) (hts (.classLink RL 19 "java/lang/IndexOutOfBoundsException") (by decide +kernel)) (va_Nw.use rfl (hG.1 (.castable "java/lang/IndexOutOfBoundsException" "java/lang/IndexOutOfBoundsException") (List.mem_of_getElem? (i := 11) rfl))) hce hcv hcl ?_
    refine lv_astore (lv' := [(4, .ref q9), (0, .ref h0), (1, .int (b2i p1)), (2, .int p2), (3, .ref ho)]) hx hb dL_wideEnd_14 hl (by decide +kernel) rfl (fun ls hl => ?_)
    refine lv_iconst (v := 1) hx hb dL_wideEnd_16 (by decide +kernel) ?_
    have he : o_L_wideEnd a1 f1 nv p1 p2 = (1, a1, f1, nv) := by (rw [o_L_wideEnd, if_neg c_2]) <;> rfl
    refine W.widen (k := 1) (n := 6) (by omega) (by omega) ?_
    exact W.iret (v := 1) hx hb hr (fun t ht hW => ⟨⟨_, (), rfl, (by (rw [he]) <;> rfl), (by rw [he]; exact ⟨by rw [ht]; exact hP, hD⟩)⟩, hS.F ht⟩) hS.2.2 dL_wideEnd_17
  · skip
    obtain ⟨c_3, hw⟩ := hw
    have c_3 : (o_X2_wideEnd a1 f1 p1 p2).1 = 0 := c_3
    replace hw : r_1 = (o_X2_wideEnd a1 f1 p1 p2).2.1 := hw
    subst r_1
    obtain ⟨hP1, hD1⟩ := hB
    rw [ht] at hP1
    obtain ⟨hP, hD⟩ := va_join (wr := [(ho, eO nv sv)]) (w1 := [(h0, eE h1 h2 kn), (h1, eR hw1 hc1 hb1 (o_X2_wideEnd a1 f1 p1 p2).2.2.1 r1), (hw1, eW true), (hc1, eA cy (o_X2_wideEnd a1 f1 p1 p2).2.2.2), (hb1, eA cy g1), (h2, eR hw2 hc2 hb2 a2 r2), (hw2, eW false), (hc2, eA cy f2), (hb2, eA cy g2)]) hP hD [0, 1, 2, 3, 4, 5, 6, 7, 8] [9] rfl rfl (by decide +kernel) (by decide +kernel) hk hFc hP1 hD1
    have hP := hP.sub (ws' := [(h0, eE h1 h2 kn), (h1, eR hw1 hc1 hb1 (o_X2_wideEnd a1 f1 p1 p2).2.2.1 r1), (hw1, eW true), (hc1, eA cy (o_X2_wideEnd a1 f1 p1 p2).2.2.2), (hb1, eA cy g1), (h2, eR hw2 hc2 hb2 a2 r2), (hw2, eW false), (hc2, eA cy f2), (hb2, eA cy g2), (ho, eO nv sv)]) [1, 2, 3, 4, 5, 6, 7, 8, 9, 0] rfl
    have hD := hD.sub (ws' := [(h0, eE h1 h2 kn), (h1, eR hw1 hc1 hb1 (o_X2_wideEnd a1 f1 p1 p2).2.2.1 r1), (hw1, eW true), (hc1, eA cy (o_X2_wideEnd a1 f1 p1 p2).2.2.2), (hb1, eA cy g1), (h2, eR hw2 hc2 hb2 a2 r2), (hw2, eW false), (hc2, eA cy f2), (hb2, eA cy g2), (ho, eO nv sv)]) [1, 2, 3, 4, 5, 6, 7, 8, 9, 0] (by decide +kernel) rfl
    refine lv_i2l (v := (((o_X2_wideEnd a1 f1 p1 p2).2.1).toInt64)) hx hb dL_wideEnd_7 rfl ?_
    refine va_putN (D := (dC, dI)) (ci := 5) (v := .long (((o_X2_wideEnd a1 f1 p1 p2).2.1).toInt64)) (ty := .long) (C := RX3) (T := TX3) (N := 2) hx hb hts (by decide +kernel) tyX3 tyX3_ok nmX3 hown hK hP hD hS 9 rfl rfl 0 (by decide +kernel) (va_Nw.use rfl (hG.1 (.fieldLinkNest RL 13 "EdgefloatsLaw$Out" "n" "J" RL) (List.mem_of_getElem? (i := 6) rfl))) (fun _ h9 => h9) rfl (by decide +kernel) rfl rfl (Nat.le_of_ble_eq_true rfl) dL_wideEnd_8 (fun H locs hP hD hS => ?_)
    have hP : va_P (dC, dI) xCl [(h0, eE h1 h2 kn), (h1, eR hw1 hc1 hb1 (o_X2_wideEnd a1 f1 p1 p2).2.2.1 r1), (hw1, eW true), (hc1, eA cy (o_X2_wideEnd a1 f1 p1 p2).2.2.2), (hb1, eA cy g1), (h2, eR hw2 hc2 hb2 a2 r2), (hw2, eW false), (hc2, eA cy f2), (hb2, eA cy g2), (ho, eO (((o_X2_wideEnd a1 f1 p1 p2).2.1).toInt64) sv)] H := hP
    have hD : va_D A [(h0, eE h1 h2 kn), (h1, eR hw1 hc1 hb1 (o_X2_wideEnd a1 f1 p1 p2).2.2.1 r1), (hw1, eW true), (hc1, eA cy (o_X2_wideEnd a1 f1 p1 p2).2.2.2), (hb1, eA cy g1), (h2, eR hw2 hc2 hb2 a2 r2), (hw2, eW false), (hc2, eA cy f2), (hb2, eA cy g2), (ho, eO (((o_X2_wideEnd a1 f1 p1 p2).2.1).toInt64) sv)] := hD
    refine lv_goto (tgt := 18) hx hb dL_wideEnd_11 (by decide +kernel) ?_
    refine lv_iconst (v := 0) hx hb dL_wideEnd_18 (by decide +kernel) ?_
    have he : o_L_wideEnd a1 f1 nv p1 p2 = (0, (o_X2_wideEnd a1 f1 p1 p2).2.2.1, (o_X2_wideEnd a1 f1 p1 p2).2.2.2, (((o_X2_wideEnd a1 f1 p1 p2).2.1).toInt64)) := by (rw [o_L_wideEnd, if_pos c_3]) <;> rfl
    refine W.widen (k := 1) (n := 6) (by omega) (by omega) ?_
    exact W.iret (v := 0) hx hb hr (fun t ht hW => ⟨⟨_, (), rfl, (by (rw [he]) <;> rfl), (by rw [he]; exact ⟨by rw [ht]; exact hP, hD⟩)⟩, hS.F ht⟩) hS.2.2 dL_wideEnd_19
theorem cl_L_upper_1 : ∀ w ∈ [.classLink RL 19 "java/lang/IndexOutOfBoundsException", .methodLink RL 53 yX2_upper, .instanceMethod yX2_upper, .selects RX2 yX2_upper yX2_upper, .initialized RX2, .code yX2_upper cX2_upper 2 (some .int), .fieldLink RX2 20 "Edgefloats" "wide" "LEdgefloats$Row;", .methodLink RX2 65 yX0_firstHalf, .instanceMethod yX0_firstHalf, .selects RX0 yX0_firstHalf yX0_firstHalf, .initialized RX0, .code yX0_firstHalf cX0_firstHalf 2 (some .int), .fieldLink RX0 15 "Edgefloats$Row" "cells" "[J", .static yX2_checkCell, .code yX2_checkCell cX2_checkCell 1 none, .classLink RX2 148 "java/lang/IndexOutOfBoundsException", .initialized "java/lang/IndexOutOfBoundsException"], w ∈ wsL_upper := fun _ h => (List.mem_cons_of_mem _ (List.mem_append_left _ (List.mem_append_left _ (List.mem_append_left _ (List.mem_append_left _ h)))))
theorem cl_L_upper_2 : ∀ w ∈ wsX30, w ∈ wsL_upper := fun _ h => (List.mem_cons_of_mem _ (List.mem_append_left _ (List.mem_append_left _ (List.mem_append_left _ (List.mem_append_right _ h)))))
theorem cl_L_upper_3 : ∀ w ∈ wsX20, w ∈ wsL_upper := fun _ h => (List.mem_cons_of_mem _ (List.mem_append_left _ (List.mem_append_left _ (List.mem_append_right _ h))))
theorem cl_L_upper_4 : ∀ w ∈ wsX00, w ∈ wsL_upper := fun _ h => (List.mem_cons_of_mem _ (List.mem_append_left _ (List.mem_append_right _ h)))
theorem cl_L_upper_5 : ∀ w ∈ (vx_atS RX2 152 "java/lang/IndexOutOfBoundsException" ["java/lang/RuntimeException", "java/lang/Exception"]).filter goodWord, w ∈ wsL_upper := fun _ h => (List.mem_cons_of_mem _ (List.mem_append_right _ h))
set_option maxRecDepth 20000 in
theorem ggL_upper_X2_upper : GoodIn wsL_upper wsX2_upper := goodIn_sub (List.forall_mem_cons.mpr ⟨(cl_L_upper_1 _ (List.mem_of_getElem? (i := 5) rfl)), fun w h => (List.mem_append.mp h).elim ((fun w h => (List.mem_append.mp h).elim ((fun w h => (List.mem_append.mp h).elim ((List.forall_mem_cons.mpr ⟨(cl_L_upper_1 _ (List.mem_of_getElem? (i := 6) rfl)), List.forall_mem_cons.mpr ⟨(cl_L_upper_1 _ (List.mem_of_getElem? (i := 7) rfl)), List.forall_mem_cons.mpr ⟨(cl_L_upper_1 _ (List.mem_of_getElem? (i := 8) rfl)), List.forall_mem_cons.mpr ⟨(cl_L_upper_1 _ (List.mem_of_getElem? (i := 9) rfl)), List.forall_mem_cons.mpr ⟨(cl_L_upper_1 _ (List.mem_of_getElem? (i := 10) rfl)), List.forall_mem_cons.mpr ⟨(cl_L_upper_1 _ (List.mem_of_getElem? (i := 11) rfl)), List.forall_mem_cons.mpr ⟨(cl_L_upper_1 _ (List.mem_of_getElem? (i := 12) rfl)), List.forall_mem_cons.mpr ⟨(cl_L_upper_1 _ (List.mem_of_getElem? (i := 13) rfl)), List.forall_mem_cons.mpr ⟨(cl_L_upper_1 _ (List.mem_of_getElem? (i := 4) rfl)), List.forall_mem_cons.mpr ⟨(cl_L_upper_1 _ (List.mem_of_getElem? (i := 14) rfl)), List.forall_mem_cons.mpr ⟨(cl_L_upper_1 _ (List.mem_of_getElem? (i := 15) rfl)), List.forall_mem_cons.mpr ⟨(cl_L_upper_1 _ (List.mem_of_getElem? (i := 16) rfl)), fun _ h => absurd h List.not_mem_nil⟩⟩⟩⟩⟩⟩⟩⟩⟩⟩⟩⟩) w) ((cl_L_upper_3) w)) w) ((cl_L_upper_4) w)) w) ((cl_L_upper_5) w)⟩) (by decide +kernel)
set_option maxRecDepth 20000 in
theorem gL_upper_X2_upper : GoodIn wsL_upper (wsV RL 53 RX2 yX2_upper wsX2_upper) := goodIn_app (goodIn_sub (List.forall_mem_cons.mpr ⟨(cl_L_upper_1 _ (List.mem_of_getElem? (i := 1) rfl)), List.forall_mem_cons.mpr ⟨(cl_L_upper_1 _ (List.mem_of_getElem? (i := 2) rfl)), List.forall_mem_cons.mpr ⟨(cl_L_upper_1 _ (List.mem_of_getElem? (i := 3) rfl)), List.forall_mem_cons.mpr ⟨(cl_L_upper_1 _ (List.mem_of_getElem? (i := 4) rfl)), fun _ h => absurd h List.not_mem_nil⟩⟩⟩⟩) (by decide +kernel)) ggL_upper_X2_upper
noncomputable def dz_p16_11 : List (Nat × Instr × Nat) := [(0, (.aload_n 2, 1)), (1, (.aload_n 0, 1)), (2, (.iload_n 1, 1)), (3, (.invokevirtual 53, 3)), (6, (.i2l, 1)), (7, (.putfield 13, 3)), (10, (.goto 6, 3)), (13, (.astore_n 3, 1)), (14, (.iconst 1, 1)), (15, (.ireturn, 1)), (16, (.iconst 0, 1)), (17, (.ireturn, 1))]
theorem dy_p16_11 : dz_ok cL_upper dz_p16_11 = true := by decide +kernel
theorem dL_upper_0 : decode cL_upper 0 = .ok (.aload_n 2, 1) := dz_at (i := 0) dy_p16_11 rfl
theorem dL_upper_1 : decode cL_upper 1 = .ok (.aload_n 0, 1) := dz_at (i := 1) dy_p16_11 rfl
theorem dL_upper_2 : decode cL_upper 2 = .ok (.iload_n 1, 1) := dz_at (i := 2) dy_p16_11 rfl
theorem dL_upper_3 : decode cL_upper 3 = .ok (.invokevirtual 53, 3) := dz_at (i := 3) dy_p16_11 rfl
theorem dL_upper_6 : decode cL_upper 6 = .ok (.i2l, 1) := dz_at (i := 4) dy_p16_11 rfl
theorem dL_upper_7 : decode cL_upper 7 = .ok (.putfield 13, 3) := dz_at (i := 5) dy_p16_11 rfl
theorem dL_upper_10 : decode cL_upper 10 = .ok (.goto 6, 3) := dz_at (i := 6) dy_p16_11 rfl
theorem dL_upper_13 : decode cL_upper 13 = .ok (.astore_n 3, 1) := dz_at (i := 7) dy_p16_11 rfl
theorem dL_upper_14 : decode cL_upper 14 = .ok (.iconst 1, 1) := dz_at (i := 8) dy_p16_11 rfl
theorem dL_upper_15 : decode cL_upper 15 = .ok (.ireturn, 1) := dz_at (i := 9) dy_p16_11 rfl
theorem dL_upper_16 : decode cL_upper 16 = .ok (.iconst 0, 1) := dz_at (i := 10) dy_p16_11 rfl
theorem dL_upper_17 : decode cL_upper 17 = .ok (.ireturn, 1) := dz_at (i := 11) dy_p16_11 rfl
noncomputable def o_L_upper (f1 : Nat → Int64) (nv : Int64) (p1 : Int32) : Int32 × Int64 :=
  if (o_X2_upper f1 p1).1 = 0 then (0, (((o_X2_upper f1 p1).2).toInt64))
  else (1, nv)
set_option maxHeartbeats 4000000 in
set_option maxRecDepth 100000 in
theorem k_L_upper (l : Launch) (hfl : l.flags = flags0) (dC : Nat → ClassId) (dI : Nat → Nat → Nat) (cy : ClassId) (h0 : Nat) (h1 : Nat) (hw1 : Nat) (hc1 : Nat) (hb1 : Nat) (h2 : Nat) (hw2 : Nat) (hc2 : Nat) (hb2 : Nat) (a1 : Int32) (r1 : Int32) (f1 : Nat → Int64) (g1 : Nat → Int64) (a2 : Int32) (r2 : Int32) (f2 : Nat → Int64) (g2 : Nat → Int64) (kn : Int32) (ho : Nat) (nv : Int64) (sv : Value) (sz : Nat) (N : Nat) (p1 : Int32) : Met l yL_upper wsL_upper ({ frames := 9, cells := 1, slots := 6, locals := 162 }) (va_Pc [.ref h0, .int p1, .ref ho] (xL (dC, dI) xCl [(h0, eE h1 h2 kn), (h1, eR hw1 hc1 hb1 a1 r1), (hw1, eW true), (hc1, eA cy f1), (hb1, eA cy g1), (h2, eR hw2 hc2 hb2 a2 r2), (hw2, eW false), (hc2, eA cy f2), (hb2, eA cy g2), (ho, eO nv sv)] [(cy, .long)] sz N)) (va_Qi (fun (r : Int32) (_ : Unit) => r = (o_L_upper f1 nv p1).1) (fun _ t => xW (dC, dI) xCl [(h0, eE h1 h2 kn), (h1, eR hw1 hc1 hb1 a1 r1), (hw1, eW true), (hc1, eA cy f1), (hb1, eA cy g1), (h2, eR hw2 hc2 hb2 a2 r2), (hw2, eW false), (hc2, eA cy f2), (hb2, eA cy g2), (ho, eO (o_L_upper f1 nv p1).2 sv)] (va_A [(h0, eE h1 h2 kn), (h1, eR hw1 hc1 hb1 a1 r1), (hw1, eW true), (hc1, eA cy f1), (hb1, eA cy g1), (h2, eR hw2 hc2 hb2 a2 r2), (hw2, eW false), (hc2, eA cy f2), (hb2, eA cy g2), (ho, eO nv sv)] sz) t) (va_A [(h0, eE h1 h2 kn), (h1, eR hw1 hc1 hb1 a1 r1), (hw1, eW true), (hc1, eA cy f1), (hb1, eA cy g1), (h2, eR hw2 hc2 hb2 a2 r2), (hw2, eW false), (hc2, eA cy f2), (hb2, eA cy g2), (ho, eO nv sv)] sz)) 1 6 (va_A [(h0, eE h1 h2 kn), (h1, eR hw1 hc1 hb1 a1 r1), (hw1, eW true), (hc1, eA cy f1), (hb1, eA cy g1), (h2, eR hw2 hc2 hb2 a2 r2), (hw2, eW false), (hc2, eA cy f2), (hb2, eA cy g2), (ho, eO nv sv)] sz) := by
  refine va_MetW (cc := cL_upper) (maxL := 4) (ret := (some .int)) (by decide +kernel) rfl ?_
  intro p e s m args below meth c s₁ B hml hv
  obtain ⟨rfl, ⟨hsz, hP, hK, hD0, hN, hG⟩, hnc⟩ := hv
  have hx := B.exec
  have hb := B.bytes
  have hr := B.returns
  have hts := atoms_spec (ws := wsL_upper) B.pre
  have hown : s.vm.findClass RL = some m.cls := findClass_of_methodNamed B.named
  have hlocks := B.notSynchronized
  have htab := vx_table (x := yL_upper) B (hts _ List.mem_cons_self)
  subst hsz
  have hAN : ∀ q, va_A [(h0, eE h1 h2 kn), (h1, eR hw1 hc1 hb1 a1 r1), (hw1, eW true), (hc1, eA cy f1), (hb1, eA cy g1), (h2, eR hw2 hc2 hb2 a2 r2), (hw2, eW false), (hc2, eA cy f2), (hb2, eA cy g2), (ho, eO nv sv)] s.heap.size q → N ≤ q := xA_N hD0 hN
  have hD := hD0.self (sz := s.heap.size)
  generalize hAe : va_A [(h0, eE h1 h2 kn), (h1, eR hw1 hc1 hb1 a1 r1), (hw1, eW true), (hc1, eA cy f1), (hb1, eA cy g1), (h2, eR hw2 hc2 hb2 a2 r2), (hw2, eW false), (hc2, eA cy f2), (hb2, eA cy g2), (ho, eO nv sv)] s.heap.size = A at hD hAN ⊢
  have hA : ∀ q : Nat, s.heap.size ≤ q → A q := fun q h => by rw [← hAe]; exact Or.inr h
  have hS : va_S A s.heap s.heap [] := va_S.rf
  have hP : va_P (dC, dI) xCl [(h0, eE h1 h2 kn), (h1, eR hw1 hc1 hb1 a1 r1), (hw1, eW true), (hc1, eA cy f1), (hb1, eA cy g1), (h2, eR hw2 hc2 hb2 a2 r2), (hw2, eW false), (hc2, eA cy f2), (hb2, eA cy g2), (ho, eO nv sv)] s.heap := hP
  have hl := lv_entry ([.ref h0, .int p1, .ref ho]) (n := 4) (Nat.le_of_ble_eq_true rfl)
  rw [lg_entry_eq]
  generalize (lg_sl ([.ref h0, .int p1, .ref ho]) ++ List.replicate (4 - (lg_sl ([.ref h0, .int p1, .ref ho])).length) Slot.unset).toArray = ls at hl ⊢
  have hl : lv_has ls 4 [(0, .ref h0), (1, .int p1), (2, .ref ho)] := hl
  refine lv_aload_n hx hb dL_upper_0 rfl (lv_at hl 2 rfl) ?_
  refine lv_aload_n hx hb dL_upper_1 rfl (lv_at hl 0 rfl) ?_
  refine lv_iload_n hx hb dL_upper_2 rfl (lv_at hl 1 rfl) ?_
  have hPc := hP.sub (ws' := [(h0, eE h1 h2 kn), (h1, eR hw1 hc1 hb1 a1 r1), (hw1, eW true), (hc1, eA cy f1), (hb1, eA cy g1), (h2, eR hw2 hc2 hb2 a2 r2), (hw2, eW false), (hc2, eA cy f2), (hb2, eA cy g2)]) [0, 1, 2, 3, 4, 5, 6, 7, 8] rfl
  have hDc := hD.sub (ws' := [(h0, eE h1 h2 kn), (h1, eR hw1 hc1 hb1 a1 r1), (hw1, eW true), (hc1, eA cy f1), (hb1, eA cy g1), (h2, eR hw2 hc2 hb2 a2 r2), (hw2, eW false), (hc2, eA cy f2), (hb2, eA cy g2)]) [0, 1, 2, 3, 4, 5, 6, 7, 8] (by decide +kernel) rfl
  have hKc := hK.sub (tys' := [(cy, .long)]) [0] rfl
  refine vx_calli (vx_runV (As := [.int p1]) (rest := [.ref ho]) ⟨hx, hb, hml, hown, hts⟩ (k_X2_upper l hfl dC dI cy h0 h1 hw1 hc1 hb1 h2 hw2 hc2 hb2 a1 r1 f1 g1 a2 r2 f2 g2 kn s.heap.size N p1) (cwV 1 hts gL_upper_X2_upper rfl rfl rfl (by decide +kernel) ⟨Nat.le_of_ble_eq_true rfl, Nat.le_of_ble_eq_true rfl⟩) (xM.preV hKc hPc hDc hAN (Nat.le_trans hN hS.1) (hG.kept hS hAN) (ci := 4) (q0 := 0) rfl rfl) rfl rfl hl.1 rfl (lv_room (Nat.le_of_ble_eq_true rfl)) dL_upper_3 ⟨Nat.le_of_ble_eq_true rfl, Nat.le_of_ble_eq_true rfl⟩) hS xA_old (fun q h => hA q (Nat.le_trans hS.1 h)) xA_old (fun E ce q9 u9 t H locs ht hvm hpx hbx hz hk hS hce hcv hcl => ?_) (fun r_1 u t H locs ht hvm hw hB hz hk hS => ?_)
  · have c_2 : ¬ (o_X2_upper f1 p1).1 = 0 := hpx
    have hbe := hbx
    have hP := xP_keep hP hk
    have hE : E = "java/lang/IndexOutOfBoundsException" := hbe.trans (by rw [show (o_X2_upper f1 p1).1 = 1 from (xr_X2_upper _ _ c_2)]; rfl)
    subst hE
    refine vx_catch (own := RL) (name := "java/lang/IndexOutOfBoundsException") hown [] ⟨0, 10, 13, 19⟩ [] htab (fun z hz => absurd hz List.not_mem_nil) (by decide +kernel) (by decide +kernel) (hts (.classLink RL 19 "java/lang/IndexOutOfBoundsException") (by decide +kernel)) (va_Nw.use rfl (hG.1 (.castable "java/lang/IndexOutOfBoundsException" "java/lang/IndexOutOfBoundsException") (List.mem_of_getElem? (i := 11) rfl))) hce hcv hcl ?_
    refine lv_astore_n (lv' := [(3, .ref q9), (0, .ref h0), (1, .int p1), (2, .ref ho)]) hx hb dL_upper_13 rfl hl (by decide +kernel) rfl (fun ls hl => ?_)
    refine lv_iconst (v := 1) hx hb dL_upper_14 (by decide +kernel) ?_
    have he : o_L_upper f1 nv p1 = (1, nv) := by (rw [o_L_upper, if_neg c_2]) <;> rfl
    refine W.widen (k := 1) (n := 6) (by omega) (by omega) ?_
    exact W.iret (v := 1) hx hb hr (fun t ht hW => ⟨⟨_, (), rfl, (by (rw [he]) <;> rfl), (by rw [he]; exact ⟨by rw [ht]; exact hP, hD⟩)⟩, hS.F ht⟩) hS.2.2 dL_upper_15
  · skip
    obtain ⟨c_3, hw⟩ := hw
    have c_3 : (o_X2_upper f1 p1).1 = 0 := c_3
    replace hw : r_1 = (o_X2_upper f1 p1).2 := hw
    subst r_1
    have hP := xP_keep hP hk
    refine lv_i2l (v := (((o_X2_upper f1 p1).2).toInt64)) hx hb dL_upper_6 rfl ?_
    refine va_putN (D := (dC, dI)) (ci := 5) (v := .long (((o_X2_upper f1 p1).2).toInt64)) (ty := .long) (C := RX3) (T := TX3) (N := 2) hx hb hts (by decide +kernel) tyX3 tyX3_ok nmX3 hown hK hP hD hS 9 rfl rfl 0 (by decide +kernel) (va_Nw.use rfl (hG.1 (.fieldLinkNest RL 13 "EdgefloatsLaw$Out" "n" "J" RL) (List.mem_of_getElem? (i := 6) rfl))) (fun _ h9 => h9) rfl (by decide +kernel) rfl rfl (Nat.le_of_ble_eq_true rfl) dL_upper_7 (fun H locs hP hD hS => ?_)
    have hP : va_P (dC, dI) xCl [(h0, eE h1 h2 kn), (h1, eR hw1 hc1 hb1 a1 r1), (hw1, eW true), (hc1, eA cy f1), (hb1, eA cy g1), (h2, eR hw2 hc2 hb2 a2 r2), (hw2, eW false), (hc2, eA cy f2), (hb2, eA cy g2), (ho, eO (((o_X2_upper f1 p1).2).toInt64) sv)] H := hP
    have hD : va_D A [(h0, eE h1 h2 kn), (h1, eR hw1 hc1 hb1 a1 r1), (hw1, eW true), (hc1, eA cy f1), (hb1, eA cy g1), (h2, eR hw2 hc2 hb2 a2 r2), (hw2, eW false), (hc2, eA cy f2), (hb2, eA cy g2), (ho, eO (((o_X2_upper f1 p1).2).toInt64) sv)] := hD
    refine lv_goto (tgt := 16) hx hb dL_upper_10 (by decide +kernel) ?_
    refine lv_iconst (v := 0) hx hb dL_upper_16 (by decide +kernel) ?_
    have he : o_L_upper f1 nv p1 = (0, (((o_X2_upper f1 p1).2).toInt64)) := by (rw [o_L_upper, if_pos c_3]) <;> rfl
    refine W.widen (k := 1) (n := 6) (by omega) (by omega) ?_
    exact W.iret (v := 0) hx hb hr (fun t ht hW => ⟨⟨_, (), rfl, (by (rw [he]) <;> rfl), (by rw [he]; exact ⟨by rw [ht]; exact hP, hD⟩)⟩, hS.F ht⟩) hS.2.2 dL_upper_17
theorem cl_L_lower_1 : ∀ w ∈ [.classLink RL 19 "java/lang/IndexOutOfBoundsException", .methodLink RL 56 yX2_lower, .instanceMethod yX2_lower, .selects RX2 yX2_lower yX2_lower, .initialized RX2, .code yX2_lower cX2_lower 2 (some .int), .fieldLink RX2 20 "Edgefloats" "wide" "LEdgefloats$Row;", .methodLink RX2 68 yX0_lastHalf, .instanceMethod yX0_lastHalf, .selects RX0 yX0_lastHalf yX0_lastHalf, .initialized RX0, .code yX0_lastHalf cX0_lastHalf 2 (some .int), .fieldLink RX0 15 "Edgefloats$Row" "cells" "[J", .static yX2_checkCell, .code yX2_checkCell cX2_checkCell 1 none, .classLink RX2 148 "java/lang/IndexOutOfBoundsException", .initialized "java/lang/IndexOutOfBoundsException"], w ∈ wsL_lower := fun _ h => (List.mem_cons_of_mem _ (List.mem_append_left _ (List.mem_append_left _ (List.mem_append_left _ (List.mem_append_left _ h)))))
theorem cl_L_lower_2 : ∀ w ∈ wsX30, w ∈ wsL_lower := fun _ h => (List.mem_cons_of_mem _ (List.mem_append_left _ (List.mem_append_left _ (List.mem_append_left _ (List.mem_append_right _ h)))))
theorem cl_L_lower_3 : ∀ w ∈ wsX20, w ∈ wsL_lower := fun _ h => (List.mem_cons_of_mem _ (List.mem_append_left _ (List.mem_append_left _ (List.mem_append_right _ h))))
theorem cl_L_lower_4 : ∀ w ∈ wsX00, w ∈ wsL_lower := fun _ h => (List.mem_cons_of_mem _ (List.mem_append_left _ (List.mem_append_right _ h)))
theorem cl_L_lower_5 : ∀ w ∈ (vx_atS RX2 152 "java/lang/IndexOutOfBoundsException" ["java/lang/RuntimeException", "java/lang/Exception"]).filter goodWord, w ∈ wsL_lower := fun _ h => (List.mem_cons_of_mem _ (List.mem_append_right _ h))
set_option maxRecDepth 20000 in
theorem ggL_lower_X2_lower : GoodIn wsL_lower wsX2_lower := goodIn_sub (List.forall_mem_cons.mpr ⟨(cl_L_lower_1 _ (List.mem_of_getElem? (i := 5) rfl)), fun w h => (List.mem_append.mp h).elim ((fun w h => (List.mem_append.mp h).elim ((fun w h => (List.mem_append.mp h).elim ((List.forall_mem_cons.mpr ⟨(cl_L_lower_1 _ (List.mem_of_getElem? (i := 6) rfl)), List.forall_mem_cons.mpr ⟨(cl_L_lower_1 _ (List.mem_of_getElem? (i := 7) rfl)), List.forall_mem_cons.mpr ⟨(cl_L_lower_1 _ (List.mem_of_getElem? (i := 8) rfl)), List.forall_mem_cons.mpr ⟨(cl_L_lower_1 _ (List.mem_of_getElem? (i := 9) rfl)), List.forall_mem_cons.mpr ⟨(cl_L_lower_1 _ (List.mem_of_getElem? (i := 10) rfl)), List.forall_mem_cons.mpr ⟨(cl_L_lower_1 _ (List.mem_of_getElem? (i := 11) rfl)), List.forall_mem_cons.mpr ⟨(cl_L_lower_1 _ (List.mem_of_getElem? (i := 12) rfl)), List.forall_mem_cons.mpr ⟨(cl_L_lower_1 _ (List.mem_of_getElem? (i := 13) rfl)), List.forall_mem_cons.mpr ⟨(cl_L_lower_1 _ (List.mem_of_getElem? (i := 4) rfl)), List.forall_mem_cons.mpr ⟨(cl_L_lower_1 _ (List.mem_of_getElem? (i := 14) rfl)), List.forall_mem_cons.mpr ⟨(cl_L_lower_1 _ (List.mem_of_getElem? (i := 15) rfl)), List.forall_mem_cons.mpr ⟨(cl_L_lower_1 _ (List.mem_of_getElem? (i := 16) rfl)), fun _ h => absurd h List.not_mem_nil⟩⟩⟩⟩⟩⟩⟩⟩⟩⟩⟩⟩) w) ((cl_L_lower_3) w)) w) ((cl_L_lower_4) w)) w) ((cl_L_lower_5) w)⟩) (by decide +kernel)
set_option maxRecDepth 20000 in
theorem gL_lower_X2_lower : GoodIn wsL_lower (wsV RL 56 RX2 yX2_lower wsX2_lower) := goodIn_app (goodIn_sub (List.forall_mem_cons.mpr ⟨(cl_L_lower_1 _ (List.mem_of_getElem? (i := 1) rfl)), List.forall_mem_cons.mpr ⟨(cl_L_lower_1 _ (List.mem_of_getElem? (i := 2) rfl)), List.forall_mem_cons.mpr ⟨(cl_L_lower_1 _ (List.mem_of_getElem? (i := 3) rfl)), List.forall_mem_cons.mpr ⟨(cl_L_lower_1 _ (List.mem_of_getElem? (i := 4) rfl)), fun _ h => absurd h List.not_mem_nil⟩⟩⟩⟩) (by decide +kernel)) ggL_lower_X2_lower
noncomputable def dz_p16_12 : List (Nat × Instr × Nat) := [(0, (.aload_n 2, 1)), (1, (.aload_n 0, 1)), (2, (.iload_n 1, 1)), (3, (.invokevirtual 56, 3)), (6, (.i2l, 1)), (7, (.putfield 13, 3)), (10, (.goto 6, 3)), (13, (.astore_n 3, 1)), (14, (.iconst 1, 1)), (15, (.ireturn, 1)), (16, (.iconst 0, 1)), (17, (.ireturn, 1))]
theorem dy_p16_12 : dz_ok cL_lower dz_p16_12 = true := by decide +kernel
theorem dL_lower_0 : decode cL_lower 0 = .ok (.aload_n 2, 1) := dz_at (i := 0) dy_p16_12 rfl
theorem dL_lower_1 : decode cL_lower 1 = .ok (.aload_n 0, 1) := dz_at (i := 1) dy_p16_12 rfl
theorem dL_lower_2 : decode cL_lower 2 = .ok (.iload_n 1, 1) := dz_at (i := 2) dy_p16_12 rfl
theorem dL_lower_3 : decode cL_lower 3 = .ok (.invokevirtual 56, 3) := dz_at (i := 3) dy_p16_12 rfl
theorem dL_lower_6 : decode cL_lower 6 = .ok (.i2l, 1) := dz_at (i := 4) dy_p16_12 rfl
theorem dL_lower_7 : decode cL_lower 7 = .ok (.putfield 13, 3) := dz_at (i := 5) dy_p16_12 rfl
theorem dL_lower_10 : decode cL_lower 10 = .ok (.goto 6, 3) := dz_at (i := 6) dy_p16_12 rfl
theorem dL_lower_13 : decode cL_lower 13 = .ok (.astore_n 3, 1) := dz_at (i := 7) dy_p16_12 rfl
theorem dL_lower_14 : decode cL_lower 14 = .ok (.iconst 1, 1) := dz_at (i := 8) dy_p16_12 rfl
theorem dL_lower_15 : decode cL_lower 15 = .ok (.ireturn, 1) := dz_at (i := 9) dy_p16_12 rfl
theorem dL_lower_16 : decode cL_lower 16 = .ok (.iconst 0, 1) := dz_at (i := 10) dy_p16_12 rfl
theorem dL_lower_17 : decode cL_lower 17 = .ok (.ireturn, 1) := dz_at (i := 11) dy_p16_12 rfl
noncomputable def o_L_lower (f1 : Nat → Int64) (nv : Int64) (p1 : Int32) : Int32 × Int64 :=
  if (o_X2_lower f1 p1).1 = 0 then (0, (((o_X2_lower f1 p1).2).toInt64))
  else (1, nv)
set_option maxHeartbeats 4000000 in
set_option maxRecDepth 100000 in
theorem k_L_lower (l : Launch) (hfl : l.flags = flags0) (dC : Nat → ClassId) (dI : Nat → Nat → Nat) (cy : ClassId) (h0 : Nat) (h1 : Nat) (hw1 : Nat) (hc1 : Nat) (hb1 : Nat) (h2 : Nat) (hw2 : Nat) (hc2 : Nat) (hb2 : Nat) (a1 : Int32) (r1 : Int32) (f1 : Nat → Int64) (g1 : Nat → Int64) (a2 : Int32) (r2 : Int32) (f2 : Nat → Int64) (g2 : Nat → Int64) (kn : Int32) (ho : Nat) (nv : Int64) (sv : Value) (sz : Nat) (N : Nat) (p1 : Int32) : Met l yL_lower wsL_lower ({ frames := 9, cells := 1, slots := 6, locals := 162 }) (va_Pc [.ref h0, .int p1, .ref ho] (xL (dC, dI) xCl [(h0, eE h1 h2 kn), (h1, eR hw1 hc1 hb1 a1 r1), (hw1, eW true), (hc1, eA cy f1), (hb1, eA cy g1), (h2, eR hw2 hc2 hb2 a2 r2), (hw2, eW false), (hc2, eA cy f2), (hb2, eA cy g2), (ho, eO nv sv)] [(cy, .long)] sz N)) (va_Qi (fun (r : Int32) (_ : Unit) => r = (o_L_lower f1 nv p1).1) (fun _ t => xW (dC, dI) xCl [(h0, eE h1 h2 kn), (h1, eR hw1 hc1 hb1 a1 r1), (hw1, eW true), (hc1, eA cy f1), (hb1, eA cy g1), (h2, eR hw2 hc2 hb2 a2 r2), (hw2, eW false), (hc2, eA cy f2), (hb2, eA cy g2), (ho, eO (o_L_lower f1 nv p1).2 sv)] (va_A [(h0, eE h1 h2 kn), (h1, eR hw1 hc1 hb1 a1 r1), (hw1, eW true), (hc1, eA cy f1), (hb1, eA cy g1), (h2, eR hw2 hc2 hb2 a2 r2), (hw2, eW false), (hc2, eA cy f2), (hb2, eA cy g2), (ho, eO nv sv)] sz) t) (va_A [(h0, eE h1 h2 kn), (h1, eR hw1 hc1 hb1 a1 r1), (hw1, eW true), (hc1, eA cy f1), (hb1, eA cy g1), (h2, eR hw2 hc2 hb2 a2 r2), (hw2, eW false), (hc2, eA cy f2), (hb2, eA cy g2), (ho, eO nv sv)] sz)) 1 6 (va_A [(h0, eE h1 h2 kn), (h1, eR hw1 hc1 hb1 a1 r1), (hw1, eW true), (hc1, eA cy f1), (hb1, eA cy g1), (h2, eR hw2 hc2 hb2 a2 r2), (hw2, eW false), (hc2, eA cy f2), (hb2, eA cy g2), (ho, eO nv sv)] sz) := by
  refine va_MetW (cc := cL_lower) (maxL := 4) (ret := (some .int)) (by decide +kernel) rfl ?_
  intro p e s m args below meth c s₁ B hml hv
  obtain ⟨rfl, ⟨hsz, hP, hK, hD0, hN, hG⟩, hnc⟩ := hv
  have hx := B.exec
  have hb := B.bytes
  have hr := B.returns
  have hts := atoms_spec (ws := wsL_lower) B.pre
  have hown : s.vm.findClass RL = some m.cls := findClass_of_methodNamed B.named
  have hlocks := B.notSynchronized
  have htab := vx_table (x := yL_lower) B (hts _ List.mem_cons_self)
  subst hsz
  have hAN : ∀ q, va_A [(h0, eE h1 h2 kn), (h1, eR hw1 hc1 hb1 a1 r1), (hw1, eW true), (hc1, eA cy f1), (hb1, eA cy g1), (h2, eR hw2 hc2 hb2 a2 r2), (hw2, eW false), (hc2, eA cy f2), (hb2, eA cy g2), (ho, eO nv sv)] s.heap.size q → N ≤ q := xA_N hD0 hN
  have hD := hD0.self (sz := s.heap.size)
  generalize hAe : va_A [(h0, eE h1 h2 kn), (h1, eR hw1 hc1 hb1 a1 r1), (hw1, eW true), (hc1, eA cy f1), (hb1, eA cy g1), (h2, eR hw2 hc2 hb2 a2 r2), (hw2, eW false), (hc2, eA cy f2), (hb2, eA cy g2), (ho, eO nv sv)] s.heap.size = A at hD hAN ⊢
  have hA : ∀ q : Nat, s.heap.size ≤ q → A q := fun q h => by rw [← hAe]; exact Or.inr h
  have hS : va_S A s.heap s.heap [] := va_S.rf
  have hP : va_P (dC, dI) xCl [(h0, eE h1 h2 kn), (h1, eR hw1 hc1 hb1 a1 r1), (hw1, eW true), (hc1, eA cy f1), (hb1, eA cy g1), (h2, eR hw2 hc2 hb2 a2 r2), (hw2, eW false), (hc2, eA cy f2), (hb2, eA cy g2), (ho, eO nv sv)] s.heap := hP
  have hl := lv_entry ([.ref h0, .int p1, .ref ho]) (n := 4) (Nat.le_of_ble_eq_true rfl)
  rw [lg_entry_eq]
  generalize (lg_sl ([.ref h0, .int p1, .ref ho]) ++ List.replicate (4 - (lg_sl ([.ref h0, .int p1, .ref ho])).length) Slot.unset).toArray = ls at hl ⊢
  have hl : lv_has ls 4 [(0, .ref h0), (1, .int p1), (2, .ref ho)] := hl
  refine lv_aload_n hx hb dL_lower_0 rfl (lv_at hl 2 rfl) ?_
  refine lv_aload_n hx hb dL_lower_1 rfl (lv_at hl 0 rfl) ?_
  refine lv_iload_n hx hb dL_lower_2 rfl (lv_at hl 1 rfl) ?_
  have hPc := hP.sub (ws' := [(h0, eE h1 h2 kn), (h1, eR hw1 hc1 hb1 a1 r1), (hw1, eW true), (hc1, eA cy f1), (hb1, eA cy g1), (h2, eR hw2 hc2 hb2 a2 r2), (hw2, eW false), (hc2, eA cy f2), (hb2, eA cy g2)]) [0, 1, 2, 3, 4, 5, 6, 7, 8] rfl
  have hDc := hD.sub (ws' := [(h0, eE h1 h2 kn), (h1, eR hw1 hc1 hb1 a1 r1), (hw1, eW true), (hc1, eA cy f1), (hb1, eA cy g1), (h2, eR hw2 hc2 hb2 a2 r2), (hw2, eW false), (hc2, eA cy f2), (hb2, eA cy g2)]) [0, 1, 2, 3, 4, 5, 6, 7, 8] (by decide +kernel) rfl
  have hKc := hK.sub (tys' := [(cy, .long)]) [0] rfl
  refine vx_calli (vx_runV (As := [.int p1]) (rest := [.ref ho]) ⟨hx, hb, hml, hown, hts⟩ (k_X2_lower l hfl dC dI cy h0 h1 hw1 hc1 hb1 h2 hw2 hc2 hb2 a1 r1 f1 g1 a2 r2 f2 g2 kn s.heap.size N p1) (cwV 1 hts gL_lower_X2_lower rfl rfl rfl (by decide +kernel) ⟨Nat.le_of_ble_eq_true rfl, Nat.le_of_ble_eq_true rfl⟩) (xM.preV hKc hPc hDc hAN (Nat.le_trans hN hS.1) (hG.kept hS hAN) (ci := 4) (q0 := 0) rfl rfl) rfl rfl hl.1 rfl (lv_room (Nat.le_of_ble_eq_true rfl)) dL_lower_3 ⟨Nat.le_of_ble_eq_true rfl, Nat.le_of_ble_eq_true rfl⟩) hS xA_old (fun q h => hA q (Nat.le_trans hS.1 h)) xA_old (fun E ce q9 u9 t H locs ht hvm hpx hbx hz hk hS hce hcv hcl => ?_) (fun r_1 u t H locs ht hvm hw hB hz hk hS => ?_)
  · have c_2 : ¬ (o_X2_lower f1 p1).1 = 0 := hpx
    have hbe := hbx
    have hP := xP_keep hP hk
    have hE : E = "java/lang/IndexOutOfBoundsException" := hbe.trans (by rw [show (o_X2_lower f1 p1).1 = 1 from (xr_X2_lower _ _ c_2)]; rfl)
    subst hE
    refine vx_catch (own := RL) (name := "java/lang/IndexOutOfBoundsException") hown [] ⟨0, 10, 13, 19⟩ [] htab (fun z hz => absurd hz List.not_mem_nil) (by decide +kernel) (by decide +kernel) (hts (.classLink RL 19 "java/lang/IndexOutOfBoundsException") (by decide +kernel)) (va_Nw.use rfl (hG.1 (.castable "java/lang/IndexOutOfBoundsException" "java/lang/IndexOutOfBoundsException") (List.mem_of_getElem? (i := 11) rfl))) hce hcv hcl ?_
    refine lv_astore_n (lv' := [(3, .ref q9), (0, .ref h0), (1, .int p1), (2, .ref ho)]) hx hb dL_lower_13 rfl hl (by decide +kernel) rfl (fun ls hl => ?_)
    refine lv_iconst (v := 1) hx hb dL_lower_14 (by decide +kernel) ?_
    have he : o_L_lower f1 nv p1 = (1, nv) := by (rw [o_L_lower, if_neg c_2]) <;> rfl
    refine W.widen (k := 1) (n := 6) (by omega) (by omega) ?_
    exact W.iret (v := 1) hx hb hr (fun t ht hW => ⟨⟨_, (), rfl, (by (rw [he]) <;> rfl), (by rw [he]; exact ⟨by rw [ht]; exact hP, hD⟩)⟩, hS.F ht⟩) hS.2.2 dL_lower_15
  · skip
    obtain ⟨c_3, hw⟩ := hw
    have c_3 : (o_X2_lower f1 p1).1 = 0 := c_3
    replace hw : r_1 = (o_X2_lower f1 p1).2 := hw
    subst r_1
    have hP := xP_keep hP hk
    refine lv_i2l (v := (((o_X2_lower f1 p1).2).toInt64)) hx hb dL_lower_6 rfl ?_
    refine va_putN (D := (dC, dI)) (ci := 5) (v := .long (((o_X2_lower f1 p1).2).toInt64)) (ty := .long) (C := RX3) (T := TX3) (N := 2) hx hb hts (by decide +kernel) tyX3 tyX3_ok nmX3 hown hK hP hD hS 9 rfl rfl 0 (by decide +kernel) (va_Nw.use rfl (hG.1 (.fieldLinkNest RL 13 "EdgefloatsLaw$Out" "n" "J" RL) (List.mem_of_getElem? (i := 6) rfl))) (fun _ h9 => h9) rfl (by decide +kernel) rfl rfl (Nat.le_of_ble_eq_true rfl) dL_lower_7 (fun H locs hP hD hS => ?_)
    have hP : va_P (dC, dI) xCl [(h0, eE h1 h2 kn), (h1, eR hw1 hc1 hb1 a1 r1), (hw1, eW true), (hc1, eA cy f1), (hb1, eA cy g1), (h2, eR hw2 hc2 hb2 a2 r2), (hw2, eW false), (hc2, eA cy f2), (hb2, eA cy g2), (ho, eO (((o_X2_lower f1 p1).2).toInt64) sv)] H := hP
    have hD : va_D A [(h0, eE h1 h2 kn), (h1, eR hw1 hc1 hb1 a1 r1), (hw1, eW true), (hc1, eA cy f1), (hb1, eA cy g1), (h2, eR hw2 hc2 hb2 a2 r2), (hw2, eW false), (hc2, eA cy f2), (hb2, eA cy g2), (ho, eO (((o_X2_lower f1 p1).2).toInt64) sv)] := hD
    refine lv_goto (tgt := 16) hx hb dL_lower_10 (by decide +kernel) ?_
    refine lv_iconst (v := 0) hx hb dL_lower_16 (by decide +kernel) ?_
    have he : o_L_lower f1 nv p1 = (0, (((o_X2_lower f1 p1).2).toInt64)) := by (rw [o_L_lower, if_pos c_3]) <;> rfl
    refine W.widen (k := 1) (n := 6) (by omega) (by omega) ?_
    exact W.iret (v := 0) hx hb hr (fun t ht hW => ⟨⟨_, (), rfl, (by (rw [he]) <;> rfl), (by rw [he]; exact ⟨by rw [ht]; exact hP, hD⟩)⟩, hS.F ht⟩) hS.2.2 dL_lower_17
theorem cl_L_wideOrder_1 : ∀ w ∈ wsL_wideOrder_r1, w ∈ wsL_wideOrder := fun _ h => (List.mem_cons_of_mem _ (List.mem_append_left _ (List.mem_append_left _ (List.mem_append_left _ (List.mem_append_left _ (List.mem_append_left _ (List.mem_append_left _ (List.mem_append_left _ h))))))))
theorem cl_L_wideOrder_2 : ∀ w ∈ wsL_wideOrder_r2, w ∈ wsL_wideOrder := fun _ h => (List.mem_cons_of_mem _ (List.mem_append_left _ (List.mem_append_left _ (List.mem_append_left _ (List.mem_append_left _ (List.mem_append_left _ (List.mem_append_left _ (List.mem_append_right _ h))))))))
theorem cl_L_wideOrder_3 : ∀ w ∈ wsX30, w ∈ wsL_wideOrder := fun _ h => (List.mem_cons_of_mem _ (List.mem_append_left _ (List.mem_append_left _ (List.mem_append_left _ (List.mem_append_left _ (List.mem_append_left _ (List.mem_append_right _ h)))))))
theorem cl_L_wideOrder_4 : ∀ w ∈ wsX20, w ∈ wsL_wideOrder := fun _ h => (List.mem_cons_of_mem _ (List.mem_append_left _ (List.mem_append_left _ (List.mem_append_left _ (List.mem_append_left _ (List.mem_append_right _ h))))))
theorem cl_L_wideOrder_5 : ∀ w ∈ wsX00, w ∈ wsL_wideOrder := fun _ h => (List.mem_cons_of_mem _ (List.mem_append_left _ (List.mem_append_left _ (List.mem_append_left _ (List.mem_append_right _ h)))))
theorem cl_L_wideOrder_6 : ∀ w ∈ wsX10, w ∈ wsL_wideOrder := fun _ h => (List.mem_cons_of_mem _ (List.mem_append_left _ (List.mem_append_left _ (List.mem_append_right _ h))))
theorem cl_L_wideOrder_7 : ∀ w ∈ (vx_atS RX2 152 "java/lang/IndexOutOfBoundsException" ["java/lang/RuntimeException", "java/lang/Exception"]).filter goodWord, w ∈ wsL_wideOrder := fun _ h => (List.mem_cons_of_mem _ (List.mem_append_left _ (List.mem_append_right _ h)))
theorem cl_L_wideOrder_8 : ∀ w ∈ (vx_atS RX2 159 "java/lang/IllegalArgumentException" ["java/lang/RuntimeException", "java/lang/Exception"]).filter goodWord, w ∈ wsL_wideOrder := fun _ h => (List.mem_cons_of_mem _ (List.mem_append_right _ h))
set_option maxRecDepth 20000 in
theorem ggL_wideOrder_X2_wideOrder : GoodIn wsL_wideOrder wsX2_wideOrder := goodIn_sub (List.forall_mem_cons.mpr ⟨(cl_L_wideOrder_1 _ (List.mem_of_getElem? (i := 6) rfl)), fun w h => (List.mem_append.mp h).elim ((fun w h => (List.mem_append.mp h).elim ((fun w h => (List.mem_append.mp h).elim ((fun w h => (List.mem_append.mp h).elim ((fun w h => (List.mem_append.mp h).elim ((fun w h => (List.mem_append.mp h).elim ((List.forall_mem_cons.mpr ⟨(cl_L_wideOrder_1 _ (List.mem_of_getElem? (i := 7) rfl)), List.forall_mem_cons.mpr ⟨(cl_L_wideOrder_1 _ (List.mem_of_getElem? (i := 8) rfl)), List.forall_mem_cons.mpr ⟨(cl_L_wideOrder_1 _ (List.mem_of_getElem? (i := 9) rfl)), List.forall_mem_cons.mpr ⟨(cl_L_wideOrder_1 _ (List.mem_of_getElem? (i := 10) rfl)), List.forall_mem_cons.mpr ⟨(cl_L_wideOrder_1 _ (List.mem_of_getElem? (i := 11) rfl)), List.forall_mem_cons.mpr ⟨(cl_L_wideOrder_1 _ (List.mem_of_getElem? (i := 12) rfl)), List.forall_mem_cons.mpr ⟨(cl_L_wideOrder_1 _ (List.mem_of_getElem? (i := 13) rfl)), List.forall_mem_cons.mpr ⟨(cl_L_wideOrder_1 _ (List.mem_of_getElem? (i := 14) rfl)), List.forall_mem_cons.mpr ⟨(cl_L_wideOrder_1 _ (List.mem_of_getElem? (i := 15) rfl)), List.forall_mem_cons.mpr ⟨(cl_L_wideOrder_1 _ (List.mem_of_getElem? (i := 5) rfl)), List.forall_mem_cons.mpr ⟨(cl_L_wideOrder_1 _ (List.mem_of_getElem? (i := 16) rfl)), List.forall_mem_cons.mpr ⟨(cl_L_wideOrder_1 _ (List.mem_of_getElem? (i := 17) rfl)), List.forall_mem_cons.mpr ⟨(cl_L_wideOrder_1 _ (List.mem_of_getElem? (i := 18) rfl)), List.forall_mem_cons.mpr ⟨(cl_L_wideOrder_1 _ (List.mem_of_getElem? (i := 19) rfl)), List.forall_mem_cons.mpr ⟨(cl_L_wideOrder_1 _ (List.mem_of_getElem? (i := 20) rfl)), List.forall_mem_cons.mpr ⟨(cl_L_wideOrder_1 _ (List.mem_of_getElem? (i := 21) rfl)), List.forall_mem_cons.mpr ⟨(cl_L_wideOrder_1 _ (List.mem_of_getElem? (i := 22) rfl)), List.forall_mem_cons.mpr ⟨(cl_L_wideOrder_1 _ (List.mem_of_getElem? (i := 23) rfl)), List.forall_mem_cons.mpr ⟨(cl_L_wideOrder_2 _ (List.mem_of_getElem? (i := 0) rfl)), List.forall_mem_cons.mpr ⟨(cl_L_wideOrder_2 _ (List.mem_of_getElem? (i := 1) rfl)), List.forall_mem_cons.mpr ⟨(cl_L_wideOrder_2 _ (List.mem_of_getElem? (i := 2) rfl)), List.forall_mem_cons.mpr ⟨(cl_L_wideOrder_2 _ (List.mem_of_getElem? (i := 3) rfl)), List.forall_mem_cons.mpr ⟨(cl_L_wideOrder_2 _ (List.mem_of_getElem? (i := 4) rfl)), List.forall_mem_cons.mpr ⟨(cl_L_wideOrder_2 _ (List.mem_of_getElem? (i := 5) rfl)), fun _ h => absurd h List.not_mem_nil⟩⟩⟩⟩⟩⟩⟩⟩⟩⟩⟩⟩⟩⟩⟩⟩⟩⟩⟩⟩⟩⟩⟩⟩) w) ((List.forall_mem_cons.mpr ⟨(cl_L_wideOrder_2 _ (List.mem_of_getElem? (i := 6) rfl)), List.forall_mem_cons.mpr ⟨(cl_L_wideOrder_2 _ (List.mem_of_getElem? (i := 7) rfl)), List.forall_mem_cons.mpr ⟨(cl_L_wideOrder_2 _ (List.mem_of_getElem? (i := 8) rfl)), List.forall_mem_cons.mpr ⟨(cl_L_wideOrder_2 _ (List.mem_of_getElem? (i := 9) rfl)), fun _ h => absurd h List.not_mem_nil⟩⟩⟩⟩) w)) w) ((cl_L_wideOrder_4) w)) w) ((cl_L_wideOrder_5) w)) w) ((cl_L_wideOrder_6) w)) w) ((cl_L_wideOrder_7) w)) w) ((cl_L_wideOrder_8) w)⟩) (by decide +kernel)
set_option maxRecDepth 20000 in
theorem gL_wideOrder_X2_wideOrder : GoodIn wsL_wideOrder (wsV RL 67 RX2 yX2_wideOrder wsX2_wideOrder) := goodIn_app (goodIn_sub (List.forall_mem_cons.mpr ⟨(cl_L_wideOrder_1 _ (List.mem_of_getElem? (i := 2) rfl)), List.forall_mem_cons.mpr ⟨(cl_L_wideOrder_1 _ (List.mem_of_getElem? (i := 3) rfl)), List.forall_mem_cons.mpr ⟨(cl_L_wideOrder_1 _ (List.mem_of_getElem? (i := 4) rfl)), List.forall_mem_cons.mpr ⟨(cl_L_wideOrder_1 _ (List.mem_of_getElem? (i := 5) rfl)), fun _ h => absurd h List.not_mem_nil⟩⟩⟩⟩) (by decide +kernel)) ggL_wideOrder_X2_wideOrder
noncomputable def dz_p16_13 : List (Nat × Instr × Nat) := [(0, (.aload 4, 2)), (2, (.aload_n 0, 1)), (3, (.iload_n 1, 1)), (4, (.iload_n 2, 1)), (5, (.iload_n 3, 1)), (6, (.invokevirtual 67, 3)), (9, (.i2l, 1)), (10, (.putfield 13, 3)), (13, (.goto 11, 3)), (16, (.astore 5, 2)), (18, (.iconst 1, 1)), (19, (.ireturn, 1)), (20, (.astore 5, 2)), (22, (.iconst 2, 1)), (23, (.ireturn, 1)), (24, (.iconst 0, 1)), (25, (.ireturn, 1))]
theorem dy_p16_13 : dz_ok cL_wideOrder dz_p16_13 = true := by decide +kernel
theorem dL_wideOrder_0 : decode cL_wideOrder 0 = .ok (.aload 4, 2) := dz_at (i := 0) dy_p16_13 rfl
theorem dL_wideOrder_2 : decode cL_wideOrder 2 = .ok (.aload_n 0, 1) := dz_at (i := 1) dy_p16_13 rfl
theorem dL_wideOrder_3 : decode cL_wideOrder 3 = .ok (.iload_n 1, 1) := dz_at (i := 2) dy_p16_13 rfl
theorem dL_wideOrder_4 : decode cL_wideOrder 4 = .ok (.iload_n 2, 1) := dz_at (i := 3) dy_p16_13 rfl
theorem dL_wideOrder_5 : decode cL_wideOrder 5 = .ok (.iload_n 3, 1) := dz_at (i := 4) dy_p16_13 rfl
theorem dL_wideOrder_6 : decode cL_wideOrder 6 = .ok (.invokevirtual 67, 3) := dz_at (i := 5) dy_p16_13 rfl
theorem dL_wideOrder_9 : decode cL_wideOrder 9 = .ok (.i2l, 1) := dz_at (i := 6) dy_p16_13 rfl
theorem dL_wideOrder_10 : decode cL_wideOrder 10 = .ok (.putfield 13, 3) := dz_at (i := 7) dy_p16_13 rfl
theorem dL_wideOrder_13 : decode cL_wideOrder 13 = .ok (.goto 11, 3) := dz_at (i := 8) dy_p16_13 rfl
theorem dL_wideOrder_16 : decode cL_wideOrder 16 = .ok (.astore 5, 2) := dz_at (i := 9) dy_p16_13 rfl
theorem dL_wideOrder_18 : decode cL_wideOrder 18 = .ok (.iconst 1, 1) := dz_at (i := 10) dy_p16_13 rfl
theorem dL_wideOrder_19 : decode cL_wideOrder 19 = .ok (.ireturn, 1) := dz_at (i := 11) dy_p16_13 rfl
theorem dL_wideOrder_20 : decode cL_wideOrder 20 = .ok (.astore 5, 2) := dz_at (i := 12) dy_p16_13 rfl
theorem dL_wideOrder_22 : decode cL_wideOrder 22 = .ok (.iconst 2, 1) := dz_at (i := 13) dy_p16_13 rfl
theorem dL_wideOrder_23 : decode cL_wideOrder 23 = .ok (.ireturn, 1) := dz_at (i := 14) dy_p16_13 rfl
theorem dL_wideOrder_24 : decode cL_wideOrder 24 = .ok (.iconst 0, 1) := dz_at (i := 15) dy_p16_13 rfl
theorem dL_wideOrder_25 : decode cL_wideOrder 25 = .ok (.ireturn, 1) := dz_at (i := 16) dy_p16_13 rfl
noncomputable def o_L_wideOrder (f1 : Nat → Int64) (nv : Int64) (p1 : Int32) (p2 : Int32) (p3 : Int32) : Int32 × Int64 :=
  if (o_X2_wideOrder f1 p1 p2 p3).1 = 0 then (0, (((o_X2_wideOrder f1 p1 p2 p3).2).toInt64))
  else if (o_X2_wideOrder f1 p1 p2 p3).1 = 1 then (1, nv)
  else (2, nv)
set_option maxHeartbeats 4000000 in
set_option maxRecDepth 100000 in
theorem k_L_wideOrder (l : Launch) (hfl : l.flags = flags0) (dC : Nat → ClassId) (dI : Nat → Nat → Nat) (cy : ClassId) (h0 : Nat) (h1 : Nat) (hw1 : Nat) (hc1 : Nat) (hb1 : Nat) (h2 : Nat) (hw2 : Nat) (hc2 : Nat) (hb2 : Nat) (a1 : Int32) (r1 : Int32) (f1 : Nat → Int64) (g1 : Nat → Int64) (a2 : Int32) (r2 : Int32) (f2 : Nat → Int64) (g2 : Nat → Int64) (kn : Int32) (ho : Nat) (nv : Int64) (sv : Value) (sz : Nat) (N : Nat) (p1 : Int32) (p2 : Int32) (p3 : Int32) : Met l yL_wideOrder wsL_wideOrder ({ frames := 9, cells := 3, slots := 18, locals := 167 }) (va_Pc [.ref h0, .int p1, .int p2, .int p3, .ref ho] (xL (dC, dI) xCl [(h0, eE h1 h2 kn), (h1, eR hw1 hc1 hb1 a1 r1), (hw1, eW true), (hc1, eA cy f1), (hb1, eA cy g1), (h2, eR hw2 hc2 hb2 a2 r2), (hw2, eW false), (hc2, eA cy f2), (hb2, eA cy g2), (ho, eO nv sv)] [(cy, .long)] sz N)) (va_Qi (fun (r : Int32) (_ : Unit) => r = (o_L_wideOrder f1 nv p1 p2 p3).1) (fun _ t => xW (dC, dI) xCl [(h0, eE h1 h2 kn), (h1, eR hw1 hc1 hb1 a1 r1), (hw1, eW true), (hc1, eA cy f1), (hb1, eA cy g1), (h2, eR hw2 hc2 hb2 a2 r2), (hw2, eW false), (hc2, eA cy f2), (hb2, eA cy g2), (ho, eO (o_L_wideOrder f1 nv p1 p2 p3).2 sv)] (va_A [(h0, eE h1 h2 kn), (h1, eR hw1 hc1 hb1 a1 r1), (hw1, eW true), (hc1, eA cy f1), (hb1, eA cy g1), (h2, eR hw2 hc2 hb2 a2 r2), (hw2, eW false), (hc2, eA cy f2), (hb2, eA cy g2), (ho, eO nv sv)] sz) t) (va_A [(h0, eE h1 h2 kn), (h1, eR hw1 hc1 hb1 a1 r1), (hw1, eW true), (hc1, eA cy f1), (hb1, eA cy g1), (h2, eR hw2 hc2 hb2 a2 r2), (hw2, eW false), (hc2, eA cy f2), (hb2, eA cy g2), (ho, eO nv sv)] sz)) 3 18 (va_A [(h0, eE h1 h2 kn), (h1, eR hw1 hc1 hb1 a1 r1), (hw1, eW true), (hc1, eA cy f1), (hb1, eA cy g1), (h2, eR hw2 hc2 hb2 a2 r2), (hw2, eW false), (hc2, eA cy f2), (hb2, eA cy g2), (ho, eO nv sv)] sz) := by
  refine va_MetW (cc := cL_wideOrder) (maxL := 6) (ret := (some .int)) (by decide +kernel) rfl ?_
  intro p e s m args below meth c s₁ B hml hv
  obtain ⟨rfl, ⟨hsz, hP, hK, hD0, hN, hG⟩, hnc⟩ := hv
  have hx := B.exec
  have hb := B.bytes
  have hr := B.returns
  have hts := atoms_spec (ws := wsL_wideOrder) B.pre
  have hown : s.vm.findClass RL = some m.cls := findClass_of_methodNamed B.named
  have hlocks := B.notSynchronized
  have htab := vx_table (x := yL_wideOrder) B (hts _ List.mem_cons_self)
  subst hsz
  have hAN : ∀ q, va_A [(h0, eE h1 h2 kn), (h1, eR hw1 hc1 hb1 a1 r1), (hw1, eW true), (hc1, eA cy f1), (hb1, eA cy g1), (h2, eR hw2 hc2 hb2 a2 r2), (hw2, eW false), (hc2, eA cy f2), (hb2, eA cy g2), (ho, eO nv sv)] s.heap.size q → N ≤ q := xA_N hD0 hN
  have hD := hD0.self (sz := s.heap.size)
  generalize hAe : va_A [(h0, eE h1 h2 kn), (h1, eR hw1 hc1 hb1 a1 r1), (hw1, eW true), (hc1, eA cy f1), (hb1, eA cy g1), (h2, eR hw2 hc2 hb2 a2 r2), (hw2, eW false), (hc2, eA cy f2), (hb2, eA cy g2), (ho, eO nv sv)] s.heap.size = A at hD hAN ⊢
  have hA : ∀ q : Nat, s.heap.size ≤ q → A q := fun q h => by rw [← hAe]; exact Or.inr h
  have hS : va_S A s.heap s.heap [] := va_S.rf
  have hP : va_P (dC, dI) xCl [(h0, eE h1 h2 kn), (h1, eR hw1 hc1 hb1 a1 r1), (hw1, eW true), (hc1, eA cy f1), (hb1, eA cy g1), (h2, eR hw2 hc2 hb2 a2 r2), (hw2, eW false), (hc2, eA cy f2), (hb2, eA cy g2), (ho, eO nv sv)] s.heap := hP
  have hl := lv_entry ([.ref h0, .int p1, .int p2, .int p3, .ref ho]) (n := 6) (Nat.le_of_ble_eq_true rfl)
  rw [lg_entry_eq]
  generalize (lg_sl ([.ref h0, .int p1, .int p2, .int p3, .ref ho]) ++ List.replicate (6 - (lg_sl ([.ref h0, .int p1, .int p2, .int p3, .ref ho])).length) Slot.unset).toArray = ls at hl ⊢
  have hl : lv_has ls 6 [(0, .ref h0), (1, .int p1), (2, .int p2), (3, .int p3), (4, .ref ho)] := hl
  refine lv_aload hx hb dL_wideOrder_0 (lv_at hl 4 rfl) ?_
  refine lv_aload_n hx hb dL_wideOrder_2 rfl (lv_at hl 0 rfl) ?_
  refine lv_iload_n hx hb dL_wideOrder_3 rfl (lv_at hl 1 rfl) ?_
  refine lv_iload_n hx hb dL_wideOrder_4 rfl (lv_at hl 2 rfl) ?_
  refine lv_iload_n hx hb dL_wideOrder_5 rfl (lv_at hl 3 rfl) ?_
  have hPc := hP.sub (ws' := [(h0, eE h1 h2 kn), (h1, eR hw1 hc1 hb1 a1 r1), (hw1, eW true), (hc1, eA cy f1), (hb1, eA cy g1), (h2, eR hw2 hc2 hb2 a2 r2), (hw2, eW false), (hc2, eA cy f2), (hb2, eA cy g2)]) [0, 1, 2, 3, 4, 5, 6, 7, 8] rfl
  have hDc := hD.sub (ws' := [(h0, eE h1 h2 kn), (h1, eR hw1 hc1 hb1 a1 r1), (hw1, eW true), (hc1, eA cy f1), (hb1, eA cy g1), (h2, eR hw2 hc2 hb2 a2 r2), (hw2, eW false), (hc2, eA cy f2), (hb2, eA cy g2)]) [0, 1, 2, 3, 4, 5, 6, 7, 8] (by decide +kernel) rfl
  have hKc := hK.sub (tys' := [(cy, .long)]) [0] rfl
  refine vx_calli (vx_runV (As := [.int p1, .int p2, .int p3]) (rest := [.ref ho]) ⟨hx, hb, hml, hown, hts⟩ (k_X2_wideOrder l hfl dC dI cy h0 h1 hw1 hc1 hb1 h2 hw2 hc2 hb2 a1 r1 f1 g1 a2 r2 f2 g2 kn s.heap.size N p1 p2 p3) (cwV 3 hts gL_wideOrder_X2_wideOrder rfl rfl rfl (by decide +kernel) ⟨Nat.le_of_ble_eq_true rfl, Nat.le_of_ble_eq_true rfl⟩) (xM.preV hKc hPc hDc hAN (Nat.le_trans hN hS.1) (hG.kept hS hAN) (ci := 4) (q0 := 0) rfl rfl) rfl rfl hl.1 rfl (lv_room (Nat.le_of_ble_eq_true rfl)) dL_wideOrder_6 ⟨Nat.le_of_ble_eq_true rfl, Nat.le_of_ble_eq_true rfl⟩) hS xA_old (fun q h => hA q (Nat.le_trans hS.1 h)) xA_old (fun E ce q9 u9 t H locs ht hvm hpx hbx hz hk hS hce hcv hcl => ?_) (fun r_1 u t H locs ht hvm hw hB hz hk hS => ?_)
  · have c_2 : ¬ (o_X2_wideOrder f1 p1 p2 p3).1 = 0 := hpx
    have hbe := hbx
    have hP := xP_keep hP hk
    by_cases c_3 : (o_X2_wideOrder f1 p1 p2 p3).1 = 1
    · skip
      have hE : E = "java/lang/IndexOutOfBoundsException" := hbe.trans (by rw [c_3]; rfl)
      subst hE
      refine vx_catch (own := RL) (name := "java/lang/IndexOutOfBoundsException") hown [] ⟨0, 13, 16, 19⟩ [⟨0, 13, 20, 25⟩] htab (fun z hz => absurd hz List.not_mem_nil) (by decide +kernel) (by decide +kernel) (hts (.classLink RL 19 "java/lang/IndexOutOfBoundsException") (by decide +kernel)) (va_Nw.use rfl (hG.1 (.castable "java/lang/IndexOutOfBoundsException" "java/lang/IndexOutOfBoundsException") (List.mem_of_getElem? (i := 11) rfl))) hce hcv hcl ?_
      refine lv_astore (lv' := [(5, .ref q9), (0, .ref h0), (1, .int p1), (2, .int p2), (3, .int p3), (4, .ref ho)]) hx hb dL_wideOrder_16 hl (by decide +kernel) rfl (fun ls hl => ?_)
      refine lv_iconst (v := 1) hx hb dL_wideOrder_18 (by decide +kernel) ?_
      have he : o_L_wideOrder f1 nv p1 p2 p3 = (1, nv) := by (rw [o_L_wideOrder, if_neg c_2, if_pos c_3]) <;> rfl
      refine W.widen (k := 3) (n := 18) (by omega) (by omega) ?_
      exact W.iret (v := 1) hx hb hr (fun t ht hW => ⟨⟨_, (), rfl, (by (rw [he]) <;> rfl), (by rw [he]; exact ⟨by rw [ht]; exact hP, hD⟩)⟩, hS.F ht⟩) hS.2.2 dL_wideOrder_19
    · skip
      have hE : E = "java/lang/IllegalArgumentException" := hbe.trans (if_neg c_3)
      subst hE
      refine vx_catch (own := RL) (name := "java/lang/IllegalArgumentException") hown [⟨0, 13, 16, 19⟩] ⟨0, 13, 20, 25⟩ [] htab (fun z hz => by cases List.mem_singleton.mp hz; exact Or.inr ⟨by decide, "java/lang/IndexOutOfBoundsException", hts (.classLink RL 19 "java/lang/IndexOutOfBoundsException") (by decide +kernel), hnc⟩) (by decide +kernel) (by decide +kernel) (hts (.classLink RL 25 "java/lang/IllegalArgumentException") (by decide +kernel)) (va_Nw.use rfl (hG.1 (.castable "java/lang/IllegalArgumentException" "java/lang/IllegalArgumentException") (List.mem_of_getElem? (i := 12) rfl))) hce hcv hcl ?_
      refine lv_astore (lv' := [(5, .ref q9), (0, .ref h0), (1, .int p1), (2, .int p2), (3, .int p3), (4, .ref ho)]) hx hb dL_wideOrder_20 hl (by decide +kernel) rfl (fun ls hl => ?_)
      refine lv_iconst (v := 2) hx hb dL_wideOrder_22 (by decide +kernel) ?_
      have he : o_L_wideOrder f1 nv p1 p2 p3 = (2, nv) := by (rw [o_L_wideOrder, if_neg c_2, if_neg c_3]) <;> rfl
      refine W.widen (k := 3) (n := 18) (by omega) (by omega) ?_
      exact W.iret (v := 2) hx hb hr (fun t ht hW => ⟨⟨_, (), rfl, (by (rw [he]) <;> rfl), (by rw [he]; exact ⟨by rw [ht]; exact hP, hD⟩)⟩, hS.F ht⟩) hS.2.2 dL_wideOrder_23
  · skip
    obtain ⟨c_4, hw⟩ := hw
    have c_4 : (o_X2_wideOrder f1 p1 p2 p3).1 = 0 := c_4
    replace hw : r_1 = (o_X2_wideOrder f1 p1 p2 p3).2 := hw
    subst r_1
    have hP := xP_keep hP hk
    refine lv_i2l (v := (((o_X2_wideOrder f1 p1 p2 p3).2).toInt64)) hx hb dL_wideOrder_9 rfl ?_
    refine va_putN (D := (dC, dI)) (ci := 5) (v := .long (((o_X2_wideOrder f1 p1 p2 p3).2).toInt64)) (ty := .long) (C := RX3) (T := TX3) (N := 2) hx hb hts (by decide +kernel) tyX3 tyX3_ok nmX3 hown hK hP hD hS 9 rfl rfl 0 (by decide +kernel) (va_Nw.use rfl (hG.1 (.fieldLinkNest RL 13 "EdgefloatsLaw$Out" "n" "J" RL) (List.mem_of_getElem? (i := 6) rfl))) (fun _ h9 => h9) rfl (by decide +kernel) rfl rfl (Nat.le_of_ble_eq_true rfl) dL_wideOrder_10 (fun H locs hP hD hS => ?_)
    have hP : va_P (dC, dI) xCl [(h0, eE h1 h2 kn), (h1, eR hw1 hc1 hb1 a1 r1), (hw1, eW true), (hc1, eA cy f1), (hb1, eA cy g1), (h2, eR hw2 hc2 hb2 a2 r2), (hw2, eW false), (hc2, eA cy f2), (hb2, eA cy g2), (ho, eO (((o_X2_wideOrder f1 p1 p2 p3).2).toInt64) sv)] H := hP
    have hD : va_D A [(h0, eE h1 h2 kn), (h1, eR hw1 hc1 hb1 a1 r1), (hw1, eW true), (hc1, eA cy f1), (hb1, eA cy g1), (h2, eR hw2 hc2 hb2 a2 r2), (hw2, eW false), (hc2, eA cy f2), (hb2, eA cy g2), (ho, eO (((o_X2_wideOrder f1 p1 p2 p3).2).toInt64) sv)] := hD
    refine lv_goto (tgt := 24) hx hb dL_wideOrder_13 (by decide +kernel) ?_
    refine lv_iconst (v := 0) hx hb dL_wideOrder_24 (by decide +kernel) ?_
    have he : o_L_wideOrder f1 nv p1 p2 p3 = (0, (((o_X2_wideOrder f1 p1 p2 p3).2).toInt64)) := by (rw [o_L_wideOrder, if_pos c_4]) <;> rfl
    refine W.widen (k := 3) (n := 18) (by omega) (by omega) ?_
    exact W.iret (v := 0) hx hb hr (fun t ht hW => ⟨⟨_, (), rfl, (by (rw [he]) <;> rfl), (by rw [he]; exact ⟨by rw [ht]; exact hP, hD⟩)⟩, hS.F ht⟩) hS.2.2 dL_wideOrder_25
theorem cl_L_wideSame_1 : ∀ w ∈ wsL_wideSame_r1, w ∈ wsL_wideSame := fun _ h => (List.mem_cons_of_mem _ (List.mem_append_left _ (List.mem_append_left _ (List.mem_append_left _ (List.mem_append_left _ (List.mem_append_left _ (List.mem_append_left _ (List.mem_append_left _ h))))))))
theorem cl_L_wideSame_2 : ∀ w ∈ wsL_wideSame_r2, w ∈ wsL_wideSame := fun _ h => (List.mem_cons_of_mem _ (List.mem_append_left _ (List.mem_append_left _ (List.mem_append_left _ (List.mem_append_left _ (List.mem_append_left _ (List.mem_append_left _ (List.mem_append_right _ h))))))))
theorem cl_L_wideSame_3 : ∀ w ∈ wsX30, w ∈ wsL_wideSame := fun _ h => (List.mem_cons_of_mem _ (List.mem_append_left _ (List.mem_append_left _ (List.mem_append_left _ (List.mem_append_left _ (List.mem_append_left _ (List.mem_append_right _ h)))))))
theorem cl_L_wideSame_4 : ∀ w ∈ wsX20, w ∈ wsL_wideSame := fun _ h => (List.mem_cons_of_mem _ (List.mem_append_left _ (List.mem_append_left _ (List.mem_append_left _ (List.mem_append_left _ (List.mem_append_right _ h))))))
theorem cl_L_wideSame_5 : ∀ w ∈ wsX00, w ∈ wsL_wideSame := fun _ h => (List.mem_cons_of_mem _ (List.mem_append_left _ (List.mem_append_left _ (List.mem_append_left _ (List.mem_append_right _ h)))))
theorem cl_L_wideSame_6 : ∀ w ∈ wsX10, w ∈ wsL_wideSame := fun _ h => (List.mem_cons_of_mem _ (List.mem_append_left _ (List.mem_append_left _ (List.mem_append_right _ h))))
theorem cl_L_wideSame_7 : ∀ w ∈ (vx_atS RX2 152 "java/lang/IndexOutOfBoundsException" ["java/lang/RuntimeException", "java/lang/Exception"]).filter goodWord, w ∈ wsL_wideSame := fun _ h => (List.mem_cons_of_mem _ (List.mem_append_left _ (List.mem_append_right _ h)))
theorem cl_L_wideSame_8 : ∀ w ∈ (vx_atS RX2 159 "java/lang/IllegalArgumentException" ["java/lang/RuntimeException", "java/lang/Exception"]).filter goodWord, w ∈ wsL_wideSame := fun _ h => (List.mem_cons_of_mem _ (List.mem_append_right _ h))
set_option maxRecDepth 20000 in
theorem ggL_wideSame_X2_wideSame : GoodIn wsL_wideSame wsX2_wideSame := goodIn_sub (List.forall_mem_cons.mpr ⟨(cl_L_wideSame_1 _ (List.mem_of_getElem? (i := 6) rfl)), fun w h => (List.mem_append.mp h).elim ((fun w h => (List.mem_append.mp h).elim ((fun w h => (List.mem_append.mp h).elim ((fun w h => (List.mem_append.mp h).elim ((fun w h => (List.mem_append.mp h).elim ((fun w h => (List.mem_append.mp h).elim ((List.forall_mem_cons.mpr ⟨(cl_L_wideSame_1 _ (List.mem_of_getElem? (i := 7) rfl)), List.forall_mem_cons.mpr ⟨(cl_L_wideSame_1 _ (List.mem_of_getElem? (i := 8) rfl)), List.forall_mem_cons.mpr ⟨(cl_L_wideSame_1 _ (List.mem_of_getElem? (i := 9) rfl)), List.forall_mem_cons.mpr ⟨(cl_L_wideSame_1 _ (List.mem_of_getElem? (i := 10) rfl)), List.forall_mem_cons.mpr ⟨(cl_L_wideSame_1 _ (List.mem_of_getElem? (i := 11) rfl)), List.forall_mem_cons.mpr ⟨(cl_L_wideSame_1 _ (List.mem_of_getElem? (i := 12) rfl)), List.forall_mem_cons.mpr ⟨(cl_L_wideSame_1 _ (List.mem_of_getElem? (i := 13) rfl)), List.forall_mem_cons.mpr ⟨(cl_L_wideSame_1 _ (List.mem_of_getElem? (i := 14) rfl)), List.forall_mem_cons.mpr ⟨(cl_L_wideSame_1 _ (List.mem_of_getElem? (i := 15) rfl)), List.forall_mem_cons.mpr ⟨(cl_L_wideSame_1 _ (List.mem_of_getElem? (i := 16) rfl)), List.forall_mem_cons.mpr ⟨(cl_L_wideSame_1 _ (List.mem_of_getElem? (i := 17) rfl)), List.forall_mem_cons.mpr ⟨(cl_L_wideSame_1 _ (List.mem_of_getElem? (i := 18) rfl)), List.forall_mem_cons.mpr ⟨(cl_L_wideSame_1 _ (List.mem_of_getElem? (i := 19) rfl)), List.forall_mem_cons.mpr ⟨(cl_L_wideSame_1 _ (List.mem_of_getElem? (i := 5) rfl)), List.forall_mem_cons.mpr ⟨(cl_L_wideSame_1 _ (List.mem_of_getElem? (i := 20) rfl)), List.forall_mem_cons.mpr ⟨(cl_L_wideSame_1 _ (List.mem_of_getElem? (i := 21) rfl)), List.forall_mem_cons.mpr ⟨(cl_L_wideSame_1 _ (List.mem_of_getElem? (i := 22) rfl)), List.forall_mem_cons.mpr ⟨(cl_L_wideSame_1 _ (List.mem_of_getElem? (i := 23) rfl)), List.forall_mem_cons.mpr ⟨(cl_L_wideSame_2 _ (List.mem_of_getElem? (i := 0) rfl)), List.forall_mem_cons.mpr ⟨(cl_L_wideSame_2 _ (List.mem_of_getElem? (i := 1) rfl)), List.forall_mem_cons.mpr ⟨(cl_L_wideSame_2 _ (List.mem_of_getElem? (i := 2) rfl)), List.forall_mem_cons.mpr ⟨(cl_L_wideSame_2 _ (List.mem_of_getElem? (i := 3) rfl)), List.forall_mem_cons.mpr ⟨(cl_L_wideSame_2 _ (List.mem_of_getElem? (i := 4) rfl)), List.forall_mem_cons.mpr ⟨(cl_L_wideSame_2 _ (List.mem_of_getElem? (i := 5) rfl)), fun _ h => absurd h List.not_mem_nil⟩⟩⟩⟩⟩⟩⟩⟩⟩⟩⟩⟩⟩⟩⟩⟩⟩⟩⟩⟩⟩⟩⟩⟩) w) ((List.forall_mem_cons.mpr ⟨(cl_L_wideSame_2 _ (List.mem_of_getElem? (i := 6) rfl)), List.forall_mem_cons.mpr ⟨(cl_L_wideSame_2 _ (List.mem_of_getElem? (i := 7) rfl)), List.forall_mem_cons.mpr ⟨(cl_L_wideSame_2 _ (List.mem_of_getElem? (i := 8) rfl)), List.forall_mem_cons.mpr ⟨(cl_L_wideSame_2 _ (List.mem_of_getElem? (i := 9) rfl)), List.forall_mem_cons.mpr ⟨(cl_L_wideSame_2 _ (List.mem_of_getElem? (i := 10) rfl)), List.forall_mem_cons.mpr ⟨(cl_L_wideSame_2 _ (List.mem_of_getElem? (i := 11) rfl)), List.forall_mem_cons.mpr ⟨(cl_L_wideSame_2 _ (List.mem_of_getElem? (i := 12) rfl)), List.forall_mem_cons.mpr ⟨(cl_L_wideSame_2 _ (List.mem_of_getElem? (i := 13) rfl)), fun _ h => absurd h List.not_mem_nil⟩⟩⟩⟩⟩⟩⟩⟩) w)) w) ((cl_L_wideSame_4) w)) w) ((cl_L_wideSame_5) w)) w) ((cl_L_wideSame_6) w)) w) ((cl_L_wideSame_7) w)) w) ((cl_L_wideSame_8) w)⟩) (by decide +kernel)
set_option maxRecDepth 20000 in
theorem gL_wideSame_X2_wideSame : GoodIn wsL_wideSame (wsV RL 70 RX2 yX2_wideSame wsX2_wideSame) := goodIn_app (goodIn_sub (List.forall_mem_cons.mpr ⟨(cl_L_wideSame_1 _ (List.mem_of_getElem? (i := 2) rfl)), List.forall_mem_cons.mpr ⟨(cl_L_wideSame_1 _ (List.mem_of_getElem? (i := 3) rfl)), List.forall_mem_cons.mpr ⟨(cl_L_wideSame_1 _ (List.mem_of_getElem? (i := 4) rfl)), List.forall_mem_cons.mpr ⟨(cl_L_wideSame_1 _ (List.mem_of_getElem? (i := 5) rfl)), fun _ h => absurd h List.not_mem_nil⟩⟩⟩⟩) (by decide +kernel)) ggL_wideSame_X2_wideSame
noncomputable def dz_p16_14 : List (Nat × Instr × Nat) := [(0, (.aload 4, 2)), (2, (.aload_n 0, 1)), (3, (.iload_n 1, 1)), (4, (.iload_n 2, 1)), (5, (.iload_n 3, 1)), (6, (.invokevirtual 70, 3)), (9, (.ifCond .eq 7, 3)), (12, (.lconst 1, 1)), (13, (.goto 4, 3)), (16, (.lconst 0, 1)), (17, (.putfield 13, 3)), (20, (.goto 11, 3)), (23, (.astore 5, 2)), (25, (.iconst 1, 1)), (26, (.ireturn, 1)), (27, (.astore 5, 2)), (29, (.iconst 2, 1)), (30, (.ireturn, 1)), (31, (.iconst 0, 1)), (32, (.ireturn, 1))]
theorem dy_p16_14 : dz_ok cL_wideSame dz_p16_14 = true := by decide +kernel
theorem dL_wideSame_0 : decode cL_wideSame 0 = .ok (.aload 4, 2) := dz_at (i := 0) dy_p16_14 rfl
theorem dL_wideSame_2 : decode cL_wideSame 2 = .ok (.aload_n 0, 1) := dz_at (i := 1) dy_p16_14 rfl
theorem dL_wideSame_3 : decode cL_wideSame 3 = .ok (.iload_n 1, 1) := dz_at (i := 2) dy_p16_14 rfl
theorem dL_wideSame_4 : decode cL_wideSame 4 = .ok (.iload_n 2, 1) := dz_at (i := 3) dy_p16_14 rfl
theorem dL_wideSame_5 : decode cL_wideSame 5 = .ok (.iload_n 3, 1) := dz_at (i := 4) dy_p16_14 rfl
theorem dL_wideSame_6 : decode cL_wideSame 6 = .ok (.invokevirtual 70, 3) := dz_at (i := 5) dy_p16_14 rfl
theorem dL_wideSame_9 : decode cL_wideSame 9 = .ok (.ifCond .eq 7, 3) := dz_at (i := 6) dy_p16_14 rfl
theorem dL_wideSame_12 : decode cL_wideSame 12 = .ok (.lconst 1, 1) := dz_at (i := 7) dy_p16_14 rfl
theorem dL_wideSame_13 : decode cL_wideSame 13 = .ok (.goto 4, 3) := dz_at (i := 8) dy_p16_14 rfl
theorem dL_wideSame_16 : decode cL_wideSame 16 = .ok (.lconst 0, 1) := dz_at (i := 9) dy_p16_14 rfl
theorem dL_wideSame_17 : decode cL_wideSame 17 = .ok (.putfield 13, 3) := dz_at (i := 10) dy_p16_14 rfl
theorem dL_wideSame_20 : decode cL_wideSame 20 = .ok (.goto 11, 3) := dz_at (i := 11) dy_p16_14 rfl
theorem dL_wideSame_23 : decode cL_wideSame 23 = .ok (.astore 5, 2) := dz_at (i := 12) dy_p16_14 rfl
theorem dL_wideSame_25 : decode cL_wideSame 25 = .ok (.iconst 1, 1) := dz_at (i := 13) dy_p16_14 rfl
theorem dL_wideSame_26 : decode cL_wideSame 26 = .ok (.ireturn, 1) := dz_at (i := 14) dy_p16_14 rfl
theorem dL_wideSame_27 : decode cL_wideSame 27 = .ok (.astore 5, 2) := dz_at (i := 15) dy_p16_14 rfl
theorem dL_wideSame_29 : decode cL_wideSame 29 = .ok (.iconst 2, 1) := dz_at (i := 16) dy_p16_14 rfl
theorem dL_wideSame_30 : decode cL_wideSame 30 = .ok (.ireturn, 1) := dz_at (i := 17) dy_p16_14 rfl
theorem dL_wideSame_31 : decode cL_wideSame 31 = .ok (.iconst 0, 1) := dz_at (i := 18) dy_p16_14 rfl
theorem dL_wideSame_32 : decode cL_wideSame 32 = .ok (.ireturn, 1) := dz_at (i := 19) dy_p16_14 rfl
noncomputable def o_L_wideSame (f1 : Nat → Int64) (nv : Int64) (p1 : Int32) (p2 : Int32) (p3 : Int32) : Int32 × Int64 :=
  if (o_X2_wideSame f1 p1 p2 p3).1 = 0 then (if (o_X2_wideSame f1 p1 p2 p3).2 = true then (0, 1)
    else (0, 0))
  else if (o_X2_wideSame f1 p1 p2 p3).1 = 1 then (1, nv)
  else (2, nv)
set_option maxHeartbeats 4000000 in
set_option maxRecDepth 100000 in
theorem k_L_wideSame (l : Launch) (hfl : l.flags = flags0) (dC : Nat → ClassId) (dI : Nat → Nat → Nat) (cy : ClassId) (h0 : Nat) (h1 : Nat) (hw1 : Nat) (hc1 : Nat) (hb1 : Nat) (h2 : Nat) (hw2 : Nat) (hc2 : Nat) (hb2 : Nat) (a1 : Int32) (r1 : Int32) (f1 : Nat → Int64) (g1 : Nat → Int64) (a2 : Int32) (r2 : Int32) (f2 : Nat → Int64) (g2 : Nat → Int64) (kn : Int32) (ho : Nat) (nv : Int64) (sv : Value) (sz : Nat) (N : Nat) (p1 : Int32) (p2 : Int32) (p3 : Int32) : Met l yL_wideSame wsL_wideSame ({ frames := 10, cells := 3, slots := 18, locals := 190 }) (va_Pc [.ref h0, .int p1, .int p2, .int p3, .ref ho] (xL (dC, dI) xCl [(h0, eE h1 h2 kn), (h1, eR hw1 hc1 hb1 a1 r1), (hw1, eW true), (hc1, eA cy f1), (hb1, eA cy g1), (h2, eR hw2 hc2 hb2 a2 r2), (hw2, eW false), (hc2, eA cy f2), (hb2, eA cy g2), (ho, eO nv sv)] [(cy, .long)] sz N)) (va_Qi (fun (r : Int32) (_ : Unit) => r = (o_L_wideSame f1 nv p1 p2 p3).1) (fun _ t => xW (dC, dI) xCl [(h0, eE h1 h2 kn), (h1, eR hw1 hc1 hb1 a1 r1), (hw1, eW true), (hc1, eA cy f1), (hb1, eA cy g1), (h2, eR hw2 hc2 hb2 a2 r2), (hw2, eW false), (hc2, eA cy f2), (hb2, eA cy g2), (ho, eO (o_L_wideSame f1 nv p1 p2 p3).2 sv)] (va_A [(h0, eE h1 h2 kn), (h1, eR hw1 hc1 hb1 a1 r1), (hw1, eW true), (hc1, eA cy f1), (hb1, eA cy g1), (h2, eR hw2 hc2 hb2 a2 r2), (hw2, eW false), (hc2, eA cy f2), (hb2, eA cy g2), (ho, eO nv sv)] sz) t) (va_A [(h0, eE h1 h2 kn), (h1, eR hw1 hc1 hb1 a1 r1), (hw1, eW true), (hc1, eA cy f1), (hb1, eA cy g1), (h2, eR hw2 hc2 hb2 a2 r2), (hw2, eW false), (hc2, eA cy f2), (hb2, eA cy g2), (ho, eO nv sv)] sz)) 3 18 (va_A [(h0, eE h1 h2 kn), (h1, eR hw1 hc1 hb1 a1 r1), (hw1, eW true), (hc1, eA cy f1), (hb1, eA cy g1), (h2, eR hw2 hc2 hb2 a2 r2), (hw2, eW false), (hc2, eA cy f2), (hb2, eA cy g2), (ho, eO nv sv)] sz) := by
  refine va_MetW (cc := cL_wideSame) (maxL := 6) (ret := (some .int)) (by decide +kernel) rfl ?_
  intro p e s m args below meth c s₁ B hml hv
  obtain ⟨rfl, ⟨hsz, hP, hK, hD0, hN, hG⟩, hnc⟩ := hv
  have hx := B.exec
  have hb := B.bytes
  have hr := B.returns
  have hts := atoms_spec (ws := wsL_wideSame) B.pre
  have hown : s.vm.findClass RL = some m.cls := findClass_of_methodNamed B.named
  have hlocks := B.notSynchronized
  have htab := vx_table (x := yL_wideSame) B (hts _ List.mem_cons_self)
  subst hsz
  have hAN : ∀ q, va_A [(h0, eE h1 h2 kn), (h1, eR hw1 hc1 hb1 a1 r1), (hw1, eW true), (hc1, eA cy f1), (hb1, eA cy g1), (h2, eR hw2 hc2 hb2 a2 r2), (hw2, eW false), (hc2, eA cy f2), (hb2, eA cy g2), (ho, eO nv sv)] s.heap.size q → N ≤ q := xA_N hD0 hN
  have hD := hD0.self (sz := s.heap.size)
  generalize hAe : va_A [(h0, eE h1 h2 kn), (h1, eR hw1 hc1 hb1 a1 r1), (hw1, eW true), (hc1, eA cy f1), (hb1, eA cy g1), (h2, eR hw2 hc2 hb2 a2 r2), (hw2, eW false), (hc2, eA cy f2), (hb2, eA cy g2), (ho, eO nv sv)] s.heap.size = A at hD hAN ⊢
  have hA : ∀ q : Nat, s.heap.size ≤ q → A q := fun q h => by rw [← hAe]; exact Or.inr h
  have hS : va_S A s.heap s.heap [] := va_S.rf
  have hP : va_P (dC, dI) xCl [(h0, eE h1 h2 kn), (h1, eR hw1 hc1 hb1 a1 r1), (hw1, eW true), (hc1, eA cy f1), (hb1, eA cy g1), (h2, eR hw2 hc2 hb2 a2 r2), (hw2, eW false), (hc2, eA cy f2), (hb2, eA cy g2), (ho, eO nv sv)] s.heap := hP
  have hl := lv_entry ([.ref h0, .int p1, .int p2, .int p3, .ref ho]) (n := 6) (Nat.le_of_ble_eq_true rfl)
  rw [lg_entry_eq]
  generalize (lg_sl ([.ref h0, .int p1, .int p2, .int p3, .ref ho]) ++ List.replicate (6 - (lg_sl ([.ref h0, .int p1, .int p2, .int p3, .ref ho])).length) Slot.unset).toArray = ls at hl ⊢
  have hl : lv_has ls 6 [(0, .ref h0), (1, .int p1), (2, .int p2), (3, .int p3), (4, .ref ho)] := hl
  refine lv_aload hx hb dL_wideSame_0 (lv_at hl 4 rfl) ?_
  refine lv_aload_n hx hb dL_wideSame_2 rfl (lv_at hl 0 rfl) ?_
  refine lv_iload_n hx hb dL_wideSame_3 rfl (lv_at hl 1 rfl) ?_
  refine lv_iload_n hx hb dL_wideSame_4 rfl (lv_at hl 2 rfl) ?_
  refine lv_iload_n hx hb dL_wideSame_5 rfl (lv_at hl 3 rfl) ?_
  have hPc := hP.sub (ws' := [(h0, eE h1 h2 kn), (h1, eR hw1 hc1 hb1 a1 r1), (hw1, eW true), (hc1, eA cy f1), (hb1, eA cy g1), (h2, eR hw2 hc2 hb2 a2 r2), (hw2, eW false), (hc2, eA cy f2), (hb2, eA cy g2)]) [0, 1, 2, 3, 4, 5, 6, 7, 8] rfl
  have hDc := hD.sub (ws' := [(h0, eE h1 h2 kn), (h1, eR hw1 hc1 hb1 a1 r1), (hw1, eW true), (hc1, eA cy f1), (hb1, eA cy g1), (h2, eR hw2 hc2 hb2 a2 r2), (hw2, eW false), (hc2, eA cy f2), (hb2, eA cy g2)]) [0, 1, 2, 3, 4, 5, 6, 7, 8] (by decide +kernel) rfl
  have hKc := hK.sub (tys' := [(cy, .long)]) [0] rfl
  refine vx_calli (vx_runV (As := [.int p1, .int p2, .int p3]) (rest := [.ref ho]) ⟨hx, hb, hml, hown, hts⟩ (k_X2_wideSame l hfl dC dI cy h0 h1 hw1 hc1 hb1 h2 hw2 hc2 hb2 a1 r1 f1 g1 a2 r2 f2 g2 kn s.heap.size N p1 p2 p3) (cwV 3 hts gL_wideSame_X2_wideSame rfl rfl rfl (by decide +kernel) ⟨Nat.le_of_ble_eq_true rfl, Nat.le_of_ble_eq_true rfl⟩) (xM.preV hKc hPc hDc hAN (Nat.le_trans hN hS.1) (hG.kept hS hAN) (ci := 4) (q0 := 0) rfl rfl) rfl rfl hl.1 rfl (lv_room (Nat.le_of_ble_eq_true rfl)) dL_wideSame_6 ⟨Nat.le_of_ble_eq_true rfl, Nat.le_of_ble_eq_true rfl⟩) hS xA_old (fun q h => hA q (Nat.le_trans hS.1 h)) xA_old (fun E ce q9 u9 t H locs ht hvm hpx hbx hz hk hS hce hcv hcl => ?_) (fun r_1 u t H locs ht hvm hw hB hz hk hS => ?_)
  · have c_2 : ¬ (o_X2_wideSame f1 p1 p2 p3).1 = 0 := hpx
    have hbe := hbx
    have hP := xP_keep hP hk
    by_cases c_3 : (o_X2_wideSame f1 p1 p2 p3).1 = 1
    · skip
      have hE : E = "java/lang/IndexOutOfBoundsException" := hbe.trans (by rw [c_3]; rfl)
      subst hE
      refine vx_catch (own := RL) (name := "java/lang/IndexOutOfBoundsException") hown [] ⟨0, 20, 23, 19⟩ [⟨0, 20, 27, 25⟩] htab (fun z hz => absurd hz List.not_mem_nil) (by decide +kernel) (by decide +kernel) (hts (.classLink RL 19 "java/lang/IndexOutOfBoundsException") (by decide +kernel)) (va_Nw.use rfl (hG.1 (.castable "java/lang/IndexOutOfBoundsException" "java/lang/IndexOutOfBoundsException") (List.mem_of_getElem? (i := 11) rfl))) hce hcv hcl ?_
      refine lv_astore (lv' := [(5, .ref q9), (0, .ref h0), (1, .int p1), (2, .int p2), (3, .int p3), (4, .ref ho)]) hx hb dL_wideSame_23 hl (by decide +kernel) rfl (fun ls hl => ?_)
      refine lv_iconst (v := 1) hx hb dL_wideSame_25 (by decide +kernel) ?_
      have he : o_L_wideSame f1 nv p1 p2 p3 = (1, nv) := by (rw [o_L_wideSame, if_neg c_2, if_pos c_3]) <;> rfl
      refine W.widen (k := 3) (n := 18) (by omega) (by omega) ?_
      exact W.iret (v := 1) hx hb hr (fun t ht hW => ⟨⟨_, (), rfl, (by (rw [he]) <;> rfl), (by rw [he]; exact ⟨by rw [ht]; exact hP, hD⟩)⟩, hS.F ht⟩) hS.2.2 dL_wideSame_26
    · skip
      have hE : E = "java/lang/IllegalArgumentException" := hbe.trans (if_neg c_3)
      subst hE
      refine vx_catch (own := RL) (name := "java/lang/IllegalArgumentException") hown [⟨0, 20, 23, 19⟩] ⟨0, 20, 27, 25⟩ [] htab (fun z hz => by cases List.mem_singleton.mp hz; exact Or.inr ⟨by decide, "java/lang/IndexOutOfBoundsException", hts (.classLink RL 19 "java/lang/IndexOutOfBoundsException") (by decide +kernel), hnc⟩) (by decide +kernel) (by decide +kernel) (hts (.classLink RL 25 "java/lang/IllegalArgumentException") (by decide +kernel)) (va_Nw.use rfl (hG.1 (.castable "java/lang/IllegalArgumentException" "java/lang/IllegalArgumentException") (List.mem_of_getElem? (i := 12) rfl))) hce hcv hcl ?_
      refine lv_astore (lv' := [(5, .ref q9), (0, .ref h0), (1, .int p1), (2, .int p2), (3, .int p3), (4, .ref ho)]) hx hb dL_wideSame_27 hl (by decide +kernel) rfl (fun ls hl => ?_)
      refine lv_iconst (v := 2) hx hb dL_wideSame_29 (by decide +kernel) ?_
      have he : o_L_wideSame f1 nv p1 p2 p3 = (2, nv) := by (rw [o_L_wideSame, if_neg c_2, if_neg c_3]) <;> rfl
      refine W.widen (k := 3) (n := 18) (by omega) (by omega) ?_
      exact W.iret (v := 2) hx hb hr (fun t ht hW => ⟨⟨_, (), rfl, (by (rw [he]) <;> rfl), (by rw [he]; exact ⟨by rw [ht]; exact hP, hD⟩)⟩, hS.F ht⟩) hS.2.2 dL_wideSame_30
  · skip
    obtain ⟨c_4, hw⟩ := hw
    have c_4 : (o_X2_wideSame f1 p1 p2 p3).1 = 0 := c_4
    replace hw : r_1 = b2i ((o_X2_wideSame f1 p1 p2 p3).2) := hw
    subst r_1
    have hP := xP_keep hP hk
    refine xz_eq (tgt := 16) hx hb dL_wideSame_9 (by decide +kernel) (fun c_5 => ?_) (fun c_5 => ?_)
    · skip
      refine lv_lconst (v := 0) hx hb dL_wideSame_16 (by decide +kernel) ?_
      refine va_putN (D := (dC, dI)) (ci := 5) (v := .long 0) (ty := .long) (C := RX3) (T := TX3) (N := 2) hx hb hts (by decide +kernel) tyX3 tyX3_ok nmX3 hown hK hP hD hS 9 rfl rfl 0 (by decide +kernel) (va_Nw.use rfl (hG.1 (.fieldLinkNest RL 13 "EdgefloatsLaw$Out" "n" "J" RL) (List.mem_of_getElem? (i := 6) rfl))) (fun _ h9 => h9) rfl (by decide +kernel) rfl rfl (Nat.le_of_ble_eq_true rfl) dL_wideSame_17 (fun H locs hP hD hS => ?_)
      have hP : va_P (dC, dI) xCl [(h0, eE h1 h2 kn), (h1, eR hw1 hc1 hb1 a1 r1), (hw1, eW true), (hc1, eA cy f1), (hb1, eA cy g1), (h2, eR hw2 hc2 hb2 a2 r2), (hw2, eW false), (hc2, eA cy f2), (hb2, eA cy g2), (ho, eO 0 sv)] H := hP
      have hD : va_D A [(h0, eE h1 h2 kn), (h1, eR hw1 hc1 hb1 a1 r1), (hw1, eW true), (hc1, eA cy f1), (hb1, eA cy g1), (h2, eR hw2 hc2 hb2 a2 r2), (hw2, eW false), (hc2, eA cy f2), (hb2, eA cy g2), (ho, eO 0 sv)] := hD
      refine lv_goto (tgt := 31) hx hb dL_wideSame_20 (by decide +kernel) ?_
      refine lv_iconst (v := 0) hx hb dL_wideSame_31 (by decide +kernel) ?_
      have he : o_L_wideSame f1 nv p1 p2 p3 = (0, 0) := by (rw [o_L_wideSame, if_pos c_4, if_neg c_5]) <;> rfl
      refine W.widen (k := 3) (n := 18) (by omega) (by omega) ?_
      exact W.iret (v := 0) hx hb hr (fun t ht hW => ⟨⟨_, (), rfl, (by (rw [he]) <;> rfl), (by rw [he]; exact ⟨by rw [ht]; exact hP, hD⟩)⟩, hS.F ht⟩) hS.2.2 dL_wideSame_32
    · skip
      refine lv_lconst (v := 1) hx hb dL_wideSame_12 (by decide +kernel) ?_
      refine lv_goto (tgt := 17) hx hb dL_wideSame_13 (by decide +kernel) ?_
      refine va_putN (D := (dC, dI)) (ci := 5) (v := .long 1) (ty := .long) (C := RX3) (T := TX3) (N := 2) hx hb hts (by decide +kernel) tyX3 tyX3_ok nmX3 hown hK hP hD hS 9 rfl rfl 0 (by decide +kernel) (va_Nw.use rfl (hG.1 (.fieldLinkNest RL 13 "EdgefloatsLaw$Out" "n" "J" RL) (List.mem_of_getElem? (i := 6) rfl))) (fun _ h9 => h9) rfl (by decide +kernel) rfl rfl (Nat.le_of_ble_eq_true rfl) dL_wideSame_17 (fun H locs hP hD hS => ?_)
      have hP : va_P (dC, dI) xCl [(h0, eE h1 h2 kn), (h1, eR hw1 hc1 hb1 a1 r1), (hw1, eW true), (hc1, eA cy f1), (hb1, eA cy g1), (h2, eR hw2 hc2 hb2 a2 r2), (hw2, eW false), (hc2, eA cy f2), (hb2, eA cy g2), (ho, eO 1 sv)] H := hP
      have hD : va_D A [(h0, eE h1 h2 kn), (h1, eR hw1 hc1 hb1 a1 r1), (hw1, eW true), (hc1, eA cy f1), (hb1, eA cy g1), (h2, eR hw2 hc2 hb2 a2 r2), (hw2, eW false), (hc2, eA cy f2), (hb2, eA cy g2), (ho, eO 1 sv)] := hD
      refine lv_goto (tgt := 31) hx hb dL_wideSame_20 (by decide +kernel) ?_
      refine lv_iconst (v := 0) hx hb dL_wideSame_31 (by decide +kernel) ?_
      have he : o_L_wideSame f1 nv p1 p2 p3 = (0, 1) := by (rw [o_L_wideSame, if_pos c_4, if_pos c_5]) <;> rfl
      refine W.widen (k := 3) (n := 18) (by omega) (by omega) ?_
      exact W.iret (v := 0) hx hb hr (fun t ht hW => ⟨⟨_, (), rfl, (by (rw [he]) <;> rfl), (by rw [he]; exact ⟨by rw [ht]; exact hP, hD⟩)⟩, hS.F ht⟩) hS.2.2 dL_wideSame_32
theorem cl_L_wideOther_1 : ∀ w ∈ [.classLink RL 19 "java/lang/IndexOutOfBoundsException", .classLink RL 25 "java/lang/IllegalArgumentException", .methodLink RL 74 yX2_wideOther, .instanceMethod yX2_wideOther, .selects RX2 yX2_wideOther yX2_wideOther, .initialized RX2, .code yX2_wideOther cX2_wideOther 3 (some .boolean), .fieldLink RX2 20 "Edgefloats" "wide" "LEdgefloats$Row;", .methodLink RX2 82 yX0_isEqualToOther, .instanceMethod yX0_isEqualToOther, .selects RX0 yX0_isEqualToOther yX0_isEqualToOther, .initialized RX0, .code yX0_isEqualToOther cX0_isEqualToOther 3 (some .boolean), .static yX2_checkCell, .code yX2_checkCell cX2_checkCell 1 none, .classLink RX2 148 "java/lang/IndexOutOfBoundsException", .initialized "java/lang/IndexOutOfBoundsException", .static yX2_checkChoice, .code yX2_checkChoice cX2_checkChoice 2 none, .classLink RX2 155 "java/lang/IllegalArgumentException", .initialized "java/lang/IllegalArgumentException"], w ∈ wsL_wideOther := fun _ h => (List.mem_cons_of_mem _ (List.mem_append_left _ (List.mem_append_left _ (List.mem_append_left _ (List.mem_append_left _ h)))))
theorem cl_L_wideOther_2 : ∀ w ∈ wsX30, w ∈ wsL_wideOther := fun _ h => (List.mem_cons_of_mem _ (List.mem_append_left _ (List.mem_append_left _ (List.mem_append_left _ (List.mem_append_right _ h)))))
theorem cl_L_wideOther_3 : ∀ w ∈ wsX20, w ∈ wsL_wideOther := fun _ h => (List.mem_cons_of_mem _ (List.mem_append_left _ (List.mem_append_left _ (List.mem_append_right _ h))))
theorem cl_L_wideOther_4 : ∀ w ∈ (vx_atS RX2 152 "java/lang/IndexOutOfBoundsException" ["java/lang/RuntimeException", "java/lang/Exception"]).filter goodWord, w ∈ wsL_wideOther := fun _ h => (List.mem_cons_of_mem _ (List.mem_append_left _ (List.mem_append_right _ h)))
theorem cl_L_wideOther_5 : ∀ w ∈ (vx_atS RX2 159 "java/lang/IllegalArgumentException" ["java/lang/RuntimeException", "java/lang/Exception"]).filter goodWord, w ∈ wsL_wideOther := fun _ h => (List.mem_cons_of_mem _ (List.mem_append_right _ h))
set_option maxRecDepth 20000 in
theorem ggL_wideOther_X2_wideOther : GoodIn wsL_wideOther wsX2_wideOther := goodIn_sub (List.forall_mem_cons.mpr ⟨(cl_L_wideOther_1 _ (List.mem_of_getElem? (i := 6) rfl)), fun w h => (List.mem_append.mp h).elim ((fun w h => (List.mem_append.mp h).elim ((fun w h => (List.mem_append.mp h).elim ((List.forall_mem_cons.mpr ⟨(cl_L_wideOther_1 _ (List.mem_of_getElem? (i := 7) rfl)), List.forall_mem_cons.mpr ⟨(cl_L_wideOther_1 _ (List.mem_of_getElem? (i := 8) rfl)), List.forall_mem_cons.mpr ⟨(cl_L_wideOther_1 _ (List.mem_of_getElem? (i := 9) rfl)), List.forall_mem_cons.mpr ⟨(cl_L_wideOther_1 _ (List.mem_of_getElem? (i := 10) rfl)), List.forall_mem_cons.mpr ⟨(cl_L_wideOther_1 _ (List.mem_of_getElem? (i := 11) rfl)), List.forall_mem_cons.mpr ⟨(cl_L_wideOther_1 _ (List.mem_of_getElem? (i := 12) rfl)), List.forall_mem_cons.mpr ⟨(cl_L_wideOther_1 _ (List.mem_of_getElem? (i := 13) rfl)), List.forall_mem_cons.mpr ⟨(cl_L_wideOther_1 _ (List.mem_of_getElem? (i := 5) rfl)), List.forall_mem_cons.mpr ⟨(cl_L_wideOther_1 _ (List.mem_of_getElem? (i := 14) rfl)), List.forall_mem_cons.mpr ⟨(cl_L_wideOther_1 _ (List.mem_of_getElem? (i := 15) rfl)), List.forall_mem_cons.mpr ⟨(cl_L_wideOther_1 _ (List.mem_of_getElem? (i := 16) rfl)), List.forall_mem_cons.mpr ⟨(cl_L_wideOther_1 _ (List.mem_of_getElem? (i := 17) rfl)), List.forall_mem_cons.mpr ⟨(cl_L_wideOther_1 _ (List.mem_of_getElem? (i := 18) rfl)), List.forall_mem_cons.mpr ⟨(cl_L_wideOther_1 _ (List.mem_of_getElem? (i := 19) rfl)), List.forall_mem_cons.mpr ⟨(cl_L_wideOther_1 _ (List.mem_of_getElem? (i := 20) rfl)), fun _ h => absurd h List.not_mem_nil⟩⟩⟩⟩⟩⟩⟩⟩⟩⟩⟩⟩⟩⟩⟩) w) ((cl_L_wideOther_3) w)) w) ((cl_L_wideOther_4) w)) w) ((cl_L_wideOther_5) w)⟩) (by decide +kernel)
set_option maxRecDepth 20000 in
theorem gL_wideOther_X2_wideOther : GoodIn wsL_wideOther (wsV RL 74 RX2 yX2_wideOther wsX2_wideOther) := goodIn_app (goodIn_sub (List.forall_mem_cons.mpr ⟨(cl_L_wideOther_1 _ (List.mem_of_getElem? (i := 2) rfl)), List.forall_mem_cons.mpr ⟨(cl_L_wideOther_1 _ (List.mem_of_getElem? (i := 3) rfl)), List.forall_mem_cons.mpr ⟨(cl_L_wideOther_1 _ (List.mem_of_getElem? (i := 4) rfl)), List.forall_mem_cons.mpr ⟨(cl_L_wideOther_1 _ (List.mem_of_getElem? (i := 5) rfl)), fun _ h => absurd h List.not_mem_nil⟩⟩⟩⟩) (by decide +kernel)) ggL_wideOther_X2_wideOther
noncomputable def dz_p16_15 : List (Nat × Instr × Nat) := [(0, (.aload_n 3, 1)), (1, (.aload_n 0, 1)), (2, (.iload_n 1, 1)), (3, (.iload_n 2, 1)), (4, (.invokevirtual 74, 3)), (7, (.ifCond .eq 7, 3)), (10, (.lconst 1, 1)), (11, (.goto 4, 3)), (14, (.lconst 0, 1)), (15, (.putfield 13, 3)), (18, (.goto 11, 3)), (21, (.astore 4, 2)), (23, (.iconst 1, 1)), (24, (.ireturn, 1)), (25, (.astore 4, 2)), (27, (.iconst 2, 1)), (28, (.ireturn, 1)), (29, (.iconst 0, 1)), (30, (.ireturn, 1))]
theorem dy_p16_15 : dz_ok cL_wideOther dz_p16_15 = true := by decide +kernel
theorem dL_wideOther_0 : decode cL_wideOther 0 = .ok (.aload_n 3, 1) := dz_at (i := 0) dy_p16_15 rfl
theorem dL_wideOther_1 : decode cL_wideOther 1 = .ok (.aload_n 0, 1) := dz_at (i := 1) dy_p16_15 rfl
theorem dL_wideOther_2 : decode cL_wideOther 2 = .ok (.iload_n 1, 1) := dz_at (i := 2) dy_p16_15 rfl
theorem dL_wideOther_3 : decode cL_wideOther 3 = .ok (.iload_n 2, 1) := dz_at (i := 3) dy_p16_15 rfl
theorem dL_wideOther_4 : decode cL_wideOther 4 = .ok (.invokevirtual 74, 3) := dz_at (i := 4) dy_p16_15 rfl
theorem dL_wideOther_7 : decode cL_wideOther 7 = .ok (.ifCond .eq 7, 3) := dz_at (i := 5) dy_p16_15 rfl
theorem dL_wideOther_10 : decode cL_wideOther 10 = .ok (.lconst 1, 1) := dz_at (i := 6) dy_p16_15 rfl
theorem dL_wideOther_11 : decode cL_wideOther 11 = .ok (.goto 4, 3) := dz_at (i := 7) dy_p16_15 rfl
theorem dL_wideOther_14 : decode cL_wideOther 14 = .ok (.lconst 0, 1) := dz_at (i := 8) dy_p16_15 rfl
theorem dL_wideOther_15 : decode cL_wideOther 15 = .ok (.putfield 13, 3) := dz_at (i := 9) dy_p16_15 rfl
theorem dL_wideOther_18 : decode cL_wideOther 18 = .ok (.goto 11, 3) := dz_at (i := 10) dy_p16_15 rfl
theorem dL_wideOther_21 : decode cL_wideOther 21 = .ok (.astore 4, 2) := dz_at (i := 11) dy_p16_15 rfl
theorem dL_wideOther_23 : decode cL_wideOther 23 = .ok (.iconst 1, 1) := dz_at (i := 12) dy_p16_15 rfl
theorem dL_wideOther_24 : decode cL_wideOther 24 = .ok (.ireturn, 1) := dz_at (i := 13) dy_p16_15 rfl
theorem dL_wideOther_25 : decode cL_wideOther 25 = .ok (.astore 4, 2) := dz_at (i := 14) dy_p16_15 rfl
theorem dL_wideOther_27 : decode cL_wideOther 27 = .ok (.iconst 2, 1) := dz_at (i := 15) dy_p16_15 rfl
theorem dL_wideOther_28 : decode cL_wideOther 28 = .ok (.ireturn, 1) := dz_at (i := 16) dy_p16_15 rfl
theorem dL_wideOther_29 : decode cL_wideOther 29 = .ok (.iconst 0, 1) := dz_at (i := 17) dy_p16_15 rfl
theorem dL_wideOther_30 : decode cL_wideOther 30 = .ok (.ireturn, 1) := dz_at (i := 18) dy_p16_15 rfl
noncomputable def o_L_wideOther (nv : Int64) (p1 : Int32) (p2 : Int32) : Int32 × Int64 :=
  if (o_X2_wideOther p1 p2).1 = 0 then (if (o_X2_wideOther p1 p2).2 = true then (0, 1)
    else (0, 0))
  else if (o_X2_wideOther p1 p2).1 = 1 then (1, nv)
  else (2, nv)
set_option maxHeartbeats 4000000 in
set_option maxRecDepth 100000 in
theorem k_L_wideOther (l : Launch) (hfl : l.flags = flags0) (dC : Nat → ClassId) (dI : Nat → Nat → Nat) (cy : ClassId) (h0 : Nat) (h1 : Nat) (hw1 : Nat) (hc1 : Nat) (hb1 : Nat) (h2 : Nat) (hw2 : Nat) (hc2 : Nat) (hb2 : Nat) (a1 : Int32) (r1 : Int32) (f1 : Nat → Int64) (g1 : Nat → Int64) (a2 : Int32) (r2 : Int32) (f2 : Nat → Int64) (g2 : Nat → Int64) (kn : Int32) (ho : Nat) (nv : Int64) (sv : Value) (sz : Nat) (N : Nat) (p1 : Int32) (p2 : Int32) : Met l yL_wideOther wsL_wideOther ({ frames := 9, cells := 2, slots := 12, locals := 165 }) (va_Pc [.ref h0, .int p1, .int p2, .ref ho] (xL (dC, dI) xCl [(h0, eE h1 h2 kn), (h1, eR hw1 hc1 hb1 a1 r1), (hw1, eW true), (hc1, eA cy f1), (hb1, eA cy g1), (h2, eR hw2 hc2 hb2 a2 r2), (hw2, eW false), (hc2, eA cy f2), (hb2, eA cy g2), (ho, eO nv sv)] [(cy, .long)] sz N)) (va_Qi (fun (r : Int32) (_ : Unit) => r = (o_L_wideOther nv p1 p2).1) (fun _ t => xW (dC, dI) xCl [(h0, eE h1 h2 kn), (h1, eR hw1 hc1 hb1 a1 r1), (hw1, eW true), (hc1, eA cy f1), (hb1, eA cy g1), (h2, eR hw2 hc2 hb2 a2 r2), (hw2, eW false), (hc2, eA cy f2), (hb2, eA cy g2), (ho, eO (o_L_wideOther nv p1 p2).2 sv)] (va_A [(h0, eE h1 h2 kn), (h1, eR hw1 hc1 hb1 a1 r1), (hw1, eW true), (hc1, eA cy f1), (hb1, eA cy g1), (h2, eR hw2 hc2 hb2 a2 r2), (hw2, eW false), (hc2, eA cy f2), (hb2, eA cy g2), (ho, eO nv sv)] sz) t) (va_A [(h0, eE h1 h2 kn), (h1, eR hw1 hc1 hb1 a1 r1), (hw1, eW true), (hc1, eA cy f1), (hb1, eA cy g1), (h2, eR hw2 hc2 hb2 a2 r2), (hw2, eW false), (hc2, eA cy f2), (hb2, eA cy g2), (ho, eO nv sv)] sz)) 2 12 (va_A [(h0, eE h1 h2 kn), (h1, eR hw1 hc1 hb1 a1 r1), (hw1, eW true), (hc1, eA cy f1), (hb1, eA cy g1), (h2, eR hw2 hc2 hb2 a2 r2), (hw2, eW false), (hc2, eA cy f2), (hb2, eA cy g2), (ho, eO nv sv)] sz) := by
  refine va_MetW (cc := cL_wideOther) (maxL := 5) (ret := (some .int)) (by decide +kernel) rfl ?_
  intro p e s m args below meth c s₁ B hml hv
  obtain ⟨rfl, ⟨hsz, hP, hK, hD0, hN, hG⟩, hnc⟩ := hv
  have hx := B.exec
  have hb := B.bytes
  have hr := B.returns
  have hts := atoms_spec (ws := wsL_wideOther) B.pre
  have hown : s.vm.findClass RL = some m.cls := findClass_of_methodNamed B.named
  have hlocks := B.notSynchronized
  have htab := vx_table (x := yL_wideOther) B (hts _ List.mem_cons_self)
  subst hsz
  have hAN : ∀ q, va_A [(h0, eE h1 h2 kn), (h1, eR hw1 hc1 hb1 a1 r1), (hw1, eW true), (hc1, eA cy f1), (hb1, eA cy g1), (h2, eR hw2 hc2 hb2 a2 r2), (hw2, eW false), (hc2, eA cy f2), (hb2, eA cy g2), (ho, eO nv sv)] s.heap.size q → N ≤ q := xA_N hD0 hN
  have hD := hD0.self (sz := s.heap.size)
  generalize hAe : va_A [(h0, eE h1 h2 kn), (h1, eR hw1 hc1 hb1 a1 r1), (hw1, eW true), (hc1, eA cy f1), (hb1, eA cy g1), (h2, eR hw2 hc2 hb2 a2 r2), (hw2, eW false), (hc2, eA cy f2), (hb2, eA cy g2), (ho, eO nv sv)] s.heap.size = A at hD hAN ⊢
  have hA : ∀ q : Nat, s.heap.size ≤ q → A q := fun q h => by rw [← hAe]; exact Or.inr h
  have hS : va_S A s.heap s.heap [] := va_S.rf
  have hP : va_P (dC, dI) xCl [(h0, eE h1 h2 kn), (h1, eR hw1 hc1 hb1 a1 r1), (hw1, eW true), (hc1, eA cy f1), (hb1, eA cy g1), (h2, eR hw2 hc2 hb2 a2 r2), (hw2, eW false), (hc2, eA cy f2), (hb2, eA cy g2), (ho, eO nv sv)] s.heap := hP
  have hl := lv_entry ([.ref h0, .int p1, .int p2, .ref ho]) (n := 5) (Nat.le_of_ble_eq_true rfl)
  rw [lg_entry_eq]
  generalize (lg_sl ([.ref h0, .int p1, .int p2, .ref ho]) ++ List.replicate (5 - (lg_sl ([.ref h0, .int p1, .int p2, .ref ho])).length) Slot.unset).toArray = ls at hl ⊢
  have hl : lv_has ls 5 [(0, .ref h0), (1, .int p1), (2, .int p2), (3, .ref ho)] := hl
  refine lv_aload_n hx hb dL_wideOther_0 rfl (lv_at hl 3 rfl) ?_
  refine lv_aload_n hx hb dL_wideOther_1 rfl (lv_at hl 0 rfl) ?_
  refine lv_iload_n hx hb dL_wideOther_2 rfl (lv_at hl 1 rfl) ?_
  refine lv_iload_n hx hb dL_wideOther_3 rfl (lv_at hl 2 rfl) ?_
  have hPc := hP.sub (ws' := [(h0, eE h1 h2 kn), (h1, eR hw1 hc1 hb1 a1 r1), (hw1, eW true), (hc1, eA cy f1), (hb1, eA cy g1), (h2, eR hw2 hc2 hb2 a2 r2), (hw2, eW false), (hc2, eA cy f2), (hb2, eA cy g2)]) [0, 1, 2, 3, 4, 5, 6, 7, 8] rfl
  have hDc := hD.sub (ws' := [(h0, eE h1 h2 kn), (h1, eR hw1 hc1 hb1 a1 r1), (hw1, eW true), (hc1, eA cy f1), (hb1, eA cy g1), (h2, eR hw2 hc2 hb2 a2 r2), (hw2, eW false), (hc2, eA cy f2), (hb2, eA cy g2)]) [0, 1, 2, 3, 4, 5, 6, 7, 8] (by decide +kernel) rfl
  have hKc := hK.sub (tys' := [(cy, .long)]) [0] rfl
  refine vx_calli (vx_runV (As := [.int p1, .int p2]) (rest := [.ref ho]) ⟨hx, hb, hml, hown, hts⟩ (k_X2_wideOther l hfl dC dI cy h0 h1 hw1 hc1 hb1 h2 hw2 hc2 hb2 a1 r1 f1 g1 a2 r2 f2 g2 kn s.heap.size N p1 p2) (cwV 2 hts gL_wideOther_X2_wideOther rfl rfl rfl (by decide +kernel) ⟨Nat.le_of_ble_eq_true rfl, Nat.le_of_ble_eq_true rfl⟩) (xM.preV hKc hPc hDc hAN (Nat.le_trans hN hS.1) (hG.kept hS hAN) (ci := 4) (q0 := 0) rfl rfl) rfl rfl hl.1 rfl (lv_room (Nat.le_of_ble_eq_true rfl)) dL_wideOther_4 ⟨Nat.le_of_ble_eq_true rfl, Nat.le_of_ble_eq_true rfl⟩) hS xA_old (fun q h => hA q (Nat.le_trans hS.1 h)) xA_old (fun E ce q9 u9 t H locs ht hvm hpx hbx hz hk hS hce hcv hcl => ?_) (fun r_1 u t H locs ht hvm hw hB hz hk hS => ?_)
  · have c_2 : ¬ (o_X2_wideOther p1 p2).1 = 0 := hpx
    have hbe := hbx
    have hP := xP_keep hP hk
    by_cases c_3 : (o_X2_wideOther p1 p2).1 = 1
    · skip
      have hE : E = "java/lang/IndexOutOfBoundsException" := hbe.trans (by rw [c_3]; rfl)
      subst hE
      refine vx_catch (own := RL) (name := "java/lang/IndexOutOfBoundsException") hown [] ⟨0, 18, 21, 19⟩ [⟨0, 18, 25, 25⟩] htab (fun z hz => absurd hz List.not_mem_nil) (by decide +kernel) (by decide +kernel) (hts (.classLink RL 19 "java/lang/IndexOutOfBoundsException") (by decide +kernel)) (va_Nw.use rfl (hG.1 (.castable "java/lang/IndexOutOfBoundsException" "java/lang/IndexOutOfBoundsException") (List.mem_of_getElem? (i := 11) rfl))) hce hcv hcl ?_
      refine lv_astore (lv' := [(4, .ref q9), (0, .ref h0), (1, .int p1), (2, .int p2), (3, .ref ho)]) hx hb dL_wideOther_21 hl (by decide +kernel) rfl (fun ls hl => ?_)
      refine lv_iconst (v := 1) hx hb dL_wideOther_23 (by decide +kernel) ?_
      have he : o_L_wideOther nv p1 p2 = (1, nv) := by (rw [o_L_wideOther, if_neg c_2, if_pos c_3]) <;> rfl
      refine W.widen (k := 2) (n := 12) (by omega) (by omega) ?_
      exact W.iret (v := 1) hx hb hr (fun t ht hW => ⟨⟨_, (), rfl, (by (rw [he]) <;> rfl), (by rw [he]; exact ⟨by rw [ht]; exact hP, hD⟩)⟩, hS.F ht⟩) hS.2.2 dL_wideOther_24
    · skip
      have hE : E = "java/lang/IllegalArgumentException" := hbe.trans (if_neg c_3)
      subst hE
      refine vx_catch (own := RL) (name := "java/lang/IllegalArgumentException") hown [⟨0, 18, 21, 19⟩] ⟨0, 18, 25, 25⟩ [] htab (fun z hz => by cases List.mem_singleton.mp hz; exact Or.inr ⟨by decide, "java/lang/IndexOutOfBoundsException", hts (.classLink RL 19 "java/lang/IndexOutOfBoundsException") (by decide +kernel), hnc⟩) (by decide +kernel) (by decide +kernel) (hts (.classLink RL 25 "java/lang/IllegalArgumentException") (by decide +kernel)) (va_Nw.use rfl (hG.1 (.castable "java/lang/IllegalArgumentException" "java/lang/IllegalArgumentException") (List.mem_of_getElem? (i := 12) rfl))) hce hcv hcl ?_
      refine lv_astore (lv' := [(4, .ref q9), (0, .ref h0), (1, .int p1), (2, .int p2), (3, .ref ho)]) hx hb dL_wideOther_25 hl (by decide +kernel) rfl (fun ls hl => ?_)
      refine lv_iconst (v := 2) hx hb dL_wideOther_27 (by decide +kernel) ?_
      have he : o_L_wideOther nv p1 p2 = (2, nv) := by (rw [o_L_wideOther, if_neg c_2, if_neg c_3]) <;> rfl
      refine W.widen (k := 2) (n := 12) (by omega) (by omega) ?_
      exact W.iret (v := 2) hx hb hr (fun t ht hW => ⟨⟨_, (), rfl, (by (rw [he]) <;> rfl), (by rw [he]; exact ⟨by rw [ht]; exact hP, hD⟩)⟩, hS.F ht⟩) hS.2.2 dL_wideOther_28
  · skip
    obtain ⟨c_4, hw⟩ := hw
    have c_4 : (o_X2_wideOther p1 p2).1 = 0 := c_4
    replace hw : r_1 = b2i ((o_X2_wideOther p1 p2).2) := hw
    subst r_1
    have hP := xP_keep hP hk
    refine xz_eq (tgt := 14) hx hb dL_wideOther_7 (by decide +kernel) (fun c_5 => ?_) (fun c_5 => ?_)
    · skip
      refine lv_lconst (v := 0) hx hb dL_wideOther_14 (by decide +kernel) ?_
      refine va_putN (D := (dC, dI)) (ci := 5) (v := .long 0) (ty := .long) (C := RX3) (T := TX3) (N := 2) hx hb hts (by decide +kernel) tyX3 tyX3_ok nmX3 hown hK hP hD hS 9 rfl rfl 0 (by decide +kernel) (va_Nw.use rfl (hG.1 (.fieldLinkNest RL 13 "EdgefloatsLaw$Out" "n" "J" RL) (List.mem_of_getElem? (i := 6) rfl))) (fun _ h9 => h9) rfl (by decide +kernel) rfl rfl (Nat.le_of_ble_eq_true rfl) dL_wideOther_15 (fun H locs hP hD hS => ?_)
      have hP : va_P (dC, dI) xCl [(h0, eE h1 h2 kn), (h1, eR hw1 hc1 hb1 a1 r1), (hw1, eW true), (hc1, eA cy f1), (hb1, eA cy g1), (h2, eR hw2 hc2 hb2 a2 r2), (hw2, eW false), (hc2, eA cy f2), (hb2, eA cy g2), (ho, eO 0 sv)] H := hP
      have hD : va_D A [(h0, eE h1 h2 kn), (h1, eR hw1 hc1 hb1 a1 r1), (hw1, eW true), (hc1, eA cy f1), (hb1, eA cy g1), (h2, eR hw2 hc2 hb2 a2 r2), (hw2, eW false), (hc2, eA cy f2), (hb2, eA cy g2), (ho, eO 0 sv)] := hD
      refine lv_goto (tgt := 29) hx hb dL_wideOther_18 (by decide +kernel) ?_
      refine lv_iconst (v := 0) hx hb dL_wideOther_29 (by decide +kernel) ?_
      have he : o_L_wideOther nv p1 p2 = (0, 0) := by (rw [o_L_wideOther, if_pos c_4, if_neg c_5]) <;> rfl
      refine W.widen (k := 2) (n := 12) (by omega) (by omega) ?_
      exact W.iret (v := 0) hx hb hr (fun t ht hW => ⟨⟨_, (), rfl, (by (rw [he]) <;> rfl), (by rw [he]; exact ⟨by rw [ht]; exact hP, hD⟩)⟩, hS.F ht⟩) hS.2.2 dL_wideOther_30
    · skip
      refine lv_lconst (v := 1) hx hb dL_wideOther_10 (by decide +kernel) ?_
      refine lv_goto (tgt := 15) hx hb dL_wideOther_11 (by decide +kernel) ?_
      refine va_putN (D := (dC, dI)) (ci := 5) (v := .long 1) (ty := .long) (C := RX3) (T := TX3) (N := 2) hx hb hts (by decide +kernel) tyX3 tyX3_ok nmX3 hown hK hP hD hS 9 rfl rfl 0 (by decide +kernel) (va_Nw.use rfl (hG.1 (.fieldLinkNest RL 13 "EdgefloatsLaw$Out" "n" "J" RL) (List.mem_of_getElem? (i := 6) rfl))) (fun _ h9 => h9) rfl (by decide +kernel) rfl rfl (Nat.le_of_ble_eq_true rfl) dL_wideOther_15 (fun H locs hP hD hS => ?_)
      have hP : va_P (dC, dI) xCl [(h0, eE h1 h2 kn), (h1, eR hw1 hc1 hb1 a1 r1), (hw1, eW true), (hc1, eA cy f1), (hb1, eA cy g1), (h2, eR hw2 hc2 hb2 a2 r2), (hw2, eW false), (hc2, eA cy f2), (hb2, eA cy g2), (ho, eO 1 sv)] H := hP
      have hD : va_D A [(h0, eE h1 h2 kn), (h1, eR hw1 hc1 hb1 a1 r1), (hw1, eW true), (hc1, eA cy f1), (hb1, eA cy g1), (h2, eR hw2 hc2 hb2 a2 r2), (hw2, eW false), (hc2, eA cy f2), (hb2, eA cy g2), (ho, eO 1 sv)] := hD
      refine lv_goto (tgt := 29) hx hb dL_wideOther_18 (by decide +kernel) ?_
      refine lv_iconst (v := 0) hx hb dL_wideOther_29 (by decide +kernel) ?_
      have he : o_L_wideOther nv p1 p2 = (0, 1) := by (rw [o_L_wideOther, if_pos c_4, if_pos c_5]) <;> rfl
      refine W.widen (k := 2) (n := 12) (by omega) (by omega) ?_
      exact W.iret (v := 0) hx hb hr (fun t ht hW => ⟨⟨_, (), rfl, (by (rw [he]) <;> rfl), (by rw [he]; exact ⟨by rw [ht]; exact hP, hD⟩)⟩, hS.F ht⟩) hS.2.2 dL_wideOther_30
theorem cl_L_wideLike_1 : ∀ w ∈ wsL_wideLike_r1, w ∈ wsL_wideLike := fun _ h => (List.mem_cons_of_mem _ (List.mem_append_left _ (List.mem_append_left _ (List.mem_append_left _ (List.mem_append_left _ (List.mem_append_left _ (List.mem_append_left _ h)))))))
theorem cl_L_wideLike_2 : ∀ w ∈ wsL_wideLike_r2, w ∈ wsL_wideLike := fun _ h => (List.mem_cons_of_mem _ (List.mem_append_left _ (List.mem_append_left _ (List.mem_append_left _ (List.mem_append_left _ (List.mem_append_left _ (List.mem_append_right _ h)))))))
theorem cl_L_wideLike_3 : ∀ w ∈ wsX30, w ∈ wsL_wideLike := fun _ h => (List.mem_cons_of_mem _ (List.mem_append_left _ (List.mem_append_left _ (List.mem_append_left _ (List.mem_append_left _ (List.mem_append_right _ h))))))
theorem cl_L_wideLike_4 : ∀ w ∈ wsX20, w ∈ wsL_wideLike := fun _ h => (List.mem_cons_of_mem _ (List.mem_append_left _ (List.mem_append_left _ (List.mem_append_left _ (List.mem_append_right _ h)))))
theorem cl_L_wideLike_5 : ∀ w ∈ wsX00, w ∈ wsL_wideLike := fun _ h => (List.mem_cons_of_mem _ (List.mem_append_left _ (List.mem_append_left _ (List.mem_append_right _ h))))
theorem cl_L_wideLike_6 : ∀ w ∈ wsX10, w ∈ wsL_wideLike := fun _ h => (List.mem_cons_of_mem _ (List.mem_append_left _ (List.mem_append_right _ h)))
theorem cl_L_wideLike_7 : ∀ w ∈ (vx_atS RX2 152 "java/lang/IndexOutOfBoundsException" ["java/lang/RuntimeException", "java/lang/Exception"]).filter goodWord, w ∈ wsL_wideLike := fun _ h => (List.mem_cons_of_mem _ (List.mem_append_right _ h))
set_option maxRecDepth 20000 in
theorem ggL_wideLike_X2_wideLike : GoodIn wsL_wideLike wsX2_wideLike := goodIn_sub (List.forall_mem_cons.mpr ⟨(cl_L_wideLike_1 _ (List.mem_of_getElem? (i := 5) rfl)), fun w h => (List.mem_append.mp h).elim ((fun w h => (List.mem_append.mp h).elim ((fun w h => (List.mem_append.mp h).elim ((fun w h => (List.mem_append.mp h).elim ((List.forall_mem_cons.mpr ⟨(cl_L_wideLike_1 _ (List.mem_of_getElem? (i := 6) rfl)), List.forall_mem_cons.mpr ⟨(cl_L_wideLike_1 _ (List.mem_of_getElem? (i := 7) rfl)), List.forall_mem_cons.mpr ⟨(cl_L_wideLike_1 _ (List.mem_of_getElem? (i := 8) rfl)), List.forall_mem_cons.mpr ⟨(cl_L_wideLike_1 _ (List.mem_of_getElem? (i := 9) rfl)), List.forall_mem_cons.mpr ⟨(cl_L_wideLike_1 _ (List.mem_of_getElem? (i := 10) rfl)), List.forall_mem_cons.mpr ⟨(cl_L_wideLike_1 _ (List.mem_of_getElem? (i := 11) rfl)), List.forall_mem_cons.mpr ⟨(cl_L_wideLike_1 _ (List.mem_of_getElem? (i := 12) rfl)), List.forall_mem_cons.mpr ⟨(cl_L_wideLike_1 _ (List.mem_of_getElem? (i := 13) rfl)), List.forall_mem_cons.mpr ⟨(cl_L_wideLike_1 _ (List.mem_of_getElem? (i := 14) rfl)), List.forall_mem_cons.mpr ⟨(cl_L_wideLike_1 _ (List.mem_of_getElem? (i := 4) rfl)), List.forall_mem_cons.mpr ⟨(cl_L_wideLike_1 _ (List.mem_of_getElem? (i := 15) rfl)), List.forall_mem_cons.mpr ⟨(cl_L_wideLike_1 _ (List.mem_of_getElem? (i := 16) rfl)), List.forall_mem_cons.mpr ⟨(cl_L_wideLike_1 _ (List.mem_of_getElem? (i := 17) rfl)), List.forall_mem_cons.mpr ⟨(cl_L_wideLike_1 _ (List.mem_of_getElem? (i := 18) rfl)), List.forall_mem_cons.mpr ⟨(cl_L_wideLike_1 _ (List.mem_of_getElem? (i := 19) rfl)), List.forall_mem_cons.mpr ⟨(cl_L_wideLike_1 _ (List.mem_of_getElem? (i := 20) rfl)), List.forall_mem_cons.mpr ⟨(cl_L_wideLike_1 _ (List.mem_of_getElem? (i := 21) rfl)), List.forall_mem_cons.mpr ⟨(cl_L_wideLike_1 _ (List.mem_of_getElem? (i := 22) rfl)), List.forall_mem_cons.mpr ⟨(cl_L_wideLike_1 _ (List.mem_of_getElem? (i := 23) rfl)), List.forall_mem_cons.mpr ⟨(cl_L_wideLike_2 _ (List.mem_of_getElem? (i := 0) rfl)), List.forall_mem_cons.mpr ⟨(cl_L_wideLike_2 _ (List.mem_of_getElem? (i := 1) rfl)), List.forall_mem_cons.mpr ⟨(cl_L_wideLike_2 _ (List.mem_of_getElem? (i := 2) rfl)), List.forall_mem_cons.mpr ⟨(cl_L_wideLike_2 _ (List.mem_of_getElem? (i := 3) rfl)), List.forall_mem_cons.mpr ⟨(cl_L_wideLike_2 _ (List.mem_of_getElem? (i := 4) rfl)), fun _ h => absurd h List.not_mem_nil⟩⟩⟩⟩⟩⟩⟩⟩⟩⟩⟩⟩⟩⟩⟩⟩⟩⟩⟩⟩⟩⟩⟩⟩) w) ((cl_L_wideLike_4) w)) w) ((cl_L_wideLike_5) w)) w) ((cl_L_wideLike_6) w)) w) ((cl_L_wideLike_7) w)⟩) (by decide +kernel)
set_option maxRecDepth 20000 in
theorem gL_wideLike_X2_wideLike : GoodIn wsL_wideLike (wsV RL 78 RX2 yX2_wideLike wsX2_wideLike) := goodIn_app (goodIn_sub (List.forall_mem_cons.mpr ⟨(cl_L_wideLike_1 _ (List.mem_of_getElem? (i := 1) rfl)), List.forall_mem_cons.mpr ⟨(cl_L_wideLike_1 _ (List.mem_of_getElem? (i := 2) rfl)), List.forall_mem_cons.mpr ⟨(cl_L_wideLike_1 _ (List.mem_of_getElem? (i := 3) rfl)), List.forall_mem_cons.mpr ⟨(cl_L_wideLike_1 _ (List.mem_of_getElem? (i := 4) rfl)), fun _ h => absurd h List.not_mem_nil⟩⟩⟩⟩) (by decide +kernel)) ggL_wideLike_X2_wideLike
noncomputable def dz_p16_16 : List (Nat × Instr × Nat) := [(0, (.aload_n 3, 1)), (1, (.aload_n 0, 1)), (2, (.iload_n 1, 1)), (3, (.iload_n 2, 1)), (4, (.invokevirtual 78, 3)), (7, (.ifCond .eq 7, 3)), (10, (.lconst 1, 1)), (11, (.goto 4, 3)), (14, (.lconst 0, 1)), (15, (.putfield 13, 3)), (18, (.goto 7, 3)), (21, (.astore 4, 2)), (23, (.iconst 1, 1)), (24, (.ireturn, 1)), (25, (.iconst 0, 1)), (26, (.ireturn, 1))]
theorem dy_p16_16 : dz_ok cL_wideLike dz_p16_16 = true := by decide +kernel
theorem dL_wideLike_0 : decode cL_wideLike 0 = .ok (.aload_n 3, 1) := dz_at (i := 0) dy_p16_16 rfl
theorem dL_wideLike_1 : decode cL_wideLike 1 = .ok (.aload_n 0, 1) := dz_at (i := 1) dy_p16_16 rfl
theorem dL_wideLike_2 : decode cL_wideLike 2 = .ok (.iload_n 1, 1) := dz_at (i := 2) dy_p16_16 rfl
theorem dL_wideLike_3 : decode cL_wideLike 3 = .ok (.iload_n 2, 1) := dz_at (i := 3) dy_p16_16 rfl
theorem dL_wideLike_4 : decode cL_wideLike 4 = .ok (.invokevirtual 78, 3) := dz_at (i := 4) dy_p16_16 rfl
theorem dL_wideLike_7 : decode cL_wideLike 7 = .ok (.ifCond .eq 7, 3) := dz_at (i := 5) dy_p16_16 rfl
theorem dL_wideLike_10 : decode cL_wideLike 10 = .ok (.lconst 1, 1) := dz_at (i := 6) dy_p16_16 rfl
theorem dL_wideLike_11 : decode cL_wideLike 11 = .ok (.goto 4, 3) := dz_at (i := 7) dy_p16_16 rfl
theorem dL_wideLike_14 : decode cL_wideLike 14 = .ok (.lconst 0, 1) := dz_at (i := 8) dy_p16_16 rfl
theorem dL_wideLike_15 : decode cL_wideLike 15 = .ok (.putfield 13, 3) := dz_at (i := 9) dy_p16_16 rfl
theorem dL_wideLike_18 : decode cL_wideLike 18 = .ok (.goto 7, 3) := dz_at (i := 10) dy_p16_16 rfl
theorem dL_wideLike_21 : decode cL_wideLike 21 = .ok (.astore 4, 2) := dz_at (i := 11) dy_p16_16 rfl
theorem dL_wideLike_23 : decode cL_wideLike 23 = .ok (.iconst 1, 1) := dz_at (i := 12) dy_p16_16 rfl
theorem dL_wideLike_24 : decode cL_wideLike 24 = .ok (.ireturn, 1) := dz_at (i := 13) dy_p16_16 rfl
theorem dL_wideLike_25 : decode cL_wideLike 25 = .ok (.iconst 0, 1) := dz_at (i := 14) dy_p16_16 rfl
theorem dL_wideLike_26 : decode cL_wideLike 26 = .ok (.ireturn, 1) := dz_at (i := 15) dy_p16_16 rfl
noncomputable def o_L_wideLike (f1 : Nat → Int64) (nv : Int64) (p1 : Int32) (p2 : Int32) : Int32 × Int64 :=
  if (o_X2_wideLike f1 p1 p2).1 = 0 then (if (o_X2_wideLike f1 p1 p2).2 = true then (0, 1)
    else (0, 0))
  else (1, nv)
set_option maxHeartbeats 4000000 in
set_option maxRecDepth 100000 in
theorem k_L_wideLike (l : Launch) (hfl : l.flags = flags0) (dC : Nat → ClassId) (dI : Nat → Nat → Nat) (cy : ClassId) (h0 : Nat) (h1 : Nat) (hw1 : Nat) (hc1 : Nat) (hb1 : Nat) (h2 : Nat) (hw2 : Nat) (hc2 : Nat) (hb2 : Nat) (a1 : Int32) (r1 : Int32) (f1 : Nat → Int64) (g1 : Nat → Int64) (a2 : Int32) (r2 : Int32) (f2 : Nat → Int64) (g2 : Nat → Int64) (kn : Int32) (ho : Nat) (nv : Int64) (sv : Value) (sz : Nat) (N : Nat) (p1 : Int32) (p2 : Int32) : Met l yL_wideLike wsL_wideLike ({ frames := 9, cells := 2, slots := 12, locals := 164 }) (va_Pc [.ref h0, .int p1, .int p2, .ref ho] (xL (dC, dI) xCl [(h0, eE h1 h2 kn), (h1, eR hw1 hc1 hb1 a1 r1), (hw1, eW true), (hc1, eA cy f1), (hb1, eA cy g1), (h2, eR hw2 hc2 hb2 a2 r2), (hw2, eW false), (hc2, eA cy f2), (hb2, eA cy g2), (ho, eO nv sv)] [(cy, .long)] sz N)) (va_Qi (fun (r : Int32) (_ : Unit) => r = (o_L_wideLike f1 nv p1 p2).1) (fun _ t => xW (dC, dI) xCl [(h0, eE h1 h2 kn), (h1, eR hw1 hc1 hb1 a1 r1), (hw1, eW true), (hc1, eA cy f1), (hb1, eA cy g1), (h2, eR hw2 hc2 hb2 a2 r2), (hw2, eW false), (hc2, eA cy f2), (hb2, eA cy g2), (ho, eO (o_L_wideLike f1 nv p1 p2).2 sv)] (va_A [(h0, eE h1 h2 kn), (h1, eR hw1 hc1 hb1 a1 r1), (hw1, eW true), (hc1, eA cy f1), (hb1, eA cy g1), (h2, eR hw2 hc2 hb2 a2 r2), (hw2, eW false), (hc2, eA cy f2), (hb2, eA cy g2), (ho, eO nv sv)] sz) t) (va_A [(h0, eE h1 h2 kn), (h1, eR hw1 hc1 hb1 a1 r1), (hw1, eW true), (hc1, eA cy f1), (hb1, eA cy g1), (h2, eR hw2 hc2 hb2 a2 r2), (hw2, eW false), (hc2, eA cy f2), (hb2, eA cy g2), (ho, eO nv sv)] sz)) 2 12 (va_A [(h0, eE h1 h2 kn), (h1, eR hw1 hc1 hb1 a1 r1), (hw1, eW true), (hc1, eA cy f1), (hb1, eA cy g1), (h2, eR hw2 hc2 hb2 a2 r2), (hw2, eW false), (hc2, eA cy f2), (hb2, eA cy g2), (ho, eO nv sv)] sz) := by
  refine va_MetW (cc := cL_wideLike) (maxL := 5) (ret := (some .int)) (by decide +kernel) rfl ?_
  intro p e s m args below meth c s₁ B hml hv
  obtain ⟨rfl, ⟨hsz, hP, hK, hD0, hN, hG⟩, hnc⟩ := hv
  have hx := B.exec
  have hb := B.bytes
  have hr := B.returns
  have hts := atoms_spec (ws := wsL_wideLike) B.pre
  have hown : s.vm.findClass RL = some m.cls := findClass_of_methodNamed B.named
  have hlocks := B.notSynchronized
  have htab := vx_table (x := yL_wideLike) B (hts _ List.mem_cons_self)
  subst hsz
  have hAN : ∀ q, va_A [(h0, eE h1 h2 kn), (h1, eR hw1 hc1 hb1 a1 r1), (hw1, eW true), (hc1, eA cy f1), (hb1, eA cy g1), (h2, eR hw2 hc2 hb2 a2 r2), (hw2, eW false), (hc2, eA cy f2), (hb2, eA cy g2), (ho, eO nv sv)] s.heap.size q → N ≤ q := xA_N hD0 hN
  have hD := hD0.self (sz := s.heap.size)
  generalize hAe : va_A [(h0, eE h1 h2 kn), (h1, eR hw1 hc1 hb1 a1 r1), (hw1, eW true), (hc1, eA cy f1), (hb1, eA cy g1), (h2, eR hw2 hc2 hb2 a2 r2), (hw2, eW false), (hc2, eA cy f2), (hb2, eA cy g2), (ho, eO nv sv)] s.heap.size = A at hD hAN ⊢
  have hA : ∀ q : Nat, s.heap.size ≤ q → A q := fun q h => by rw [← hAe]; exact Or.inr h
  have hS : va_S A s.heap s.heap [] := va_S.rf
  have hP : va_P (dC, dI) xCl [(h0, eE h1 h2 kn), (h1, eR hw1 hc1 hb1 a1 r1), (hw1, eW true), (hc1, eA cy f1), (hb1, eA cy g1), (h2, eR hw2 hc2 hb2 a2 r2), (hw2, eW false), (hc2, eA cy f2), (hb2, eA cy g2), (ho, eO nv sv)] s.heap := hP
  have hl := lv_entry ([.ref h0, .int p1, .int p2, .ref ho]) (n := 5) (Nat.le_of_ble_eq_true rfl)
  rw [lg_entry_eq]
  generalize (lg_sl ([.ref h0, .int p1, .int p2, .ref ho]) ++ List.replicate (5 - (lg_sl ([.ref h0, .int p1, .int p2, .ref ho])).length) Slot.unset).toArray = ls at hl ⊢
  have hl : lv_has ls 5 [(0, .ref h0), (1, .int p1), (2, .int p2), (3, .ref ho)] := hl
  refine lv_aload_n hx hb dL_wideLike_0 rfl (lv_at hl 3 rfl) ?_
  refine lv_aload_n hx hb dL_wideLike_1 rfl (lv_at hl 0 rfl) ?_
  refine lv_iload_n hx hb dL_wideLike_2 rfl (lv_at hl 1 rfl) ?_
  refine lv_iload_n hx hb dL_wideLike_3 rfl (lv_at hl 2 rfl) ?_
  have hPc := hP.sub (ws' := [(h0, eE h1 h2 kn), (h1, eR hw1 hc1 hb1 a1 r1), (hw1, eW true), (hc1, eA cy f1), (hb1, eA cy g1), (h2, eR hw2 hc2 hb2 a2 r2), (hw2, eW false), (hc2, eA cy f2), (hb2, eA cy g2)]) [0, 1, 2, 3, 4, 5, 6, 7, 8] rfl
  have hDc := hD.sub (ws' := [(h0, eE h1 h2 kn), (h1, eR hw1 hc1 hb1 a1 r1), (hw1, eW true), (hc1, eA cy f1), (hb1, eA cy g1), (h2, eR hw2 hc2 hb2 a2 r2), (hw2, eW false), (hc2, eA cy f2), (hb2, eA cy g2)]) [0, 1, 2, 3, 4, 5, 6, 7, 8] (by decide +kernel) rfl
  have hKc := hK.sub (tys' := [(cy, .long)]) [0] rfl
  refine vx_calli (vx_runV (As := [.int p1, .int p2]) (rest := [.ref ho]) ⟨hx, hb, hml, hown, hts⟩ (k_X2_wideLike l hfl dC dI cy h0 h1 hw1 hc1 hb1 h2 hw2 hc2 hb2 a1 r1 f1 g1 a2 r2 f2 g2 kn s.heap.size N p1 p2) (cwV 2 hts gL_wideLike_X2_wideLike rfl rfl rfl (by decide +kernel) ⟨Nat.le_of_ble_eq_true rfl, Nat.le_of_ble_eq_true rfl⟩) (xM.preV hKc hPc hDc hAN (Nat.le_trans hN hS.1) (hG.kept hS hAN) (ci := 4) (q0 := 0) rfl rfl) rfl rfl hl.1 rfl (lv_room (Nat.le_of_ble_eq_true rfl)) dL_wideLike_4 ⟨Nat.le_of_ble_eq_true rfl, Nat.le_of_ble_eq_true rfl⟩) hS xA_old (fun q h => hA q (Nat.le_trans hS.1 h)) xA_old (fun E ce q9 u9 t H locs ht hvm hpx hbx hz hk hS hce hcv hcl => ?_) (fun r_1 u t H locs ht hvm hw hB hz hk hS => ?_)
  · have c_2 : ¬ (o_X2_wideLike f1 p1 p2).1 = 0 := hpx
    have hbe := hbx
    have hP := xP_keep hP hk
    have hE : E = "java/lang/IndexOutOfBoundsException" := hbe.trans (by rw [show (o_X2_wideLike f1 p1 p2).1 = 1 from (xr_X2_wideLike _ _ _ c_2)]; rfl)
    subst hE
    refine vx_catch (own := RL) (name := "java/lang/IndexOutOfBoundsException") hown [] ⟨0, 18, 21, 19⟩ [] htab (fun z hz => absurd hz List.not_mem_nil) (by decide +kernel) (by decide +kernel) (hts (.classLink RL 19 "java/lang/IndexOutOfBoundsException") (by decide +kernel)) (va_Nw.use rfl (hG.1 (.castable "java/lang/IndexOutOfBoundsException" "java/lang/IndexOutOfBoundsException") (List.mem_of_getElem? (i := 11) rfl))) hce hcv hcl ?_
    refine lv_astore (lv' := [(4, .ref q9), (0, .ref h0), (1, .int p1), (2, .int p2), (3, .ref ho)]) hx hb dL_wideLike_21 hl (by decide +kernel) rfl (fun ls hl => ?_)
    refine lv_iconst (v := 1) hx hb dL_wideLike_23 (by decide +kernel) ?_
    have he : o_L_wideLike f1 nv p1 p2 = (1, nv) := by (rw [o_L_wideLike, if_neg c_2]) <;> rfl
    refine W.widen (k := 2) (n := 12) (by omega) (by omega) ?_
    exact W.iret (v := 1) hx hb hr (fun t ht hW => ⟨⟨_, (), rfl, (by (rw [he]) <;> rfl), (by rw [he]; exact ⟨by rw [ht]; exact hP, hD⟩)⟩, hS.F ht⟩) hS.2.2 dL_wideLike_24
  · skip
    obtain ⟨c_3, hw⟩ := hw
    have c_3 : (o_X2_wideLike f1 p1 p2).1 = 0 := c_3
    replace hw : r_1 = b2i ((o_X2_wideLike f1 p1 p2).2) := hw
    subst r_1
    have hP := xP_keep hP hk
    refine xz_eq (tgt := 14) hx hb dL_wideLike_7 (by decide +kernel) (fun c_4 => ?_) (fun c_4 => ?_)
    · skip
      refine lv_lconst (v := 0) hx hb dL_wideLike_14 (by decide +kernel) ?_
      refine va_putN (D := (dC, dI)) (ci := 5) (v := .long 0) (ty := .long) (C := RX3) (T := TX3) (N := 2) hx hb hts (by decide +kernel) tyX3 tyX3_ok nmX3 hown hK hP hD hS 9 rfl rfl 0 (by decide +kernel) (va_Nw.use rfl (hG.1 (.fieldLinkNest RL 13 "EdgefloatsLaw$Out" "n" "J" RL) (List.mem_of_getElem? (i := 6) rfl))) (fun _ h9 => h9) rfl (by decide +kernel) rfl rfl (Nat.le_of_ble_eq_true rfl) dL_wideLike_15 (fun H locs hP hD hS => ?_)
      have hP : va_P (dC, dI) xCl [(h0, eE h1 h2 kn), (h1, eR hw1 hc1 hb1 a1 r1), (hw1, eW true), (hc1, eA cy f1), (hb1, eA cy g1), (h2, eR hw2 hc2 hb2 a2 r2), (hw2, eW false), (hc2, eA cy f2), (hb2, eA cy g2), (ho, eO 0 sv)] H := hP
      have hD : va_D A [(h0, eE h1 h2 kn), (h1, eR hw1 hc1 hb1 a1 r1), (hw1, eW true), (hc1, eA cy f1), (hb1, eA cy g1), (h2, eR hw2 hc2 hb2 a2 r2), (hw2, eW false), (hc2, eA cy f2), (hb2, eA cy g2), (ho, eO 0 sv)] := hD
      refine lv_goto (tgt := 25) hx hb dL_wideLike_18 (by decide +kernel) ?_
      refine lv_iconst (v := 0) hx hb dL_wideLike_25 (by decide +kernel) ?_
      have he : o_L_wideLike f1 nv p1 p2 = (0, 0) := by (rw [o_L_wideLike, if_pos c_3, if_neg c_4]) <;> rfl
      refine W.widen (k := 2) (n := 12) (by omega) (by omega) ?_
      exact W.iret (v := 0) hx hb hr (fun t ht hW => ⟨⟨_, (), rfl, (by (rw [he]) <;> rfl), (by rw [he]; exact ⟨by rw [ht]; exact hP, hD⟩)⟩, hS.F ht⟩) hS.2.2 dL_wideLike_26
    · skip
      refine lv_lconst (v := 1) hx hb dL_wideLike_10 (by decide +kernel) ?_
      refine lv_goto (tgt := 15) hx hb dL_wideLike_11 (by decide +kernel) ?_
      refine va_putN (D := (dC, dI)) (ci := 5) (v := .long 1) (ty := .long) (C := RX3) (T := TX3) (N := 2) hx hb hts (by decide +kernel) tyX3 tyX3_ok nmX3 hown hK hP hD hS 9 rfl rfl 0 (by decide +kernel) (va_Nw.use rfl (hG.1 (.fieldLinkNest RL 13 "EdgefloatsLaw$Out" "n" "J" RL) (List.mem_of_getElem? (i := 6) rfl))) (fun _ h9 => h9) rfl (by decide +kernel) rfl rfl (Nat.le_of_ble_eq_true rfl) dL_wideLike_15 (fun H locs hP hD hS => ?_)
      have hP : va_P (dC, dI) xCl [(h0, eE h1 h2 kn), (h1, eR hw1 hc1 hb1 a1 r1), (hw1, eW true), (hc1, eA cy f1), (hb1, eA cy g1), (h2, eR hw2 hc2 hb2 a2 r2), (hw2, eW false), (hc2, eA cy f2), (hb2, eA cy g2), (ho, eO 1 sv)] H := hP
      have hD : va_D A [(h0, eE h1 h2 kn), (h1, eR hw1 hc1 hb1 a1 r1), (hw1, eW true), (hc1, eA cy f1), (hb1, eA cy g1), (h2, eR hw2 hc2 hb2 a2 r2), (hw2, eW false), (hc2, eA cy f2), (hb2, eA cy g2), (ho, eO 1 sv)] := hD
      refine lv_goto (tgt := 25) hx hb dL_wideLike_18 (by decide +kernel) ?_
      refine lv_iconst (v := 0) hx hb dL_wideLike_25 (by decide +kernel) ?_
      have he : o_L_wideLike f1 nv p1 p2 = (0, 1) := by (rw [o_L_wideLike, if_pos c_3, if_pos c_4]) <;> rfl
      refine W.widen (k := 2) (n := 12) (by omega) (by omega) ?_
      exact W.iret (v := 0) hx hb hr (fun t ht hW => ⟨⟨_, (), rfl, (by (rw [he]) <;> rfl), (by rw [he]; exact ⟨by rw [ht]; exact hP, hD⟩)⟩, hS.F ht⟩) hS.2.2 dL_wideLike_26
theorem cl_L_wideBelow_1 : ∀ w ∈ wsL_wideBelow_r1, w ∈ wsL_wideBelow := fun _ h => (List.mem_cons_of_mem _ (List.mem_append_left _ (List.mem_append_left _ (List.mem_append_left _ (List.mem_append_left _ (List.mem_append_left _ (List.mem_append_left _ h)))))))
theorem cl_L_wideBelow_2 : ∀ w ∈ wsL_wideBelow_r2, w ∈ wsL_wideBelow := fun _ h => (List.mem_cons_of_mem _ (List.mem_append_left _ (List.mem_append_left _ (List.mem_append_left _ (List.mem_append_left _ (List.mem_append_left _ (List.mem_append_right _ h)))))))
theorem cl_L_wideBelow_3 : ∀ w ∈ wsX30, w ∈ wsL_wideBelow := fun _ h => (List.mem_cons_of_mem _ (List.mem_append_left _ (List.mem_append_left _ (List.mem_append_left _ (List.mem_append_left _ (List.mem_append_right _ h))))))
theorem cl_L_wideBelow_4 : ∀ w ∈ wsX20, w ∈ wsL_wideBelow := fun _ h => (List.mem_cons_of_mem _ (List.mem_append_left _ (List.mem_append_left _ (List.mem_append_left _ (List.mem_append_right _ h)))))
theorem cl_L_wideBelow_5 : ∀ w ∈ wsX00, w ∈ wsL_wideBelow := fun _ h => (List.mem_cons_of_mem _ (List.mem_append_left _ (List.mem_append_left _ (List.mem_append_right _ h))))
theorem cl_L_wideBelow_6 : ∀ w ∈ wsX10, w ∈ wsL_wideBelow := fun _ h => (List.mem_cons_of_mem _ (List.mem_append_left _ (List.mem_append_right _ h)))
theorem cl_L_wideBelow_7 : ∀ w ∈ (vx_atS RX2 152 "java/lang/IndexOutOfBoundsException" ["java/lang/RuntimeException", "java/lang/Exception"]).filter goodWord, w ∈ wsL_wideBelow := fun _ h => (List.mem_cons_of_mem _ (List.mem_append_right _ h))
set_option maxRecDepth 20000 in
theorem ggL_wideBelow_X2_wideBelow : GoodIn wsL_wideBelow wsX2_wideBelow := goodIn_sub (List.forall_mem_cons.mpr ⟨(cl_L_wideBelow_1 _ (List.mem_of_getElem? (i := 5) rfl)), fun w h => (List.mem_append.mp h).elim ((fun w h => (List.mem_append.mp h).elim ((fun w h => (List.mem_append.mp h).elim ((fun w h => (List.mem_append.mp h).elim ((fun w h => (List.mem_append.mp h).elim ((List.forall_mem_cons.mpr ⟨(cl_L_wideBelow_1 _ (List.mem_of_getElem? (i := 6) rfl)), List.forall_mem_cons.mpr ⟨(cl_L_wideBelow_1 _ (List.mem_of_getElem? (i := 7) rfl)), List.forall_mem_cons.mpr ⟨(cl_L_wideBelow_1 _ (List.mem_of_getElem? (i := 8) rfl)), List.forall_mem_cons.mpr ⟨(cl_L_wideBelow_1 _ (List.mem_of_getElem? (i := 9) rfl)), List.forall_mem_cons.mpr ⟨(cl_L_wideBelow_1 _ (List.mem_of_getElem? (i := 10) rfl)), List.forall_mem_cons.mpr ⟨(cl_L_wideBelow_1 _ (List.mem_of_getElem? (i := 11) rfl)), List.forall_mem_cons.mpr ⟨(cl_L_wideBelow_1 _ (List.mem_of_getElem? (i := 12) rfl)), List.forall_mem_cons.mpr ⟨(cl_L_wideBelow_1 _ (List.mem_of_getElem? (i := 13) rfl)), List.forall_mem_cons.mpr ⟨(cl_L_wideBelow_1 _ (List.mem_of_getElem? (i := 14) rfl)), List.forall_mem_cons.mpr ⟨(cl_L_wideBelow_1 _ (List.mem_of_getElem? (i := 4) rfl)), List.forall_mem_cons.mpr ⟨(cl_L_wideBelow_1 _ (List.mem_of_getElem? (i := 15) rfl)), List.forall_mem_cons.mpr ⟨(cl_L_wideBelow_1 _ (List.mem_of_getElem? (i := 16) rfl)), List.forall_mem_cons.mpr ⟨(cl_L_wideBelow_1 _ (List.mem_of_getElem? (i := 17) rfl)), List.forall_mem_cons.mpr ⟨(cl_L_wideBelow_1 _ (List.mem_of_getElem? (i := 18) rfl)), List.forall_mem_cons.mpr ⟨(cl_L_wideBelow_1 _ (List.mem_of_getElem? (i := 19) rfl)), List.forall_mem_cons.mpr ⟨(cl_L_wideBelow_1 _ (List.mem_of_getElem? (i := 20) rfl)), List.forall_mem_cons.mpr ⟨(cl_L_wideBelow_1 _ (List.mem_of_getElem? (i := 21) rfl)), List.forall_mem_cons.mpr ⟨(cl_L_wideBelow_1 _ (List.mem_of_getElem? (i := 22) rfl)), List.forall_mem_cons.mpr ⟨(cl_L_wideBelow_1 _ (List.mem_of_getElem? (i := 23) rfl)), List.forall_mem_cons.mpr ⟨(cl_L_wideBelow_2 _ (List.mem_of_getElem? (i := 0) rfl)), List.forall_mem_cons.mpr ⟨(cl_L_wideBelow_2 _ (List.mem_of_getElem? (i := 1) rfl)), List.forall_mem_cons.mpr ⟨(cl_L_wideBelow_2 _ (List.mem_of_getElem? (i := 2) rfl)), List.forall_mem_cons.mpr ⟨(cl_L_wideBelow_2 _ (List.mem_of_getElem? (i := 3) rfl)), List.forall_mem_cons.mpr ⟨(cl_L_wideBelow_2 _ (List.mem_of_getElem? (i := 4) rfl)), fun _ h => absurd h List.not_mem_nil⟩⟩⟩⟩⟩⟩⟩⟩⟩⟩⟩⟩⟩⟩⟩⟩⟩⟩⟩⟩⟩⟩⟩⟩) w) ((List.forall_mem_cons.mpr ⟨(cl_L_wideBelow_2 _ (List.mem_of_getElem? (i := 5) rfl)), List.forall_mem_cons.mpr ⟨(cl_L_wideBelow_2 _ (List.mem_of_getElem? (i := 6) rfl)), List.forall_mem_cons.mpr ⟨(cl_L_wideBelow_2 _ (List.mem_of_getElem? (i := 7) rfl)), List.forall_mem_cons.mpr ⟨(cl_L_wideBelow_2 _ (List.mem_of_getElem? (i := 8) rfl)), fun _ h => absurd h List.not_mem_nil⟩⟩⟩⟩) w)) w) ((cl_L_wideBelow_4) w)) w) ((cl_L_wideBelow_5) w)) w) ((cl_L_wideBelow_6) w)) w) ((cl_L_wideBelow_7) w)⟩) (by decide +kernel)
set_option maxRecDepth 20000 in
theorem gL_wideBelow_X2_wideBelow : GoodIn wsL_wideBelow (wsV RL 81 RX2 yX2_wideBelow wsX2_wideBelow) := goodIn_app (goodIn_sub (List.forall_mem_cons.mpr ⟨(cl_L_wideBelow_1 _ (List.mem_of_getElem? (i := 1) rfl)), List.forall_mem_cons.mpr ⟨(cl_L_wideBelow_1 _ (List.mem_of_getElem? (i := 2) rfl)), List.forall_mem_cons.mpr ⟨(cl_L_wideBelow_1 _ (List.mem_of_getElem? (i := 3) rfl)), List.forall_mem_cons.mpr ⟨(cl_L_wideBelow_1 _ (List.mem_of_getElem? (i := 4) rfl)), fun _ h => absurd h List.not_mem_nil⟩⟩⟩⟩) (by decide +kernel)) ggL_wideBelow_X2_wideBelow
noncomputable def dz_p16_17 : List (Nat × Instr × Nat) := [(0, (.aload 4, 2)), (2, (.aload_n 0, 1)), (3, (.iload_n 1, 1)), (4, (.iload_n 2, 1)), (5, (.iload_n 3, 1)), (6, (.invokevirtual 81, 3)), (9, (.ifCond .eq 7, 3)), (12, (.lconst 1, 1)), (13, (.goto 4, 3)), (16, (.lconst 0, 1)), (17, (.putfield 13, 3)), (20, (.goto 7, 3)), (23, (.astore 5, 2)), (25, (.iconst 1, 1)), (26, (.ireturn, 1)), (27, (.iconst 0, 1)), (28, (.ireturn, 1))]
theorem dy_p16_17 : dz_ok cL_wideBelow dz_p16_17 = true := by decide +kernel
theorem dL_wideBelow_0 : decode cL_wideBelow 0 = .ok (.aload 4, 2) := dz_at (i := 0) dy_p16_17 rfl
theorem dL_wideBelow_2 : decode cL_wideBelow 2 = .ok (.aload_n 0, 1) := dz_at (i := 1) dy_p16_17 rfl
theorem dL_wideBelow_3 : decode cL_wideBelow 3 = .ok (.iload_n 1, 1) := dz_at (i := 2) dy_p16_17 rfl
theorem dL_wideBelow_4 : decode cL_wideBelow 4 = .ok (.iload_n 2, 1) := dz_at (i := 3) dy_p16_17 rfl
theorem dL_wideBelow_5 : decode cL_wideBelow 5 = .ok (.iload_n 3, 1) := dz_at (i := 4) dy_p16_17 rfl
theorem dL_wideBelow_6 : decode cL_wideBelow 6 = .ok (.invokevirtual 81, 3) := dz_at (i := 5) dy_p16_17 rfl
theorem dL_wideBelow_9 : decode cL_wideBelow 9 = .ok (.ifCond .eq 7, 3) := dz_at (i := 6) dy_p16_17 rfl
theorem dL_wideBelow_12 : decode cL_wideBelow 12 = .ok (.lconst 1, 1) := dz_at (i := 7) dy_p16_17 rfl
theorem dL_wideBelow_13 : decode cL_wideBelow 13 = .ok (.goto 4, 3) := dz_at (i := 8) dy_p16_17 rfl
theorem dL_wideBelow_16 : decode cL_wideBelow 16 = .ok (.lconst 0, 1) := dz_at (i := 9) dy_p16_17 rfl
theorem dL_wideBelow_17 : decode cL_wideBelow 17 = .ok (.putfield 13, 3) := dz_at (i := 10) dy_p16_17 rfl
theorem dL_wideBelow_20 : decode cL_wideBelow 20 = .ok (.goto 7, 3) := dz_at (i := 11) dy_p16_17 rfl
theorem dL_wideBelow_23 : decode cL_wideBelow 23 = .ok (.astore 5, 2) := dz_at (i := 12) dy_p16_17 rfl
theorem dL_wideBelow_25 : decode cL_wideBelow 25 = .ok (.iconst 1, 1) := dz_at (i := 13) dy_p16_17 rfl
theorem dL_wideBelow_26 : decode cL_wideBelow 26 = .ok (.ireturn, 1) := dz_at (i := 14) dy_p16_17 rfl
theorem dL_wideBelow_27 : decode cL_wideBelow 27 = .ok (.iconst 0, 1) := dz_at (i := 15) dy_p16_17 rfl
theorem dL_wideBelow_28 : decode cL_wideBelow 28 = .ok (.ireturn, 1) := dz_at (i := 16) dy_p16_17 rfl
noncomputable def o_L_wideBelow (f1 : Nat → Int64) (nv : Int64) (p1 : Int32) (p2 : Int32) (p3 : Bool) : Int32 × Int64 :=
  if (o_X2_wideBelow f1 p1 p2 p3).1 = 0 then (if (o_X2_wideBelow f1 p1 p2 p3).2 = true then (0, 1)
    else (0, 0))
  else (1, nv)
set_option maxHeartbeats 4000000 in
set_option maxRecDepth 100000 in
theorem k_L_wideBelow (l : Launch) (hfl : l.flags = flags0) (dC : Nat → ClassId) (dI : Nat → Nat → Nat) (cy : ClassId) (h0 : Nat) (h1 : Nat) (hw1 : Nat) (hc1 : Nat) (hb1 : Nat) (h2 : Nat) (hw2 : Nat) (hc2 : Nat) (hb2 : Nat) (a1 : Int32) (r1 : Int32) (f1 : Nat → Int64) (g1 : Nat → Int64) (a2 : Int32) (r2 : Int32) (f2 : Nat → Int64) (g2 : Nat → Int64) (kn : Int32) (ho : Nat) (nv : Int64) (sv : Value) (sz : Nat) (N : Nat) (p1 : Int32) (p2 : Int32) (p3 : Bool) : Met l yL_wideBelow wsL_wideBelow ({ frames := 9, cells := 2, slots := 12, locals := 166 }) (va_Pc [.ref h0, .int p1, .int p2, .int (b2i p3), .ref ho] (xL (dC, dI) xCl [(h0, eE h1 h2 kn), (h1, eR hw1 hc1 hb1 a1 r1), (hw1, eW true), (hc1, eA cy f1), (hb1, eA cy g1), (h2, eR hw2 hc2 hb2 a2 r2), (hw2, eW false), (hc2, eA cy f2), (hb2, eA cy g2), (ho, eO nv sv)] [(cy, .long)] sz N)) (va_Qi (fun (r : Int32) (_ : Unit) => r = (o_L_wideBelow f1 nv p1 p2 p3).1) (fun _ t => xW (dC, dI) xCl [(h0, eE h1 h2 kn), (h1, eR hw1 hc1 hb1 a1 r1), (hw1, eW true), (hc1, eA cy f1), (hb1, eA cy g1), (h2, eR hw2 hc2 hb2 a2 r2), (hw2, eW false), (hc2, eA cy f2), (hb2, eA cy g2), (ho, eO (o_L_wideBelow f1 nv p1 p2 p3).2 sv)] (va_A [(h0, eE h1 h2 kn), (h1, eR hw1 hc1 hb1 a1 r1), (hw1, eW true), (hc1, eA cy f1), (hb1, eA cy g1), (h2, eR hw2 hc2 hb2 a2 r2), (hw2, eW false), (hc2, eA cy f2), (hb2, eA cy g2), (ho, eO nv sv)] sz) t) (va_A [(h0, eE h1 h2 kn), (h1, eR hw1 hc1 hb1 a1 r1), (hw1, eW true), (hc1, eA cy f1), (hb1, eA cy g1), (h2, eR hw2 hc2 hb2 a2 r2), (hw2, eW false), (hc2, eA cy f2), (hb2, eA cy g2), (ho, eO nv sv)] sz)) 2 12 (va_A [(h0, eE h1 h2 kn), (h1, eR hw1 hc1 hb1 a1 r1), (hw1, eW true), (hc1, eA cy f1), (hb1, eA cy g1), (h2, eR hw2 hc2 hb2 a2 r2), (hw2, eW false), (hc2, eA cy f2), (hb2, eA cy g2), (ho, eO nv sv)] sz) := by
  refine va_MetW (cc := cL_wideBelow) (maxL := 6) (ret := (some .int)) (by decide +kernel) rfl ?_
  intro p e s m args below meth c s₁ B hml hv
  obtain ⟨rfl, ⟨hsz, hP, hK, hD0, hN, hG⟩, hnc⟩ := hv
  have hx := B.exec
  have hb := B.bytes
  have hr := B.returns
  have hts := atoms_spec (ws := wsL_wideBelow) B.pre
  have hown : s.vm.findClass RL = some m.cls := findClass_of_methodNamed B.named
  have hlocks := B.notSynchronized
  have htab := vx_table (x := yL_wideBelow) B (hts _ List.mem_cons_self)
  subst hsz
  have hAN : ∀ q, va_A [(h0, eE h1 h2 kn), (h1, eR hw1 hc1 hb1 a1 r1), (hw1, eW true), (hc1, eA cy f1), (hb1, eA cy g1), (h2, eR hw2 hc2 hb2 a2 r2), (hw2, eW false), (hc2, eA cy f2), (hb2, eA cy g2), (ho, eO nv sv)] s.heap.size q → N ≤ q := xA_N hD0 hN
  have hD := hD0.self (sz := s.heap.size)
  generalize hAe : va_A [(h0, eE h1 h2 kn), (h1, eR hw1 hc1 hb1 a1 r1), (hw1, eW true), (hc1, eA cy f1), (hb1, eA cy g1), (h2, eR hw2 hc2 hb2 a2 r2), (hw2, eW false), (hc2, eA cy f2), (hb2, eA cy g2), (ho, eO nv sv)] s.heap.size = A at hD hAN ⊢
  have hA : ∀ q : Nat, s.heap.size ≤ q → A q := fun q h => by rw [← hAe]; exact Or.inr h
  have hS : va_S A s.heap s.heap [] := va_S.rf
  have hP : va_P (dC, dI) xCl [(h0, eE h1 h2 kn), (h1, eR hw1 hc1 hb1 a1 r1), (hw1, eW true), (hc1, eA cy f1), (hb1, eA cy g1), (h2, eR hw2 hc2 hb2 a2 r2), (hw2, eW false), (hc2, eA cy f2), (hb2, eA cy g2), (ho, eO nv sv)] s.heap := hP
  have hl := lv_entry ([.ref h0, .int p1, .int p2, .int (b2i p3), .ref ho]) (n := 6) (Nat.le_of_ble_eq_true rfl)
  rw [lg_entry_eq]
  generalize (lg_sl ([.ref h0, .int p1, .int p2, .int (b2i p3), .ref ho]) ++ List.replicate (6 - (lg_sl ([.ref h0, .int p1, .int p2, .int (b2i p3), .ref ho])).length) Slot.unset).toArray = ls at hl ⊢
  have hl : lv_has ls 6 [(0, .ref h0), (1, .int p1), (2, .int p2), (3, .int (b2i p3)), (4, .ref ho)] := hl
  refine lv_aload hx hb dL_wideBelow_0 (lv_at hl 4 rfl) ?_
  refine lv_aload_n hx hb dL_wideBelow_2 rfl (lv_at hl 0 rfl) ?_
  refine lv_iload_n hx hb dL_wideBelow_3 rfl (lv_at hl 1 rfl) ?_
  refine lv_iload_n hx hb dL_wideBelow_4 rfl (lv_at hl 2 rfl) ?_
  refine lv_iload_n hx hb dL_wideBelow_5 rfl (lv_at hl 3 rfl) ?_
  have hPc := hP.sub (ws' := [(h0, eE h1 h2 kn), (h1, eR hw1 hc1 hb1 a1 r1), (hw1, eW true), (hc1, eA cy f1), (hb1, eA cy g1), (h2, eR hw2 hc2 hb2 a2 r2), (hw2, eW false), (hc2, eA cy f2), (hb2, eA cy g2)]) [0, 1, 2, 3, 4, 5, 6, 7, 8] rfl
  have hDc := hD.sub (ws' := [(h0, eE h1 h2 kn), (h1, eR hw1 hc1 hb1 a1 r1), (hw1, eW true), (hc1, eA cy f1), (hb1, eA cy g1), (h2, eR hw2 hc2 hb2 a2 r2), (hw2, eW false), (hc2, eA cy f2), (hb2, eA cy g2)]) [0, 1, 2, 3, 4, 5, 6, 7, 8] (by decide +kernel) rfl
  have hKc := hK.sub (tys' := [(cy, .long)]) [0] rfl
  refine vx_calli (vx_runV (As := [.int p1, .int p2, .int (b2i p3)]) (rest := [.ref ho]) ⟨hx, hb, hml, hown, hts⟩ (k_X2_wideBelow l hfl dC dI cy h0 h1 hw1 hc1 hb1 h2 hw2 hc2 hb2 a1 r1 f1 g1 a2 r2 f2 g2 kn s.heap.size N p1 p2 p3) (cwV 3 hts gL_wideBelow_X2_wideBelow rfl rfl rfl (by decide +kernel) ⟨Nat.le_of_ble_eq_true rfl, Nat.le_of_ble_eq_true rfl⟩) (xM.preV hKc hPc hDc hAN (Nat.le_trans hN hS.1) (hG.kept hS hAN) (ci := 4) (q0 := 0) rfl rfl) rfl rfl hl.1 rfl (lv_room (Nat.le_of_ble_eq_true rfl)) dL_wideBelow_6 ⟨Nat.le_of_ble_eq_true rfl, Nat.le_of_ble_eq_true rfl⟩) hS xA_old (fun q h => hA q (Nat.le_trans hS.1 h)) xA_old (fun E ce q9 u9 t H locs ht hvm hpx hbx hz hk hS hce hcv hcl => ?_) (fun r_1 u t H locs ht hvm hw hB hz hk hS => ?_)
  · have c_2 : ¬ (o_X2_wideBelow f1 p1 p2 p3).1 = 0 := hpx
    have hbe := hbx
    have hP := xP_keep hP hk
    have hE : E = "java/lang/IndexOutOfBoundsException" := hbe.trans (by rw [show (o_X2_wideBelow f1 p1 p2 p3).1 = 1 from (xr_X2_wideBelow _ _ _ _ c_2)]; rfl)
    subst hE
    refine vx_catch (own := RL) (name := "java/lang/IndexOutOfBoundsException") hown [] ⟨0, 20, 23, 19⟩ [] htab (fun z hz => absurd hz List.not_mem_nil) (by decide +kernel) (by decide +kernel) (hts (.classLink RL 19 "java/lang/IndexOutOfBoundsException") (by decide +kernel)) (va_Nw.use rfl (hG.1 (.castable "java/lang/IndexOutOfBoundsException" "java/lang/IndexOutOfBoundsException") (List.mem_of_getElem? (i := 11) rfl))) hce hcv hcl ?_
    refine lv_astore (lv' := [(5, .ref q9), (0, .ref h0), (1, .int p1), (2, .int p2), (3, .int (b2i p3)), (4, .ref ho)]) hx hb dL_wideBelow_23 hl (by decide +kernel) rfl (fun ls hl => ?_)
    refine lv_iconst (v := 1) hx hb dL_wideBelow_25 (by decide +kernel) ?_
    have he : o_L_wideBelow f1 nv p1 p2 p3 = (1, nv) := by (rw [o_L_wideBelow, if_neg c_2]) <;> rfl
    refine W.widen (k := 2) (n := 12) (by omega) (by omega) ?_
    exact W.iret (v := 1) hx hb hr (fun t ht hW => ⟨⟨_, (), rfl, (by (rw [he]) <;> rfl), (by rw [he]; exact ⟨by rw [ht]; exact hP, hD⟩)⟩, hS.F ht⟩) hS.2.2 dL_wideBelow_26
  · skip
    obtain ⟨c_3, hw⟩ := hw
    have c_3 : (o_X2_wideBelow f1 p1 p2 p3).1 = 0 := c_3
    replace hw : r_1 = b2i ((o_X2_wideBelow f1 p1 p2 p3).2) := hw
    subst r_1
    have hP := xP_keep hP hk
    refine xz_eq (tgt := 16) hx hb dL_wideBelow_9 (by decide +kernel) (fun c_4 => ?_) (fun c_4 => ?_)
    · skip
      refine lv_lconst (v := 0) hx hb dL_wideBelow_16 (by decide +kernel) ?_
      refine va_putN (D := (dC, dI)) (ci := 5) (v := .long 0) (ty := .long) (C := RX3) (T := TX3) (N := 2) hx hb hts (by decide +kernel) tyX3 tyX3_ok nmX3 hown hK hP hD hS 9 rfl rfl 0 (by decide +kernel) (va_Nw.use rfl (hG.1 (.fieldLinkNest RL 13 "EdgefloatsLaw$Out" "n" "J" RL) (List.mem_of_getElem? (i := 6) rfl))) (fun _ h9 => h9) rfl (by decide +kernel) rfl rfl (Nat.le_of_ble_eq_true rfl) dL_wideBelow_17 (fun H locs hP hD hS => ?_)
      have hP : va_P (dC, dI) xCl [(h0, eE h1 h2 kn), (h1, eR hw1 hc1 hb1 a1 r1), (hw1, eW true), (hc1, eA cy f1), (hb1, eA cy g1), (h2, eR hw2 hc2 hb2 a2 r2), (hw2, eW false), (hc2, eA cy f2), (hb2, eA cy g2), (ho, eO 0 sv)] H := hP
      have hD : va_D A [(h0, eE h1 h2 kn), (h1, eR hw1 hc1 hb1 a1 r1), (hw1, eW true), (hc1, eA cy f1), (hb1, eA cy g1), (h2, eR hw2 hc2 hb2 a2 r2), (hw2, eW false), (hc2, eA cy f2), (hb2, eA cy g2), (ho, eO 0 sv)] := hD
      refine lv_goto (tgt := 27) hx hb dL_wideBelow_20 (by decide +kernel) ?_
      refine lv_iconst (v := 0) hx hb dL_wideBelow_27 (by decide +kernel) ?_
      have he : o_L_wideBelow f1 nv p1 p2 p3 = (0, 0) := by (rw [o_L_wideBelow, if_pos c_3, if_neg c_4]) <;> rfl
      refine W.widen (k := 2) (n := 12) (by omega) (by omega) ?_
      exact W.iret (v := 0) hx hb hr (fun t ht hW => ⟨⟨_, (), rfl, (by (rw [he]) <;> rfl), (by rw [he]; exact ⟨by rw [ht]; exact hP, hD⟩)⟩, hS.F ht⟩) hS.2.2 dL_wideBelow_28
    · skip
      refine lv_lconst (v := 1) hx hb dL_wideBelow_12 (by decide +kernel) ?_
      refine lv_goto (tgt := 17) hx hb dL_wideBelow_13 (by decide +kernel) ?_
      refine va_putN (D := (dC, dI)) (ci := 5) (v := .long 1) (ty := .long) (C := RX3) (T := TX3) (N := 2) hx hb hts (by decide +kernel) tyX3 tyX3_ok nmX3 hown hK hP hD hS 9 rfl rfl 0 (by decide +kernel) (va_Nw.use rfl (hG.1 (.fieldLinkNest RL 13 "EdgefloatsLaw$Out" "n" "J" RL) (List.mem_of_getElem? (i := 6) rfl))) (fun _ h9 => h9) rfl (by decide +kernel) rfl rfl (Nat.le_of_ble_eq_true rfl) dL_wideBelow_17 (fun H locs hP hD hS => ?_)
      have hP : va_P (dC, dI) xCl [(h0, eE h1 h2 kn), (h1, eR hw1 hc1 hb1 a1 r1), (hw1, eW true), (hc1, eA cy f1), (hb1, eA cy g1), (h2, eR hw2 hc2 hb2 a2 r2), (hw2, eW false), (hc2, eA cy f2), (hb2, eA cy g2), (ho, eO 1 sv)] H := hP
      have hD : va_D A [(h0, eE h1 h2 kn), (h1, eR hw1 hc1 hb1 a1 r1), (hw1, eW true), (hc1, eA cy f1), (hb1, eA cy g1), (h2, eR hw2 hc2 hb2 a2 r2), (hw2, eW false), (hc2, eA cy f2), (hb2, eA cy g2), (ho, eO 1 sv)] := hD
      refine lv_goto (tgt := 27) hx hb dL_wideBelow_20 (by decide +kernel) ?_
      refine lv_iconst (v := 0) hx hb dL_wideBelow_27 (by decide +kernel) ?_
      have he : o_L_wideBelow f1 nv p1 p2 p3 = (0, 1) := by (rw [o_L_wideBelow, if_pos c_3, if_pos c_4]) <;> rfl
      refine W.widen (k := 2) (n := 12) (by omega) (by omega) ?_
      exact W.iret (v := 0) hx hb hr (fun t ht hW => ⟨⟨_, (), rfl, (by (rw [he]) <;> rfl), (by rw [he]; exact ⟨by rw [ht]; exact hP, hD⟩)⟩, hS.F ht⟩) hS.2.2 dL_wideBelow_28
theorem cl_L_wideHash_1 : ∀ w ∈ wsL_wideHash_r1, w ∈ wsL_wideHash := fun _ h => (List.mem_cons_of_mem _ (List.mem_append_left _ (List.mem_append_left _ (List.mem_append_left _ (List.mem_append_left _ (List.mem_append_left _ (List.mem_append_left _ h)))))))
theorem cl_L_wideHash_2 : ∀ w ∈ wsL_wideHash_r2, w ∈ wsL_wideHash := fun _ h => (List.mem_cons_of_mem _ (List.mem_append_left _ (List.mem_append_left _ (List.mem_append_left _ (List.mem_append_left _ (List.mem_append_left _ (List.mem_append_right _ h)))))))
theorem cl_L_wideHash_3 : ∀ w ∈ wsX30, w ∈ wsL_wideHash := fun _ h => (List.mem_cons_of_mem _ (List.mem_append_left _ (List.mem_append_left _ (List.mem_append_left _ (List.mem_append_left _ (List.mem_append_right _ h))))))
theorem cl_L_wideHash_4 : ∀ w ∈ wsX20, w ∈ wsL_wideHash := fun _ h => (List.mem_cons_of_mem _ (List.mem_append_left _ (List.mem_append_left _ (List.mem_append_left _ (List.mem_append_right _ h)))))
theorem cl_L_wideHash_5 : ∀ w ∈ wsX00, w ∈ wsL_wideHash := fun _ h => (List.mem_cons_of_mem _ (List.mem_append_left _ (List.mem_append_left _ (List.mem_append_right _ h))))
theorem cl_L_wideHash_6 : ∀ w ∈ (vx_atS RX2 152 "java/lang/IndexOutOfBoundsException" ["java/lang/RuntimeException", "java/lang/Exception"]).filter goodWord, w ∈ wsL_wideHash := fun _ h => (List.mem_cons_of_mem _ (List.mem_append_left _ (List.mem_append_right _ h)))
theorem cl_L_wideHash_7 : ∀ w ∈ (vx_atS RX2 159 "java/lang/IllegalArgumentException" ["java/lang/RuntimeException", "java/lang/Exception"]).filter goodWord, w ∈ wsL_wideHash := fun _ h => (List.mem_cons_of_mem _ (List.mem_append_right _ h))
set_option maxRecDepth 20000 in
theorem ggL_wideHash_X2_wideHash : GoodIn wsL_wideHash wsX2_wideHash := goodIn_sub (List.forall_mem_cons.mpr ⟨(cl_L_wideHash_1 _ (List.mem_of_getElem? (i := 6) rfl)), fun w h => (List.mem_append.mp h).elim ((fun w h => (List.mem_append.mp h).elim ((fun w h => (List.mem_append.mp h).elim ((fun w h => (List.mem_append.mp h).elim ((List.forall_mem_cons.mpr ⟨(cl_L_wideHash_1 _ (List.mem_of_getElem? (i := 7) rfl)), List.forall_mem_cons.mpr ⟨(cl_L_wideHash_1 _ (List.mem_of_getElem? (i := 8) rfl)), List.forall_mem_cons.mpr ⟨(cl_L_wideHash_1 _ (List.mem_of_getElem? (i := 9) rfl)), List.forall_mem_cons.mpr ⟨(cl_L_wideHash_1 _ (List.mem_of_getElem? (i := 10) rfl)), List.forall_mem_cons.mpr ⟨(cl_L_wideHash_1 _ (List.mem_of_getElem? (i := 11) rfl)), List.forall_mem_cons.mpr ⟨(cl_L_wideHash_1 _ (List.mem_of_getElem? (i := 12) rfl)), List.forall_mem_cons.mpr ⟨(cl_L_wideHash_1 _ (List.mem_of_getElem? (i := 13) rfl)), List.forall_mem_cons.mpr ⟨(cl_L_wideHash_1 _ (List.mem_of_getElem? (i := 14) rfl)), List.forall_mem_cons.mpr ⟨(cl_L_wideHash_1 _ (List.mem_of_getElem? (i := 15) rfl)), List.forall_mem_cons.mpr ⟨(cl_L_wideHash_1 _ (List.mem_of_getElem? (i := 5) rfl)), List.forall_mem_cons.mpr ⟨(cl_L_wideHash_1 _ (List.mem_of_getElem? (i := 16) rfl)), List.forall_mem_cons.mpr ⟨(cl_L_wideHash_1 _ (List.mem_of_getElem? (i := 17) rfl)), List.forall_mem_cons.mpr ⟨(cl_L_wideHash_1 _ (List.mem_of_getElem? (i := 18) rfl)), List.forall_mem_cons.mpr ⟨(cl_L_wideHash_1 _ (List.mem_of_getElem? (i := 19) rfl)), List.forall_mem_cons.mpr ⟨(cl_L_wideHash_1 _ (List.mem_of_getElem? (i := 20) rfl)), List.forall_mem_cons.mpr ⟨(cl_L_wideHash_1 _ (List.mem_of_getElem? (i := 21) rfl)), List.forall_mem_cons.mpr ⟨(cl_L_wideHash_1 _ (List.mem_of_getElem? (i := 22) rfl)), List.forall_mem_cons.mpr ⟨(cl_L_wideHash_1 _ (List.mem_of_getElem? (i := 23) rfl)), List.forall_mem_cons.mpr ⟨(cl_L_wideHash_2 _ (List.mem_of_getElem? (i := 0) rfl)), List.forall_mem_cons.mpr ⟨(cl_L_wideHash_2 _ (List.mem_of_getElem? (i := 1) rfl)), List.forall_mem_cons.mpr ⟨(cl_L_wideHash_2 _ (List.mem_of_getElem? (i := 2) rfl)), List.forall_mem_cons.mpr ⟨(cl_L_wideHash_2 _ (List.mem_of_getElem? (i := 3) rfl)), fun _ h => absurd h List.not_mem_nil⟩⟩⟩⟩⟩⟩⟩⟩⟩⟩⟩⟩⟩⟩⟩⟩⟩⟩⟩⟩⟩⟩) w) ((cl_L_wideHash_4) w)) w) ((cl_L_wideHash_5) w)) w) ((cl_L_wideHash_6) w)) w) ((cl_L_wideHash_7) w)⟩) (by decide +kernel)
set_option maxRecDepth 20000 in
theorem gL_wideHash_X2_wideHash : GoodIn wsL_wideHash (wsV RL 85 RX2 yX2_wideHash wsX2_wideHash) := goodIn_app (goodIn_sub (List.forall_mem_cons.mpr ⟨(cl_L_wideHash_1 _ (List.mem_of_getElem? (i := 2) rfl)), List.forall_mem_cons.mpr ⟨(cl_L_wideHash_1 _ (List.mem_of_getElem? (i := 3) rfl)), List.forall_mem_cons.mpr ⟨(cl_L_wideHash_1 _ (List.mem_of_getElem? (i := 4) rfl)), List.forall_mem_cons.mpr ⟨(cl_L_wideHash_1 _ (List.mem_of_getElem? (i := 5) rfl)), fun _ h => absurd h List.not_mem_nil⟩⟩⟩⟩) (by decide +kernel)) ggL_wideHash_X2_wideHash
noncomputable def dz_p16_18 : List (Nat × Instr × Nat) := [(0, (.aload_n 3, 1)), (1, (.aload_n 0, 1)), (2, (.iload_n 1, 1)), (3, (.iload_n 2, 1)), (4, (.invokevirtual 85, 3)), (7, (.i2l, 1)), (8, (.putfield 13, 3)), (11, (.goto 11, 3)), (14, (.astore 4, 2)), (16, (.iconst 1, 1)), (17, (.ireturn, 1)), (18, (.astore 4, 2)), (20, (.iconst 2, 1)), (21, (.ireturn, 1)), (22, (.iconst 0, 1)), (23, (.ireturn, 1))]
theorem dy_p16_18 : dz_ok cL_wideHash dz_p16_18 = true := by decide +kernel
theorem dL_wideHash_0 : decode cL_wideHash 0 = .ok (.aload_n 3, 1) := dz_at (i := 0) dy_p16_18 rfl
theorem dL_wideHash_1 : decode cL_wideHash 1 = .ok (.aload_n 0, 1) := dz_at (i := 1) dy_p16_18 rfl
theorem dL_wideHash_2 : decode cL_wideHash 2 = .ok (.iload_n 1, 1) := dz_at (i := 2) dy_p16_18 rfl
theorem dL_wideHash_3 : decode cL_wideHash 3 = .ok (.iload_n 2, 1) := dz_at (i := 3) dy_p16_18 rfl
theorem dL_wideHash_4 : decode cL_wideHash 4 = .ok (.invokevirtual 85, 3) := dz_at (i := 4) dy_p16_18 rfl
theorem dL_wideHash_7 : decode cL_wideHash 7 = .ok (.i2l, 1) := dz_at (i := 5) dy_p16_18 rfl
theorem dL_wideHash_8 : decode cL_wideHash 8 = .ok (.putfield 13, 3) := dz_at (i := 6) dy_p16_18 rfl
theorem dL_wideHash_11 : decode cL_wideHash 11 = .ok (.goto 11, 3) := dz_at (i := 7) dy_p16_18 rfl
theorem dL_wideHash_14 : decode cL_wideHash 14 = .ok (.astore 4, 2) := dz_at (i := 8) dy_p16_18 rfl
theorem dL_wideHash_16 : decode cL_wideHash 16 = .ok (.iconst 1, 1) := dz_at (i := 9) dy_p16_18 rfl
theorem dL_wideHash_17 : decode cL_wideHash 17 = .ok (.ireturn, 1) := dz_at (i := 10) dy_p16_18 rfl
theorem dL_wideHash_18 : decode cL_wideHash 18 = .ok (.astore 4, 2) := dz_at (i := 11) dy_p16_18 rfl
theorem dL_wideHash_20 : decode cL_wideHash 20 = .ok (.iconst 2, 1) := dz_at (i := 12) dy_p16_18 rfl
theorem dL_wideHash_21 : decode cL_wideHash 21 = .ok (.ireturn, 1) := dz_at (i := 13) dy_p16_18 rfl
theorem dL_wideHash_22 : decode cL_wideHash 22 = .ok (.iconst 0, 1) := dz_at (i := 14) dy_p16_18 rfl
theorem dL_wideHash_23 : decode cL_wideHash 23 = .ok (.ireturn, 1) := dz_at (i := 15) dy_p16_18 rfl
noncomputable def o_L_wideHash (f1 : Nat → Int64) (nv : Int64) (p1 : Int32) (p2 : Int32) : Int32 × Int64 :=
  if (o_X2_wideHash f1 p1 p2).1 = 0 then (0, (((o_X2_wideHash f1 p1 p2).2).toInt64))
  else if (o_X2_wideHash f1 p1 p2).1 = 1 then (1, nv)
  else (2, nv)
set_option maxHeartbeats 4000000 in
set_option maxRecDepth 100000 in
theorem k_L_wideHash (l : Launch) (hfl : l.flags = flags0) (dC : Nat → ClassId) (dI : Nat → Nat → Nat) (cy : ClassId) (h0 : Nat) (h1 : Nat) (hw1 : Nat) (hc1 : Nat) (hb1 : Nat) (h2 : Nat) (hw2 : Nat) (hc2 : Nat) (hb2 : Nat) (a1 : Int32) (r1 : Int32) (f1 : Nat → Int64) (g1 : Nat → Int64) (a2 : Int32) (r2 : Int32) (f2 : Nat → Int64) (g2 : Nat → Int64) (kn : Int32) (ho : Nat) (nv : Int64) (sv : Value) (sz : Nat) (N : Nat) (p1 : Int32) (p2 : Int32) : Met l yL_wideHash wsL_wideHash ({ frames := 9, cells := 2, slots := 12, locals := 165 }) (va_Pc [.ref h0, .int p1, .int p2, .ref ho] (xL (dC, dI) xCl [(h0, eE h1 h2 kn), (h1, eR hw1 hc1 hb1 a1 r1), (hw1, eW true), (hc1, eA cy f1), (hb1, eA cy g1), (h2, eR hw2 hc2 hb2 a2 r2), (hw2, eW false), (hc2, eA cy f2), (hb2, eA cy g2), (ho, eO nv sv)] [(cy, .long)] sz N)) (va_Qi (fun (r : Int32) (_ : Unit) => r = (o_L_wideHash f1 nv p1 p2).1) (fun _ t => xW (dC, dI) xCl [(h0, eE h1 h2 kn), (h1, eR hw1 hc1 hb1 a1 r1), (hw1, eW true), (hc1, eA cy f1), (hb1, eA cy g1), (h2, eR hw2 hc2 hb2 a2 r2), (hw2, eW false), (hc2, eA cy f2), (hb2, eA cy g2), (ho, eO (o_L_wideHash f1 nv p1 p2).2 sv)] (va_A [(h0, eE h1 h2 kn), (h1, eR hw1 hc1 hb1 a1 r1), (hw1, eW true), (hc1, eA cy f1), (hb1, eA cy g1), (h2, eR hw2 hc2 hb2 a2 r2), (hw2, eW false), (hc2, eA cy f2), (hb2, eA cy g2), (ho, eO nv sv)] sz) t) (va_A [(h0, eE h1 h2 kn), (h1, eR hw1 hc1 hb1 a1 r1), (hw1, eW true), (hc1, eA cy f1), (hb1, eA cy g1), (h2, eR hw2 hc2 hb2 a2 r2), (hw2, eW false), (hc2, eA cy f2), (hb2, eA cy g2), (ho, eO nv sv)] sz)) 2 12 (va_A [(h0, eE h1 h2 kn), (h1, eR hw1 hc1 hb1 a1 r1), (hw1, eW true), (hc1, eA cy f1), (hb1, eA cy g1), (h2, eR hw2 hc2 hb2 a2 r2), (hw2, eW false), (hc2, eA cy f2), (hb2, eA cy g2), (ho, eO nv sv)] sz) := by
  refine va_MetW (cc := cL_wideHash) (maxL := 5) (ret := (some .int)) (by decide +kernel) rfl ?_
  intro p e s m args below meth c s₁ B hml hv
  obtain ⟨rfl, ⟨hsz, hP, hK, hD0, hN, hG⟩, hnc⟩ := hv
  have hx := B.exec
  have hb := B.bytes
  have hr := B.returns
  have hts := atoms_spec (ws := wsL_wideHash) B.pre
  have hown : s.vm.findClass RL = some m.cls := findClass_of_methodNamed B.named
  have hlocks := B.notSynchronized
  have htab := vx_table (x := yL_wideHash) B (hts _ List.mem_cons_self)
  subst hsz
  have hAN : ∀ q, va_A [(h0, eE h1 h2 kn), (h1, eR hw1 hc1 hb1 a1 r1), (hw1, eW true), (hc1, eA cy f1), (hb1, eA cy g1), (h2, eR hw2 hc2 hb2 a2 r2), (hw2, eW false), (hc2, eA cy f2), (hb2, eA cy g2), (ho, eO nv sv)] s.heap.size q → N ≤ q := xA_N hD0 hN
  have hD := hD0.self (sz := s.heap.size)
  generalize hAe : va_A [(h0, eE h1 h2 kn), (h1, eR hw1 hc1 hb1 a1 r1), (hw1, eW true), (hc1, eA cy f1), (hb1, eA cy g1), (h2, eR hw2 hc2 hb2 a2 r2), (hw2, eW false), (hc2, eA cy f2), (hb2, eA cy g2), (ho, eO nv sv)] s.heap.size = A at hD hAN ⊢
  have hA : ∀ q : Nat, s.heap.size ≤ q → A q := fun q h => by rw [← hAe]; exact Or.inr h
  have hS : va_S A s.heap s.heap [] := va_S.rf
  have hP : va_P (dC, dI) xCl [(h0, eE h1 h2 kn), (h1, eR hw1 hc1 hb1 a1 r1), (hw1, eW true), (hc1, eA cy f1), (hb1, eA cy g1), (h2, eR hw2 hc2 hb2 a2 r2), (hw2, eW false), (hc2, eA cy f2), (hb2, eA cy g2), (ho, eO nv sv)] s.heap := hP
  have hl := lv_entry ([.ref h0, .int p1, .int p2, .ref ho]) (n := 5) (Nat.le_of_ble_eq_true rfl)
  rw [lg_entry_eq]
  generalize (lg_sl ([.ref h0, .int p1, .int p2, .ref ho]) ++ List.replicate (5 - (lg_sl ([.ref h0, .int p1, .int p2, .ref ho])).length) Slot.unset).toArray = ls at hl ⊢
  have hl : lv_has ls 5 [(0, .ref h0), (1, .int p1), (2, .int p2), (3, .ref ho)] := hl
  refine lv_aload_n hx hb dL_wideHash_0 rfl (lv_at hl 3 rfl) ?_
  refine lv_aload_n hx hb dL_wideHash_1 rfl (lv_at hl 0 rfl) ?_
  refine lv_iload_n hx hb dL_wideHash_2 rfl (lv_at hl 1 rfl) ?_
  refine lv_iload_n hx hb dL_wideHash_3 rfl (lv_at hl 2 rfl) ?_
  have hPc := hP.sub (ws' := [(h0, eE h1 h2 kn), (h1, eR hw1 hc1 hb1 a1 r1), (hw1, eW true), (hc1, eA cy f1), (hb1, eA cy g1), (h2, eR hw2 hc2 hb2 a2 r2), (hw2, eW false), (hc2, eA cy f2), (hb2, eA cy g2)]) [0, 1, 2, 3, 4, 5, 6, 7, 8] rfl
  have hDc := hD.sub (ws' := [(h0, eE h1 h2 kn), (h1, eR hw1 hc1 hb1 a1 r1), (hw1, eW true), (hc1, eA cy f1), (hb1, eA cy g1), (h2, eR hw2 hc2 hb2 a2 r2), (hw2, eW false), (hc2, eA cy f2), (hb2, eA cy g2)]) [0, 1, 2, 3, 4, 5, 6, 7, 8] (by decide +kernel) rfl
  have hKc := hK.sub (tys' := [(cy, .long)]) [0] rfl
  refine vx_calli (vx_runV (As := [.int p1, .int p2]) (rest := [.ref ho]) ⟨hx, hb, hml, hown, hts⟩ (k_X2_wideHash l hfl dC dI cy h0 h1 hw1 hc1 hb1 h2 hw2 hc2 hb2 a1 r1 f1 g1 a2 r2 f2 g2 kn s.heap.size N p1 p2) (cwV 2 hts gL_wideHash_X2_wideHash rfl rfl rfl (by decide +kernel) ⟨Nat.le_of_ble_eq_true rfl, Nat.le_of_ble_eq_true rfl⟩) (xM.preV hKc hPc hDc hAN (Nat.le_trans hN hS.1) (hG.kept hS hAN) (ci := 4) (q0 := 0) rfl rfl) rfl rfl hl.1 rfl (lv_room (Nat.le_of_ble_eq_true rfl)) dL_wideHash_4 ⟨Nat.le_of_ble_eq_true rfl, Nat.le_of_ble_eq_true rfl⟩) hS xA_old (fun q h => hA q (Nat.le_trans hS.1 h)) xA_old (fun E ce q9 u9 t H locs ht hvm hpx hbx hz hk hS hce hcv hcl => ?_) (fun r_1 u t H locs ht hvm hw hB hz hk hS => ?_)
  · have c_2 : ¬ (o_X2_wideHash f1 p1 p2).1 = 0 := hpx
    have hbe := hbx
    have hP := xP_keep hP hk
    by_cases c_3 : (o_X2_wideHash f1 p1 p2).1 = 1
    · skip
      have hE : E = "java/lang/IndexOutOfBoundsException" := hbe.trans (by rw [c_3]; rfl)
      subst hE
      refine vx_catch (own := RL) (name := "java/lang/IndexOutOfBoundsException") hown [] ⟨0, 11, 14, 19⟩ [⟨0, 11, 18, 25⟩] htab (fun z hz => absurd hz List.not_mem_nil) (by decide +kernel) (by decide +kernel) (hts (.classLink RL 19 "java/lang/IndexOutOfBoundsException") (by decide +kernel)) (va_Nw.use rfl (hG.1 (.castable "java/lang/IndexOutOfBoundsException" "java/lang/IndexOutOfBoundsException") (List.mem_of_getElem? (i := 11) rfl))) hce hcv hcl ?_
      refine lv_astore (lv' := [(4, .ref q9), (0, .ref h0), (1, .int p1), (2, .int p2), (3, .ref ho)]) hx hb dL_wideHash_14 hl (by decide +kernel) rfl (fun ls hl => ?_)
      refine lv_iconst (v := 1) hx hb dL_wideHash_16 (by decide +kernel) ?_
      have he : o_L_wideHash f1 nv p1 p2 = (1, nv) := by (rw [o_L_wideHash, if_neg c_2, if_pos c_3]) <;> rfl
      refine W.widen (k := 2) (n := 12) (by omega) (by omega) ?_
      exact W.iret (v := 1) hx hb hr (fun t ht hW => ⟨⟨_, (), rfl, (by (rw [he]) <;> rfl), (by rw [he]; exact ⟨by rw [ht]; exact hP, hD⟩)⟩, hS.F ht⟩) hS.2.2 dL_wideHash_17
    · skip
      have hE : E = "java/lang/IllegalArgumentException" := hbe.trans (if_neg c_3)
      subst hE
      refine vx_catch (own := RL) (name := "java/lang/IllegalArgumentException") hown [⟨0, 11, 14, 19⟩] ⟨0, 11, 18, 25⟩ [] htab (fun z hz => by cases List.mem_singleton.mp hz; exact Or.inr ⟨by decide, "java/lang/IndexOutOfBoundsException", hts (.classLink RL 19 "java/lang/IndexOutOfBoundsException") (by decide +kernel), hnc⟩) (by decide +kernel) (by decide +kernel) (hts (.classLink RL 25 "java/lang/IllegalArgumentException") (by decide +kernel)) (va_Nw.use rfl (hG.1 (.castable "java/lang/IllegalArgumentException" "java/lang/IllegalArgumentException") (List.mem_of_getElem? (i := 12) rfl))) hce hcv hcl ?_
      refine lv_astore (lv' := [(4, .ref q9), (0, .ref h0), (1, .int p1), (2, .int p2), (3, .ref ho)]) hx hb dL_wideHash_18 hl (by decide +kernel) rfl (fun ls hl => ?_)
      refine lv_iconst (v := 2) hx hb dL_wideHash_20 (by decide +kernel) ?_
      have he : o_L_wideHash f1 nv p1 p2 = (2, nv) := by (rw [o_L_wideHash, if_neg c_2, if_neg c_3]) <;> rfl
      refine W.widen (k := 2) (n := 12) (by omega) (by omega) ?_
      exact W.iret (v := 2) hx hb hr (fun t ht hW => ⟨⟨_, (), rfl, (by (rw [he]) <;> rfl), (by rw [he]; exact ⟨by rw [ht]; exact hP, hD⟩)⟩, hS.F ht⟩) hS.2.2 dL_wideHash_21
  · skip
    obtain ⟨c_4, hw⟩ := hw
    have c_4 : (o_X2_wideHash f1 p1 p2).1 = 0 := c_4
    replace hw : r_1 = (o_X2_wideHash f1 p1 p2).2 := hw
    subst r_1
    have hP := xP_keep hP hk
    refine lv_i2l (v := (((o_X2_wideHash f1 p1 p2).2).toInt64)) hx hb dL_wideHash_7 rfl ?_
    refine va_putN (D := (dC, dI)) (ci := 5) (v := .long (((o_X2_wideHash f1 p1 p2).2).toInt64)) (ty := .long) (C := RX3) (T := TX3) (N := 2) hx hb hts (by decide +kernel) tyX3 tyX3_ok nmX3 hown hK hP hD hS 9 rfl rfl 0 (by decide +kernel) (va_Nw.use rfl (hG.1 (.fieldLinkNest RL 13 "EdgefloatsLaw$Out" "n" "J" RL) (List.mem_of_getElem? (i := 6) rfl))) (fun _ h9 => h9) rfl (by decide +kernel) rfl rfl (Nat.le_of_ble_eq_true rfl) dL_wideHash_8 (fun H locs hP hD hS => ?_)
    have hP : va_P (dC, dI) xCl [(h0, eE h1 h2 kn), (h1, eR hw1 hc1 hb1 a1 r1), (hw1, eW true), (hc1, eA cy f1), (hb1, eA cy g1), (h2, eR hw2 hc2 hb2 a2 r2), (hw2, eW false), (hc2, eA cy f2), (hb2, eA cy g2), (ho, eO (((o_X2_wideHash f1 p1 p2).2).toInt64) sv)] H := hP
    have hD : va_D A [(h0, eE h1 h2 kn), (h1, eR hw1 hc1 hb1 a1 r1), (hw1, eW true), (hc1, eA cy f1), (hb1, eA cy g1), (h2, eR hw2 hc2 hb2 a2 r2), (hw2, eW false), (hc2, eA cy f2), (hb2, eA cy g2), (ho, eO (((o_X2_wideHash f1 p1 p2).2).toInt64) sv)] := hD
    refine lv_goto (tgt := 22) hx hb dL_wideHash_11 (by decide +kernel) ?_
    refine lv_iconst (v := 0) hx hb dL_wideHash_22 (by decide +kernel) ?_
    have he : o_L_wideHash f1 nv p1 p2 = (0, (((o_X2_wideHash f1 p1 p2).2).toInt64)) := by (rw [o_L_wideHash, if_pos c_4]) <;> rfl
    refine W.widen (k := 2) (n := 12) (by omega) (by omega) ?_
    exact W.iret (v := 0) hx hb hr (fun t ht hW => ⟨⟨_, (), rfl, (by (rw [he]) <;> rfl), (by rw [he]; exact ⟨by rw [ht]; exact hP, hD⟩)⟩, hS.F ht⟩) hS.2.2 dL_wideHash_23
theorem cl_L_wideEndless_1 : ∀ w ∈ wsL_wideEndless_r1, w ∈ wsL_wideEndless := fun _ h => (List.mem_cons_of_mem _ (List.mem_append_left _ (List.mem_append_left _ (List.mem_append_left _ (List.mem_append_left _ (List.mem_append_left _ (List.mem_append_left _ (List.mem_append_left _ h))))))))
theorem cl_L_wideEndless_2 : ∀ w ∈ wsL_wideEndless_r2, w ∈ wsL_wideEndless := fun _ h => (List.mem_cons_of_mem _ (List.mem_append_left _ (List.mem_append_left _ (List.mem_append_left _ (List.mem_append_left _ (List.mem_append_left _ (List.mem_append_left _ (List.mem_append_right _ h))))))))
theorem cl_L_wideEndless_3 : ∀ w ∈ wsX30, w ∈ wsL_wideEndless := fun _ h => (List.mem_cons_of_mem _ (List.mem_append_left _ (List.mem_append_left _ (List.mem_append_left _ (List.mem_append_left _ (List.mem_append_left _ (List.mem_append_right _ h)))))))
theorem cl_L_wideEndless_4 : ∀ w ∈ wsX20, w ∈ wsL_wideEndless := fun _ h => (List.mem_cons_of_mem _ (List.mem_append_left _ (List.mem_append_left _ (List.mem_append_left _ (List.mem_append_left _ (List.mem_append_right _ h))))))
theorem cl_L_wideEndless_5 : ∀ w ∈ wsX00, w ∈ wsL_wideEndless := fun _ h => (List.mem_cons_of_mem _ (List.mem_append_left _ (List.mem_append_left _ (List.mem_append_left _ (List.mem_append_right _ h)))))
theorem cl_L_wideEndless_6 : ∀ w ∈ wsX10, w ∈ wsL_wideEndless := fun _ h => (List.mem_cons_of_mem _ (List.mem_append_left _ (List.mem_append_left _ (List.mem_append_right _ h))))
theorem cl_L_wideEndless_7 : ∀ w ∈ (vx_atS RX2 152 "java/lang/IndexOutOfBoundsException" ["java/lang/RuntimeException", "java/lang/Exception"]).filter goodWord, w ∈ wsL_wideEndless := fun _ h => (List.mem_cons_of_mem _ (List.mem_append_left _ (List.mem_append_right _ h)))
theorem cl_L_wideEndless_8 : ∀ w ∈ (vx_atS RX2 159 "java/lang/IllegalArgumentException" ["java/lang/RuntimeException", "java/lang/Exception"]).filter goodWord, w ∈ wsL_wideEndless := fun _ h => (List.mem_cons_of_mem _ (List.mem_append_right _ h))
set_option maxRecDepth 20000 in
theorem ggL_wideEndless_X2_wideEndless : GoodIn wsL_wideEndless wsX2_wideEndless := goodIn_sub (List.forall_mem_cons.mpr ⟨(cl_L_wideEndless_1 _ (List.mem_of_getElem? (i := 6) rfl)), fun w h => (List.mem_append.mp h).elim ((fun w h => (List.mem_append.mp h).elim ((fun w h => (List.mem_append.mp h).elim ((fun w h => (List.mem_append.mp h).elim ((fun w h => (List.mem_append.mp h).elim ((fun w h => (List.mem_append.mp h).elim ((List.forall_mem_cons.mpr ⟨(cl_L_wideEndless_1 _ (List.mem_of_getElem? (i := 7) rfl)), List.forall_mem_cons.mpr ⟨(cl_L_wideEndless_1 _ (List.mem_of_getElem? (i := 8) rfl)), List.forall_mem_cons.mpr ⟨(cl_L_wideEndless_1 _ (List.mem_of_getElem? (i := 9) rfl)), List.forall_mem_cons.mpr ⟨(cl_L_wideEndless_1 _ (List.mem_of_getElem? (i := 10) rfl)), List.forall_mem_cons.mpr ⟨(cl_L_wideEndless_1 _ (List.mem_of_getElem? (i := 11) rfl)), List.forall_mem_cons.mpr ⟨(cl_L_wideEndless_1 _ (List.mem_of_getElem? (i := 12) rfl)), List.forall_mem_cons.mpr ⟨(cl_L_wideEndless_1 _ (List.mem_of_getElem? (i := 13) rfl)), List.forall_mem_cons.mpr ⟨(cl_L_wideEndless_1 _ (List.mem_of_getElem? (i := 14) rfl)), List.forall_mem_cons.mpr ⟨(cl_L_wideEndless_1 _ (List.mem_of_getElem? (i := 15) rfl)), List.forall_mem_cons.mpr ⟨(cl_L_wideEndless_1 _ (List.mem_of_getElem? (i := 5) rfl)), List.forall_mem_cons.mpr ⟨(cl_L_wideEndless_1 _ (List.mem_of_getElem? (i := 16) rfl)), List.forall_mem_cons.mpr ⟨(cl_L_wideEndless_1 _ (List.mem_of_getElem? (i := 17) rfl)), List.forall_mem_cons.mpr ⟨(cl_L_wideEndless_1 _ (List.mem_of_getElem? (i := 18) rfl)), List.forall_mem_cons.mpr ⟨(cl_L_wideEndless_1 _ (List.mem_of_getElem? (i := 19) rfl)), List.forall_mem_cons.mpr ⟨(cl_L_wideEndless_1 _ (List.mem_of_getElem? (i := 20) rfl)), List.forall_mem_cons.mpr ⟨(cl_L_wideEndless_1 _ (List.mem_of_getElem? (i := 21) rfl)), List.forall_mem_cons.mpr ⟨(cl_L_wideEndless_1 _ (List.mem_of_getElem? (i := 22) rfl)), List.forall_mem_cons.mpr ⟨(cl_L_wideEndless_1 _ (List.mem_of_getElem? (i := 23) rfl)), List.forall_mem_cons.mpr ⟨(cl_L_wideEndless_2 _ (List.mem_of_getElem? (i := 0) rfl)), List.forall_mem_cons.mpr ⟨(cl_L_wideEndless_2 _ (List.mem_of_getElem? (i := 1) rfl)), List.forall_mem_cons.mpr ⟨(cl_L_wideEndless_2 _ (List.mem_of_getElem? (i := 2) rfl)), List.forall_mem_cons.mpr ⟨(cl_L_wideEndless_2 _ (List.mem_of_getElem? (i := 3) rfl)), List.forall_mem_cons.mpr ⟨(cl_L_wideEndless_2 _ (List.mem_of_getElem? (i := 4) rfl)), List.forall_mem_cons.mpr ⟨(cl_L_wideEndless_2 _ (List.mem_of_getElem? (i := 5) rfl)), fun _ h => absurd h List.not_mem_nil⟩⟩⟩⟩⟩⟩⟩⟩⟩⟩⟩⟩⟩⟩⟩⟩⟩⟩⟩⟩⟩⟩⟩⟩) w) ((List.forall_mem_cons.mpr ⟨(cl_L_wideEndless_2 _ (List.mem_of_getElem? (i := 6) rfl)), List.forall_mem_cons.mpr ⟨(cl_L_wideEndless_2 _ (List.mem_of_getElem? (i := 7) rfl)), List.forall_mem_cons.mpr ⟨(cl_L_wideEndless_2 _ (List.mem_of_getElem? (i := 8) rfl)), List.forall_mem_cons.mpr ⟨(cl_L_wideEndless_2 _ (List.mem_of_getElem? (i := 9) rfl)), List.forall_mem_cons.mpr ⟨(cl_L_wideEndless_2 _ (List.mem_of_getElem? (i := 10) rfl)), List.forall_mem_cons.mpr ⟨(cl_L_wideEndless_2 _ (List.mem_of_getElem? (i := 11) rfl)), List.forall_mem_cons.mpr ⟨(cl_L_wideEndless_2 _ (List.mem_of_getElem? (i := 12) rfl)), List.forall_mem_cons.mpr ⟨(cl_L_wideEndless_2 _ (List.mem_of_getElem? (i := 13) rfl)), List.forall_mem_cons.mpr ⟨(cl_L_wideEndless_2 _ (List.mem_of_getElem? (i := 14) rfl)), fun _ h => absurd h List.not_mem_nil⟩⟩⟩⟩⟩⟩⟩⟩⟩) w)) w) ((cl_L_wideEndless_4) w)) w) ((cl_L_wideEndless_5) w)) w) ((cl_L_wideEndless_6) w)) w) ((cl_L_wideEndless_7) w)) w) ((cl_L_wideEndless_8) w)⟩) (by decide +kernel)
set_option maxRecDepth 20000 in
theorem gL_wideEndless_X2_wideEndless : GoodIn wsL_wideEndless (wsV RL 88 RX2 yX2_wideEndless wsX2_wideEndless) := goodIn_app (goodIn_sub (List.forall_mem_cons.mpr ⟨(cl_L_wideEndless_1 _ (List.mem_of_getElem? (i := 2) rfl)), List.forall_mem_cons.mpr ⟨(cl_L_wideEndless_1 _ (List.mem_of_getElem? (i := 3) rfl)), List.forall_mem_cons.mpr ⟨(cl_L_wideEndless_1 _ (List.mem_of_getElem? (i := 4) rfl)), List.forall_mem_cons.mpr ⟨(cl_L_wideEndless_1 _ (List.mem_of_getElem? (i := 5) rfl)), fun _ h => absurd h List.not_mem_nil⟩⟩⟩⟩) (by decide +kernel)) ggL_wideEndless_X2_wideEndless
noncomputable def dz_p16_19 : List (Nat × Instr × Nat) := [(0, (.aload_n 3, 1)), (1, (.aload_n 0, 1)), (2, (.iload_n 1, 1)), (3, (.iload_n 2, 1)), (4, (.invokevirtual 88, 3)), (7, (.ifCond .eq 7, 3)), (10, (.lconst 1, 1)), (11, (.goto 4, 3)), (14, (.lconst 0, 1)), (15, (.putfield 13, 3)), (18, (.goto 11, 3)), (21, (.astore 4, 2)), (23, (.iconst 1, 1)), (24, (.ireturn, 1)), (25, (.astore 4, 2)), (27, (.iconst 2, 1)), (28, (.ireturn, 1)), (29, (.iconst 0, 1)), (30, (.ireturn, 1))]
theorem dy_p16_19 : dz_ok cL_wideEndless dz_p16_19 = true := by decide +kernel
theorem dL_wideEndless_0 : decode cL_wideEndless 0 = .ok (.aload_n 3, 1) := dz_at (i := 0) dy_p16_19 rfl
theorem dL_wideEndless_1 : decode cL_wideEndless 1 = .ok (.aload_n 0, 1) := dz_at (i := 1) dy_p16_19 rfl
theorem dL_wideEndless_2 : decode cL_wideEndless 2 = .ok (.iload_n 1, 1) := dz_at (i := 2) dy_p16_19 rfl
theorem dL_wideEndless_3 : decode cL_wideEndless 3 = .ok (.iload_n 2, 1) := dz_at (i := 3) dy_p16_19 rfl
theorem dL_wideEndless_4 : decode cL_wideEndless 4 = .ok (.invokevirtual 88, 3) := dz_at (i := 4) dy_p16_19 rfl
theorem dL_wideEndless_7 : decode cL_wideEndless 7 = .ok (.ifCond .eq 7, 3) := dz_at (i := 5) dy_p16_19 rfl
theorem dL_wideEndless_10 : decode cL_wideEndless 10 = .ok (.lconst 1, 1) := dz_at (i := 6) dy_p16_19 rfl
theorem dL_wideEndless_11 : decode cL_wideEndless 11 = .ok (.goto 4, 3) := dz_at (i := 7) dy_p16_19 rfl
theorem dL_wideEndless_14 : decode cL_wideEndless 14 = .ok (.lconst 0, 1) := dz_at (i := 8) dy_p16_19 rfl
theorem dL_wideEndless_15 : decode cL_wideEndless 15 = .ok (.putfield 13, 3) := dz_at (i := 9) dy_p16_19 rfl
theorem dL_wideEndless_18 : decode cL_wideEndless 18 = .ok (.goto 11, 3) := dz_at (i := 10) dy_p16_19 rfl
theorem dL_wideEndless_21 : decode cL_wideEndless 21 = .ok (.astore 4, 2) := dz_at (i := 11) dy_p16_19 rfl
theorem dL_wideEndless_23 : decode cL_wideEndless 23 = .ok (.iconst 1, 1) := dz_at (i := 12) dy_p16_19 rfl
theorem dL_wideEndless_24 : decode cL_wideEndless 24 = .ok (.ireturn, 1) := dz_at (i := 13) dy_p16_19 rfl
theorem dL_wideEndless_25 : decode cL_wideEndless 25 = .ok (.astore 4, 2) := dz_at (i := 14) dy_p16_19 rfl
theorem dL_wideEndless_27 : decode cL_wideEndless 27 = .ok (.iconst 2, 1) := dz_at (i := 15) dy_p16_19 rfl
theorem dL_wideEndless_28 : decode cL_wideEndless 28 = .ok (.ireturn, 1) := dz_at (i := 16) dy_p16_19 rfl
theorem dL_wideEndless_29 : decode cL_wideEndless 29 = .ok (.iconst 0, 1) := dz_at (i := 17) dy_p16_19 rfl
theorem dL_wideEndless_30 : decode cL_wideEndless 30 = .ok (.ireturn, 1) := dz_at (i := 18) dy_p16_19 rfl
noncomputable def o_L_wideEndless (f1 : Nat → Int64) (nv : Int64) (p1 : Int32) (p2 : Int32) : Int32 × Int64 :=
  if (o_X2_wideEndless f1 p1 p2).1 = 0 then (if (o_X2_wideEndless f1 p1 p2).2 = true then (0, 1)
    else (0, 0))
  else if (o_X2_wideEndless f1 p1 p2).1 = 1 then (1, nv)
  else (2, nv)
set_option maxHeartbeats 4000000 in
set_option maxRecDepth 100000 in
theorem k_L_wideEndless (l : Launch) (hfl : l.flags = flags0) (dC : Nat → ClassId) (dI : Nat → Nat → Nat) (cy : ClassId) (h0 : Nat) (h1 : Nat) (hw1 : Nat) (hc1 : Nat) (hb1 : Nat) (h2 : Nat) (hw2 : Nat) (hc2 : Nat) (hb2 : Nat) (a1 : Int32) (r1 : Int32) (f1 : Nat → Int64) (g1 : Nat → Int64) (a2 : Int32) (r2 : Int32) (f2 : Nat → Int64) (g2 : Nat → Int64) (kn : Int32) (ho : Nat) (nv : Int64) (sv : Value) (sz : Nat) (N : Nat) (p1 : Int32) (p2 : Int32) : Met l yL_wideEndless wsL_wideEndless ({ frames := 9, cells := 2, slots := 12, locals := 165 }) (va_Pc [.ref h0, .int p1, .int p2, .ref ho] (xL (dC, dI) xCl [(h0, eE h1 h2 kn), (h1, eR hw1 hc1 hb1 a1 r1), (hw1, eW true), (hc1, eA cy f1), (hb1, eA cy g1), (h2, eR hw2 hc2 hb2 a2 r2), (hw2, eW false), (hc2, eA cy f2), (hb2, eA cy g2), (ho, eO nv sv)] [(cy, .long)] sz N)) (va_Qi (fun (r : Int32) (_ : Unit) => r = (o_L_wideEndless f1 nv p1 p2).1) (fun _ t => xW (dC, dI) xCl [(h0, eE h1 h2 kn), (h1, eR hw1 hc1 hb1 a1 r1), (hw1, eW true), (hc1, eA cy f1), (hb1, eA cy g1), (h2, eR hw2 hc2 hb2 a2 r2), (hw2, eW false), (hc2, eA cy f2), (hb2, eA cy g2), (ho, eO (o_L_wideEndless f1 nv p1 p2).2 sv)] (va_A [(h0, eE h1 h2 kn), (h1, eR hw1 hc1 hb1 a1 r1), (hw1, eW true), (hc1, eA cy f1), (hb1, eA cy g1), (h2, eR hw2 hc2 hb2 a2 r2), (hw2, eW false), (hc2, eA cy f2), (hb2, eA cy g2), (ho, eO nv sv)] sz) t) (va_A [(h0, eE h1 h2 kn), (h1, eR hw1 hc1 hb1 a1 r1), (hw1, eW true), (hc1, eA cy f1), (hb1, eA cy g1), (h2, eR hw2 hc2 hb2 a2 r2), (hw2, eW false), (hc2, eA cy f2), (hb2, eA cy g2), (ho, eO nv sv)] sz)) 2 12 (va_A [(h0, eE h1 h2 kn), (h1, eR hw1 hc1 hb1 a1 r1), (hw1, eW true), (hc1, eA cy f1), (hb1, eA cy g1), (h2, eR hw2 hc2 hb2 a2 r2), (hw2, eW false), (hc2, eA cy f2), (hb2, eA cy g2), (ho, eO nv sv)] sz) := by
  refine va_MetW (cc := cL_wideEndless) (maxL := 5) (ret := (some .int)) (by decide +kernel) rfl ?_
  intro p e s m args below meth c s₁ B hml hv
  obtain ⟨rfl, ⟨hsz, hP, hK, hD0, hN, hG⟩, hnc⟩ := hv
  have hx := B.exec
  have hb := B.bytes
  have hr := B.returns
  have hts := atoms_spec (ws := wsL_wideEndless) B.pre
  have hown : s.vm.findClass RL = some m.cls := findClass_of_methodNamed B.named
  have hlocks := B.notSynchronized
  have htab := vx_table (x := yL_wideEndless) B (hts _ List.mem_cons_self)
  subst hsz
  have hAN : ∀ q, va_A [(h0, eE h1 h2 kn), (h1, eR hw1 hc1 hb1 a1 r1), (hw1, eW true), (hc1, eA cy f1), (hb1, eA cy g1), (h2, eR hw2 hc2 hb2 a2 r2), (hw2, eW false), (hc2, eA cy f2), (hb2, eA cy g2), (ho, eO nv sv)] s.heap.size q → N ≤ q := xA_N hD0 hN
  have hD := hD0.self (sz := s.heap.size)
  generalize hAe : va_A [(h0, eE h1 h2 kn), (h1, eR hw1 hc1 hb1 a1 r1), (hw1, eW true), (hc1, eA cy f1), (hb1, eA cy g1), (h2, eR hw2 hc2 hb2 a2 r2), (hw2, eW false), (hc2, eA cy f2), (hb2, eA cy g2), (ho, eO nv sv)] s.heap.size = A at hD hAN ⊢
  have hA : ∀ q : Nat, s.heap.size ≤ q → A q := fun q h => by rw [← hAe]; exact Or.inr h
  have hS : va_S A s.heap s.heap [] := va_S.rf
  have hP : va_P (dC, dI) xCl [(h0, eE h1 h2 kn), (h1, eR hw1 hc1 hb1 a1 r1), (hw1, eW true), (hc1, eA cy f1), (hb1, eA cy g1), (h2, eR hw2 hc2 hb2 a2 r2), (hw2, eW false), (hc2, eA cy f2), (hb2, eA cy g2), (ho, eO nv sv)] s.heap := hP
  have hl := lv_entry ([.ref h0, .int p1, .int p2, .ref ho]) (n := 5) (Nat.le_of_ble_eq_true rfl)
  rw [lg_entry_eq]
  generalize (lg_sl ([.ref h0, .int p1, .int p2, .ref ho]) ++ List.replicate (5 - (lg_sl ([.ref h0, .int p1, .int p2, .ref ho])).length) Slot.unset).toArray = ls at hl ⊢
  have hl : lv_has ls 5 [(0, .ref h0), (1, .int p1), (2, .int p2), (3, .ref ho)] := hl
  refine lv_aload_n hx hb dL_wideEndless_0 rfl (lv_at hl 3 rfl) ?_
  refine lv_aload_n hx hb dL_wideEndless_1 rfl (lv_at hl 0 rfl) ?_
  refine lv_iload_n hx hb dL_wideEndless_2 rfl (lv_at hl 1 rfl) ?_
  refine lv_iload_n hx hb dL_wideEndless_3 rfl (lv_at hl 2 rfl) ?_
  have hPc := hP.sub (ws' := [(h0, eE h1 h2 kn), (h1, eR hw1 hc1 hb1 a1 r1), (hw1, eW true), (hc1, eA cy f1), (hb1, eA cy g1), (h2, eR hw2 hc2 hb2 a2 r2), (hw2, eW false), (hc2, eA cy f2), (hb2, eA cy g2)]) [0, 1, 2, 3, 4, 5, 6, 7, 8] rfl
  have hDc := hD.sub (ws' := [(h0, eE h1 h2 kn), (h1, eR hw1 hc1 hb1 a1 r1), (hw1, eW true), (hc1, eA cy f1), (hb1, eA cy g1), (h2, eR hw2 hc2 hb2 a2 r2), (hw2, eW false), (hc2, eA cy f2), (hb2, eA cy g2)]) [0, 1, 2, 3, 4, 5, 6, 7, 8] (by decide +kernel) rfl
  have hKc := hK.sub (tys' := [(cy, .long)]) [0] rfl
  refine vx_calli (vx_runV (As := [.int p1, .int p2]) (rest := [.ref ho]) ⟨hx, hb, hml, hown, hts⟩ (k_X2_wideEndless l hfl dC dI cy h0 h1 hw1 hc1 hb1 h2 hw2 hc2 hb2 a1 r1 f1 g1 a2 r2 f2 g2 kn s.heap.size N p1 p2) (cwV 2 hts gL_wideEndless_X2_wideEndless rfl rfl rfl (by decide +kernel) ⟨Nat.le_of_ble_eq_true rfl, Nat.le_of_ble_eq_true rfl⟩) (xM.preV hKc hPc hDc hAN (Nat.le_trans hN hS.1) (hG.kept hS hAN) (ci := 4) (q0 := 0) rfl rfl) rfl rfl hl.1 rfl (lv_room (Nat.le_of_ble_eq_true rfl)) dL_wideEndless_4 ⟨Nat.le_of_ble_eq_true rfl, Nat.le_of_ble_eq_true rfl⟩) hS xA_old (fun q h => hA q (Nat.le_trans hS.1 h)) xA_old (fun E ce q9 u9 t H locs ht hvm hpx hbx hz hk hS hce hcv hcl => ?_) (fun r_1 u t H locs ht hvm hw hB hz hk hS => ?_)
  · have c_2 : ¬ (o_X2_wideEndless f1 p1 p2).1 = 0 := hpx
    have hbe := hbx
    have hP := xP_keep hP hk
    by_cases c_3 : (o_X2_wideEndless f1 p1 p2).1 = 1
    · skip
      have hE : E = "java/lang/IndexOutOfBoundsException" := hbe.trans (by rw [c_3]; rfl)
      subst hE
      refine vx_catch (own := RL) (name := "java/lang/IndexOutOfBoundsException") hown [] ⟨0, 18, 21, 19⟩ [⟨0, 18, 25, 25⟩] htab (fun z hz => absurd hz List.not_mem_nil) (by decide +kernel) (by decide +kernel) (hts (.classLink RL 19 "java/lang/IndexOutOfBoundsException") (by decide +kernel)) (va_Nw.use rfl (hG.1 (.castable "java/lang/IndexOutOfBoundsException" "java/lang/IndexOutOfBoundsException") (List.mem_of_getElem? (i := 11) rfl))) hce hcv hcl ?_
      refine lv_astore (lv' := [(4, .ref q9), (0, .ref h0), (1, .int p1), (2, .int p2), (3, .ref ho)]) hx hb dL_wideEndless_21 hl (by decide +kernel) rfl (fun ls hl => ?_)
      refine lv_iconst (v := 1) hx hb dL_wideEndless_23 (by decide +kernel) ?_
      have he : o_L_wideEndless f1 nv p1 p2 = (1, nv) := by (rw [o_L_wideEndless, if_neg c_2, if_pos c_3]) <;> rfl
      refine W.widen (k := 2) (n := 12) (by omega) (by omega) ?_
      exact W.iret (v := 1) hx hb hr (fun t ht hW => ⟨⟨_, (), rfl, (by (rw [he]) <;> rfl), (by rw [he]; exact ⟨by rw [ht]; exact hP, hD⟩)⟩, hS.F ht⟩) hS.2.2 dL_wideEndless_24
    · skip
      have hE : E = "java/lang/IllegalArgumentException" := hbe.trans (if_neg c_3)
      subst hE
      refine vx_catch (own := RL) (name := "java/lang/IllegalArgumentException") hown [⟨0, 18, 21, 19⟩] ⟨0, 18, 25, 25⟩ [] htab (fun z hz => by cases List.mem_singleton.mp hz; exact Or.inr ⟨by decide, "java/lang/IndexOutOfBoundsException", hts (.classLink RL 19 "java/lang/IndexOutOfBoundsException") (by decide +kernel), hnc⟩) (by decide +kernel) (by decide +kernel) (hts (.classLink RL 25 "java/lang/IllegalArgumentException") (by decide +kernel)) (va_Nw.use rfl (hG.1 (.castable "java/lang/IllegalArgumentException" "java/lang/IllegalArgumentException") (List.mem_of_getElem? (i := 12) rfl))) hce hcv hcl ?_
      refine lv_astore (lv' := [(4, .ref q9), (0, .ref h0), (1, .int p1), (2, .int p2), (3, .ref ho)]) hx hb dL_wideEndless_25 hl (by decide +kernel) rfl (fun ls hl => ?_)
      refine lv_iconst (v := 2) hx hb dL_wideEndless_27 (by decide +kernel) ?_
      have he : o_L_wideEndless f1 nv p1 p2 = (2, nv) := by (rw [o_L_wideEndless, if_neg c_2, if_neg c_3]) <;> rfl
      refine W.widen (k := 2) (n := 12) (by omega) (by omega) ?_
      exact W.iret (v := 2) hx hb hr (fun t ht hW => ⟨⟨_, (), rfl, (by (rw [he]) <;> rfl), (by rw [he]; exact ⟨by rw [ht]; exact hP, hD⟩)⟩, hS.F ht⟩) hS.2.2 dL_wideEndless_28
  · skip
    obtain ⟨c_4, hw⟩ := hw
    have c_4 : (o_X2_wideEndless f1 p1 p2).1 = 0 := c_4
    replace hw : r_1 = b2i ((o_X2_wideEndless f1 p1 p2).2) := hw
    subst r_1
    have hP := xP_keep hP hk
    refine xz_eq (tgt := 14) hx hb dL_wideEndless_7 (by decide +kernel) (fun c_5 => ?_) (fun c_5 => ?_)
    · skip
      refine lv_lconst (v := 0) hx hb dL_wideEndless_14 (by decide +kernel) ?_
      refine va_putN (D := (dC, dI)) (ci := 5) (v := .long 0) (ty := .long) (C := RX3) (T := TX3) (N := 2) hx hb hts (by decide +kernel) tyX3 tyX3_ok nmX3 hown hK hP hD hS 9 rfl rfl 0 (by decide +kernel) (va_Nw.use rfl (hG.1 (.fieldLinkNest RL 13 "EdgefloatsLaw$Out" "n" "J" RL) (List.mem_of_getElem? (i := 6) rfl))) (fun _ h9 => h9) rfl (by decide +kernel) rfl rfl (Nat.le_of_ble_eq_true rfl) dL_wideEndless_15 (fun H locs hP hD hS => ?_)
      have hP : va_P (dC, dI) xCl [(h0, eE h1 h2 kn), (h1, eR hw1 hc1 hb1 a1 r1), (hw1, eW true), (hc1, eA cy f1), (hb1, eA cy g1), (h2, eR hw2 hc2 hb2 a2 r2), (hw2, eW false), (hc2, eA cy f2), (hb2, eA cy g2), (ho, eO 0 sv)] H := hP
      have hD : va_D A [(h0, eE h1 h2 kn), (h1, eR hw1 hc1 hb1 a1 r1), (hw1, eW true), (hc1, eA cy f1), (hb1, eA cy g1), (h2, eR hw2 hc2 hb2 a2 r2), (hw2, eW false), (hc2, eA cy f2), (hb2, eA cy g2), (ho, eO 0 sv)] := hD
      refine lv_goto (tgt := 29) hx hb dL_wideEndless_18 (by decide +kernel) ?_
      refine lv_iconst (v := 0) hx hb dL_wideEndless_29 (by decide +kernel) ?_
      have he : o_L_wideEndless f1 nv p1 p2 = (0, 0) := by (rw [o_L_wideEndless, if_pos c_4, if_neg c_5]) <;> rfl
      refine W.widen (k := 2) (n := 12) (by omega) (by omega) ?_
      exact W.iret (v := 0) hx hb hr (fun t ht hW => ⟨⟨_, (), rfl, (by (rw [he]) <;> rfl), (by rw [he]; exact ⟨by rw [ht]; exact hP, hD⟩)⟩, hS.F ht⟩) hS.2.2 dL_wideEndless_30
    · skip
      refine lv_lconst (v := 1) hx hb dL_wideEndless_10 (by decide +kernel) ?_
      refine lv_goto (tgt := 15) hx hb dL_wideEndless_11 (by decide +kernel) ?_
      refine va_putN (D := (dC, dI)) (ci := 5) (v := .long 1) (ty := .long) (C := RX3) (T := TX3) (N := 2) hx hb hts (by decide +kernel) tyX3 tyX3_ok nmX3 hown hK hP hD hS 9 rfl rfl 0 (by decide +kernel) (va_Nw.use rfl (hG.1 (.fieldLinkNest RL 13 "EdgefloatsLaw$Out" "n" "J" RL) (List.mem_of_getElem? (i := 6) rfl))) (fun _ h9 => h9) rfl (by decide +kernel) rfl rfl (Nat.le_of_ble_eq_true rfl) dL_wideEndless_15 (fun H locs hP hD hS => ?_)
      have hP : va_P (dC, dI) xCl [(h0, eE h1 h2 kn), (h1, eR hw1 hc1 hb1 a1 r1), (hw1, eW true), (hc1, eA cy f1), (hb1, eA cy g1), (h2, eR hw2 hc2 hb2 a2 r2), (hw2, eW false), (hc2, eA cy f2), (hb2, eA cy g2), (ho, eO 1 sv)] H := hP
      have hD : va_D A [(h0, eE h1 h2 kn), (h1, eR hw1 hc1 hb1 a1 r1), (hw1, eW true), (hc1, eA cy f1), (hb1, eA cy g1), (h2, eR hw2 hc2 hb2 a2 r2), (hw2, eW false), (hc2, eA cy f2), (hb2, eA cy g2), (ho, eO 1 sv)] := hD
      refine lv_goto (tgt := 29) hx hb dL_wideEndless_18 (by decide +kernel) ?_
      refine lv_iconst (v := 0) hx hb dL_wideEndless_29 (by decide +kernel) ?_
      have he : o_L_wideEndless f1 nv p1 p2 = (0, 1) := by (rw [o_L_wideEndless, if_pos c_4, if_pos c_5]) <;> rfl
      refine W.widen (k := 2) (n := 12) (by omega) (by omega) ?_
      exact W.iret (v := 0) hx hb hr (fun t ht hW => ⟨⟨_, (), rfl, (by (rw [he]) <;> rfl), (by rw [he]; exact ⟨by rw [ht]; exact hP, hD⟩)⟩, hS.F ht⟩) hS.2.2 dL_wideEndless_30
theorem cl_L_wideCount_1 : ∀ w ∈ wsL_wideCount_r1, w ∈ wsL_wideCount := fun _ h => (List.mem_cons_of_mem _ (List.mem_append_left _ (List.mem_append_left _ (List.mem_append_left _ (List.mem_append_left _ (List.mem_append_left _ (List.mem_append_left _ h)))))))
theorem cl_L_wideCount_2 : ∀ w ∈ wsL_wideCount_r2, w ∈ wsL_wideCount := fun _ h => (List.mem_cons_of_mem _ (List.mem_append_left _ (List.mem_append_left _ (List.mem_append_left _ (List.mem_append_left _ (List.mem_append_left _ (List.mem_append_right _ (List.mem_append_left _ h))))))))
theorem cl_L_wideCount_3 : ∀ w ∈ wsL_wideCount_r3, w ∈ wsL_wideCount := fun _ h => (List.mem_cons_of_mem _ (List.mem_append_left _ (List.mem_append_left _ (List.mem_append_left _ (List.mem_append_left _ (List.mem_append_left _ (List.mem_append_right _ (List.mem_append_right _ h))))))))
theorem cl_L_wideCount_4 : ∀ w ∈ wsX30, w ∈ wsL_wideCount := fun _ h => (List.mem_cons_of_mem _ (List.mem_append_left _ (List.mem_append_left _ (List.mem_append_left _ (List.mem_append_left _ (List.mem_append_right _ h))))))
theorem cl_L_wideCount_5 : ∀ w ∈ wsX20, w ∈ wsL_wideCount := fun _ h => (List.mem_cons_of_mem _ (List.mem_append_left _ (List.mem_append_left _ (List.mem_append_left _ (List.mem_append_right _ h)))))
theorem cl_L_wideCount_6 : ∀ w ∈ wsX00, w ∈ wsL_wideCount := fun _ h => (List.mem_cons_of_mem _ (List.mem_append_left _ (List.mem_append_left _ (List.mem_append_right _ h))))
theorem cl_L_wideCount_7 : ∀ w ∈ wsX10, w ∈ wsL_wideCount := fun _ h => (List.mem_cons_of_mem _ (List.mem_append_left _ (List.mem_append_right _ h)))
theorem cl_L_wideCount_8 : ∀ w ∈ (vx_atS RX2 152 "java/lang/IndexOutOfBoundsException" ["java/lang/RuntimeException", "java/lang/Exception"]).filter goodWord, w ∈ wsL_wideCount := fun _ h => (List.mem_cons_of_mem _ (List.mem_append_right _ h))
set_option maxRecDepth 20000 in
theorem ggL_wideCount_X2_wideCount : GoodIn wsL_wideCount wsX2_wideCount := goodIn_sub (List.forall_mem_cons.mpr ⟨(cl_L_wideCount_1 _ (List.mem_of_getElem? (i := 5) rfl)), fun w h => (List.mem_append.mp h).elim ((fun w h => (List.mem_append.mp h).elim ((fun w h => (List.mem_append.mp h).elim ((fun w h => (List.mem_append.mp h).elim ((fun w h => (List.mem_append.mp h).elim ((List.forall_mem_cons.mpr ⟨(cl_L_wideCount_1 _ (List.mem_of_getElem? (i := 6) rfl)), List.forall_mem_cons.mpr ⟨(cl_L_wideCount_1 _ (List.mem_of_getElem? (i := 7) rfl)), List.forall_mem_cons.mpr ⟨(cl_L_wideCount_1 _ (List.mem_of_getElem? (i := 8) rfl)), List.forall_mem_cons.mpr ⟨(cl_L_wideCount_1 _ (List.mem_of_getElem? (i := 9) rfl)), List.forall_mem_cons.mpr ⟨(cl_L_wideCount_1 _ (List.mem_of_getElem? (i := 10) rfl)), List.forall_mem_cons.mpr ⟨(cl_L_wideCount_1 _ (List.mem_of_getElem? (i := 11) rfl)), List.forall_mem_cons.mpr ⟨(cl_L_wideCount_1 _ (List.mem_of_getElem? (i := 12) rfl)), List.forall_mem_cons.mpr ⟨(cl_L_wideCount_1 _ (List.mem_of_getElem? (i := 13) rfl)), List.forall_mem_cons.mpr ⟨(cl_L_wideCount_1 _ (List.mem_of_getElem? (i := 14) rfl)), List.forall_mem_cons.mpr ⟨(cl_L_wideCount_1 _ (List.mem_of_getElem? (i := 4) rfl)), List.forall_mem_cons.mpr ⟨(cl_L_wideCount_1 _ (List.mem_of_getElem? (i := 15) rfl)), List.forall_mem_cons.mpr ⟨(cl_L_wideCount_1 _ (List.mem_of_getElem? (i := 16) rfl)), List.forall_mem_cons.mpr ⟨(cl_L_wideCount_1 _ (List.mem_of_getElem? (i := 17) rfl)), List.forall_mem_cons.mpr ⟨(cl_L_wideCount_1 _ (List.mem_of_getElem? (i := 18) rfl)), List.forall_mem_cons.mpr ⟨(cl_L_wideCount_1 _ (List.mem_of_getElem? (i := 19) rfl)), List.forall_mem_cons.mpr ⟨(cl_L_wideCount_1 _ (List.mem_of_getElem? (i := 20) rfl)), List.forall_mem_cons.mpr ⟨(cl_L_wideCount_1 _ (List.mem_of_getElem? (i := 21) rfl)), List.forall_mem_cons.mpr ⟨(cl_L_wideCount_1 _ (List.mem_of_getElem? (i := 22) rfl)), List.forall_mem_cons.mpr ⟨(cl_L_wideCount_1 _ (List.mem_of_getElem? (i := 23) rfl)), List.forall_mem_cons.mpr ⟨(cl_L_wideCount_2 _ (List.mem_of_getElem? (i := 0) rfl)), List.forall_mem_cons.mpr ⟨(cl_L_wideCount_2 _ (List.mem_of_getElem? (i := 1) rfl)), List.forall_mem_cons.mpr ⟨(cl_L_wideCount_2 _ (List.mem_of_getElem? (i := 2) rfl)), List.forall_mem_cons.mpr ⟨(cl_L_wideCount_2 _ (List.mem_of_getElem? (i := 3) rfl)), List.forall_mem_cons.mpr ⟨(cl_L_wideCount_2 _ (List.mem_of_getElem? (i := 4) rfl)), fun _ h => absurd h List.not_mem_nil⟩⟩⟩⟩⟩⟩⟩⟩⟩⟩⟩⟩⟩⟩⟩⟩⟩⟩⟩⟩⟩⟩⟩⟩) w) ((List.forall_mem_cons.mpr ⟨(cl_L_wideCount_2 _ (List.mem_of_getElem? (i := 5) rfl)), List.forall_mem_cons.mpr ⟨(cl_L_wideCount_2 _ (List.mem_of_getElem? (i := 6) rfl)), List.forall_mem_cons.mpr ⟨(cl_L_wideCount_2 _ (List.mem_of_getElem? (i := 7) rfl)), List.forall_mem_cons.mpr ⟨(cl_L_wideCount_2 _ (List.mem_of_getElem? (i := 8) rfl)), List.forall_mem_cons.mpr ⟨(cl_L_wideCount_2 _ (List.mem_of_getElem? (i := 9) rfl)), List.forall_mem_cons.mpr ⟨(cl_L_wideCount_2 _ (List.mem_of_getElem? (i := 10) rfl)), List.forall_mem_cons.mpr ⟨(cl_L_wideCount_2 _ (List.mem_of_getElem? (i := 11) rfl)), List.forall_mem_cons.mpr ⟨(cl_L_wideCount_2 _ (List.mem_of_getElem? (i := 12) rfl)), List.forall_mem_cons.mpr ⟨(cl_L_wideCount_2 _ (List.mem_of_getElem? (i := 13) rfl)), List.forall_mem_cons.mpr ⟨(cl_L_wideCount_2 _ (List.mem_of_getElem? (i := 14) rfl)), List.forall_mem_cons.mpr ⟨(cl_L_wideCount_2 _ (List.mem_of_getElem? (i := 15) rfl)), List.forall_mem_cons.mpr ⟨(cl_L_wideCount_2 _ (List.mem_of_getElem? (i := 16) rfl)), List.forall_mem_cons.mpr ⟨(cl_L_wideCount_2 _ (List.mem_of_getElem? (i := 17) rfl)), List.forall_mem_cons.mpr ⟨(cl_L_wideCount_2 _ (List.mem_of_getElem? (i := 18) rfl)), List.forall_mem_cons.mpr ⟨(cl_L_wideCount_2 _ (List.mem_of_getElem? (i := 19) rfl)), List.forall_mem_cons.mpr ⟨(cl_L_wideCount_2 _ (List.mem_of_getElem? (i := 20) rfl)), List.forall_mem_cons.mpr ⟨(cl_L_wideCount_2 _ (List.mem_of_getElem? (i := 21) rfl)), List.forall_mem_cons.mpr ⟨(cl_L_wideCount_2 _ (List.mem_of_getElem? (i := 22) rfl)), List.forall_mem_cons.mpr ⟨(cl_L_wideCount_2 _ (List.mem_of_getElem? (i := 23) rfl)), List.forall_mem_cons.mpr ⟨(cl_L_wideCount_3 _ (List.mem_of_getElem? (i := 0) rfl)), List.forall_mem_cons.mpr ⟨(cl_L_wideCount_3 _ (List.mem_of_getElem? (i := 1) rfl)), List.forall_mem_cons.mpr ⟨(cl_L_wideCount_3 _ (List.mem_of_getElem? (i := 2) rfl)), fun _ h => absurd h List.not_mem_nil⟩⟩⟩⟩⟩⟩⟩⟩⟩⟩⟩⟩⟩⟩⟩⟩⟩⟩⟩⟩⟩⟩) w)) w) ((cl_L_wideCount_5) w)) w) ((cl_L_wideCount_6) w)) w) ((cl_L_wideCount_7) w)) w) ((cl_L_wideCount_8) w)⟩) (by decide +kernel)
set_option maxRecDepth 20000 in
theorem gL_wideCount_X2_wideCount : GoodIn wsL_wideCount (wsV RL 91 RX2 yX2_wideCount wsX2_wideCount) := goodIn_app (goodIn_sub (List.forall_mem_cons.mpr ⟨(cl_L_wideCount_1 _ (List.mem_of_getElem? (i := 1) rfl)), List.forall_mem_cons.mpr ⟨(cl_L_wideCount_1 _ (List.mem_of_getElem? (i := 2) rfl)), List.forall_mem_cons.mpr ⟨(cl_L_wideCount_1 _ (List.mem_of_getElem? (i := 3) rfl)), List.forall_mem_cons.mpr ⟨(cl_L_wideCount_1 _ (List.mem_of_getElem? (i := 4) rfl)), fun _ h => absurd h List.not_mem_nil⟩⟩⟩⟩) (by decide +kernel)) ggL_wideCount_X2_wideCount
noncomputable def dz_p16_20 : List (Nat × Instr × Nat) := [(0, (.aload_n 2, 1)), (1, (.aload_n 0, 1)), (2, (.iload_n 1, 1)), (3, (.invokevirtual 91, 3)), (6, (.i2l, 1)), (7, (.putfield 13, 3)), (10, (.goto 6, 3)), (13, (.astore_n 3, 1)), (14, (.iconst 1, 1)), (15, (.ireturn, 1)), (16, (.iconst 0, 1)), (17, (.ireturn, 1))]
theorem dy_p16_20 : dz_ok cL_wideCount dz_p16_20 = true := by decide +kernel
theorem dL_wideCount_0 : decode cL_wideCount 0 = .ok (.aload_n 2, 1) := dz_at (i := 0) dy_p16_20 rfl
theorem dL_wideCount_1 : decode cL_wideCount 1 = .ok (.aload_n 0, 1) := dz_at (i := 1) dy_p16_20 rfl
theorem dL_wideCount_2 : decode cL_wideCount 2 = .ok (.iload_n 1, 1) := dz_at (i := 2) dy_p16_20 rfl
theorem dL_wideCount_3 : decode cL_wideCount 3 = .ok (.invokevirtual 91, 3) := dz_at (i := 3) dy_p16_20 rfl
theorem dL_wideCount_6 : decode cL_wideCount 6 = .ok (.i2l, 1) := dz_at (i := 4) dy_p16_20 rfl
theorem dL_wideCount_7 : decode cL_wideCount 7 = .ok (.putfield 13, 3) := dz_at (i := 5) dy_p16_20 rfl
theorem dL_wideCount_10 : decode cL_wideCount 10 = .ok (.goto 6, 3) := dz_at (i := 6) dy_p16_20 rfl
theorem dL_wideCount_13 : decode cL_wideCount 13 = .ok (.astore_n 3, 1) := dz_at (i := 7) dy_p16_20 rfl
theorem dL_wideCount_14 : decode cL_wideCount 14 = .ok (.iconst 1, 1) := dz_at (i := 8) dy_p16_20 rfl
theorem dL_wideCount_15 : decode cL_wideCount 15 = .ok (.ireturn, 1) := dz_at (i := 9) dy_p16_20 rfl
theorem dL_wideCount_16 : decode cL_wideCount 16 = .ok (.iconst 0, 1) := dz_at (i := 10) dy_p16_20 rfl
theorem dL_wideCount_17 : decode cL_wideCount 17 = .ok (.ireturn, 1) := dz_at (i := 11) dy_p16_20 rfl
noncomputable def o_L_wideCount (f1 : Nat → Int64) (nv : Int64) (p1 : Int32) : Int32 × Int64 :=
  if (o_X2_wideCount f1 p1).1 = 0 then (0, (((o_X2_wideCount f1 p1).2).toInt64))
  else (1, nv)
set_option maxHeartbeats 4000000 in
set_option maxRecDepth 100000 in
theorem k_L_wideCount (l : Launch) (hfl : l.flags = flags0) (dC : Nat → ClassId) (dI : Nat → Nat → Nat) (cy : ClassId) (h0 : Nat) (h1 : Nat) (hw1 : Nat) (hc1 : Nat) (hb1 : Nat) (h2 : Nat) (hw2 : Nat) (hc2 : Nat) (hb2 : Nat) (a1 : Int32) (r1 : Int32) (f1 : Nat → Int64) (g1 : Nat → Int64) (a2 : Int32) (r2 : Int32) (f2 : Nat → Int64) (g2 : Nat → Int64) (kn : Int32) (ho : Nat) (nv : Int64) (sv : Value) (sz : Nat) (N : Nat) (p1 : Int32) : Met l yL_wideCount wsL_wideCount ({ frames := 9, cells := 1, slots := 6, locals := 162 }) (va_Pc [.ref h0, .int p1, .ref ho] (xL (dC, dI) xCl [(h0, eE h1 h2 kn), (h1, eR hw1 hc1 hb1 a1 r1), (hw1, eW true), (hc1, eA cy f1), (hb1, eA cy g1), (h2, eR hw2 hc2 hb2 a2 r2), (hw2, eW false), (hc2, eA cy f2), (hb2, eA cy g2), (ho, eO nv sv)] [(cy, .long)] sz N)) (va_Qi (fun (r : Int32) (_ : Unit) => r = (o_L_wideCount f1 nv p1).1) (fun _ t => xW (dC, dI) xCl [(h0, eE h1 h2 kn), (h1, eR hw1 hc1 hb1 a1 r1), (hw1, eW true), (hc1, eA cy f1), (hb1, eA cy g1), (h2, eR hw2 hc2 hb2 a2 r2), (hw2, eW false), (hc2, eA cy f2), (hb2, eA cy g2), (ho, eO (o_L_wideCount f1 nv p1).2 sv)] (va_A [(h0, eE h1 h2 kn), (h1, eR hw1 hc1 hb1 a1 r1), (hw1, eW true), (hc1, eA cy f1), (hb1, eA cy g1), (h2, eR hw2 hc2 hb2 a2 r2), (hw2, eW false), (hc2, eA cy f2), (hb2, eA cy g2), (ho, eO nv sv)] sz) t) (va_A [(h0, eE h1 h2 kn), (h1, eR hw1 hc1 hb1 a1 r1), (hw1, eW true), (hc1, eA cy f1), (hb1, eA cy g1), (h2, eR hw2 hc2 hb2 a2 r2), (hw2, eW false), (hc2, eA cy f2), (hb2, eA cy g2), (ho, eO nv sv)] sz)) 1 6 (va_A [(h0, eE h1 h2 kn), (h1, eR hw1 hc1 hb1 a1 r1), (hw1, eW true), (hc1, eA cy f1), (hb1, eA cy g1), (h2, eR hw2 hc2 hb2 a2 r2), (hw2, eW false), (hc2, eA cy f2), (hb2, eA cy g2), (ho, eO nv sv)] sz) := by
  refine va_MetW (cc := cL_wideCount) (maxL := 4) (ret := (some .int)) (by decide +kernel) rfl ?_
  intro p e s m args below meth c s₁ B hml hv
  obtain ⟨rfl, ⟨hsz, hP, hK, hD0, hN, hG⟩, hnc⟩ := hv
  have hx := B.exec
  have hb := B.bytes
  have hr := B.returns
  have hts := atoms_spec (ws := wsL_wideCount) B.pre
  have hown : s.vm.findClass RL = some m.cls := findClass_of_methodNamed B.named
  have hlocks := B.notSynchronized
  have htab := vx_table (x := yL_wideCount) B (hts _ List.mem_cons_self)
  subst hsz
  have hAN : ∀ q, va_A [(h0, eE h1 h2 kn), (h1, eR hw1 hc1 hb1 a1 r1), (hw1, eW true), (hc1, eA cy f1), (hb1, eA cy g1), (h2, eR hw2 hc2 hb2 a2 r2), (hw2, eW false), (hc2, eA cy f2), (hb2, eA cy g2), (ho, eO nv sv)] s.heap.size q → N ≤ q := xA_N hD0 hN
  have hD := hD0.self (sz := s.heap.size)
  generalize hAe : va_A [(h0, eE h1 h2 kn), (h1, eR hw1 hc1 hb1 a1 r1), (hw1, eW true), (hc1, eA cy f1), (hb1, eA cy g1), (h2, eR hw2 hc2 hb2 a2 r2), (hw2, eW false), (hc2, eA cy f2), (hb2, eA cy g2), (ho, eO nv sv)] s.heap.size = A at hD hAN ⊢
  have hA : ∀ q : Nat, s.heap.size ≤ q → A q := fun q h => by rw [← hAe]; exact Or.inr h
  have hS : va_S A s.heap s.heap [] := va_S.rf
  have hP : va_P (dC, dI) xCl [(h0, eE h1 h2 kn), (h1, eR hw1 hc1 hb1 a1 r1), (hw1, eW true), (hc1, eA cy f1), (hb1, eA cy g1), (h2, eR hw2 hc2 hb2 a2 r2), (hw2, eW false), (hc2, eA cy f2), (hb2, eA cy g2), (ho, eO nv sv)] s.heap := hP
  have hl := lv_entry ([.ref h0, .int p1, .ref ho]) (n := 4) (Nat.le_of_ble_eq_true rfl)
  rw [lg_entry_eq]
  generalize (lg_sl ([.ref h0, .int p1, .ref ho]) ++ List.replicate (4 - (lg_sl ([.ref h0, .int p1, .ref ho])).length) Slot.unset).toArray = ls at hl ⊢
  have hl : lv_has ls 4 [(0, .ref h0), (1, .int p1), (2, .ref ho)] := hl
  refine lv_aload_n hx hb dL_wideCount_0 rfl (lv_at hl 2 rfl) ?_
  refine lv_aload_n hx hb dL_wideCount_1 rfl (lv_at hl 0 rfl) ?_
  refine lv_iload_n hx hb dL_wideCount_2 rfl (lv_at hl 1 rfl) ?_
  have hPc := hP.sub (ws' := [(h0, eE h1 h2 kn), (h1, eR hw1 hc1 hb1 a1 r1), (hw1, eW true), (hc1, eA cy f1), (hb1, eA cy g1), (h2, eR hw2 hc2 hb2 a2 r2), (hw2, eW false), (hc2, eA cy f2), (hb2, eA cy g2)]) [0, 1, 2, 3, 4, 5, 6, 7, 8] rfl
  have hDc := hD.sub (ws' := [(h0, eE h1 h2 kn), (h1, eR hw1 hc1 hb1 a1 r1), (hw1, eW true), (hc1, eA cy f1), (hb1, eA cy g1), (h2, eR hw2 hc2 hb2 a2 r2), (hw2, eW false), (hc2, eA cy f2), (hb2, eA cy g2)]) [0, 1, 2, 3, 4, 5, 6, 7, 8] (by decide +kernel) rfl
  have hKc := hK.sub (tys' := [(cy, .long)]) [0] rfl
  refine vx_calli (vx_runV (As := [.int p1]) (rest := [.ref ho]) ⟨hx, hb, hml, hown, hts⟩ (k_X2_wideCount l hfl dC dI cy h0 h1 hw1 hc1 hb1 h2 hw2 hc2 hb2 a1 r1 f1 g1 a2 r2 f2 g2 kn s.heap.size N p1) (cwV 1 hts gL_wideCount_X2_wideCount rfl rfl rfl (by decide +kernel) ⟨Nat.le_of_ble_eq_true rfl, Nat.le_of_ble_eq_true rfl⟩) (xM.preV hKc hPc hDc hAN (Nat.le_trans hN hS.1) (hG.kept hS hAN) (ci := 4) (q0 := 0) rfl rfl) rfl rfl hl.1 rfl (lv_room (Nat.le_of_ble_eq_true rfl)) dL_wideCount_3 ⟨Nat.le_of_ble_eq_true rfl, Nat.le_of_ble_eq_true rfl⟩) hS xA_old (fun q h => hA q (Nat.le_trans hS.1 h)) xA_old (fun E ce q9 u9 t H locs ht hvm hpx hbx hz hk hS hce hcv hcl => ?_) (fun r_1 u t H locs ht hvm hw hB hz hk hS => ?_)
  · have c_2 : ¬ (o_X2_wideCount f1 p1).1 = 0 := hpx
    have hbe := hbx
    have hP := xP_keep hP hk
    have hE : E = "java/lang/IndexOutOfBoundsException" := hbe.trans (by rw [show (o_X2_wideCount f1 p1).1 = 1 from (xr_X2_wideCount _ _ c_2)]; rfl)
    subst hE
    refine vx_catch (own := RL) (name := "java/lang/IndexOutOfBoundsException") hown [] ⟨0, 10, 13, 19⟩ [] htab (fun z hz => absurd hz List.not_mem_nil) (by decide +kernel) (by decide +kernel) (hts (.classLink RL 19 "java/lang/IndexOutOfBoundsException") (by decide +kernel)) (va_Nw.use rfl (hG.1 (.castable "java/lang/IndexOutOfBoundsException" "java/lang/IndexOutOfBoundsException") (List.mem_of_getElem? (i := 11) rfl))) hce hcv hcl ?_
    refine lv_astore_n (lv' := [(3, .ref q9), (0, .ref h0), (1, .int p1), (2, .ref ho)]) hx hb dL_wideCount_13 rfl hl (by decide +kernel) rfl (fun ls hl => ?_)
    refine lv_iconst (v := 1) hx hb dL_wideCount_14 (by decide +kernel) ?_
    have he : o_L_wideCount f1 nv p1 = (1, nv) := by (rw [o_L_wideCount, if_neg c_2]) <;> rfl
    refine W.widen (k := 1) (n := 6) (by omega) (by omega) ?_
    exact W.iret (v := 1) hx hb hr (fun t ht hW => ⟨⟨_, (), rfl, (by (rw [he]) <;> rfl), (by rw [he]; exact ⟨by rw [ht]; exact hP, hD⟩)⟩, hS.F ht⟩) hS.2.2 dL_wideCount_15
  · skip
    obtain ⟨c_3, hw⟩ := hw
    have c_3 : (o_X2_wideCount f1 p1).1 = 0 := c_3
    replace hw : r_1 = (o_X2_wideCount f1 p1).2 := hw
    subst r_1
    have hP := xP_keep hP hk
    refine lv_i2l (v := (((o_X2_wideCount f1 p1).2).toInt64)) hx hb dL_wideCount_6 rfl ?_
    refine va_putN (D := (dC, dI)) (ci := 5) (v := .long (((o_X2_wideCount f1 p1).2).toInt64)) (ty := .long) (C := RX3) (T := TX3) (N := 2) hx hb hts (by decide +kernel) tyX3 tyX3_ok nmX3 hown hK hP hD hS 9 rfl rfl 0 (by decide +kernel) (va_Nw.use rfl (hG.1 (.fieldLinkNest RL 13 "EdgefloatsLaw$Out" "n" "J" RL) (List.mem_of_getElem? (i := 6) rfl))) (fun _ h9 => h9) rfl (by decide +kernel) rfl rfl (Nat.le_of_ble_eq_true rfl) dL_wideCount_7 (fun H locs hP hD hS => ?_)
    have hP : va_P (dC, dI) xCl [(h0, eE h1 h2 kn), (h1, eR hw1 hc1 hb1 a1 r1), (hw1, eW true), (hc1, eA cy f1), (hb1, eA cy g1), (h2, eR hw2 hc2 hb2 a2 r2), (hw2, eW false), (hc2, eA cy f2), (hb2, eA cy g2), (ho, eO (((o_X2_wideCount f1 p1).2).toInt64) sv)] H := hP
    have hD : va_D A [(h0, eE h1 h2 kn), (h1, eR hw1 hc1 hb1 a1 r1), (hw1, eW true), (hc1, eA cy f1), (hb1, eA cy g1), (h2, eR hw2 hc2 hb2 a2 r2), (hw2, eW false), (hc2, eA cy f2), (hb2, eA cy g2), (ho, eO (((o_X2_wideCount f1 p1).2).toInt64) sv)] := hD
    refine lv_goto (tgt := 16) hx hb dL_wideCount_10 (by decide +kernel) ?_
    refine lv_iconst (v := 0) hx hb dL_wideCount_16 (by decide +kernel) ?_
    have he : o_L_wideCount f1 nv p1 = (0, (((o_X2_wideCount f1 p1).2).toInt64)) := by (rw [o_L_wideCount, if_pos c_3]) <;> rfl
    refine W.widen (k := 1) (n := 6) (by omega) (by omega) ?_
    exact W.iret (v := 0) hx hb hr (fun t ht hW => ⟨⟨_, (), rfl, (by (rw [he]) <;> rfl), (by rw [he]; exact ⟨by rw [ht]; exact hP, hD⟩)⟩, hS.F ht⟩) hS.2.2 dL_wideCount_17
theorem cl_L_wideFind_1 : ∀ w ∈ [.classLink RL 19 "java/lang/IndexOutOfBoundsException", .methodLink RL 94 yX2_wideFind, .instanceMethod yX2_wideFind, .selects RX2 yX2_wideFind yX2_wideFind, .initialized RX2, .code yX2_wideFind cX2_wideFind 3 (some .int), .fieldLink RX2 20 "Edgefloats" "wide" "LEdgefloats$Row;", .methodLink RX2 102 yX0_find, .instanceMethod yX0_find, .selects RX0 yX0_find yX0_find, .initialized RX0, .code yX0_find cX0_find 6 (some .int), .fieldLink RX0 15 "Edgefloats$Row" "cells" "[J", .static yX2_checkCell, .code yX2_checkCell cX2_checkCell 1 none, .classLink RX2 148 "java/lang/IndexOutOfBoundsException", .initialized "java/lang/IndexOutOfBoundsException"], w ∈ wsL_wideFind := fun _ h => (List.mem_cons_of_mem _ (List.mem_append_left _ (List.mem_append_left _ (List.mem_append_left _ (List.mem_append_left _ h)))))
theorem cl_L_wideFind_2 : ∀ w ∈ wsX30, w ∈ wsL_wideFind := fun _ h => (List.mem_cons_of_mem _ (List.mem_append_left _ (List.mem_append_left _ (List.mem_append_left _ (List.mem_append_right _ h)))))
theorem cl_L_wideFind_3 : ∀ w ∈ wsX20, w ∈ wsL_wideFind := fun _ h => (List.mem_cons_of_mem _ (List.mem_append_left _ (List.mem_append_left _ (List.mem_append_right _ h))))
theorem cl_L_wideFind_4 : ∀ w ∈ wsX00, w ∈ wsL_wideFind := fun _ h => (List.mem_cons_of_mem _ (List.mem_append_left _ (List.mem_append_right _ h)))
theorem cl_L_wideFind_5 : ∀ w ∈ (vx_atS RX2 152 "java/lang/IndexOutOfBoundsException" ["java/lang/RuntimeException", "java/lang/Exception"]).filter goodWord, w ∈ wsL_wideFind := fun _ h => (List.mem_cons_of_mem _ (List.mem_append_right _ h))
set_option maxRecDepth 20000 in
theorem ggL_wideFind_X2_wideFind : GoodIn wsL_wideFind wsX2_wideFind := goodIn_sub (List.forall_mem_cons.mpr ⟨(cl_L_wideFind_1 _ (List.mem_of_getElem? (i := 5) rfl)), fun w h => (List.mem_append.mp h).elim ((fun w h => (List.mem_append.mp h).elim ((fun w h => (List.mem_append.mp h).elim ((List.forall_mem_cons.mpr ⟨(cl_L_wideFind_1 _ (List.mem_of_getElem? (i := 6) rfl)), List.forall_mem_cons.mpr ⟨(cl_L_wideFind_1 _ (List.mem_of_getElem? (i := 7) rfl)), List.forall_mem_cons.mpr ⟨(cl_L_wideFind_1 _ (List.mem_of_getElem? (i := 8) rfl)), List.forall_mem_cons.mpr ⟨(cl_L_wideFind_1 _ (List.mem_of_getElem? (i := 9) rfl)), List.forall_mem_cons.mpr ⟨(cl_L_wideFind_1 _ (List.mem_of_getElem? (i := 10) rfl)), List.forall_mem_cons.mpr ⟨(cl_L_wideFind_1 _ (List.mem_of_getElem? (i := 11) rfl)), List.forall_mem_cons.mpr ⟨(cl_L_wideFind_1 _ (List.mem_of_getElem? (i := 12) rfl)), List.forall_mem_cons.mpr ⟨(cl_L_wideFind_1 _ (List.mem_of_getElem? (i := 13) rfl)), List.forall_mem_cons.mpr ⟨(cl_L_wideFind_1 _ (List.mem_of_getElem? (i := 4) rfl)), List.forall_mem_cons.mpr ⟨(cl_L_wideFind_1 _ (List.mem_of_getElem? (i := 14) rfl)), List.forall_mem_cons.mpr ⟨(cl_L_wideFind_1 _ (List.mem_of_getElem? (i := 15) rfl)), List.forall_mem_cons.mpr ⟨(cl_L_wideFind_1 _ (List.mem_of_getElem? (i := 16) rfl)), fun _ h => absurd h List.not_mem_nil⟩⟩⟩⟩⟩⟩⟩⟩⟩⟩⟩⟩) w) ((cl_L_wideFind_3) w)) w) ((cl_L_wideFind_4) w)) w) ((cl_L_wideFind_5) w)⟩) (by decide +kernel)
set_option maxRecDepth 20000 in
theorem gL_wideFind_X2_wideFind : GoodIn wsL_wideFind (wsV RL 94 RX2 yX2_wideFind wsX2_wideFind) := goodIn_app (goodIn_sub (List.forall_mem_cons.mpr ⟨(cl_L_wideFind_1 _ (List.mem_of_getElem? (i := 1) rfl)), List.forall_mem_cons.mpr ⟨(cl_L_wideFind_1 _ (List.mem_of_getElem? (i := 2) rfl)), List.forall_mem_cons.mpr ⟨(cl_L_wideFind_1 _ (List.mem_of_getElem? (i := 3) rfl)), List.forall_mem_cons.mpr ⟨(cl_L_wideFind_1 _ (List.mem_of_getElem? (i := 4) rfl)), fun _ h => absurd h List.not_mem_nil⟩⟩⟩⟩) (by decide +kernel)) ggL_wideFind_X2_wideFind
noncomputable def dz_p16_21 : List (Nat × Instr × Nat) := [(0, (.aload_n 3, 1)), (1, (.aload_n 0, 1)), (2, (.iload_n 1, 1)), (3, (.iload_n 2, 1)), (4, (.invokevirtual 94, 3)), (7, (.i2l, 1)), (8, (.putfield 13, 3)), (11, (.goto 7, 3)), (14, (.astore 4, 2)), (16, (.iconst 1, 1)), (17, (.ireturn, 1)), (18, (.iconst 0, 1)), (19, (.ireturn, 1))]
theorem dy_p16_21 : dz_ok cL_wideFind dz_p16_21 = true := by decide +kernel
theorem dL_wideFind_0 : decode cL_wideFind 0 = .ok (.aload_n 3, 1) := dz_at (i := 0) dy_p16_21 rfl
theorem dL_wideFind_1 : decode cL_wideFind 1 = .ok (.aload_n 0, 1) := dz_at (i := 1) dy_p16_21 rfl
theorem dL_wideFind_2 : decode cL_wideFind 2 = .ok (.iload_n 1, 1) := dz_at (i := 2) dy_p16_21 rfl
theorem dL_wideFind_3 : decode cL_wideFind 3 = .ok (.iload_n 2, 1) := dz_at (i := 3) dy_p16_21 rfl
theorem dL_wideFind_4 : decode cL_wideFind 4 = .ok (.invokevirtual 94, 3) := dz_at (i := 4) dy_p16_21 rfl
theorem dL_wideFind_7 : decode cL_wideFind 7 = .ok (.i2l, 1) := dz_at (i := 5) dy_p16_21 rfl
theorem dL_wideFind_8 : decode cL_wideFind 8 = .ok (.putfield 13, 3) := dz_at (i := 6) dy_p16_21 rfl
theorem dL_wideFind_11 : decode cL_wideFind 11 = .ok (.goto 7, 3) := dz_at (i := 7) dy_p16_21 rfl
theorem dL_wideFind_14 : decode cL_wideFind 14 = .ok (.astore 4, 2) := dz_at (i := 8) dy_p16_21 rfl
theorem dL_wideFind_16 : decode cL_wideFind 16 = .ok (.iconst 1, 1) := dz_at (i := 9) dy_p16_21 rfl
theorem dL_wideFind_17 : decode cL_wideFind 17 = .ok (.ireturn, 1) := dz_at (i := 10) dy_p16_21 rfl
theorem dL_wideFind_18 : decode cL_wideFind 18 = .ok (.iconst 0, 1) := dz_at (i := 11) dy_p16_21 rfl
theorem dL_wideFind_19 : decode cL_wideFind 19 = .ok (.ireturn, 1) := dz_at (i := 12) dy_p16_21 rfl
noncomputable def o_L_wideFind (f1 : Nat → Int64) (nv : Int64) (p1 : Int32) (p2 : Bool) : Int32 × Int64 :=
  if (o_X2_wideFind f1 p1 p2).1 = 0 then (0, (((o_X2_wideFind f1 p1 p2).2).toInt64))
  else (1, nv)
set_option maxHeartbeats 4000000 in
set_option maxRecDepth 100000 in
theorem k_L_wideFind (l : Launch) (hfl : l.flags = flags0) (dC : Nat → ClassId) (dI : Nat → Nat → Nat) (cy : ClassId) (h0 : Nat) (h1 : Nat) (hw1 : Nat) (hc1 : Nat) (hb1 : Nat) (h2 : Nat) (hw2 : Nat) (hc2 : Nat) (hb2 : Nat) (a1 : Int32) (r1 : Int32) (f1 : Nat → Int64) (g1 : Nat → Int64) (a2 : Int32) (r2 : Int32) (f2 : Nat → Int64) (g2 : Nat → Int64) (kn : Int32) (ho : Nat) (nv : Int64) (sv : Value) (sz : Nat) (N : Nat) (p1 : Int32) (p2 : Bool) : Met l yL_wideFind wsL_wideFind ({ frames := 9, cells := 1, slots := 6, locals := 167 }) (va_Pc [.ref h0, .int p1, .int (b2i p2), .ref ho] (xL (dC, dI) xCl [(h0, eE h1 h2 kn), (h1, eR hw1 hc1 hb1 a1 r1), (hw1, eW true), (hc1, eA cy f1), (hb1, eA cy g1), (h2, eR hw2 hc2 hb2 a2 r2), (hw2, eW false), (hc2, eA cy f2), (hb2, eA cy g2), (ho, eO nv sv)] [(cy, .long)] sz N)) (va_Qi (fun (r : Int32) (_ : Unit) => r = (o_L_wideFind f1 nv p1 p2).1) (fun _ t => xW (dC, dI) xCl [(h0, eE h1 h2 kn), (h1, eR hw1 hc1 hb1 a1 r1), (hw1, eW true), (hc1, eA cy f1), (hb1, eA cy g1), (h2, eR hw2 hc2 hb2 a2 r2), (hw2, eW false), (hc2, eA cy f2), (hb2, eA cy g2), (ho, eO (o_L_wideFind f1 nv p1 p2).2 sv)] (va_A [(h0, eE h1 h2 kn), (h1, eR hw1 hc1 hb1 a1 r1), (hw1, eW true), (hc1, eA cy f1), (hb1, eA cy g1), (h2, eR hw2 hc2 hb2 a2 r2), (hw2, eW false), (hc2, eA cy f2), (hb2, eA cy g2), (ho, eO nv sv)] sz) t) (va_A [(h0, eE h1 h2 kn), (h1, eR hw1 hc1 hb1 a1 r1), (hw1, eW true), (hc1, eA cy f1), (hb1, eA cy g1), (h2, eR hw2 hc2 hb2 a2 r2), (hw2, eW false), (hc2, eA cy f2), (hb2, eA cy g2), (ho, eO nv sv)] sz)) 1 6 (va_A [(h0, eE h1 h2 kn), (h1, eR hw1 hc1 hb1 a1 r1), (hw1, eW true), (hc1, eA cy f1), (hb1, eA cy g1), (h2, eR hw2 hc2 hb2 a2 r2), (hw2, eW false), (hc2, eA cy f2), (hb2, eA cy g2), (ho, eO nv sv)] sz) := by
  refine va_MetW (cc := cL_wideFind) (maxL := 5) (ret := (some .int)) (by decide +kernel) rfl ?_
  intro p e s m args below meth c s₁ B hml hv
  obtain ⟨rfl, ⟨hsz, hP, hK, hD0, hN, hG⟩, hnc⟩ := hv
  have hx := B.exec
  have hb := B.bytes
  have hr := B.returns
  have hts := atoms_spec (ws := wsL_wideFind) B.pre
  have hown : s.vm.findClass RL = some m.cls := findClass_of_methodNamed B.named
  have hlocks := B.notSynchronized
  have htab := vx_table (x := yL_wideFind) B (hts _ List.mem_cons_self)
  subst hsz
  have hAN : ∀ q, va_A [(h0, eE h1 h2 kn), (h1, eR hw1 hc1 hb1 a1 r1), (hw1, eW true), (hc1, eA cy f1), (hb1, eA cy g1), (h2, eR hw2 hc2 hb2 a2 r2), (hw2, eW false), (hc2, eA cy f2), (hb2, eA cy g2), (ho, eO nv sv)] s.heap.size q → N ≤ q := xA_N hD0 hN
  have hD := hD0.self (sz := s.heap.size)
  generalize hAe : va_A [(h0, eE h1 h2 kn), (h1, eR hw1 hc1 hb1 a1 r1), (hw1, eW true), (hc1, eA cy f1), (hb1, eA cy g1), (h2, eR hw2 hc2 hb2 a2 r2), (hw2, eW false), (hc2, eA cy f2), (hb2, eA cy g2), (ho, eO nv sv)] s.heap.size = A at hD hAN ⊢
  have hA : ∀ q : Nat, s.heap.size ≤ q → A q := fun q h => by rw [← hAe]; exact Or.inr h
  have hS : va_S A s.heap s.heap [] := va_S.rf
  have hP : va_P (dC, dI) xCl [(h0, eE h1 h2 kn), (h1, eR hw1 hc1 hb1 a1 r1), (hw1, eW true), (hc1, eA cy f1), (hb1, eA cy g1), (h2, eR hw2 hc2 hb2 a2 r2), (hw2, eW false), (hc2, eA cy f2), (hb2, eA cy g2), (ho, eO nv sv)] s.heap := hP
  have hl := lv_entry ([.ref h0, .int p1, .int (b2i p2), .ref ho]) (n := 5) (Nat.le_of_ble_eq_true rfl)
  rw [lg_entry_eq]
  generalize (lg_sl ([.ref h0, .int p1, .int (b2i p2), .ref ho]) ++ List.replicate (5 - (lg_sl ([.ref h0, .int p1, .int (b2i p2), .ref ho])).length) Slot.unset).toArray = ls at hl ⊢
  have hl : lv_has ls 5 [(0, .ref h0), (1, .int p1), (2, .int (b2i p2)), (3, .ref ho)] := hl
  refine lv_aload_n hx hb dL_wideFind_0 rfl (lv_at hl 3 rfl) ?_
  refine lv_aload_n hx hb dL_wideFind_1 rfl (lv_at hl 0 rfl) ?_
  refine lv_iload_n hx hb dL_wideFind_2 rfl (lv_at hl 1 rfl) ?_
  refine lv_iload_n hx hb dL_wideFind_3 rfl (lv_at hl 2 rfl) ?_
  have hPc := hP.sub (ws' := [(h0, eE h1 h2 kn), (h1, eR hw1 hc1 hb1 a1 r1), (hw1, eW true), (hc1, eA cy f1), (hb1, eA cy g1), (h2, eR hw2 hc2 hb2 a2 r2), (hw2, eW false), (hc2, eA cy f2), (hb2, eA cy g2)]) [0, 1, 2, 3, 4, 5, 6, 7, 8] rfl
  have hDc := hD.sub (ws' := [(h0, eE h1 h2 kn), (h1, eR hw1 hc1 hb1 a1 r1), (hw1, eW true), (hc1, eA cy f1), (hb1, eA cy g1), (h2, eR hw2 hc2 hb2 a2 r2), (hw2, eW false), (hc2, eA cy f2), (hb2, eA cy g2)]) [0, 1, 2, 3, 4, 5, 6, 7, 8] (by decide +kernel) rfl
  have hKc := hK.sub (tys' := [(cy, .long)]) [0] rfl
  refine vx_calli (vx_runV (As := [.int p1, .int (b2i p2)]) (rest := [.ref ho]) ⟨hx, hb, hml, hown, hts⟩ (k_X2_wideFind l hfl dC dI cy h0 h1 hw1 hc1 hb1 h2 hw2 hc2 hb2 a1 r1 f1 g1 a2 r2 f2 g2 kn s.heap.size N p1 p2) (cwV 2 hts gL_wideFind_X2_wideFind rfl rfl rfl (by decide +kernel) ⟨Nat.le_of_ble_eq_true rfl, Nat.le_of_ble_eq_true rfl⟩) (xM.preV hKc hPc hDc hAN (Nat.le_trans hN hS.1) (hG.kept hS hAN) (ci := 4) (q0 := 0) rfl rfl) rfl rfl hl.1 rfl (lv_room (Nat.le_of_ble_eq_true rfl)) dL_wideFind_4 ⟨Nat.le_of_ble_eq_true rfl, Nat.le_of_ble_eq_true rfl⟩) hS xA_old (fun q h => hA q (Nat.le_trans hS.1 h)) xA_old (fun E ce q9 u9 t H locs ht hvm hpx hbx hz hk hS hce hcv hcl => ?_) (fun r_1 u t H locs ht hvm hw hB hz hk hS => ?_)
  · have c_2 : ¬ (o_X2_wideFind f1 p1 p2).1 = 0 := hpx
    have hbe := hbx
    have hP := xP_keep hP hk
    have hE : E = "java/lang/IndexOutOfBoundsException" := hbe.trans (by rw [show (o_X2_wideFind f1 p1 p2).1 = 1 from (xr_X2_wideFind _ _ _ c_2)]; rfl)
    subst hE
    refine vx_catch (own := RL) (name := "java/lang/IndexOutOfBoundsException") hown [] ⟨0, 11, 14, 19⟩ [] htab (fun z hz => absurd hz List.not_mem_nil) (by decide +kernel) (by decide +kernel) (hts (.classLink RL 19 "java/lang/IndexOutOfBoundsException") (by decide +kernel)) (va_Nw.use rfl (hG.1 (.castable "java/lang/IndexOutOfBoundsException" "java/lang/IndexOutOfBoundsException") (List.mem_of_getElem? (i := 11) rfl))) hce hcv hcl ?_
    refine lv_astore (lv' := [(4, .ref q9), (0, .ref h0), (1, .int p1), (2, .int (b2i p2)), (3, .ref ho)]) hx hb dL_wideFind_14 hl (by decide +kernel) rfl (fun ls hl => ?_)
    refine lv_iconst (v := 1) hx hb dL_wideFind_16 (by decide +kernel) ?_
    have he : o_L_wideFind f1 nv p1 p2 = (1, nv) := by (rw [o_L_wideFind, if_neg c_2]) <;> rfl
    refine W.widen (k := 1) (n := 6) (by omega) (by omega) ?_
    exact W.iret (v := 1) hx hb hr (fun t ht hW => ⟨⟨_, (), rfl, (by (rw [he]) <;> rfl), (by rw [he]; exact ⟨by rw [ht]; exact hP, hD⟩)⟩, hS.F ht⟩) hS.2.2 dL_wideFind_17
  · skip
    obtain ⟨c_3, hw⟩ := hw
    have c_3 : (o_X2_wideFind f1 p1 p2).1 = 0 := c_3
    replace hw : r_1 = (o_X2_wideFind f1 p1 p2).2 := hw
    subst r_1
    have hP := xP_keep hP hk
    refine lv_i2l (v := (((o_X2_wideFind f1 p1 p2).2).toInt64)) hx hb dL_wideFind_7 rfl ?_
    refine va_putN (D := (dC, dI)) (ci := 5) (v := .long (((o_X2_wideFind f1 p1 p2).2).toInt64)) (ty := .long) (C := RX3) (T := TX3) (N := 2) hx hb hts (by decide +kernel) tyX3 tyX3_ok nmX3 hown hK hP hD hS 9 rfl rfl 0 (by decide +kernel) (va_Nw.use rfl (hG.1 (.fieldLinkNest RL 13 "EdgefloatsLaw$Out" "n" "J" RL) (List.mem_of_getElem? (i := 6) rfl))) (fun _ h9 => h9) rfl (by decide +kernel) rfl rfl (Nat.le_of_ble_eq_true rfl) dL_wideFind_8 (fun H locs hP hD hS => ?_)
    have hP : va_P (dC, dI) xCl [(h0, eE h1 h2 kn), (h1, eR hw1 hc1 hb1 a1 r1), (hw1, eW true), (hc1, eA cy f1), (hb1, eA cy g1), (h2, eR hw2 hc2 hb2 a2 r2), (hw2, eW false), (hc2, eA cy f2), (hb2, eA cy g2), (ho, eO (((o_X2_wideFind f1 p1 p2).2).toInt64) sv)] H := hP
    have hD : va_D A [(h0, eE h1 h2 kn), (h1, eR hw1 hc1 hb1 a1 r1), (hw1, eW true), (hc1, eA cy f1), (hb1, eA cy g1), (h2, eR hw2 hc2 hb2 a2 r2), (hw2, eW false), (hc2, eA cy f2), (hb2, eA cy g2), (ho, eO (((o_X2_wideFind f1 p1 p2).2).toInt64) sv)] := hD
    refine lv_goto (tgt := 18) hx hb dL_wideFind_11 (by decide +kernel) ?_
    refine lv_iconst (v := 0) hx hb dL_wideFind_18 (by decide +kernel) ?_
    have he : o_L_wideFind f1 nv p1 p2 = (0, (((o_X2_wideFind f1 p1 p2).2).toInt64)) := by (rw [o_L_wideFind, if_pos c_3]) <;> rfl
    refine W.widen (k := 1) (n := 6) (by omega) (by omega) ?_
    exact W.iret (v := 0) hx hb hr (fun t ht hW => ⟨⟨_, (), rfl, (by (rw [he]) <;> rfl), (by rw [he]; exact ⟨by rw [ht]; exact hP, hD⟩)⟩, hS.F ht⟩) hS.2.2 dL_wideFind_19
theorem cl_L_wideHas_1 : ∀ w ∈ wsL_wideHas_r1, w ∈ wsL_wideHas := fun _ h => (List.mem_cons_of_mem _ (List.mem_append_left _ (List.mem_append_left _ (List.mem_append_left _ (List.mem_append_left _ (List.mem_append_left _ (List.mem_append_left _ h)))))))
theorem cl_L_wideHas_2 : ∀ w ∈ wsL_wideHas_r2, w ∈ wsL_wideHas := fun _ h => (List.mem_cons_of_mem _ (List.mem_append_left _ (List.mem_append_left _ (List.mem_append_left _ (List.mem_append_left _ (List.mem_append_left _ (List.mem_append_right _ h)))))))
theorem cl_L_wideHas_3 : ∀ w ∈ wsX30, w ∈ wsL_wideHas := fun _ h => (List.mem_cons_of_mem _ (List.mem_append_left _ (List.mem_append_left _ (List.mem_append_left _ (List.mem_append_left _ (List.mem_append_right _ h))))))
theorem cl_L_wideHas_4 : ∀ w ∈ wsX20, w ∈ wsL_wideHas := fun _ h => (List.mem_cons_of_mem _ (List.mem_append_left _ (List.mem_append_left _ (List.mem_append_left _ (List.mem_append_right _ h)))))
theorem cl_L_wideHas_5 : ∀ w ∈ wsX00, w ∈ wsL_wideHas := fun _ h => (List.mem_cons_of_mem _ (List.mem_append_left _ (List.mem_append_left _ (List.mem_append_right _ h))))
theorem cl_L_wideHas_6 : ∀ w ∈ wsX10, w ∈ wsL_wideHas := fun _ h => (List.mem_cons_of_mem _ (List.mem_append_left _ (List.mem_append_right _ h)))
theorem cl_L_wideHas_7 : ∀ w ∈ (vx_atS RX2 159 "java/lang/IllegalArgumentException" ["java/lang/RuntimeException", "java/lang/Exception"]).filter goodWord, w ∈ wsL_wideHas := fun _ h => (List.mem_cons_of_mem _ (List.mem_append_right _ h))
set_option maxRecDepth 20000 in
theorem ggL_wideHas_X2_wideHas : GoodIn wsL_wideHas wsX2_wideHas := goodIn_sub (List.forall_mem_cons.mpr ⟨(cl_L_wideHas_1 _ (List.mem_of_getElem? (i := 5) rfl)), fun w h => (List.mem_append.mp h).elim ((fun w h => (List.mem_append.mp h).elim ((fun w h => (List.mem_append.mp h).elim ((fun w h => (List.mem_append.mp h).elim ((List.forall_mem_cons.mpr ⟨(cl_L_wideHas_1 _ (List.mem_of_getElem? (i := 6) rfl)), List.forall_mem_cons.mpr ⟨(cl_L_wideHas_1 _ (List.mem_of_getElem? (i := 7) rfl)), List.forall_mem_cons.mpr ⟨(cl_L_wideHas_1 _ (List.mem_of_getElem? (i := 8) rfl)), List.forall_mem_cons.mpr ⟨(cl_L_wideHas_1 _ (List.mem_of_getElem? (i := 9) rfl)), List.forall_mem_cons.mpr ⟨(cl_L_wideHas_1 _ (List.mem_of_getElem? (i := 10) rfl)), List.forall_mem_cons.mpr ⟨(cl_L_wideHas_1 _ (List.mem_of_getElem? (i := 11) rfl)), List.forall_mem_cons.mpr ⟨(cl_L_wideHas_1 _ (List.mem_of_getElem? (i := 12) rfl)), List.forall_mem_cons.mpr ⟨(cl_L_wideHas_1 _ (List.mem_of_getElem? (i := 13) rfl)), List.forall_mem_cons.mpr ⟨(cl_L_wideHas_1 _ (List.mem_of_getElem? (i := 14) rfl)), List.forall_mem_cons.mpr ⟨(cl_L_wideHas_1 _ (List.mem_of_getElem? (i := 4) rfl)), List.forall_mem_cons.mpr ⟨(cl_L_wideHas_1 _ (List.mem_of_getElem? (i := 15) rfl)), List.forall_mem_cons.mpr ⟨(cl_L_wideHas_1 _ (List.mem_of_getElem? (i := 16) rfl)), List.forall_mem_cons.mpr ⟨(cl_L_wideHas_1 _ (List.mem_of_getElem? (i := 17) rfl)), List.forall_mem_cons.mpr ⟨(cl_L_wideHas_1 _ (List.mem_of_getElem? (i := 18) rfl)), List.forall_mem_cons.mpr ⟨(cl_L_wideHas_1 _ (List.mem_of_getElem? (i := 19) rfl)), List.forall_mem_cons.mpr ⟨(cl_L_wideHas_1 _ (List.mem_of_getElem? (i := 20) rfl)), List.forall_mem_cons.mpr ⟨(cl_L_wideHas_1 _ (List.mem_of_getElem? (i := 21) rfl)), List.forall_mem_cons.mpr ⟨(cl_L_wideHas_1 _ (List.mem_of_getElem? (i := 22) rfl)), List.forall_mem_cons.mpr ⟨(cl_L_wideHas_1 _ (List.mem_of_getElem? (i := 23) rfl)), List.forall_mem_cons.mpr ⟨(cl_L_wideHas_2 _ (List.mem_of_getElem? (i := 0) rfl)), List.forall_mem_cons.mpr ⟨(cl_L_wideHas_2 _ (List.mem_of_getElem? (i := 1) rfl)), fun _ h => absurd h List.not_mem_nil⟩⟩⟩⟩⟩⟩⟩⟩⟩⟩⟩⟩⟩⟩⟩⟩⟩⟩⟩⟩⟩) w) ((cl_L_wideHas_4) w)) w) ((cl_L_wideHas_5) w)) w) ((cl_L_wideHas_6) w)) w) ((cl_L_wideHas_7) w)⟩) (by decide +kernel)
set_option maxRecDepth 20000 in
theorem gL_wideHas_X2_wideHas : GoodIn wsL_wideHas (wsV RL 98 RX2 yX2_wideHas wsX2_wideHas) := goodIn_app (goodIn_sub (List.forall_mem_cons.mpr ⟨(cl_L_wideHas_1 _ (List.mem_of_getElem? (i := 1) rfl)), List.forall_mem_cons.mpr ⟨(cl_L_wideHas_1 _ (List.mem_of_getElem? (i := 2) rfl)), List.forall_mem_cons.mpr ⟨(cl_L_wideHas_1 _ (List.mem_of_getElem? (i := 3) rfl)), List.forall_mem_cons.mpr ⟨(cl_L_wideHas_1 _ (List.mem_of_getElem? (i := 4) rfl)), fun _ h => absurd h List.not_mem_nil⟩⟩⟩⟩) (by decide +kernel)) ggL_wideHas_X2_wideHas
noncomputable def dz_p16_22 : List (Nat × Instr × Nat) := [(0, (.aload_n 2, 1)), (1, (.aload_n 0, 1)), (2, (.iload_n 1, 1)), (3, (.invokevirtual 98, 3)), (6, (.ifCond .eq 7, 3)), (9, (.lconst 1, 1)), (10, (.goto 4, 3)), (13, (.lconst 0, 1)), (14, (.putfield 13, 3)), (17, (.goto 6, 3)), (20, (.astore_n 3, 1)), (21, (.iconst 1, 1)), (22, (.ireturn, 1)), (23, (.iconst 0, 1)), (24, (.ireturn, 1))]
theorem dy_p16_22 : dz_ok cL_wideHas dz_p16_22 = true := by decide +kernel
theorem dL_wideHas_0 : decode cL_wideHas 0 = .ok (.aload_n 2, 1) := dz_at (i := 0) dy_p16_22 rfl
theorem dL_wideHas_1 : decode cL_wideHas 1 = .ok (.aload_n 0, 1) := dz_at (i := 1) dy_p16_22 rfl
theorem dL_wideHas_2 : decode cL_wideHas 2 = .ok (.iload_n 1, 1) := dz_at (i := 2) dy_p16_22 rfl
theorem dL_wideHas_3 : decode cL_wideHas 3 = .ok (.invokevirtual 98, 3) := dz_at (i := 3) dy_p16_22 rfl
theorem dL_wideHas_6 : decode cL_wideHas 6 = .ok (.ifCond .eq 7, 3) := dz_at (i := 4) dy_p16_22 rfl
theorem dL_wideHas_9 : decode cL_wideHas 9 = .ok (.lconst 1, 1) := dz_at (i := 5) dy_p16_22 rfl
theorem dL_wideHas_10 : decode cL_wideHas 10 = .ok (.goto 4, 3) := dz_at (i := 6) dy_p16_22 rfl
theorem dL_wideHas_13 : decode cL_wideHas 13 = .ok (.lconst 0, 1) := dz_at (i := 7) dy_p16_22 rfl
theorem dL_wideHas_14 : decode cL_wideHas 14 = .ok (.putfield 13, 3) := dz_at (i := 8) dy_p16_22 rfl
theorem dL_wideHas_17 : decode cL_wideHas 17 = .ok (.goto 6, 3) := dz_at (i := 9) dy_p16_22 rfl
theorem dL_wideHas_20 : decode cL_wideHas 20 = .ok (.astore_n 3, 1) := dz_at (i := 10) dy_p16_22 rfl
theorem dL_wideHas_21 : decode cL_wideHas 21 = .ok (.iconst 1, 1) := dz_at (i := 11) dy_p16_22 rfl
theorem dL_wideHas_22 : decode cL_wideHas 22 = .ok (.ireturn, 1) := dz_at (i := 12) dy_p16_22 rfl
theorem dL_wideHas_23 : decode cL_wideHas 23 = .ok (.iconst 0, 1) := dz_at (i := 13) dy_p16_22 rfl
theorem dL_wideHas_24 : decode cL_wideHas 24 = .ok (.ireturn, 1) := dz_at (i := 14) dy_p16_22 rfl
noncomputable def o_L_wideHas (f1 : Nat → Int64) (nv : Int64) (p1 : Int32) : Int32 × Int64 :=
  if (o_X2_wideHas f1 p1).1 = 0 then (if (o_X2_wideHas f1 p1).2 = true then (0, 1)
    else (0, 0))
  else (1, nv)
set_option maxHeartbeats 4000000 in
set_option maxRecDepth 100000 in
theorem k_L_wideHas (l : Launch) (hfl : l.flags = flags0) (dC : Nat → ClassId) (dI : Nat → Nat → Nat) (cy : ClassId) (h0 : Nat) (h1 : Nat) (hw1 : Nat) (hc1 : Nat) (hb1 : Nat) (h2 : Nat) (hw2 : Nat) (hc2 : Nat) (hb2 : Nat) (a1 : Int32) (r1 : Int32) (f1 : Nat → Int64) (g1 : Nat → Int64) (a2 : Int32) (r2 : Int32) (f2 : Nat → Int64) (g2 : Nat → Int64) (kn : Int32) (ho : Nat) (nv : Int64) (sv : Value) (sz : Nat) (N : Nat) (p1 : Int32) : Met l yL_wideHas wsL_wideHas ({ frames := 9, cells := 1, slots := 6, locals := 166 }) (va_Pc [.ref h0, .int p1, .ref ho] (xL (dC, dI) xCl [(h0, eE h1 h2 kn), (h1, eR hw1 hc1 hb1 a1 r1), (hw1, eW true), (hc1, eA cy f1), (hb1, eA cy g1), (h2, eR hw2 hc2 hb2 a2 r2), (hw2, eW false), (hc2, eA cy f2), (hb2, eA cy g2), (ho, eO nv sv)] [(cy, .long)] sz N)) (va_Qi (fun (r : Int32) (_ : Unit) => r = (o_L_wideHas f1 nv p1).1) (fun _ t => xW (dC, dI) xCl [(h0, eE h1 h2 kn), (h1, eR hw1 hc1 hb1 a1 r1), (hw1, eW true), (hc1, eA cy f1), (hb1, eA cy g1), (h2, eR hw2 hc2 hb2 a2 r2), (hw2, eW false), (hc2, eA cy f2), (hb2, eA cy g2), (ho, eO (o_L_wideHas f1 nv p1).2 sv)] (va_A [(h0, eE h1 h2 kn), (h1, eR hw1 hc1 hb1 a1 r1), (hw1, eW true), (hc1, eA cy f1), (hb1, eA cy g1), (h2, eR hw2 hc2 hb2 a2 r2), (hw2, eW false), (hc2, eA cy f2), (hb2, eA cy g2), (ho, eO nv sv)] sz) t) (va_A [(h0, eE h1 h2 kn), (h1, eR hw1 hc1 hb1 a1 r1), (hw1, eW true), (hc1, eA cy f1), (hb1, eA cy g1), (h2, eR hw2 hc2 hb2 a2 r2), (hw2, eW false), (hc2, eA cy f2), (hb2, eA cy g2), (ho, eO nv sv)] sz)) 1 6 (va_A [(h0, eE h1 h2 kn), (h1, eR hw1 hc1 hb1 a1 r1), (hw1, eW true), (hc1, eA cy f1), (hb1, eA cy g1), (h2, eR hw2 hc2 hb2 a2 r2), (hw2, eW false), (hc2, eA cy f2), (hb2, eA cy g2), (ho, eO nv sv)] sz) := by
  refine va_MetW (cc := cL_wideHas) (maxL := 4) (ret := (some .int)) (by decide +kernel) rfl ?_
  intro p e s m args below meth c s₁ B hml hv
  obtain ⟨rfl, ⟨hsz, hP, hK, hD0, hN, hG⟩, hnc⟩ := hv
  have hx := B.exec
  have hb := B.bytes
  have hr := B.returns
  have hts := atoms_spec (ws := wsL_wideHas) B.pre
  have hown : s.vm.findClass RL = some m.cls := findClass_of_methodNamed B.named
  have hlocks := B.notSynchronized
  have htab := vx_table (x := yL_wideHas) B (hts _ List.mem_cons_self)
  subst hsz
  have hAN : ∀ q, va_A [(h0, eE h1 h2 kn), (h1, eR hw1 hc1 hb1 a1 r1), (hw1, eW true), (hc1, eA cy f1), (hb1, eA cy g1), (h2, eR hw2 hc2 hb2 a2 r2), (hw2, eW false), (hc2, eA cy f2), (hb2, eA cy g2), (ho, eO nv sv)] s.heap.size q → N ≤ q := xA_N hD0 hN
  have hD := hD0.self (sz := s.heap.size)
  generalize hAe : va_A [(h0, eE h1 h2 kn), (h1, eR hw1 hc1 hb1 a1 r1), (hw1, eW true), (hc1, eA cy f1), (hb1, eA cy g1), (h2, eR hw2 hc2 hb2 a2 r2), (hw2, eW false), (hc2, eA cy f2), (hb2, eA cy g2), (ho, eO nv sv)] s.heap.size = A at hD hAN ⊢
  have hA : ∀ q : Nat, s.heap.size ≤ q → A q := fun q h => by rw [← hAe]; exact Or.inr h
  have hS : va_S A s.heap s.heap [] := va_S.rf
  have hP : va_P (dC, dI) xCl [(h0, eE h1 h2 kn), (h1, eR hw1 hc1 hb1 a1 r1), (hw1, eW true), (hc1, eA cy f1), (hb1, eA cy g1), (h2, eR hw2 hc2 hb2 a2 r2), (hw2, eW false), (hc2, eA cy f2), (hb2, eA cy g2), (ho, eO nv sv)] s.heap := hP
  have hl := lv_entry ([.ref h0, .int p1, .ref ho]) (n := 4) (Nat.le_of_ble_eq_true rfl)
  rw [lg_entry_eq]
  generalize (lg_sl ([.ref h0, .int p1, .ref ho]) ++ List.replicate (4 - (lg_sl ([.ref h0, .int p1, .ref ho])).length) Slot.unset).toArray = ls at hl ⊢
  have hl : lv_has ls 4 [(0, .ref h0), (1, .int p1), (2, .ref ho)] := hl
  refine lv_aload_n hx hb dL_wideHas_0 rfl (lv_at hl 2 rfl) ?_
  refine lv_aload_n hx hb dL_wideHas_1 rfl (lv_at hl 0 rfl) ?_
  refine lv_iload_n hx hb dL_wideHas_2 rfl (lv_at hl 1 rfl) ?_
  have hPc := hP.sub (ws' := [(h0, eE h1 h2 kn), (h1, eR hw1 hc1 hb1 a1 r1), (hw1, eW true), (hc1, eA cy f1), (hb1, eA cy g1), (h2, eR hw2 hc2 hb2 a2 r2), (hw2, eW false), (hc2, eA cy f2), (hb2, eA cy g2)]) [0, 1, 2, 3, 4, 5, 6, 7, 8] rfl
  have hDc := hD.sub (ws' := [(h0, eE h1 h2 kn), (h1, eR hw1 hc1 hb1 a1 r1), (hw1, eW true), (hc1, eA cy f1), (hb1, eA cy g1), (h2, eR hw2 hc2 hb2 a2 r2), (hw2, eW false), (hc2, eA cy f2), (hb2, eA cy g2)]) [0, 1, 2, 3, 4, 5, 6, 7, 8] (by decide +kernel) rfl
  have hKc := hK.sub (tys' := [(cy, .long)]) [0] rfl
  refine vx_calli (vx_runV (As := [.int p1]) (rest := [.ref ho]) ⟨hx, hb, hml, hown, hts⟩ (k_X2_wideHas l hfl dC dI cy h0 h1 hw1 hc1 hb1 h2 hw2 hc2 hb2 a1 r1 f1 g1 a2 r2 f2 g2 kn s.heap.size N p1) (cwV 1 hts gL_wideHas_X2_wideHas rfl rfl rfl (by decide +kernel) ⟨Nat.le_of_ble_eq_true rfl, Nat.le_of_ble_eq_true rfl⟩) (xM.preV hKc hPc hDc hAN (Nat.le_trans hN hS.1) (hG.kept hS hAN) (ci := 4) (q0 := 0) rfl rfl) rfl rfl hl.1 rfl (lv_room (Nat.le_of_ble_eq_true rfl)) dL_wideHas_3 ⟨Nat.le_of_ble_eq_true rfl, Nat.le_of_ble_eq_true rfl⟩) hS xA_old (fun q h => hA q (Nat.le_trans hS.1 h)) xA_old (fun E ce q9 u9 t H locs ht hvm hpx hbx hz hk hS hce hcv hcl => ?_) (fun r_1 u t H locs ht hvm hw hB hz hk hS => ?_)
  · have c_2 : ¬ (o_X2_wideHas f1 p1).1 = 0 := hpx
    have hbe := hbx
    have hP := xP_keep hP hk
    have hE : E = "java/lang/IllegalArgumentException" := hbe.trans (by rw [show (o_X2_wideHas f1 p1).1 = 2 from (xr_X2_wideHas _ _ c_2)]; rfl)
    subst hE
    refine vx_catch (own := RL) (name := "java/lang/IllegalArgumentException") hown [] ⟨0, 17, 20, 25⟩ [] htab (fun z hz => absurd hz List.not_mem_nil) (by decide +kernel) (by decide +kernel) (hts (.classLink RL 25 "java/lang/IllegalArgumentException") (by decide +kernel)) (va_Nw.use rfl (hG.1 (.castable "java/lang/IllegalArgumentException" "java/lang/IllegalArgumentException") (List.mem_of_getElem? (i := 12) rfl))) hce hcv hcl ?_
    refine lv_astore_n (lv' := [(3, .ref q9), (0, .ref h0), (1, .int p1), (2, .ref ho)]) hx hb dL_wideHas_20 rfl hl (by decide +kernel) rfl (fun ls hl => ?_)
    refine lv_iconst (v := 1) hx hb dL_wideHas_21 (by decide +kernel) ?_
    have he : o_L_wideHas f1 nv p1 = (1, nv) := by (rw [o_L_wideHas, if_neg c_2]) <;> rfl
    refine W.widen (k := 1) (n := 6) (by omega) (by omega) ?_
    exact W.iret (v := 1) hx hb hr (fun t ht hW => ⟨⟨_, (), rfl, (by (rw [he]) <;> rfl), (by rw [he]; exact ⟨by rw [ht]; exact hP, hD⟩)⟩, hS.F ht⟩) hS.2.2 dL_wideHas_22
  · skip
    obtain ⟨c_3, hw⟩ := hw
    have c_3 : (o_X2_wideHas f1 p1).1 = 0 := c_3
    replace hw : r_1 = b2i ((o_X2_wideHas f1 p1).2) := hw
    subst r_1
    have hP := xP_keep hP hk
    refine xz_eq (tgt := 13) hx hb dL_wideHas_6 (by decide +kernel) (fun c_4 => ?_) (fun c_4 => ?_)
    · skip
      refine lv_lconst (v := 0) hx hb dL_wideHas_13 (by decide +kernel) ?_
      refine va_putN (D := (dC, dI)) (ci := 5) (v := .long 0) (ty := .long) (C := RX3) (T := TX3) (N := 2) hx hb hts (by decide +kernel) tyX3 tyX3_ok nmX3 hown hK hP hD hS 9 rfl rfl 0 (by decide +kernel) (va_Nw.use rfl (hG.1 (.fieldLinkNest RL 13 "EdgefloatsLaw$Out" "n" "J" RL) (List.mem_of_getElem? (i := 6) rfl))) (fun _ h9 => h9) rfl (by decide +kernel) rfl rfl (Nat.le_of_ble_eq_true rfl) dL_wideHas_14 (fun H locs hP hD hS => ?_)
      have hP : va_P (dC, dI) xCl [(h0, eE h1 h2 kn), (h1, eR hw1 hc1 hb1 a1 r1), (hw1, eW true), (hc1, eA cy f1), (hb1, eA cy g1), (h2, eR hw2 hc2 hb2 a2 r2), (hw2, eW false), (hc2, eA cy f2), (hb2, eA cy g2), (ho, eO 0 sv)] H := hP
      have hD : va_D A [(h0, eE h1 h2 kn), (h1, eR hw1 hc1 hb1 a1 r1), (hw1, eW true), (hc1, eA cy f1), (hb1, eA cy g1), (h2, eR hw2 hc2 hb2 a2 r2), (hw2, eW false), (hc2, eA cy f2), (hb2, eA cy g2), (ho, eO 0 sv)] := hD
      refine lv_goto (tgt := 23) hx hb dL_wideHas_17 (by decide +kernel) ?_
      refine lv_iconst (v := 0) hx hb dL_wideHas_23 (by decide +kernel) ?_
      have he : o_L_wideHas f1 nv p1 = (0, 0) := by (rw [o_L_wideHas, if_pos c_3, if_neg c_4]) <;> rfl
      refine W.widen (k := 1) (n := 6) (by omega) (by omega) ?_
      exact W.iret (v := 0) hx hb hr (fun t ht hW => ⟨⟨_, (), rfl, (by (rw [he]) <;> rfl), (by rw [he]; exact ⟨by rw [ht]; exact hP, hD⟩)⟩, hS.F ht⟩) hS.2.2 dL_wideHas_24
    · skip
      refine lv_lconst (v := 1) hx hb dL_wideHas_9 (by decide +kernel) ?_
      refine lv_goto (tgt := 14) hx hb dL_wideHas_10 (by decide +kernel) ?_
      refine va_putN (D := (dC, dI)) (ci := 5) (v := .long 1) (ty := .long) (C := RX3) (T := TX3) (N := 2) hx hb hts (by decide +kernel) tyX3 tyX3_ok nmX3 hown hK hP hD hS 9 rfl rfl 0 (by decide +kernel) (va_Nw.use rfl (hG.1 (.fieldLinkNest RL 13 "EdgefloatsLaw$Out" "n" "J" RL) (List.mem_of_getElem? (i := 6) rfl))) (fun _ h9 => h9) rfl (by decide +kernel) rfl rfl (Nat.le_of_ble_eq_true rfl) dL_wideHas_14 (fun H locs hP hD hS => ?_)
      have hP : va_P (dC, dI) xCl [(h0, eE h1 h2 kn), (h1, eR hw1 hc1 hb1 a1 r1), (hw1, eW true), (hc1, eA cy f1), (hb1, eA cy g1), (h2, eR hw2 hc2 hb2 a2 r2), (hw2, eW false), (hc2, eA cy f2), (hb2, eA cy g2), (ho, eO 1 sv)] H := hP
      have hD : va_D A [(h0, eE h1 h2 kn), (h1, eR hw1 hc1 hb1 a1 r1), (hw1, eW true), (hc1, eA cy f1), (hb1, eA cy g1), (h2, eR hw2 hc2 hb2 a2 r2), (hw2, eW false), (hc2, eA cy f2), (hb2, eA cy g2), (ho, eO 1 sv)] := hD
      refine lv_goto (tgt := 23) hx hb dL_wideHas_17 (by decide +kernel) ?_
      refine lv_iconst (v := 0) hx hb dL_wideHas_23 (by decide +kernel) ?_
      have he : o_L_wideHas f1 nv p1 = (0, 1) := by (rw [o_L_wideHas, if_pos c_3, if_pos c_4]) <;> rfl
      refine W.widen (k := 1) (n := 6) (by omega) (by omega) ?_
      exact W.iret (v := 0) hx hb hr (fun t ht hW => ⟨⟨_, (), rfl, (by (rw [he]) <;> rfl), (by rw [he]; exact ⟨by rw [ht]; exact hP, hD⟩)⟩, hS.F ht⟩) hS.2.2 dL_wideHas_24
theorem cl_L_putNarrow_1 : ∀ w ∈ wsL_putNarrow_r1, w ∈ wsL_putNarrow := fun _ h => (List.mem_cons_of_mem _ (List.mem_append_left _ (List.mem_append_left _ (List.mem_append_left _ (List.mem_append_left _ (List.mem_append_left _ (List.mem_append_left _ h)))))))
theorem cl_L_putNarrow_2 : ∀ w ∈ wsL_putNarrow_r2, w ∈ wsL_putNarrow := fun _ h => (List.mem_cons_of_mem _ (List.mem_append_left _ (List.mem_append_left _ (List.mem_append_left _ (List.mem_append_left _ (List.mem_append_left _ (List.mem_append_right _ h)))))))
theorem cl_L_putNarrow_3 : ∀ w ∈ wsX30, w ∈ wsL_putNarrow := fun _ h => (List.mem_cons_of_mem _ (List.mem_append_left _ (List.mem_append_left _ (List.mem_append_left _ (List.mem_append_left _ (List.mem_append_right _ h))))))
theorem cl_L_putNarrow_4 : ∀ w ∈ wsX20, w ∈ wsL_putNarrow := fun _ h => (List.mem_cons_of_mem _ (List.mem_append_left _ (List.mem_append_left _ (List.mem_append_left _ (List.mem_append_right _ h)))))
theorem cl_L_putNarrow_5 : ∀ w ∈ wsX00, w ∈ wsL_putNarrow := fun _ h => (List.mem_cons_of_mem _ (List.mem_append_left _ (List.mem_append_left _ (List.mem_append_right _ h))))
theorem cl_L_putNarrow_6 : ∀ w ∈ wsX10, w ∈ wsL_putNarrow := fun _ h => (List.mem_cons_of_mem _ (List.mem_append_left _ (List.mem_append_right _ h)))
theorem cl_L_putNarrow_7 : ∀ w ∈ (vx_atS RX2 152 "java/lang/IndexOutOfBoundsException" ["java/lang/RuntimeException", "java/lang/Exception"]).filter goodWord, w ∈ wsL_putNarrow := fun _ h => (List.mem_cons_of_mem _ (List.mem_append_right _ h))
set_option maxRecDepth 20000 in
theorem ggL_putNarrow_X2_putNarrow : GoodIn wsL_putNarrow wsX2_putNarrow := goodIn_sub (List.forall_mem_cons.mpr ⟨(cl_L_putNarrow_1 _ (List.mem_of_getElem? (i := 5) rfl)), fun w h => (List.mem_append.mp h).elim ((fun w h => (List.mem_append.mp h).elim ((fun w h => (List.mem_append.mp h).elim ((fun w h => (List.mem_append.mp h).elim ((fun w h => (List.mem_append.mp h).elim ((List.forall_mem_cons.mpr ⟨(cl_L_putNarrow_1 _ (List.mem_of_getElem? (i := 6) rfl)), List.forall_mem_cons.mpr ⟨(cl_L_putNarrow_1 _ (List.mem_of_getElem? (i := 7) rfl)), List.forall_mem_cons.mpr ⟨(cl_L_putNarrow_1 _ (List.mem_of_getElem? (i := 8) rfl)), List.forall_mem_cons.mpr ⟨(cl_L_putNarrow_1 _ (List.mem_of_getElem? (i := 9) rfl)), List.forall_mem_cons.mpr ⟨(cl_L_putNarrow_1 _ (List.mem_of_getElem? (i := 10) rfl)), List.forall_mem_cons.mpr ⟨(cl_L_putNarrow_1 _ (List.mem_of_getElem? (i := 11) rfl)), List.forall_mem_cons.mpr ⟨(cl_L_putNarrow_1 _ (List.mem_of_getElem? (i := 12) rfl)), List.forall_mem_cons.mpr ⟨(cl_L_putNarrow_1 _ (List.mem_of_getElem? (i := 13) rfl)), List.forall_mem_cons.mpr ⟨(cl_L_putNarrow_1 _ (List.mem_of_getElem? (i := 14) rfl)), List.forall_mem_cons.mpr ⟨(cl_L_putNarrow_1 _ (List.mem_of_getElem? (i := 4) rfl)), List.forall_mem_cons.mpr ⟨(cl_L_putNarrow_1 _ (List.mem_of_getElem? (i := 15) rfl)), List.forall_mem_cons.mpr ⟨(cl_L_putNarrow_1 _ (List.mem_of_getElem? (i := 16) rfl)), List.forall_mem_cons.mpr ⟨(cl_L_putNarrow_1 _ (List.mem_of_getElem? (i := 17) rfl)), List.forall_mem_cons.mpr ⟨(cl_L_putNarrow_1 _ (List.mem_of_getElem? (i := 18) rfl)), List.forall_mem_cons.mpr ⟨(cl_L_putNarrow_1 _ (List.mem_of_getElem? (i := 19) rfl)), List.forall_mem_cons.mpr ⟨(cl_L_putNarrow_1 _ (List.mem_of_getElem? (i := 20) rfl)), List.forall_mem_cons.mpr ⟨(cl_L_putNarrow_1 _ (List.mem_of_getElem? (i := 21) rfl)), List.forall_mem_cons.mpr ⟨(cl_L_putNarrow_1 _ (List.mem_of_getElem? (i := 22) rfl)), List.forall_mem_cons.mpr ⟨(cl_L_putNarrow_1 _ (List.mem_of_getElem? (i := 23) rfl)), List.forall_mem_cons.mpr ⟨(cl_L_putNarrow_2 _ (List.mem_of_getElem? (i := 0) rfl)), List.forall_mem_cons.mpr ⟨(cl_L_putNarrow_2 _ (List.mem_of_getElem? (i := 1) rfl)), List.forall_mem_cons.mpr ⟨(cl_L_putNarrow_2 _ (List.mem_of_getElem? (i := 2) rfl)), List.forall_mem_cons.mpr ⟨(cl_L_putNarrow_2 _ (List.mem_of_getElem? (i := 3) rfl)), List.forall_mem_cons.mpr ⟨(cl_L_putNarrow_2 _ (List.mem_of_getElem? (i := 4) rfl)), fun _ h => absurd h List.not_mem_nil⟩⟩⟩⟩⟩⟩⟩⟩⟩⟩⟩⟩⟩⟩⟩⟩⟩⟩⟩⟩⟩⟩⟩⟩) w) ((List.forall_mem_cons.mpr ⟨(cl_L_putNarrow_2 _ (List.mem_of_getElem? (i := 5) rfl)), List.forall_mem_cons.mpr ⟨(cl_L_putNarrow_2 _ (List.mem_of_getElem? (i := 6) rfl)), List.forall_mem_cons.mpr ⟨(cl_L_putNarrow_2 _ (List.mem_of_getElem? (i := 7) rfl)), List.forall_mem_cons.mpr ⟨(cl_L_putNarrow_2 _ (List.mem_of_getElem? (i := 8) rfl)), List.forall_mem_cons.mpr ⟨(cl_L_putNarrow_2 _ (List.mem_of_getElem? (i := 9) rfl)), List.forall_mem_cons.mpr ⟨(cl_L_putNarrow_2 _ (List.mem_of_getElem? (i := 10) rfl)), List.forall_mem_cons.mpr ⟨(cl_L_putNarrow_2 _ (List.mem_of_getElem? (i := 11) rfl)), List.forall_mem_cons.mpr ⟨(cl_L_putNarrow_2 _ (List.mem_of_getElem? (i := 12) rfl)), List.forall_mem_cons.mpr ⟨(cl_L_putNarrow_2 _ (List.mem_of_getElem? (i := 13) rfl)), List.forall_mem_cons.mpr ⟨(cl_L_putNarrow_2 _ (List.mem_of_getElem? (i := 14) rfl)), List.forall_mem_cons.mpr ⟨(cl_L_putNarrow_2 _ (List.mem_of_getElem? (i := 15) rfl)), List.forall_mem_cons.mpr ⟨(cl_L_putNarrow_2 _ (List.mem_of_getElem? (i := 16) rfl)), List.forall_mem_cons.mpr ⟨(cl_L_putNarrow_2 _ (List.mem_of_getElem? (i := 17) rfl)), List.forall_mem_cons.mpr ⟨(cl_L_putNarrow_2 _ (List.mem_of_getElem? (i := 18) rfl)), List.forall_mem_cons.mpr ⟨(cl_L_putNarrow_2 _ (List.mem_of_getElem? (i := 19) rfl)), List.forall_mem_cons.mpr ⟨(cl_L_putNarrow_2 _ (List.mem_of_getElem? (i := 20) rfl)), fun _ h => absurd h List.not_mem_nil⟩⟩⟩⟩⟩⟩⟩⟩⟩⟩⟩⟩⟩⟩⟩⟩) w)) w) ((cl_L_putNarrow_4) w)) w) ((cl_L_putNarrow_5) w)) w) ((cl_L_putNarrow_6) w)) w) ((cl_L_putNarrow_7) w)⟩) (by decide +kernel)
set_option maxRecDepth 20000 in
theorem gL_putNarrow_X2_putNarrow : GoodIn wsL_putNarrow (wsV RL 102 RX2 yX2_putNarrow wsX2_putNarrow) := goodIn_app (goodIn_sub (List.forall_mem_cons.mpr ⟨(cl_L_putNarrow_1 _ (List.mem_of_getElem? (i := 1) rfl)), List.forall_mem_cons.mpr ⟨(cl_L_putNarrow_1 _ (List.mem_of_getElem? (i := 2) rfl)), List.forall_mem_cons.mpr ⟨(cl_L_putNarrow_1 _ (List.mem_of_getElem? (i := 3) rfl)), List.forall_mem_cons.mpr ⟨(cl_L_putNarrow_1 _ (List.mem_of_getElem? (i := 4) rfl)), fun _ h => absurd h List.not_mem_nil⟩⟩⟩⟩) (by decide +kernel)) ggL_putNarrow_X2_putNarrow
noncomputable def dz_p16_23 : List (Nat × Instr × Nat) := [(0, (.aload_n 3, 1)), (1, (.aload_n 0, 1)), (2, (.iload_n 1, 1)), (3, (.iload_n 2, 1)), (4, (.invokevirtual 102, 3)), (7, (.i2l, 1)), (8, (.putfield 13, 3)), (11, (.goto 7, 3)), (14, (.astore 4, 2)), (16, (.iconst 1, 1)), (17, (.ireturn, 1)), (18, (.iconst 0, 1)), (19, (.ireturn, 1))]
theorem dy_p16_23 : dz_ok cL_putNarrow dz_p16_23 = true := by decide +kernel
theorem dL_putNarrow_0 : decode cL_putNarrow 0 = .ok (.aload_n 3, 1) := dz_at (i := 0) dy_p16_23 rfl
theorem dL_putNarrow_1 : decode cL_putNarrow 1 = .ok (.aload_n 0, 1) := dz_at (i := 1) dy_p16_23 rfl
theorem dL_putNarrow_2 : decode cL_putNarrow 2 = .ok (.iload_n 1, 1) := dz_at (i := 2) dy_p16_23 rfl
theorem dL_putNarrow_3 : decode cL_putNarrow 3 = .ok (.iload_n 2, 1) := dz_at (i := 3) dy_p16_23 rfl
theorem dL_putNarrow_4 : decode cL_putNarrow 4 = .ok (.invokevirtual 102, 3) := dz_at (i := 4) dy_p16_23 rfl
theorem dL_putNarrow_7 : decode cL_putNarrow 7 = .ok (.i2l, 1) := dz_at (i := 5) dy_p16_23 rfl
theorem dL_putNarrow_8 : decode cL_putNarrow 8 = .ok (.putfield 13, 3) := dz_at (i := 6) dy_p16_23 rfl
theorem dL_putNarrow_11 : decode cL_putNarrow 11 = .ok (.goto 7, 3) := dz_at (i := 7) dy_p16_23 rfl
theorem dL_putNarrow_14 : decode cL_putNarrow 14 = .ok (.astore 4, 2) := dz_at (i := 8) dy_p16_23 rfl
theorem dL_putNarrow_16 : decode cL_putNarrow 16 = .ok (.iconst 1, 1) := dz_at (i := 9) dy_p16_23 rfl
theorem dL_putNarrow_17 : decode cL_putNarrow 17 = .ok (.ireturn, 1) := dz_at (i := 10) dy_p16_23 rfl
theorem dL_putNarrow_18 : decode cL_putNarrow 18 = .ok (.iconst 0, 1) := dz_at (i := 11) dy_p16_23 rfl
theorem dL_putNarrow_19 : decode cL_putNarrow 19 = .ok (.ireturn, 1) := dz_at (i := 12) dy_p16_23 rfl
noncomputable def o_L_putNarrow (a2 : Int32) (r2 : Int32) (f2 : Nat → Int64) (nv : Int64) (p1 : Int32) (p2 : Int32) : Int32 × Int32 × Int32 × (Nat → Int64) × Int64 :=
  if (o_X2_putNarrow a2 r2 f2 p1 p2).1 = 0 then (0, (o_X2_putNarrow a2 r2 f2 p1 p2).2.2.1, (o_X2_putNarrow a2 r2 f2 p1 p2).2.2.2.1, (o_X2_putNarrow a2 r2 f2 p1 p2).2.2.2.2, (((o_X2_putNarrow a2 r2 f2 p1 p2).2.1).toInt64))
  else (1, a2, r2, f2, nv)
set_option maxHeartbeats 4000000 in
set_option maxRecDepth 100000 in
theorem k_L_putNarrow (l : Launch) (hfl : l.flags = flags0) (dC : Nat → ClassId) (dI : Nat → Nat → Nat) (cy : ClassId) (h0 : Nat) (h1 : Nat) (hw1 : Nat) (hc1 : Nat) (hb1 : Nat) (h2 : Nat) (hw2 : Nat) (hc2 : Nat) (hb2 : Nat) (a1 : Int32) (r1 : Int32) (f1 : Nat → Int64) (g1 : Nat → Int64) (a2 : Int32) (r2 : Int32) (f2 : Nat → Int64) (g2 : Nat → Int64) (kn : Int32) (ho : Nat) (nv : Int64) (sv : Value) (sz : Nat) (N : Nat) (p1 : Int32) (p2 : Int32) : Met l yL_putNarrow wsL_putNarrow ({ frames := 9, cells := 1, slots := 6, locals := 165 }) (va_Pc [.ref h0, .int p1, .int p2, .ref ho] (xL (dC, dI) xCl [(h0, eE h1 h2 kn), (h1, eR hw1 hc1 hb1 a1 r1), (hw1, eW true), (hc1, eA cy f1), (hb1, eA cy g1), (h2, eR hw2 hc2 hb2 a2 r2), (hw2, eW false), (hc2, eA cy f2), (hb2, eA cy g2), (ho, eO nv sv)] [(cy, .long)] sz N)) (va_Qi (fun (r : Int32) (_ : Unit) => r = (o_L_putNarrow a2 r2 f2 nv p1 p2).1) (fun _ t => xW (dC, dI) xCl [(h0, eE h1 h2 kn), (h1, eR hw1 hc1 hb1 a1 r1), (hw1, eW true), (hc1, eA cy f1), (hb1, eA cy g1), (h2, eR hw2 hc2 hb2 (o_L_putNarrow a2 r2 f2 nv p1 p2).2.1 (o_L_putNarrow a2 r2 f2 nv p1 p2).2.2.1), (hw2, eW false), (hc2, eA cy (o_L_putNarrow a2 r2 f2 nv p1 p2).2.2.2.1), (hb2, eA cy g2), (ho, eO (o_L_putNarrow a2 r2 f2 nv p1 p2).2.2.2.2 sv)] (va_A [(h0, eE h1 h2 kn), (h1, eR hw1 hc1 hb1 a1 r1), (hw1, eW true), (hc1, eA cy f1), (hb1, eA cy g1), (h2, eR hw2 hc2 hb2 a2 r2), (hw2, eW false), (hc2, eA cy f2), (hb2, eA cy g2), (ho, eO nv sv)] sz) t) (va_A [(h0, eE h1 h2 kn), (h1, eR hw1 hc1 hb1 a1 r1), (hw1, eW true), (hc1, eA cy f1), (hb1, eA cy g1), (h2, eR hw2 hc2 hb2 a2 r2), (hw2, eW false), (hc2, eA cy f2), (hb2, eA cy g2), (ho, eO nv sv)] sz)) 1 6 (va_A [(h0, eE h1 h2 kn), (h1, eR hw1 hc1 hb1 a1 r1), (hw1, eW true), (hc1, eA cy f1), (hb1, eA cy g1), (h2, eR hw2 hc2 hb2 a2 r2), (hw2, eW false), (hc2, eA cy f2), (hb2, eA cy g2), (ho, eO nv sv)] sz) := by
  refine va_MetW (cc := cL_putNarrow) (maxL := 5) (ret := (some .int)) (by decide +kernel) rfl ?_
  intro p e s m args below meth c s₁ B hml hv
  obtain ⟨rfl, ⟨hsz, hP, hK, hD0, hN, hG⟩, hnc⟩ := hv
  have hx := B.exec
  have hb := B.bytes
  have hr := B.returns
  have hts := atoms_spec (ws := wsL_putNarrow) B.pre
  have hown : s.vm.findClass RL = some m.cls := findClass_of_methodNamed B.named
  have hlocks := B.notSynchronized
  have htab := vx_table (x := yL_putNarrow) B (hts _ List.mem_cons_self)
  subst hsz
  have hAN : ∀ q, va_A [(h0, eE h1 h2 kn), (h1, eR hw1 hc1 hb1 a1 r1), (hw1, eW true), (hc1, eA cy f1), (hb1, eA cy g1), (h2, eR hw2 hc2 hb2 a2 r2), (hw2, eW false), (hc2, eA cy f2), (hb2, eA cy g2), (ho, eO nv sv)] s.heap.size q → N ≤ q := xA_N hD0 hN
  have hD := hD0.self (sz := s.heap.size)
  generalize hAe : va_A [(h0, eE h1 h2 kn), (h1, eR hw1 hc1 hb1 a1 r1), (hw1, eW true), (hc1, eA cy f1), (hb1, eA cy g1), (h2, eR hw2 hc2 hb2 a2 r2), (hw2, eW false), (hc2, eA cy f2), (hb2, eA cy g2), (ho, eO nv sv)] s.heap.size = A at hD hAN ⊢
  have hA : ∀ q : Nat, s.heap.size ≤ q → A q := fun q h => by rw [← hAe]; exact Or.inr h
  have hS : va_S A s.heap s.heap [] := va_S.rf
  have hP : va_P (dC, dI) xCl [(h0, eE h1 h2 kn), (h1, eR hw1 hc1 hb1 a1 r1), (hw1, eW true), (hc1, eA cy f1), (hb1, eA cy g1), (h2, eR hw2 hc2 hb2 a2 r2), (hw2, eW false), (hc2, eA cy f2), (hb2, eA cy g2), (ho, eO nv sv)] s.heap := hP
  have hl := lv_entry ([.ref h0, .int p1, .int p2, .ref ho]) (n := 5) (Nat.le_of_ble_eq_true rfl)
  rw [lg_entry_eq]
  generalize (lg_sl ([.ref h0, .int p1, .int p2, .ref ho]) ++ List.replicate (5 - (lg_sl ([.ref h0, .int p1, .int p2, .ref ho])).length) Slot.unset).toArray = ls at hl ⊢
  have hl : lv_has ls 5 [(0, .ref h0), (1, .int p1), (2, .int p2), (3, .ref ho)] := hl
  refine lv_aload_n hx hb dL_putNarrow_0 rfl (lv_at hl 3 rfl) ?_
  refine lv_aload_n hx hb dL_putNarrow_1 rfl (lv_at hl 0 rfl) ?_
  refine lv_iload_n hx hb dL_putNarrow_2 rfl (lv_at hl 1 rfl) ?_
  refine lv_iload_n hx hb dL_putNarrow_3 rfl (lv_at hl 2 rfl) ?_
  have hPc := hP.sub (ws' := [(h0, eE h1 h2 kn), (h1, eR hw1 hc1 hb1 a1 r1), (hw1, eW true), (hc1, eA cy f1), (hb1, eA cy g1), (h2, eR hw2 hc2 hb2 a2 r2), (hw2, eW false), (hc2, eA cy f2), (hb2, eA cy g2)]) [0, 1, 2, 3, 4, 5, 6, 7, 8] rfl
  have hDc := hD.sub (ws' := [(h0, eE h1 h2 kn), (h1, eR hw1 hc1 hb1 a1 r1), (hw1, eW true), (hc1, eA cy f1), (hb1, eA cy g1), (h2, eR hw2 hc2 hb2 a2 r2), (hw2, eW false), (hc2, eA cy f2), (hb2, eA cy g2)]) [0, 1, 2, 3, 4, 5, 6, 7, 8] (by decide +kernel) rfl
  have hKc := hK.sub (tys' := [(cy, .long)]) [0] rfl
  have hFc := va_free (wc := [(h0, eE h1 h2 kn), (h1, eR hw1 hc1 hb1 a1 r1), (hw1, eW true), (hc1, eA cy f1), (hb1, eA cy g1), (h2, eR hw2 hc2 hb2 a2 r2), (hw2, eW false), (hc2, eA cy f2), (hb2, eA cy g2)]) hD hS hA [0, 1, 2, 3, 4, 5, 6, 7, 8] rfl
  refine vx_calli (vx_runV (As := [.int p1, .int p2]) (rest := [.ref ho]) ⟨hx, hb, hml, hown, hts⟩ (k_X2_putNarrow l hfl dC dI cy h0 h1 hw1 hc1 hb1 h2 hw2 hc2 hb2 a1 r1 f1 g1 a2 r2 f2 g2 kn s.heap.size N p1 p2) (cwV 2 hts gL_putNarrow_X2_putNarrow rfl rfl rfl (by decide +kernel) ⟨Nat.le_of_ble_eq_true rfl, Nat.le_of_ble_eq_true rfl⟩) (xM.preV hKc hPc hDc hAN (Nat.le_trans hN hS.1) (hG.kept hS hAN) (ci := 4) (q0 := 0) rfl rfl) rfl rfl hl.1 rfl (lv_room (Nat.le_of_ble_eq_true rfl)) dL_putNarrow_4 ⟨Nat.le_of_ble_eq_true rfl, Nat.le_of_ble_eq_true rfl⟩) hS (fun q _ h => hFc q h) hFc (fun q _ h => hFc q h) (fun E ce q9 u9 t H locs ht hvm hpx hbx hz hk hS hce hcv hcl => ?_) (fun r_1 u t H locs ht hvm hw hB hz hk hS => ?_)
  · have c_2 : ¬ (o_X2_putNarrow a2 r2 f2 p1 p2).1 = 0 := hpx
    obtain ⟨hbe, hP1, hD1⟩ := hbx
    rw [ht] at hP1
    obtain ⟨hP, hD⟩ := va_join (wr := [(ho, eO nv sv)]) (w1 := [(h0, eE h1 h2 kn), (h1, eR hw1 hc1 hb1 a1 r1), (hw1, eW true), (hc1, eA cy f1), (hb1, eA cy g1), (h2, eR hw2 hc2 hb2 a2 r2), (hw2, eW false), (hc2, eA cy f2), (hb2, eA cy g2)]) hP hD [0, 1, 2, 3, 4, 5, 6, 7, 8] [9] rfl rfl (by decide +kernel) (by decide +kernel) hk hFc hP1 hD1
    have hP := hP.sub (ws' := [(h0, eE h1 h2 kn), (h1, eR hw1 hc1 hb1 a1 r1), (hw1, eW true), (hc1, eA cy f1), (hb1, eA cy g1), (h2, eR hw2 hc2 hb2 a2 r2), (hw2, eW false), (hc2, eA cy f2), (hb2, eA cy g2), (ho, eO nv sv)]) [1, 2, 3, 4, 5, 6, 7, 8, 9, 0] rfl
    have hD := hD.sub (ws' := [(h0, eE h1 h2 kn), (h1, eR hw1 hc1 hb1 a1 r1), (hw1, eW true), (hc1, eA cy f1), (hb1, eA cy g1), (h2, eR hw2 hc2 hb2 a2 r2), (hw2, eW false), (hc2, eA cy f2), (hb2, eA cy g2), (ho, eO nv sv)]) [1, 2, 3, 4, 5, 6, 7, 8, 9, 0] (by decide +kernel) rfl
    have hE : E = "java/lang/IndexOutOfBoundsException" := hbe.trans (by rw [show (o_X2_putNarrow a2 r2 f2 p1 p2).1 = 1 from (xr_X2_putNarrow _ _ _ _ _ c_2)]; rfl)
    subst hE
    refine vx_catch (own := RL) (name := "java/lang/IndexOutOfBoundsException") hown [] ⟨0, 11, 14, 19⟩ [] htab (fun z hz => absurd hz List.not_mem_nil) (by decide +kernel) (by decide +kernel) (hts (.classLink RL 19 "java/lang/IndexOutOfBoundsException") (by decide +kernel)) (va_Nw.use rfl (hG.1 (.castable "java/lang/IndexOutOfBoundsException" "java/lang/IndexOutOfBoundsException") (List.mem_of_getElem? (i := 11) rfl))) hce hcv hcl ?_
    refine lv_astore (lv' := [(4, .ref q9), (0, .ref h0), (1, .int p1), (2, .int p2), (3, .ref ho)]) hx hb dL_putNarrow_14 hl (by decide +kernel) rfl (fun ls hl => ?_)
    refine lv_iconst (v := 1) hx hb dL_putNarrow_16 (by decide +kernel) ?_
    have he : o_L_putNarrow a2 r2 f2 nv p1 p2 = (1, a2, r2, f2, nv) := by (rw [o_L_putNarrow, if_neg c_2]) <;> rfl
    refine W.widen (k := 1) (n := 6) (by omega) (by omega) ?_
    exact W.iret (v := 1) hx hb hr (fun t ht hW => ⟨⟨_, (), rfl, (by (rw [he]) <;> rfl), (by rw [he]; exact ⟨by rw [ht]; exact hP, hD⟩)⟩, hS.F ht⟩) hS.2.2 dL_putNarrow_17
  · skip
    obtain ⟨c_3, hw⟩ := hw
    have c_3 : (o_X2_putNarrow a2 r2 f2 p1 p2).1 = 0 := c_3
    replace hw : r_1 = (o_X2_putNarrow a2 r2 f2 p1 p2).2.1 := hw
    subst r_1
    obtain ⟨hP1, hD1⟩ := hB
    rw [ht] at hP1
    obtain ⟨hP, hD⟩ := va_join (wr := [(ho, eO nv sv)]) (w1 := [(h0, eE h1 h2 kn), (h1, eR hw1 hc1 hb1 a1 r1), (hw1, eW true), (hc1, eA cy f1), (hb1, eA cy g1), (h2, eR hw2 hc2 hb2 (o_X2_putNarrow a2 r2 f2 p1 p2).2.2.1 (o_X2_putNarrow a2 r2 f2 p1 p2).2.2.2.1), (hw2, eW false), (hc2, eA cy (o_X2_putNarrow a2 r2 f2 p1 p2).2.2.2.2), (hb2, eA cy g2)]) hP hD [0, 1, 2, 3, 4, 5, 6, 7, 8] [9] rfl rfl (by decide +kernel) (by decide +kernel) hk hFc hP1 hD1
    have hP := hP.sub (ws' := [(h0, eE h1 h2 kn), (h1, eR hw1 hc1 hb1 a1 r1), (hw1, eW true), (hc1, eA cy f1), (hb1, eA cy g1), (h2, eR hw2 hc2 hb2 (o_X2_putNarrow a2 r2 f2 p1 p2).2.2.1 (o_X2_putNarrow a2 r2 f2 p1 p2).2.2.2.1), (hw2, eW false), (hc2, eA cy (o_X2_putNarrow a2 r2 f2 p1 p2).2.2.2.2), (hb2, eA cy g2), (ho, eO nv sv)]) [1, 2, 3, 4, 5, 6, 7, 8, 9, 0] rfl
    have hD := hD.sub (ws' := [(h0, eE h1 h2 kn), (h1, eR hw1 hc1 hb1 a1 r1), (hw1, eW true), (hc1, eA cy f1), (hb1, eA cy g1), (h2, eR hw2 hc2 hb2 (o_X2_putNarrow a2 r2 f2 p1 p2).2.2.1 (o_X2_putNarrow a2 r2 f2 p1 p2).2.2.2.1), (hw2, eW false), (hc2, eA cy (o_X2_putNarrow a2 r2 f2 p1 p2).2.2.2.2), (hb2, eA cy g2), (ho, eO nv sv)]) [1, 2, 3, 4, 5, 6, 7, 8, 9, 0] (by decide +kernel) rfl
    refine lv_i2l (v := (((o_X2_putNarrow a2 r2 f2 p1 p2).2.1).toInt64)) hx hb dL_putNarrow_7 rfl ?_
    refine va_putN (D := (dC, dI)) (ci := 5) (v := .long (((o_X2_putNarrow a2 r2 f2 p1 p2).2.1).toInt64)) (ty := .long) (C := RX3) (T := TX3) (N := 2) hx hb hts (by decide +kernel) tyX3 tyX3_ok nmX3 hown hK hP hD hS 9 rfl rfl 0 (by decide +kernel) (va_Nw.use rfl (hG.1 (.fieldLinkNest RL 13 "EdgefloatsLaw$Out" "n" "J" RL) (List.mem_of_getElem? (i := 6) rfl))) (fun _ h9 => h9) rfl (by decide +kernel) rfl rfl (Nat.le_of_ble_eq_true rfl) dL_putNarrow_8 (fun H locs hP hD hS => ?_)
    have hP : va_P (dC, dI) xCl [(h0, eE h1 h2 kn), (h1, eR hw1 hc1 hb1 a1 r1), (hw1, eW true), (hc1, eA cy f1), (hb1, eA cy g1), (h2, eR hw2 hc2 hb2 (o_X2_putNarrow a2 r2 f2 p1 p2).2.2.1 (o_X2_putNarrow a2 r2 f2 p1 p2).2.2.2.1), (hw2, eW false), (hc2, eA cy (o_X2_putNarrow a2 r2 f2 p1 p2).2.2.2.2), (hb2, eA cy g2), (ho, eO (((o_X2_putNarrow a2 r2 f2 p1 p2).2.1).toInt64) sv)] H := hP
    have hD : va_D A [(h0, eE h1 h2 kn), (h1, eR hw1 hc1 hb1 a1 r1), (hw1, eW true), (hc1, eA cy f1), (hb1, eA cy g1), (h2, eR hw2 hc2 hb2 (o_X2_putNarrow a2 r2 f2 p1 p2).2.2.1 (o_X2_putNarrow a2 r2 f2 p1 p2).2.2.2.1), (hw2, eW false), (hc2, eA cy (o_X2_putNarrow a2 r2 f2 p1 p2).2.2.2.2), (hb2, eA cy g2), (ho, eO (((o_X2_putNarrow a2 r2 f2 p1 p2).2.1).toInt64) sv)] := hD
    refine lv_goto (tgt := 18) hx hb dL_putNarrow_11 (by decide +kernel) ?_
    refine lv_iconst (v := 0) hx hb dL_putNarrow_18 (by decide +kernel) ?_
    have he : o_L_putNarrow a2 r2 f2 nv p1 p2 = (0, (o_X2_putNarrow a2 r2 f2 p1 p2).2.2.1, (o_X2_putNarrow a2 r2 f2 p1 p2).2.2.2.1, (o_X2_putNarrow a2 r2 f2 p1 p2).2.2.2.2, (((o_X2_putNarrow a2 r2 f2 p1 p2).2.1).toInt64)) := by (rw [o_L_putNarrow, if_pos c_3]) <;> rfl
    refine W.widen (k := 1) (n := 6) (by omega) (by omega) ?_
    exact W.iret (v := 0) hx hb hr (fun t ht hW => ⟨⟨_, (), rfl, (by (rw [he]) <;> rfl), (by rw [he]; exact ⟨by rw [ht]; exact hP, hD⟩)⟩, hS.F ht⟩) hS.2.2 dL_putNarrow_19
theorem cl_L_narrowQuarters_1 : ∀ w ∈ wsL_narrowQuarters_r1, w ∈ wsL_narrowQuarters := fun _ h => (List.mem_cons_of_mem _ (List.mem_append_left _ (List.mem_append_left _ (List.mem_append_left _ (List.mem_append_left _ (List.mem_append_left _ (List.mem_append_left _ (List.mem_append_left _ h))))))))
theorem cl_L_narrowQuarters_2 : ∀ w ∈ wsL_narrowQuarters_r2, w ∈ wsL_narrowQuarters := fun _ h => (List.mem_cons_of_mem _ (List.mem_append_left _ (List.mem_append_left _ (List.mem_append_left _ (List.mem_append_left _ (List.mem_append_left _ (List.mem_append_left _ (List.mem_append_right _ h))))))))
theorem cl_L_narrowQuarters_3 : ∀ w ∈ wsX30, w ∈ wsL_narrowQuarters := fun _ h => (List.mem_cons_of_mem _ (List.mem_append_left _ (List.mem_append_left _ (List.mem_append_left _ (List.mem_append_left _ (List.mem_append_left _ (List.mem_append_right _ h)))))))
theorem cl_L_narrowQuarters_4 : ∀ w ∈ wsX20, w ∈ wsL_narrowQuarters := fun _ h => (List.mem_cons_of_mem _ (List.mem_append_left _ (List.mem_append_left _ (List.mem_append_left _ (List.mem_append_left _ (List.mem_append_right _ h))))))
theorem cl_L_narrowQuarters_5 : ∀ w ∈ wsX00, w ∈ wsL_narrowQuarters := fun _ h => (List.mem_cons_of_mem _ (List.mem_append_left _ (List.mem_append_left _ (List.mem_append_left _ (List.mem_append_right _ h)))))
theorem cl_L_narrowQuarters_6 : ∀ w ∈ wsX10, w ∈ wsL_narrowQuarters := fun _ h => (List.mem_cons_of_mem _ (List.mem_append_left _ (List.mem_append_left _ (List.mem_append_right _ h))))
theorem cl_L_narrowQuarters_7 : ∀ w ∈ (vx_atS RX0 48 "java/lang/IllegalArgumentException" ["java/lang/RuntimeException", "java/lang/Exception"]).filter goodWord, w ∈ wsL_narrowQuarters := fun _ h => (List.mem_cons_of_mem _ (List.mem_append_left _ (List.mem_append_right _ h)))
theorem cl_L_narrowQuarters_8 : ∀ w ∈ (vx_atS RX2 152 "java/lang/IndexOutOfBoundsException" ["java/lang/RuntimeException", "java/lang/Exception"]).filter goodWord, w ∈ wsL_narrowQuarters := fun _ h => (List.mem_cons_of_mem _ (List.mem_append_right _ h))
set_option maxRecDepth 20000 in
theorem ggL_narrowQuarters_X2_narrowQuarters : GoodIn wsL_narrowQuarters wsX2_narrowQuarters := goodIn_sub (List.forall_mem_cons.mpr ⟨(cl_L_narrowQuarters_1 _ (List.mem_of_getElem? (i := 6) rfl)), fun w h => (List.mem_append.mp h).elim ((fun w h => (List.mem_append.mp h).elim ((fun w h => (List.mem_append.mp h).elim ((fun w h => (List.mem_append.mp h).elim ((fun w h => (List.mem_append.mp h).elim ((fun w h => (List.mem_append.mp h).elim ((List.forall_mem_cons.mpr ⟨(cl_L_narrowQuarters_1 _ (List.mem_of_getElem? (i := 7) rfl)), List.forall_mem_cons.mpr ⟨(cl_L_narrowQuarters_1 _ (List.mem_of_getElem? (i := 8) rfl)), List.forall_mem_cons.mpr ⟨(cl_L_narrowQuarters_1 _ (List.mem_of_getElem? (i := 9) rfl)), List.forall_mem_cons.mpr ⟨(cl_L_narrowQuarters_1 _ (List.mem_of_getElem? (i := 10) rfl)), List.forall_mem_cons.mpr ⟨(cl_L_narrowQuarters_1 _ (List.mem_of_getElem? (i := 11) rfl)), List.forall_mem_cons.mpr ⟨(cl_L_narrowQuarters_1 _ (List.mem_of_getElem? (i := 12) rfl)), List.forall_mem_cons.mpr ⟨(cl_L_narrowQuarters_1 _ (List.mem_of_getElem? (i := 13) rfl)), List.forall_mem_cons.mpr ⟨(cl_L_narrowQuarters_1 _ (List.mem_of_getElem? (i := 14) rfl)), List.forall_mem_cons.mpr ⟨(cl_L_narrowQuarters_1 _ (List.mem_of_getElem? (i := 15) rfl)), List.forall_mem_cons.mpr ⟨(cl_L_narrowQuarters_1 _ (List.mem_of_getElem? (i := 16) rfl)), List.forall_mem_cons.mpr ⟨(cl_L_narrowQuarters_1 _ (List.mem_of_getElem? (i := 5) rfl)), List.forall_mem_cons.mpr ⟨(cl_L_narrowQuarters_1 _ (List.mem_of_getElem? (i := 17) rfl)), List.forall_mem_cons.mpr ⟨(cl_L_narrowQuarters_1 _ (List.mem_of_getElem? (i := 18) rfl)), List.forall_mem_cons.mpr ⟨(cl_L_narrowQuarters_1 _ (List.mem_of_getElem? (i := 19) rfl)), List.forall_mem_cons.mpr ⟨(cl_L_narrowQuarters_1 _ (List.mem_of_getElem? (i := 20) rfl)), List.forall_mem_cons.mpr ⟨(cl_L_narrowQuarters_1 _ (List.mem_of_getElem? (i := 21) rfl)), List.forall_mem_cons.mpr ⟨(cl_L_narrowQuarters_1 _ (List.mem_of_getElem? (i := 22) rfl)), List.forall_mem_cons.mpr ⟨(cl_L_narrowQuarters_1 _ (List.mem_of_getElem? (i := 23) rfl)), List.forall_mem_cons.mpr ⟨(cl_L_narrowQuarters_2 _ (List.mem_of_getElem? (i := 0) rfl)), List.forall_mem_cons.mpr ⟨(cl_L_narrowQuarters_2 _ (List.mem_of_getElem? (i := 1) rfl)), List.forall_mem_cons.mpr ⟨(cl_L_narrowQuarters_2 _ (List.mem_of_getElem? (i := 2) rfl)), List.forall_mem_cons.mpr ⟨(cl_L_narrowQuarters_2 _ (List.mem_of_getElem? (i := 3) rfl)), List.forall_mem_cons.mpr ⟨(cl_L_narrowQuarters_2 _ (List.mem_of_getElem? (i := 4) rfl)), List.forall_mem_cons.mpr ⟨(cl_L_narrowQuarters_2 _ (List.mem_of_getElem? (i := 5) rfl)), fun _ h => absurd h List.not_mem_nil⟩⟩⟩⟩⟩⟩⟩⟩⟩⟩⟩⟩⟩⟩⟩⟩⟩⟩⟩⟩⟩⟩⟩⟩) w) ((List.forall_mem_cons.mpr ⟨(cl_L_narrowQuarters_2 _ (List.mem_of_getElem? (i := 6) rfl)), List.forall_mem_cons.mpr ⟨(cl_L_narrowQuarters_2 _ (List.mem_of_getElem? (i := 7) rfl)), List.forall_mem_cons.mpr ⟨(cl_L_narrowQuarters_2 _ (List.mem_of_getElem? (i := 8) rfl)), List.forall_mem_cons.mpr ⟨(cl_L_narrowQuarters_2 _ (List.mem_of_getElem? (i := 9) rfl)), List.forall_mem_cons.mpr ⟨(cl_L_narrowQuarters_2 _ (List.mem_of_getElem? (i := 10) rfl)), List.forall_mem_cons.mpr ⟨(cl_L_narrowQuarters_2 _ (List.mem_of_getElem? (i := 11) rfl)), List.forall_mem_cons.mpr ⟨(cl_L_narrowQuarters_2 _ (List.mem_of_getElem? (i := 12) rfl)), List.forall_mem_cons.mpr ⟨(cl_L_narrowQuarters_2 _ (List.mem_of_getElem? (i := 13) rfl)), List.forall_mem_cons.mpr ⟨(cl_L_narrowQuarters_2 _ (List.mem_of_getElem? (i := 14) rfl)), fun _ h => absurd h List.not_mem_nil⟩⟩⟩⟩⟩⟩⟩⟩⟩) w)) w) ((cl_L_narrowQuarters_4) w)) w) ((cl_L_narrowQuarters_5) w)) w) ((cl_L_narrowQuarters_6) w)) w) ((cl_L_narrowQuarters_7) w)) w) ((cl_L_narrowQuarters_8) w)⟩) (by decide +kernel)
set_option maxRecDepth 20000 in
theorem gL_narrowQuarters_X2_narrowQuarters : GoodIn wsL_narrowQuarters (wsV RL 105 RX2 yX2_narrowQuarters wsX2_narrowQuarters) := goodIn_app (goodIn_sub (List.forall_mem_cons.mpr ⟨(cl_L_narrowQuarters_1 _ (List.mem_of_getElem? (i := 2) rfl)), List.forall_mem_cons.mpr ⟨(cl_L_narrowQuarters_1 _ (List.mem_of_getElem? (i := 3) rfl)), List.forall_mem_cons.mpr ⟨(cl_L_narrowQuarters_1 _ (List.mem_of_getElem? (i := 4) rfl)), List.forall_mem_cons.mpr ⟨(cl_L_narrowQuarters_1 _ (List.mem_of_getElem? (i := 5) rfl)), fun _ h => absurd h List.not_mem_nil⟩⟩⟩⟩) (by decide +kernel)) ggL_narrowQuarters_X2_narrowQuarters
noncomputable def dz_p16_24 : List (Nat × Instr × Nat) := [(0, (.aload_n 3, 1)), (1, (.aload_n 0, 1)), (2, (.iload_n 1, 1)), (3, (.iload_n 2, 1)), (4, (.invokevirtual 105, 3)), (7, (.i2l, 1)), (8, (.putfield 13, 3)), (11, (.goto 11, 3)), (14, (.astore 4, 2)), (16, (.iconst 1, 1)), (17, (.ireturn, 1)), (18, (.astore 4, 2)), (20, (.iconst 2, 1)), (21, (.ireturn, 1)), (22, (.iconst 0, 1)), (23, (.ireturn, 1))]
theorem dy_p16_24 : dz_ok cL_narrowQuarters dz_p16_24 = true := by decide +kernel
theorem dL_narrowQuarters_0 : decode cL_narrowQuarters 0 = .ok (.aload_n 3, 1) := dz_at (i := 0) dy_p16_24 rfl
theorem dL_narrowQuarters_1 : decode cL_narrowQuarters 1 = .ok (.aload_n 0, 1) := dz_at (i := 1) dy_p16_24 rfl
theorem dL_narrowQuarters_2 : decode cL_narrowQuarters 2 = .ok (.iload_n 1, 1) := dz_at (i := 2) dy_p16_24 rfl
theorem dL_narrowQuarters_3 : decode cL_narrowQuarters 3 = .ok (.iload_n 2, 1) := dz_at (i := 3) dy_p16_24 rfl
theorem dL_narrowQuarters_4 : decode cL_narrowQuarters 4 = .ok (.invokevirtual 105, 3) := dz_at (i := 4) dy_p16_24 rfl
theorem dL_narrowQuarters_7 : decode cL_narrowQuarters 7 = .ok (.i2l, 1) := dz_at (i := 5) dy_p16_24 rfl
theorem dL_narrowQuarters_8 : decode cL_narrowQuarters 8 = .ok (.putfield 13, 3) := dz_at (i := 6) dy_p16_24 rfl
theorem dL_narrowQuarters_11 : decode cL_narrowQuarters 11 = .ok (.goto 11, 3) := dz_at (i := 7) dy_p16_24 rfl
theorem dL_narrowQuarters_14 : decode cL_narrowQuarters 14 = .ok (.astore 4, 2) := dz_at (i := 8) dy_p16_24 rfl
theorem dL_narrowQuarters_16 : decode cL_narrowQuarters 16 = .ok (.iconst 1, 1) := dz_at (i := 9) dy_p16_24 rfl
theorem dL_narrowQuarters_17 : decode cL_narrowQuarters 17 = .ok (.ireturn, 1) := dz_at (i := 10) dy_p16_24 rfl
theorem dL_narrowQuarters_18 : decode cL_narrowQuarters 18 = .ok (.astore 4, 2) := dz_at (i := 11) dy_p16_24 rfl
theorem dL_narrowQuarters_20 : decode cL_narrowQuarters 20 = .ok (.iconst 2, 1) := dz_at (i := 12) dy_p16_24 rfl
theorem dL_narrowQuarters_21 : decode cL_narrowQuarters 21 = .ok (.ireturn, 1) := dz_at (i := 13) dy_p16_24 rfl
theorem dL_narrowQuarters_22 : decode cL_narrowQuarters 22 = .ok (.iconst 0, 1) := dz_at (i := 14) dy_p16_24 rfl
theorem dL_narrowQuarters_23 : decode cL_narrowQuarters 23 = .ok (.ireturn, 1) := dz_at (i := 15) dy_p16_24 rfl
noncomputable def o_L_narrowQuarters (a2 : Int32) (f2 : Nat → Int64) (nv : Int64) (p1 : Int32) (p2 : Int32) : Int32 × Int32 × (Nat → Int64) × Int64 :=
  if (o_X2_narrowQuarters a2 f2 p1 p2).1 = 0 then (0, (o_X2_narrowQuarters a2 f2 p1 p2).2.2.1, (o_X2_narrowQuarters a2 f2 p1 p2).2.2.2, (((o_X2_narrowQuarters a2 f2 p1 p2).2.1).toInt64))
  else if (o_X2_narrowQuarters a2 f2 p1 p2).1 = 1 then (1, a2, f2, nv)
  else (2, a2, f2, nv)
set_option maxHeartbeats 4000000 in
set_option maxRecDepth 100000 in
theorem k_L_narrowQuarters (l : Launch) (hfl : l.flags = flags0) (dC : Nat → ClassId) (dI : Nat → Nat → Nat) (cy : ClassId) (h0 : Nat) (h1 : Nat) (hw1 : Nat) (hc1 : Nat) (hb1 : Nat) (h2 : Nat) (hw2 : Nat) (hc2 : Nat) (hb2 : Nat) (a1 : Int32) (r1 : Int32) (f1 : Nat → Int64) (g1 : Nat → Int64) (a2 : Int32) (r2 : Int32) (f2 : Nat → Int64) (g2 : Nat → Int64) (kn : Int32) (ho : Nat) (nv : Int64) (sv : Value) (sz : Nat) (N : Nat) (p1 : Int32) (p2 : Int32) : Met l yL_narrowQuarters wsL_narrowQuarters ({ frames := 9, cells := 2, slots := 12, locals := 164 }) (va_Pc [.ref h0, .int p1, .int p2, .ref ho] (xL (dC, dI) xCl [(h0, eE h1 h2 kn), (h1, eR hw1 hc1 hb1 a1 r1), (hw1, eW true), (hc1, eA cy f1), (hb1, eA cy g1), (h2, eR hw2 hc2 hb2 a2 r2), (hw2, eW false), (hc2, eA cy f2), (hb2, eA cy g2), (ho, eO nv sv)] [(cy, .long)] sz N)) (va_Qi (fun (r : Int32) (_ : Unit) => r = (o_L_narrowQuarters a2 f2 nv p1 p2).1) (fun _ t => xW (dC, dI) xCl [(h0, eE h1 h2 kn), (h1, eR hw1 hc1 hb1 a1 r1), (hw1, eW true), (hc1, eA cy f1), (hb1, eA cy g1), (h2, eR hw2 hc2 hb2 (o_L_narrowQuarters a2 f2 nv p1 p2).2.1 r2), (hw2, eW false), (hc2, eA cy (o_L_narrowQuarters a2 f2 nv p1 p2).2.2.1), (hb2, eA cy g2), (ho, eO (o_L_narrowQuarters a2 f2 nv p1 p2).2.2.2 sv)] (va_A [(h0, eE h1 h2 kn), (h1, eR hw1 hc1 hb1 a1 r1), (hw1, eW true), (hc1, eA cy f1), (hb1, eA cy g1), (h2, eR hw2 hc2 hb2 a2 r2), (hw2, eW false), (hc2, eA cy f2), (hb2, eA cy g2), (ho, eO nv sv)] sz) t) (va_A [(h0, eE h1 h2 kn), (h1, eR hw1 hc1 hb1 a1 r1), (hw1, eW true), (hc1, eA cy f1), (hb1, eA cy g1), (h2, eR hw2 hc2 hb2 a2 r2), (hw2, eW false), (hc2, eA cy f2), (hb2, eA cy g2), (ho, eO nv sv)] sz)) 2 12 (va_A [(h0, eE h1 h2 kn), (h1, eR hw1 hc1 hb1 a1 r1), (hw1, eW true), (hc1, eA cy f1), (hb1, eA cy g1), (h2, eR hw2 hc2 hb2 a2 r2), (hw2, eW false), (hc2, eA cy f2), (hb2, eA cy g2), (ho, eO nv sv)] sz) := by
  refine va_MetW (cc := cL_narrowQuarters) (maxL := 5) (ret := (some .int)) (by decide +kernel) rfl ?_
  intro p e s m args below meth c s₁ B hml hv
  obtain ⟨rfl, ⟨hsz, hP, hK, hD0, hN, hG⟩, hnc⟩ := hv
  have hx := B.exec
  have hb := B.bytes
  have hr := B.returns
  have hts := atoms_spec (ws := wsL_narrowQuarters) B.pre
  have hown : s.vm.findClass RL = some m.cls := findClass_of_methodNamed B.named
  have hlocks := B.notSynchronized
  have htab := vx_table (x := yL_narrowQuarters) B (hts _ List.mem_cons_self)
  subst hsz
  have hAN : ∀ q, va_A [(h0, eE h1 h2 kn), (h1, eR hw1 hc1 hb1 a1 r1), (hw1, eW true), (hc1, eA cy f1), (hb1, eA cy g1), (h2, eR hw2 hc2 hb2 a2 r2), (hw2, eW false), (hc2, eA cy f2), (hb2, eA cy g2), (ho, eO nv sv)] s.heap.size q → N ≤ q := xA_N hD0 hN
  have hD := hD0.self (sz := s.heap.size)
  generalize hAe : va_A [(h0, eE h1 h2 kn), (h1, eR hw1 hc1 hb1 a1 r1), (hw1, eW true), (hc1, eA cy f1), (hb1, eA cy g1), (h2, eR hw2 hc2 hb2 a2 r2), (hw2, eW false), (hc2, eA cy f2), (hb2, eA cy g2), (ho, eO nv sv)] s.heap.size = A at hD hAN ⊢
  have hA : ∀ q : Nat, s.heap.size ≤ q → A q := fun q h => by rw [← hAe]; exact Or.inr h
  have hS : va_S A s.heap s.heap [] := va_S.rf
  have hP : va_P (dC, dI) xCl [(h0, eE h1 h2 kn), (h1, eR hw1 hc1 hb1 a1 r1), (hw1, eW true), (hc1, eA cy f1), (hb1, eA cy g1), (h2, eR hw2 hc2 hb2 a2 r2), (hw2, eW false), (hc2, eA cy f2), (hb2, eA cy g2), (ho, eO nv sv)] s.heap := hP
  have hl := lv_entry ([.ref h0, .int p1, .int p2, .ref ho]) (n := 5) (Nat.le_of_ble_eq_true rfl)
  rw [lg_entry_eq]
  generalize (lg_sl ([.ref h0, .int p1, .int p2, .ref ho]) ++ List.replicate (5 - (lg_sl ([.ref h0, .int p1, .int p2, .ref ho])).length) Slot.unset).toArray = ls at hl ⊢
  have hl : lv_has ls 5 [(0, .ref h0), (1, .int p1), (2, .int p2), (3, .ref ho)] := hl
  refine lv_aload_n hx hb dL_narrowQuarters_0 rfl (lv_at hl 3 rfl) ?_
  refine lv_aload_n hx hb dL_narrowQuarters_1 rfl (lv_at hl 0 rfl) ?_
  refine lv_iload_n hx hb dL_narrowQuarters_2 rfl (lv_at hl 1 rfl) ?_
  refine lv_iload_n hx hb dL_narrowQuarters_3 rfl (lv_at hl 2 rfl) ?_
  have hPc := hP.sub (ws' := [(h0, eE h1 h2 kn), (h1, eR hw1 hc1 hb1 a1 r1), (hw1, eW true), (hc1, eA cy f1), (hb1, eA cy g1), (h2, eR hw2 hc2 hb2 a2 r2), (hw2, eW false), (hc2, eA cy f2), (hb2, eA cy g2)]) [0, 1, 2, 3, 4, 5, 6, 7, 8] rfl
  have hDc := hD.sub (ws' := [(h0, eE h1 h2 kn), (h1, eR hw1 hc1 hb1 a1 r1), (hw1, eW true), (hc1, eA cy f1), (hb1, eA cy g1), (h2, eR hw2 hc2 hb2 a2 r2), (hw2, eW false), (hc2, eA cy f2), (hb2, eA cy g2)]) [0, 1, 2, 3, 4, 5, 6, 7, 8] (by decide +kernel) rfl
  have hKc := hK.sub (tys' := [(cy, .long)]) [0] rfl
  have hFc := va_free (wc := [(h0, eE h1 h2 kn), (h1, eR hw1 hc1 hb1 a1 r1), (hw1, eW true), (hc1, eA cy f1), (hb1, eA cy g1), (h2, eR hw2 hc2 hb2 a2 r2), (hw2, eW false), (hc2, eA cy f2), (hb2, eA cy g2)]) hD hS hA [0, 1, 2, 3, 4, 5, 6, 7, 8] rfl
  refine vx_calli (vx_runV (As := [.int p1, .int p2]) (rest := [.ref ho]) ⟨hx, hb, hml, hown, hts⟩ (k_X2_narrowQuarters l hfl dC dI cy h0 h1 hw1 hc1 hb1 h2 hw2 hc2 hb2 a1 r1 f1 g1 a2 r2 f2 g2 kn s.heap.size N p1 p2) (cwV 2 hts gL_narrowQuarters_X2_narrowQuarters rfl rfl rfl (by decide +kernel) ⟨Nat.le_of_ble_eq_true rfl, Nat.le_of_ble_eq_true rfl⟩) (xM.preV hKc hPc hDc hAN (Nat.le_trans hN hS.1) (hG.kept hS hAN) (ci := 4) (q0 := 0) rfl rfl) rfl rfl hl.1 rfl (lv_room (Nat.le_of_ble_eq_true rfl)) dL_narrowQuarters_4 ⟨Nat.le_of_ble_eq_true rfl, Nat.le_of_ble_eq_true rfl⟩) hS (fun q _ h => hFc q h) hFc (fun q _ h => hFc q h) (fun E ce q9 u9 t H locs ht hvm hpx hbx hz hk hS hce hcv hcl => ?_) (fun r_1 u t H locs ht hvm hw hB hz hk hS => ?_)
  · have c_2 : ¬ (o_X2_narrowQuarters a2 f2 p1 p2).1 = 0 := hpx
    obtain ⟨hbe, hP1, hD1⟩ := hbx
    rw [ht] at hP1
    obtain ⟨hP, hD⟩ := va_join (wr := [(ho, eO nv sv)]) (w1 := [(h0, eE h1 h2 kn), (h1, eR hw1 hc1 hb1 a1 r1), (hw1, eW true), (hc1, eA cy f1), (hb1, eA cy g1), (h2, eR hw2 hc2 hb2 a2 r2), (hw2, eW false), (hc2, eA cy f2), (hb2, eA cy g2)]) hP hD [0, 1, 2, 3, 4, 5, 6, 7, 8] [9] rfl rfl (by decide +kernel) (by decide +kernel) hk hFc hP1 hD1
    have hP := hP.sub (ws' := [(h0, eE h1 h2 kn), (h1, eR hw1 hc1 hb1 a1 r1), (hw1, eW true), (hc1, eA cy f1), (hb1, eA cy g1), (h2, eR hw2 hc2 hb2 a2 r2), (hw2, eW false), (hc2, eA cy f2), (hb2, eA cy g2), (ho, eO nv sv)]) [1, 2, 3, 4, 5, 6, 7, 8, 9, 0] rfl
    have hD := hD.sub (ws' := [(h0, eE h1 h2 kn), (h1, eR hw1 hc1 hb1 a1 r1), (hw1, eW true), (hc1, eA cy f1), (hb1, eA cy g1), (h2, eR hw2 hc2 hb2 a2 r2), (hw2, eW false), (hc2, eA cy f2), (hb2, eA cy g2), (ho, eO nv sv)]) [1, 2, 3, 4, 5, 6, 7, 8, 9, 0] (by decide +kernel) rfl
    by_cases c_3 : (o_X2_narrowQuarters a2 f2 p1 p2).1 = 1
    · skip
      have hE : E = "java/lang/IndexOutOfBoundsException" := hbe.trans (by rw [c_3]; rfl)
      subst hE
      refine vx_catch (own := RL) (name := "java/lang/IndexOutOfBoundsException") hown [] ⟨0, 11, 14, 19⟩ [⟨0, 11, 18, 25⟩] htab (fun z hz => absurd hz List.not_mem_nil) (by decide +kernel) (by decide +kernel) (hts (.classLink RL 19 "java/lang/IndexOutOfBoundsException") (by decide +kernel)) (va_Nw.use rfl (hG.1 (.castable "java/lang/IndexOutOfBoundsException" "java/lang/IndexOutOfBoundsException") (List.mem_of_getElem? (i := 11) rfl))) hce hcv hcl ?_
      refine lv_astore (lv' := [(4, .ref q9), (0, .ref h0), (1, .int p1), (2, .int p2), (3, .ref ho)]) hx hb dL_narrowQuarters_14 hl (by decide +kernel) rfl (fun ls hl => ?_)
      refine lv_iconst (v := 1) hx hb dL_narrowQuarters_16 (by decide +kernel) ?_
      have he : o_L_narrowQuarters a2 f2 nv p1 p2 = (1, a2, f2, nv) := by (rw [o_L_narrowQuarters, if_neg c_2, if_pos c_3]) <;> rfl
      refine W.widen (k := 2) (n := 12) (by omega) (by omega) ?_
      exact W.iret (v := 1) hx hb hr (fun t ht hW => ⟨⟨_, (), rfl, (by (rw [he]) <;> rfl), (by rw [he]; exact ⟨by rw [ht]; exact hP, hD⟩)⟩, hS.F ht⟩) hS.2.2 dL_narrowQuarters_17
    · skip
      have hE : E = "java/lang/IllegalArgumentException" := hbe.trans (if_neg c_3)
      subst hE
      refine vx_catch (own := RL) (name := "java/lang/IllegalArgumentException") hown [⟨0, 11, 14, 19⟩] ⟨0, 11, 18, 25⟩ [] htab (fun z hz => by cases List.mem_singleton.mp hz; exact Or.inr ⟨by decide, "java/lang/IndexOutOfBoundsException", hts (.classLink RL 19 "java/lang/IndexOutOfBoundsException") (by decide +kernel), hnc⟩) (by decide +kernel) (by decide +kernel) (hts (.classLink RL 25 "java/lang/IllegalArgumentException") (by decide +kernel)) (va_Nw.use rfl (hG.1 (.castable "java/lang/IllegalArgumentException" "java/lang/IllegalArgumentException") (List.mem_of_getElem? (i := 12) rfl))) hce hcv hcl ?_
      refine lv_astore (lv' := [(4, .ref q9), (0, .ref h0), (1, .int p1), (2, .int p2), (3, .ref ho)]) hx hb dL_narrowQuarters_18 hl (by decide +kernel) rfl (fun ls hl => ?_)
      refine lv_iconst (v := 2) hx hb dL_narrowQuarters_20 (by decide +kernel) ?_
      have he : o_L_narrowQuarters a2 f2 nv p1 p2 = (2, a2, f2, nv) := by (rw [o_L_narrowQuarters, if_neg c_2, if_neg c_3]) <;> rfl
      refine W.widen (k := 2) (n := 12) (by omega) (by omega) ?_
      exact W.iret (v := 2) hx hb hr (fun t ht hW => ⟨⟨_, (), rfl, (by (rw [he]) <;> rfl), (by rw [he]; exact ⟨by rw [ht]; exact hP, hD⟩)⟩, hS.F ht⟩) hS.2.2 dL_narrowQuarters_21
  · skip
    obtain ⟨c_4, hw⟩ := hw
    have c_4 : (o_X2_narrowQuarters a2 f2 p1 p2).1 = 0 := c_4
    replace hw : r_1 = (o_X2_narrowQuarters a2 f2 p1 p2).2.1 := hw
    subst r_1
    obtain ⟨hP1, hD1⟩ := hB
    rw [ht] at hP1
    obtain ⟨hP, hD⟩ := va_join (wr := [(ho, eO nv sv)]) (w1 := [(h0, eE h1 h2 kn), (h1, eR hw1 hc1 hb1 a1 r1), (hw1, eW true), (hc1, eA cy f1), (hb1, eA cy g1), (h2, eR hw2 hc2 hb2 (o_X2_narrowQuarters a2 f2 p1 p2).2.2.1 r2), (hw2, eW false), (hc2, eA cy (o_X2_narrowQuarters a2 f2 p1 p2).2.2.2), (hb2, eA cy g2)]) hP hD [0, 1, 2, 3, 4, 5, 6, 7, 8] [9] rfl rfl (by decide +kernel) (by decide +kernel) hk hFc hP1 hD1
    have hP := hP.sub (ws' := [(h0, eE h1 h2 kn), (h1, eR hw1 hc1 hb1 a1 r1), (hw1, eW true), (hc1, eA cy f1), (hb1, eA cy g1), (h2, eR hw2 hc2 hb2 (o_X2_narrowQuarters a2 f2 p1 p2).2.2.1 r2), (hw2, eW false), (hc2, eA cy (o_X2_narrowQuarters a2 f2 p1 p2).2.2.2), (hb2, eA cy g2), (ho, eO nv sv)]) [1, 2, 3, 4, 5, 6, 7, 8, 9, 0] rfl
    have hD := hD.sub (ws' := [(h0, eE h1 h2 kn), (h1, eR hw1 hc1 hb1 a1 r1), (hw1, eW true), (hc1, eA cy f1), (hb1, eA cy g1), (h2, eR hw2 hc2 hb2 (o_X2_narrowQuarters a2 f2 p1 p2).2.2.1 r2), (hw2, eW false), (hc2, eA cy (o_X2_narrowQuarters a2 f2 p1 p2).2.2.2), (hb2, eA cy g2), (ho, eO nv sv)]) [1, 2, 3, 4, 5, 6, 7, 8, 9, 0] (by decide +kernel) rfl
    refine lv_i2l (v := (((o_X2_narrowQuarters a2 f2 p1 p2).2.1).toInt64)) hx hb dL_narrowQuarters_7 rfl ?_
    refine va_putN (D := (dC, dI)) (ci := 5) (v := .long (((o_X2_narrowQuarters a2 f2 p1 p2).2.1).toInt64)) (ty := .long) (C := RX3) (T := TX3) (N := 2) hx hb hts (by decide +kernel) tyX3 tyX3_ok nmX3 hown hK hP hD hS 9 rfl rfl 0 (by decide +kernel) (va_Nw.use rfl (hG.1 (.fieldLinkNest RL 13 "EdgefloatsLaw$Out" "n" "J" RL) (List.mem_of_getElem? (i := 6) rfl))) (fun _ h9 => h9) rfl (by decide +kernel) rfl rfl (Nat.le_of_ble_eq_true rfl) dL_narrowQuarters_8 (fun H locs hP hD hS => ?_)
    have hP : va_P (dC, dI) xCl [(h0, eE h1 h2 kn), (h1, eR hw1 hc1 hb1 a1 r1), (hw1, eW true), (hc1, eA cy f1), (hb1, eA cy g1), (h2, eR hw2 hc2 hb2 (o_X2_narrowQuarters a2 f2 p1 p2).2.2.1 r2), (hw2, eW false), (hc2, eA cy (o_X2_narrowQuarters a2 f2 p1 p2).2.2.2), (hb2, eA cy g2), (ho, eO (((o_X2_narrowQuarters a2 f2 p1 p2).2.1).toInt64) sv)] H := hP
    have hD : va_D A [(h0, eE h1 h2 kn), (h1, eR hw1 hc1 hb1 a1 r1), (hw1, eW true), (hc1, eA cy f1), (hb1, eA cy g1), (h2, eR hw2 hc2 hb2 (o_X2_narrowQuarters a2 f2 p1 p2).2.2.1 r2), (hw2, eW false), (hc2, eA cy (o_X2_narrowQuarters a2 f2 p1 p2).2.2.2), (hb2, eA cy g2), (ho, eO (((o_X2_narrowQuarters a2 f2 p1 p2).2.1).toInt64) sv)] := hD
    refine lv_goto (tgt := 22) hx hb dL_narrowQuarters_11 (by decide +kernel) ?_
    refine lv_iconst (v := 0) hx hb dL_narrowQuarters_22 (by decide +kernel) ?_
    have he : o_L_narrowQuarters a2 f2 nv p1 p2 = (0, (o_X2_narrowQuarters a2 f2 p1 p2).2.2.1, (o_X2_narrowQuarters a2 f2 p1 p2).2.2.2, (((o_X2_narrowQuarters a2 f2 p1 p2).2.1).toInt64)) := by (rw [o_L_narrowQuarters, if_pos c_4]) <;> rfl
    refine W.widen (k := 2) (n := 12) (by omega) (by omega) ?_
    exact W.iret (v := 0) hx hb hr (fun t ht hW => ⟨⟨_, (), rfl, (by (rw [he]) <;> rfl), (by rw [he]; exact ⟨by rw [ht]; exact hP, hD⟩)⟩, hS.F ht⟩) hS.2.2 dL_narrowQuarters_23
theorem cl_L_narrowKnown_1 : ∀ w ∈ wsL_narrowKnown_r1, w ∈ wsL_narrowKnown := fun _ h => (List.mem_cons_of_mem _ (List.mem_append_left _ (List.mem_append_left _ (List.mem_append_left _ (List.mem_append_left _ (List.mem_append_left _ (List.mem_append_left _ (List.mem_append_left _ h))))))))
theorem cl_L_narrowKnown_2 : ∀ w ∈ wsL_narrowKnown_r2, w ∈ wsL_narrowKnown := fun _ h => (List.mem_cons_of_mem _ (List.mem_append_left _ (List.mem_append_left _ (List.mem_append_left _ (List.mem_append_left _ (List.mem_append_left _ (List.mem_append_left _ (List.mem_append_right _ h))))))))
theorem cl_L_narrowKnown_3 : ∀ w ∈ wsX30, w ∈ wsL_narrowKnown := fun _ h => (List.mem_cons_of_mem _ (List.mem_append_left _ (List.mem_append_left _ (List.mem_append_left _ (List.mem_append_left _ (List.mem_append_left _ (List.mem_append_right _ h)))))))
theorem cl_L_narrowKnown_4 : ∀ w ∈ wsX20, w ∈ wsL_narrowKnown := fun _ h => (List.mem_cons_of_mem _ (List.mem_append_left _ (List.mem_append_left _ (List.mem_append_left _ (List.mem_append_left _ (List.mem_append_right _ h))))))
theorem cl_L_narrowKnown_5 : ∀ w ∈ wsX00, w ∈ wsL_narrowKnown := fun _ h => (List.mem_cons_of_mem _ (List.mem_append_left _ (List.mem_append_left _ (List.mem_append_left _ (List.mem_append_right _ h)))))
theorem cl_L_narrowKnown_6 : ∀ w ∈ wsX10, w ∈ wsL_narrowKnown := fun _ h => (List.mem_cons_of_mem _ (List.mem_append_left _ (List.mem_append_left _ (List.mem_append_right _ h))))
theorem cl_L_narrowKnown_7 : ∀ w ∈ (vx_atS RX2 152 "java/lang/IndexOutOfBoundsException" ["java/lang/RuntimeException", "java/lang/Exception"]).filter goodWord, w ∈ wsL_narrowKnown := fun _ h => (List.mem_cons_of_mem _ (List.mem_append_left _ (List.mem_append_right _ h)))
theorem cl_L_narrowKnown_8 : ∀ w ∈ (vx_atS RX2 159 "java/lang/IllegalArgumentException" ["java/lang/RuntimeException", "java/lang/Exception"]).filter goodWord, w ∈ wsL_narrowKnown := fun _ h => (List.mem_cons_of_mem _ (List.mem_append_right _ h))
set_option maxRecDepth 20000 in
theorem ggL_narrowKnown_X2_narrowKnown : GoodIn wsL_narrowKnown wsX2_narrowKnown := goodIn_sub (List.forall_mem_cons.mpr ⟨(cl_L_narrowKnown_1 _ (List.mem_of_getElem? (i := 6) rfl)), fun w h => (List.mem_append.mp h).elim ((fun w h => (List.mem_append.mp h).elim ((fun w h => (List.mem_append.mp h).elim ((fun w h => (List.mem_append.mp h).elim ((fun w h => (List.mem_append.mp h).elim ((fun w h => (List.mem_append.mp h).elim ((List.forall_mem_cons.mpr ⟨(cl_L_narrowKnown_1 _ (List.mem_of_getElem? (i := 7) rfl)), List.forall_mem_cons.mpr ⟨(cl_L_narrowKnown_1 _ (List.mem_of_getElem? (i := 8) rfl)), List.forall_mem_cons.mpr ⟨(cl_L_narrowKnown_1 _ (List.mem_of_getElem? (i := 9) rfl)), List.forall_mem_cons.mpr ⟨(cl_L_narrowKnown_1 _ (List.mem_of_getElem? (i := 10) rfl)), List.forall_mem_cons.mpr ⟨(cl_L_narrowKnown_1 _ (List.mem_of_getElem? (i := 11) rfl)), List.forall_mem_cons.mpr ⟨(cl_L_narrowKnown_1 _ (List.mem_of_getElem? (i := 12) rfl)), List.forall_mem_cons.mpr ⟨(cl_L_narrowKnown_1 _ (List.mem_of_getElem? (i := 13) rfl)), List.forall_mem_cons.mpr ⟨(cl_L_narrowKnown_1 _ (List.mem_of_getElem? (i := 14) rfl)), List.forall_mem_cons.mpr ⟨(cl_L_narrowKnown_1 _ (List.mem_of_getElem? (i := 5) rfl)), List.forall_mem_cons.mpr ⟨(cl_L_narrowKnown_1 _ (List.mem_of_getElem? (i := 15) rfl)), List.forall_mem_cons.mpr ⟨(cl_L_narrowKnown_1 _ (List.mem_of_getElem? (i := 16) rfl)), List.forall_mem_cons.mpr ⟨(cl_L_narrowKnown_1 _ (List.mem_of_getElem? (i := 17) rfl)), List.forall_mem_cons.mpr ⟨(cl_L_narrowKnown_1 _ (List.mem_of_getElem? (i := 18) rfl)), List.forall_mem_cons.mpr ⟨(cl_L_narrowKnown_1 _ (List.mem_of_getElem? (i := 19) rfl)), List.forall_mem_cons.mpr ⟨(cl_L_narrowKnown_1 _ (List.mem_of_getElem? (i := 20) rfl)), List.forall_mem_cons.mpr ⟨(cl_L_narrowKnown_1 _ (List.mem_of_getElem? (i := 21) rfl)), List.forall_mem_cons.mpr ⟨(cl_L_narrowKnown_1 _ (List.mem_of_getElem? (i := 22) rfl)), List.forall_mem_cons.mpr ⟨(cl_L_narrowKnown_1 _ (List.mem_of_getElem? (i := 23) rfl)), List.forall_mem_cons.mpr ⟨(cl_L_narrowKnown_2 _ (List.mem_of_getElem? (i := 0) rfl)), List.forall_mem_cons.mpr ⟨(cl_L_narrowKnown_2 _ (List.mem_of_getElem? (i := 1) rfl)), List.forall_mem_cons.mpr ⟨(cl_L_narrowKnown_2 _ (List.mem_of_getElem? (i := 2) rfl)), List.forall_mem_cons.mpr ⟨(cl_L_narrowKnown_2 _ (List.mem_of_getElem? (i := 3) rfl)), List.forall_mem_cons.mpr ⟨(cl_L_narrowKnown_2 _ (List.mem_of_getElem? (i := 4) rfl)), List.forall_mem_cons.mpr ⟨(cl_L_narrowKnown_2 _ (List.mem_of_getElem? (i := 5) rfl)), fun _ h => absurd h List.not_mem_nil⟩⟩⟩⟩⟩⟩⟩⟩⟩⟩⟩⟩⟩⟩⟩⟩⟩⟩⟩⟩⟩⟩⟩⟩) w) ((List.forall_mem_cons.mpr ⟨(cl_L_narrowKnown_2 _ (List.mem_of_getElem? (i := 6) rfl)), List.forall_mem_cons.mpr ⟨(cl_L_narrowKnown_2 _ (List.mem_of_getElem? (i := 7) rfl)), List.forall_mem_cons.mpr ⟨(cl_L_narrowKnown_2 _ (List.mem_of_getElem? (i := 8) rfl)), List.forall_mem_cons.mpr ⟨(cl_L_narrowKnown_2 _ (List.mem_of_getElem? (i := 9) rfl)), List.forall_mem_cons.mpr ⟨(cl_L_narrowKnown_2 _ (List.mem_of_getElem? (i := 10) rfl)), List.forall_mem_cons.mpr ⟨(cl_L_narrowKnown_2 _ (List.mem_of_getElem? (i := 11) rfl)), fun _ h => absurd h List.not_mem_nil⟩⟩⟩⟩⟩⟩) w)) w) ((cl_L_narrowKnown_4) w)) w) ((cl_L_narrowKnown_5) w)) w) ((cl_L_narrowKnown_6) w)) w) ((cl_L_narrowKnown_7) w)) w) ((cl_L_narrowKnown_8) w)⟩) (by decide +kernel)
set_option maxRecDepth 20000 in
theorem gL_narrowKnown_X2_narrowKnown : GoodIn wsL_narrowKnown (wsV RL 108 RX2 yX2_narrowKnown wsX2_narrowKnown) := goodIn_app (goodIn_sub (List.forall_mem_cons.mpr ⟨(cl_L_narrowKnown_1 _ (List.mem_of_getElem? (i := 2) rfl)), List.forall_mem_cons.mpr ⟨(cl_L_narrowKnown_1 _ (List.mem_of_getElem? (i := 3) rfl)), List.forall_mem_cons.mpr ⟨(cl_L_narrowKnown_1 _ (List.mem_of_getElem? (i := 4) rfl)), List.forall_mem_cons.mpr ⟨(cl_L_narrowKnown_1 _ (List.mem_of_getElem? (i := 5) rfl)), fun _ h => absurd h List.not_mem_nil⟩⟩⟩⟩) (by decide +kernel)) ggL_narrowKnown_X2_narrowKnown
noncomputable def dz_p16_25 : List (Nat × Instr × Nat) := [(0, (.aload_n 3, 1)), (1, (.aload_n 0, 1)), (2, (.iload_n 1, 1)), (3, (.iload_n 2, 1)), (4, (.invokevirtual 108, 3)), (7, (.i2l, 1)), (8, (.putfield 13, 3)), (11, (.goto 11, 3)), (14, (.astore 4, 2)), (16, (.iconst 1, 1)), (17, (.ireturn, 1)), (18, (.astore 4, 2)), (20, (.iconst 2, 1)), (21, (.ireturn, 1)), (22, (.iconst 0, 1)), (23, (.ireturn, 1))]
theorem dy_p16_25 : dz_ok cL_narrowKnown dz_p16_25 = true := by decide +kernel
theorem dL_narrowKnown_0 : decode cL_narrowKnown 0 = .ok (.aload_n 3, 1) := dz_at (i := 0) dy_p16_25 rfl
theorem dL_narrowKnown_1 : decode cL_narrowKnown 1 = .ok (.aload_n 0, 1) := dz_at (i := 1) dy_p16_25 rfl
theorem dL_narrowKnown_2 : decode cL_narrowKnown 2 = .ok (.iload_n 1, 1) := dz_at (i := 2) dy_p16_25 rfl
theorem dL_narrowKnown_3 : decode cL_narrowKnown 3 = .ok (.iload_n 2, 1) := dz_at (i := 3) dy_p16_25 rfl
theorem dL_narrowKnown_4 : decode cL_narrowKnown 4 = .ok (.invokevirtual 108, 3) := dz_at (i := 4) dy_p16_25 rfl
theorem dL_narrowKnown_7 : decode cL_narrowKnown 7 = .ok (.i2l, 1) := dz_at (i := 5) dy_p16_25 rfl
theorem dL_narrowKnown_8 : decode cL_narrowKnown 8 = .ok (.putfield 13, 3) := dz_at (i := 6) dy_p16_25 rfl
theorem dL_narrowKnown_11 : decode cL_narrowKnown 11 = .ok (.goto 11, 3) := dz_at (i := 7) dy_p16_25 rfl
theorem dL_narrowKnown_14 : decode cL_narrowKnown 14 = .ok (.astore 4, 2) := dz_at (i := 8) dy_p16_25 rfl
theorem dL_narrowKnown_16 : decode cL_narrowKnown 16 = .ok (.iconst 1, 1) := dz_at (i := 9) dy_p16_25 rfl
theorem dL_narrowKnown_17 : decode cL_narrowKnown 17 = .ok (.ireturn, 1) := dz_at (i := 10) dy_p16_25 rfl
theorem dL_narrowKnown_18 : decode cL_narrowKnown 18 = .ok (.astore 4, 2) := dz_at (i := 11) dy_p16_25 rfl
theorem dL_narrowKnown_20 : decode cL_narrowKnown 20 = .ok (.iconst 2, 1) := dz_at (i := 12) dy_p16_25 rfl
theorem dL_narrowKnown_21 : decode cL_narrowKnown 21 = .ok (.ireturn, 1) := dz_at (i := 13) dy_p16_25 rfl
theorem dL_narrowKnown_22 : decode cL_narrowKnown 22 = .ok (.iconst 0, 1) := dz_at (i := 14) dy_p16_25 rfl
theorem dL_narrowKnown_23 : decode cL_narrowKnown 23 = .ok (.ireturn, 1) := dz_at (i := 15) dy_p16_25 rfl
noncomputable def o_L_narrowKnown (a2 : Int32) (f2 : Nat → Int64) (nv : Int64) (p1 : Int32) (p2 : Int32) : Int32 × Int32 × (Nat → Int64) × Int64 :=
  if (o_X2_narrowKnown a2 f2 p1 p2).1 = 0 then (0, (o_X2_narrowKnown a2 f2 p1 p2).2.2.1, (o_X2_narrowKnown a2 f2 p1 p2).2.2.2, (((o_X2_narrowKnown a2 f2 p1 p2).2.1).toInt64))
  else if (o_X2_narrowKnown a2 f2 p1 p2).1 = 1 then (1, a2, f2, nv)
  else (2, a2, f2, nv)
set_option maxHeartbeats 4000000 in
set_option maxRecDepth 100000 in
theorem k_L_narrowKnown (l : Launch) (hfl : l.flags = flags0) (dC : Nat → ClassId) (dI : Nat → Nat → Nat) (cy : ClassId) (h0 : Nat) (h1 : Nat) (hw1 : Nat) (hc1 : Nat) (hb1 : Nat) (h2 : Nat) (hw2 : Nat) (hc2 : Nat) (hb2 : Nat) (a1 : Int32) (r1 : Int32) (f1 : Nat → Int64) (g1 : Nat → Int64) (a2 : Int32) (r2 : Int32) (f2 : Nat → Int64) (g2 : Nat → Int64) (kn : Int32) (ho : Nat) (nv : Int64) (sv : Value) (sz : Nat) (N : Nat) (p1 : Int32) (p2 : Int32) : Met l yL_narrowKnown wsL_narrowKnown ({ frames := 9, cells := 2, slots := 12, locals := 165 }) (va_Pc [.ref h0, .int p1, .int p2, .ref ho] (xL (dC, dI) xCl [(h0, eE h1 h2 kn), (h1, eR hw1 hc1 hb1 a1 r1), (hw1, eW true), (hc1, eA cy f1), (hb1, eA cy g1), (h2, eR hw2 hc2 hb2 a2 r2), (hw2, eW false), (hc2, eA cy f2), (hb2, eA cy g2), (ho, eO nv sv)] [(cy, .long)] sz N)) (va_Qi (fun (r : Int32) (_ : Unit) => r = (o_L_narrowKnown a2 f2 nv p1 p2).1) (fun _ t => xW (dC, dI) xCl [(h0, eE h1 h2 kn), (h1, eR hw1 hc1 hb1 a1 r1), (hw1, eW true), (hc1, eA cy f1), (hb1, eA cy g1), (h2, eR hw2 hc2 hb2 (o_L_narrowKnown a2 f2 nv p1 p2).2.1 r2), (hw2, eW false), (hc2, eA cy (o_L_narrowKnown a2 f2 nv p1 p2).2.2.1), (hb2, eA cy g2), (ho, eO (o_L_narrowKnown a2 f2 nv p1 p2).2.2.2 sv)] (va_A [(h0, eE h1 h2 kn), (h1, eR hw1 hc1 hb1 a1 r1), (hw1, eW true), (hc1, eA cy f1), (hb1, eA cy g1), (h2, eR hw2 hc2 hb2 a2 r2), (hw2, eW false), (hc2, eA cy f2), (hb2, eA cy g2), (ho, eO nv sv)] sz) t) (va_A [(h0, eE h1 h2 kn), (h1, eR hw1 hc1 hb1 a1 r1), (hw1, eW true), (hc1, eA cy f1), (hb1, eA cy g1), (h2, eR hw2 hc2 hb2 a2 r2), (hw2, eW false), (hc2, eA cy f2), (hb2, eA cy g2), (ho, eO nv sv)] sz)) 2 12 (va_A [(h0, eE h1 h2 kn), (h1, eR hw1 hc1 hb1 a1 r1), (hw1, eW true), (hc1, eA cy f1), (hb1, eA cy g1), (h2, eR hw2 hc2 hb2 a2 r2), (hw2, eW false), (hc2, eA cy f2), (hb2, eA cy g2), (ho, eO nv sv)] sz) := by
  refine va_MetW (cc := cL_narrowKnown) (maxL := 5) (ret := (some .int)) (by decide +kernel) rfl ?_
  intro p e s m args below meth c s₁ B hml hv
  obtain ⟨rfl, ⟨hsz, hP, hK, hD0, hN, hG⟩, hnc⟩ := hv
  have hx := B.exec
  have hb := B.bytes
  have hr := B.returns
  have hts := atoms_spec (ws := wsL_narrowKnown) B.pre
  have hown : s.vm.findClass RL = some m.cls := findClass_of_methodNamed B.named
  have hlocks := B.notSynchronized
  have htab := vx_table (x := yL_narrowKnown) B (hts _ List.mem_cons_self)
  subst hsz
  have hAN : ∀ q, va_A [(h0, eE h1 h2 kn), (h1, eR hw1 hc1 hb1 a1 r1), (hw1, eW true), (hc1, eA cy f1), (hb1, eA cy g1), (h2, eR hw2 hc2 hb2 a2 r2), (hw2, eW false), (hc2, eA cy f2), (hb2, eA cy g2), (ho, eO nv sv)] s.heap.size q → N ≤ q := xA_N hD0 hN
  have hD := hD0.self (sz := s.heap.size)
  generalize hAe : va_A [(h0, eE h1 h2 kn), (h1, eR hw1 hc1 hb1 a1 r1), (hw1, eW true), (hc1, eA cy f1), (hb1, eA cy g1), (h2, eR hw2 hc2 hb2 a2 r2), (hw2, eW false), (hc2, eA cy f2), (hb2, eA cy g2), (ho, eO nv sv)] s.heap.size = A at hD hAN ⊢
  have hA : ∀ q : Nat, s.heap.size ≤ q → A q := fun q h => by rw [← hAe]; exact Or.inr h
  have hS : va_S A s.heap s.heap [] := va_S.rf
  have hP : va_P (dC, dI) xCl [(h0, eE h1 h2 kn), (h1, eR hw1 hc1 hb1 a1 r1), (hw1, eW true), (hc1, eA cy f1), (hb1, eA cy g1), (h2, eR hw2 hc2 hb2 a2 r2), (hw2, eW false), (hc2, eA cy f2), (hb2, eA cy g2), (ho, eO nv sv)] s.heap := hP
  have hl := lv_entry ([.ref h0, .int p1, .int p2, .ref ho]) (n := 5) (Nat.le_of_ble_eq_true rfl)
  rw [lg_entry_eq]
  generalize (lg_sl ([.ref h0, .int p1, .int p2, .ref ho]) ++ List.replicate (5 - (lg_sl ([.ref h0, .int p1, .int p2, .ref ho])).length) Slot.unset).toArray = ls at hl ⊢
  have hl : lv_has ls 5 [(0, .ref h0), (1, .int p1), (2, .int p2), (3, .ref ho)] := hl
  refine lv_aload_n hx hb dL_narrowKnown_0 rfl (lv_at hl 3 rfl) ?_
  refine lv_aload_n hx hb dL_narrowKnown_1 rfl (lv_at hl 0 rfl) ?_
  refine lv_iload_n hx hb dL_narrowKnown_2 rfl (lv_at hl 1 rfl) ?_
  refine lv_iload_n hx hb dL_narrowKnown_3 rfl (lv_at hl 2 rfl) ?_
  have hPc := hP.sub (ws' := [(h0, eE h1 h2 kn), (h1, eR hw1 hc1 hb1 a1 r1), (hw1, eW true), (hc1, eA cy f1), (hb1, eA cy g1), (h2, eR hw2 hc2 hb2 a2 r2), (hw2, eW false), (hc2, eA cy f2), (hb2, eA cy g2)]) [0, 1, 2, 3, 4, 5, 6, 7, 8] rfl
  have hDc := hD.sub (ws' := [(h0, eE h1 h2 kn), (h1, eR hw1 hc1 hb1 a1 r1), (hw1, eW true), (hc1, eA cy f1), (hb1, eA cy g1), (h2, eR hw2 hc2 hb2 a2 r2), (hw2, eW false), (hc2, eA cy f2), (hb2, eA cy g2)]) [0, 1, 2, 3, 4, 5, 6, 7, 8] (by decide +kernel) rfl
  have hKc := hK.sub (tys' := [(cy, .long)]) [0] rfl
  have hFc := va_free (wc := [(h0, eE h1 h2 kn), (h1, eR hw1 hc1 hb1 a1 r1), (hw1, eW true), (hc1, eA cy f1), (hb1, eA cy g1), (h2, eR hw2 hc2 hb2 a2 r2), (hw2, eW false), (hc2, eA cy f2), (hb2, eA cy g2)]) hD hS hA [0, 1, 2, 3, 4, 5, 6, 7, 8] rfl
  refine vx_calli (vx_runV (As := [.int p1, .int p2]) (rest := [.ref ho]) ⟨hx, hb, hml, hown, hts⟩ (k_X2_narrowKnown l hfl dC dI cy h0 h1 hw1 hc1 hb1 h2 hw2 hc2 hb2 a1 r1 f1 g1 a2 r2 f2 g2 kn s.heap.size N p1 p2) (cwV 2 hts gL_narrowKnown_X2_narrowKnown rfl rfl rfl (by decide +kernel) ⟨Nat.le_of_ble_eq_true rfl, Nat.le_of_ble_eq_true rfl⟩) (xM.preV hKc hPc hDc hAN (Nat.le_trans hN hS.1) (hG.kept hS hAN) (ci := 4) (q0 := 0) rfl rfl) rfl rfl hl.1 rfl (lv_room (Nat.le_of_ble_eq_true rfl)) dL_narrowKnown_4 ⟨Nat.le_of_ble_eq_true rfl, Nat.le_of_ble_eq_true rfl⟩) hS (fun q _ h => hFc q h) hFc (fun q _ h => hFc q h) (fun E ce q9 u9 t H locs ht hvm hpx hbx hz hk hS hce hcv hcl => ?_) (fun r_1 u t H locs ht hvm hw hB hz hk hS => ?_)
  · have c_2 : ¬ (o_X2_narrowKnown a2 f2 p1 p2).1 = 0 := hpx
    obtain ⟨hbe, hP1, hD1⟩ := hbx
    rw [ht] at hP1
    obtain ⟨hP, hD⟩ := va_join (wr := [(ho, eO nv sv)]) (w1 := [(h0, eE h1 h2 kn), (h1, eR hw1 hc1 hb1 a1 r1), (hw1, eW true), (hc1, eA cy f1), (hb1, eA cy g1), (h2, eR hw2 hc2 hb2 a2 r2), (hw2, eW false), (hc2, eA cy f2), (hb2, eA cy g2)]) hP hD [0, 1, 2, 3, 4, 5, 6, 7, 8] [9] rfl rfl (by decide +kernel) (by decide +kernel) hk hFc hP1 hD1
    have hP := hP.sub (ws' := [(h0, eE h1 h2 kn), (h1, eR hw1 hc1 hb1 a1 r1), (hw1, eW true), (hc1, eA cy f1), (hb1, eA cy g1), (h2, eR hw2 hc2 hb2 a2 r2), (hw2, eW false), (hc2, eA cy f2), (hb2, eA cy g2), (ho, eO nv sv)]) [1, 2, 3, 4, 5, 6, 7, 8, 9, 0] rfl
    have hD := hD.sub (ws' := [(h0, eE h1 h2 kn), (h1, eR hw1 hc1 hb1 a1 r1), (hw1, eW true), (hc1, eA cy f1), (hb1, eA cy g1), (h2, eR hw2 hc2 hb2 a2 r2), (hw2, eW false), (hc2, eA cy f2), (hb2, eA cy g2), (ho, eO nv sv)]) [1, 2, 3, 4, 5, 6, 7, 8, 9, 0] (by decide +kernel) rfl
    by_cases c_3 : (o_X2_narrowKnown a2 f2 p1 p2).1 = 1
    · skip
      have hE : E = "java/lang/IndexOutOfBoundsException" := hbe.trans (by rw [c_3]; rfl)
      subst hE
      refine vx_catch (own := RL) (name := "java/lang/IndexOutOfBoundsException") hown [] ⟨0, 11, 14, 19⟩ [⟨0, 11, 18, 25⟩] htab (fun z hz => absurd hz List.not_mem_nil) (by decide +kernel) (by decide +kernel) (hts (.classLink RL 19 "java/lang/IndexOutOfBoundsException") (by decide +kernel)) (va_Nw.use rfl (hG.1 (.castable "java/lang/IndexOutOfBoundsException" "java/lang/IndexOutOfBoundsException") (List.mem_of_getElem? (i := 11) rfl))) hce hcv hcl ?_
      refine lv_astore (lv' := [(4, .ref q9), (0, .ref h0), (1, .int p1), (2, .int p2), (3, .ref ho)]) hx hb dL_narrowKnown_14 hl (by decide +kernel) rfl (fun ls hl => ?_)
      refine lv_iconst (v := 1) hx hb dL_narrowKnown_16 (by decide +kernel) ?_
      have he : o_L_narrowKnown a2 f2 nv p1 p2 = (1, a2, f2, nv) := by (rw [o_L_narrowKnown, if_neg c_2, if_pos c_3]) <;> rfl
      refine W.widen (k := 2) (n := 12) (by omega) (by omega) ?_
      exact W.iret (v := 1) hx hb hr (fun t ht hW => ⟨⟨_, (), rfl, (by (rw [he]) <;> rfl), (by rw [he]; exact ⟨by rw [ht]; exact hP, hD⟩)⟩, hS.F ht⟩) hS.2.2 dL_narrowKnown_17
    · skip
      have hE : E = "java/lang/IllegalArgumentException" := hbe.trans (if_neg c_3)
      subst hE
      refine vx_catch (own := RL) (name := "java/lang/IllegalArgumentException") hown [⟨0, 11, 14, 19⟩] ⟨0, 11, 18, 25⟩ [] htab (fun z hz => by cases List.mem_singleton.mp hz; exact Or.inr ⟨by decide, "java/lang/IndexOutOfBoundsException", hts (.classLink RL 19 "java/lang/IndexOutOfBoundsException") (by decide +kernel), hnc⟩) (by decide +kernel) (by decide +kernel) (hts (.classLink RL 25 "java/lang/IllegalArgumentException") (by decide +kernel)) (va_Nw.use rfl (hG.1 (.castable "java/lang/IllegalArgumentException" "java/lang/IllegalArgumentException") (List.mem_of_getElem? (i := 12) rfl))) hce hcv hcl ?_
      refine lv_astore (lv' := [(4, .ref q9), (0, .ref h0), (1, .int p1), (2, .int p2), (3, .ref ho)]) hx hb dL_narrowKnown_18 hl (by decide +kernel) rfl (fun ls hl => ?_)
      refine lv_iconst (v := 2) hx hb dL_narrowKnown_20 (by decide +kernel) ?_
      have he : o_L_narrowKnown a2 f2 nv p1 p2 = (2, a2, f2, nv) := by (rw [o_L_narrowKnown, if_neg c_2, if_neg c_3]) <;> rfl
      refine W.widen (k := 2) (n := 12) (by omega) (by omega) ?_
      exact W.iret (v := 2) hx hb hr (fun t ht hW => ⟨⟨_, (), rfl, (by (rw [he]) <;> rfl), (by rw [he]; exact ⟨by rw [ht]; exact hP, hD⟩)⟩, hS.F ht⟩) hS.2.2 dL_narrowKnown_21
  · skip
    obtain ⟨c_4, hw⟩ := hw
    have c_4 : (o_X2_narrowKnown a2 f2 p1 p2).1 = 0 := c_4
    replace hw : r_1 = (o_X2_narrowKnown a2 f2 p1 p2).2.1 := hw
    subst r_1
    obtain ⟨hP1, hD1⟩ := hB
    rw [ht] at hP1
    obtain ⟨hP, hD⟩ := va_join (wr := [(ho, eO nv sv)]) (w1 := [(h0, eE h1 h2 kn), (h1, eR hw1 hc1 hb1 a1 r1), (hw1, eW true), (hc1, eA cy f1), (hb1, eA cy g1), (h2, eR hw2 hc2 hb2 (o_X2_narrowKnown a2 f2 p1 p2).2.2.1 r2), (hw2, eW false), (hc2, eA cy (o_X2_narrowKnown a2 f2 p1 p2).2.2.2), (hb2, eA cy g2)]) hP hD [0, 1, 2, 3, 4, 5, 6, 7, 8] [9] rfl rfl (by decide +kernel) (by decide +kernel) hk hFc hP1 hD1
    have hP := hP.sub (ws' := [(h0, eE h1 h2 kn), (h1, eR hw1 hc1 hb1 a1 r1), (hw1, eW true), (hc1, eA cy f1), (hb1, eA cy g1), (h2, eR hw2 hc2 hb2 (o_X2_narrowKnown a2 f2 p1 p2).2.2.1 r2), (hw2, eW false), (hc2, eA cy (o_X2_narrowKnown a2 f2 p1 p2).2.2.2), (hb2, eA cy g2), (ho, eO nv sv)]) [1, 2, 3, 4, 5, 6, 7, 8, 9, 0] rfl
    have hD := hD.sub (ws' := [(h0, eE h1 h2 kn), (h1, eR hw1 hc1 hb1 a1 r1), (hw1, eW true), (hc1, eA cy f1), (hb1, eA cy g1), (h2, eR hw2 hc2 hb2 (o_X2_narrowKnown a2 f2 p1 p2).2.2.1 r2), (hw2, eW false), (hc2, eA cy (o_X2_narrowKnown a2 f2 p1 p2).2.2.2), (hb2, eA cy g2), (ho, eO nv sv)]) [1, 2, 3, 4, 5, 6, 7, 8, 9, 0] (by decide +kernel) rfl
    refine lv_i2l (v := (((o_X2_narrowKnown a2 f2 p1 p2).2.1).toInt64)) hx hb dL_narrowKnown_7 rfl ?_
    refine va_putN (D := (dC, dI)) (ci := 5) (v := .long (((o_X2_narrowKnown a2 f2 p1 p2).2.1).toInt64)) (ty := .long) (C := RX3) (T := TX3) (N := 2) hx hb hts (by decide +kernel) tyX3 tyX3_ok nmX3 hown hK hP hD hS 9 rfl rfl 0 (by decide +kernel) (va_Nw.use rfl (hG.1 (.fieldLinkNest RL 13 "EdgefloatsLaw$Out" "n" "J" RL) (List.mem_of_getElem? (i := 6) rfl))) (fun _ h9 => h9) rfl (by decide +kernel) rfl rfl (Nat.le_of_ble_eq_true rfl) dL_narrowKnown_8 (fun H locs hP hD hS => ?_)
    have hP : va_P (dC, dI) xCl [(h0, eE h1 h2 kn), (h1, eR hw1 hc1 hb1 a1 r1), (hw1, eW true), (hc1, eA cy f1), (hb1, eA cy g1), (h2, eR hw2 hc2 hb2 (o_X2_narrowKnown a2 f2 p1 p2).2.2.1 r2), (hw2, eW false), (hc2, eA cy (o_X2_narrowKnown a2 f2 p1 p2).2.2.2), (hb2, eA cy g2), (ho, eO (((o_X2_narrowKnown a2 f2 p1 p2).2.1).toInt64) sv)] H := hP
    have hD : va_D A [(h0, eE h1 h2 kn), (h1, eR hw1 hc1 hb1 a1 r1), (hw1, eW true), (hc1, eA cy f1), (hb1, eA cy g1), (h2, eR hw2 hc2 hb2 (o_X2_narrowKnown a2 f2 p1 p2).2.2.1 r2), (hw2, eW false), (hc2, eA cy (o_X2_narrowKnown a2 f2 p1 p2).2.2.2), (hb2, eA cy g2), (ho, eO (((o_X2_narrowKnown a2 f2 p1 p2).2.1).toInt64) sv)] := hD
    refine lv_goto (tgt := 22) hx hb dL_narrowKnown_11 (by decide +kernel) ?_
    refine lv_iconst (v := 0) hx hb dL_narrowKnown_22 (by decide +kernel) ?_
    have he : o_L_narrowKnown a2 f2 nv p1 p2 = (0, (o_X2_narrowKnown a2 f2 p1 p2).2.2.1, (o_X2_narrowKnown a2 f2 p1 p2).2.2.2, (((o_X2_narrowKnown a2 f2 p1 p2).2.1).toInt64)) := by (rw [o_L_narrowKnown, if_pos c_4]) <;> rfl
    refine W.widen (k := 2) (n := 12) (by omega) (by omega) ?_
    exact W.iret (v := 0) hx hb hr (fun t ht hW => ⟨⟨_, (), rfl, (by (rw [he]) <;> rfl), (by rw [he]; exact ⟨by rw [ht]; exact hP, hD⟩)⟩, hS.F ht⟩) hS.2.2 dL_narrowKnown_23
theorem cl_L_narrowCopy_1 : ∀ w ∈ [.classLink RL 19 "java/lang/IndexOutOfBoundsException", .methodLink RL 111 yX2_narrowCopy, .instanceMethod yX2_narrowCopy, .selects RX2 yX2_narrowCopy yX2_narrowCopy, .initialized RX2, .code yX2_narrowCopy cX2_narrowCopy 3 (some .int), .fieldLink RX2 25 "Edgefloats" "narrow" "LEdgefloats$Row;", .methodLink RX2 41 yX0_copy, .instanceMethod yX0_copy, .selects RX0 yX0_copy yX0_copy, .initialized RX0, .code yX0_copy cX0_copy 3 (some .int), .fieldLink RX0 15 "Edgefloats$Row" "cells" "[J", .static yX2_checkCell, .code yX2_checkCell cX2_checkCell 1 none, .classLink RX2 148 "java/lang/IndexOutOfBoundsException", .initialized "java/lang/IndexOutOfBoundsException", .methodLink RX0 36 yX0_place, .instanceMethod yX0_place, .selects RX0 yX0_place yX0_place, .code yX0_place cX0_place 5 (some .int), .fieldLink RX0 80 "Edgefloats$Row" "acts" "I"], w ∈ wsL_narrowCopy := fun _ h => (List.mem_cons_of_mem _ (List.mem_append_left _ (List.mem_append_left _ (List.mem_append_left _ (List.mem_append_left _ h)))))
theorem cl_L_narrowCopy_2 : ∀ w ∈ wsX30, w ∈ wsL_narrowCopy := fun _ h => (List.mem_cons_of_mem _ (List.mem_append_left _ (List.mem_append_left _ (List.mem_append_left _ (List.mem_append_right _ h)))))
theorem cl_L_narrowCopy_3 : ∀ w ∈ wsX20, w ∈ wsL_narrowCopy := fun _ h => (List.mem_cons_of_mem _ (List.mem_append_left _ (List.mem_append_left _ (List.mem_append_right _ h))))
theorem cl_L_narrowCopy_4 : ∀ w ∈ wsX00, w ∈ wsL_narrowCopy := fun _ h => (List.mem_cons_of_mem _ (List.mem_append_left _ (List.mem_append_right _ h)))
theorem cl_L_narrowCopy_5 : ∀ w ∈ (vx_atS RX2 152 "java/lang/IndexOutOfBoundsException" ["java/lang/RuntimeException", "java/lang/Exception"]).filter goodWord, w ∈ wsL_narrowCopy := fun _ h => (List.mem_cons_of_mem _ (List.mem_append_right _ h))
set_option maxRecDepth 20000 in
theorem ggL_narrowCopy_X2_narrowCopy : GoodIn wsL_narrowCopy wsX2_narrowCopy := goodIn_sub (List.forall_mem_cons.mpr ⟨(cl_L_narrowCopy_1 _ (List.mem_of_getElem? (i := 5) rfl)), fun w h => (List.mem_append.mp h).elim ((fun w h => (List.mem_append.mp h).elim ((fun w h => (List.mem_append.mp h).elim ((List.forall_mem_cons.mpr ⟨(cl_L_narrowCopy_1 _ (List.mem_of_getElem? (i := 6) rfl)), List.forall_mem_cons.mpr ⟨(cl_L_narrowCopy_1 _ (List.mem_of_getElem? (i := 7) rfl)), List.forall_mem_cons.mpr ⟨(cl_L_narrowCopy_1 _ (List.mem_of_getElem? (i := 8) rfl)), List.forall_mem_cons.mpr ⟨(cl_L_narrowCopy_1 _ (List.mem_of_getElem? (i := 9) rfl)), List.forall_mem_cons.mpr ⟨(cl_L_narrowCopy_1 _ (List.mem_of_getElem? (i := 10) rfl)), List.forall_mem_cons.mpr ⟨(cl_L_narrowCopy_1 _ (List.mem_of_getElem? (i := 11) rfl)), List.forall_mem_cons.mpr ⟨(cl_L_narrowCopy_1 _ (List.mem_of_getElem? (i := 12) rfl)), List.forall_mem_cons.mpr ⟨(cl_L_narrowCopy_1 _ (List.mem_of_getElem? (i := 13) rfl)), List.forall_mem_cons.mpr ⟨(cl_L_narrowCopy_1 _ (List.mem_of_getElem? (i := 4) rfl)), List.forall_mem_cons.mpr ⟨(cl_L_narrowCopy_1 _ (List.mem_of_getElem? (i := 14) rfl)), List.forall_mem_cons.mpr ⟨(cl_L_narrowCopy_1 _ (List.mem_of_getElem? (i := 15) rfl)), List.forall_mem_cons.mpr ⟨(cl_L_narrowCopy_1 _ (List.mem_of_getElem? (i := 16) rfl)), List.forall_mem_cons.mpr ⟨(cl_L_narrowCopy_1 _ (List.mem_of_getElem? (i := 17) rfl)), List.forall_mem_cons.mpr ⟨(cl_L_narrowCopy_1 _ (List.mem_of_getElem? (i := 18) rfl)), List.forall_mem_cons.mpr ⟨(cl_L_narrowCopy_1 _ (List.mem_of_getElem? (i := 19) rfl)), List.forall_mem_cons.mpr ⟨(cl_L_narrowCopy_1 _ (List.mem_of_getElem? (i := 20) rfl)), List.forall_mem_cons.mpr ⟨(cl_L_narrowCopy_1 _ (List.mem_of_getElem? (i := 21) rfl)), fun _ h => absurd h List.not_mem_nil⟩⟩⟩⟩⟩⟩⟩⟩⟩⟩⟩⟩⟩⟩⟩⟩⟩) w) ((cl_L_narrowCopy_3) w)) w) ((cl_L_narrowCopy_4) w)) w) ((cl_L_narrowCopy_5) w)⟩) (by decide +kernel)
set_option maxRecDepth 20000 in
theorem gL_narrowCopy_X2_narrowCopy : GoodIn wsL_narrowCopy (wsV RL 111 RX2 yX2_narrowCopy wsX2_narrowCopy) := goodIn_app (goodIn_sub (List.forall_mem_cons.mpr ⟨(cl_L_narrowCopy_1 _ (List.mem_of_getElem? (i := 1) rfl)), List.forall_mem_cons.mpr ⟨(cl_L_narrowCopy_1 _ (List.mem_of_getElem? (i := 2) rfl)), List.forall_mem_cons.mpr ⟨(cl_L_narrowCopy_1 _ (List.mem_of_getElem? (i := 3) rfl)), List.forall_mem_cons.mpr ⟨(cl_L_narrowCopy_1 _ (List.mem_of_getElem? (i := 4) rfl)), fun _ h => absurd h List.not_mem_nil⟩⟩⟩⟩) (by decide +kernel)) ggL_narrowCopy_X2_narrowCopy
noncomputable def dz_p16_26 : List (Nat × Instr × Nat) := [(0, (.aload_n 3, 1)), (1, (.aload_n 0, 1)), (2, (.iload_n 1, 1)), (3, (.iload_n 2, 1)), (4, (.invokevirtual 111, 3)), (7, (.i2l, 1)), (8, (.putfield 13, 3)), (11, (.goto 7, 3)), (14, (.astore 4, 2)), (16, (.iconst 1, 1)), (17, (.ireturn, 1)), (18, (.iconst 0, 1)), (19, (.ireturn, 1))]
theorem dy_p16_26 : dz_ok cL_narrowCopy dz_p16_26 = true := by decide +kernel
theorem dL_narrowCopy_0 : decode cL_narrowCopy 0 = .ok (.aload_n 3, 1) := dz_at (i := 0) dy_p16_26 rfl
theorem dL_narrowCopy_1 : decode cL_narrowCopy 1 = .ok (.aload_n 0, 1) := dz_at (i := 1) dy_p16_26 rfl
theorem dL_narrowCopy_2 : decode cL_narrowCopy 2 = .ok (.iload_n 1, 1) := dz_at (i := 2) dy_p16_26 rfl
theorem dL_narrowCopy_3 : decode cL_narrowCopy 3 = .ok (.iload_n 2, 1) := dz_at (i := 3) dy_p16_26 rfl
theorem dL_narrowCopy_4 : decode cL_narrowCopy 4 = .ok (.invokevirtual 111, 3) := dz_at (i := 4) dy_p16_26 rfl
theorem dL_narrowCopy_7 : decode cL_narrowCopy 7 = .ok (.i2l, 1) := dz_at (i := 5) dy_p16_26 rfl
theorem dL_narrowCopy_8 : decode cL_narrowCopy 8 = .ok (.putfield 13, 3) := dz_at (i := 6) dy_p16_26 rfl
theorem dL_narrowCopy_11 : decode cL_narrowCopy 11 = .ok (.goto 7, 3) := dz_at (i := 7) dy_p16_26 rfl
theorem dL_narrowCopy_14 : decode cL_narrowCopy 14 = .ok (.astore 4, 2) := dz_at (i := 8) dy_p16_26 rfl
theorem dL_narrowCopy_16 : decode cL_narrowCopy 16 = .ok (.iconst 1, 1) := dz_at (i := 9) dy_p16_26 rfl
theorem dL_narrowCopy_17 : decode cL_narrowCopy 17 = .ok (.ireturn, 1) := dz_at (i := 10) dy_p16_26 rfl
theorem dL_narrowCopy_18 : decode cL_narrowCopy 18 = .ok (.iconst 0, 1) := dz_at (i := 11) dy_p16_26 rfl
theorem dL_narrowCopy_19 : decode cL_narrowCopy 19 = .ok (.ireturn, 1) := dz_at (i := 12) dy_p16_26 rfl
noncomputable def o_L_narrowCopy (a2 : Int32) (f2 : Nat → Int64) (nv : Int64) (p1 : Int32) (p2 : Int32) : Int32 × Int32 × (Nat → Int64) × Int64 :=
  if (o_X2_narrowCopy a2 f2 p1 p2).1 = 0 then (0, (o_X2_narrowCopy a2 f2 p1 p2).2.2.1, (o_X2_narrowCopy a2 f2 p1 p2).2.2.2, (((o_X2_narrowCopy a2 f2 p1 p2).2.1).toInt64))
  else (1, a2, f2, nv)
set_option maxHeartbeats 4000000 in
set_option maxRecDepth 100000 in
theorem k_L_narrowCopy (l : Launch) (hfl : l.flags = flags0) (dC : Nat → ClassId) (dI : Nat → Nat → Nat) (cy : ClassId) (h0 : Nat) (h1 : Nat) (hw1 : Nat) (hc1 : Nat) (hb1 : Nat) (h2 : Nat) (hw2 : Nat) (hc2 : Nat) (hb2 : Nat) (a1 : Int32) (r1 : Int32) (f1 : Nat → Int64) (g1 : Nat → Int64) (a2 : Int32) (r2 : Int32) (f2 : Nat → Int64) (g2 : Nat → Int64) (kn : Int32) (ho : Nat) (nv : Int64) (sv : Value) (sz : Nat) (N : Nat) (p1 : Int32) (p2 : Int32) : Met l yL_narrowCopy wsL_narrowCopy ({ frames := 9, cells := 2, slots := 12, locals := 164 }) (va_Pc [.ref h0, .int p1, .int p2, .ref ho] (xL (dC, dI) xCl [(h0, eE h1 h2 kn), (h1, eR hw1 hc1 hb1 a1 r1), (hw1, eW true), (hc1, eA cy f1), (hb1, eA cy g1), (h2, eR hw2 hc2 hb2 a2 r2), (hw2, eW false), (hc2, eA cy f2), (hb2, eA cy g2), (ho, eO nv sv)] [(cy, .long)] sz N)) (va_Qi (fun (r : Int32) (_ : Unit) => r = (o_L_narrowCopy a2 f2 nv p1 p2).1) (fun _ t => xW (dC, dI) xCl [(h0, eE h1 h2 kn), (h1, eR hw1 hc1 hb1 a1 r1), (hw1, eW true), (hc1, eA cy f1), (hb1, eA cy g1), (h2, eR hw2 hc2 hb2 (o_L_narrowCopy a2 f2 nv p1 p2).2.1 r2), (hw2, eW false), (hc2, eA cy (o_L_narrowCopy a2 f2 nv p1 p2).2.2.1), (hb2, eA cy g2), (ho, eO (o_L_narrowCopy a2 f2 nv p1 p2).2.2.2 sv)] (va_A [(h0, eE h1 h2 kn), (h1, eR hw1 hc1 hb1 a1 r1), (hw1, eW true), (hc1, eA cy f1), (hb1, eA cy g1), (h2, eR hw2 hc2 hb2 a2 r2), (hw2, eW false), (hc2, eA cy f2), (hb2, eA cy g2), (ho, eO nv sv)] sz) t) (va_A [(h0, eE h1 h2 kn), (h1, eR hw1 hc1 hb1 a1 r1), (hw1, eW true), (hc1, eA cy f1), (hb1, eA cy g1), (h2, eR hw2 hc2 hb2 a2 r2), (hw2, eW false), (hc2, eA cy f2), (hb2, eA cy g2), (ho, eO nv sv)] sz)) 2 12 (va_A [(h0, eE h1 h2 kn), (h1, eR hw1 hc1 hb1 a1 r1), (hw1, eW true), (hc1, eA cy f1), (hb1, eA cy g1), (h2, eR hw2 hc2 hb2 a2 r2), (hw2, eW false), (hc2, eA cy f2), (hb2, eA cy g2), (ho, eO nv sv)] sz) := by
  refine va_MetW (cc := cL_narrowCopy) (maxL := 5) (ret := (some .int)) (by decide +kernel) rfl ?_
  intro p e s m args below meth c s₁ B hml hv
  obtain ⟨rfl, ⟨hsz, hP, hK, hD0, hN, hG⟩, hnc⟩ := hv
  have hx := B.exec
  have hb := B.bytes
  have hr := B.returns
  have hts := atoms_spec (ws := wsL_narrowCopy) B.pre
  have hown : s.vm.findClass RL = some m.cls := findClass_of_methodNamed B.named
  have hlocks := B.notSynchronized
  have htab := vx_table (x := yL_narrowCopy) B (hts _ List.mem_cons_self)
  subst hsz
  have hAN : ∀ q, va_A [(h0, eE h1 h2 kn), (h1, eR hw1 hc1 hb1 a1 r1), (hw1, eW true), (hc1, eA cy f1), (hb1, eA cy g1), (h2, eR hw2 hc2 hb2 a2 r2), (hw2, eW false), (hc2, eA cy f2), (hb2, eA cy g2), (ho, eO nv sv)] s.heap.size q → N ≤ q := xA_N hD0 hN
  have hD := hD0.self (sz := s.heap.size)
  generalize hAe : va_A [(h0, eE h1 h2 kn), (h1, eR hw1 hc1 hb1 a1 r1), (hw1, eW true), (hc1, eA cy f1), (hb1, eA cy g1), (h2, eR hw2 hc2 hb2 a2 r2), (hw2, eW false), (hc2, eA cy f2), (hb2, eA cy g2), (ho, eO nv sv)] s.heap.size = A at hD hAN ⊢
  have hA : ∀ q : Nat, s.heap.size ≤ q → A q := fun q h => by rw [← hAe]; exact Or.inr h
  have hS : va_S A s.heap s.heap [] := va_S.rf
  have hP : va_P (dC, dI) xCl [(h0, eE h1 h2 kn), (h1, eR hw1 hc1 hb1 a1 r1), (hw1, eW true), (hc1, eA cy f1), (hb1, eA cy g1), (h2, eR hw2 hc2 hb2 a2 r2), (hw2, eW false), (hc2, eA cy f2), (hb2, eA cy g2), (ho, eO nv sv)] s.heap := hP
  have hl := lv_entry ([.ref h0, .int p1, .int p2, .ref ho]) (n := 5) (Nat.le_of_ble_eq_true rfl)
  rw [lg_entry_eq]
  generalize (lg_sl ([.ref h0, .int p1, .int p2, .ref ho]) ++ List.replicate (5 - (lg_sl ([.ref h0, .int p1, .int p2, .ref ho])).length) Slot.unset).toArray = ls at hl ⊢
  have hl : lv_has ls 5 [(0, .ref h0), (1, .int p1), (2, .int p2), (3, .ref ho)] := hl
  refine lv_aload_n hx hb dL_narrowCopy_0 rfl (lv_at hl 3 rfl) ?_
  refine lv_aload_n hx hb dL_narrowCopy_1 rfl (lv_at hl 0 rfl) ?_
  refine lv_iload_n hx hb dL_narrowCopy_2 rfl (lv_at hl 1 rfl) ?_
  refine lv_iload_n hx hb dL_narrowCopy_3 rfl (lv_at hl 2 rfl) ?_
  have hPc := hP.sub (ws' := [(h0, eE h1 h2 kn), (h1, eR hw1 hc1 hb1 a1 r1), (hw1, eW true), (hc1, eA cy f1), (hb1, eA cy g1), (h2, eR hw2 hc2 hb2 a2 r2), (hw2, eW false), (hc2, eA cy f2), (hb2, eA cy g2)]) [0, 1, 2, 3, 4, 5, 6, 7, 8] rfl
  have hDc := hD.sub (ws' := [(h0, eE h1 h2 kn), (h1, eR hw1 hc1 hb1 a1 r1), (hw1, eW true), (hc1, eA cy f1), (hb1, eA cy g1), (h2, eR hw2 hc2 hb2 a2 r2), (hw2, eW false), (hc2, eA cy f2), (hb2, eA cy g2)]) [0, 1, 2, 3, 4, 5, 6, 7, 8] (by decide +kernel) rfl
  have hKc := hK.sub (tys' := [(cy, .long)]) [0] rfl
  have hFc := va_free (wc := [(h0, eE h1 h2 kn), (h1, eR hw1 hc1 hb1 a1 r1), (hw1, eW true), (hc1, eA cy f1), (hb1, eA cy g1), (h2, eR hw2 hc2 hb2 a2 r2), (hw2, eW false), (hc2, eA cy f2), (hb2, eA cy g2)]) hD hS hA [0, 1, 2, 3, 4, 5, 6, 7, 8] rfl
  refine vx_calli (vx_runV (As := [.int p1, .int p2]) (rest := [.ref ho]) ⟨hx, hb, hml, hown, hts⟩ (k_X2_narrowCopy l hfl dC dI cy h0 h1 hw1 hc1 hb1 h2 hw2 hc2 hb2 a1 r1 f1 g1 a2 r2 f2 g2 kn s.heap.size N p1 p2) (cwV 2 hts gL_narrowCopy_X2_narrowCopy rfl rfl rfl (by decide +kernel) ⟨Nat.le_of_ble_eq_true rfl, Nat.le_of_ble_eq_true rfl⟩) (xM.preV hKc hPc hDc hAN (Nat.le_trans hN hS.1) (hG.kept hS hAN) (ci := 4) (q0 := 0) rfl rfl) rfl rfl hl.1 rfl (lv_room (Nat.le_of_ble_eq_true rfl)) dL_narrowCopy_4 ⟨Nat.le_of_ble_eq_true rfl, Nat.le_of_ble_eq_true rfl⟩) hS (fun q _ h => hFc q h) hFc (fun q _ h => hFc q h) (fun E ce q9 u9 t H locs ht hvm hpx hbx hz hk hS hce hcv hcl => ?_) (fun r_1 u t H locs ht hvm hw hB hz hk hS => ?_)
  · have c_2 : ¬ (o_X2_narrowCopy a2 f2 p1 p2).1 = 0 := hpx
    obtain ⟨hbe, hP1, hD1⟩ := hbx
    rw [ht] at hP1
    obtain ⟨hP, hD⟩ := va_join (wr := [(ho, eO nv sv)]) (w1 := [(h0, eE h1 h2 kn), (h1, eR hw1 hc1 hb1 a1 r1), (hw1, eW true), (hc1, eA cy f1), (hb1, eA cy g1), (h2, eR hw2 hc2 hb2 a2 r2), (hw2, eW false), (hc2, eA cy f2), (hb2, eA cy g2)]) hP hD [0, 1, 2, 3, 4, 5, 6, 7, 8] [9] rfl rfl (by decide +kernel) (by decide +kernel) hk hFc hP1 hD1
    have hP := hP.sub (ws' := [(h0, eE h1 h2 kn), (h1, eR hw1 hc1 hb1 a1 r1), (hw1, eW true), (hc1, eA cy f1), (hb1, eA cy g1), (h2, eR hw2 hc2 hb2 a2 r2), (hw2, eW false), (hc2, eA cy f2), (hb2, eA cy g2), (ho, eO nv sv)]) [1, 2, 3, 4, 5, 6, 7, 8, 9, 0] rfl
    have hD := hD.sub (ws' := [(h0, eE h1 h2 kn), (h1, eR hw1 hc1 hb1 a1 r1), (hw1, eW true), (hc1, eA cy f1), (hb1, eA cy g1), (h2, eR hw2 hc2 hb2 a2 r2), (hw2, eW false), (hc2, eA cy f2), (hb2, eA cy g2), (ho, eO nv sv)]) [1, 2, 3, 4, 5, 6, 7, 8, 9, 0] (by decide +kernel) rfl
    have hE : E = "java/lang/IndexOutOfBoundsException" := hbe.trans (by rw [show (o_X2_narrowCopy a2 f2 p1 p2).1 = 1 from (xr_X2_narrowCopy _ _ _ _ c_2)]; rfl)
    subst hE
    refine vx_catch (own := RL) (name := "java/lang/IndexOutOfBoundsException") hown [] ⟨0, 11, 14, 19⟩ [] htab (fun z hz => absurd hz List.not_mem_nil) (by decide +kernel) (by decide +kernel) (hts (.classLink RL 19 "java/lang/IndexOutOfBoundsException") (by decide +kernel)) (va_Nw.use rfl (hG.1 (.castable "java/lang/IndexOutOfBoundsException" "java/lang/IndexOutOfBoundsException") (List.mem_of_getElem? (i := 11) rfl))) hce hcv hcl ?_
    refine lv_astore (lv' := [(4, .ref q9), (0, .ref h0), (1, .int p1), (2, .int p2), (3, .ref ho)]) hx hb dL_narrowCopy_14 hl (by decide +kernel) rfl (fun ls hl => ?_)
    refine lv_iconst (v := 1) hx hb dL_narrowCopy_16 (by decide +kernel) ?_
    have he : o_L_narrowCopy a2 f2 nv p1 p2 = (1, a2, f2, nv) := by (rw [o_L_narrowCopy, if_neg c_2]) <;> rfl
    refine W.widen (k := 2) (n := 12) (by omega) (by omega) ?_
    exact W.iret (v := 1) hx hb hr (fun t ht hW => ⟨⟨_, (), rfl, (by (rw [he]) <;> rfl), (by rw [he]; exact ⟨by rw [ht]; exact hP, hD⟩)⟩, hS.F ht⟩) hS.2.2 dL_narrowCopy_17
  · skip
    obtain ⟨c_3, hw⟩ := hw
    have c_3 : (o_X2_narrowCopy a2 f2 p1 p2).1 = 0 := c_3
    replace hw : r_1 = (o_X2_narrowCopy a2 f2 p1 p2).2.1 := hw
    subst r_1
    obtain ⟨hP1, hD1⟩ := hB
    rw [ht] at hP1
    obtain ⟨hP, hD⟩ := va_join (wr := [(ho, eO nv sv)]) (w1 := [(h0, eE h1 h2 kn), (h1, eR hw1 hc1 hb1 a1 r1), (hw1, eW true), (hc1, eA cy f1), (hb1, eA cy g1), (h2, eR hw2 hc2 hb2 (o_X2_narrowCopy a2 f2 p1 p2).2.2.1 r2), (hw2, eW false), (hc2, eA cy (o_X2_narrowCopy a2 f2 p1 p2).2.2.2), (hb2, eA cy g2)]) hP hD [0, 1, 2, 3, 4, 5, 6, 7, 8] [9] rfl rfl (by decide +kernel) (by decide +kernel) hk hFc hP1 hD1
    have hP := hP.sub (ws' := [(h0, eE h1 h2 kn), (h1, eR hw1 hc1 hb1 a1 r1), (hw1, eW true), (hc1, eA cy f1), (hb1, eA cy g1), (h2, eR hw2 hc2 hb2 (o_X2_narrowCopy a2 f2 p1 p2).2.2.1 r2), (hw2, eW false), (hc2, eA cy (o_X2_narrowCopy a2 f2 p1 p2).2.2.2), (hb2, eA cy g2), (ho, eO nv sv)]) [1, 2, 3, 4, 5, 6, 7, 8, 9, 0] rfl
    have hD := hD.sub (ws' := [(h0, eE h1 h2 kn), (h1, eR hw1 hc1 hb1 a1 r1), (hw1, eW true), (hc1, eA cy f1), (hb1, eA cy g1), (h2, eR hw2 hc2 hb2 (o_X2_narrowCopy a2 f2 p1 p2).2.2.1 r2), (hw2, eW false), (hc2, eA cy (o_X2_narrowCopy a2 f2 p1 p2).2.2.2), (hb2, eA cy g2), (ho, eO nv sv)]) [1, 2, 3, 4, 5, 6, 7, 8, 9, 0] (by decide +kernel) rfl
    refine lv_i2l (v := (((o_X2_narrowCopy a2 f2 p1 p2).2.1).toInt64)) hx hb dL_narrowCopy_7 rfl ?_
    refine va_putN (D := (dC, dI)) (ci := 5) (v := .long (((o_X2_narrowCopy a2 f2 p1 p2).2.1).toInt64)) (ty := .long) (C := RX3) (T := TX3) (N := 2) hx hb hts (by decide +kernel) tyX3 tyX3_ok nmX3 hown hK hP hD hS 9 rfl rfl 0 (by decide +kernel) (va_Nw.use rfl (hG.1 (.fieldLinkNest RL 13 "EdgefloatsLaw$Out" "n" "J" RL) (List.mem_of_getElem? (i := 6) rfl))) (fun _ h9 => h9) rfl (by decide +kernel) rfl rfl (Nat.le_of_ble_eq_true rfl) dL_narrowCopy_8 (fun H locs hP hD hS => ?_)
    have hP : va_P (dC, dI) xCl [(h0, eE h1 h2 kn), (h1, eR hw1 hc1 hb1 a1 r1), (hw1, eW true), (hc1, eA cy f1), (hb1, eA cy g1), (h2, eR hw2 hc2 hb2 (o_X2_narrowCopy a2 f2 p1 p2).2.2.1 r2), (hw2, eW false), (hc2, eA cy (o_X2_narrowCopy a2 f2 p1 p2).2.2.2), (hb2, eA cy g2), (ho, eO (((o_X2_narrowCopy a2 f2 p1 p2).2.1).toInt64) sv)] H := hP
    have hD : va_D A [(h0, eE h1 h2 kn), (h1, eR hw1 hc1 hb1 a1 r1), (hw1, eW true), (hc1, eA cy f1), (hb1, eA cy g1), (h2, eR hw2 hc2 hb2 (o_X2_narrowCopy a2 f2 p1 p2).2.2.1 r2), (hw2, eW false), (hc2, eA cy (o_X2_narrowCopy a2 f2 p1 p2).2.2.2), (hb2, eA cy g2), (ho, eO (((o_X2_narrowCopy a2 f2 p1 p2).2.1).toInt64) sv)] := hD
    refine lv_goto (tgt := 18) hx hb dL_narrowCopy_11 (by decide +kernel) ?_
    refine lv_iconst (v := 0) hx hb dL_narrowCopy_18 (by decide +kernel) ?_
    have he : o_L_narrowCopy a2 f2 nv p1 p2 = (0, (o_X2_narrowCopy a2 f2 p1 p2).2.2.1, (o_X2_narrowCopy a2 f2 p1 p2).2.2.2, (((o_X2_narrowCopy a2 f2 p1 p2).2.1).toInt64)) := by (rw [o_L_narrowCopy, if_pos c_3]) <;> rfl
    refine W.widen (k := 2) (n := 12) (by omega) (by omega) ?_
    exact W.iret (v := 0) hx hb hr (fun t ht hW => ⟨⟨_, (), rfl, (by (rw [he]) <;> rfl), (by rw [he]; exact ⟨by rw [ht]; exact hP, hD⟩)⟩, hS.F ht⟩) hS.2.2 dL_narrowCopy_19
theorem cl_L_narrowSwap_1 : ∀ w ∈ [.classLink RL 19 "java/lang/IndexOutOfBoundsException", .methodLink RL 114 yX2_narrowSwap, .instanceMethod yX2_narrowSwap, .selects RX2 yX2_narrowSwap yX2_narrowSwap, .initialized RX2, .code yX2_narrowSwap cX2_narrowSwap 3 (some .int), .fieldLink RX2 25 "Edgefloats" "narrow" "LEdgefloats$Row;", .methodLink RX2 44 yX0_swap, .instanceMethod yX0_swap, .selects RX0 yX0_swap yX0_swap, .initialized RX0, .code yX0_swap cX0_swap 5 (some .int), .fieldLink RX0 15 "Edgefloats$Row" "cells" "[J", .static yX2_checkCell, .code yX2_checkCell cX2_checkCell 1 none, .classLink RX2 148 "java/lang/IndexOutOfBoundsException", .initialized "java/lang/IndexOutOfBoundsException", .methodLink RX0 36 yX0_place, .instanceMethod yX0_place, .selects RX0 yX0_place yX0_place, .code yX0_place cX0_place 5 (some .int), .fieldLink RX0 80 "Edgefloats$Row" "acts" "I"], w ∈ wsL_narrowSwap := fun _ h => (List.mem_cons_of_mem _ (List.mem_append_left _ (List.mem_append_left _ (List.mem_append_left _ (List.mem_append_left _ h)))))
theorem cl_L_narrowSwap_2 : ∀ w ∈ wsX30, w ∈ wsL_narrowSwap := fun _ h => (List.mem_cons_of_mem _ (List.mem_append_left _ (List.mem_append_left _ (List.mem_append_left _ (List.mem_append_right _ h)))))
theorem cl_L_narrowSwap_3 : ∀ w ∈ wsX20, w ∈ wsL_narrowSwap := fun _ h => (List.mem_cons_of_mem _ (List.mem_append_left _ (List.mem_append_left _ (List.mem_append_right _ h))))
theorem cl_L_narrowSwap_4 : ∀ w ∈ wsX00, w ∈ wsL_narrowSwap := fun _ h => (List.mem_cons_of_mem _ (List.mem_append_left _ (List.mem_append_right _ h)))
theorem cl_L_narrowSwap_5 : ∀ w ∈ (vx_atS RX2 152 "java/lang/IndexOutOfBoundsException" ["java/lang/RuntimeException", "java/lang/Exception"]).filter goodWord, w ∈ wsL_narrowSwap := fun _ h => (List.mem_cons_of_mem _ (List.mem_append_right _ h))
set_option maxRecDepth 20000 in
theorem ggL_narrowSwap_X2_narrowSwap : GoodIn wsL_narrowSwap wsX2_narrowSwap := goodIn_sub (List.forall_mem_cons.mpr ⟨(cl_L_narrowSwap_1 _ (List.mem_of_getElem? (i := 5) rfl)), fun w h => (List.mem_append.mp h).elim ((fun w h => (List.mem_append.mp h).elim ((fun w h => (List.mem_append.mp h).elim ((List.forall_mem_cons.mpr ⟨(cl_L_narrowSwap_1 _ (List.mem_of_getElem? (i := 6) rfl)), List.forall_mem_cons.mpr ⟨(cl_L_narrowSwap_1 _ (List.mem_of_getElem? (i := 7) rfl)), List.forall_mem_cons.mpr ⟨(cl_L_narrowSwap_1 _ (List.mem_of_getElem? (i := 8) rfl)), List.forall_mem_cons.mpr ⟨(cl_L_narrowSwap_1 _ (List.mem_of_getElem? (i := 9) rfl)), List.forall_mem_cons.mpr ⟨(cl_L_narrowSwap_1 _ (List.mem_of_getElem? (i := 10) rfl)), List.forall_mem_cons.mpr ⟨(cl_L_narrowSwap_1 _ (List.mem_of_getElem? (i := 11) rfl)), List.forall_mem_cons.mpr ⟨(cl_L_narrowSwap_1 _ (List.mem_of_getElem? (i := 12) rfl)), List.forall_mem_cons.mpr ⟨(cl_L_narrowSwap_1 _ (List.mem_of_getElem? (i := 13) rfl)), List.forall_mem_cons.mpr ⟨(cl_L_narrowSwap_1 _ (List.mem_of_getElem? (i := 4) rfl)), List.forall_mem_cons.mpr ⟨(cl_L_narrowSwap_1 _ (List.mem_of_getElem? (i := 14) rfl)), List.forall_mem_cons.mpr ⟨(cl_L_narrowSwap_1 _ (List.mem_of_getElem? (i := 15) rfl)), List.forall_mem_cons.mpr ⟨(cl_L_narrowSwap_1 _ (List.mem_of_getElem? (i := 16) rfl)), List.forall_mem_cons.mpr ⟨(cl_L_narrowSwap_1 _ (List.mem_of_getElem? (i := 17) rfl)), List.forall_mem_cons.mpr ⟨(cl_L_narrowSwap_1 _ (List.mem_of_getElem? (i := 18) rfl)), List.forall_mem_cons.mpr ⟨(cl_L_narrowSwap_1 _ (List.mem_of_getElem? (i := 19) rfl)), List.forall_mem_cons.mpr ⟨(cl_L_narrowSwap_1 _ (List.mem_of_getElem? (i := 20) rfl)), List.forall_mem_cons.mpr ⟨(cl_L_narrowSwap_1 _ (List.mem_of_getElem? (i := 21) rfl)), fun _ h => absurd h List.not_mem_nil⟩⟩⟩⟩⟩⟩⟩⟩⟩⟩⟩⟩⟩⟩⟩⟩⟩) w) ((cl_L_narrowSwap_3) w)) w) ((cl_L_narrowSwap_4) w)) w) ((cl_L_narrowSwap_5) w)⟩) (by decide +kernel)
set_option maxRecDepth 20000 in
theorem gL_narrowSwap_X2_narrowSwap : GoodIn wsL_narrowSwap (wsV RL 114 RX2 yX2_narrowSwap wsX2_narrowSwap) := goodIn_app (goodIn_sub (List.forall_mem_cons.mpr ⟨(cl_L_narrowSwap_1 _ (List.mem_of_getElem? (i := 1) rfl)), List.forall_mem_cons.mpr ⟨(cl_L_narrowSwap_1 _ (List.mem_of_getElem? (i := 2) rfl)), List.forall_mem_cons.mpr ⟨(cl_L_narrowSwap_1 _ (List.mem_of_getElem? (i := 3) rfl)), List.forall_mem_cons.mpr ⟨(cl_L_narrowSwap_1 _ (List.mem_of_getElem? (i := 4) rfl)), fun _ h => absurd h List.not_mem_nil⟩⟩⟩⟩) (by decide +kernel)) ggL_narrowSwap_X2_narrowSwap
noncomputable def dz_p16_27 : List (Nat × Instr × Nat) := [(0, (.aload_n 3, 1)), (1, (.aload_n 0, 1)), (2, (.iload_n 1, 1)), (3, (.iload_n 2, 1)), (4, (.invokevirtual 114, 3)), (7, (.i2l, 1)), (8, (.putfield 13, 3)), (11, (.goto 7, 3)), (14, (.astore 4, 2)), (16, (.iconst 1, 1)), (17, (.ireturn, 1)), (18, (.iconst 0, 1)), (19, (.ireturn, 1))]
theorem dy_p16_27 : dz_ok cL_narrowSwap dz_p16_27 = true := by decide +kernel
theorem dL_narrowSwap_0 : decode cL_narrowSwap 0 = .ok (.aload_n 3, 1) := dz_at (i := 0) dy_p16_27 rfl
theorem dL_narrowSwap_1 : decode cL_narrowSwap 1 = .ok (.aload_n 0, 1) := dz_at (i := 1) dy_p16_27 rfl
theorem dL_narrowSwap_2 : decode cL_narrowSwap 2 = .ok (.iload_n 1, 1) := dz_at (i := 2) dy_p16_27 rfl
theorem dL_narrowSwap_3 : decode cL_narrowSwap 3 = .ok (.iload_n 2, 1) := dz_at (i := 3) dy_p16_27 rfl
theorem dL_narrowSwap_4 : decode cL_narrowSwap 4 = .ok (.invokevirtual 114, 3) := dz_at (i := 4) dy_p16_27 rfl
theorem dL_narrowSwap_7 : decode cL_narrowSwap 7 = .ok (.i2l, 1) := dz_at (i := 5) dy_p16_27 rfl
theorem dL_narrowSwap_8 : decode cL_narrowSwap 8 = .ok (.putfield 13, 3) := dz_at (i := 6) dy_p16_27 rfl
theorem dL_narrowSwap_11 : decode cL_narrowSwap 11 = .ok (.goto 7, 3) := dz_at (i := 7) dy_p16_27 rfl
theorem dL_narrowSwap_14 : decode cL_narrowSwap 14 = .ok (.astore 4, 2) := dz_at (i := 8) dy_p16_27 rfl
theorem dL_narrowSwap_16 : decode cL_narrowSwap 16 = .ok (.iconst 1, 1) := dz_at (i := 9) dy_p16_27 rfl
theorem dL_narrowSwap_17 : decode cL_narrowSwap 17 = .ok (.ireturn, 1) := dz_at (i := 10) dy_p16_27 rfl
theorem dL_narrowSwap_18 : decode cL_narrowSwap 18 = .ok (.iconst 0, 1) := dz_at (i := 11) dy_p16_27 rfl
theorem dL_narrowSwap_19 : decode cL_narrowSwap 19 = .ok (.ireturn, 1) := dz_at (i := 12) dy_p16_27 rfl
noncomputable def o_L_narrowSwap (a2 : Int32) (f2 : Nat → Int64) (nv : Int64) (p1 : Int32) (p2 : Int32) : Int32 × Int32 × (Nat → Int64) × Int64 :=
  if (o_X2_narrowSwap a2 f2 p1 p2).1 = 0 then (0, (o_X2_narrowSwap a2 f2 p1 p2).2.2.1, (o_X2_narrowSwap a2 f2 p1 p2).2.2.2, (((o_X2_narrowSwap a2 f2 p1 p2).2.1).toInt64))
  else (1, a2, f2, nv)
set_option maxHeartbeats 4000000 in
set_option maxRecDepth 100000 in
theorem k_L_narrowSwap (l : Launch) (hfl : l.flags = flags0) (dC : Nat → ClassId) (dI : Nat → Nat → Nat) (cy : ClassId) (h0 : Nat) (h1 : Nat) (hw1 : Nat) (hc1 : Nat) (hb1 : Nat) (h2 : Nat) (hw2 : Nat) (hc2 : Nat) (hb2 : Nat) (a1 : Int32) (r1 : Int32) (f1 : Nat → Int64) (g1 : Nat → Int64) (a2 : Int32) (r2 : Int32) (f2 : Nat → Int64) (g2 : Nat → Int64) (kn : Int32) (ho : Nat) (nv : Int64) (sv : Value) (sz : Nat) (N : Nat) (p1 : Int32) (p2 : Int32) : Met l yL_narrowSwap wsL_narrowSwap ({ frames := 9, cells := 2, slots := 12, locals := 166 }) (va_Pc [.ref h0, .int p1, .int p2, .ref ho] (xL (dC, dI) xCl [(h0, eE h1 h2 kn), (h1, eR hw1 hc1 hb1 a1 r1), (hw1, eW true), (hc1, eA cy f1), (hb1, eA cy g1), (h2, eR hw2 hc2 hb2 a2 r2), (hw2, eW false), (hc2, eA cy f2), (hb2, eA cy g2), (ho, eO nv sv)] [(cy, .long)] sz N)) (va_Qi (fun (r : Int32) (_ : Unit) => r = (o_L_narrowSwap a2 f2 nv p1 p2).1) (fun _ t => xW (dC, dI) xCl [(h0, eE h1 h2 kn), (h1, eR hw1 hc1 hb1 a1 r1), (hw1, eW true), (hc1, eA cy f1), (hb1, eA cy g1), (h2, eR hw2 hc2 hb2 (o_L_narrowSwap a2 f2 nv p1 p2).2.1 r2), (hw2, eW false), (hc2, eA cy (o_L_narrowSwap a2 f2 nv p1 p2).2.2.1), (hb2, eA cy g2), (ho, eO (o_L_narrowSwap a2 f2 nv p1 p2).2.2.2 sv)] (va_A [(h0, eE h1 h2 kn), (h1, eR hw1 hc1 hb1 a1 r1), (hw1, eW true), (hc1, eA cy f1), (hb1, eA cy g1), (h2, eR hw2 hc2 hb2 a2 r2), (hw2, eW false), (hc2, eA cy f2), (hb2, eA cy g2), (ho, eO nv sv)] sz) t) (va_A [(h0, eE h1 h2 kn), (h1, eR hw1 hc1 hb1 a1 r1), (hw1, eW true), (hc1, eA cy f1), (hb1, eA cy g1), (h2, eR hw2 hc2 hb2 a2 r2), (hw2, eW false), (hc2, eA cy f2), (hb2, eA cy g2), (ho, eO nv sv)] sz)) 2 12 (va_A [(h0, eE h1 h2 kn), (h1, eR hw1 hc1 hb1 a1 r1), (hw1, eW true), (hc1, eA cy f1), (hb1, eA cy g1), (h2, eR hw2 hc2 hb2 a2 r2), (hw2, eW false), (hc2, eA cy f2), (hb2, eA cy g2), (ho, eO nv sv)] sz) := by
  refine va_MetW (cc := cL_narrowSwap) (maxL := 5) (ret := (some .int)) (by decide +kernel) rfl ?_
  intro p e s m args below meth c s₁ B hml hv
  obtain ⟨rfl, ⟨hsz, hP, hK, hD0, hN, hG⟩, hnc⟩ := hv
  have hx := B.exec
  have hb := B.bytes
  have hr := B.returns
  have hts := atoms_spec (ws := wsL_narrowSwap) B.pre
  have hown : s.vm.findClass RL = some m.cls := findClass_of_methodNamed B.named
  have hlocks := B.notSynchronized
  have htab := vx_table (x := yL_narrowSwap) B (hts _ List.mem_cons_self)
  subst hsz
  have hAN : ∀ q, va_A [(h0, eE h1 h2 kn), (h1, eR hw1 hc1 hb1 a1 r1), (hw1, eW true), (hc1, eA cy f1), (hb1, eA cy g1), (h2, eR hw2 hc2 hb2 a2 r2), (hw2, eW false), (hc2, eA cy f2), (hb2, eA cy g2), (ho, eO nv sv)] s.heap.size q → N ≤ q := xA_N hD0 hN
  have hD := hD0.self (sz := s.heap.size)
  generalize hAe : va_A [(h0, eE h1 h2 kn), (h1, eR hw1 hc1 hb1 a1 r1), (hw1, eW true), (hc1, eA cy f1), (hb1, eA cy g1), (h2, eR hw2 hc2 hb2 a2 r2), (hw2, eW false), (hc2, eA cy f2), (hb2, eA cy g2), (ho, eO nv sv)] s.heap.size = A at hD hAN ⊢
  have hA : ∀ q : Nat, s.heap.size ≤ q → A q := fun q h => by rw [← hAe]; exact Or.inr h
  have hS : va_S A s.heap s.heap [] := va_S.rf
  have hP : va_P (dC, dI) xCl [(h0, eE h1 h2 kn), (h1, eR hw1 hc1 hb1 a1 r1), (hw1, eW true), (hc1, eA cy f1), (hb1, eA cy g1), (h2, eR hw2 hc2 hb2 a2 r2), (hw2, eW false), (hc2, eA cy f2), (hb2, eA cy g2), (ho, eO nv sv)] s.heap := hP
  have hl := lv_entry ([.ref h0, .int p1, .int p2, .ref ho]) (n := 5) (Nat.le_of_ble_eq_true rfl)
  rw [lg_entry_eq]
  generalize (lg_sl ([.ref h0, .int p1, .int p2, .ref ho]) ++ List.replicate (5 - (lg_sl ([.ref h0, .int p1, .int p2, .ref ho])).length) Slot.unset).toArray = ls at hl ⊢
  have hl : lv_has ls 5 [(0, .ref h0), (1, .int p1), (2, .int p2), (3, .ref ho)] := hl
  refine lv_aload_n hx hb dL_narrowSwap_0 rfl (lv_at hl 3 rfl) ?_
  refine lv_aload_n hx hb dL_narrowSwap_1 rfl (lv_at hl 0 rfl) ?_
  refine lv_iload_n hx hb dL_narrowSwap_2 rfl (lv_at hl 1 rfl) ?_
  refine lv_iload_n hx hb dL_narrowSwap_3 rfl (lv_at hl 2 rfl) ?_
  have hPc := hP.sub (ws' := [(h0, eE h1 h2 kn), (h1, eR hw1 hc1 hb1 a1 r1), (hw1, eW true), (hc1, eA cy f1), (hb1, eA cy g1), (h2, eR hw2 hc2 hb2 a2 r2), (hw2, eW false), (hc2, eA cy f2), (hb2, eA cy g2)]) [0, 1, 2, 3, 4, 5, 6, 7, 8] rfl
  have hDc := hD.sub (ws' := [(h0, eE h1 h2 kn), (h1, eR hw1 hc1 hb1 a1 r1), (hw1, eW true), (hc1, eA cy f1), (hb1, eA cy g1), (h2, eR hw2 hc2 hb2 a2 r2), (hw2, eW false), (hc2, eA cy f2), (hb2, eA cy g2)]) [0, 1, 2, 3, 4, 5, 6, 7, 8] (by decide +kernel) rfl
  have hKc := hK.sub (tys' := [(cy, .long)]) [0] rfl
  have hFc := va_free (wc := [(h0, eE h1 h2 kn), (h1, eR hw1 hc1 hb1 a1 r1), (hw1, eW true), (hc1, eA cy f1), (hb1, eA cy g1), (h2, eR hw2 hc2 hb2 a2 r2), (hw2, eW false), (hc2, eA cy f2), (hb2, eA cy g2)]) hD hS hA [0, 1, 2, 3, 4, 5, 6, 7, 8] rfl
  refine vx_calli (vx_runV (As := [.int p1, .int p2]) (rest := [.ref ho]) ⟨hx, hb, hml, hown, hts⟩ (k_X2_narrowSwap l hfl dC dI cy h0 h1 hw1 hc1 hb1 h2 hw2 hc2 hb2 a1 r1 f1 g1 a2 r2 f2 g2 kn s.heap.size N p1 p2) (cwV 2 hts gL_narrowSwap_X2_narrowSwap rfl rfl rfl (by decide +kernel) ⟨Nat.le_of_ble_eq_true rfl, Nat.le_of_ble_eq_true rfl⟩) (xM.preV hKc hPc hDc hAN (Nat.le_trans hN hS.1) (hG.kept hS hAN) (ci := 4) (q0 := 0) rfl rfl) rfl rfl hl.1 rfl (lv_room (Nat.le_of_ble_eq_true rfl)) dL_narrowSwap_4 ⟨Nat.le_of_ble_eq_true rfl, Nat.le_of_ble_eq_true rfl⟩) hS (fun q _ h => hFc q h) hFc (fun q _ h => hFc q h) (fun E ce q9 u9 t H locs ht hvm hpx hbx hz hk hS hce hcv hcl => ?_) (fun r_1 u t H locs ht hvm hw hB hz hk hS => ?_)
  · have c_2 : ¬ (o_X2_narrowSwap a2 f2 p1 p2).1 = 0 := hpx
    obtain ⟨hbe, hP1, hD1⟩ := hbx
    rw [ht] at hP1
    obtain ⟨hP, hD⟩ := va_join (wr := [(ho, eO nv sv)]) (w1 := [(h0, eE h1 h2 kn), (h1, eR hw1 hc1 hb1 a1 r1), (hw1, eW true), (hc1, eA cy f1), (hb1, eA cy g1), (h2, eR hw2 hc2 hb2 a2 r2), (hw2, eW false), (hc2, eA cy f2), (hb2, eA cy g2)]) hP hD [0, 1, 2, 3, 4, 5, 6, 7, 8] [9] rfl rfl (by decide +kernel) (by decide +kernel) hk hFc hP1 hD1
    have hP := hP.sub (ws' := [(h0, eE h1 h2 kn), (h1, eR hw1 hc1 hb1 a1 r1), (hw1, eW true), (hc1, eA cy f1), (hb1, eA cy g1), (h2, eR hw2 hc2 hb2 a2 r2), (hw2, eW false), (hc2, eA cy f2), (hb2, eA cy g2), (ho, eO nv sv)]) [1, 2, 3, 4, 5, 6, 7, 8, 9, 0] rfl
    have hD := hD.sub (ws' := [(h0, eE h1 h2 kn), (h1, eR hw1 hc1 hb1 a1 r1), (hw1, eW true), (hc1, eA cy f1), (hb1, eA cy g1), (h2, eR hw2 hc2 hb2 a2 r2), (hw2, eW false), (hc2, eA cy f2), (hb2, eA cy g2), (ho, eO nv sv)]) [1, 2, 3, 4, 5, 6, 7, 8, 9, 0] (by decide +kernel) rfl
    have hE : E = "java/lang/IndexOutOfBoundsException" := hbe.trans (by rw [show (o_X2_narrowSwap a2 f2 p1 p2).1 = 1 from (xr_X2_narrowSwap _ _ _ _ c_2)]; rfl)
    subst hE
    refine vx_catch (own := RL) (name := "java/lang/IndexOutOfBoundsException") hown [] ⟨0, 11, 14, 19⟩ [] htab (fun z hz => absurd hz List.not_mem_nil) (by decide +kernel) (by decide +kernel) (hts (.classLink RL 19 "java/lang/IndexOutOfBoundsException") (by decide +kernel)) (va_Nw.use rfl (hG.1 (.castable "java/lang/IndexOutOfBoundsException" "java/lang/IndexOutOfBoundsException") (List.mem_of_getElem? (i := 11) rfl))) hce hcv hcl ?_
    refine lv_astore (lv' := [(4, .ref q9), (0, .ref h0), (1, .int p1), (2, .int p2), (3, .ref ho)]) hx hb dL_narrowSwap_14 hl (by decide +kernel) rfl (fun ls hl => ?_)
    refine lv_iconst (v := 1) hx hb dL_narrowSwap_16 (by decide +kernel) ?_
    have he : o_L_narrowSwap a2 f2 nv p1 p2 = (1, a2, f2, nv) := by (rw [o_L_narrowSwap, if_neg c_2]) <;> rfl
    refine W.widen (k := 2) (n := 12) (by omega) (by omega) ?_
    exact W.iret (v := 1) hx hb hr (fun t ht hW => ⟨⟨_, (), rfl, (by (rw [he]) <;> rfl), (by rw [he]; exact ⟨by rw [ht]; exact hP, hD⟩)⟩, hS.F ht⟩) hS.2.2 dL_narrowSwap_17
  · skip
    obtain ⟨c_3, hw⟩ := hw
    have c_3 : (o_X2_narrowSwap a2 f2 p1 p2).1 = 0 := c_3
    replace hw : r_1 = (o_X2_narrowSwap a2 f2 p1 p2).2.1 := hw
    subst r_1
    obtain ⟨hP1, hD1⟩ := hB
    rw [ht] at hP1
    obtain ⟨hP, hD⟩ := va_join (wr := [(ho, eO nv sv)]) (w1 := [(h0, eE h1 h2 kn), (h1, eR hw1 hc1 hb1 a1 r1), (hw1, eW true), (hc1, eA cy f1), (hb1, eA cy g1), (h2, eR hw2 hc2 hb2 (o_X2_narrowSwap a2 f2 p1 p2).2.2.1 r2), (hw2, eW false), (hc2, eA cy (o_X2_narrowSwap a2 f2 p1 p2).2.2.2), (hb2, eA cy g2)]) hP hD [0, 1, 2, 3, 4, 5, 6, 7, 8] [9] rfl rfl (by decide +kernel) (by decide +kernel) hk hFc hP1 hD1
    have hP := hP.sub (ws' := [(h0, eE h1 h2 kn), (h1, eR hw1 hc1 hb1 a1 r1), (hw1, eW true), (hc1, eA cy f1), (hb1, eA cy g1), (h2, eR hw2 hc2 hb2 (o_X2_narrowSwap a2 f2 p1 p2).2.2.1 r2), (hw2, eW false), (hc2, eA cy (o_X2_narrowSwap a2 f2 p1 p2).2.2.2), (hb2, eA cy g2), (ho, eO nv sv)]) [1, 2, 3, 4, 5, 6, 7, 8, 9, 0] rfl
    have hD := hD.sub (ws' := [(h0, eE h1 h2 kn), (h1, eR hw1 hc1 hb1 a1 r1), (hw1, eW true), (hc1, eA cy f1), (hb1, eA cy g1), (h2, eR hw2 hc2 hb2 (o_X2_narrowSwap a2 f2 p1 p2).2.2.1 r2), (hw2, eW false), (hc2, eA cy (o_X2_narrowSwap a2 f2 p1 p2).2.2.2), (hb2, eA cy g2), (ho, eO nv sv)]) [1, 2, 3, 4, 5, 6, 7, 8, 9, 0] (by decide +kernel) rfl
    refine lv_i2l (v := (((o_X2_narrowSwap a2 f2 p1 p2).2.1).toInt64)) hx hb dL_narrowSwap_7 rfl ?_
    refine va_putN (D := (dC, dI)) (ci := 5) (v := .long (((o_X2_narrowSwap a2 f2 p1 p2).2.1).toInt64)) (ty := .long) (C := RX3) (T := TX3) (N := 2) hx hb hts (by decide +kernel) tyX3 tyX3_ok nmX3 hown hK hP hD hS 9 rfl rfl 0 (by decide +kernel) (va_Nw.use rfl (hG.1 (.fieldLinkNest RL 13 "EdgefloatsLaw$Out" "n" "J" RL) (List.mem_of_getElem? (i := 6) rfl))) (fun _ h9 => h9) rfl (by decide +kernel) rfl rfl (Nat.le_of_ble_eq_true rfl) dL_narrowSwap_8 (fun H locs hP hD hS => ?_)
    have hP : va_P (dC, dI) xCl [(h0, eE h1 h2 kn), (h1, eR hw1 hc1 hb1 a1 r1), (hw1, eW true), (hc1, eA cy f1), (hb1, eA cy g1), (h2, eR hw2 hc2 hb2 (o_X2_narrowSwap a2 f2 p1 p2).2.2.1 r2), (hw2, eW false), (hc2, eA cy (o_X2_narrowSwap a2 f2 p1 p2).2.2.2), (hb2, eA cy g2), (ho, eO (((o_X2_narrowSwap a2 f2 p1 p2).2.1).toInt64) sv)] H := hP
    have hD : va_D A [(h0, eE h1 h2 kn), (h1, eR hw1 hc1 hb1 a1 r1), (hw1, eW true), (hc1, eA cy f1), (hb1, eA cy g1), (h2, eR hw2 hc2 hb2 (o_X2_narrowSwap a2 f2 p1 p2).2.2.1 r2), (hw2, eW false), (hc2, eA cy (o_X2_narrowSwap a2 f2 p1 p2).2.2.2), (hb2, eA cy g2), (ho, eO (((o_X2_narrowSwap a2 f2 p1 p2).2.1).toInt64) sv)] := hD
    refine lv_goto (tgt := 18) hx hb dL_narrowSwap_11 (by decide +kernel) ?_
    refine lv_iconst (v := 0) hx hb dL_narrowSwap_18 (by decide +kernel) ?_
    have he : o_L_narrowSwap a2 f2 nv p1 p2 = (0, (o_X2_narrowSwap a2 f2 p1 p2).2.2.1, (o_X2_narrowSwap a2 f2 p1 p2).2.2.2, (((o_X2_narrowSwap a2 f2 p1 p2).2.1).toInt64)) := by (rw [o_L_narrowSwap, if_pos c_3]) <;> rfl
    refine W.widen (k := 2) (n := 12) (by omega) (by omega) ?_
    exact W.iret (v := 0) hx hb hr (fun t ht hW => ⟨⟨_, (), rfl, (by (rw [he]) <;> rfl), (by rw [he]; exact ⟨by rw [ht]; exact hP, hD⟩)⟩, hS.F ht⟩) hS.2.2 dL_narrowSwap_19
theorem cl_L_narrowMax_1 : ∀ w ∈ wsL_narrowMax_r1, w ∈ wsL_narrowMax := fun _ h => (List.mem_cons_of_mem _ (List.mem_append_left _ (List.mem_append_left _ (List.mem_append_left _ (List.mem_append_left _ (List.mem_append_left _ (List.mem_append_left _ h)))))))
theorem cl_L_narrowMax_2 : ∀ w ∈ wsL_narrowMax_r2, w ∈ wsL_narrowMax := fun _ h => (List.mem_cons_of_mem _ (List.mem_append_left _ (List.mem_append_left _ (List.mem_append_left _ (List.mem_append_left _ (List.mem_append_left _ (List.mem_append_right _ h)))))))
theorem cl_L_narrowMax_3 : ∀ w ∈ wsX30, w ∈ wsL_narrowMax := fun _ h => (List.mem_cons_of_mem _ (List.mem_append_left _ (List.mem_append_left _ (List.mem_append_left _ (List.mem_append_left _ (List.mem_append_right _ h))))))
theorem cl_L_narrowMax_4 : ∀ w ∈ wsX20, w ∈ wsL_narrowMax := fun _ h => (List.mem_cons_of_mem _ (List.mem_append_left _ (List.mem_append_left _ (List.mem_append_left _ (List.mem_append_right _ h)))))
theorem cl_L_narrowMax_5 : ∀ w ∈ wsX00, w ∈ wsL_narrowMax := fun _ h => (List.mem_cons_of_mem _ (List.mem_append_left _ (List.mem_append_left _ (List.mem_append_right _ h))))
theorem cl_L_narrowMax_6 : ∀ w ∈ wsX10, w ∈ wsL_narrowMax := fun _ h => (List.mem_cons_of_mem _ (List.mem_append_left _ (List.mem_append_right _ h)))
theorem cl_L_narrowMax_7 : ∀ w ∈ (vx_atS RX2 152 "java/lang/IndexOutOfBoundsException" ["java/lang/RuntimeException", "java/lang/Exception"]).filter goodWord, w ∈ wsL_narrowMax := fun _ h => (List.mem_cons_of_mem _ (List.mem_append_right _ h))
set_option maxRecDepth 20000 in
theorem ggL_narrowMax_X2_narrowMax : GoodIn wsL_narrowMax wsX2_narrowMax := goodIn_sub (List.forall_mem_cons.mpr ⟨(cl_L_narrowMax_1 _ (List.mem_of_getElem? (i := 5) rfl)), fun w h => (List.mem_append.mp h).elim ((fun w h => (List.mem_append.mp h).elim ((fun w h => (List.mem_append.mp h).elim ((fun w h => (List.mem_append.mp h).elim ((fun w h => (List.mem_append.mp h).elim ((List.forall_mem_cons.mpr ⟨(cl_L_narrowMax_1 _ (List.mem_of_getElem? (i := 6) rfl)), List.forall_mem_cons.mpr ⟨(cl_L_narrowMax_1 _ (List.mem_of_getElem? (i := 7) rfl)), List.forall_mem_cons.mpr ⟨(cl_L_narrowMax_1 _ (List.mem_of_getElem? (i := 8) rfl)), List.forall_mem_cons.mpr ⟨(cl_L_narrowMax_1 _ (List.mem_of_getElem? (i := 9) rfl)), List.forall_mem_cons.mpr ⟨(cl_L_narrowMax_1 _ (List.mem_of_getElem? (i := 10) rfl)), List.forall_mem_cons.mpr ⟨(cl_L_narrowMax_1 _ (List.mem_of_getElem? (i := 11) rfl)), List.forall_mem_cons.mpr ⟨(cl_L_narrowMax_1 _ (List.mem_of_getElem? (i := 12) rfl)), List.forall_mem_cons.mpr ⟨(cl_L_narrowMax_1 _ (List.mem_of_getElem? (i := 13) rfl)), List.forall_mem_cons.mpr ⟨(cl_L_narrowMax_1 _ (List.mem_of_getElem? (i := 14) rfl)), List.forall_mem_cons.mpr ⟨(cl_L_narrowMax_1 _ (List.mem_of_getElem? (i := 15) rfl)), List.forall_mem_cons.mpr ⟨(cl_L_narrowMax_1 _ (List.mem_of_getElem? (i := 16) rfl)), List.forall_mem_cons.mpr ⟨(cl_L_narrowMax_1 _ (List.mem_of_getElem? (i := 17) rfl)), List.forall_mem_cons.mpr ⟨(cl_L_narrowMax_1 _ (List.mem_of_getElem? (i := 4) rfl)), List.forall_mem_cons.mpr ⟨(cl_L_narrowMax_1 _ (List.mem_of_getElem? (i := 18) rfl)), List.forall_mem_cons.mpr ⟨(cl_L_narrowMax_1 _ (List.mem_of_getElem? (i := 19) rfl)), List.forall_mem_cons.mpr ⟨(cl_L_narrowMax_1 _ (List.mem_of_getElem? (i := 20) rfl)), List.forall_mem_cons.mpr ⟨(cl_L_narrowMax_1 _ (List.mem_of_getElem? (i := 21) rfl)), List.forall_mem_cons.mpr ⟨(cl_L_narrowMax_1 _ (List.mem_of_getElem? (i := 22) rfl)), List.forall_mem_cons.mpr ⟨(cl_L_narrowMax_1 _ (List.mem_of_getElem? (i := 23) rfl)), List.forall_mem_cons.mpr ⟨(cl_L_narrowMax_2 _ (List.mem_of_getElem? (i := 0) rfl)), List.forall_mem_cons.mpr ⟨(cl_L_narrowMax_2 _ (List.mem_of_getElem? (i := 1) rfl)), List.forall_mem_cons.mpr ⟨(cl_L_narrowMax_2 _ (List.mem_of_getElem? (i := 2) rfl)), List.forall_mem_cons.mpr ⟨(cl_L_narrowMax_2 _ (List.mem_of_getElem? (i := 3) rfl)), List.forall_mem_cons.mpr ⟨(cl_L_narrowMax_2 _ (List.mem_of_getElem? (i := 4) rfl)), fun _ h => absurd h List.not_mem_nil⟩⟩⟩⟩⟩⟩⟩⟩⟩⟩⟩⟩⟩⟩⟩⟩⟩⟩⟩⟩⟩⟩⟩⟩) w) ((List.forall_mem_cons.mpr ⟨(cl_L_narrowMax_2 _ (List.mem_of_getElem? (i := 5) rfl)), List.forall_mem_cons.mpr ⟨(cl_L_narrowMax_2 _ (List.mem_of_getElem? (i := 6) rfl)), List.forall_mem_cons.mpr ⟨(cl_L_narrowMax_2 _ (List.mem_of_getElem? (i := 7) rfl)), List.forall_mem_cons.mpr ⟨(cl_L_narrowMax_2 _ (List.mem_of_getElem? (i := 8) rfl)), List.forall_mem_cons.mpr ⟨(cl_L_narrowMax_2 _ (List.mem_of_getElem? (i := 9) rfl)), List.forall_mem_cons.mpr ⟨(cl_L_narrowMax_2 _ (List.mem_of_getElem? (i := 10) rfl)), List.forall_mem_cons.mpr ⟨(cl_L_narrowMax_2 _ (List.mem_of_getElem? (i := 11) rfl)), List.forall_mem_cons.mpr ⟨(cl_L_narrowMax_2 _ (List.mem_of_getElem? (i := 12) rfl)), List.forall_mem_cons.mpr ⟨(cl_L_narrowMax_2 _ (List.mem_of_getElem? (i := 13) rfl)), List.forall_mem_cons.mpr ⟨(cl_L_narrowMax_2 _ (List.mem_of_getElem? (i := 14) rfl)), List.forall_mem_cons.mpr ⟨(cl_L_narrowMax_2 _ (List.mem_of_getElem? (i := 15) rfl)), List.forall_mem_cons.mpr ⟨(cl_L_narrowMax_2 _ (List.mem_of_getElem? (i := 16) rfl)), fun _ h => absurd h List.not_mem_nil⟩⟩⟩⟩⟩⟩⟩⟩⟩⟩⟩⟩) w)) w) ((cl_L_narrowMax_4) w)) w) ((cl_L_narrowMax_5) w)) w) ((cl_L_narrowMax_6) w)) w) ((cl_L_narrowMax_7) w)⟩) (by decide +kernel)
set_option maxRecDepth 20000 in
theorem gL_narrowMax_X2_narrowMax : GoodIn wsL_narrowMax (wsV RL 117 RX2 yX2_narrowMax wsX2_narrowMax) := goodIn_app (goodIn_sub (List.forall_mem_cons.mpr ⟨(cl_L_narrowMax_1 _ (List.mem_of_getElem? (i := 1) rfl)), List.forall_mem_cons.mpr ⟨(cl_L_narrowMax_1 _ (List.mem_of_getElem? (i := 2) rfl)), List.forall_mem_cons.mpr ⟨(cl_L_narrowMax_1 _ (List.mem_of_getElem? (i := 3) rfl)), List.forall_mem_cons.mpr ⟨(cl_L_narrowMax_1 _ (List.mem_of_getElem? (i := 4) rfl)), fun _ h => absurd h List.not_mem_nil⟩⟩⟩⟩) (by decide +kernel)) ggL_narrowMax_X2_narrowMax
noncomputable def dz_p16_28 : List (Nat × Instr × Nat) := [(0, (.aload 4, 2)), (2, (.aload_n 0, 1)), (3, (.iload_n 1, 1)), (4, (.iload_n 2, 1)), (5, (.iload_n 3, 1)), (6, (.invokevirtual 117, 3)), (9, (.i2l, 1)), (10, (.putfield 13, 3)), (13, (.goto 7, 3)), (16, (.astore 5, 2)), (18, (.iconst 1, 1)), (19, (.ireturn, 1)), (20, (.iconst 0, 1)), (21, (.ireturn, 1))]
theorem dy_p16_28 : dz_ok cL_narrowMax dz_p16_28 = true := by decide +kernel
theorem dL_narrowMax_0 : decode cL_narrowMax 0 = .ok (.aload 4, 2) := dz_at (i := 0) dy_p16_28 rfl
theorem dL_narrowMax_2 : decode cL_narrowMax 2 = .ok (.aload_n 0, 1) := dz_at (i := 1) dy_p16_28 rfl
theorem dL_narrowMax_3 : decode cL_narrowMax 3 = .ok (.iload_n 1, 1) := dz_at (i := 2) dy_p16_28 rfl
theorem dL_narrowMax_4 : decode cL_narrowMax 4 = .ok (.iload_n 2, 1) := dz_at (i := 3) dy_p16_28 rfl
theorem dL_narrowMax_5 : decode cL_narrowMax 5 = .ok (.iload_n 3, 1) := dz_at (i := 4) dy_p16_28 rfl
theorem dL_narrowMax_6 : decode cL_narrowMax 6 = .ok (.invokevirtual 117, 3) := dz_at (i := 5) dy_p16_28 rfl
theorem dL_narrowMax_9 : decode cL_narrowMax 9 = .ok (.i2l, 1) := dz_at (i := 6) dy_p16_28 rfl
theorem dL_narrowMax_10 : decode cL_narrowMax 10 = .ok (.putfield 13, 3) := dz_at (i := 7) dy_p16_28 rfl
theorem dL_narrowMax_13 : decode cL_narrowMax 13 = .ok (.goto 7, 3) := dz_at (i := 8) dy_p16_28 rfl
theorem dL_narrowMax_16 : decode cL_narrowMax 16 = .ok (.astore 5, 2) := dz_at (i := 9) dy_p16_28 rfl
theorem dL_narrowMax_18 : decode cL_narrowMax 18 = .ok (.iconst 1, 1) := dz_at (i := 10) dy_p16_28 rfl
theorem dL_narrowMax_19 : decode cL_narrowMax 19 = .ok (.ireturn, 1) := dz_at (i := 11) dy_p16_28 rfl
theorem dL_narrowMax_20 : decode cL_narrowMax 20 = .ok (.iconst 0, 1) := dz_at (i := 12) dy_p16_28 rfl
theorem dL_narrowMax_21 : decode cL_narrowMax 21 = .ok (.ireturn, 1) := dz_at (i := 13) dy_p16_28 rfl
noncomputable def o_L_narrowMax (a2 : Int32) (f2 : Nat → Int64) (nv : Int64) (p1 : Int32) (p2 : Int32) (p3 : Int32) : Int32 × Int32 × (Nat → Int64) × Int64 :=
  if (o_X2_narrowMax a2 f2 p1 p2 p3).1 = 0 then (0, (o_X2_narrowMax a2 f2 p1 p2 p3).2.2.1, (o_X2_narrowMax a2 f2 p1 p2 p3).2.2.2, (((o_X2_narrowMax a2 f2 p1 p2 p3).2.1).toInt64))
  else (1, a2, f2, nv)
set_option maxHeartbeats 4000000 in
set_option maxRecDepth 100000 in
theorem k_L_narrowMax (l : Launch) (hfl : l.flags = flags0) (dC : Nat → ClassId) (dI : Nat → Nat → Nat) (cy : ClassId) (h0 : Nat) (h1 : Nat) (hw1 : Nat) (hc1 : Nat) (hb1 : Nat) (h2 : Nat) (hw2 : Nat) (hc2 : Nat) (hb2 : Nat) (a1 : Int32) (r1 : Int32) (f1 : Nat → Int64) (g1 : Nat → Int64) (a2 : Int32) (r2 : Int32) (f2 : Nat → Int64) (g2 : Nat → Int64) (kn : Int32) (ho : Nat) (nv : Int64) (sv : Value) (sz : Nat) (N : Nat) (p1 : Int32) (p2 : Int32) (p3 : Int32) : Met l yL_narrowMax wsL_narrowMax ({ frames := 10, cells := 3, slots := 18, locals := 188 }) (va_Pc [.ref h0, .int p1, .int p2, .int p3, .ref ho] (xL (dC, dI) xCl [(h0, eE h1 h2 kn), (h1, eR hw1 hc1 hb1 a1 r1), (hw1, eW true), (hc1, eA cy f1), (hb1, eA cy g1), (h2, eR hw2 hc2 hb2 a2 r2), (hw2, eW false), (hc2, eA cy f2), (hb2, eA cy g2), (ho, eO nv sv)] [(cy, .long)] sz N)) (va_Qi (fun (r : Int32) (_ : Unit) => r = (o_L_narrowMax a2 f2 nv p1 p2 p3).1) (fun _ t => xW (dC, dI) xCl [(h0, eE h1 h2 kn), (h1, eR hw1 hc1 hb1 a1 r1), (hw1, eW true), (hc1, eA cy f1), (hb1, eA cy g1), (h2, eR hw2 hc2 hb2 (o_L_narrowMax a2 f2 nv p1 p2 p3).2.1 r2), (hw2, eW false), (hc2, eA cy (o_L_narrowMax a2 f2 nv p1 p2 p3).2.2.1), (hb2, eA cy g2), (ho, eO (o_L_narrowMax a2 f2 nv p1 p2 p3).2.2.2 sv)] (va_A [(h0, eE h1 h2 kn), (h1, eR hw1 hc1 hb1 a1 r1), (hw1, eW true), (hc1, eA cy f1), (hb1, eA cy g1), (h2, eR hw2 hc2 hb2 a2 r2), (hw2, eW false), (hc2, eA cy f2), (hb2, eA cy g2), (ho, eO nv sv)] sz) t) (va_A [(h0, eE h1 h2 kn), (h1, eR hw1 hc1 hb1 a1 r1), (hw1, eW true), (hc1, eA cy f1), (hb1, eA cy g1), (h2, eR hw2 hc2 hb2 a2 r2), (hw2, eW false), (hc2, eA cy f2), (hb2, eA cy g2), (ho, eO nv sv)] sz)) 3 18 (va_A [(h0, eE h1 h2 kn), (h1, eR hw1 hc1 hb1 a1 r1), (hw1, eW true), (hc1, eA cy f1), (hb1, eA cy g1), (h2, eR hw2 hc2 hb2 a2 r2), (hw2, eW false), (hc2, eA cy f2), (hb2, eA cy g2), (ho, eO nv sv)] sz) := by
  refine va_MetW (cc := cL_narrowMax) (maxL := 6) (ret := (some .int)) (by decide +kernel) rfl ?_
  intro p e s m args below meth c s₁ B hml hv
  obtain ⟨rfl, ⟨hsz, hP, hK, hD0, hN, hG⟩, hnc⟩ := hv
  have hx := B.exec
  have hb := B.bytes
  have hr := B.returns
  have hts := atoms_spec (ws := wsL_narrowMax) B.pre
  have hown : s.vm.findClass RL = some m.cls := findClass_of_methodNamed B.named
  have hlocks := B.notSynchronized
  have htab := vx_table (x := yL_narrowMax) B (hts _ List.mem_cons_self)
  subst hsz
  have hAN : ∀ q, va_A [(h0, eE h1 h2 kn), (h1, eR hw1 hc1 hb1 a1 r1), (hw1, eW true), (hc1, eA cy f1), (hb1, eA cy g1), (h2, eR hw2 hc2 hb2 a2 r2), (hw2, eW false), (hc2, eA cy f2), (hb2, eA cy g2), (ho, eO nv sv)] s.heap.size q → N ≤ q := xA_N hD0 hN
  have hD := hD0.self (sz := s.heap.size)
  generalize hAe : va_A [(h0, eE h1 h2 kn), (h1, eR hw1 hc1 hb1 a1 r1), (hw1, eW true), (hc1, eA cy f1), (hb1, eA cy g1), (h2, eR hw2 hc2 hb2 a2 r2), (hw2, eW false), (hc2, eA cy f2), (hb2, eA cy g2), (ho, eO nv sv)] s.heap.size = A at hD hAN ⊢
  have hA : ∀ q : Nat, s.heap.size ≤ q → A q := fun q h => by rw [← hAe]; exact Or.inr h
  have hS : va_S A s.heap s.heap [] := va_S.rf
  have hP : va_P (dC, dI) xCl [(h0, eE h1 h2 kn), (h1, eR hw1 hc1 hb1 a1 r1), (hw1, eW true), (hc1, eA cy f1), (hb1, eA cy g1), (h2, eR hw2 hc2 hb2 a2 r2), (hw2, eW false), (hc2, eA cy f2), (hb2, eA cy g2), (ho, eO nv sv)] s.heap := hP
  have hl := lv_entry ([.ref h0, .int p1, .int p2, .int p3, .ref ho]) (n := 6) (Nat.le_of_ble_eq_true rfl)
  rw [lg_entry_eq]
  generalize (lg_sl ([.ref h0, .int p1, .int p2, .int p3, .ref ho]) ++ List.replicate (6 - (lg_sl ([.ref h0, .int p1, .int p2, .int p3, .ref ho])).length) Slot.unset).toArray = ls at hl ⊢
  have hl : lv_has ls 6 [(0, .ref h0), (1, .int p1), (2, .int p2), (3, .int p3), (4, .ref ho)] := hl
  refine lv_aload hx hb dL_narrowMax_0 (lv_at hl 4 rfl) ?_
  refine lv_aload_n hx hb dL_narrowMax_2 rfl (lv_at hl 0 rfl) ?_
  refine lv_iload_n hx hb dL_narrowMax_3 rfl (lv_at hl 1 rfl) ?_
  refine lv_iload_n hx hb dL_narrowMax_4 rfl (lv_at hl 2 rfl) ?_
  refine lv_iload_n hx hb dL_narrowMax_5 rfl (lv_at hl 3 rfl) ?_
  have hPc := hP.sub (ws' := [(h0, eE h1 h2 kn), (h1, eR hw1 hc1 hb1 a1 r1), (hw1, eW true), (hc1, eA cy f1), (hb1, eA cy g1), (h2, eR hw2 hc2 hb2 a2 r2), (hw2, eW false), (hc2, eA cy f2), (hb2, eA cy g2)]) [0, 1, 2, 3, 4, 5, 6, 7, 8] rfl
  have hDc := hD.sub (ws' := [(h0, eE h1 h2 kn), (h1, eR hw1 hc1 hb1 a1 r1), (hw1, eW true), (hc1, eA cy f1), (hb1, eA cy g1), (h2, eR hw2 hc2 hb2 a2 r2), (hw2, eW false), (hc2, eA cy f2), (hb2, eA cy g2)]) [0, 1, 2, 3, 4, 5, 6, 7, 8] (by decide +kernel) rfl
  have hKc := hK.sub (tys' := [(cy, .long)]) [0] rfl
  have hFc := va_free (wc := [(h0, eE h1 h2 kn), (h1, eR hw1 hc1 hb1 a1 r1), (hw1, eW true), (hc1, eA cy f1), (hb1, eA cy g1), (h2, eR hw2 hc2 hb2 a2 r2), (hw2, eW false), (hc2, eA cy f2), (hb2, eA cy g2)]) hD hS hA [0, 1, 2, 3, 4, 5, 6, 7, 8] rfl
  refine vx_calli (vx_runV (As := [.int p1, .int p2, .int p3]) (rest := [.ref ho]) ⟨hx, hb, hml, hown, hts⟩ (k_X2_narrowMax l hfl dC dI cy h0 h1 hw1 hc1 hb1 h2 hw2 hc2 hb2 a1 r1 f1 g1 a2 r2 f2 g2 kn s.heap.size N p1 p2 p3) (cwV 3 hts gL_narrowMax_X2_narrowMax rfl rfl rfl (by decide +kernel) ⟨Nat.le_of_ble_eq_true rfl, Nat.le_of_ble_eq_true rfl⟩) (xM.preV hKc hPc hDc hAN (Nat.le_trans hN hS.1) (hG.kept hS hAN) (ci := 4) (q0 := 0) rfl rfl) rfl rfl hl.1 rfl (lv_room (Nat.le_of_ble_eq_true rfl)) dL_narrowMax_6 ⟨Nat.le_of_ble_eq_true rfl, Nat.le_of_ble_eq_true rfl⟩) hS (fun q _ h => hFc q h) hFc (fun q _ h => hFc q h) (fun E ce q9 u9 t H locs ht hvm hpx hbx hz hk hS hce hcv hcl => ?_) (fun r_1 u t H locs ht hvm hw hB hz hk hS => ?_)
  · have c_2 : ¬ (o_X2_narrowMax a2 f2 p1 p2 p3).1 = 0 := hpx
    obtain ⟨hbe, hP1, hD1⟩ := hbx
    rw [ht] at hP1
    obtain ⟨hP, hD⟩ := va_join (wr := [(ho, eO nv sv)]) (w1 := [(h0, eE h1 h2 kn), (h1, eR hw1 hc1 hb1 a1 r1), (hw1, eW true), (hc1, eA cy f1), (hb1, eA cy g1), (h2, eR hw2 hc2 hb2 a2 r2), (hw2, eW false), (hc2, eA cy f2), (hb2, eA cy g2)]) hP hD [0, 1, 2, 3, 4, 5, 6, 7, 8] [9] rfl rfl (by decide +kernel) (by decide +kernel) hk hFc hP1 hD1
    have hP := hP.sub (ws' := [(h0, eE h1 h2 kn), (h1, eR hw1 hc1 hb1 a1 r1), (hw1, eW true), (hc1, eA cy f1), (hb1, eA cy g1), (h2, eR hw2 hc2 hb2 a2 r2), (hw2, eW false), (hc2, eA cy f2), (hb2, eA cy g2), (ho, eO nv sv)]) [1, 2, 3, 4, 5, 6, 7, 8, 9, 0] rfl
    have hD := hD.sub (ws' := [(h0, eE h1 h2 kn), (h1, eR hw1 hc1 hb1 a1 r1), (hw1, eW true), (hc1, eA cy f1), (hb1, eA cy g1), (h2, eR hw2 hc2 hb2 a2 r2), (hw2, eW false), (hc2, eA cy f2), (hb2, eA cy g2), (ho, eO nv sv)]) [1, 2, 3, 4, 5, 6, 7, 8, 9, 0] (by decide +kernel) rfl
    have hE : E = "java/lang/IndexOutOfBoundsException" := hbe.trans (by rw [show (o_X2_narrowMax a2 f2 p1 p2 p3).1 = 1 from (xr_X2_narrowMax _ _ _ _ _ c_2)]; rfl)
    subst hE
    refine vx_catch (own := RL) (name := "java/lang/IndexOutOfBoundsException") hown [] ⟨0, 13, 16, 19⟩ [] htab (fun z hz => absurd hz List.not_mem_nil) (by decide +kernel) (by decide +kernel) (hts (.classLink RL 19 "java/lang/IndexOutOfBoundsException") (by decide +kernel)) (va_Nw.use rfl (hG.1 (.castable "java/lang/IndexOutOfBoundsException" "java/lang/IndexOutOfBoundsException") (List.mem_of_getElem? (i := 11) rfl))) hce hcv hcl ?_
    refine lv_astore (lv' := [(5, .ref q9), (0, .ref h0), (1, .int p1), (2, .int p2), (3, .int p3), (4, .ref ho)]) hx hb dL_narrowMax_16 hl (by decide +kernel) rfl (fun ls hl => ?_)
    refine lv_iconst (v := 1) hx hb dL_narrowMax_18 (by decide +kernel) ?_
    have he : o_L_narrowMax a2 f2 nv p1 p2 p3 = (1, a2, f2, nv) := by (rw [o_L_narrowMax, if_neg c_2]) <;> rfl
    refine W.widen (k := 3) (n := 18) (by omega) (by omega) ?_
    exact W.iret (v := 1) hx hb hr (fun t ht hW => ⟨⟨_, (), rfl, (by (rw [he]) <;> rfl), (by rw [he]; exact ⟨by rw [ht]; dsimp only; exact hP, by dsimp only; exact hD⟩)⟩, hS.F ht⟩) hS.2.2 dL_narrowMax_19
  · skip
    obtain ⟨c_3, hw⟩ := hw
    have c_3 : (o_X2_narrowMax a2 f2 p1 p2 p3).1 = 0 := c_3
    replace hw : r_1 = (o_X2_narrowMax a2 f2 p1 p2 p3).2.1 := hw
    subst r_1
    obtain ⟨hP1, hD1⟩ := hB
    rw [ht] at hP1
    obtain ⟨hP, hD⟩ := va_join (wr := [(ho, eO nv sv)]) (w1 := [(h0, eE h1 h2 kn), (h1, eR hw1 hc1 hb1 a1 r1), (hw1, eW true), (hc1, eA cy f1), (hb1, eA cy g1), (h2, eR hw2 hc2 hb2 (o_X2_narrowMax a2 f2 p1 p2 p3).2.2.1 r2), (hw2, eW false), (hc2, eA cy (o_X2_narrowMax a2 f2 p1 p2 p3).2.2.2), (hb2, eA cy g2)]) hP hD [0, 1, 2, 3, 4, 5, 6, 7, 8] [9] rfl rfl (by decide +kernel) (by decide +kernel) hk hFc hP1 hD1
    have hP := hP.sub (ws' := [(h0, eE h1 h2 kn), (h1, eR hw1 hc1 hb1 a1 r1), (hw1, eW true), (hc1, eA cy f1), (hb1, eA cy g1), (h2, eR hw2 hc2 hb2 (o_X2_narrowMax a2 f2 p1 p2 p3).2.2.1 r2), (hw2, eW false), (hc2, eA cy (o_X2_narrowMax a2 f2 p1 p2 p3).2.2.2), (hb2, eA cy g2), (ho, eO nv sv)]) [1, 2, 3, 4, 5, 6, 7, 8, 9, 0] rfl
    have hD := hD.sub (ws' := [(h0, eE h1 h2 kn), (h1, eR hw1 hc1 hb1 a1 r1), (hw1, eW true), (hc1, eA cy f1), (hb1, eA cy g1), (h2, eR hw2 hc2 hb2 (o_X2_narrowMax a2 f2 p1 p2 p3).2.2.1 r2), (hw2, eW false), (hc2, eA cy (o_X2_narrowMax a2 f2 p1 p2 p3).2.2.2), (hb2, eA cy g2), (ho, eO nv sv)]) [1, 2, 3, 4, 5, 6, 7, 8, 9, 0] (by decide +kernel) rfl
    refine lv_i2l (v := (((o_X2_narrowMax a2 f2 p1 p2 p3).2.1).toInt64)) hx hb dL_narrowMax_9 rfl ?_
    refine va_putN (D := (dC, dI)) (ci := 5) (v := .long (((o_X2_narrowMax a2 f2 p1 p2 p3).2.1).toInt64)) (ty := .long) (C := RX3) (T := TX3) (N := 2) hx hb hts (by decide +kernel) tyX3 tyX3_ok nmX3 hown hK hP hD hS 9 rfl rfl 0 (by decide +kernel) (va_Nw.use rfl (hG.1 (.fieldLinkNest RL 13 "EdgefloatsLaw$Out" "n" "J" RL) (List.mem_of_getElem? (i := 6) rfl))) (fun _ h9 => h9) rfl (by decide +kernel) rfl rfl (Nat.le_of_ble_eq_true rfl) dL_narrowMax_10 (fun H locs hP hD hS => ?_)
    have hP : va_P (dC, dI) xCl [(h0, eE h1 h2 kn), (h1, eR hw1 hc1 hb1 a1 r1), (hw1, eW true), (hc1, eA cy f1), (hb1, eA cy g1), (h2, eR hw2 hc2 hb2 (o_X2_narrowMax a2 f2 p1 p2 p3).2.2.1 r2), (hw2, eW false), (hc2, eA cy (o_X2_narrowMax a2 f2 p1 p2 p3).2.2.2), (hb2, eA cy g2), (ho, eO (((o_X2_narrowMax a2 f2 p1 p2 p3).2.1).toInt64) sv)] H := hP
    have hD : va_D A [(h0, eE h1 h2 kn), (h1, eR hw1 hc1 hb1 a1 r1), (hw1, eW true), (hc1, eA cy f1), (hb1, eA cy g1), (h2, eR hw2 hc2 hb2 (o_X2_narrowMax a2 f2 p1 p2 p3).2.2.1 r2), (hw2, eW false), (hc2, eA cy (o_X2_narrowMax a2 f2 p1 p2 p3).2.2.2), (hb2, eA cy g2), (ho, eO (((o_X2_narrowMax a2 f2 p1 p2 p3).2.1).toInt64) sv)] := hD
    refine lv_goto (tgt := 20) hx hb dL_narrowMax_13 (by decide +kernel) ?_
    refine lv_iconst (v := 0) hx hb dL_narrowMax_20 (by decide +kernel) ?_
    have he : o_L_narrowMax a2 f2 nv p1 p2 p3 = (0, (o_X2_narrowMax a2 f2 p1 p2 p3).2.2.1, (o_X2_narrowMax a2 f2 p1 p2 p3).2.2.2, (((o_X2_narrowMax a2 f2 p1 p2 p3).2.1).toInt64)) := by (rw [o_L_narrowMax, if_pos c_3]) <;> rfl
    refine W.widen (k := 3) (n := 18) (by omega) (by omega) ?_
    exact W.iret (v := 0) hx hb hr (fun t ht hW => ⟨⟨_, (), rfl, (by (rw [he]) <;> rfl), (by rw [he]; exact ⟨by rw [ht]; dsimp only; exact hP, by dsimp only; exact hD⟩)⟩, hS.F ht⟩) hS.2.2 dL_narrowMax_21
theorem cl_L_narrowMin_1 : ∀ w ∈ wsL_narrowMin_r1, w ∈ wsL_narrowMin := fun _ h => (List.mem_cons_of_mem _ (List.mem_append_left _ (List.mem_append_left _ (List.mem_append_left _ (List.mem_append_left _ (List.mem_append_left _ (List.mem_append_left _ h)))))))
theorem cl_L_narrowMin_2 : ∀ w ∈ wsL_narrowMin_r2, w ∈ wsL_narrowMin := fun _ h => (List.mem_cons_of_mem _ (List.mem_append_left _ (List.mem_append_left _ (List.mem_append_left _ (List.mem_append_left _ (List.mem_append_left _ (List.mem_append_right _ h)))))))
theorem cl_L_narrowMin_3 : ∀ w ∈ wsX30, w ∈ wsL_narrowMin := fun _ h => (List.mem_cons_of_mem _ (List.mem_append_left _ (List.mem_append_left _ (List.mem_append_left _ (List.mem_append_left _ (List.mem_append_right _ h))))))
theorem cl_L_narrowMin_4 : ∀ w ∈ wsX20, w ∈ wsL_narrowMin := fun _ h => (List.mem_cons_of_mem _ (List.mem_append_left _ (List.mem_append_left _ (List.mem_append_left _ (List.mem_append_right _ h)))))
theorem cl_L_narrowMin_5 : ∀ w ∈ wsX00, w ∈ wsL_narrowMin := fun _ h => (List.mem_cons_of_mem _ (List.mem_append_left _ (List.mem_append_left _ (List.mem_append_right _ h))))
theorem cl_L_narrowMin_6 : ∀ w ∈ wsX10, w ∈ wsL_narrowMin := fun _ h => (List.mem_cons_of_mem _ (List.mem_append_left _ (List.mem_append_right _ h)))
theorem cl_L_narrowMin_7 : ∀ w ∈ (vx_atS RX2 152 "java/lang/IndexOutOfBoundsException" ["java/lang/RuntimeException", "java/lang/Exception"]).filter goodWord, w ∈ wsL_narrowMin := fun _ h => (List.mem_cons_of_mem _ (List.mem_append_right _ h))
set_option maxRecDepth 20000 in
theorem ggL_narrowMin_X2_narrowMin : GoodIn wsL_narrowMin wsX2_narrowMin := goodIn_sub (List.forall_mem_cons.mpr ⟨(cl_L_narrowMin_1 _ (List.mem_of_getElem? (i := 5) rfl)), fun w h => (List.mem_append.mp h).elim ((fun w h => (List.mem_append.mp h).elim ((fun w h => (List.mem_append.mp h).elim ((fun w h => (List.mem_append.mp h).elim ((fun w h => (List.mem_append.mp h).elim ((List.forall_mem_cons.mpr ⟨(cl_L_narrowMin_1 _ (List.mem_of_getElem? (i := 6) rfl)), List.forall_mem_cons.mpr ⟨(cl_L_narrowMin_1 _ (List.mem_of_getElem? (i := 7) rfl)), List.forall_mem_cons.mpr ⟨(cl_L_narrowMin_1 _ (List.mem_of_getElem? (i := 8) rfl)), List.forall_mem_cons.mpr ⟨(cl_L_narrowMin_1 _ (List.mem_of_getElem? (i := 9) rfl)), List.forall_mem_cons.mpr ⟨(cl_L_narrowMin_1 _ (List.mem_of_getElem? (i := 10) rfl)), List.forall_mem_cons.mpr ⟨(cl_L_narrowMin_1 _ (List.mem_of_getElem? (i := 11) rfl)), List.forall_mem_cons.mpr ⟨(cl_L_narrowMin_1 _ (List.mem_of_getElem? (i := 12) rfl)), List.forall_mem_cons.mpr ⟨(cl_L_narrowMin_1 _ (List.mem_of_getElem? (i := 13) rfl)), List.forall_mem_cons.mpr ⟨(cl_L_narrowMin_1 _ (List.mem_of_getElem? (i := 14) rfl)), List.forall_mem_cons.mpr ⟨(cl_L_narrowMin_1 _ (List.mem_of_getElem? (i := 15) rfl)), List.forall_mem_cons.mpr ⟨(cl_L_narrowMin_1 _ (List.mem_of_getElem? (i := 16) rfl)), List.forall_mem_cons.mpr ⟨(cl_L_narrowMin_1 _ (List.mem_of_getElem? (i := 17) rfl)), List.forall_mem_cons.mpr ⟨(cl_L_narrowMin_1 _ (List.mem_of_getElem? (i := 4) rfl)), List.forall_mem_cons.mpr ⟨(cl_L_narrowMin_1 _ (List.mem_of_getElem? (i := 18) rfl)), List.forall_mem_cons.mpr ⟨(cl_L_narrowMin_1 _ (List.mem_of_getElem? (i := 19) rfl)), List.forall_mem_cons.mpr ⟨(cl_L_narrowMin_1 _ (List.mem_of_getElem? (i := 20) rfl)), List.forall_mem_cons.mpr ⟨(cl_L_narrowMin_1 _ (List.mem_of_getElem? (i := 21) rfl)), List.forall_mem_cons.mpr ⟨(cl_L_narrowMin_1 _ (List.mem_of_getElem? (i := 22) rfl)), List.forall_mem_cons.mpr ⟨(cl_L_narrowMin_1 _ (List.mem_of_getElem? (i := 23) rfl)), List.forall_mem_cons.mpr ⟨(cl_L_narrowMin_2 _ (List.mem_of_getElem? (i := 0) rfl)), List.forall_mem_cons.mpr ⟨(cl_L_narrowMin_2 _ (List.mem_of_getElem? (i := 1) rfl)), List.forall_mem_cons.mpr ⟨(cl_L_narrowMin_2 _ (List.mem_of_getElem? (i := 2) rfl)), List.forall_mem_cons.mpr ⟨(cl_L_narrowMin_2 _ (List.mem_of_getElem? (i := 3) rfl)), List.forall_mem_cons.mpr ⟨(cl_L_narrowMin_2 _ (List.mem_of_getElem? (i := 4) rfl)), fun _ h => absurd h List.not_mem_nil⟩⟩⟩⟩⟩⟩⟩⟩⟩⟩⟩⟩⟩⟩⟩⟩⟩⟩⟩⟩⟩⟩⟩⟩) w) ((List.forall_mem_cons.mpr ⟨(cl_L_narrowMin_2 _ (List.mem_of_getElem? (i := 5) rfl)), List.forall_mem_cons.mpr ⟨(cl_L_narrowMin_2 _ (List.mem_of_getElem? (i := 6) rfl)), List.forall_mem_cons.mpr ⟨(cl_L_narrowMin_2 _ (List.mem_of_getElem? (i := 7) rfl)), List.forall_mem_cons.mpr ⟨(cl_L_narrowMin_2 _ (List.mem_of_getElem? (i := 8) rfl)), List.forall_mem_cons.mpr ⟨(cl_L_narrowMin_2 _ (List.mem_of_getElem? (i := 9) rfl)), List.forall_mem_cons.mpr ⟨(cl_L_narrowMin_2 _ (List.mem_of_getElem? (i := 10) rfl)), List.forall_mem_cons.mpr ⟨(cl_L_narrowMin_2 _ (List.mem_of_getElem? (i := 11) rfl)), List.forall_mem_cons.mpr ⟨(cl_L_narrowMin_2 _ (List.mem_of_getElem? (i := 12) rfl)), List.forall_mem_cons.mpr ⟨(cl_L_narrowMin_2 _ (List.mem_of_getElem? (i := 13) rfl)), List.forall_mem_cons.mpr ⟨(cl_L_narrowMin_2 _ (List.mem_of_getElem? (i := 14) rfl)), List.forall_mem_cons.mpr ⟨(cl_L_narrowMin_2 _ (List.mem_of_getElem? (i := 15) rfl)), List.forall_mem_cons.mpr ⟨(cl_L_narrowMin_2 _ (List.mem_of_getElem? (i := 16) rfl)), fun _ h => absurd h List.not_mem_nil⟩⟩⟩⟩⟩⟩⟩⟩⟩⟩⟩⟩) w)) w) ((cl_L_narrowMin_4) w)) w) ((cl_L_narrowMin_5) w)) w) ((cl_L_narrowMin_6) w)) w) ((cl_L_narrowMin_7) w)⟩) (by decide +kernel)
set_option maxRecDepth 20000 in
theorem gL_narrowMin_X2_narrowMin : GoodIn wsL_narrowMin (wsV RL 120 RX2 yX2_narrowMin wsX2_narrowMin) := goodIn_app (goodIn_sub (List.forall_mem_cons.mpr ⟨(cl_L_narrowMin_1 _ (List.mem_of_getElem? (i := 1) rfl)), List.forall_mem_cons.mpr ⟨(cl_L_narrowMin_1 _ (List.mem_of_getElem? (i := 2) rfl)), List.forall_mem_cons.mpr ⟨(cl_L_narrowMin_1 _ (List.mem_of_getElem? (i := 3) rfl)), List.forall_mem_cons.mpr ⟨(cl_L_narrowMin_1 _ (List.mem_of_getElem? (i := 4) rfl)), fun _ h => absurd h List.not_mem_nil⟩⟩⟩⟩) (by decide +kernel)) ggL_narrowMin_X2_narrowMin
noncomputable def dz_p16_29 : List (Nat × Instr × Nat) := [(0, (.aload 4, 2)), (2, (.aload_n 0, 1)), (3, (.iload_n 1, 1)), (4, (.iload_n 2, 1)), (5, (.iload_n 3, 1)), (6, (.invokevirtual 120, 3)), (9, (.i2l, 1)), (10, (.putfield 13, 3)), (13, (.goto 7, 3)), (16, (.astore 5, 2)), (18, (.iconst 1, 1)), (19, (.ireturn, 1)), (20, (.iconst 0, 1)), (21, (.ireturn, 1))]
theorem dy_p16_29 : dz_ok cL_narrowMin dz_p16_29 = true := by decide +kernel
theorem dL_narrowMin_0 : decode cL_narrowMin 0 = .ok (.aload 4, 2) := dz_at (i := 0) dy_p16_29 rfl
theorem dL_narrowMin_2 : decode cL_narrowMin 2 = .ok (.aload_n 0, 1) := dz_at (i := 1) dy_p16_29 rfl
theorem dL_narrowMin_3 : decode cL_narrowMin 3 = .ok (.iload_n 1, 1) := dz_at (i := 2) dy_p16_29 rfl
theorem dL_narrowMin_4 : decode cL_narrowMin 4 = .ok (.iload_n 2, 1) := dz_at (i := 3) dy_p16_29 rfl
theorem dL_narrowMin_5 : decode cL_narrowMin 5 = .ok (.iload_n 3, 1) := dz_at (i := 4) dy_p16_29 rfl
theorem dL_narrowMin_6 : decode cL_narrowMin 6 = .ok (.invokevirtual 120, 3) := dz_at (i := 5) dy_p16_29 rfl
theorem dL_narrowMin_9 : decode cL_narrowMin 9 = .ok (.i2l, 1) := dz_at (i := 6) dy_p16_29 rfl
theorem dL_narrowMin_10 : decode cL_narrowMin 10 = .ok (.putfield 13, 3) := dz_at (i := 7) dy_p16_29 rfl
theorem dL_narrowMin_13 : decode cL_narrowMin 13 = .ok (.goto 7, 3) := dz_at (i := 8) dy_p16_29 rfl
theorem dL_narrowMin_16 : decode cL_narrowMin 16 = .ok (.astore 5, 2) := dz_at (i := 9) dy_p16_29 rfl
theorem dL_narrowMin_18 : decode cL_narrowMin 18 = .ok (.iconst 1, 1) := dz_at (i := 10) dy_p16_29 rfl
theorem dL_narrowMin_19 : decode cL_narrowMin 19 = .ok (.ireturn, 1) := dz_at (i := 11) dy_p16_29 rfl
theorem dL_narrowMin_20 : decode cL_narrowMin 20 = .ok (.iconst 0, 1) := dz_at (i := 12) dy_p16_29 rfl
theorem dL_narrowMin_21 : decode cL_narrowMin 21 = .ok (.ireturn, 1) := dz_at (i := 13) dy_p16_29 rfl
noncomputable def o_L_narrowMin (a2 : Int32) (f2 : Nat → Int64) (nv : Int64) (p1 : Int32) (p2 : Int32) (p3 : Int32) : Int32 × Int32 × (Nat → Int64) × Int64 :=
  if (o_X2_narrowMin a2 f2 p1 p2 p3).1 = 0 then (0, (o_X2_narrowMin a2 f2 p1 p2 p3).2.2.1, (o_X2_narrowMin a2 f2 p1 p2 p3).2.2.2, (((o_X2_narrowMin a2 f2 p1 p2 p3).2.1).toInt64))
  else (1, a2, f2, nv)
set_option maxHeartbeats 4000000 in
set_option maxRecDepth 100000 in
theorem k_L_narrowMin (l : Launch) (hfl : l.flags = flags0) (dC : Nat → ClassId) (dI : Nat → Nat → Nat) (cy : ClassId) (h0 : Nat) (h1 : Nat) (hw1 : Nat) (hc1 : Nat) (hb1 : Nat) (h2 : Nat) (hw2 : Nat) (hc2 : Nat) (hb2 : Nat) (a1 : Int32) (r1 : Int32) (f1 : Nat → Int64) (g1 : Nat → Int64) (a2 : Int32) (r2 : Int32) (f2 : Nat → Int64) (g2 : Nat → Int64) (kn : Int32) (ho : Nat) (nv : Int64) (sv : Value) (sz : Nat) (N : Nat) (p1 : Int32) (p2 : Int32) (p3 : Int32) : Met l yL_narrowMin wsL_narrowMin ({ frames := 10, cells := 3, slots := 18, locals := 188 }) (va_Pc [.ref h0, .int p1, .int p2, .int p3, .ref ho] (xL (dC, dI) xCl [(h0, eE h1 h2 kn), (h1, eR hw1 hc1 hb1 a1 r1), (hw1, eW true), (hc1, eA cy f1), (hb1, eA cy g1), (h2, eR hw2 hc2 hb2 a2 r2), (hw2, eW false), (hc2, eA cy f2), (hb2, eA cy g2), (ho, eO nv sv)] [(cy, .long)] sz N)) (va_Qi (fun (r : Int32) (_ : Unit) => r = (o_L_narrowMin a2 f2 nv p1 p2 p3).1) (fun _ t => xW (dC, dI) xCl [(h0, eE h1 h2 kn), (h1, eR hw1 hc1 hb1 a1 r1), (hw1, eW true), (hc1, eA cy f1), (hb1, eA cy g1), (h2, eR hw2 hc2 hb2 (o_L_narrowMin a2 f2 nv p1 p2 p3).2.1 r2), (hw2, eW false), (hc2, eA cy (o_L_narrowMin a2 f2 nv p1 p2 p3).2.2.1), (hb2, eA cy g2), (ho, eO (o_L_narrowMin a2 f2 nv p1 p2 p3).2.2.2 sv)] (va_A [(h0, eE h1 h2 kn), (h1, eR hw1 hc1 hb1 a1 r1), (hw1, eW true), (hc1, eA cy f1), (hb1, eA cy g1), (h2, eR hw2 hc2 hb2 a2 r2), (hw2, eW false), (hc2, eA cy f2), (hb2, eA cy g2), (ho, eO nv sv)] sz) t) (va_A [(h0, eE h1 h2 kn), (h1, eR hw1 hc1 hb1 a1 r1), (hw1, eW true), (hc1, eA cy f1), (hb1, eA cy g1), (h2, eR hw2 hc2 hb2 a2 r2), (hw2, eW false), (hc2, eA cy f2), (hb2, eA cy g2), (ho, eO nv sv)] sz)) 3 18 (va_A [(h0, eE h1 h2 kn), (h1, eR hw1 hc1 hb1 a1 r1), (hw1, eW true), (hc1, eA cy f1), (hb1, eA cy g1), (h2, eR hw2 hc2 hb2 a2 r2), (hw2, eW false), (hc2, eA cy f2), (hb2, eA cy g2), (ho, eO nv sv)] sz) := by
  refine va_MetW (cc := cL_narrowMin) (maxL := 6) (ret := (some .int)) (by decide +kernel) rfl ?_
  intro p e s m args below meth c s₁ B hml hv
  obtain ⟨rfl, ⟨hsz, hP, hK, hD0, hN, hG⟩, hnc⟩ := hv
  have hx := B.exec
  have hb := B.bytes
  have hr := B.returns
  have hts := atoms_spec (ws := wsL_narrowMin) B.pre
  have hown : s.vm.findClass RL = some m.cls := findClass_of_methodNamed B.named
  have hlocks := B.notSynchronized
  have htab := vx_table (x := yL_narrowMin) B (hts _ List.mem_cons_self)
  subst hsz
  have hAN : ∀ q, va_A [(h0, eE h1 h2 kn), (h1, eR hw1 hc1 hb1 a1 r1), (hw1, eW true), (hc1, eA cy f1), (hb1, eA cy g1), (h2, eR hw2 hc2 hb2 a2 r2), (hw2, eW false), (hc2, eA cy f2), (hb2, eA cy g2), (ho, eO nv sv)] s.heap.size q → N ≤ q := xA_N hD0 hN
  have hD := hD0.self (sz := s.heap.size)
  generalize hAe : va_A [(h0, eE h1 h2 kn), (h1, eR hw1 hc1 hb1 a1 r1), (hw1, eW true), (hc1, eA cy f1), (hb1, eA cy g1), (h2, eR hw2 hc2 hb2 a2 r2), (hw2, eW false), (hc2, eA cy f2), (hb2, eA cy g2), (ho, eO nv sv)] s.heap.size = A at hD hAN ⊢
  have hA : ∀ q : Nat, s.heap.size ≤ q → A q := fun q h => by rw [← hAe]; exact Or.inr h
  have hS : va_S A s.heap s.heap [] := va_S.rf
  have hP : va_P (dC, dI) xCl [(h0, eE h1 h2 kn), (h1, eR hw1 hc1 hb1 a1 r1), (hw1, eW true), (hc1, eA cy f1), (hb1, eA cy g1), (h2, eR hw2 hc2 hb2 a2 r2), (hw2, eW false), (hc2, eA cy f2), (hb2, eA cy g2), (ho, eO nv sv)] s.heap := hP
  have hl := lv_entry ([.ref h0, .int p1, .int p2, .int p3, .ref ho]) (n := 6) (Nat.le_of_ble_eq_true rfl)
  rw [lg_entry_eq]
  generalize (lg_sl ([.ref h0, .int p1, .int p2, .int p3, .ref ho]) ++ List.replicate (6 - (lg_sl ([.ref h0, .int p1, .int p2, .int p3, .ref ho])).length) Slot.unset).toArray = ls at hl ⊢
  have hl : lv_has ls 6 [(0, .ref h0), (1, .int p1), (2, .int p2), (3, .int p3), (4, .ref ho)] := hl
  refine lv_aload hx hb dL_narrowMin_0 (lv_at hl 4 rfl) ?_
  refine lv_aload_n hx hb dL_narrowMin_2 rfl (lv_at hl 0 rfl) ?_
  refine lv_iload_n hx hb dL_narrowMin_3 rfl (lv_at hl 1 rfl) ?_
  refine lv_iload_n hx hb dL_narrowMin_4 rfl (lv_at hl 2 rfl) ?_
  refine lv_iload_n hx hb dL_narrowMin_5 rfl (lv_at hl 3 rfl) ?_
  have hPc := hP.sub (ws' := [(h0, eE h1 h2 kn), (h1, eR hw1 hc1 hb1 a1 r1), (hw1, eW true), (hc1, eA cy f1), (hb1, eA cy g1), (h2, eR hw2 hc2 hb2 a2 r2), (hw2, eW false), (hc2, eA cy f2), (hb2, eA cy g2)]) [0, 1, 2, 3, 4, 5, 6, 7, 8] rfl
  have hDc := hD.sub (ws' := [(h0, eE h1 h2 kn), (h1, eR hw1 hc1 hb1 a1 r1), (hw1, eW true), (hc1, eA cy f1), (hb1, eA cy g1), (h2, eR hw2 hc2 hb2 a2 r2), (hw2, eW false), (hc2, eA cy f2), (hb2, eA cy g2)]) [0, 1, 2, 3, 4, 5, 6, 7, 8] (by decide +kernel) rfl
  have hKc := hK.sub (tys' := [(cy, .long)]) [0] rfl
  have hFc := va_free (wc := [(h0, eE h1 h2 kn), (h1, eR hw1 hc1 hb1 a1 r1), (hw1, eW true), (hc1, eA cy f1), (hb1, eA cy g1), (h2, eR hw2 hc2 hb2 a2 r2), (hw2, eW false), (hc2, eA cy f2), (hb2, eA cy g2)]) hD hS hA [0, 1, 2, 3, 4, 5, 6, 7, 8] rfl
  refine vx_calli (vx_runV (As := [.int p1, .int p2, .int p3]) (rest := [.ref ho]) ⟨hx, hb, hml, hown, hts⟩ (k_X2_narrowMin l hfl dC dI cy h0 h1 hw1 hc1 hb1 h2 hw2 hc2 hb2 a1 r1 f1 g1 a2 r2 f2 g2 kn s.heap.size N p1 p2 p3) (cwV 3 hts gL_narrowMin_X2_narrowMin rfl rfl rfl (by decide +kernel) ⟨Nat.le_of_ble_eq_true rfl, Nat.le_of_ble_eq_true rfl⟩) (xM.preV hKc hPc hDc hAN (Nat.le_trans hN hS.1) (hG.kept hS hAN) (ci := 4) (q0 := 0) rfl rfl) rfl rfl hl.1 rfl (lv_room (Nat.le_of_ble_eq_true rfl)) dL_narrowMin_6 ⟨Nat.le_of_ble_eq_true rfl, Nat.le_of_ble_eq_true rfl⟩) hS (fun q _ h => hFc q h) hFc (fun q _ h => hFc q h) (fun E ce q9 u9 t H locs ht hvm hpx hbx hz hk hS hce hcv hcl => ?_) (fun r_1 u t H locs ht hvm hw hB hz hk hS => ?_)
  · have c_2 : ¬ (o_X2_narrowMin a2 f2 p1 p2 p3).1 = 0 := hpx
    obtain ⟨hbe, hP1, hD1⟩ := hbx
    rw [ht] at hP1
    obtain ⟨hP, hD⟩ := va_join (wr := [(ho, eO nv sv)]) (w1 := [(h0, eE h1 h2 kn), (h1, eR hw1 hc1 hb1 a1 r1), (hw1, eW true), (hc1, eA cy f1), (hb1, eA cy g1), (h2, eR hw2 hc2 hb2 a2 r2), (hw2, eW false), (hc2, eA cy f2), (hb2, eA cy g2)]) hP hD [0, 1, 2, 3, 4, 5, 6, 7, 8] [9] rfl rfl (by decide +kernel) (by decide +kernel) hk hFc hP1 hD1
    have hP := hP.sub (ws' := [(h0, eE h1 h2 kn), (h1, eR hw1 hc1 hb1 a1 r1), (hw1, eW true), (hc1, eA cy f1), (hb1, eA cy g1), (h2, eR hw2 hc2 hb2 a2 r2), (hw2, eW false), (hc2, eA cy f2), (hb2, eA cy g2), (ho, eO nv sv)]) [1, 2, 3, 4, 5, 6, 7, 8, 9, 0] rfl
    have hD := hD.sub (ws' := [(h0, eE h1 h2 kn), (h1, eR hw1 hc1 hb1 a1 r1), (hw1, eW true), (hc1, eA cy f1), (hb1, eA cy g1), (h2, eR hw2 hc2 hb2 a2 r2), (hw2, eW false), (hc2, eA cy f2), (hb2, eA cy g2), (ho, eO nv sv)]) [1, 2, 3, 4, 5, 6, 7, 8, 9, 0] (by decide +kernel) rfl
    have hE : E = "java/lang/IndexOutOfBoundsException" := hbe.trans (by rw [show (o_X2_narrowMin a2 f2 p1 p2 p3).1 = 1 from (xr_X2_narrowMin _ _ _ _ _ c_2)]; rfl)
    subst hE
    refine vx_catch (own := RL) (name := "java/lang/IndexOutOfBoundsException") hown [] ⟨0, 13, 16, 19⟩ [] htab (fun z hz => absurd hz List.not_mem_nil) (by decide +kernel) (by decide +kernel) (hts (.classLink RL 19 "java/lang/IndexOutOfBoundsException") (by decide +kernel)) (va_Nw.use rfl (hG.1 (.castable "java/lang/IndexOutOfBoundsException" "java/lang/IndexOutOfBoundsException") (List.mem_of_getElem? (i := 11) rfl))) hce hcv hcl ?_
    refine lv_astore (lv' := [(5, .ref q9), (0, .ref h0), (1, .int p1), (2, .int p2), (3, .int p3), (4, .ref ho)]) hx hb dL_narrowMin_16 hl (by decide +kernel) rfl (fun ls hl => ?_)
    refine lv_iconst (v := 1) hx hb dL_narrowMin_18 (by decide +kernel) ?_
    have he : o_L_narrowMin a2 f2 nv p1 p2 p3 = (1, a2, f2, nv) := by (rw [o_L_narrowMin, if_neg c_2]) <;> rfl
    refine W.widen (k := 3) (n := 18) (by omega) (by omega) ?_
    exact W.iret (v := 1) hx hb hr (fun t ht hW => ⟨⟨_, (), rfl, (by (rw [he]) <;> rfl), (by rw [he]; exact ⟨by rw [ht]; dsimp only; exact hP, by dsimp only; exact hD⟩)⟩, hS.F ht⟩) hS.2.2 dL_narrowMin_19
  · skip
    obtain ⟨c_3, hw⟩ := hw
    have c_3 : (o_X2_narrowMin a2 f2 p1 p2 p3).1 = 0 := c_3
    replace hw : r_1 = (o_X2_narrowMin a2 f2 p1 p2 p3).2.1 := hw
    subst r_1
    obtain ⟨hP1, hD1⟩ := hB
    rw [ht] at hP1
    obtain ⟨hP, hD⟩ := va_join (wr := [(ho, eO nv sv)]) (w1 := [(h0, eE h1 h2 kn), (h1, eR hw1 hc1 hb1 a1 r1), (hw1, eW true), (hc1, eA cy f1), (hb1, eA cy g1), (h2, eR hw2 hc2 hb2 (o_X2_narrowMin a2 f2 p1 p2 p3).2.2.1 r2), (hw2, eW false), (hc2, eA cy (o_X2_narrowMin a2 f2 p1 p2 p3).2.2.2), (hb2, eA cy g2)]) hP hD [0, 1, 2, 3, 4, 5, 6, 7, 8] [9] rfl rfl (by decide +kernel) (by decide +kernel) hk hFc hP1 hD1
    have hP := hP.sub (ws' := [(h0, eE h1 h2 kn), (h1, eR hw1 hc1 hb1 a1 r1), (hw1, eW true), (hc1, eA cy f1), (hb1, eA cy g1), (h2, eR hw2 hc2 hb2 (o_X2_narrowMin a2 f2 p1 p2 p3).2.2.1 r2), (hw2, eW false), (hc2, eA cy (o_X2_narrowMin a2 f2 p1 p2 p3).2.2.2), (hb2, eA cy g2), (ho, eO nv sv)]) [1, 2, 3, 4, 5, 6, 7, 8, 9, 0] rfl
    have hD := hD.sub (ws' := [(h0, eE h1 h2 kn), (h1, eR hw1 hc1 hb1 a1 r1), (hw1, eW true), (hc1, eA cy f1), (hb1, eA cy g1), (h2, eR hw2 hc2 hb2 (o_X2_narrowMin a2 f2 p1 p2 p3).2.2.1 r2), (hw2, eW false), (hc2, eA cy (o_X2_narrowMin a2 f2 p1 p2 p3).2.2.2), (hb2, eA cy g2), (ho, eO nv sv)]) [1, 2, 3, 4, 5, 6, 7, 8, 9, 0] (by decide +kernel) rfl
    refine lv_i2l (v := (((o_X2_narrowMin a2 f2 p1 p2 p3).2.1).toInt64)) hx hb dL_narrowMin_9 rfl ?_
    refine va_putN (D := (dC, dI)) (ci := 5) (v := .long (((o_X2_narrowMin a2 f2 p1 p2 p3).2.1).toInt64)) (ty := .long) (C := RX3) (T := TX3) (N := 2) hx hb hts (by decide +kernel) tyX3 tyX3_ok nmX3 hown hK hP hD hS 9 rfl rfl 0 (by decide +kernel) (va_Nw.use rfl (hG.1 (.fieldLinkNest RL 13 "EdgefloatsLaw$Out" "n" "J" RL) (List.mem_of_getElem? (i := 6) rfl))) (fun _ h9 => h9) rfl (by decide +kernel) rfl rfl (Nat.le_of_ble_eq_true rfl) dL_narrowMin_10 (fun H locs hP hD hS => ?_)
    have hP : va_P (dC, dI) xCl [(h0, eE h1 h2 kn), (h1, eR hw1 hc1 hb1 a1 r1), (hw1, eW true), (hc1, eA cy f1), (hb1, eA cy g1), (h2, eR hw2 hc2 hb2 (o_X2_narrowMin a2 f2 p1 p2 p3).2.2.1 r2), (hw2, eW false), (hc2, eA cy (o_X2_narrowMin a2 f2 p1 p2 p3).2.2.2), (hb2, eA cy g2), (ho, eO (((o_X2_narrowMin a2 f2 p1 p2 p3).2.1).toInt64) sv)] H := hP
    have hD : va_D A [(h0, eE h1 h2 kn), (h1, eR hw1 hc1 hb1 a1 r1), (hw1, eW true), (hc1, eA cy f1), (hb1, eA cy g1), (h2, eR hw2 hc2 hb2 (o_X2_narrowMin a2 f2 p1 p2 p3).2.2.1 r2), (hw2, eW false), (hc2, eA cy (o_X2_narrowMin a2 f2 p1 p2 p3).2.2.2), (hb2, eA cy g2), (ho, eO (((o_X2_narrowMin a2 f2 p1 p2 p3).2.1).toInt64) sv)] := hD
    refine lv_goto (tgt := 20) hx hb dL_narrowMin_13 (by decide +kernel) ?_
    refine lv_iconst (v := 0) hx hb dL_narrowMin_20 (by decide +kernel) ?_
    have he : o_L_narrowMin a2 f2 nv p1 p2 p3 = (0, (o_X2_narrowMin a2 f2 p1 p2 p3).2.2.1, (o_X2_narrowMin a2 f2 p1 p2 p3).2.2.2, (((o_X2_narrowMin a2 f2 p1 p2 p3).2.1).toInt64)) := by (rw [o_L_narrowMin, if_pos c_3]) <;> rfl
    refine W.widen (k := 3) (n := 18) (by omega) (by omega) ?_
    exact W.iret (v := 0) hx hb hr (fun t ht hW => ⟨⟨_, (), rfl, (by (rw [he]) <;> rfl), (by rw [he]; exact ⟨by rw [ht]; dsimp only; exact hP, by dsimp only; exact hD⟩)⟩, hS.F ht⟩) hS.2.2 dL_narrowMin_21
theorem cl_L_narrowSum_1 : ∀ w ∈ wsL_narrowSum_r1, w ∈ wsL_narrowSum := fun _ h => (List.mem_cons_of_mem _ (List.mem_append_left _ (List.mem_append_left _ (List.mem_append_left _ (List.mem_append_left _ (List.mem_append_left _ (List.mem_append_left _ h)))))))
theorem cl_L_narrowSum_2 : ∀ w ∈ wsL_narrowSum_r2, w ∈ wsL_narrowSum := fun _ h => (List.mem_cons_of_mem _ (List.mem_append_left _ (List.mem_append_left _ (List.mem_append_left _ (List.mem_append_left _ (List.mem_append_left _ (List.mem_append_right _ (List.mem_append_left _ h))))))))
theorem cl_L_narrowSum_3 : ∀ w ∈ wsL_narrowSum_r3, w ∈ wsL_narrowSum := fun _ h => (List.mem_cons_of_mem _ (List.mem_append_left _ (List.mem_append_left _ (List.mem_append_left _ (List.mem_append_left _ (List.mem_append_left _ (List.mem_append_right _ (List.mem_append_right _ (List.mem_append_left _ h)))))))))
theorem cl_L_narrowSum_4 : ∀ w ∈ wsL_narrowSum_r4, w ∈ wsL_narrowSum := fun _ h => (List.mem_cons_of_mem _ (List.mem_append_left _ (List.mem_append_left _ (List.mem_append_left _ (List.mem_append_left _ (List.mem_append_left _ (List.mem_append_right _ (List.mem_append_right _ (List.mem_append_right _ h)))))))))
theorem cl_L_narrowSum_5 : ∀ w ∈ wsX30, w ∈ wsL_narrowSum := fun _ h => (List.mem_cons_of_mem _ (List.mem_append_left _ (List.mem_append_left _ (List.mem_append_left _ (List.mem_append_left _ (List.mem_append_right _ h))))))
theorem cl_L_narrowSum_6 : ∀ w ∈ wsX20, w ∈ wsL_narrowSum := fun _ h => (List.mem_cons_of_mem _ (List.mem_append_left _ (List.mem_append_left _ (List.mem_append_left _ (List.mem_append_right _ h)))))
theorem cl_L_narrowSum_7 : ∀ w ∈ wsX00, w ∈ wsL_narrowSum := fun _ h => (List.mem_cons_of_mem _ (List.mem_append_left _ (List.mem_append_left _ (List.mem_append_right _ h))))
theorem cl_L_narrowSum_8 : ∀ w ∈ wsX10, w ∈ wsL_narrowSum := fun _ h => (List.mem_cons_of_mem _ (List.mem_append_left _ (List.mem_append_right _ h)))
theorem cl_L_narrowSum_9 : ∀ w ∈ (vx_atS RX2 152 "java/lang/IndexOutOfBoundsException" ["java/lang/RuntimeException", "java/lang/Exception"]).filter goodWord, w ∈ wsL_narrowSum := fun _ h => (List.mem_cons_of_mem _ (List.mem_append_right _ h))
set_option maxRecDepth 20000 in
theorem ggL_narrowSum_X2_narrowSum : GoodIn wsL_narrowSum wsX2_narrowSum := goodIn_sub (List.forall_mem_cons.mpr ⟨(cl_L_narrowSum_1 _ (List.mem_of_getElem? (i := 5) rfl)), fun w h => (List.mem_append.mp h).elim ((fun w h => (List.mem_append.mp h).elim ((fun w h => (List.mem_append.mp h).elim ((fun w h => (List.mem_append.mp h).elim ((fun w h => (List.mem_append.mp h).elim ((List.forall_mem_cons.mpr ⟨(cl_L_narrowSum_1 _ (List.mem_of_getElem? (i := 6) rfl)), List.forall_mem_cons.mpr ⟨(cl_L_narrowSum_1 _ (List.mem_of_getElem? (i := 7) rfl)), List.forall_mem_cons.mpr ⟨(cl_L_narrowSum_1 _ (List.mem_of_getElem? (i := 8) rfl)), List.forall_mem_cons.mpr ⟨(cl_L_narrowSum_1 _ (List.mem_of_getElem? (i := 9) rfl)), List.forall_mem_cons.mpr ⟨(cl_L_narrowSum_1 _ (List.mem_of_getElem? (i := 10) rfl)), List.forall_mem_cons.mpr ⟨(cl_L_narrowSum_1 _ (List.mem_of_getElem? (i := 11) rfl)), List.forall_mem_cons.mpr ⟨(cl_L_narrowSum_1 _ (List.mem_of_getElem? (i := 12) rfl)), List.forall_mem_cons.mpr ⟨(cl_L_narrowSum_1 _ (List.mem_of_getElem? (i := 13) rfl)), List.forall_mem_cons.mpr ⟨(cl_L_narrowSum_1 _ (List.mem_of_getElem? (i := 14) rfl)), List.forall_mem_cons.mpr ⟨(cl_L_narrowSum_1 _ (List.mem_of_getElem? (i := 15) rfl)), List.forall_mem_cons.mpr ⟨(cl_L_narrowSum_1 _ (List.mem_of_getElem? (i := 16) rfl)), List.forall_mem_cons.mpr ⟨(cl_L_narrowSum_1 _ (List.mem_of_getElem? (i := 17) rfl)), List.forall_mem_cons.mpr ⟨(cl_L_narrowSum_1 _ (List.mem_of_getElem? (i := 4) rfl)), List.forall_mem_cons.mpr ⟨(cl_L_narrowSum_1 _ (List.mem_of_getElem? (i := 18) rfl)), List.forall_mem_cons.mpr ⟨(cl_L_narrowSum_1 _ (List.mem_of_getElem? (i := 19) rfl)), List.forall_mem_cons.mpr ⟨(cl_L_narrowSum_1 _ (List.mem_of_getElem? (i := 20) rfl)), List.forall_mem_cons.mpr ⟨(cl_L_narrowSum_1 _ (List.mem_of_getElem? (i := 21) rfl)), List.forall_mem_cons.mpr ⟨(cl_L_narrowSum_1 _ (List.mem_of_getElem? (i := 22) rfl)), List.forall_mem_cons.mpr ⟨(cl_L_narrowSum_1 _ (List.mem_of_getElem? (i := 23) rfl)), List.forall_mem_cons.mpr ⟨(cl_L_narrowSum_2 _ (List.mem_of_getElem? (i := 0) rfl)), List.forall_mem_cons.mpr ⟨(cl_L_narrowSum_2 _ (List.mem_of_getElem? (i := 1) rfl)), List.forall_mem_cons.mpr ⟨(cl_L_narrowSum_2 _ (List.mem_of_getElem? (i := 2) rfl)), List.forall_mem_cons.mpr ⟨(cl_L_narrowSum_2 _ (List.mem_of_getElem? (i := 3) rfl)), List.forall_mem_cons.mpr ⟨(cl_L_narrowSum_2 _ (List.mem_of_getElem? (i := 4) rfl)), fun _ h => absurd h List.not_mem_nil⟩⟩⟩⟩⟩⟩⟩⟩⟩⟩⟩⟩⟩⟩⟩⟩⟩⟩⟩⟩⟩⟩⟩⟩) w) ((fun w h => (List.mem_append.mp h).elim ((List.forall_mem_cons.mpr ⟨(cl_L_narrowSum_2 _ (List.mem_of_getElem? (i := 5) rfl)), List.forall_mem_cons.mpr ⟨(cl_L_narrowSum_2 _ (List.mem_of_getElem? (i := 6) rfl)), List.forall_mem_cons.mpr ⟨(cl_L_narrowSum_2 _ (List.mem_of_getElem? (i := 7) rfl)), List.forall_mem_cons.mpr ⟨(cl_L_narrowSum_2 _ (List.mem_of_getElem? (i := 8) rfl)), List.forall_mem_cons.mpr ⟨(cl_L_narrowSum_2 _ (List.mem_of_getElem? (i := 9) rfl)), List.forall_mem_cons.mpr ⟨(cl_L_narrowSum_2 _ (List.mem_of_getElem? (i := 10) rfl)), List.forall_mem_cons.mpr ⟨(cl_L_narrowSum_2 _ (List.mem_of_getElem? (i := 11) rfl)), List.forall_mem_cons.mpr ⟨(cl_L_narrowSum_2 _ (List.mem_of_getElem? (i := 12) rfl)), List.forall_mem_cons.mpr ⟨(cl_L_narrowSum_2 _ (List.mem_of_getElem? (i := 13) rfl)), List.forall_mem_cons.mpr ⟨(cl_L_narrowSum_2 _ (List.mem_of_getElem? (i := 14) rfl)), List.forall_mem_cons.mpr ⟨(cl_L_narrowSum_2 _ (List.mem_of_getElem? (i := 15) rfl)), List.forall_mem_cons.mpr ⟨(cl_L_narrowSum_2 _ (List.mem_of_getElem? (i := 16) rfl)), List.forall_mem_cons.mpr ⟨(cl_L_narrowSum_2 _ (List.mem_of_getElem? (i := 17) rfl)), List.forall_mem_cons.mpr ⟨(cl_L_narrowSum_2 _ (List.mem_of_getElem? (i := 18) rfl)), List.forall_mem_cons.mpr ⟨(cl_L_narrowSum_2 _ (List.mem_of_getElem? (i := 19) rfl)), List.forall_mem_cons.mpr ⟨(cl_L_narrowSum_2 _ (List.mem_of_getElem? (i := 20) rfl)), List.forall_mem_cons.mpr ⟨(cl_L_narrowSum_2 _ (List.mem_of_getElem? (i := 21) rfl)), List.forall_mem_cons.mpr ⟨(cl_L_narrowSum_2 _ (List.mem_of_getElem? (i := 22) rfl)), List.forall_mem_cons.mpr ⟨(cl_L_narrowSum_2 _ (List.mem_of_getElem? (i := 23) rfl)), List.forall_mem_cons.mpr ⟨(cl_L_narrowSum_3 _ (List.mem_of_getElem? (i := 0) rfl)), List.forall_mem_cons.mpr ⟨(cl_L_narrowSum_3 _ (List.mem_of_getElem? (i := 1) rfl)), List.forall_mem_cons.mpr ⟨(cl_L_narrowSum_3 _ (List.mem_of_getElem? (i := 2) rfl)), List.forall_mem_cons.mpr ⟨(cl_L_narrowSum_3 _ (List.mem_of_getElem? (i := 3) rfl)), List.forall_mem_cons.mpr ⟨(cl_L_narrowSum_3 _ (List.mem_of_getElem? (i := 4) rfl)), fun _ h => absurd h List.not_mem_nil⟩⟩⟩⟩⟩⟩⟩⟩⟩⟩⟩⟩⟩⟩⟩⟩⟩⟩⟩⟩⟩⟩⟩⟩) w) ((fun w h => (List.mem_append.mp h).elim ((List.forall_mem_cons.mpr ⟨(cl_L_narrowSum_3 _ (List.mem_of_getElem? (i := 5) rfl)), List.forall_mem_cons.mpr ⟨(cl_L_narrowSum_3 _ (List.mem_of_getElem? (i := 6) rfl)), List.forall_mem_cons.mpr ⟨(cl_L_narrowSum_3 _ (List.mem_of_getElem? (i := 7) rfl)), List.forall_mem_cons.mpr ⟨(cl_L_narrowSum_3 _ (List.mem_of_getElem? (i := 8) rfl)), List.forall_mem_cons.mpr ⟨(cl_L_narrowSum_3 _ (List.mem_of_getElem? (i := 9) rfl)), List.forall_mem_cons.mpr ⟨(cl_L_narrowSum_3 _ (List.mem_of_getElem? (i := 10) rfl)), List.forall_mem_cons.mpr ⟨(cl_L_narrowSum_3 _ (List.mem_of_getElem? (i := 11) rfl)), List.forall_mem_cons.mpr ⟨(cl_L_narrowSum_3 _ (List.mem_of_getElem? (i := 12) rfl)), List.forall_mem_cons.mpr ⟨(cl_L_narrowSum_3 _ (List.mem_of_getElem? (i := 13) rfl)), List.forall_mem_cons.mpr ⟨(cl_L_narrowSum_3 _ (List.mem_of_getElem? (i := 14) rfl)), List.forall_mem_cons.mpr ⟨(cl_L_narrowSum_3 _ (List.mem_of_getElem? (i := 15) rfl)), List.forall_mem_cons.mpr ⟨(cl_L_narrowSum_3 _ (List.mem_of_getElem? (i := 16) rfl)), List.forall_mem_cons.mpr ⟨(cl_L_narrowSum_3 _ (List.mem_of_getElem? (i := 17) rfl)), List.forall_mem_cons.mpr ⟨(cl_L_narrowSum_3 _ (List.mem_of_getElem? (i := 18) rfl)), List.forall_mem_cons.mpr ⟨(cl_L_narrowSum_3 _ (List.mem_of_getElem? (i := 19) rfl)), List.forall_mem_cons.mpr ⟨(cl_L_narrowSum_3 _ (List.mem_of_getElem? (i := 20) rfl)), List.forall_mem_cons.mpr ⟨(cl_L_narrowSum_3 _ (List.mem_of_getElem? (i := 21) rfl)), List.forall_mem_cons.mpr ⟨(cl_L_narrowSum_3 _ (List.mem_of_getElem? (i := 22) rfl)), List.forall_mem_cons.mpr ⟨(cl_L_narrowSum_3 _ (List.mem_of_getElem? (i := 23) rfl)), List.forall_mem_cons.mpr ⟨(cl_L_narrowSum_4 _ (List.mem_of_getElem? (i := 0) rfl)), List.forall_mem_cons.mpr ⟨(cl_L_narrowSum_4 _ (List.mem_of_getElem? (i := 1) rfl)), List.forall_mem_cons.mpr ⟨(cl_L_narrowSum_4 _ (List.mem_of_getElem? (i := 2) rfl)), List.forall_mem_cons.mpr ⟨(cl_L_narrowSum_4 _ (List.mem_of_getElem? (i := 3) rfl)), List.forall_mem_cons.mpr ⟨(cl_L_narrowSum_4 _ (List.mem_of_getElem? (i := 4) rfl)), fun _ h => absurd h List.not_mem_nil⟩⟩⟩⟩⟩⟩⟩⟩⟩⟩⟩⟩⟩⟩⟩⟩⟩⟩⟩⟩⟩⟩⟩⟩) w) ((List.forall_mem_cons.mpr ⟨(cl_L_narrowSum_4 _ (List.mem_of_getElem? (i := 5) rfl)), List.forall_mem_cons.mpr ⟨(cl_L_narrowSum_4 _ (List.mem_of_getElem? (i := 6) rfl)), List.forall_mem_cons.mpr ⟨(cl_L_narrowSum_4 _ (List.mem_of_getElem? (i := 7) rfl)), List.forall_mem_cons.mpr ⟨(cl_L_narrowSum_4 _ (List.mem_of_getElem? (i := 8) rfl)), List.forall_mem_cons.mpr ⟨(cl_L_narrowSum_4 _ (List.mem_of_getElem? (i := 9) rfl)), List.forall_mem_cons.mpr ⟨(cl_L_narrowSum_4 _ (List.mem_of_getElem? (i := 10) rfl)), List.forall_mem_cons.mpr ⟨(cl_L_narrowSum_4 _ (List.mem_of_getElem? (i := 11) rfl)), fun _ h => absurd h List.not_mem_nil⟩⟩⟩⟩⟩⟩⟩) w)) w)) w)) w) ((cl_L_narrowSum_6) w)) w) ((cl_L_narrowSum_7) w)) w) ((cl_L_narrowSum_8) w)) w) ((cl_L_narrowSum_9) w)⟩) (by decide +kernel)
set_option maxRecDepth 20000 in
theorem gL_narrowSum_X2_narrowSum : GoodIn wsL_narrowSum (wsV RL 123 RX2 yX2_narrowSum wsX2_narrowSum) := goodIn_app (goodIn_sub (List.forall_mem_cons.mpr ⟨(cl_L_narrowSum_1 _ (List.mem_of_getElem? (i := 1) rfl)), List.forall_mem_cons.mpr ⟨(cl_L_narrowSum_1 _ (List.mem_of_getElem? (i := 2) rfl)), List.forall_mem_cons.mpr ⟨(cl_L_narrowSum_1 _ (List.mem_of_getElem? (i := 3) rfl)), List.forall_mem_cons.mpr ⟨(cl_L_narrowSum_1 _ (List.mem_of_getElem? (i := 4) rfl)), fun _ h => absurd h List.not_mem_nil⟩⟩⟩⟩) (by decide +kernel)) ggL_narrowSum_X2_narrowSum
noncomputable def dz_p16_30 : List (Nat × Instr × Nat) := [(0, (.aload 4, 2)), (2, (.aload_n 0, 1)), (3, (.iload_n 1, 1)), (4, (.iload_n 2, 1)), (5, (.iload_n 3, 1)), (6, (.invokevirtual 123, 3)), (9, (.i2l, 1)), (10, (.putfield 13, 3)), (13, (.goto 7, 3)), (16, (.astore 5, 2)), (18, (.iconst 1, 1)), (19, (.ireturn, 1)), (20, (.iconst 0, 1)), (21, (.ireturn, 1))]
theorem dy_p16_30 : dz_ok cL_narrowSum dz_p16_30 = true := by decide +kernel
theorem dL_narrowSum_0 : decode cL_narrowSum 0 = .ok (.aload 4, 2) := dz_at (i := 0) dy_p16_30 rfl
theorem dL_narrowSum_2 : decode cL_narrowSum 2 = .ok (.aload_n 0, 1) := dz_at (i := 1) dy_p16_30 rfl
theorem dL_narrowSum_3 : decode cL_narrowSum 3 = .ok (.iload_n 1, 1) := dz_at (i := 2) dy_p16_30 rfl
theorem dL_narrowSum_4 : decode cL_narrowSum 4 = .ok (.iload_n 2, 1) := dz_at (i := 3) dy_p16_30 rfl
theorem dL_narrowSum_5 : decode cL_narrowSum 5 = .ok (.iload_n 3, 1) := dz_at (i := 4) dy_p16_30 rfl
theorem dL_narrowSum_6 : decode cL_narrowSum 6 = .ok (.invokevirtual 123, 3) := dz_at (i := 5) dy_p16_30 rfl
theorem dL_narrowSum_9 : decode cL_narrowSum 9 = .ok (.i2l, 1) := dz_at (i := 6) dy_p16_30 rfl
theorem dL_narrowSum_10 : decode cL_narrowSum 10 = .ok (.putfield 13, 3) := dz_at (i := 7) dy_p16_30 rfl
theorem dL_narrowSum_13 : decode cL_narrowSum 13 = .ok (.goto 7, 3) := dz_at (i := 8) dy_p16_30 rfl
theorem dL_narrowSum_16 : decode cL_narrowSum 16 = .ok (.astore 5, 2) := dz_at (i := 9) dy_p16_30 rfl
theorem dL_narrowSum_18 : decode cL_narrowSum 18 = .ok (.iconst 1, 1) := dz_at (i := 10) dy_p16_30 rfl
theorem dL_narrowSum_19 : decode cL_narrowSum 19 = .ok (.ireturn, 1) := dz_at (i := 11) dy_p16_30 rfl
theorem dL_narrowSum_20 : decode cL_narrowSum 20 = .ok (.iconst 0, 1) := dz_at (i := 12) dy_p16_30 rfl
theorem dL_narrowSum_21 : decode cL_narrowSum 21 = .ok (.ireturn, 1) := dz_at (i := 13) dy_p16_30 rfl
noncomputable def o_L_narrowSum (a2 : Int32) (r2 : Int32) (f2 : Nat → Int64) (nv : Int64) (p1 : Int32) (p2 : Int32) (p3 : Int32) : Int32 × Int32 × Int32 × (Nat → Int64) × Int64 :=
  if (o_X2_narrowSum a2 r2 f2 p1 p2 p3).1 = 0 then (0, (o_X2_narrowSum a2 r2 f2 p1 p2 p3).2.2.1, (o_X2_narrowSum a2 r2 f2 p1 p2 p3).2.2.2.1, (o_X2_narrowSum a2 r2 f2 p1 p2 p3).2.2.2.2, (((o_X2_narrowSum a2 r2 f2 p1 p2 p3).2.1).toInt64))
  else (1, a2, r2, f2, nv)
set_option maxHeartbeats 4000000 in
set_option maxRecDepth 100000 in
theorem k_L_narrowSum (l : Launch) (hfl : l.flags = flags0) (dC : Nat → ClassId) (dI : Nat → Nat → Nat) (cy : ClassId) (h0 : Nat) (h1 : Nat) (hw1 : Nat) (hc1 : Nat) (hb1 : Nat) (h2 : Nat) (hw2 : Nat) (hc2 : Nat) (hb2 : Nat) (a1 : Int32) (r1 : Int32) (f1 : Nat → Int64) (g1 : Nat → Int64) (a2 : Int32) (r2 : Int32) (f2 : Nat → Int64) (g2 : Nat → Int64) (kn : Int32) (ho : Nat) (nv : Int64) (sv : Value) (sz : Nat) (N : Nat) (p1 : Int32) (p2 : Int32) (p3 : Int32) : Met l yL_narrowSum wsL_narrowSum ({ frames := 10, cells := 3, slots := 18, locals := 188 }) (va_Pc [.ref h0, .int p1, .int p2, .int p3, .ref ho] (xL (dC, dI) xCl [(h0, eE h1 h2 kn), (h1, eR hw1 hc1 hb1 a1 r1), (hw1, eW true), (hc1, eA cy f1), (hb1, eA cy g1), (h2, eR hw2 hc2 hb2 a2 r2), (hw2, eW false), (hc2, eA cy f2), (hb2, eA cy g2), (ho, eO nv sv)] [(cy, .long)] sz N)) (va_Qi (fun (r : Int32) (_ : Unit) => r = (o_L_narrowSum a2 r2 f2 nv p1 p2 p3).1) (fun _ t => xW (dC, dI) xCl [(h0, eE h1 h2 kn), (h1, eR hw1 hc1 hb1 a1 r1), (hw1, eW true), (hc1, eA cy f1), (hb1, eA cy g1), (h2, eR hw2 hc2 hb2 (o_L_narrowSum a2 r2 f2 nv p1 p2 p3).2.1 (o_L_narrowSum a2 r2 f2 nv p1 p2 p3).2.2.1), (hw2, eW false), (hc2, eA cy (o_L_narrowSum a2 r2 f2 nv p1 p2 p3).2.2.2.1), (hb2, eA cy g2), (ho, eO (o_L_narrowSum a2 r2 f2 nv p1 p2 p3).2.2.2.2 sv)] (va_A [(h0, eE h1 h2 kn), (h1, eR hw1 hc1 hb1 a1 r1), (hw1, eW true), (hc1, eA cy f1), (hb1, eA cy g1), (h2, eR hw2 hc2 hb2 a2 r2), (hw2, eW false), (hc2, eA cy f2), (hb2, eA cy g2), (ho, eO nv sv)] sz) t) (va_A [(h0, eE h1 h2 kn), (h1, eR hw1 hc1 hb1 a1 r1), (hw1, eW true), (hc1, eA cy f1), (hb1, eA cy g1), (h2, eR hw2 hc2 hb2 a2 r2), (hw2, eW false), (hc2, eA cy f2), (hb2, eA cy g2), (ho, eO nv sv)] sz)) 3 18 (va_A [(h0, eE h1 h2 kn), (h1, eR hw1 hc1 hb1 a1 r1), (hw1, eW true), (hc1, eA cy f1), (hb1, eA cy g1), (h2, eR hw2 hc2 hb2 a2 r2), (hw2, eW false), (hc2, eA cy f2), (hb2, eA cy g2), (ho, eO nv sv)] sz) := by
  refine va_MetW (cc := cL_narrowSum) (maxL := 6) (ret := (some .int)) (by decide +kernel) rfl ?_
  intro p e s m args below meth c s₁ B hml hv
  obtain ⟨rfl, ⟨hsz, hP, hK, hD0, hN, hG⟩, hnc⟩ := hv
  have hx := B.exec
  have hb := B.bytes
  have hr := B.returns
  have hts := atoms_spec (ws := wsL_narrowSum) B.pre
  have hown : s.vm.findClass RL = some m.cls := findClass_of_methodNamed B.named
  have hlocks := B.notSynchronized
  have htab := vx_table (x := yL_narrowSum) B (hts _ List.mem_cons_self)
  subst hsz
  have hAN : ∀ q, va_A [(h0, eE h1 h2 kn), (h1, eR hw1 hc1 hb1 a1 r1), (hw1, eW true), (hc1, eA cy f1), (hb1, eA cy g1), (h2, eR hw2 hc2 hb2 a2 r2), (hw2, eW false), (hc2, eA cy f2), (hb2, eA cy g2), (ho, eO nv sv)] s.heap.size q → N ≤ q := xA_N hD0 hN
  have hD := hD0.self (sz := s.heap.size)
  generalize hAe : va_A [(h0, eE h1 h2 kn), (h1, eR hw1 hc1 hb1 a1 r1), (hw1, eW true), (hc1, eA cy f1), (hb1, eA cy g1), (h2, eR hw2 hc2 hb2 a2 r2), (hw2, eW false), (hc2, eA cy f2), (hb2, eA cy g2), (ho, eO nv sv)] s.heap.size = A at hD hAN ⊢
  have hA : ∀ q : Nat, s.heap.size ≤ q → A q := fun q h => by rw [← hAe]; exact Or.inr h
  have hS : va_S A s.heap s.heap [] := va_S.rf
  have hP : va_P (dC, dI) xCl [(h0, eE h1 h2 kn), (h1, eR hw1 hc1 hb1 a1 r1), (hw1, eW true), (hc1, eA cy f1), (hb1, eA cy g1), (h2, eR hw2 hc2 hb2 a2 r2), (hw2, eW false), (hc2, eA cy f2), (hb2, eA cy g2), (ho, eO nv sv)] s.heap := hP
  have hl := lv_entry ([.ref h0, .int p1, .int p2, .int p3, .ref ho]) (n := 6) (Nat.le_of_ble_eq_true rfl)
  rw [lg_entry_eq]
  generalize (lg_sl ([.ref h0, .int p1, .int p2, .int p3, .ref ho]) ++ List.replicate (6 - (lg_sl ([.ref h0, .int p1, .int p2, .int p3, .ref ho])).length) Slot.unset).toArray = ls at hl ⊢
  have hl : lv_has ls 6 [(0, .ref h0), (1, .int p1), (2, .int p2), (3, .int p3), (4, .ref ho)] := hl
  refine lv_aload hx hb dL_narrowSum_0 (lv_at hl 4 rfl) ?_
  refine lv_aload_n hx hb dL_narrowSum_2 rfl (lv_at hl 0 rfl) ?_
  refine lv_iload_n hx hb dL_narrowSum_3 rfl (lv_at hl 1 rfl) ?_
  refine lv_iload_n hx hb dL_narrowSum_4 rfl (lv_at hl 2 rfl) ?_
  refine lv_iload_n hx hb dL_narrowSum_5 rfl (lv_at hl 3 rfl) ?_
  have hPc := hP.sub (ws' := [(h0, eE h1 h2 kn), (h1, eR hw1 hc1 hb1 a1 r1), (hw1, eW true), (hc1, eA cy f1), (hb1, eA cy g1), (h2, eR hw2 hc2 hb2 a2 r2), (hw2, eW false), (hc2, eA cy f2), (hb2, eA cy g2)]) [0, 1, 2, 3, 4, 5, 6, 7, 8] rfl
  have hDc := hD.sub (ws' := [(h0, eE h1 h2 kn), (h1, eR hw1 hc1 hb1 a1 r1), (hw1, eW true), (hc1, eA cy f1), (hb1, eA cy g1), (h2, eR hw2 hc2 hb2 a2 r2), (hw2, eW false), (hc2, eA cy f2), (hb2, eA cy g2)]) [0, 1, 2, 3, 4, 5, 6, 7, 8] (by decide +kernel) rfl
  have hKc := hK.sub (tys' := [(cy, .long)]) [0] rfl
  have hFc := va_free (wc := [(h0, eE h1 h2 kn), (h1, eR hw1 hc1 hb1 a1 r1), (hw1, eW true), (hc1, eA cy f1), (hb1, eA cy g1), (h2, eR hw2 hc2 hb2 a2 r2), (hw2, eW false), (hc2, eA cy f2), (hb2, eA cy g2)]) hD hS hA [0, 1, 2, 3, 4, 5, 6, 7, 8] rfl
  refine vx_calli (vx_runV (As := [.int p1, .int p2, .int p3]) (rest := [.ref ho]) ⟨hx, hb, hml, hown, hts⟩ (k_X2_narrowSum l hfl dC dI cy h0 h1 hw1 hc1 hb1 h2 hw2 hc2 hb2 a1 r1 f1 g1 a2 r2 f2 g2 kn s.heap.size N p1 p2 p3) (cwV 3 hts gL_narrowSum_X2_narrowSum rfl rfl rfl (by decide +kernel) ⟨Nat.le_of_ble_eq_true rfl, Nat.le_of_ble_eq_true rfl⟩) (xM.preV hKc hPc hDc hAN (Nat.le_trans hN hS.1) (hG.kept hS hAN) (ci := 4) (q0 := 0) rfl rfl) rfl rfl hl.1 rfl (lv_room (Nat.le_of_ble_eq_true rfl)) dL_narrowSum_6 ⟨Nat.le_of_ble_eq_true rfl, Nat.le_of_ble_eq_true rfl⟩) hS (fun q _ h => hFc q h) hFc (fun q _ h => hFc q h) (fun E ce q9 u9 t H locs ht hvm hpx hbx hz hk hS hce hcv hcl => ?_) (fun r_1 u t H locs ht hvm hw hB hz hk hS => ?_)
  · have c_2 : ¬ (o_X2_narrowSum a2 r2 f2 p1 p2 p3).1 = 0 := hpx
    obtain ⟨hbe, hP1, hD1⟩ := hbx
    rw [ht] at hP1
    obtain ⟨hP, hD⟩ := va_join (wr := [(ho, eO nv sv)]) (w1 := [(h0, eE h1 h2 kn), (h1, eR hw1 hc1 hb1 a1 r1), (hw1, eW true), (hc1, eA cy f1), (hb1, eA cy g1), (h2, eR hw2 hc2 hb2 a2 r2), (hw2, eW false), (hc2, eA cy f2), (hb2, eA cy g2)]) hP hD [0, 1, 2, 3, 4, 5, 6, 7, 8] [9] rfl rfl (by decide +kernel) (by decide +kernel) hk hFc hP1 hD1
    have hP := hP.sub (ws' := [(h0, eE h1 h2 kn), (h1, eR hw1 hc1 hb1 a1 r1), (hw1, eW true), (hc1, eA cy f1), (hb1, eA cy g1), (h2, eR hw2 hc2 hb2 a2 r2), (hw2, eW false), (hc2, eA cy f2), (hb2, eA cy g2), (ho, eO nv sv)]) [1, 2, 3, 4, 5, 6, 7, 8, 9, 0] rfl
    have hD := hD.sub (ws' := [(h0, eE h1 h2 kn), (h1, eR hw1 hc1 hb1 a1 r1), (hw1, eW true), (hc1, eA cy f1), (hb1, eA cy g1), (h2, eR hw2 hc2 hb2 a2 r2), (hw2, eW false), (hc2, eA cy f2), (hb2, eA cy g2), (ho, eO nv sv)]) [1, 2, 3, 4, 5, 6, 7, 8, 9, 0] (by decide +kernel) rfl
    have hE : E = "java/lang/IndexOutOfBoundsException" := hbe.trans (by rw [show (o_X2_narrowSum a2 r2 f2 p1 p2 p3).1 = 1 from (xr_X2_narrowSum _ _ _ _ _ _ c_2)]; rfl)
    subst hE
    refine vx_catch (own := RL) (name := "java/lang/IndexOutOfBoundsException") hown [] ⟨0, 13, 16, 19⟩ [] htab (fun z hz => absurd hz List.not_mem_nil) (by decide +kernel) (by decide +kernel) (hts (.classLink RL 19 "java/lang/IndexOutOfBoundsException") (by decide +kernel)) (va_Nw.use rfl (hG.1 (.castable "java/lang/IndexOutOfBoundsException" "java/lang/IndexOutOfBoundsException") (List.mem_of_getElem? (i := 11) rfl))) hce hcv hcl ?_
    refine lv_astore (lv' := [(5, .ref q9), (0, .ref h0), (1, .int p1), (2, .int p2), (3, .int p3), (4, .ref ho)]) hx hb dL_narrowSum_16 hl (by decide +kernel) rfl (fun ls hl => ?_)
    refine lv_iconst (v := 1) hx hb dL_narrowSum_18 (by decide +kernel) ?_
    have he : o_L_narrowSum a2 r2 f2 nv p1 p2 p3 = (1, a2, r2, f2, nv) := by (rw [o_L_narrowSum, if_neg c_2]) <;> rfl
    refine W.widen (k := 3) (n := 18) (by omega) (by omega) ?_
    exact W.iret (v := 1) hx hb hr (fun t ht hW => ⟨⟨_, (), rfl, (by (rw [he]) <;> rfl), (by rw [he]; exact ⟨by rw [ht]; dsimp only; exact hP, by dsimp only; exact hD⟩)⟩, hS.F ht⟩) hS.2.2 dL_narrowSum_19
  · skip
    obtain ⟨c_3, hw⟩ := hw
    have c_3 : (o_X2_narrowSum a2 r2 f2 p1 p2 p3).1 = 0 := c_3
    replace hw : r_1 = (o_X2_narrowSum a2 r2 f2 p1 p2 p3).2.1 := hw
    subst r_1
    obtain ⟨hP1, hD1⟩ := hB
    rw [ht] at hP1
    obtain ⟨hP, hD⟩ := va_join (wr := [(ho, eO nv sv)]) (w1 := [(h0, eE h1 h2 kn), (h1, eR hw1 hc1 hb1 a1 r1), (hw1, eW true), (hc1, eA cy f1), (hb1, eA cy g1), (h2, eR hw2 hc2 hb2 (o_X2_narrowSum a2 r2 f2 p1 p2 p3).2.2.1 (o_X2_narrowSum a2 r2 f2 p1 p2 p3).2.2.2.1), (hw2, eW false), (hc2, eA cy (o_X2_narrowSum a2 r2 f2 p1 p2 p3).2.2.2.2), (hb2, eA cy g2)]) hP hD [0, 1, 2, 3, 4, 5, 6, 7, 8] [9] rfl rfl (by decide +kernel) (by decide +kernel) hk hFc hP1 hD1
    have hP := hP.sub (ws' := [(h0, eE h1 h2 kn), (h1, eR hw1 hc1 hb1 a1 r1), (hw1, eW true), (hc1, eA cy f1), (hb1, eA cy g1), (h2, eR hw2 hc2 hb2 (o_X2_narrowSum a2 r2 f2 p1 p2 p3).2.2.1 (o_X2_narrowSum a2 r2 f2 p1 p2 p3).2.2.2.1), (hw2, eW false), (hc2, eA cy (o_X2_narrowSum a2 r2 f2 p1 p2 p3).2.2.2.2), (hb2, eA cy g2), (ho, eO nv sv)]) [1, 2, 3, 4, 5, 6, 7, 8, 9, 0] rfl
    have hD := hD.sub (ws' := [(h0, eE h1 h2 kn), (h1, eR hw1 hc1 hb1 a1 r1), (hw1, eW true), (hc1, eA cy f1), (hb1, eA cy g1), (h2, eR hw2 hc2 hb2 (o_X2_narrowSum a2 r2 f2 p1 p2 p3).2.2.1 (o_X2_narrowSum a2 r2 f2 p1 p2 p3).2.2.2.1), (hw2, eW false), (hc2, eA cy (o_X2_narrowSum a2 r2 f2 p1 p2 p3).2.2.2.2), (hb2, eA cy g2), (ho, eO nv sv)]) [1, 2, 3, 4, 5, 6, 7, 8, 9, 0] (by decide +kernel) rfl
    refine lv_i2l (v := (((o_X2_narrowSum a2 r2 f2 p1 p2 p3).2.1).toInt64)) hx hb dL_narrowSum_9 rfl ?_
    refine va_putN (D := (dC, dI)) (ci := 5) (v := .long (((o_X2_narrowSum a2 r2 f2 p1 p2 p3).2.1).toInt64)) (ty := .long) (C := RX3) (T := TX3) (N := 2) hx hb hts (by decide +kernel) tyX3 tyX3_ok nmX3 hown hK hP hD hS 9 rfl rfl 0 (by decide +kernel) (va_Nw.use rfl (hG.1 (.fieldLinkNest RL 13 "EdgefloatsLaw$Out" "n" "J" RL) (List.mem_of_getElem? (i := 6) rfl))) (fun _ h9 => h9) rfl (by decide +kernel) rfl rfl (Nat.le_of_ble_eq_true rfl) dL_narrowSum_10 (fun H locs hP hD hS => ?_)
    have hP : va_P (dC, dI) xCl [(h0, eE h1 h2 kn), (h1, eR hw1 hc1 hb1 a1 r1), (hw1, eW true), (hc1, eA cy f1), (hb1, eA cy g1), (h2, eR hw2 hc2 hb2 (o_X2_narrowSum a2 r2 f2 p1 p2 p3).2.2.1 (o_X2_narrowSum a2 r2 f2 p1 p2 p3).2.2.2.1), (hw2, eW false), (hc2, eA cy (o_X2_narrowSum a2 r2 f2 p1 p2 p3).2.2.2.2), (hb2, eA cy g2), (ho, eO (((o_X2_narrowSum a2 r2 f2 p1 p2 p3).2.1).toInt64) sv)] H := hP
    have hD : va_D A [(h0, eE h1 h2 kn), (h1, eR hw1 hc1 hb1 a1 r1), (hw1, eW true), (hc1, eA cy f1), (hb1, eA cy g1), (h2, eR hw2 hc2 hb2 (o_X2_narrowSum a2 r2 f2 p1 p2 p3).2.2.1 (o_X2_narrowSum a2 r2 f2 p1 p2 p3).2.2.2.1), (hw2, eW false), (hc2, eA cy (o_X2_narrowSum a2 r2 f2 p1 p2 p3).2.2.2.2), (hb2, eA cy g2), (ho, eO (((o_X2_narrowSum a2 r2 f2 p1 p2 p3).2.1).toInt64) sv)] := hD
    refine lv_goto (tgt := 20) hx hb dL_narrowSum_13 (by decide +kernel) ?_
    refine lv_iconst (v := 0) hx hb dL_narrowSum_20 (by decide +kernel) ?_
    have he : o_L_narrowSum a2 r2 f2 nv p1 p2 p3 = (0, (o_X2_narrowSum a2 r2 f2 p1 p2 p3).2.2.1, (o_X2_narrowSum a2 r2 f2 p1 p2 p3).2.2.2.1, (o_X2_narrowSum a2 r2 f2 p1 p2 p3).2.2.2.2, (((o_X2_narrowSum a2 r2 f2 p1 p2 p3).2.1).toInt64)) := by (rw [o_L_narrowSum, if_pos c_3]) <;> rfl
    refine W.widen (k := 3) (n := 18) (by omega) (by omega) ?_
    exact W.iret (v := 0) hx hb hr (fun t ht hW => ⟨⟨_, (), rfl, (by (rw [he]) <;> rfl), (by rw [he]; exact ⟨by rw [ht]; dsimp only; exact hP, by dsimp only; exact hD⟩)⟩, hS.F ht⟩) hS.2.2 dL_narrowSum_21
theorem cl_L_narrowSort_1 : ∀ w ∈ wsL_narrowSort_r1, w ∈ wsL_narrowSort := fun _ h => (List.mem_cons_of_mem _ (List.mem_append_left _ (List.mem_append_left _ (List.mem_append_left _ (List.mem_append_left _ (List.mem_append_left _ (List.mem_append_left _ h)))))))
theorem cl_L_narrowSort_2 : ∀ w ∈ wsL_narrowSort_r2, w ∈ wsL_narrowSort := fun _ h => (List.mem_cons_of_mem _ (List.mem_append_left _ (List.mem_append_left _ (List.mem_append_left _ (List.mem_append_left _ (List.mem_append_left _ (List.mem_append_right _ h)))))))
theorem cl_L_narrowSort_3 : ∀ w ∈ wsX30, w ∈ wsL_narrowSort := fun _ h => (List.mem_cons_of_mem _ (List.mem_append_left _ (List.mem_append_left _ (List.mem_append_left _ (List.mem_append_left _ (List.mem_append_right _ h))))))
theorem cl_L_narrowSort_4 : ∀ w ∈ wsX20, w ∈ wsL_narrowSort := fun _ h => (List.mem_cons_of_mem _ (List.mem_append_left _ (List.mem_append_left _ (List.mem_append_left _ (List.mem_append_right _ h)))))
theorem cl_L_narrowSort_5 : ∀ w ∈ wsX00, w ∈ wsL_narrowSort := fun _ h => (List.mem_cons_of_mem _ (List.mem_append_left _ (List.mem_append_left _ (List.mem_append_right _ h))))
theorem cl_L_narrowSort_6 : ∀ w ∈ wsX10, w ∈ wsL_narrowSort := fun _ h => (List.mem_cons_of_mem _ (List.mem_append_left _ (List.mem_append_right _ h)))
theorem cl_L_narrowSort_7 : ∀ w ∈ (vx_atS RX2 159 "java/lang/IllegalArgumentException" ["java/lang/RuntimeException", "java/lang/Exception"]).filter goodWord, w ∈ wsL_narrowSort := fun _ h => (List.mem_cons_of_mem _ (List.mem_append_right _ h))
set_option maxRecDepth 20000 in
theorem ggL_narrowSort_X2_narrowSort : GoodIn wsL_narrowSort wsX2_narrowSort := goodIn_sub (List.forall_mem_cons.mpr ⟨(cl_L_narrowSort_1 _ (List.mem_of_getElem? (i := 5) rfl)), fun w h => (List.mem_append.mp h).elim ((fun w h => (List.mem_append.mp h).elim ((fun w h => (List.mem_append.mp h).elim ((fun w h => (List.mem_append.mp h).elim ((fun w h => (List.mem_append.mp h).elim ((List.forall_mem_cons.mpr ⟨(cl_L_narrowSort_1 _ (List.mem_of_getElem? (i := 6) rfl)), List.forall_mem_cons.mpr ⟨(cl_L_narrowSort_1 _ (List.mem_of_getElem? (i := 7) rfl)), List.forall_mem_cons.mpr ⟨(cl_L_narrowSort_1 _ (List.mem_of_getElem? (i := 8) rfl)), List.forall_mem_cons.mpr ⟨(cl_L_narrowSort_1 _ (List.mem_of_getElem? (i := 9) rfl)), List.forall_mem_cons.mpr ⟨(cl_L_narrowSort_1 _ (List.mem_of_getElem? (i := 10) rfl)), List.forall_mem_cons.mpr ⟨(cl_L_narrowSort_1 _ (List.mem_of_getElem? (i := 11) rfl)), List.forall_mem_cons.mpr ⟨(cl_L_narrowSort_1 _ (List.mem_of_getElem? (i := 12) rfl)), List.forall_mem_cons.mpr ⟨(cl_L_narrowSort_1 _ (List.mem_of_getElem? (i := 13) rfl)), List.forall_mem_cons.mpr ⟨(cl_L_narrowSort_1 _ (List.mem_of_getElem? (i := 14) rfl)), List.forall_mem_cons.mpr ⟨(cl_L_narrowSort_1 _ (List.mem_of_getElem? (i := 15) rfl)), List.forall_mem_cons.mpr ⟨(cl_L_narrowSort_1 _ (List.mem_of_getElem? (i := 16) rfl)), List.forall_mem_cons.mpr ⟨(cl_L_narrowSort_1 _ (List.mem_of_getElem? (i := 17) rfl)), List.forall_mem_cons.mpr ⟨(cl_L_narrowSort_1 _ (List.mem_of_getElem? (i := 18) rfl)), List.forall_mem_cons.mpr ⟨(cl_L_narrowSort_1 _ (List.mem_of_getElem? (i := 19) rfl)), List.forall_mem_cons.mpr ⟨(cl_L_narrowSort_1 _ (List.mem_of_getElem? (i := 4) rfl)), List.forall_mem_cons.mpr ⟨(cl_L_narrowSort_1 _ (List.mem_of_getElem? (i := 20) rfl)), List.forall_mem_cons.mpr ⟨(cl_L_narrowSort_1 _ (List.mem_of_getElem? (i := 21) rfl)), List.forall_mem_cons.mpr ⟨(cl_L_narrowSort_1 _ (List.mem_of_getElem? (i := 22) rfl)), List.forall_mem_cons.mpr ⟨(cl_L_narrowSort_1 _ (List.mem_of_getElem? (i := 23) rfl)), List.forall_mem_cons.mpr ⟨(cl_L_narrowSort_2 _ (List.mem_of_getElem? (i := 0) rfl)), List.forall_mem_cons.mpr ⟨(cl_L_narrowSort_2 _ (List.mem_of_getElem? (i := 1) rfl)), List.forall_mem_cons.mpr ⟨(cl_L_narrowSort_2 _ (List.mem_of_getElem? (i := 2) rfl)), List.forall_mem_cons.mpr ⟨(cl_L_narrowSort_2 _ (List.mem_of_getElem? (i := 3) rfl)), List.forall_mem_cons.mpr ⟨(cl_L_narrowSort_2 _ (List.mem_of_getElem? (i := 4) rfl)), fun _ h => absurd h List.not_mem_nil⟩⟩⟩⟩⟩⟩⟩⟩⟩⟩⟩⟩⟩⟩⟩⟩⟩⟩⟩⟩⟩⟩⟩⟩) w) ((List.forall_mem_cons.mpr ⟨(cl_L_narrowSort_2 _ (List.mem_of_getElem? (i := 5) rfl)), List.forall_mem_cons.mpr ⟨(cl_L_narrowSort_2 _ (List.mem_of_getElem? (i := 6) rfl)), List.forall_mem_cons.mpr ⟨(cl_L_narrowSort_2 _ (List.mem_of_getElem? (i := 7) rfl)), List.forall_mem_cons.mpr ⟨(cl_L_narrowSort_2 _ (List.mem_of_getElem? (i := 8) rfl)), List.forall_mem_cons.mpr ⟨(cl_L_narrowSort_2 _ (List.mem_of_getElem? (i := 9) rfl)), List.forall_mem_cons.mpr ⟨(cl_L_narrowSort_2 _ (List.mem_of_getElem? (i := 10) rfl)), List.forall_mem_cons.mpr ⟨(cl_L_narrowSort_2 _ (List.mem_of_getElem? (i := 11) rfl)), List.forall_mem_cons.mpr ⟨(cl_L_narrowSort_2 _ (List.mem_of_getElem? (i := 12) rfl)), List.forall_mem_cons.mpr ⟨(cl_L_narrowSort_2 _ (List.mem_of_getElem? (i := 13) rfl)), List.forall_mem_cons.mpr ⟨(cl_L_narrowSort_2 _ (List.mem_of_getElem? (i := 14) rfl)), fun _ h => absurd h List.not_mem_nil⟩⟩⟩⟩⟩⟩⟩⟩⟩⟩) w)) w) ((cl_L_narrowSort_4) w)) w) ((cl_L_narrowSort_5) w)) w) ((cl_L_narrowSort_6) w)) w) ((cl_L_narrowSort_7) w)⟩) (by decide +kernel)
set_option maxRecDepth 20000 in
theorem gL_narrowSort_X2_narrowSort : GoodIn wsL_narrowSort (wsV RL 126 RX2 yX2_narrowSort wsX2_narrowSort) := goodIn_app (goodIn_sub (List.forall_mem_cons.mpr ⟨(cl_L_narrowSort_1 _ (List.mem_of_getElem? (i := 1) rfl)), List.forall_mem_cons.mpr ⟨(cl_L_narrowSort_1 _ (List.mem_of_getElem? (i := 2) rfl)), List.forall_mem_cons.mpr ⟨(cl_L_narrowSort_1 _ (List.mem_of_getElem? (i := 3) rfl)), List.forall_mem_cons.mpr ⟨(cl_L_narrowSort_1 _ (List.mem_of_getElem? (i := 4) rfl)), fun _ h => absurd h List.not_mem_nil⟩⟩⟩⟩) (by decide +kernel)) ggL_narrowSort_X2_narrowSort
noncomputable def dz_p16_31 : List (Nat × Instr × Nat) := [(0, (.aload_n 2, 1)), (1, (.aload_n 0, 1)), (2, (.iload_n 1, 1)), (3, (.invokevirtual 126, 3)), (6, (.i2l, 1)), (7, (.putfield 13, 3)), (10, (.goto 6, 3)), (13, (.astore_n 3, 1)), (14, (.iconst 1, 1)), (15, (.ireturn, 1)), (16, (.iconst 0, 1)), (17, (.ireturn, 1))]
theorem dy_p16_31 : dz_ok cL_narrowSort dz_p16_31 = true := by decide +kernel
theorem dL_narrowSort_0 : decode cL_narrowSort 0 = .ok (.aload_n 2, 1) := dz_at (i := 0) dy_p16_31 rfl
theorem dL_narrowSort_1 : decode cL_narrowSort 1 = .ok (.aload_n 0, 1) := dz_at (i := 1) dy_p16_31 rfl
theorem dL_narrowSort_2 : decode cL_narrowSort 2 = .ok (.iload_n 1, 1) := dz_at (i := 2) dy_p16_31 rfl
theorem dL_narrowSort_3 : decode cL_narrowSort 3 = .ok (.invokevirtual 126, 3) := dz_at (i := 3) dy_p16_31 rfl
theorem dL_narrowSort_6 : decode cL_narrowSort 6 = .ok (.i2l, 1) := dz_at (i := 4) dy_p16_31 rfl
theorem dL_narrowSort_7 : decode cL_narrowSort 7 = .ok (.putfield 13, 3) := dz_at (i := 5) dy_p16_31 rfl
theorem dL_narrowSort_10 : decode cL_narrowSort 10 = .ok (.goto 6, 3) := dz_at (i := 6) dy_p16_31 rfl
theorem dL_narrowSort_13 : decode cL_narrowSort 13 = .ok (.astore_n 3, 1) := dz_at (i := 7) dy_p16_31 rfl
theorem dL_narrowSort_14 : decode cL_narrowSort 14 = .ok (.iconst 1, 1) := dz_at (i := 8) dy_p16_31 rfl
theorem dL_narrowSort_15 : decode cL_narrowSort 15 = .ok (.ireturn, 1) := dz_at (i := 9) dy_p16_31 rfl
theorem dL_narrowSort_16 : decode cL_narrowSort 16 = .ok (.iconst 0, 1) := dz_at (i := 10) dy_p16_31 rfl
theorem dL_narrowSort_17 : decode cL_narrowSort 17 = .ok (.ireturn, 1) := dz_at (i := 11) dy_p16_31 rfl
noncomputable def o_L_narrowSort (a2 : Int32) (f2 : Nat → Int64) (g2 : Nat → Int64) (nv : Int64) (p1 : Int32) : Int32 × Int32 × (Nat → Int64) × (Nat → Int64) × Int64 :=
  if (o_X2_narrowSort a2 f2 g2 p1).1 = 0 then (0, (o_X2_narrowSort a2 f2 g2 p1).2.2.1, (o_X2_narrowSort a2 f2 g2 p1).2.2.2.1, (o_X2_narrowSort a2 f2 g2 p1).2.2.2.2, (((o_X2_narrowSort a2 f2 g2 p1).2.1).toInt64))
  else (1, a2, f2, g2, nv)
set_option maxHeartbeats 4000000 in
set_option maxRecDepth 100000 in
theorem k_L_narrowSort (l : Launch) (hfl : l.flags = flags0) (dC : Nat → ClassId) (dI : Nat → Nat → Nat) (cy : ClassId) (h0 : Nat) (h1 : Nat) (hw1 : Nat) (hc1 : Nat) (hb1 : Nat) (h2 : Nat) (hw2 : Nat) (hc2 : Nat) (hb2 : Nat) (a1 : Int32) (r1 : Int32) (f1 : Nat → Int64) (g1 : Nat → Int64) (a2 : Int32) (r2 : Int32) (f2 : Nat → Int64) (g2 : Nat → Int64) (kn : Int32) (ho : Nat) (nv : Int64) (sv : Value) (sz : Nat) (N : Nat) (p1 : Int32) : Met l yL_narrowSort wsL_narrowSort ({ frames := 9, cells := 1, slots := 6, locals := 165 }) (va_Pc [.ref h0, .int p1, .ref ho] (xL (dC, dI) xCl [(h0, eE h1 h2 kn), (h1, eR hw1 hc1 hb1 a1 r1), (hw1, eW true), (hc1, eA cy f1), (hb1, eA cy g1), (h2, eR hw2 hc2 hb2 a2 r2), (hw2, eW false), (hc2, eA cy f2), (hb2, eA cy g2), (ho, eO nv sv)] [(cy, .long)] sz N)) (va_Qi (fun (r : Int32) (_ : Unit) => r = (o_L_narrowSort a2 f2 g2 nv p1).1) (fun _ t => xW (dC, dI) xCl [(h0, eE h1 h2 kn), (h1, eR hw1 hc1 hb1 a1 r1), (hw1, eW true), (hc1, eA cy f1), (hb1, eA cy g1), (h2, eR hw2 hc2 hb2 (o_L_narrowSort a2 f2 g2 nv p1).2.1 r2), (hw2, eW false), (hc2, eA cy (o_L_narrowSort a2 f2 g2 nv p1).2.2.1), (hb2, eA cy (o_L_narrowSort a2 f2 g2 nv p1).2.2.2.1), (ho, eO (o_L_narrowSort a2 f2 g2 nv p1).2.2.2.2 sv)] (va_A [(h0, eE h1 h2 kn), (h1, eR hw1 hc1 hb1 a1 r1), (hw1, eW true), (hc1, eA cy f1), (hb1, eA cy g1), (h2, eR hw2 hc2 hb2 a2 r2), (hw2, eW false), (hc2, eA cy f2), (hb2, eA cy g2), (ho, eO nv sv)] sz) t) (va_A [(h0, eE h1 h2 kn), (h1, eR hw1 hc1 hb1 a1 r1), (hw1, eW true), (hc1, eA cy f1), (hb1, eA cy g1), (h2, eR hw2 hc2 hb2 a2 r2), (hw2, eW false), (hc2, eA cy f2), (hb2, eA cy g2), (ho, eO nv sv)] sz)) 1 6 (va_A [(h0, eE h1 h2 kn), (h1, eR hw1 hc1 hb1 a1 r1), (hw1, eW true), (hc1, eA cy f1), (hb1, eA cy g1), (h2, eR hw2 hc2 hb2 a2 r2), (hw2, eW false), (hc2, eA cy f2), (hb2, eA cy g2), (ho, eO nv sv)] sz) := by
  refine va_MetW (cc := cL_narrowSort) (maxL := 4) (ret := (some .int)) (by decide +kernel) rfl ?_
  intro p e s m args below meth c s₁ B hml hv
  obtain ⟨rfl, ⟨hsz, hP, hK, hD0, hN, hG⟩, hnc⟩ := hv
  have hx := B.exec
  have hb := B.bytes
  have hr := B.returns
  have hts := atoms_spec (ws := wsL_narrowSort) B.pre
  have hown : s.vm.findClass RL = some m.cls := findClass_of_methodNamed B.named
  have hlocks := B.notSynchronized
  have htab := vx_table (x := yL_narrowSort) B (hts _ List.mem_cons_self)
  subst hsz
  have hAN : ∀ q, va_A [(h0, eE h1 h2 kn), (h1, eR hw1 hc1 hb1 a1 r1), (hw1, eW true), (hc1, eA cy f1), (hb1, eA cy g1), (h2, eR hw2 hc2 hb2 a2 r2), (hw2, eW false), (hc2, eA cy f2), (hb2, eA cy g2), (ho, eO nv sv)] s.heap.size q → N ≤ q := xA_N hD0 hN
  have hD := hD0.self (sz := s.heap.size)
  generalize hAe : va_A [(h0, eE h1 h2 kn), (h1, eR hw1 hc1 hb1 a1 r1), (hw1, eW true), (hc1, eA cy f1), (hb1, eA cy g1), (h2, eR hw2 hc2 hb2 a2 r2), (hw2, eW false), (hc2, eA cy f2), (hb2, eA cy g2), (ho, eO nv sv)] s.heap.size = A at hD hAN ⊢
  have hA : ∀ q : Nat, s.heap.size ≤ q → A q := fun q h => by rw [← hAe]; exact Or.inr h
  have hS : va_S A s.heap s.heap [] := va_S.rf
  have hP : va_P (dC, dI) xCl [(h0, eE h1 h2 kn), (h1, eR hw1 hc1 hb1 a1 r1), (hw1, eW true), (hc1, eA cy f1), (hb1, eA cy g1), (h2, eR hw2 hc2 hb2 a2 r2), (hw2, eW false), (hc2, eA cy f2), (hb2, eA cy g2), (ho, eO nv sv)] s.heap := hP
  have hl := lv_entry ([.ref h0, .int p1, .ref ho]) (n := 4) (Nat.le_of_ble_eq_true rfl)
  rw [lg_entry_eq]
  generalize (lg_sl ([.ref h0, .int p1, .ref ho]) ++ List.replicate (4 - (lg_sl ([.ref h0, .int p1, .ref ho])).length) Slot.unset).toArray = ls at hl ⊢
  have hl : lv_has ls 4 [(0, .ref h0), (1, .int p1), (2, .ref ho)] := hl
  refine lv_aload_n hx hb dL_narrowSort_0 rfl (lv_at hl 2 rfl) ?_
  refine lv_aload_n hx hb dL_narrowSort_1 rfl (lv_at hl 0 rfl) ?_
  refine lv_iload_n hx hb dL_narrowSort_2 rfl (lv_at hl 1 rfl) ?_
  have hPc := hP.sub (ws' := [(h0, eE h1 h2 kn), (h1, eR hw1 hc1 hb1 a1 r1), (hw1, eW true), (hc1, eA cy f1), (hb1, eA cy g1), (h2, eR hw2 hc2 hb2 a2 r2), (hw2, eW false), (hc2, eA cy f2), (hb2, eA cy g2)]) [0, 1, 2, 3, 4, 5, 6, 7, 8] rfl
  have hDc := hD.sub (ws' := [(h0, eE h1 h2 kn), (h1, eR hw1 hc1 hb1 a1 r1), (hw1, eW true), (hc1, eA cy f1), (hb1, eA cy g1), (h2, eR hw2 hc2 hb2 a2 r2), (hw2, eW false), (hc2, eA cy f2), (hb2, eA cy g2)]) [0, 1, 2, 3, 4, 5, 6, 7, 8] (by decide +kernel) rfl
  have hKc := hK.sub (tys' := [(cy, .long)]) [0] rfl
  have hFc := va_free (wc := [(h0, eE h1 h2 kn), (h1, eR hw1 hc1 hb1 a1 r1), (hw1, eW true), (hc1, eA cy f1), (hb1, eA cy g1), (h2, eR hw2 hc2 hb2 a2 r2), (hw2, eW false), (hc2, eA cy f2), (hb2, eA cy g2)]) hD hS hA [0, 1, 2, 3, 4, 5, 6, 7, 8] rfl
  refine vx_calli (vx_runV (As := [.int p1]) (rest := [.ref ho]) ⟨hx, hb, hml, hown, hts⟩ (k_X2_narrowSort l hfl dC dI cy h0 h1 hw1 hc1 hb1 h2 hw2 hc2 hb2 a1 r1 f1 g1 a2 r2 f2 g2 kn s.heap.size N p1) (cwV 1 hts gL_narrowSort_X2_narrowSort rfl rfl rfl (by decide +kernel) ⟨Nat.le_of_ble_eq_true rfl, Nat.le_of_ble_eq_true rfl⟩) (xM.preV hKc hPc hDc hAN (Nat.le_trans hN hS.1) (hG.kept hS hAN) (ci := 4) (q0 := 0) rfl rfl) rfl rfl hl.1 rfl (lv_room (Nat.le_of_ble_eq_true rfl)) dL_narrowSort_3 ⟨Nat.le_of_ble_eq_true rfl, Nat.le_of_ble_eq_true rfl⟩) hS (fun q _ h => hFc q h) hFc (fun q _ h => hFc q h) (fun E ce q9 u9 t H locs ht hvm hpx hbx hz hk hS hce hcv hcl => ?_) (fun r_1 u t H locs ht hvm hw hB hz hk hS => ?_)
  · have c_2 : ¬ (o_X2_narrowSort a2 f2 g2 p1).1 = 0 := hpx
    obtain ⟨hbe, hP1, hD1⟩ := hbx
    rw [ht] at hP1
    obtain ⟨hP, hD⟩ := va_join (wr := [(ho, eO nv sv)]) (w1 := [(h0, eE h1 h2 kn), (h1, eR hw1 hc1 hb1 a1 r1), (hw1, eW true), (hc1, eA cy f1), (hb1, eA cy g1), (h2, eR hw2 hc2 hb2 a2 r2), (hw2, eW false), (hc2, eA cy f2), (hb2, eA cy g2)]) hP hD [0, 1, 2, 3, 4, 5, 6, 7, 8] [9] rfl rfl (by decide +kernel) (by decide +kernel) hk hFc hP1 hD1
    have hP := hP.sub (ws' := [(h0, eE h1 h2 kn), (h1, eR hw1 hc1 hb1 a1 r1), (hw1, eW true), (hc1, eA cy f1), (hb1, eA cy g1), (h2, eR hw2 hc2 hb2 a2 r2), (hw2, eW false), (hc2, eA cy f2), (hb2, eA cy g2), (ho, eO nv sv)]) [1, 2, 3, 4, 5, 6, 7, 8, 9, 0] rfl
    have hD := hD.sub (ws' := [(h0, eE h1 h2 kn), (h1, eR hw1 hc1 hb1 a1 r1), (hw1, eW true), (hc1, eA cy f1), (hb1, eA cy g1), (h2, eR hw2 hc2 hb2 a2 r2), (hw2, eW false), (hc2, eA cy f2), (hb2, eA cy g2), (ho, eO nv sv)]) [1, 2, 3, 4, 5, 6, 7, 8, 9, 0] (by decide +kernel) rfl
    have hE : E = "java/lang/IllegalArgumentException" := hbe.trans (by rw [show (o_X2_narrowSort a2 f2 g2 p1).1 = 2 from (xr_X2_narrowSort _ _ _ _ c_2)]; rfl)
    subst hE
    refine vx_catch (own := RL) (name := "java/lang/IllegalArgumentException") hown [] ⟨0, 10, 13, 25⟩ [] htab (fun z hz => absurd hz List.not_mem_nil) (by decide +kernel) (by decide +kernel) (hts (.classLink RL 25 "java/lang/IllegalArgumentException") (by decide +kernel)) (va_Nw.use rfl (hG.1 (.castable "java/lang/IllegalArgumentException" "java/lang/IllegalArgumentException") (List.mem_of_getElem? (i := 12) rfl))) hce hcv hcl ?_
    refine lv_astore_n (lv' := [(3, .ref q9), (0, .ref h0), (1, .int p1), (2, .ref ho)]) hx hb dL_narrowSort_13 rfl hl (by decide +kernel) rfl (fun ls hl => ?_)
    refine lv_iconst (v := 1) hx hb dL_narrowSort_14 (by decide +kernel) ?_
    have he : o_L_narrowSort a2 f2 g2 nv p1 = (1, a2, f2, g2, nv) := by (rw [o_L_narrowSort, if_neg c_2]) <;> rfl
    refine W.widen (k := 1) (n := 6) (by omega) (by omega) ?_
    exact W.iret (v := 1) hx hb hr (fun t ht hW => ⟨⟨_, (), rfl, (by (rw [he]) <;> rfl), (by rw [he]; exact ⟨by rw [ht]; exact hP, hD⟩)⟩, hS.F ht⟩) hS.2.2 dL_narrowSort_15
  · skip
    obtain ⟨c_3, hw⟩ := hw
    have c_3 : (o_X2_narrowSort a2 f2 g2 p1).1 = 0 := c_3
    replace hw : r_1 = (o_X2_narrowSort a2 f2 g2 p1).2.1 := hw
    subst r_1
    obtain ⟨hP1, hD1⟩ := hB
    rw [ht] at hP1
    obtain ⟨hP, hD⟩ := va_join (wr := [(ho, eO nv sv)]) (w1 := [(h0, eE h1 h2 kn), (h1, eR hw1 hc1 hb1 a1 r1), (hw1, eW true), (hc1, eA cy f1), (hb1, eA cy g1), (h2, eR hw2 hc2 hb2 (o_X2_narrowSort a2 f2 g2 p1).2.2.1 r2), (hw2, eW false), (hc2, eA cy (o_X2_narrowSort a2 f2 g2 p1).2.2.2.1), (hb2, eA cy (o_X2_narrowSort a2 f2 g2 p1).2.2.2.2)]) hP hD [0, 1, 2, 3, 4, 5, 6, 7, 8] [9] rfl rfl (by decide +kernel) (by decide +kernel) hk hFc hP1 hD1
    have hP := hP.sub (ws' := [(h0, eE h1 h2 kn), (h1, eR hw1 hc1 hb1 a1 r1), (hw1, eW true), (hc1, eA cy f1), (hb1, eA cy g1), (h2, eR hw2 hc2 hb2 (o_X2_narrowSort a2 f2 g2 p1).2.2.1 r2), (hw2, eW false), (hc2, eA cy (o_X2_narrowSort a2 f2 g2 p1).2.2.2.1), (hb2, eA cy (o_X2_narrowSort a2 f2 g2 p1).2.2.2.2), (ho, eO nv sv)]) [1, 2, 3, 4, 5, 6, 7, 8, 9, 0] rfl
    have hD := hD.sub (ws' := [(h0, eE h1 h2 kn), (h1, eR hw1 hc1 hb1 a1 r1), (hw1, eW true), (hc1, eA cy f1), (hb1, eA cy g1), (h2, eR hw2 hc2 hb2 (o_X2_narrowSort a2 f2 g2 p1).2.2.1 r2), (hw2, eW false), (hc2, eA cy (o_X2_narrowSort a2 f2 g2 p1).2.2.2.1), (hb2, eA cy (o_X2_narrowSort a2 f2 g2 p1).2.2.2.2), (ho, eO nv sv)]) [1, 2, 3, 4, 5, 6, 7, 8, 9, 0] (by decide +kernel) rfl
    refine lv_i2l (v := (((o_X2_narrowSort a2 f2 g2 p1).2.1).toInt64)) hx hb dL_narrowSort_6 rfl ?_
    refine va_putN (D := (dC, dI)) (ci := 5) (v := .long (((o_X2_narrowSort a2 f2 g2 p1).2.1).toInt64)) (ty := .long) (C := RX3) (T := TX3) (N := 2) hx hb hts (by decide +kernel) tyX3 tyX3_ok nmX3 hown hK hP hD hS 9 rfl rfl 0 (by decide +kernel) (va_Nw.use rfl (hG.1 (.fieldLinkNest RL 13 "EdgefloatsLaw$Out" "n" "J" RL) (List.mem_of_getElem? (i := 6) rfl))) (fun _ h9 => h9) rfl (by decide +kernel) rfl rfl (Nat.le_of_ble_eq_true rfl) dL_narrowSort_7 (fun H locs hP hD hS => ?_)
    have hP : va_P (dC, dI) xCl [(h0, eE h1 h2 kn), (h1, eR hw1 hc1 hb1 a1 r1), (hw1, eW true), (hc1, eA cy f1), (hb1, eA cy g1), (h2, eR hw2 hc2 hb2 (o_X2_narrowSort a2 f2 g2 p1).2.2.1 r2), (hw2, eW false), (hc2, eA cy (o_X2_narrowSort a2 f2 g2 p1).2.2.2.1), (hb2, eA cy (o_X2_narrowSort a2 f2 g2 p1).2.2.2.2), (ho, eO (((o_X2_narrowSort a2 f2 g2 p1).2.1).toInt64) sv)] H := hP
    have hD : va_D A [(h0, eE h1 h2 kn), (h1, eR hw1 hc1 hb1 a1 r1), (hw1, eW true), (hc1, eA cy f1), (hb1, eA cy g1), (h2, eR hw2 hc2 hb2 (o_X2_narrowSort a2 f2 g2 p1).2.2.1 r2), (hw2, eW false), (hc2, eA cy (o_X2_narrowSort a2 f2 g2 p1).2.2.2.1), (hb2, eA cy (o_X2_narrowSort a2 f2 g2 p1).2.2.2.2), (ho, eO (((o_X2_narrowSort a2 f2 g2 p1).2.1).toInt64) sv)] := hD
    refine lv_goto (tgt := 16) hx hb dL_narrowSort_10 (by decide +kernel) ?_
    refine lv_iconst (v := 0) hx hb dL_narrowSort_16 (by decide +kernel) ?_
    have he : o_L_narrowSort a2 f2 g2 nv p1 = (0, (o_X2_narrowSort a2 f2 g2 p1).2.2.1, (o_X2_narrowSort a2 f2 g2 p1).2.2.2.1, (o_X2_narrowSort a2 f2 g2 p1).2.2.2.2, (((o_X2_narrowSort a2 f2 g2 p1).2.1).toInt64)) := by (rw [o_L_narrowSort, if_pos c_3]) <;> rfl
    refine W.widen (k := 1) (n := 6) (by omega) (by omega) ?_
    exact W.iret (v := 0) hx hb hr (fun t ht hW => ⟨⟨_, (), rfl, (by (rw [he]) <;> rfl), (by rw [he]; exact ⟨by rw [ht]; exact hP, hD⟩)⟩, hS.F ht⟩) hS.2.2 dL_narrowSort_17
theorem cl_L_narrowEnd_1 : ∀ w ∈ wsL_narrowEnd_r1, w ∈ wsL_narrowEnd := fun _ h => (List.mem_cons_of_mem _ (List.mem_append_left _ (List.mem_append_left _ (List.mem_append_left _ (List.mem_append_left _ (List.mem_append_left _ (List.mem_append_left _ h)))))))
theorem cl_L_narrowEnd_2 : ∀ w ∈ wsL_narrowEnd_r2, w ∈ wsL_narrowEnd := fun _ h => (List.mem_cons_of_mem _ (List.mem_append_left _ (List.mem_append_left _ (List.mem_append_left _ (List.mem_append_left _ (List.mem_append_left _ (List.mem_append_right _ h)))))))
theorem cl_L_narrowEnd_3 : ∀ w ∈ wsX30, w ∈ wsL_narrowEnd := fun _ h => (List.mem_cons_of_mem _ (List.mem_append_left _ (List.mem_append_left _ (List.mem_append_left _ (List.mem_append_left _ (List.mem_append_right _ h))))))
theorem cl_L_narrowEnd_4 : ∀ w ∈ wsX20, w ∈ wsL_narrowEnd := fun _ h => (List.mem_cons_of_mem _ (List.mem_append_left _ (List.mem_append_left _ (List.mem_append_left _ (List.mem_append_right _ h)))))
theorem cl_L_narrowEnd_5 : ∀ w ∈ wsX00, w ∈ wsL_narrowEnd := fun _ h => (List.mem_cons_of_mem _ (List.mem_append_left _ (List.mem_append_left _ (List.mem_append_right _ h))))
theorem cl_L_narrowEnd_6 : ∀ w ∈ wsX10, w ∈ wsL_narrowEnd := fun _ h => (List.mem_cons_of_mem _ (List.mem_append_left _ (List.mem_append_right _ h)))
theorem cl_L_narrowEnd_7 : ∀ w ∈ (vx_atS RX2 152 "java/lang/IndexOutOfBoundsException" ["java/lang/RuntimeException", "java/lang/Exception"]).filter goodWord, w ∈ wsL_narrowEnd := fun _ h => (List.mem_cons_of_mem _ (List.mem_append_right _ h))
set_option maxRecDepth 20000 in
theorem ggL_narrowEnd_X2_narrowEnd : GoodIn wsL_narrowEnd wsX2_narrowEnd := goodIn_sub (List.forall_mem_cons.mpr ⟨(cl_L_narrowEnd_1 _ (List.mem_of_getElem? (i := 5) rfl)), fun w h => (List.mem_append.mp h).elim ((fun w h => (List.mem_append.mp h).elim ((fun w h => (List.mem_append.mp h).elim ((fun w h => (List.mem_append.mp h).elim ((fun w h => (List.mem_append.mp h).elim ((List.forall_mem_cons.mpr ⟨(cl_L_narrowEnd_1 _ (List.mem_of_getElem? (i := 6) rfl)), List.forall_mem_cons.mpr ⟨(cl_L_narrowEnd_1 _ (List.mem_of_getElem? (i := 7) rfl)), List.forall_mem_cons.mpr ⟨(cl_L_narrowEnd_1 _ (List.mem_of_getElem? (i := 8) rfl)), List.forall_mem_cons.mpr ⟨(cl_L_narrowEnd_1 _ (List.mem_of_getElem? (i := 9) rfl)), List.forall_mem_cons.mpr ⟨(cl_L_narrowEnd_1 _ (List.mem_of_getElem? (i := 10) rfl)), List.forall_mem_cons.mpr ⟨(cl_L_narrowEnd_1 _ (List.mem_of_getElem? (i := 11) rfl)), List.forall_mem_cons.mpr ⟨(cl_L_narrowEnd_1 _ (List.mem_of_getElem? (i := 12) rfl)), List.forall_mem_cons.mpr ⟨(cl_L_narrowEnd_1 _ (List.mem_of_getElem? (i := 13) rfl)), List.forall_mem_cons.mpr ⟨(cl_L_narrowEnd_1 _ (List.mem_of_getElem? (i := 14) rfl)), List.forall_mem_cons.mpr ⟨(cl_L_narrowEnd_1 _ (List.mem_of_getElem? (i := 4) rfl)), List.forall_mem_cons.mpr ⟨(cl_L_narrowEnd_1 _ (List.mem_of_getElem? (i := 15) rfl)), List.forall_mem_cons.mpr ⟨(cl_L_narrowEnd_1 _ (List.mem_of_getElem? (i := 16) rfl)), List.forall_mem_cons.mpr ⟨(cl_L_narrowEnd_1 _ (List.mem_of_getElem? (i := 17) rfl)), List.forall_mem_cons.mpr ⟨(cl_L_narrowEnd_1 _ (List.mem_of_getElem? (i := 18) rfl)), List.forall_mem_cons.mpr ⟨(cl_L_narrowEnd_1 _ (List.mem_of_getElem? (i := 19) rfl)), List.forall_mem_cons.mpr ⟨(cl_L_narrowEnd_1 _ (List.mem_of_getElem? (i := 20) rfl)), List.forall_mem_cons.mpr ⟨(cl_L_narrowEnd_1 _ (List.mem_of_getElem? (i := 21) rfl)), List.forall_mem_cons.mpr ⟨(cl_L_narrowEnd_1 _ (List.mem_of_getElem? (i := 22) rfl)), List.forall_mem_cons.mpr ⟨(cl_L_narrowEnd_1 _ (List.mem_of_getElem? (i := 23) rfl)), List.forall_mem_cons.mpr ⟨(cl_L_narrowEnd_2 _ (List.mem_of_getElem? (i := 0) rfl)), List.forall_mem_cons.mpr ⟨(cl_L_narrowEnd_2 _ (List.mem_of_getElem? (i := 1) rfl)), List.forall_mem_cons.mpr ⟨(cl_L_narrowEnd_2 _ (List.mem_of_getElem? (i := 2) rfl)), List.forall_mem_cons.mpr ⟨(cl_L_narrowEnd_2 _ (List.mem_of_getElem? (i := 3) rfl)), List.forall_mem_cons.mpr ⟨(cl_L_narrowEnd_2 _ (List.mem_of_getElem? (i := 4) rfl)), fun _ h => absurd h List.not_mem_nil⟩⟩⟩⟩⟩⟩⟩⟩⟩⟩⟩⟩⟩⟩⟩⟩⟩⟩⟩⟩⟩⟩⟩⟩) w) ((List.forall_mem_cons.mpr ⟨(cl_L_narrowEnd_2 _ (List.mem_of_getElem? (i := 5) rfl)), List.forall_mem_cons.mpr ⟨(cl_L_narrowEnd_2 _ (List.mem_of_getElem? (i := 6) rfl)), List.forall_mem_cons.mpr ⟨(cl_L_narrowEnd_2 _ (List.mem_of_getElem? (i := 7) rfl)), List.forall_mem_cons.mpr ⟨(cl_L_narrowEnd_2 _ (List.mem_of_getElem? (i := 8) rfl)), List.forall_mem_cons.mpr ⟨(cl_L_narrowEnd_2 _ (List.mem_of_getElem? (i := 9) rfl)), List.forall_mem_cons.mpr ⟨(cl_L_narrowEnd_2 _ (List.mem_of_getElem? (i := 10) rfl)), List.forall_mem_cons.mpr ⟨(cl_L_narrowEnd_2 _ (List.mem_of_getElem? (i := 11) rfl)), List.forall_mem_cons.mpr ⟨(cl_L_narrowEnd_2 _ (List.mem_of_getElem? (i := 12) rfl)), List.forall_mem_cons.mpr ⟨(cl_L_narrowEnd_2 _ (List.mem_of_getElem? (i := 13) rfl)), List.forall_mem_cons.mpr ⟨(cl_L_narrowEnd_2 _ (List.mem_of_getElem? (i := 14) rfl)), List.forall_mem_cons.mpr ⟨(cl_L_narrowEnd_2 _ (List.mem_of_getElem? (i := 15) rfl)), List.forall_mem_cons.mpr ⟨(cl_L_narrowEnd_2 _ (List.mem_of_getElem? (i := 16) rfl)), List.forall_mem_cons.mpr ⟨(cl_L_narrowEnd_2 _ (List.mem_of_getElem? (i := 17) rfl)), fun _ h => absurd h List.not_mem_nil⟩⟩⟩⟩⟩⟩⟩⟩⟩⟩⟩⟩⟩) w)) w) ((cl_L_narrowEnd_4) w)) w) ((cl_L_narrowEnd_5) w)) w) ((cl_L_narrowEnd_6) w)) w) ((cl_L_narrowEnd_7) w)⟩) (by decide +kernel)
set_option maxRecDepth 20000 in
theorem gL_narrowEnd_X2_narrowEnd : GoodIn wsL_narrowEnd (wsV RL 129 RX2 yX2_narrowEnd wsX2_narrowEnd) := goodIn_app (goodIn_sub (List.forall_mem_cons.mpr ⟨(cl_L_narrowEnd_1 _ (List.mem_of_getElem? (i := 1) rfl)), List.forall_mem_cons.mpr ⟨(cl_L_narrowEnd_1 _ (List.mem_of_getElem? (i := 2) rfl)), List.forall_mem_cons.mpr ⟨(cl_L_narrowEnd_1 _ (List.mem_of_getElem? (i := 3) rfl)), List.forall_mem_cons.mpr ⟨(cl_L_narrowEnd_1 _ (List.mem_of_getElem? (i := 4) rfl)), fun _ h => absurd h List.not_mem_nil⟩⟩⟩⟩) (by decide +kernel)) ggL_narrowEnd_X2_narrowEnd
noncomputable def dz_p16_32 : List (Nat × Instr × Nat) := [(0, (.aload_n 3, 1)), (1, (.aload_n 0, 1)), (2, (.iload_n 1, 1)), (3, (.iload_n 2, 1)), (4, (.invokevirtual 129, 3)), (7, (.i2l, 1)), (8, (.putfield 13, 3)), (11, (.goto 7, 3)), (14, (.astore 4, 2)), (16, (.iconst 1, 1)), (17, (.ireturn, 1)), (18, (.iconst 0, 1)), (19, (.ireturn, 1))]
theorem dy_p16_32 : dz_ok cL_narrowEnd dz_p16_32 = true := by decide +kernel
theorem dL_narrowEnd_0 : decode cL_narrowEnd 0 = .ok (.aload_n 3, 1) := dz_at (i := 0) dy_p16_32 rfl
theorem dL_narrowEnd_1 : decode cL_narrowEnd 1 = .ok (.aload_n 0, 1) := dz_at (i := 1) dy_p16_32 rfl
theorem dL_narrowEnd_2 : decode cL_narrowEnd 2 = .ok (.iload_n 1, 1) := dz_at (i := 2) dy_p16_32 rfl
theorem dL_narrowEnd_3 : decode cL_narrowEnd 3 = .ok (.iload_n 2, 1) := dz_at (i := 3) dy_p16_32 rfl
theorem dL_narrowEnd_4 : decode cL_narrowEnd 4 = .ok (.invokevirtual 129, 3) := dz_at (i := 4) dy_p16_32 rfl
theorem dL_narrowEnd_7 : decode cL_narrowEnd 7 = .ok (.i2l, 1) := dz_at (i := 5) dy_p16_32 rfl
theorem dL_narrowEnd_8 : decode cL_narrowEnd 8 = .ok (.putfield 13, 3) := dz_at (i := 6) dy_p16_32 rfl
theorem dL_narrowEnd_11 : decode cL_narrowEnd 11 = .ok (.goto 7, 3) := dz_at (i := 7) dy_p16_32 rfl
theorem dL_narrowEnd_14 : decode cL_narrowEnd 14 = .ok (.astore 4, 2) := dz_at (i := 8) dy_p16_32 rfl
theorem dL_narrowEnd_16 : decode cL_narrowEnd 16 = .ok (.iconst 1, 1) := dz_at (i := 9) dy_p16_32 rfl
theorem dL_narrowEnd_17 : decode cL_narrowEnd 17 = .ok (.ireturn, 1) := dz_at (i := 10) dy_p16_32 rfl
theorem dL_narrowEnd_18 : decode cL_narrowEnd 18 = .ok (.iconst 0, 1) := dz_at (i := 11) dy_p16_32 rfl
theorem dL_narrowEnd_19 : decode cL_narrowEnd 19 = .ok (.ireturn, 1) := dz_at (i := 12) dy_p16_32 rfl
noncomputable def o_L_narrowEnd (a2 : Int32) (f2 : Nat → Int64) (nv : Int64) (p1 : Bool) (p2 : Int32) : Int32 × Int32 × (Nat → Int64) × Int64 :=
  if (o_X2_narrowEnd a2 f2 p1 p2).1 = 0 then (0, (o_X2_narrowEnd a2 f2 p1 p2).2.2.1, (o_X2_narrowEnd a2 f2 p1 p2).2.2.2, (((o_X2_narrowEnd a2 f2 p1 p2).2.1).toInt64))
  else (1, a2, f2, nv)
set_option maxHeartbeats 4000000 in
set_option maxRecDepth 100000 in
theorem k_L_narrowEnd (l : Launch) (hfl : l.flags = flags0) (dC : Nat → ClassId) (dI : Nat → Nat → Nat) (cy : ClassId) (h0 : Nat) (h1 : Nat) (hw1 : Nat) (hc1 : Nat) (hb1 : Nat) (h2 : Nat) (hw2 : Nat) (hc2 : Nat) (hb2 : Nat) (a1 : Int32) (r1 : Int32) (f1 : Nat → Int64) (g1 : Nat → Int64) (a2 : Int32) (r2 : Int32) (f2 : Nat → Int64) (g2 : Nat → Int64) (kn : Int32) (ho : Nat) (nv : Int64) (sv : Value) (sz : Nat) (N : Nat) (p1 : Bool) (p2 : Int32) : Met l yL_narrowEnd wsL_narrowEnd ({ frames := 9, cells := 1, slots := 6, locals := 167 }) (va_Pc [.ref h0, .int (b2i p1), .int p2, .ref ho] (xL (dC, dI) xCl [(h0, eE h1 h2 kn), (h1, eR hw1 hc1 hb1 a1 r1), (hw1, eW true), (hc1, eA cy f1), (hb1, eA cy g1), (h2, eR hw2 hc2 hb2 a2 r2), (hw2, eW false), (hc2, eA cy f2), (hb2, eA cy g2), (ho, eO nv sv)] [(cy, .long)] sz N)) (va_Qi (fun (r : Int32) (_ : Unit) => r = (o_L_narrowEnd a2 f2 nv p1 p2).1) (fun _ t => xW (dC, dI) xCl [(h0, eE h1 h2 kn), (h1, eR hw1 hc1 hb1 a1 r1), (hw1, eW true), (hc1, eA cy f1), (hb1, eA cy g1), (h2, eR hw2 hc2 hb2 (o_L_narrowEnd a2 f2 nv p1 p2).2.1 r2), (hw2, eW false), (hc2, eA cy (o_L_narrowEnd a2 f2 nv p1 p2).2.2.1), (hb2, eA cy g2), (ho, eO (o_L_narrowEnd a2 f2 nv p1 p2).2.2.2 sv)] (va_A [(h0, eE h1 h2 kn), (h1, eR hw1 hc1 hb1 a1 r1), (hw1, eW true), (hc1, eA cy f1), (hb1, eA cy g1), (h2, eR hw2 hc2 hb2 a2 r2), (hw2, eW false), (hc2, eA cy f2), (hb2, eA cy g2), (ho, eO nv sv)] sz) t) (va_A [(h0, eE h1 h2 kn), (h1, eR hw1 hc1 hb1 a1 r1), (hw1, eW true), (hc1, eA cy f1), (hb1, eA cy g1), (h2, eR hw2 hc2 hb2 a2 r2), (hw2, eW false), (hc2, eA cy f2), (hb2, eA cy g2), (ho, eO nv sv)] sz)) 1 6 (va_A [(h0, eE h1 h2 kn), (h1, eR hw1 hc1 hb1 a1 r1), (hw1, eW true), (hc1, eA cy f1), (hb1, eA cy g1), (h2, eR hw2 hc2 hb2 a2 r2), (hw2, eW false), (hc2, eA cy f2), (hb2, eA cy g2), (ho, eO nv sv)] sz) := by
  refine va_MetW (cc := cL_narrowEnd) (maxL := 5) (ret := (some .int)) (by decide +kernel) rfl ?_
  intro p e s m args below meth c s₁ B hml hv
  obtain ⟨rfl, ⟨hsz, hP, hK, hD0, hN, hG⟩, hnc⟩ := hv
  have hx := B.exec
  have hb := B.bytes
  have hr := B.returns
  have hts := atoms_spec (ws := wsL_narrowEnd) B.pre
  have hown : s.vm.findClass RL = some m.cls := findClass_of_methodNamed B.named
  have hlocks := B.notSynchronized
  have htab := vx_table (x := yL_narrowEnd) B (hts _ List.mem_cons_self)
  subst hsz
  have hAN : ∀ q, va_A [(h0, eE h1 h2 kn), (h1, eR hw1 hc1 hb1 a1 r1), (hw1, eW true), (hc1, eA cy f1), (hb1, eA cy g1), (h2, eR hw2 hc2 hb2 a2 r2), (hw2, eW false), (hc2, eA cy f2), (hb2, eA cy g2), (ho, eO nv sv)] s.heap.size q → N ≤ q := xA_N hD0 hN
  have hD := hD0.self (sz := s.heap.size)
  generalize hAe : va_A [(h0, eE h1 h2 kn), (h1, eR hw1 hc1 hb1 a1 r1), (hw1, eW true), (hc1, eA cy f1), (hb1, eA cy g1), (h2, eR hw2 hc2 hb2 a2 r2), (hw2, eW false), (hc2, eA cy f2), (hb2, eA cy g2), (ho, eO nv sv)] s.heap.size = A at hD hAN ⊢
  have hA : ∀ q : Nat, s.heap.size ≤ q → A q := fun q h => by rw [← hAe]; exact Or.inr h
  have hS : va_S A s.heap s.heap [] := va_S.rf
  have hP : va_P (dC, dI) xCl [(h0, eE h1 h2 kn), (h1, eR hw1 hc1 hb1 a1 r1), (hw1, eW true), (hc1, eA cy f1), (hb1, eA cy g1), (h2, eR hw2 hc2 hb2 a2 r2), (hw2, eW false), (hc2, eA cy f2), (hb2, eA cy g2), (ho, eO nv sv)] s.heap := hP
  have hl := lv_entry ([.ref h0, .int (b2i p1), .int p2, .ref ho]) (n := 5) (Nat.le_of_ble_eq_true rfl)
  rw [lg_entry_eq]
  generalize (lg_sl ([.ref h0, .int (b2i p1), .int p2, .ref ho]) ++ List.replicate (5 - (lg_sl ([.ref h0, .int (b2i p1), .int p2, .ref ho])).length) Slot.unset).toArray = ls at hl ⊢
  have hl : lv_has ls 5 [(0, .ref h0), (1, .int (b2i p1)), (2, .int p2), (3, .ref ho)] := hl
  refine lv_aload_n hx hb dL_narrowEnd_0 rfl (lv_at hl 3 rfl) ?_
  refine lv_aload_n hx hb dL_narrowEnd_1 rfl (lv_at hl 0 rfl) ?_
  refine lv_iload_n hx hb dL_narrowEnd_2 rfl (lv_at hl 1 rfl) ?_
  refine lv_iload_n hx hb dL_narrowEnd_3 rfl (lv_at hl 2 rfl) ?_
  have hPc := hP.sub (ws' := [(h0, eE h1 h2 kn), (h1, eR hw1 hc1 hb1 a1 r1), (hw1, eW true), (hc1, eA cy f1), (hb1, eA cy g1), (h2, eR hw2 hc2 hb2 a2 r2), (hw2, eW false), (hc2, eA cy f2), (hb2, eA cy g2)]) [0, 1, 2, 3, 4, 5, 6, 7, 8] rfl
  have hDc := hD.sub (ws' := [(h0, eE h1 h2 kn), (h1, eR hw1 hc1 hb1 a1 r1), (hw1, eW true), (hc1, eA cy f1), (hb1, eA cy g1), (h2, eR hw2 hc2 hb2 a2 r2), (hw2, eW false), (hc2, eA cy f2), (hb2, eA cy g2)]) [0, 1, 2, 3, 4, 5, 6, 7, 8] (by decide +kernel) rfl
  have hKc := hK.sub (tys' := [(cy, .long)]) [0] rfl
  have hFc := va_free (wc := [(h0, eE h1 h2 kn), (h1, eR hw1 hc1 hb1 a1 r1), (hw1, eW true), (hc1, eA cy f1), (hb1, eA cy g1), (h2, eR hw2 hc2 hb2 a2 r2), (hw2, eW false), (hc2, eA cy f2), (hb2, eA cy g2)]) hD hS hA [0, 1, 2, 3, 4, 5, 6, 7, 8] rfl
  refine vx_calli (vx_runV (As := [.int (b2i p1), .int p2]) (rest := [.ref ho]) ⟨hx, hb, hml, hown, hts⟩ (k_X2_narrowEnd l hfl dC dI cy h0 h1 hw1 hc1 hb1 h2 hw2 hc2 hb2 a1 r1 f1 g1 a2 r2 f2 g2 kn s.heap.size N p1 p2) (cwV 2 hts gL_narrowEnd_X2_narrowEnd rfl rfl rfl (by decide +kernel) ⟨Nat.le_of_ble_eq_true rfl, Nat.le_of_ble_eq_true rfl⟩) (xM.preV hKc hPc hDc hAN (Nat.le_trans hN hS.1) (hG.kept hS hAN) (ci := 4) (q0 := 0) rfl rfl) rfl rfl hl.1 rfl (lv_room (Nat.le_of_ble_eq_true rfl)) dL_narrowEnd_4 ⟨Nat.le_of_ble_eq_true rfl, Nat.le_of_ble_eq_true rfl⟩) hS (fun q _ h => hFc q h) hFc (fun q _ h => hFc q h) (fun E ce q9 u9 t H locs ht hvm hpx hbx hz hk hS hce hcv hcl => ?_) (fun r_1 u t H locs ht hvm hw hB hz hk hS => ?_)
  · have c_2 : ¬ (o_X2_narrowEnd a2 f2 p1 p2).1 = 0 := hpx
    obtain ⟨hbe, hP1, hD1⟩ := hbx
    rw [ht] at hP1
    obtain ⟨hP, hD⟩ := va_join (wr := [(ho, eO nv sv)]) (w1 := [(h0, eE h1 h2 kn), (h1, eR hw1 hc1 hb1 a1 r1), (hw1, eW true), (hc1, eA cy f1), (hb1, eA cy g1), (h2, eR hw2 hc2 hb2 a2 r2), (hw2, eW false), (hc2, eA cy f2), (hb2, eA cy g2)]) hP hD [0, 1, 2, 3, 4, 5, 6, 7, 8] [9] rfl rfl (by decide +kernel) (by decide +kernel) hk hFc hP1 hD1
    have hP := hP.sub (ws' := [(h0, eE h1 h2 kn), (h1, eR hw1 hc1 hb1 a1 r1), (hw1, eW true), (hc1, eA cy f1), (hb1, eA cy g1), (h2, eR hw2 hc2 hb2 a2 r2), (hw2, eW false), (hc2, eA cy f2), (hb2, eA cy g2), (ho, eO nv sv)]) [1, 2, 3, 4, 5, 6, 7, 8, 9, 0] rfl
    have hD := hD.sub (ws' := [(h0, eE h1 h2 kn), (h1, eR hw1 hc1 hb1 a1 r1), (hw1, eW true), (hc1, eA cy f1), (hb1, eA cy g1), (h2, eR hw2 hc2 hb2 a2 r2), (hw2, eW false), (hc2, eA cy f2), (hb2, eA cy g2), (ho, eO nv sv)]) [1, 2, 3, 4, 5, 6, 7, 8, 9, 0] (by decide +kernel) rfl
    have hE : E = "java/lang/IndexOutOfBoundsException" := hbe.trans (by rw [show (o_X2_narrowEnd a2 f2 p1 p2).1 = 1 from (xr_X2_narrowEnd _ _ _ _ c_2)]; rfl)
    subst hE
    refine vx_catch (own := RL) (name := "java/lang/IndexOutOfBoundsException") hown [] ⟨0, 11, 14, 19⟩ [] htab (fun z hz => absurd hz List.not_mem_nil) (by decide +kernel) (by decide +kernel) (hts (.classLink RL 19 "java/lang/IndexOutOfBoundsException") (by decide +kernel)) (va_Nw.use rfl (hG.1 (.castable "java/lang/IndexOutOfBoundsException" "java/lang/IndexOutOfBoundsException") (List.mem_of_getElem? (i := 11) rfl))) hce hcv hcl ?_
    refine lv_astore (lv' := [(4, .ref q9), (0, .ref h0), (1, .int (b2i p1)), (2, .int p2), (3, .ref ho)]) hx hb dL_narrowEnd_14 hl (by decide +kernel) rfl (fun ls hl => ?_)
    refine lv_iconst (v := 1) hx hb dL_narrowEnd_16 (by decide +kernel) ?_
    have he : o_L_narrowEnd a2 f2 nv p1 p2 = (1, a2, f2, nv) := by (rw [o_L_narrowEnd, if_neg c_2]) <;> rfl
    refine W.widen (k := 1) (n := 6) (by omega) (by omega) ?_
    exact W.iret (v := 1) hx hb hr (fun t ht hW => ⟨⟨_, (), rfl, (by (rw [he]) <;> rfl), (by rw [he]; exact ⟨by rw [ht]; exact hP, hD⟩)⟩, hS.F ht⟩) hS.2.2 dL_narrowEnd_17
  · skip
    obtain ⟨c_3, hw⟩ := hw
    have c_3 : (o_X2_narrowEnd a2 f2 p1 p2).1 = 0 := c_3
    replace hw : r_1 = (o_X2_narrowEnd a2 f2 p1 p2).2.1 := hw
    subst r_1
    obtain ⟨hP1, hD1⟩ := hB
    rw [ht] at hP1
    obtain ⟨hP, hD⟩ := va_join (wr := [(ho, eO nv sv)]) (w1 := [(h0, eE h1 h2 kn), (h1, eR hw1 hc1 hb1 a1 r1), (hw1, eW true), (hc1, eA cy f1), (hb1, eA cy g1), (h2, eR hw2 hc2 hb2 (o_X2_narrowEnd a2 f2 p1 p2).2.2.1 r2), (hw2, eW false), (hc2, eA cy (o_X2_narrowEnd a2 f2 p1 p2).2.2.2), (hb2, eA cy g2)]) hP hD [0, 1, 2, 3, 4, 5, 6, 7, 8] [9] rfl rfl (by decide +kernel) (by decide +kernel) hk hFc hP1 hD1
    have hP := hP.sub (ws' := [(h0, eE h1 h2 kn), (h1, eR hw1 hc1 hb1 a1 r1), (hw1, eW true), (hc1, eA cy f1), (hb1, eA cy g1), (h2, eR hw2 hc2 hb2 (o_X2_narrowEnd a2 f2 p1 p2).2.2.1 r2), (hw2, eW false), (hc2, eA cy (o_X2_narrowEnd a2 f2 p1 p2).2.2.2), (hb2, eA cy g2), (ho, eO nv sv)]) [1, 2, 3, 4, 5, 6, 7, 8, 9, 0] rfl
    have hD := hD.sub (ws' := [(h0, eE h1 h2 kn), (h1, eR hw1 hc1 hb1 a1 r1), (hw1, eW true), (hc1, eA cy f1), (hb1, eA cy g1), (h2, eR hw2 hc2 hb2 (o_X2_narrowEnd a2 f2 p1 p2).2.2.1 r2), (hw2, eW false), (hc2, eA cy (o_X2_narrowEnd a2 f2 p1 p2).2.2.2), (hb2, eA cy g2), (ho, eO nv sv)]) [1, 2, 3, 4, 5, 6, 7, 8, 9, 0] (by decide +kernel) rfl
    refine lv_i2l (v := (((o_X2_narrowEnd a2 f2 p1 p2).2.1).toInt64)) hx hb dL_narrowEnd_7 rfl ?_
    refine va_putN (D := (dC, dI)) (ci := 5) (v := .long (((o_X2_narrowEnd a2 f2 p1 p2).2.1).toInt64)) (ty := .long) (C := RX3) (T := TX3) (N := 2) hx hb hts (by decide +kernel) tyX3 tyX3_ok nmX3 hown hK hP hD hS 9 rfl rfl 0 (by decide +kernel) (va_Nw.use rfl (hG.1 (.fieldLinkNest RL 13 "EdgefloatsLaw$Out" "n" "J" RL) (List.mem_of_getElem? (i := 6) rfl))) (fun _ h9 => h9) rfl (by decide +kernel) rfl rfl (Nat.le_of_ble_eq_true rfl) dL_narrowEnd_8 (fun H locs hP hD hS => ?_)
    have hP : va_P (dC, dI) xCl [(h0, eE h1 h2 kn), (h1, eR hw1 hc1 hb1 a1 r1), (hw1, eW true), (hc1, eA cy f1), (hb1, eA cy g1), (h2, eR hw2 hc2 hb2 (o_X2_narrowEnd a2 f2 p1 p2).2.2.1 r2), (hw2, eW false), (hc2, eA cy (o_X2_narrowEnd a2 f2 p1 p2).2.2.2), (hb2, eA cy g2), (ho, eO (((o_X2_narrowEnd a2 f2 p1 p2).2.1).toInt64) sv)] H := hP
    have hD : va_D A [(h0, eE h1 h2 kn), (h1, eR hw1 hc1 hb1 a1 r1), (hw1, eW true), (hc1, eA cy f1), (hb1, eA cy g1), (h2, eR hw2 hc2 hb2 (o_X2_narrowEnd a2 f2 p1 p2).2.2.1 r2), (hw2, eW false), (hc2, eA cy (o_X2_narrowEnd a2 f2 p1 p2).2.2.2), (hb2, eA cy g2), (ho, eO (((o_X2_narrowEnd a2 f2 p1 p2).2.1).toInt64) sv)] := hD
    refine lv_goto (tgt := 18) hx hb dL_narrowEnd_11 (by decide +kernel) ?_
    refine lv_iconst (v := 0) hx hb dL_narrowEnd_18 (by decide +kernel) ?_
    have he : o_L_narrowEnd a2 f2 nv p1 p2 = (0, (o_X2_narrowEnd a2 f2 p1 p2).2.2.1, (o_X2_narrowEnd a2 f2 p1 p2).2.2.2, (((o_X2_narrowEnd a2 f2 p1 p2).2.1).toInt64)) := by (rw [o_L_narrowEnd, if_pos c_3]) <;> rfl
    refine W.widen (k := 1) (n := 6) (by omega) (by omega) ?_
    exact W.iret (v := 0) hx hb hr (fun t ht hW => ⟨⟨_, (), rfl, (by (rw [he]) <;> rfl), (by rw [he]; exact ⟨by rw [ht]; exact hP, hD⟩)⟩, hS.F ht⟩) hS.2.2 dL_narrowEnd_19
theorem cl_L_digits_1 : ∀ w ∈ [.classLink RL 19 "java/lang/IndexOutOfBoundsException", .methodLink RL 132 yX2_digits, .instanceMethod yX2_digits, .selects RX2 yX2_digits yX2_digits, .initialized RX2, .code yX2_digits cX2_digits 2 (some .int), .fieldLink RX2 25 "Edgefloats" "narrow" "LEdgefloats$Row;", .methodLink RX2 68 yX0_lastHalf, .instanceMethod yX0_lastHalf, .selects RX0 yX0_lastHalf yX0_lastHalf, .initialized RX0, .code yX0_lastHalf cX0_lastHalf 2 (some .int), .fieldLink RX0 15 "Edgefloats$Row" "cells" "[J", .static yX2_checkCell, .code yX2_checkCell cX2_checkCell 1 none, .classLink RX2 148 "java/lang/IndexOutOfBoundsException", .initialized "java/lang/IndexOutOfBoundsException"], w ∈ wsL_digits := fun _ h => (List.mem_cons_of_mem _ (List.mem_append_left _ (List.mem_append_left _ (List.mem_append_left _ (List.mem_append_left _ h)))))
theorem cl_L_digits_2 : ∀ w ∈ wsX30, w ∈ wsL_digits := fun _ h => (List.mem_cons_of_mem _ (List.mem_append_left _ (List.mem_append_left _ (List.mem_append_left _ (List.mem_append_right _ h)))))
theorem cl_L_digits_3 : ∀ w ∈ wsX20, w ∈ wsL_digits := fun _ h => (List.mem_cons_of_mem _ (List.mem_append_left _ (List.mem_append_left _ (List.mem_append_right _ h))))
theorem cl_L_digits_4 : ∀ w ∈ wsX00, w ∈ wsL_digits := fun _ h => (List.mem_cons_of_mem _ (List.mem_append_left _ (List.mem_append_right _ h)))
theorem cl_L_digits_5 : ∀ w ∈ (vx_atS RX2 152 "java/lang/IndexOutOfBoundsException" ["java/lang/RuntimeException", "java/lang/Exception"]).filter goodWord, w ∈ wsL_digits := fun _ h => (List.mem_cons_of_mem _ (List.mem_append_right _ h))
set_option maxRecDepth 20000 in
theorem ggL_digits_X2_digits : GoodIn wsL_digits wsX2_digits := goodIn_sub (List.forall_mem_cons.mpr ⟨(cl_L_digits_1 _ (List.mem_of_getElem? (i := 5) rfl)), fun w h => (List.mem_append.mp h).elim ((fun w h => (List.mem_append.mp h).elim ((fun w h => (List.mem_append.mp h).elim ((List.forall_mem_cons.mpr ⟨(cl_L_digits_1 _ (List.mem_of_getElem? (i := 6) rfl)), List.forall_mem_cons.mpr ⟨(cl_L_digits_1 _ (List.mem_of_getElem? (i := 7) rfl)), List.forall_mem_cons.mpr ⟨(cl_L_digits_1 _ (List.mem_of_getElem? (i := 8) rfl)), List.forall_mem_cons.mpr ⟨(cl_L_digits_1 _ (List.mem_of_getElem? (i := 9) rfl)), List.forall_mem_cons.mpr ⟨(cl_L_digits_1 _ (List.mem_of_getElem? (i := 10) rfl)), List.forall_mem_cons.mpr ⟨(cl_L_digits_1 _ (List.mem_of_getElem? (i := 11) rfl)), List.forall_mem_cons.mpr ⟨(cl_L_digits_1 _ (List.mem_of_getElem? (i := 12) rfl)), List.forall_mem_cons.mpr ⟨(cl_L_digits_1 _ (List.mem_of_getElem? (i := 13) rfl)), List.forall_mem_cons.mpr ⟨(cl_L_digits_1 _ (List.mem_of_getElem? (i := 4) rfl)), List.forall_mem_cons.mpr ⟨(cl_L_digits_1 _ (List.mem_of_getElem? (i := 14) rfl)), List.forall_mem_cons.mpr ⟨(cl_L_digits_1 _ (List.mem_of_getElem? (i := 15) rfl)), List.forall_mem_cons.mpr ⟨(cl_L_digits_1 _ (List.mem_of_getElem? (i := 16) rfl)), fun _ h => absurd h List.not_mem_nil⟩⟩⟩⟩⟩⟩⟩⟩⟩⟩⟩⟩) w) ((cl_L_digits_3) w)) w) ((cl_L_digits_4) w)) w) ((cl_L_digits_5) w)⟩) (by decide +kernel)
set_option maxRecDepth 20000 in
theorem gL_digits_X2_digits : GoodIn wsL_digits (wsV RL 132 RX2 yX2_digits wsX2_digits) := goodIn_app (goodIn_sub (List.forall_mem_cons.mpr ⟨(cl_L_digits_1 _ (List.mem_of_getElem? (i := 1) rfl)), List.forall_mem_cons.mpr ⟨(cl_L_digits_1 _ (List.mem_of_getElem? (i := 2) rfl)), List.forall_mem_cons.mpr ⟨(cl_L_digits_1 _ (List.mem_of_getElem? (i := 3) rfl)), List.forall_mem_cons.mpr ⟨(cl_L_digits_1 _ (List.mem_of_getElem? (i := 4) rfl)), fun _ h => absurd h List.not_mem_nil⟩⟩⟩⟩) (by decide +kernel)) ggL_digits_X2_digits
noncomputable def dz_p16_33 : List (Nat × Instr × Nat) := [(0, (.aload_n 2, 1)), (1, (.aload_n 0, 1)), (2, (.iload_n 1, 1)), (3, (.invokevirtual 132, 3)), (6, (.i2l, 1)), (7, (.putfield 13, 3)), (10, (.goto 6, 3)), (13, (.astore_n 3, 1)), (14, (.iconst 1, 1)), (15, (.ireturn, 1)), (16, (.iconst 0, 1)), (17, (.ireturn, 1))]
theorem dy_p16_33 : dz_ok cL_digits dz_p16_33 = true := by decide +kernel
theorem dL_digits_0 : decode cL_digits 0 = .ok (.aload_n 2, 1) := dz_at (i := 0) dy_p16_33 rfl
theorem dL_digits_1 : decode cL_digits 1 = .ok (.aload_n 0, 1) := dz_at (i := 1) dy_p16_33 rfl
theorem dL_digits_2 : decode cL_digits 2 = .ok (.iload_n 1, 1) := dz_at (i := 2) dy_p16_33 rfl
theorem dL_digits_3 : decode cL_digits 3 = .ok (.invokevirtual 132, 3) := dz_at (i := 3) dy_p16_33 rfl
theorem dL_digits_6 : decode cL_digits 6 = .ok (.i2l, 1) := dz_at (i := 4) dy_p16_33 rfl
theorem dL_digits_7 : decode cL_digits 7 = .ok (.putfield 13, 3) := dz_at (i := 5) dy_p16_33 rfl
theorem dL_digits_10 : decode cL_digits 10 = .ok (.goto 6, 3) := dz_at (i := 6) dy_p16_33 rfl
theorem dL_digits_13 : decode cL_digits 13 = .ok (.astore_n 3, 1) := dz_at (i := 7) dy_p16_33 rfl
theorem dL_digits_14 : decode cL_digits 14 = .ok (.iconst 1, 1) := dz_at (i := 8) dy_p16_33 rfl
theorem dL_digits_15 : decode cL_digits 15 = .ok (.ireturn, 1) := dz_at (i := 9) dy_p16_33 rfl
theorem dL_digits_16 : decode cL_digits 16 = .ok (.iconst 0, 1) := dz_at (i := 10) dy_p16_33 rfl
theorem dL_digits_17 : decode cL_digits 17 = .ok (.ireturn, 1) := dz_at (i := 11) dy_p16_33 rfl
noncomputable def o_L_digits (f2 : Nat → Int64) (nv : Int64) (p1 : Int32) : Int32 × Int64 :=
  if (o_X2_digits f2 p1).1 = 0 then (0, (((o_X2_digits f2 p1).2).toInt64))
  else (1, nv)
set_option maxHeartbeats 4000000 in
set_option maxRecDepth 100000 in
theorem k_L_digits (l : Launch) (hfl : l.flags = flags0) (dC : Nat → ClassId) (dI : Nat → Nat → Nat) (cy : ClassId) (h0 : Nat) (h1 : Nat) (hw1 : Nat) (hc1 : Nat) (hb1 : Nat) (h2 : Nat) (hw2 : Nat) (hc2 : Nat) (hb2 : Nat) (a1 : Int32) (r1 : Int32) (f1 : Nat → Int64) (g1 : Nat → Int64) (a2 : Int32) (r2 : Int32) (f2 : Nat → Int64) (g2 : Nat → Int64) (kn : Int32) (ho : Nat) (nv : Int64) (sv : Value) (sz : Nat) (N : Nat) (p1 : Int32) : Met l yL_digits wsL_digits ({ frames := 9, cells := 1, slots := 6, locals := 162 }) (va_Pc [.ref h0, .int p1, .ref ho] (xL (dC, dI) xCl [(h0, eE h1 h2 kn), (h1, eR hw1 hc1 hb1 a1 r1), (hw1, eW true), (hc1, eA cy f1), (hb1, eA cy g1), (h2, eR hw2 hc2 hb2 a2 r2), (hw2, eW false), (hc2, eA cy f2), (hb2, eA cy g2), (ho, eO nv sv)] [(cy, .long)] sz N)) (va_Qi (fun (r : Int32) (_ : Unit) => r = (o_L_digits f2 nv p1).1) (fun _ t => xW (dC, dI) xCl [(h0, eE h1 h2 kn), (h1, eR hw1 hc1 hb1 a1 r1), (hw1, eW true), (hc1, eA cy f1), (hb1, eA cy g1), (h2, eR hw2 hc2 hb2 a2 r2), (hw2, eW false), (hc2, eA cy f2), (hb2, eA cy g2), (ho, eO (o_L_digits f2 nv p1).2 sv)] (va_A [(h0, eE h1 h2 kn), (h1, eR hw1 hc1 hb1 a1 r1), (hw1, eW true), (hc1, eA cy f1), (hb1, eA cy g1), (h2, eR hw2 hc2 hb2 a2 r2), (hw2, eW false), (hc2, eA cy f2), (hb2, eA cy g2), (ho, eO nv sv)] sz) t) (va_A [(h0, eE h1 h2 kn), (h1, eR hw1 hc1 hb1 a1 r1), (hw1, eW true), (hc1, eA cy f1), (hb1, eA cy g1), (h2, eR hw2 hc2 hb2 a2 r2), (hw2, eW false), (hc2, eA cy f2), (hb2, eA cy g2), (ho, eO nv sv)] sz)) 1 6 (va_A [(h0, eE h1 h2 kn), (h1, eR hw1 hc1 hb1 a1 r1), (hw1, eW true), (hc1, eA cy f1), (hb1, eA cy g1), (h2, eR hw2 hc2 hb2 a2 r2), (hw2, eW false), (hc2, eA cy f2), (hb2, eA cy g2), (ho, eO nv sv)] sz) := by
  refine va_MetW (cc := cL_digits) (maxL := 4) (ret := (some .int)) (by decide +kernel) rfl ?_
  intro p e s m args below meth c s₁ B hml hv
  obtain ⟨rfl, ⟨hsz, hP, hK, hD0, hN, hG⟩, hnc⟩ := hv
  have hx := B.exec
  have hb := B.bytes
  have hr := B.returns
  have hts := atoms_spec (ws := wsL_digits) B.pre
  have hown : s.vm.findClass RL = some m.cls := findClass_of_methodNamed B.named
  have hlocks := B.notSynchronized
  have htab := vx_table (x := yL_digits) B (hts _ List.mem_cons_self)
  subst hsz
  have hAN : ∀ q, va_A [(h0, eE h1 h2 kn), (h1, eR hw1 hc1 hb1 a1 r1), (hw1, eW true), (hc1, eA cy f1), (hb1, eA cy g1), (h2, eR hw2 hc2 hb2 a2 r2), (hw2, eW false), (hc2, eA cy f2), (hb2, eA cy g2), (ho, eO nv sv)] s.heap.size q → N ≤ q := xA_N hD0 hN
  have hD := hD0.self (sz := s.heap.size)
  generalize hAe : va_A [(h0, eE h1 h2 kn), (h1, eR hw1 hc1 hb1 a1 r1), (hw1, eW true), (hc1, eA cy f1), (hb1, eA cy g1), (h2, eR hw2 hc2 hb2 a2 r2), (hw2, eW false), (hc2, eA cy f2), (hb2, eA cy g2), (ho, eO nv sv)] s.heap.size = A at hD hAN ⊢
  have hA : ∀ q : Nat, s.heap.size ≤ q → A q := fun q h => by rw [← hAe]; exact Or.inr h
  have hS : va_S A s.heap s.heap [] := va_S.rf
  have hP : va_P (dC, dI) xCl [(h0, eE h1 h2 kn), (h1, eR hw1 hc1 hb1 a1 r1), (hw1, eW true), (hc1, eA cy f1), (hb1, eA cy g1), (h2, eR hw2 hc2 hb2 a2 r2), (hw2, eW false), (hc2, eA cy f2), (hb2, eA cy g2), (ho, eO nv sv)] s.heap := hP
  have hl := lv_entry ([.ref h0, .int p1, .ref ho]) (n := 4) (Nat.le_of_ble_eq_true rfl)
  rw [lg_entry_eq]
  generalize (lg_sl ([.ref h0, .int p1, .ref ho]) ++ List.replicate (4 - (lg_sl ([.ref h0, .int p1, .ref ho])).length) Slot.unset).toArray = ls at hl ⊢
  have hl : lv_has ls 4 [(0, .ref h0), (1, .int p1), (2, .ref ho)] := hl
  refine lv_aload_n hx hb dL_digits_0 rfl (lv_at hl 2 rfl) ?_
  refine lv_aload_n hx hb dL_digits_1 rfl (lv_at hl 0 rfl) ?_
  refine lv_iload_n hx hb dL_digits_2 rfl (lv_at hl 1 rfl) ?_
  have hPc := hP.sub (ws' := [(h0, eE h1 h2 kn), (h1, eR hw1 hc1 hb1 a1 r1), (hw1, eW true), (hc1, eA cy f1), (hb1, eA cy g1), (h2, eR hw2 hc2 hb2 a2 r2), (hw2, eW false), (hc2, eA cy f2), (hb2, eA cy g2)]) [0, 1, 2, 3, 4, 5, 6, 7, 8] rfl
  have hDc := hD.sub (ws' := [(h0, eE h1 h2 kn), (h1, eR hw1 hc1 hb1 a1 r1), (hw1, eW true), (hc1, eA cy f1), (hb1, eA cy g1), (h2, eR hw2 hc2 hb2 a2 r2), (hw2, eW false), (hc2, eA cy f2), (hb2, eA cy g2)]) [0, 1, 2, 3, 4, 5, 6, 7, 8] (by decide +kernel) rfl
  have hKc := hK.sub (tys' := [(cy, .long)]) [0] rfl
  refine vx_calli (vx_runV (As := [.int p1]) (rest := [.ref ho]) ⟨hx, hb, hml, hown, hts⟩ (k_X2_digits l hfl dC dI cy h0 h1 hw1 hc1 hb1 h2 hw2 hc2 hb2 a1 r1 f1 g1 a2 r2 f2 g2 kn s.heap.size N p1) (cwV 1 hts gL_digits_X2_digits rfl rfl rfl (by decide +kernel) ⟨Nat.le_of_ble_eq_true rfl, Nat.le_of_ble_eq_true rfl⟩) (xM.preV hKc hPc hDc hAN (Nat.le_trans hN hS.1) (hG.kept hS hAN) (ci := 4) (q0 := 0) rfl rfl) rfl rfl hl.1 rfl (lv_room (Nat.le_of_ble_eq_true rfl)) dL_digits_3 ⟨Nat.le_of_ble_eq_true rfl, Nat.le_of_ble_eq_true rfl⟩) hS xA_old (fun q h => hA q (Nat.le_trans hS.1 h)) xA_old (fun E ce q9 u9 t H locs ht hvm hpx hbx hz hk hS hce hcv hcl => ?_) (fun r_1 u t H locs ht hvm hw hB hz hk hS => ?_)
  · have c_2 : ¬ (o_X2_digits f2 p1).1 = 0 := hpx
    have hbe := hbx
    have hP := xP_keep hP hk
    have hE : E = "java/lang/IndexOutOfBoundsException" := hbe.trans (by rw [show (o_X2_digits f2 p1).1 = 1 from (xr_X2_digits _ _ c_2)]; rfl)
    subst hE
    refine vx_catch (own := RL) (name := "java/lang/IndexOutOfBoundsException") hown [] ⟨0, 10, 13, 19⟩ [] htab (fun z hz => absurd hz List.not_mem_nil) (by decide +kernel) (by decide +kernel) (hts (.classLink RL 19 "java/lang/IndexOutOfBoundsException") (by decide +kernel)) (va_Nw.use rfl (hG.1 (.castable "java/lang/IndexOutOfBoundsException" "java/lang/IndexOutOfBoundsException") (List.mem_of_getElem? (i := 11) rfl))) hce hcv hcl ?_
    refine lv_astore_n (lv' := [(3, .ref q9), (0, .ref h0), (1, .int p1), (2, .ref ho)]) hx hb dL_digits_13 rfl hl (by decide +kernel) rfl (fun ls hl => ?_)
    refine lv_iconst (v := 1) hx hb dL_digits_14 (by decide +kernel) ?_
    have he : o_L_digits f2 nv p1 = (1, nv) := by (rw [o_L_digits, if_neg c_2]) <;> rfl
    refine W.widen (k := 1) (n := 6) (by omega) (by omega) ?_
    exact W.iret (v := 1) hx hb hr (fun t ht hW => ⟨⟨_, (), rfl, (by (rw [he]) <;> rfl), (by rw [he]; exact ⟨by rw [ht]; exact hP, hD⟩)⟩, hS.F ht⟩) hS.2.2 dL_digits_15
  · skip
    obtain ⟨c_3, hw⟩ := hw
    have c_3 : (o_X2_digits f2 p1).1 = 0 := c_3
    replace hw : r_1 = (o_X2_digits f2 p1).2 := hw
    subst r_1
    have hP := xP_keep hP hk
    refine lv_i2l (v := (((o_X2_digits f2 p1).2).toInt64)) hx hb dL_digits_6 rfl ?_
    refine va_putN (D := (dC, dI)) (ci := 5) (v := .long (((o_X2_digits f2 p1).2).toInt64)) (ty := .long) (C := RX3) (T := TX3) (N := 2) hx hb hts (by decide +kernel) tyX3 tyX3_ok nmX3 hown hK hP hD hS 9 rfl rfl 0 (by decide +kernel) (va_Nw.use rfl (hG.1 (.fieldLinkNest RL 13 "EdgefloatsLaw$Out" "n" "J" RL) (List.mem_of_getElem? (i := 6) rfl))) (fun _ h9 => h9) rfl (by decide +kernel) rfl rfl (Nat.le_of_ble_eq_true rfl) dL_digits_7 (fun H locs hP hD hS => ?_)
    have hP : va_P (dC, dI) xCl [(h0, eE h1 h2 kn), (h1, eR hw1 hc1 hb1 a1 r1), (hw1, eW true), (hc1, eA cy f1), (hb1, eA cy g1), (h2, eR hw2 hc2 hb2 a2 r2), (hw2, eW false), (hc2, eA cy f2), (hb2, eA cy g2), (ho, eO (((o_X2_digits f2 p1).2).toInt64) sv)] H := hP
    have hD : va_D A [(h0, eE h1 h2 kn), (h1, eR hw1 hc1 hb1 a1 r1), (hw1, eW true), (hc1, eA cy f1), (hb1, eA cy g1), (h2, eR hw2 hc2 hb2 a2 r2), (hw2, eW false), (hc2, eA cy f2), (hb2, eA cy g2), (ho, eO (((o_X2_digits f2 p1).2).toInt64) sv)] := hD
    refine lv_goto (tgt := 16) hx hb dL_digits_10 (by decide +kernel) ?_
    refine lv_iconst (v := 0) hx hb dL_digits_16 (by decide +kernel) ?_
    have he : o_L_digits f2 nv p1 = (0, (((o_X2_digits f2 p1).2).toInt64)) := by (rw [o_L_digits, if_pos c_3]) <;> rfl
    refine W.widen (k := 1) (n := 6) (by omega) (by omega) ?_
    exact W.iret (v := 0) hx hb hr (fun t ht hW => ⟨⟨_, (), rfl, (by (rw [he]) <;> rfl), (by rw [he]; exact ⟨by rw [ht]; exact hP, hD⟩)⟩, hS.F ht⟩) hS.2.2 dL_digits_17
theorem cl_L_narrowOrder_1 : ∀ w ∈ wsL_narrowOrder_r1, w ∈ wsL_narrowOrder := fun _ h => (List.mem_cons_of_mem _ (List.mem_append_left _ (List.mem_append_left _ (List.mem_append_left _ (List.mem_append_left _ (List.mem_append_left _ (List.mem_append_left _ (List.mem_append_left _ h))))))))
theorem cl_L_narrowOrder_2 : ∀ w ∈ wsL_narrowOrder_r2, w ∈ wsL_narrowOrder := fun _ h => (List.mem_cons_of_mem _ (List.mem_append_left _ (List.mem_append_left _ (List.mem_append_left _ (List.mem_append_left _ (List.mem_append_left _ (List.mem_append_left _ (List.mem_append_right _ h))))))))
theorem cl_L_narrowOrder_3 : ∀ w ∈ wsX30, w ∈ wsL_narrowOrder := fun _ h => (List.mem_cons_of_mem _ (List.mem_append_left _ (List.mem_append_left _ (List.mem_append_left _ (List.mem_append_left _ (List.mem_append_left _ (List.mem_append_right _ h)))))))
theorem cl_L_narrowOrder_4 : ∀ w ∈ wsX20, w ∈ wsL_narrowOrder := fun _ h => (List.mem_cons_of_mem _ (List.mem_append_left _ (List.mem_append_left _ (List.mem_append_left _ (List.mem_append_left _ (List.mem_append_right _ h))))))
theorem cl_L_narrowOrder_5 : ∀ w ∈ wsX00, w ∈ wsL_narrowOrder := fun _ h => (List.mem_cons_of_mem _ (List.mem_append_left _ (List.mem_append_left _ (List.mem_append_left _ (List.mem_append_right _ h)))))
theorem cl_L_narrowOrder_6 : ∀ w ∈ wsX10, w ∈ wsL_narrowOrder := fun _ h => (List.mem_cons_of_mem _ (List.mem_append_left _ (List.mem_append_left _ (List.mem_append_right _ h))))
theorem cl_L_narrowOrder_7 : ∀ w ∈ (vx_atS RX2 152 "java/lang/IndexOutOfBoundsException" ["java/lang/RuntimeException", "java/lang/Exception"]).filter goodWord, w ∈ wsL_narrowOrder := fun _ h => (List.mem_cons_of_mem _ (List.mem_append_left _ (List.mem_append_right _ h)))
theorem cl_L_narrowOrder_8 : ∀ w ∈ (vx_atS RX2 159 "java/lang/IllegalArgumentException" ["java/lang/RuntimeException", "java/lang/Exception"]).filter goodWord, w ∈ wsL_narrowOrder := fun _ h => (List.mem_cons_of_mem _ (List.mem_append_right _ h))
set_option maxRecDepth 20000 in
theorem ggL_narrowOrder_X2_narrowOrder : GoodIn wsL_narrowOrder wsX2_narrowOrder := goodIn_sub (List.forall_mem_cons.mpr ⟨(cl_L_narrowOrder_1 _ (List.mem_of_getElem? (i := 6) rfl)), fun w h => (List.mem_append.mp h).elim ((fun w h => (List.mem_append.mp h).elim ((fun w h => (List.mem_append.mp h).elim ((fun w h => (List.mem_append.mp h).elim ((fun w h => (List.mem_append.mp h).elim ((fun w h => (List.mem_append.mp h).elim ((List.forall_mem_cons.mpr ⟨(cl_L_narrowOrder_1 _ (List.mem_of_getElem? (i := 7) rfl)), List.forall_mem_cons.mpr ⟨(cl_L_narrowOrder_1 _ (List.mem_of_getElem? (i := 8) rfl)), List.forall_mem_cons.mpr ⟨(cl_L_narrowOrder_1 _ (List.mem_of_getElem? (i := 9) rfl)), List.forall_mem_cons.mpr ⟨(cl_L_narrowOrder_1 _ (List.mem_of_getElem? (i := 10) rfl)), List.forall_mem_cons.mpr ⟨(cl_L_narrowOrder_1 _ (List.mem_of_getElem? (i := 11) rfl)), List.forall_mem_cons.mpr ⟨(cl_L_narrowOrder_1 _ (List.mem_of_getElem? (i := 12) rfl)), List.forall_mem_cons.mpr ⟨(cl_L_narrowOrder_1 _ (List.mem_of_getElem? (i := 13) rfl)), List.forall_mem_cons.mpr ⟨(cl_L_narrowOrder_1 _ (List.mem_of_getElem? (i := 14) rfl)), List.forall_mem_cons.mpr ⟨(cl_L_narrowOrder_1 _ (List.mem_of_getElem? (i := 15) rfl)), List.forall_mem_cons.mpr ⟨(cl_L_narrowOrder_1 _ (List.mem_of_getElem? (i := 5) rfl)), List.forall_mem_cons.mpr ⟨(cl_L_narrowOrder_1 _ (List.mem_of_getElem? (i := 16) rfl)), List.forall_mem_cons.mpr ⟨(cl_L_narrowOrder_1 _ (List.mem_of_getElem? (i := 17) rfl)), List.forall_mem_cons.mpr ⟨(cl_L_narrowOrder_1 _ (List.mem_of_getElem? (i := 18) rfl)), List.forall_mem_cons.mpr ⟨(cl_L_narrowOrder_1 _ (List.mem_of_getElem? (i := 19) rfl)), List.forall_mem_cons.mpr ⟨(cl_L_narrowOrder_1 _ (List.mem_of_getElem? (i := 20) rfl)), List.forall_mem_cons.mpr ⟨(cl_L_narrowOrder_1 _ (List.mem_of_getElem? (i := 21) rfl)), List.forall_mem_cons.mpr ⟨(cl_L_narrowOrder_1 _ (List.mem_of_getElem? (i := 22) rfl)), List.forall_mem_cons.mpr ⟨(cl_L_narrowOrder_1 _ (List.mem_of_getElem? (i := 23) rfl)), List.forall_mem_cons.mpr ⟨(cl_L_narrowOrder_2 _ (List.mem_of_getElem? (i := 0) rfl)), List.forall_mem_cons.mpr ⟨(cl_L_narrowOrder_2 _ (List.mem_of_getElem? (i := 1) rfl)), List.forall_mem_cons.mpr ⟨(cl_L_narrowOrder_2 _ (List.mem_of_getElem? (i := 2) rfl)), List.forall_mem_cons.mpr ⟨(cl_L_narrowOrder_2 _ (List.mem_of_getElem? (i := 3) rfl)), List.forall_mem_cons.mpr ⟨(cl_L_narrowOrder_2 _ (List.mem_of_getElem? (i := 4) rfl)), List.forall_mem_cons.mpr ⟨(cl_L_narrowOrder_2 _ (List.mem_of_getElem? (i := 5) rfl)), fun _ h => absurd h List.not_mem_nil⟩⟩⟩⟩⟩⟩⟩⟩⟩⟩⟩⟩⟩⟩⟩⟩⟩⟩⟩⟩⟩⟩⟩⟩) w) ((List.forall_mem_cons.mpr ⟨(cl_L_narrowOrder_2 _ (List.mem_of_getElem? (i := 6) rfl)), List.forall_mem_cons.mpr ⟨(cl_L_narrowOrder_2 _ (List.mem_of_getElem? (i := 7) rfl)), List.forall_mem_cons.mpr ⟨(cl_L_narrowOrder_2 _ (List.mem_of_getElem? (i := 8) rfl)), List.forall_mem_cons.mpr ⟨(cl_L_narrowOrder_2 _ (List.mem_of_getElem? (i := 9) rfl)), fun _ h => absurd h List.not_mem_nil⟩⟩⟩⟩) w)) w) ((cl_L_narrowOrder_4) w)) w) ((cl_L_narrowOrder_5) w)) w) ((cl_L_narrowOrder_6) w)) w) ((cl_L_narrowOrder_7) w)) w) ((cl_L_narrowOrder_8) w)⟩) (by decide +kernel)
set_option maxRecDepth 20000 in
theorem gL_narrowOrder_X2_narrowOrder : GoodIn wsL_narrowOrder (wsV RL 138 RX2 yX2_narrowOrder wsX2_narrowOrder) := goodIn_app (goodIn_sub (List.forall_mem_cons.mpr ⟨(cl_L_narrowOrder_1 _ (List.mem_of_getElem? (i := 2) rfl)), List.forall_mem_cons.mpr ⟨(cl_L_narrowOrder_1 _ (List.mem_of_getElem? (i := 3) rfl)), List.forall_mem_cons.mpr ⟨(cl_L_narrowOrder_1 _ (List.mem_of_getElem? (i := 4) rfl)), List.forall_mem_cons.mpr ⟨(cl_L_narrowOrder_1 _ (List.mem_of_getElem? (i := 5) rfl)), fun _ h => absurd h List.not_mem_nil⟩⟩⟩⟩) (by decide +kernel)) ggL_narrowOrder_X2_narrowOrder
noncomputable def dz_p16_34 : List (Nat × Instr × Nat) := [(0, (.aload 4, 2)), (2, (.aload_n 0, 1)), (3, (.iload_n 1, 1)), (4, (.iload_n 2, 1)), (5, (.iload_n 3, 1)), (6, (.invokevirtual 138, 3)), (9, (.i2l, 1)), (10, (.putfield 13, 3)), (13, (.goto 11, 3)), (16, (.astore 5, 2)), (18, (.iconst 1, 1)), (19, (.ireturn, 1)), (20, (.astore 5, 2)), (22, (.iconst 2, 1)), (23, (.ireturn, 1)), (24, (.iconst 0, 1)), (25, (.ireturn, 1))]
theorem dy_p16_34 : dz_ok cL_narrowOrder dz_p16_34 = true := by decide +kernel
theorem dL_narrowOrder_0 : decode cL_narrowOrder 0 = .ok (.aload 4, 2) := dz_at (i := 0) dy_p16_34 rfl
theorem dL_narrowOrder_2 : decode cL_narrowOrder 2 = .ok (.aload_n 0, 1) := dz_at (i := 1) dy_p16_34 rfl
theorem dL_narrowOrder_3 : decode cL_narrowOrder 3 = .ok (.iload_n 1, 1) := dz_at (i := 2) dy_p16_34 rfl
theorem dL_narrowOrder_4 : decode cL_narrowOrder 4 = .ok (.iload_n 2, 1) := dz_at (i := 3) dy_p16_34 rfl
theorem dL_narrowOrder_5 : decode cL_narrowOrder 5 = .ok (.iload_n 3, 1) := dz_at (i := 4) dy_p16_34 rfl
theorem dL_narrowOrder_6 : decode cL_narrowOrder 6 = .ok (.invokevirtual 138, 3) := dz_at (i := 5) dy_p16_34 rfl
theorem dL_narrowOrder_9 : decode cL_narrowOrder 9 = .ok (.i2l, 1) := dz_at (i := 6) dy_p16_34 rfl
theorem dL_narrowOrder_10 : decode cL_narrowOrder 10 = .ok (.putfield 13, 3) := dz_at (i := 7) dy_p16_34 rfl
theorem dL_narrowOrder_13 : decode cL_narrowOrder 13 = .ok (.goto 11, 3) := dz_at (i := 8) dy_p16_34 rfl
theorem dL_narrowOrder_16 : decode cL_narrowOrder 16 = .ok (.astore 5, 2) := dz_at (i := 9) dy_p16_34 rfl
theorem dL_narrowOrder_18 : decode cL_narrowOrder 18 = .ok (.iconst 1, 1) := dz_at (i := 10) dy_p16_34 rfl
theorem dL_narrowOrder_19 : decode cL_narrowOrder 19 = .ok (.ireturn, 1) := dz_at (i := 11) dy_p16_34 rfl
theorem dL_narrowOrder_20 : decode cL_narrowOrder 20 = .ok (.astore 5, 2) := dz_at (i := 12) dy_p16_34 rfl
theorem dL_narrowOrder_22 : decode cL_narrowOrder 22 = .ok (.iconst 2, 1) := dz_at (i := 13) dy_p16_34 rfl
theorem dL_narrowOrder_23 : decode cL_narrowOrder 23 = .ok (.ireturn, 1) := dz_at (i := 14) dy_p16_34 rfl
theorem dL_narrowOrder_24 : decode cL_narrowOrder 24 = .ok (.iconst 0, 1) := dz_at (i := 15) dy_p16_34 rfl
theorem dL_narrowOrder_25 : decode cL_narrowOrder 25 = .ok (.ireturn, 1) := dz_at (i := 16) dy_p16_34 rfl
noncomputable def o_L_narrowOrder (f2 : Nat → Int64) (nv : Int64) (p1 : Int32) (p2 : Int32) (p3 : Int32) : Int32 × Int64 :=
  if (o_X2_narrowOrder f2 p1 p2 p3).1 = 0 then (0, (((o_X2_narrowOrder f2 p1 p2 p3).2).toInt64))
  else if (o_X2_narrowOrder f2 p1 p2 p3).1 = 1 then (1, nv)
  else (2, nv)
set_option maxHeartbeats 4000000 in
set_option maxRecDepth 100000 in
theorem k_L_narrowOrder (l : Launch) (hfl : l.flags = flags0) (dC : Nat → ClassId) (dI : Nat → Nat → Nat) (cy : ClassId) (h0 : Nat) (h1 : Nat) (hw1 : Nat) (hc1 : Nat) (hb1 : Nat) (h2 : Nat) (hw2 : Nat) (hc2 : Nat) (hb2 : Nat) (a1 : Int32) (r1 : Int32) (f1 : Nat → Int64) (g1 : Nat → Int64) (a2 : Int32) (r2 : Int32) (f2 : Nat → Int64) (g2 : Nat → Int64) (kn : Int32) (ho : Nat) (nv : Int64) (sv : Value) (sz : Nat) (N : Nat) (p1 : Int32) (p2 : Int32) (p3 : Int32) : Met l yL_narrowOrder wsL_narrowOrder ({ frames := 9, cells := 3, slots := 18, locals := 167 }) (va_Pc [.ref h0, .int p1, .int p2, .int p3, .ref ho] (xL (dC, dI) xCl [(h0, eE h1 h2 kn), (h1, eR hw1 hc1 hb1 a1 r1), (hw1, eW true), (hc1, eA cy f1), (hb1, eA cy g1), (h2, eR hw2 hc2 hb2 a2 r2), (hw2, eW false), (hc2, eA cy f2), (hb2, eA cy g2), (ho, eO nv sv)] [(cy, .long)] sz N)) (va_Qi (fun (r : Int32) (_ : Unit) => r = (o_L_narrowOrder f2 nv p1 p2 p3).1) (fun _ t => xW (dC, dI) xCl [(h0, eE h1 h2 kn), (h1, eR hw1 hc1 hb1 a1 r1), (hw1, eW true), (hc1, eA cy f1), (hb1, eA cy g1), (h2, eR hw2 hc2 hb2 a2 r2), (hw2, eW false), (hc2, eA cy f2), (hb2, eA cy g2), (ho, eO (o_L_narrowOrder f2 nv p1 p2 p3).2 sv)] (va_A [(h0, eE h1 h2 kn), (h1, eR hw1 hc1 hb1 a1 r1), (hw1, eW true), (hc1, eA cy f1), (hb1, eA cy g1), (h2, eR hw2 hc2 hb2 a2 r2), (hw2, eW false), (hc2, eA cy f2), (hb2, eA cy g2), (ho, eO nv sv)] sz) t) (va_A [(h0, eE h1 h2 kn), (h1, eR hw1 hc1 hb1 a1 r1), (hw1, eW true), (hc1, eA cy f1), (hb1, eA cy g1), (h2, eR hw2 hc2 hb2 a2 r2), (hw2, eW false), (hc2, eA cy f2), (hb2, eA cy g2), (ho, eO nv sv)] sz)) 3 18 (va_A [(h0, eE h1 h2 kn), (h1, eR hw1 hc1 hb1 a1 r1), (hw1, eW true), (hc1, eA cy f1), (hb1, eA cy g1), (h2, eR hw2 hc2 hb2 a2 r2), (hw2, eW false), (hc2, eA cy f2), (hb2, eA cy g2), (ho, eO nv sv)] sz) := by
  refine va_MetW (cc := cL_narrowOrder) (maxL := 6) (ret := (some .int)) (by decide +kernel) rfl ?_
  intro p e s m args below meth c s₁ B hml hv
  obtain ⟨rfl, ⟨hsz, hP, hK, hD0, hN, hG⟩, hnc⟩ := hv
  have hx := B.exec
  have hb := B.bytes
  have hr := B.returns
  have hts := atoms_spec (ws := wsL_narrowOrder) B.pre
  have hown : s.vm.findClass RL = some m.cls := findClass_of_methodNamed B.named
  have hlocks := B.notSynchronized
  have htab := vx_table (x := yL_narrowOrder) B (hts _ List.mem_cons_self)
  subst hsz
  have hAN : ∀ q, va_A [(h0, eE h1 h2 kn), (h1, eR hw1 hc1 hb1 a1 r1), (hw1, eW true), (hc1, eA cy f1), (hb1, eA cy g1), (h2, eR hw2 hc2 hb2 a2 r2), (hw2, eW false), (hc2, eA cy f2), (hb2, eA cy g2), (ho, eO nv sv)] s.heap.size q → N ≤ q := xA_N hD0 hN
  have hD := hD0.self (sz := s.heap.size)
  generalize hAe : va_A [(h0, eE h1 h2 kn), (h1, eR hw1 hc1 hb1 a1 r1), (hw1, eW true), (hc1, eA cy f1), (hb1, eA cy g1), (h2, eR hw2 hc2 hb2 a2 r2), (hw2, eW false), (hc2, eA cy f2), (hb2, eA cy g2), (ho, eO nv sv)] s.heap.size = A at hD hAN ⊢
  have hA : ∀ q : Nat, s.heap.size ≤ q → A q := fun q h => by rw [← hAe]; exact Or.inr h
  have hS : va_S A s.heap s.heap [] := va_S.rf
  have hP : va_P (dC, dI) xCl [(h0, eE h1 h2 kn), (h1, eR hw1 hc1 hb1 a1 r1), (hw1, eW true), (hc1, eA cy f1), (hb1, eA cy g1), (h2, eR hw2 hc2 hb2 a2 r2), (hw2, eW false), (hc2, eA cy f2), (hb2, eA cy g2), (ho, eO nv sv)] s.heap := hP
  have hl := lv_entry ([.ref h0, .int p1, .int p2, .int p3, .ref ho]) (n := 6) (Nat.le_of_ble_eq_true rfl)
  rw [lg_entry_eq]
  generalize (lg_sl ([.ref h0, .int p1, .int p2, .int p3, .ref ho]) ++ List.replicate (6 - (lg_sl ([.ref h0, .int p1, .int p2, .int p3, .ref ho])).length) Slot.unset).toArray = ls at hl ⊢
  have hl : lv_has ls 6 [(0, .ref h0), (1, .int p1), (2, .int p2), (3, .int p3), (4, .ref ho)] := hl
  refine lv_aload hx hb dL_narrowOrder_0 (lv_at hl 4 rfl) ?_
  refine lv_aload_n hx hb dL_narrowOrder_2 rfl (lv_at hl 0 rfl) ?_
  refine lv_iload_n hx hb dL_narrowOrder_3 rfl (lv_at hl 1 rfl) ?_
  refine lv_iload_n hx hb dL_narrowOrder_4 rfl (lv_at hl 2 rfl) ?_
  refine lv_iload_n hx hb dL_narrowOrder_5 rfl (lv_at hl 3 rfl) ?_
  have hPc := hP.sub (ws' := [(h0, eE h1 h2 kn), (h1, eR hw1 hc1 hb1 a1 r1), (hw1, eW true), (hc1, eA cy f1), (hb1, eA cy g1), (h2, eR hw2 hc2 hb2 a2 r2), (hw2, eW false), (hc2, eA cy f2), (hb2, eA cy g2)]) [0, 1, 2, 3, 4, 5, 6, 7, 8] rfl
  have hDc := hD.sub (ws' := [(h0, eE h1 h2 kn), (h1, eR hw1 hc1 hb1 a1 r1), (hw1, eW true), (hc1, eA cy f1), (hb1, eA cy g1), (h2, eR hw2 hc2 hb2 a2 r2), (hw2, eW false), (hc2, eA cy f2), (hb2, eA cy g2)]) [0, 1, 2, 3, 4, 5, 6, 7, 8] (by decide +kernel) rfl
  have hKc := hK.sub (tys' := [(cy, .long)]) [0] rfl
  refine vx_calli (vx_runV (As := [.int p1, .int p2, .int p3]) (rest := [.ref ho]) ⟨hx, hb, hml, hown, hts⟩ (k_X2_narrowOrder l hfl dC dI cy h0 h1 hw1 hc1 hb1 h2 hw2 hc2 hb2 a1 r1 f1 g1 a2 r2 f2 g2 kn s.heap.size N p1 p2 p3) (cwV 3 hts gL_narrowOrder_X2_narrowOrder rfl rfl rfl (by decide +kernel) ⟨Nat.le_of_ble_eq_true rfl, Nat.le_of_ble_eq_true rfl⟩) (xM.preV hKc hPc hDc hAN (Nat.le_trans hN hS.1) (hG.kept hS hAN) (ci := 4) (q0 := 0) rfl rfl) rfl rfl hl.1 rfl (lv_room (Nat.le_of_ble_eq_true rfl)) dL_narrowOrder_6 ⟨Nat.le_of_ble_eq_true rfl, Nat.le_of_ble_eq_true rfl⟩) hS xA_old (fun q h => hA q (Nat.le_trans hS.1 h)) xA_old (fun E ce q9 u9 t H locs ht hvm hpx hbx hz hk hS hce hcv hcl => ?_) (fun r_1 u t H locs ht hvm hw hB hz hk hS => ?_)
  · have c_2 : ¬ (o_X2_narrowOrder f2 p1 p2 p3).1 = 0 := hpx
    have hbe := hbx
    have hP := xP_keep hP hk
    by_cases c_3 : (o_X2_narrowOrder f2 p1 p2 p3).1 = 1
    · skip
      have hE : E = "java/lang/IndexOutOfBoundsException" := hbe.trans (by rw [c_3]; rfl)
      subst hE
      refine vx_catch (own := RL) (name := "java/lang/IndexOutOfBoundsException") hown [] ⟨0, 13, 16, 19⟩ [⟨0, 13, 20, 25⟩] htab (fun z hz => absurd hz List.not_mem_nil) (by decide +kernel) (by decide +kernel) (hts (.classLink RL 19 "java/lang/IndexOutOfBoundsException") (by decide +kernel)) (va_Nw.use rfl (hG.1 (.castable "java/lang/IndexOutOfBoundsException" "java/lang/IndexOutOfBoundsException") (List.mem_of_getElem? (i := 11) rfl))) hce hcv hcl ?_
      refine lv_astore (lv' := [(5, .ref q9), (0, .ref h0), (1, .int p1), (2, .int p2), (3, .int p3), (4, .ref ho)]) hx hb dL_narrowOrder_16 hl (by decide +kernel) rfl (fun ls hl => ?_)
      refine lv_iconst (v := 1) hx hb dL_narrowOrder_18 (by decide +kernel) ?_
      have he : o_L_narrowOrder f2 nv p1 p2 p3 = (1, nv) := by (rw [o_L_narrowOrder, if_neg c_2, if_pos c_3]) <;> rfl
      refine W.widen (k := 3) (n := 18) (by omega) (by omega) ?_
      exact W.iret (v := 1) hx hb hr (fun t ht hW => ⟨⟨_, (), rfl, (by (rw [he]) <;> rfl), (by rw [he]; exact ⟨by rw [ht]; exact hP, hD⟩)⟩, hS.F ht⟩) hS.2.2 dL_narrowOrder_19
    · skip
      have hE : E = "java/lang/IllegalArgumentException" := hbe.trans (if_neg c_3)
      subst hE
      refine vx_catch (own := RL) (name := "java/lang/IllegalArgumentException") hown [⟨0, 13, 16, 19⟩] ⟨0, 13, 20, 25⟩ [] htab (fun z hz => by cases List.mem_singleton.mp hz; exact Or.inr ⟨by decide, "java/lang/IndexOutOfBoundsException", hts (.classLink RL 19 "java/lang/IndexOutOfBoundsException") (by decide +kernel), hnc⟩) (by decide +kernel) (by decide +kernel) (hts (.classLink RL 25 "java/lang/IllegalArgumentException") (by decide +kernel)) (va_Nw.use rfl (hG.1 (.castable "java/lang/IllegalArgumentException" "java/lang/IllegalArgumentException") (List.mem_of_getElem? (i := 12) rfl))) hce hcv hcl ?_
      refine lv_astore (lv' := [(5, .ref q9), (0, .ref h0), (1, .int p1), (2, .int p2), (3, .int p3), (4, .ref ho)]) hx hb dL_narrowOrder_20 hl (by decide +kernel) rfl (fun ls hl => ?_)
      refine lv_iconst (v := 2) hx hb dL_narrowOrder_22 (by decide +kernel) ?_
      have he : o_L_narrowOrder f2 nv p1 p2 p3 = (2, nv) := by (rw [o_L_narrowOrder, if_neg c_2, if_neg c_3]) <;> rfl
      refine W.widen (k := 3) (n := 18) (by omega) (by omega) ?_
      exact W.iret (v := 2) hx hb hr (fun t ht hW => ⟨⟨_, (), rfl, (by (rw [he]) <;> rfl), (by rw [he]; exact ⟨by rw [ht]; exact hP, hD⟩)⟩, hS.F ht⟩) hS.2.2 dL_narrowOrder_23
  · skip
    obtain ⟨c_4, hw⟩ := hw
    have c_4 : (o_X2_narrowOrder f2 p1 p2 p3).1 = 0 := c_4
    replace hw : r_1 = (o_X2_narrowOrder f2 p1 p2 p3).2 := hw
    subst r_1
    have hP := xP_keep hP hk
    refine lv_i2l (v := (((o_X2_narrowOrder f2 p1 p2 p3).2).toInt64)) hx hb dL_narrowOrder_9 rfl ?_
    refine va_putN (D := (dC, dI)) (ci := 5) (v := .long (((o_X2_narrowOrder f2 p1 p2 p3).2).toInt64)) (ty := .long) (C := RX3) (T := TX3) (N := 2) hx hb hts (by decide +kernel) tyX3 tyX3_ok nmX3 hown hK hP hD hS 9 rfl rfl 0 (by decide +kernel) (va_Nw.use rfl (hG.1 (.fieldLinkNest RL 13 "EdgefloatsLaw$Out" "n" "J" RL) (List.mem_of_getElem? (i := 6) rfl))) (fun _ h9 => h9) rfl (by decide +kernel) rfl rfl (Nat.le_of_ble_eq_true rfl) dL_narrowOrder_10 (fun H locs hP hD hS => ?_)
    have hP : va_P (dC, dI) xCl [(h0, eE h1 h2 kn), (h1, eR hw1 hc1 hb1 a1 r1), (hw1, eW true), (hc1, eA cy f1), (hb1, eA cy g1), (h2, eR hw2 hc2 hb2 a2 r2), (hw2, eW false), (hc2, eA cy f2), (hb2, eA cy g2), (ho, eO (((o_X2_narrowOrder f2 p1 p2 p3).2).toInt64) sv)] H := hP
    have hD : va_D A [(h0, eE h1 h2 kn), (h1, eR hw1 hc1 hb1 a1 r1), (hw1, eW true), (hc1, eA cy f1), (hb1, eA cy g1), (h2, eR hw2 hc2 hb2 a2 r2), (hw2, eW false), (hc2, eA cy f2), (hb2, eA cy g2), (ho, eO (((o_X2_narrowOrder f2 p1 p2 p3).2).toInt64) sv)] := hD
    refine lv_goto (tgt := 24) hx hb dL_narrowOrder_13 (by decide +kernel) ?_
    refine lv_iconst (v := 0) hx hb dL_narrowOrder_24 (by decide +kernel) ?_
    have he : o_L_narrowOrder f2 nv p1 p2 p3 = (0, (((o_X2_narrowOrder f2 p1 p2 p3).2).toInt64)) := by (rw [o_L_narrowOrder, if_pos c_4]) <;> rfl
    refine W.widen (k := 3) (n := 18) (by omega) (by omega) ?_
    exact W.iret (v := 0) hx hb hr (fun t ht hW => ⟨⟨_, (), rfl, (by (rw [he]) <;> rfl), (by rw [he]; exact ⟨by rw [ht]; exact hP, hD⟩)⟩, hS.F ht⟩) hS.2.2 dL_narrowOrder_25
theorem cl_L_narrowSame_1 : ∀ w ∈ wsL_narrowSame_r1, w ∈ wsL_narrowSame := fun _ h => (List.mem_cons_of_mem _ (List.mem_append_left _ (List.mem_append_left _ (List.mem_append_left _ (List.mem_append_left _ (List.mem_append_left _ (List.mem_append_left _ (List.mem_append_left _ h))))))))
theorem cl_L_narrowSame_2 : ∀ w ∈ wsL_narrowSame_r2, w ∈ wsL_narrowSame := fun _ h => (List.mem_cons_of_mem _ (List.mem_append_left _ (List.mem_append_left _ (List.mem_append_left _ (List.mem_append_left _ (List.mem_append_left _ (List.mem_append_left _ (List.mem_append_right _ h))))))))
theorem cl_L_narrowSame_3 : ∀ w ∈ wsX30, w ∈ wsL_narrowSame := fun _ h => (List.mem_cons_of_mem _ (List.mem_append_left _ (List.mem_append_left _ (List.mem_append_left _ (List.mem_append_left _ (List.mem_append_left _ (List.mem_append_right _ h)))))))
theorem cl_L_narrowSame_4 : ∀ w ∈ wsX20, w ∈ wsL_narrowSame := fun _ h => (List.mem_cons_of_mem _ (List.mem_append_left _ (List.mem_append_left _ (List.mem_append_left _ (List.mem_append_left _ (List.mem_append_right _ h))))))
theorem cl_L_narrowSame_5 : ∀ w ∈ wsX00, w ∈ wsL_narrowSame := fun _ h => (List.mem_cons_of_mem _ (List.mem_append_left _ (List.mem_append_left _ (List.mem_append_left _ (List.mem_append_right _ h)))))
theorem cl_L_narrowSame_6 : ∀ w ∈ wsX10, w ∈ wsL_narrowSame := fun _ h => (List.mem_cons_of_mem _ (List.mem_append_left _ (List.mem_append_left _ (List.mem_append_right _ h))))
theorem cl_L_narrowSame_7 : ∀ w ∈ (vx_atS RX2 152 "java/lang/IndexOutOfBoundsException" ["java/lang/RuntimeException", "java/lang/Exception"]).filter goodWord, w ∈ wsL_narrowSame := fun _ h => (List.mem_cons_of_mem _ (List.mem_append_left _ (List.mem_append_right _ h)))
theorem cl_L_narrowSame_8 : ∀ w ∈ (vx_atS RX2 159 "java/lang/IllegalArgumentException" ["java/lang/RuntimeException", "java/lang/Exception"]).filter goodWord, w ∈ wsL_narrowSame := fun _ h => (List.mem_cons_of_mem _ (List.mem_append_right _ h))
set_option maxRecDepth 20000 in
theorem ggL_narrowSame_X2_narrowSame : GoodIn wsL_narrowSame wsX2_narrowSame := goodIn_sub (List.forall_mem_cons.mpr ⟨(cl_L_narrowSame_1 _ (List.mem_of_getElem? (i := 6) rfl)), fun w h => (List.mem_append.mp h).elim ((fun w h => (List.mem_append.mp h).elim ((fun w h => (List.mem_append.mp h).elim ((fun w h => (List.mem_append.mp h).elim ((fun w h => (List.mem_append.mp h).elim ((fun w h => (List.mem_append.mp h).elim ((List.forall_mem_cons.mpr ⟨(cl_L_narrowSame_1 _ (List.mem_of_getElem? (i := 7) rfl)), List.forall_mem_cons.mpr ⟨(cl_L_narrowSame_1 _ (List.mem_of_getElem? (i := 8) rfl)), List.forall_mem_cons.mpr ⟨(cl_L_narrowSame_1 _ (List.mem_of_getElem? (i := 9) rfl)), List.forall_mem_cons.mpr ⟨(cl_L_narrowSame_1 _ (List.mem_of_getElem? (i := 10) rfl)), List.forall_mem_cons.mpr ⟨(cl_L_narrowSame_1 _ (List.mem_of_getElem? (i := 11) rfl)), List.forall_mem_cons.mpr ⟨(cl_L_narrowSame_1 _ (List.mem_of_getElem? (i := 12) rfl)), List.forall_mem_cons.mpr ⟨(cl_L_narrowSame_1 _ (List.mem_of_getElem? (i := 13) rfl)), List.forall_mem_cons.mpr ⟨(cl_L_narrowSame_1 _ (List.mem_of_getElem? (i := 14) rfl)), List.forall_mem_cons.mpr ⟨(cl_L_narrowSame_1 _ (List.mem_of_getElem? (i := 15) rfl)), List.forall_mem_cons.mpr ⟨(cl_L_narrowSame_1 _ (List.mem_of_getElem? (i := 16) rfl)), List.forall_mem_cons.mpr ⟨(cl_L_narrowSame_1 _ (List.mem_of_getElem? (i := 17) rfl)), List.forall_mem_cons.mpr ⟨(cl_L_narrowSame_1 _ (List.mem_of_getElem? (i := 18) rfl)), List.forall_mem_cons.mpr ⟨(cl_L_narrowSame_1 _ (List.mem_of_getElem? (i := 19) rfl)), List.forall_mem_cons.mpr ⟨(cl_L_narrowSame_1 _ (List.mem_of_getElem? (i := 5) rfl)), List.forall_mem_cons.mpr ⟨(cl_L_narrowSame_1 _ (List.mem_of_getElem? (i := 20) rfl)), List.forall_mem_cons.mpr ⟨(cl_L_narrowSame_1 _ (List.mem_of_getElem? (i := 21) rfl)), List.forall_mem_cons.mpr ⟨(cl_L_narrowSame_1 _ (List.mem_of_getElem? (i := 22) rfl)), List.forall_mem_cons.mpr ⟨(cl_L_narrowSame_1 _ (List.mem_of_getElem? (i := 23) rfl)), List.forall_mem_cons.mpr ⟨(cl_L_narrowSame_2 _ (List.mem_of_getElem? (i := 0) rfl)), List.forall_mem_cons.mpr ⟨(cl_L_narrowSame_2 _ (List.mem_of_getElem? (i := 1) rfl)), List.forall_mem_cons.mpr ⟨(cl_L_narrowSame_2 _ (List.mem_of_getElem? (i := 2) rfl)), List.forall_mem_cons.mpr ⟨(cl_L_narrowSame_2 _ (List.mem_of_getElem? (i := 3) rfl)), List.forall_mem_cons.mpr ⟨(cl_L_narrowSame_2 _ (List.mem_of_getElem? (i := 4) rfl)), List.forall_mem_cons.mpr ⟨(cl_L_narrowSame_2 _ (List.mem_of_getElem? (i := 5) rfl)), fun _ h => absurd h List.not_mem_nil⟩⟩⟩⟩⟩⟩⟩⟩⟩⟩⟩⟩⟩⟩⟩⟩⟩⟩⟩⟩⟩⟩⟩⟩) w) ((List.forall_mem_cons.mpr ⟨(cl_L_narrowSame_2 _ (List.mem_of_getElem? (i := 6) rfl)), List.forall_mem_cons.mpr ⟨(cl_L_narrowSame_2 _ (List.mem_of_getElem? (i := 7) rfl)), List.forall_mem_cons.mpr ⟨(cl_L_narrowSame_2 _ (List.mem_of_getElem? (i := 8) rfl)), List.forall_mem_cons.mpr ⟨(cl_L_narrowSame_2 _ (List.mem_of_getElem? (i := 9) rfl)), List.forall_mem_cons.mpr ⟨(cl_L_narrowSame_2 _ (List.mem_of_getElem? (i := 10) rfl)), List.forall_mem_cons.mpr ⟨(cl_L_narrowSame_2 _ (List.mem_of_getElem? (i := 11) rfl)), List.forall_mem_cons.mpr ⟨(cl_L_narrowSame_2 _ (List.mem_of_getElem? (i := 12) rfl)), List.forall_mem_cons.mpr ⟨(cl_L_narrowSame_2 _ (List.mem_of_getElem? (i := 13) rfl)), fun _ h => absurd h List.not_mem_nil⟩⟩⟩⟩⟩⟩⟩⟩) w)) w) ((cl_L_narrowSame_4) w)) w) ((cl_L_narrowSame_5) w)) w) ((cl_L_narrowSame_6) w)) w) ((cl_L_narrowSame_7) w)) w) ((cl_L_narrowSame_8) w)⟩) (by decide +kernel)
set_option maxRecDepth 20000 in
theorem gL_narrowSame_X2_narrowSame : GoodIn wsL_narrowSame (wsV RL 141 RX2 yX2_narrowSame wsX2_narrowSame) := goodIn_app (goodIn_sub (List.forall_mem_cons.mpr ⟨(cl_L_narrowSame_1 _ (List.mem_of_getElem? (i := 2) rfl)), List.forall_mem_cons.mpr ⟨(cl_L_narrowSame_1 _ (List.mem_of_getElem? (i := 3) rfl)), List.forall_mem_cons.mpr ⟨(cl_L_narrowSame_1 _ (List.mem_of_getElem? (i := 4) rfl)), List.forall_mem_cons.mpr ⟨(cl_L_narrowSame_1 _ (List.mem_of_getElem? (i := 5) rfl)), fun _ h => absurd h List.not_mem_nil⟩⟩⟩⟩) (by decide +kernel)) ggL_narrowSame_X2_narrowSame
noncomputable def dz_p16_35 : List (Nat × Instr × Nat) := [(0, (.aload 4, 2)), (2, (.aload_n 0, 1)), (3, (.iload_n 1, 1)), (4, (.iload_n 2, 1)), (5, (.iload_n 3, 1)), (6, (.invokevirtual 141, 3)), (9, (.ifCond .eq 7, 3)), (12, (.lconst 1, 1)), (13, (.goto 4, 3)), (16, (.lconst 0, 1)), (17, (.putfield 13, 3)), (20, (.goto 11, 3)), (23, (.astore 5, 2)), (25, (.iconst 1, 1)), (26, (.ireturn, 1)), (27, (.astore 5, 2)), (29, (.iconst 2, 1)), (30, (.ireturn, 1)), (31, (.iconst 0, 1)), (32, (.ireturn, 1))]
theorem dy_p16_35 : dz_ok cL_narrowSame dz_p16_35 = true := by decide +kernel
theorem dL_narrowSame_0 : decode cL_narrowSame 0 = .ok (.aload 4, 2) := dz_at (i := 0) dy_p16_35 rfl
theorem dL_narrowSame_2 : decode cL_narrowSame 2 = .ok (.aload_n 0, 1) := dz_at (i := 1) dy_p16_35 rfl
theorem dL_narrowSame_3 : decode cL_narrowSame 3 = .ok (.iload_n 1, 1) := dz_at (i := 2) dy_p16_35 rfl
theorem dL_narrowSame_4 : decode cL_narrowSame 4 = .ok (.iload_n 2, 1) := dz_at (i := 3) dy_p16_35 rfl
theorem dL_narrowSame_5 : decode cL_narrowSame 5 = .ok (.iload_n 3, 1) := dz_at (i := 4) dy_p16_35 rfl
theorem dL_narrowSame_6 : decode cL_narrowSame 6 = .ok (.invokevirtual 141, 3) := dz_at (i := 5) dy_p16_35 rfl
theorem dL_narrowSame_9 : decode cL_narrowSame 9 = .ok (.ifCond .eq 7, 3) := dz_at (i := 6) dy_p16_35 rfl
theorem dL_narrowSame_12 : decode cL_narrowSame 12 = .ok (.lconst 1, 1) := dz_at (i := 7) dy_p16_35 rfl
theorem dL_narrowSame_13 : decode cL_narrowSame 13 = .ok (.goto 4, 3) := dz_at (i := 8) dy_p16_35 rfl
theorem dL_narrowSame_16 : decode cL_narrowSame 16 = .ok (.lconst 0, 1) := dz_at (i := 9) dy_p16_35 rfl
theorem dL_narrowSame_17 : decode cL_narrowSame 17 = .ok (.putfield 13, 3) := dz_at (i := 10) dy_p16_35 rfl
theorem dL_narrowSame_20 : decode cL_narrowSame 20 = .ok (.goto 11, 3) := dz_at (i := 11) dy_p16_35 rfl
theorem dL_narrowSame_23 : decode cL_narrowSame 23 = .ok (.astore 5, 2) := dz_at (i := 12) dy_p16_35 rfl
theorem dL_narrowSame_25 : decode cL_narrowSame 25 = .ok (.iconst 1, 1) := dz_at (i := 13) dy_p16_35 rfl
theorem dL_narrowSame_26 : decode cL_narrowSame 26 = .ok (.ireturn, 1) := dz_at (i := 14) dy_p16_35 rfl
theorem dL_narrowSame_27 : decode cL_narrowSame 27 = .ok (.astore 5, 2) := dz_at (i := 15) dy_p16_35 rfl
theorem dL_narrowSame_29 : decode cL_narrowSame 29 = .ok (.iconst 2, 1) := dz_at (i := 16) dy_p16_35 rfl
theorem dL_narrowSame_30 : decode cL_narrowSame 30 = .ok (.ireturn, 1) := dz_at (i := 17) dy_p16_35 rfl
theorem dL_narrowSame_31 : decode cL_narrowSame 31 = .ok (.iconst 0, 1) := dz_at (i := 18) dy_p16_35 rfl
theorem dL_narrowSame_32 : decode cL_narrowSame 32 = .ok (.ireturn, 1) := dz_at (i := 19) dy_p16_35 rfl
noncomputable def o_L_narrowSame (f2 : Nat → Int64) (nv : Int64) (p1 : Int32) (p2 : Int32) (p3 : Int32) : Int32 × Int64 :=
  if (o_X2_narrowSame f2 p1 p2 p3).1 = 0 then (if (o_X2_narrowSame f2 p1 p2 p3).2 = true then (0, 1)
    else (0, 0))
  else if (o_X2_narrowSame f2 p1 p2 p3).1 = 1 then (1, nv)
  else (2, nv)
set_option maxHeartbeats 4000000 in
set_option maxRecDepth 100000 in
theorem k_L_narrowSame (l : Launch) (hfl : l.flags = flags0) (dC : Nat → ClassId) (dI : Nat → Nat → Nat) (cy : ClassId) (h0 : Nat) (h1 : Nat) (hw1 : Nat) (hc1 : Nat) (hb1 : Nat) (h2 : Nat) (hw2 : Nat) (hc2 : Nat) (hb2 : Nat) (a1 : Int32) (r1 : Int32) (f1 : Nat → Int64) (g1 : Nat → Int64) (a2 : Int32) (r2 : Int32) (f2 : Nat → Int64) (g2 : Nat → Int64) (kn : Int32) (ho : Nat) (nv : Int64) (sv : Value) (sz : Nat) (N : Nat) (p1 : Int32) (p2 : Int32) (p3 : Int32) : Met l yL_narrowSame wsL_narrowSame ({ frames := 10, cells := 3, slots := 18, locals := 190 }) (va_Pc [.ref h0, .int p1, .int p2, .int p3, .ref ho] (xL (dC, dI) xCl [(h0, eE h1 h2 kn), (h1, eR hw1 hc1 hb1 a1 r1), (hw1, eW true), (hc1, eA cy f1), (hb1, eA cy g1), (h2, eR hw2 hc2 hb2 a2 r2), (hw2, eW false), (hc2, eA cy f2), (hb2, eA cy g2), (ho, eO nv sv)] [(cy, .long)] sz N)) (va_Qi (fun (r : Int32) (_ : Unit) => r = (o_L_narrowSame f2 nv p1 p2 p3).1) (fun _ t => xW (dC, dI) xCl [(h0, eE h1 h2 kn), (h1, eR hw1 hc1 hb1 a1 r1), (hw1, eW true), (hc1, eA cy f1), (hb1, eA cy g1), (h2, eR hw2 hc2 hb2 a2 r2), (hw2, eW false), (hc2, eA cy f2), (hb2, eA cy g2), (ho, eO (o_L_narrowSame f2 nv p1 p2 p3).2 sv)] (va_A [(h0, eE h1 h2 kn), (h1, eR hw1 hc1 hb1 a1 r1), (hw1, eW true), (hc1, eA cy f1), (hb1, eA cy g1), (h2, eR hw2 hc2 hb2 a2 r2), (hw2, eW false), (hc2, eA cy f2), (hb2, eA cy g2), (ho, eO nv sv)] sz) t) (va_A [(h0, eE h1 h2 kn), (h1, eR hw1 hc1 hb1 a1 r1), (hw1, eW true), (hc1, eA cy f1), (hb1, eA cy g1), (h2, eR hw2 hc2 hb2 a2 r2), (hw2, eW false), (hc2, eA cy f2), (hb2, eA cy g2), (ho, eO nv sv)] sz)) 3 18 (va_A [(h0, eE h1 h2 kn), (h1, eR hw1 hc1 hb1 a1 r1), (hw1, eW true), (hc1, eA cy f1), (hb1, eA cy g1), (h2, eR hw2 hc2 hb2 a2 r2), (hw2, eW false), (hc2, eA cy f2), (hb2, eA cy g2), (ho, eO nv sv)] sz) := by
  refine va_MetW (cc := cL_narrowSame) (maxL := 6) (ret := (some .int)) (by decide +kernel) rfl ?_
  intro p e s m args below meth c s₁ B hml hv
  obtain ⟨rfl, ⟨hsz, hP, hK, hD0, hN, hG⟩, hnc⟩ := hv
  have hx := B.exec
  have hb := B.bytes
  have hr := B.returns
  have hts := atoms_spec (ws := wsL_narrowSame) B.pre
  have hown : s.vm.findClass RL = some m.cls := findClass_of_methodNamed B.named
  have hlocks := B.notSynchronized
  have htab := vx_table (x := yL_narrowSame) B (hts _ List.mem_cons_self)
  subst hsz
  have hAN : ∀ q, va_A [(h0, eE h1 h2 kn), (h1, eR hw1 hc1 hb1 a1 r1), (hw1, eW true), (hc1, eA cy f1), (hb1, eA cy g1), (h2, eR hw2 hc2 hb2 a2 r2), (hw2, eW false), (hc2, eA cy f2), (hb2, eA cy g2), (ho, eO nv sv)] s.heap.size q → N ≤ q := xA_N hD0 hN
  have hD := hD0.self (sz := s.heap.size)
  generalize hAe : va_A [(h0, eE h1 h2 kn), (h1, eR hw1 hc1 hb1 a1 r1), (hw1, eW true), (hc1, eA cy f1), (hb1, eA cy g1), (h2, eR hw2 hc2 hb2 a2 r2), (hw2, eW false), (hc2, eA cy f2), (hb2, eA cy g2), (ho, eO nv sv)] s.heap.size = A at hD hAN ⊢
  have hA : ∀ q : Nat, s.heap.size ≤ q → A q := fun q h => by rw [← hAe]; exact Or.inr h
  have hS : va_S A s.heap s.heap [] := va_S.rf
  have hP : va_P (dC, dI) xCl [(h0, eE h1 h2 kn), (h1, eR hw1 hc1 hb1 a1 r1), (hw1, eW true), (hc1, eA cy f1), (hb1, eA cy g1), (h2, eR hw2 hc2 hb2 a2 r2), (hw2, eW false), (hc2, eA cy f2), (hb2, eA cy g2), (ho, eO nv sv)] s.heap := hP
  have hl := lv_entry ([.ref h0, .int p1, .int p2, .int p3, .ref ho]) (n := 6) (Nat.le_of_ble_eq_true rfl)
  rw [lg_entry_eq]
  generalize (lg_sl ([.ref h0, .int p1, .int p2, .int p3, .ref ho]) ++ List.replicate (6 - (lg_sl ([.ref h0, .int p1, .int p2, .int p3, .ref ho])).length) Slot.unset).toArray = ls at hl ⊢
  have hl : lv_has ls 6 [(0, .ref h0), (1, .int p1), (2, .int p2), (3, .int p3), (4, .ref ho)] := hl
  refine lv_aload hx hb dL_narrowSame_0 (lv_at hl 4 rfl) ?_
  refine lv_aload_n hx hb dL_narrowSame_2 rfl (lv_at hl 0 rfl) ?_
  refine lv_iload_n hx hb dL_narrowSame_3 rfl (lv_at hl 1 rfl) ?_
  refine lv_iload_n hx hb dL_narrowSame_4 rfl (lv_at hl 2 rfl) ?_
  refine lv_iload_n hx hb dL_narrowSame_5 rfl (lv_at hl 3 rfl) ?_
  have hPc := hP.sub (ws' := [(h0, eE h1 h2 kn), (h1, eR hw1 hc1 hb1 a1 r1), (hw1, eW true), (hc1, eA cy f1), (hb1, eA cy g1), (h2, eR hw2 hc2 hb2 a2 r2), (hw2, eW false), (hc2, eA cy f2), (hb2, eA cy g2)]) [0, 1, 2, 3, 4, 5, 6, 7, 8] rfl
  have hDc := hD.sub (ws' := [(h0, eE h1 h2 kn), (h1, eR hw1 hc1 hb1 a1 r1), (hw1, eW true), (hc1, eA cy f1), (hb1, eA cy g1), (h2, eR hw2 hc2 hb2 a2 r2), (hw2, eW false), (hc2, eA cy f2), (hb2, eA cy g2)]) [0, 1, 2, 3, 4, 5, 6, 7, 8] (by decide +kernel) rfl
  have hKc := hK.sub (tys' := [(cy, .long)]) [0] rfl
  refine vx_calli (vx_runV (As := [.int p1, .int p2, .int p3]) (rest := [.ref ho]) ⟨hx, hb, hml, hown, hts⟩ (k_X2_narrowSame l hfl dC dI cy h0 h1 hw1 hc1 hb1 h2 hw2 hc2 hb2 a1 r1 f1 g1 a2 r2 f2 g2 kn s.heap.size N p1 p2 p3) (cwV 3 hts gL_narrowSame_X2_narrowSame rfl rfl rfl (by decide +kernel) ⟨Nat.le_of_ble_eq_true rfl, Nat.le_of_ble_eq_true rfl⟩) (xM.preV hKc hPc hDc hAN (Nat.le_trans hN hS.1) (hG.kept hS hAN) (ci := 4) (q0 := 0) rfl rfl) rfl rfl hl.1 rfl (lv_room (Nat.le_of_ble_eq_true rfl)) dL_narrowSame_6 ⟨Nat.le_of_ble_eq_true rfl, Nat.le_of_ble_eq_true rfl⟩) hS xA_old (fun q h => hA q (Nat.le_trans hS.1 h)) xA_old (fun E ce q9 u9 t H locs ht hvm hpx hbx hz hk hS hce hcv hcl => ?_) (fun r_1 u t H locs ht hvm hw hB hz hk hS => ?_)
  · have c_2 : ¬ (o_X2_narrowSame f2 p1 p2 p3).1 = 0 := hpx
    have hbe := hbx
    have hP := xP_keep hP hk
    by_cases c_3 : (o_X2_narrowSame f2 p1 p2 p3).1 = 1
    · skip
      have hE : E = "java/lang/IndexOutOfBoundsException" := hbe.trans (by rw [c_3]; rfl)
      subst hE
      refine vx_catch (own := RL) (name := "java/lang/IndexOutOfBoundsException") hown [] ⟨0, 20, 23, 19⟩ [⟨0, 20, 27, 25⟩] htab (fun z hz => absurd hz List.not_mem_nil) (by decide +kernel) (by decide +kernel) (hts (.classLink RL 19 "java/lang/IndexOutOfBoundsException") (by decide +kernel)) (va_Nw.use rfl (hG.1 (.castable "java/lang/IndexOutOfBoundsException" "java/lang/IndexOutOfBoundsException") (List.mem_of_getElem? (i := 11) rfl))) hce hcv hcl ?_
      refine lv_astore (lv' := [(5, .ref q9), (0, .ref h0), (1, .int p1), (2, .int p2), (3, .int p3), (4, .ref ho)]) hx hb dL_narrowSame_23 hl (by decide +kernel) rfl (fun ls hl => ?_)
      refine lv_iconst (v := 1) hx hb dL_narrowSame_25 (by decide +kernel) ?_
      have he : o_L_narrowSame f2 nv p1 p2 p3 = (1, nv) := by (rw [o_L_narrowSame, if_neg c_2, if_pos c_3]) <;> rfl
      refine W.widen (k := 3) (n := 18) (by omega) (by omega) ?_
      exact W.iret (v := 1) hx hb hr (fun t ht hW => ⟨⟨_, (), rfl, (by (rw [he]) <;> rfl), (by rw [he]; exact ⟨by rw [ht]; exact hP, hD⟩)⟩, hS.F ht⟩) hS.2.2 dL_narrowSame_26
    · skip
      have hE : E = "java/lang/IllegalArgumentException" := hbe.trans (if_neg c_3)
      subst hE
      refine vx_catch (own := RL) (name := "java/lang/IllegalArgumentException") hown [⟨0, 20, 23, 19⟩] ⟨0, 20, 27, 25⟩ [] htab (fun z hz => by cases List.mem_singleton.mp hz; exact Or.inr ⟨by decide, "java/lang/IndexOutOfBoundsException", hts (.classLink RL 19 "java/lang/IndexOutOfBoundsException") (by decide +kernel), hnc⟩) (by decide +kernel) (by decide +kernel) (hts (.classLink RL 25 "java/lang/IllegalArgumentException") (by decide +kernel)) (va_Nw.use rfl (hG.1 (.castable "java/lang/IllegalArgumentException" "java/lang/IllegalArgumentException") (List.mem_of_getElem? (i := 12) rfl))) hce hcv hcl ?_
      refine lv_astore (lv' := [(5, .ref q9), (0, .ref h0), (1, .int p1), (2, .int p2), (3, .int p3), (4, .ref ho)]) hx hb dL_narrowSame_27 hl (by decide +kernel) rfl (fun ls hl => ?_)
      refine lv_iconst (v := 2) hx hb dL_narrowSame_29 (by decide +kernel) ?_
      have he : o_L_narrowSame f2 nv p1 p2 p3 = (2, nv) := by (rw [o_L_narrowSame, if_neg c_2, if_neg c_3]) <;> rfl
      refine W.widen (k := 3) (n := 18) (by omega) (by omega) ?_
      exact W.iret (v := 2) hx hb hr (fun t ht hW => ⟨⟨_, (), rfl, (by (rw [he]) <;> rfl), (by rw [he]; exact ⟨by rw [ht]; exact hP, hD⟩)⟩, hS.F ht⟩) hS.2.2 dL_narrowSame_30
  · skip
    obtain ⟨c_4, hw⟩ := hw
    have c_4 : (o_X2_narrowSame f2 p1 p2 p3).1 = 0 := c_4
    replace hw : r_1 = b2i ((o_X2_narrowSame f2 p1 p2 p3).2) := hw
    subst r_1
    have hP := xP_keep hP hk
    refine xz_eq (tgt := 16) hx hb dL_narrowSame_9 (by decide +kernel) (fun c_5 => ?_) (fun c_5 => ?_)
    · skip
      refine lv_lconst (v := 0) hx hb dL_narrowSame_16 (by decide +kernel) ?_
      refine va_putN (D := (dC, dI)) (ci := 5) (v := .long 0) (ty := .long) (C := RX3) (T := TX3) (N := 2) hx hb hts (by decide +kernel) tyX3 tyX3_ok nmX3 hown hK hP hD hS 9 rfl rfl 0 (by decide +kernel) (va_Nw.use rfl (hG.1 (.fieldLinkNest RL 13 "EdgefloatsLaw$Out" "n" "J" RL) (List.mem_of_getElem? (i := 6) rfl))) (fun _ h9 => h9) rfl (by decide +kernel) rfl rfl (Nat.le_of_ble_eq_true rfl) dL_narrowSame_17 (fun H locs hP hD hS => ?_)
      have hP : va_P (dC, dI) xCl [(h0, eE h1 h2 kn), (h1, eR hw1 hc1 hb1 a1 r1), (hw1, eW true), (hc1, eA cy f1), (hb1, eA cy g1), (h2, eR hw2 hc2 hb2 a2 r2), (hw2, eW false), (hc2, eA cy f2), (hb2, eA cy g2), (ho, eO 0 sv)] H := hP
      have hD : va_D A [(h0, eE h1 h2 kn), (h1, eR hw1 hc1 hb1 a1 r1), (hw1, eW true), (hc1, eA cy f1), (hb1, eA cy g1), (h2, eR hw2 hc2 hb2 a2 r2), (hw2, eW false), (hc2, eA cy f2), (hb2, eA cy g2), (ho, eO 0 sv)] := hD
      refine lv_goto (tgt := 31) hx hb dL_narrowSame_20 (by decide +kernel) ?_
      refine lv_iconst (v := 0) hx hb dL_narrowSame_31 (by decide +kernel) ?_
      have he : o_L_narrowSame f2 nv p1 p2 p3 = (0, 0) := by (rw [o_L_narrowSame, if_pos c_4, if_neg c_5]) <;> rfl
      refine W.widen (k := 3) (n := 18) (by omega) (by omega) ?_
      exact W.iret (v := 0) hx hb hr (fun t ht hW => ⟨⟨_, (), rfl, (by (rw [he]) <;> rfl), (by rw [he]; exact ⟨by rw [ht]; exact hP, hD⟩)⟩, hS.F ht⟩) hS.2.2 dL_narrowSame_32
    · skip
      refine lv_lconst (v := 1) hx hb dL_narrowSame_12 (by decide +kernel) ?_
      refine lv_goto (tgt := 17) hx hb dL_narrowSame_13 (by decide +kernel) ?_
      refine va_putN (D := (dC, dI)) (ci := 5) (v := .long 1) (ty := .long) (C := RX3) (T := TX3) (N := 2) hx hb hts (by decide +kernel) tyX3 tyX3_ok nmX3 hown hK hP hD hS 9 rfl rfl 0 (by decide +kernel) (va_Nw.use rfl (hG.1 (.fieldLinkNest RL 13 "EdgefloatsLaw$Out" "n" "J" RL) (List.mem_of_getElem? (i := 6) rfl))) (fun _ h9 => h9) rfl (by decide +kernel) rfl rfl (Nat.le_of_ble_eq_true rfl) dL_narrowSame_17 (fun H locs hP hD hS => ?_)
      have hP : va_P (dC, dI) xCl [(h0, eE h1 h2 kn), (h1, eR hw1 hc1 hb1 a1 r1), (hw1, eW true), (hc1, eA cy f1), (hb1, eA cy g1), (h2, eR hw2 hc2 hb2 a2 r2), (hw2, eW false), (hc2, eA cy f2), (hb2, eA cy g2), (ho, eO 1 sv)] H := hP
      have hD : va_D A [(h0, eE h1 h2 kn), (h1, eR hw1 hc1 hb1 a1 r1), (hw1, eW true), (hc1, eA cy f1), (hb1, eA cy g1), (h2, eR hw2 hc2 hb2 a2 r2), (hw2, eW false), (hc2, eA cy f2), (hb2, eA cy g2), (ho, eO 1 sv)] := hD
      refine lv_goto (tgt := 31) hx hb dL_narrowSame_20 (by decide +kernel) ?_
      refine lv_iconst (v := 0) hx hb dL_narrowSame_31 (by decide +kernel) ?_
      have he : o_L_narrowSame f2 nv p1 p2 p3 = (0, 1) := by (rw [o_L_narrowSame, if_pos c_4, if_pos c_5]) <;> rfl
      refine W.widen (k := 3) (n := 18) (by omega) (by omega) ?_
      exact W.iret (v := 0) hx hb hr (fun t ht hW => ⟨⟨_, (), rfl, (by (rw [he]) <;> rfl), (by rw [he]; exact ⟨by rw [ht]; exact hP, hD⟩)⟩, hS.F ht⟩) hS.2.2 dL_narrowSame_32
theorem cl_L_narrowOther_1 : ∀ w ∈ [.classLink RL 19 "java/lang/IndexOutOfBoundsException", .classLink RL 25 "java/lang/IllegalArgumentException", .methodLink RL 144 yX2_narrowOther, .instanceMethod yX2_narrowOther, .selects RX2 yX2_narrowOther yX2_narrowOther, .initialized RX2, .code yX2_narrowOther cX2_narrowOther 3 (some .boolean), .fieldLink RX2 25 "Edgefloats" "narrow" "LEdgefloats$Row;", .methodLink RX2 82 yX0_isEqualToOther, .instanceMethod yX0_isEqualToOther, .selects RX0 yX0_isEqualToOther yX0_isEqualToOther, .initialized RX0, .code yX0_isEqualToOther cX0_isEqualToOther 3 (some .boolean), .static yX2_checkCell, .code yX2_checkCell cX2_checkCell 1 none, .classLink RX2 148 "java/lang/IndexOutOfBoundsException", .initialized "java/lang/IndexOutOfBoundsException", .static yX2_checkChoice, .code yX2_checkChoice cX2_checkChoice 2 none, .classLink RX2 155 "java/lang/IllegalArgumentException", .initialized "java/lang/IllegalArgumentException"], w ∈ wsL_narrowOther := fun _ h => (List.mem_cons_of_mem _ (List.mem_append_left _ (List.mem_append_left _ (List.mem_append_left _ (List.mem_append_left _ h)))))
theorem cl_L_narrowOther_2 : ∀ w ∈ wsX30, w ∈ wsL_narrowOther := fun _ h => (List.mem_cons_of_mem _ (List.mem_append_left _ (List.mem_append_left _ (List.mem_append_left _ (List.mem_append_right _ h)))))
theorem cl_L_narrowOther_3 : ∀ w ∈ wsX20, w ∈ wsL_narrowOther := fun _ h => (List.mem_cons_of_mem _ (List.mem_append_left _ (List.mem_append_left _ (List.mem_append_right _ h))))
theorem cl_L_narrowOther_4 : ∀ w ∈ (vx_atS RX2 152 "java/lang/IndexOutOfBoundsException" ["java/lang/RuntimeException", "java/lang/Exception"]).filter goodWord, w ∈ wsL_narrowOther := fun _ h => (List.mem_cons_of_mem _ (List.mem_append_left _ (List.mem_append_right _ h)))
theorem cl_L_narrowOther_5 : ∀ w ∈ (vx_atS RX2 159 "java/lang/IllegalArgumentException" ["java/lang/RuntimeException", "java/lang/Exception"]).filter goodWord, w ∈ wsL_narrowOther := fun _ h => (List.mem_cons_of_mem _ (List.mem_append_right _ h))
set_option maxRecDepth 20000 in
theorem ggL_narrowOther_X2_narrowOther : GoodIn wsL_narrowOther wsX2_narrowOther := goodIn_sub (List.forall_mem_cons.mpr ⟨(cl_L_narrowOther_1 _ (List.mem_of_getElem? (i := 6) rfl)), fun w h => (List.mem_append.mp h).elim ((fun w h => (List.mem_append.mp h).elim ((fun w h => (List.mem_append.mp h).elim ((List.forall_mem_cons.mpr ⟨(cl_L_narrowOther_1 _ (List.mem_of_getElem? (i := 7) rfl)), List.forall_mem_cons.mpr ⟨(cl_L_narrowOther_1 _ (List.mem_of_getElem? (i := 8) rfl)), List.forall_mem_cons.mpr ⟨(cl_L_narrowOther_1 _ (List.mem_of_getElem? (i := 9) rfl)), List.forall_mem_cons.mpr ⟨(cl_L_narrowOther_1 _ (List.mem_of_getElem? (i := 10) rfl)), List.forall_mem_cons.mpr ⟨(cl_L_narrowOther_1 _ (List.mem_of_getElem? (i := 11) rfl)), List.forall_mem_cons.mpr ⟨(cl_L_narrowOther_1 _ (List.mem_of_getElem? (i := 12) rfl)), List.forall_mem_cons.mpr ⟨(cl_L_narrowOther_1 _ (List.mem_of_getElem? (i := 13) rfl)), List.forall_mem_cons.mpr ⟨(cl_L_narrowOther_1 _ (List.mem_of_getElem? (i := 5) rfl)), List.forall_mem_cons.mpr ⟨(cl_L_narrowOther_1 _ (List.mem_of_getElem? (i := 14) rfl)), List.forall_mem_cons.mpr ⟨(cl_L_narrowOther_1 _ (List.mem_of_getElem? (i := 15) rfl)), List.forall_mem_cons.mpr ⟨(cl_L_narrowOther_1 _ (List.mem_of_getElem? (i := 16) rfl)), List.forall_mem_cons.mpr ⟨(cl_L_narrowOther_1 _ (List.mem_of_getElem? (i := 17) rfl)), List.forall_mem_cons.mpr ⟨(cl_L_narrowOther_1 _ (List.mem_of_getElem? (i := 18) rfl)), List.forall_mem_cons.mpr ⟨(cl_L_narrowOther_1 _ (List.mem_of_getElem? (i := 19) rfl)), List.forall_mem_cons.mpr ⟨(cl_L_narrowOther_1 _ (List.mem_of_getElem? (i := 20) rfl)), fun _ h => absurd h List.not_mem_nil⟩⟩⟩⟩⟩⟩⟩⟩⟩⟩⟩⟩⟩⟩⟩) w) ((cl_L_narrowOther_3) w)) w) ((cl_L_narrowOther_4) w)) w) ((cl_L_narrowOther_5) w)⟩) (by decide +kernel)
set_option maxRecDepth 20000 in
theorem gL_narrowOther_X2_narrowOther : GoodIn wsL_narrowOther (wsV RL 144 RX2 yX2_narrowOther wsX2_narrowOther) := goodIn_app (goodIn_sub (List.forall_mem_cons.mpr ⟨(cl_L_narrowOther_1 _ (List.mem_of_getElem? (i := 2) rfl)), List.forall_mem_cons.mpr ⟨(cl_L_narrowOther_1 _ (List.mem_of_getElem? (i := 3) rfl)), List.forall_mem_cons.mpr ⟨(cl_L_narrowOther_1 _ (List.mem_of_getElem? (i := 4) rfl)), List.forall_mem_cons.mpr ⟨(cl_L_narrowOther_1 _ (List.mem_of_getElem? (i := 5) rfl)), fun _ h => absurd h List.not_mem_nil⟩⟩⟩⟩) (by decide +kernel)) ggL_narrowOther_X2_narrowOther
noncomputable def dz_p16_36 : List (Nat × Instr × Nat) := [(0, (.aload_n 3, 1)), (1, (.aload_n 0, 1)), (2, (.iload_n 1, 1)), (3, (.iload_n 2, 1)), (4, (.invokevirtual 144, 3)), (7, (.ifCond .eq 7, 3)), (10, (.lconst 1, 1)), (11, (.goto 4, 3)), (14, (.lconst 0, 1)), (15, (.putfield 13, 3)), (18, (.goto 11, 3)), (21, (.astore 4, 2)), (23, (.iconst 1, 1)), (24, (.ireturn, 1)), (25, (.astore 4, 2)), (27, (.iconst 2, 1)), (28, (.ireturn, 1)), (29, (.iconst 0, 1)), (30, (.ireturn, 1))]
theorem dy_p16_36 : dz_ok cL_narrowOther dz_p16_36 = true := by decide +kernel
theorem dL_narrowOther_0 : decode cL_narrowOther 0 = .ok (.aload_n 3, 1) := dz_at (i := 0) dy_p16_36 rfl
theorem dL_narrowOther_1 : decode cL_narrowOther 1 = .ok (.aload_n 0, 1) := dz_at (i := 1) dy_p16_36 rfl
theorem dL_narrowOther_2 : decode cL_narrowOther 2 = .ok (.iload_n 1, 1) := dz_at (i := 2) dy_p16_36 rfl
theorem dL_narrowOther_3 : decode cL_narrowOther 3 = .ok (.iload_n 2, 1) := dz_at (i := 3) dy_p16_36 rfl
theorem dL_narrowOther_4 : decode cL_narrowOther 4 = .ok (.invokevirtual 144, 3) := dz_at (i := 4) dy_p16_36 rfl
theorem dL_narrowOther_7 : decode cL_narrowOther 7 = .ok (.ifCond .eq 7, 3) := dz_at (i := 5) dy_p16_36 rfl
theorem dL_narrowOther_10 : decode cL_narrowOther 10 = .ok (.lconst 1, 1) := dz_at (i := 6) dy_p16_36 rfl
theorem dL_narrowOther_11 : decode cL_narrowOther 11 = .ok (.goto 4, 3) := dz_at (i := 7) dy_p16_36 rfl
theorem dL_narrowOther_14 : decode cL_narrowOther 14 = .ok (.lconst 0, 1) := dz_at (i := 8) dy_p16_36 rfl
theorem dL_narrowOther_15 : decode cL_narrowOther 15 = .ok (.putfield 13, 3) := dz_at (i := 9) dy_p16_36 rfl
theorem dL_narrowOther_18 : decode cL_narrowOther 18 = .ok (.goto 11, 3) := dz_at (i := 10) dy_p16_36 rfl
theorem dL_narrowOther_21 : decode cL_narrowOther 21 = .ok (.astore 4, 2) := dz_at (i := 11) dy_p16_36 rfl
theorem dL_narrowOther_23 : decode cL_narrowOther 23 = .ok (.iconst 1, 1) := dz_at (i := 12) dy_p16_36 rfl
theorem dL_narrowOther_24 : decode cL_narrowOther 24 = .ok (.ireturn, 1) := dz_at (i := 13) dy_p16_36 rfl
theorem dL_narrowOther_25 : decode cL_narrowOther 25 = .ok (.astore 4, 2) := dz_at (i := 14) dy_p16_36 rfl
theorem dL_narrowOther_27 : decode cL_narrowOther 27 = .ok (.iconst 2, 1) := dz_at (i := 15) dy_p16_36 rfl
theorem dL_narrowOther_28 : decode cL_narrowOther 28 = .ok (.ireturn, 1) := dz_at (i := 16) dy_p16_36 rfl
theorem dL_narrowOther_29 : decode cL_narrowOther 29 = .ok (.iconst 0, 1) := dz_at (i := 17) dy_p16_36 rfl
theorem dL_narrowOther_30 : decode cL_narrowOther 30 = .ok (.ireturn, 1) := dz_at (i := 18) dy_p16_36 rfl
noncomputable def o_L_narrowOther (nv : Int64) (p1 : Int32) (p2 : Int32) : Int32 × Int64 :=
  if (o_X2_narrowOther p1 p2).1 = 0 then (if (o_X2_narrowOther p1 p2).2 = true then (0, 1)
    else (0, 0))
  else if (o_X2_narrowOther p1 p2).1 = 1 then (1, nv)
  else (2, nv)
set_option maxHeartbeats 4000000 in
set_option maxRecDepth 100000 in
theorem k_L_narrowOther (l : Launch) (hfl : l.flags = flags0) (dC : Nat → ClassId) (dI : Nat → Nat → Nat) (cy : ClassId) (h0 : Nat) (h1 : Nat) (hw1 : Nat) (hc1 : Nat) (hb1 : Nat) (h2 : Nat) (hw2 : Nat) (hc2 : Nat) (hb2 : Nat) (a1 : Int32) (r1 : Int32) (f1 : Nat → Int64) (g1 : Nat → Int64) (a2 : Int32) (r2 : Int32) (f2 : Nat → Int64) (g2 : Nat → Int64) (kn : Int32) (ho : Nat) (nv : Int64) (sv : Value) (sz : Nat) (N : Nat) (p1 : Int32) (p2 : Int32) : Met l yL_narrowOther wsL_narrowOther ({ frames := 9, cells := 2, slots := 12, locals := 165 }) (va_Pc [.ref h0, .int p1, .int p2, .ref ho] (xL (dC, dI) xCl [(h0, eE h1 h2 kn), (h1, eR hw1 hc1 hb1 a1 r1), (hw1, eW true), (hc1, eA cy f1), (hb1, eA cy g1), (h2, eR hw2 hc2 hb2 a2 r2), (hw2, eW false), (hc2, eA cy f2), (hb2, eA cy g2), (ho, eO nv sv)] [(cy, .long)] sz N)) (va_Qi (fun (r : Int32) (_ : Unit) => r = (o_L_narrowOther nv p1 p2).1) (fun _ t => xW (dC, dI) xCl [(h0, eE h1 h2 kn), (h1, eR hw1 hc1 hb1 a1 r1), (hw1, eW true), (hc1, eA cy f1), (hb1, eA cy g1), (h2, eR hw2 hc2 hb2 a2 r2), (hw2, eW false), (hc2, eA cy f2), (hb2, eA cy g2), (ho, eO (o_L_narrowOther nv p1 p2).2 sv)] (va_A [(h0, eE h1 h2 kn), (h1, eR hw1 hc1 hb1 a1 r1), (hw1, eW true), (hc1, eA cy f1), (hb1, eA cy g1), (h2, eR hw2 hc2 hb2 a2 r2), (hw2, eW false), (hc2, eA cy f2), (hb2, eA cy g2), (ho, eO nv sv)] sz) t) (va_A [(h0, eE h1 h2 kn), (h1, eR hw1 hc1 hb1 a1 r1), (hw1, eW true), (hc1, eA cy f1), (hb1, eA cy g1), (h2, eR hw2 hc2 hb2 a2 r2), (hw2, eW false), (hc2, eA cy f2), (hb2, eA cy g2), (ho, eO nv sv)] sz)) 2 12 (va_A [(h0, eE h1 h2 kn), (h1, eR hw1 hc1 hb1 a1 r1), (hw1, eW true), (hc1, eA cy f1), (hb1, eA cy g1), (h2, eR hw2 hc2 hb2 a2 r2), (hw2, eW false), (hc2, eA cy f2), (hb2, eA cy g2), (ho, eO nv sv)] sz) := by
  refine va_MetW (cc := cL_narrowOther) (maxL := 5) (ret := (some .int)) (by decide +kernel) rfl ?_
  intro p e s m args below meth c s₁ B hml hv
  obtain ⟨rfl, ⟨hsz, hP, hK, hD0, hN, hG⟩, hnc⟩ := hv
  have hx := B.exec
  have hb := B.bytes
  have hr := B.returns
  have hts := atoms_spec (ws := wsL_narrowOther) B.pre
  have hown : s.vm.findClass RL = some m.cls := findClass_of_methodNamed B.named
  have hlocks := B.notSynchronized
  have htab := vx_table (x := yL_narrowOther) B (hts _ List.mem_cons_self)
  subst hsz
  have hAN : ∀ q, va_A [(h0, eE h1 h2 kn), (h1, eR hw1 hc1 hb1 a1 r1), (hw1, eW true), (hc1, eA cy f1), (hb1, eA cy g1), (h2, eR hw2 hc2 hb2 a2 r2), (hw2, eW false), (hc2, eA cy f2), (hb2, eA cy g2), (ho, eO nv sv)] s.heap.size q → N ≤ q := xA_N hD0 hN
  have hD := hD0.self (sz := s.heap.size)
  generalize hAe : va_A [(h0, eE h1 h2 kn), (h1, eR hw1 hc1 hb1 a1 r1), (hw1, eW true), (hc1, eA cy f1), (hb1, eA cy g1), (h2, eR hw2 hc2 hb2 a2 r2), (hw2, eW false), (hc2, eA cy f2), (hb2, eA cy g2), (ho, eO nv sv)] s.heap.size = A at hD hAN ⊢
  have hA : ∀ q : Nat, s.heap.size ≤ q → A q := fun q h => by rw [← hAe]; exact Or.inr h
  have hS : va_S A s.heap s.heap [] := va_S.rf
  have hP : va_P (dC, dI) xCl [(h0, eE h1 h2 kn), (h1, eR hw1 hc1 hb1 a1 r1), (hw1, eW true), (hc1, eA cy f1), (hb1, eA cy g1), (h2, eR hw2 hc2 hb2 a2 r2), (hw2, eW false), (hc2, eA cy f2), (hb2, eA cy g2), (ho, eO nv sv)] s.heap := hP
  have hl := lv_entry ([.ref h0, .int p1, .int p2, .ref ho]) (n := 5) (Nat.le_of_ble_eq_true rfl)
  rw [lg_entry_eq]
  generalize (lg_sl ([.ref h0, .int p1, .int p2, .ref ho]) ++ List.replicate (5 - (lg_sl ([.ref h0, .int p1, .int p2, .ref ho])).length) Slot.unset).toArray = ls at hl ⊢
  have hl : lv_has ls 5 [(0, .ref h0), (1, .int p1), (2, .int p2), (3, .ref ho)] := hl
  refine lv_aload_n hx hb dL_narrowOther_0 rfl (lv_at hl 3 rfl) ?_
  refine lv_aload_n hx hb dL_narrowOther_1 rfl (lv_at hl 0 rfl) ?_
  refine lv_iload_n hx hb dL_narrowOther_2 rfl (lv_at hl 1 rfl) ?_
  refine lv_iload_n hx hb dL_narrowOther_3 rfl (lv_at hl 2 rfl) ?_
  have hPc := hP.sub (ws' := [(h0, eE h1 h2 kn), (h1, eR hw1 hc1 hb1 a1 r1), (hw1, eW true), (hc1, eA cy f1), (hb1, eA cy g1), (h2, eR hw2 hc2 hb2 a2 r2), (hw2, eW false), (hc2, eA cy f2), (hb2, eA cy g2)]) [0, 1, 2, 3, 4, 5, 6, 7, 8] rfl
  have hDc := hD.sub (ws' := [(h0, eE h1 h2 kn), (h1, eR hw1 hc1 hb1 a1 r1), (hw1, eW true), (hc1, eA cy f1), (hb1, eA cy g1), (h2, eR hw2 hc2 hb2 a2 r2), (hw2, eW false), (hc2, eA cy f2), (hb2, eA cy g2)]) [0, 1, 2, 3, 4, 5, 6, 7, 8] (by decide +kernel) rfl
  have hKc := hK.sub (tys' := [(cy, .long)]) [0] rfl
  refine vx_calli (vx_runV (As := [.int p1, .int p2]) (rest := [.ref ho]) ⟨hx, hb, hml, hown, hts⟩ (k_X2_narrowOther l hfl dC dI cy h0 h1 hw1 hc1 hb1 h2 hw2 hc2 hb2 a1 r1 f1 g1 a2 r2 f2 g2 kn s.heap.size N p1 p2) (cwV 2 hts gL_narrowOther_X2_narrowOther rfl rfl rfl (by decide +kernel) ⟨Nat.le_of_ble_eq_true rfl, Nat.le_of_ble_eq_true rfl⟩) (xM.preV hKc hPc hDc hAN (Nat.le_trans hN hS.1) (hG.kept hS hAN) (ci := 4) (q0 := 0) rfl rfl) rfl rfl hl.1 rfl (lv_room (Nat.le_of_ble_eq_true rfl)) dL_narrowOther_4 ⟨Nat.le_of_ble_eq_true rfl, Nat.le_of_ble_eq_true rfl⟩) hS xA_old (fun q h => hA q (Nat.le_trans hS.1 h)) xA_old (fun E ce q9 u9 t H locs ht hvm hpx hbx hz hk hS hce hcv hcl => ?_) (fun r_1 u t H locs ht hvm hw hB hz hk hS => ?_)
  · have c_2 : ¬ (o_X2_narrowOther p1 p2).1 = 0 := hpx
    have hbe := hbx
    have hP := xP_keep hP hk
    by_cases c_3 : (o_X2_narrowOther p1 p2).1 = 1
    · skip
      have hE : E = "java/lang/IndexOutOfBoundsException" := hbe.trans (by rw [c_3]; rfl)
      subst hE
      refine vx_catch (own := RL) (name := "java/lang/IndexOutOfBoundsException") hown [] ⟨0, 18, 21, 19⟩ [⟨0, 18, 25, 25⟩] htab (fun z hz => absurd hz List.not_mem_nil) (by decide +kernel) (by decide +kernel) (hts (.classLink RL 19 "java/lang/IndexOutOfBoundsException") (by decide +kernel)) (va_Nw.use rfl (hG.1 (.castable "java/lang/IndexOutOfBoundsException" "java/lang/IndexOutOfBoundsException") (List.mem_of_getElem? (i := 11) rfl))) hce hcv hcl ?_
      refine lv_astore (lv' := [(4, .ref q9), (0, .ref h0), (1, .int p1), (2, .int p2), (3, .ref ho)]) hx hb dL_narrowOther_21 hl (by decide +kernel) rfl (fun ls hl => ?_)
      refine lv_iconst (v := 1) hx hb dL_narrowOther_23 (by decide +kernel) ?_
      have he : o_L_narrowOther nv p1 p2 = (1, nv) := by (rw [o_L_narrowOther, if_neg c_2, if_pos c_3]) <;> rfl
      refine W.widen (k := 2) (n := 12) (by omega) (by omega) ?_
      exact W.iret (v := 1) hx hb hr (fun t ht hW => ⟨⟨_, (), rfl, (by (rw [he]) <;> rfl), (by rw [he]; exact ⟨by rw [ht]; exact hP, hD⟩)⟩, hS.F ht⟩) hS.2.2 dL_narrowOther_24
    · skip
      have hE : E = "java/lang/IllegalArgumentException" := hbe.trans (if_neg c_3)
      subst hE
      refine vx_catch (own := RL) (name := "java/lang/IllegalArgumentException") hown [⟨0, 18, 21, 19⟩] ⟨0, 18, 25, 25⟩ [] htab (fun z hz => by cases List.mem_singleton.mp hz; exact Or.inr ⟨by decide, "java/lang/IndexOutOfBoundsException", hts (.classLink RL 19 "java/lang/IndexOutOfBoundsException") (by decide +kernel), hnc⟩) (by decide +kernel) (by decide +kernel) (hts (.classLink RL 25 "java/lang/IllegalArgumentException") (by decide +kernel)) (va_Nw.use rfl (hG.1 (.castable "java/lang/IllegalArgumentException" "java/lang/IllegalArgumentException") (List.mem_of_getElem? (i := 12) rfl))) hce hcv hcl ?_
      refine lv_astore (lv' := [(4, .ref q9), (0, .ref h0), (1, .int p1), (2, .int p2), (3, .ref ho)]) hx hb dL_narrowOther_25 hl (by decide +kernel) rfl (fun ls hl => ?_)
      refine lv_iconst (v := 2) hx hb dL_narrowOther_27 (by decide +kernel) ?_
      have he : o_L_narrowOther nv p1 p2 = (2, nv) := by (rw [o_L_narrowOther, if_neg c_2, if_neg c_3]) <;> rfl
      refine W.widen (k := 2) (n := 12) (by omega) (by omega) ?_
      exact W.iret (v := 2) hx hb hr (fun t ht hW => ⟨⟨_, (), rfl, (by (rw [he]) <;> rfl), (by rw [he]; exact ⟨by rw [ht]; exact hP, hD⟩)⟩, hS.F ht⟩) hS.2.2 dL_narrowOther_28
  · skip
    obtain ⟨c_4, hw⟩ := hw
    have c_4 : (o_X2_narrowOther p1 p2).1 = 0 := c_4
    replace hw : r_1 = b2i ((o_X2_narrowOther p1 p2).2) := hw
    subst r_1
    have hP := xP_keep hP hk
    refine xz_eq (tgt := 14) hx hb dL_narrowOther_7 (by decide +kernel) (fun c_5 => ?_) (fun c_5 => ?_)
    · skip
      refine lv_lconst (v := 0) hx hb dL_narrowOther_14 (by decide +kernel) ?_
      refine va_putN (D := (dC, dI)) (ci := 5) (v := .long 0) (ty := .long) (C := RX3) (T := TX3) (N := 2) hx hb hts (by decide +kernel) tyX3 tyX3_ok nmX3 hown hK hP hD hS 9 rfl rfl 0 (by decide +kernel) (va_Nw.use rfl (hG.1 (.fieldLinkNest RL 13 "EdgefloatsLaw$Out" "n" "J" RL) (List.mem_of_getElem? (i := 6) rfl))) (fun _ h9 => h9) rfl (by decide +kernel) rfl rfl (Nat.le_of_ble_eq_true rfl) dL_narrowOther_15 (fun H locs hP hD hS => ?_)
      have hP : va_P (dC, dI) xCl [(h0, eE h1 h2 kn), (h1, eR hw1 hc1 hb1 a1 r1), (hw1, eW true), (hc1, eA cy f1), (hb1, eA cy g1), (h2, eR hw2 hc2 hb2 a2 r2), (hw2, eW false), (hc2, eA cy f2), (hb2, eA cy g2), (ho, eO 0 sv)] H := hP
      have hD : va_D A [(h0, eE h1 h2 kn), (h1, eR hw1 hc1 hb1 a1 r1), (hw1, eW true), (hc1, eA cy f1), (hb1, eA cy g1), (h2, eR hw2 hc2 hb2 a2 r2), (hw2, eW false), (hc2, eA cy f2), (hb2, eA cy g2), (ho, eO 0 sv)] := hD
      refine lv_goto (tgt := 29) hx hb dL_narrowOther_18 (by decide +kernel) ?_
      refine lv_iconst (v := 0) hx hb dL_narrowOther_29 (by decide +kernel) ?_
      have he : o_L_narrowOther nv p1 p2 = (0, 0) := by (rw [o_L_narrowOther, if_pos c_4, if_neg c_5]) <;> rfl
      refine W.widen (k := 2) (n := 12) (by omega) (by omega) ?_
      exact W.iret (v := 0) hx hb hr (fun t ht hW => ⟨⟨_, (), rfl, (by (rw [he]) <;> rfl), (by rw [he]; exact ⟨by rw [ht]; exact hP, hD⟩)⟩, hS.F ht⟩) hS.2.2 dL_narrowOther_30
    · skip
      refine lv_lconst (v := 1) hx hb dL_narrowOther_10 (by decide +kernel) ?_
      refine lv_goto (tgt := 15) hx hb dL_narrowOther_11 (by decide +kernel) ?_
      refine va_putN (D := (dC, dI)) (ci := 5) (v := .long 1) (ty := .long) (C := RX3) (T := TX3) (N := 2) hx hb hts (by decide +kernel) tyX3 tyX3_ok nmX3 hown hK hP hD hS 9 rfl rfl 0 (by decide +kernel) (va_Nw.use rfl (hG.1 (.fieldLinkNest RL 13 "EdgefloatsLaw$Out" "n" "J" RL) (List.mem_of_getElem? (i := 6) rfl))) (fun _ h9 => h9) rfl (by decide +kernel) rfl rfl (Nat.le_of_ble_eq_true rfl) dL_narrowOther_15 (fun H locs hP hD hS => ?_)
      have hP : va_P (dC, dI) xCl [(h0, eE h1 h2 kn), (h1, eR hw1 hc1 hb1 a1 r1), (hw1, eW true), (hc1, eA cy f1), (hb1, eA cy g1), (h2, eR hw2 hc2 hb2 a2 r2), (hw2, eW false), (hc2, eA cy f2), (hb2, eA cy g2), (ho, eO 1 sv)] H := hP
      have hD : va_D A [(h0, eE h1 h2 kn), (h1, eR hw1 hc1 hb1 a1 r1), (hw1, eW true), (hc1, eA cy f1), (hb1, eA cy g1), (h2, eR hw2 hc2 hb2 a2 r2), (hw2, eW false), (hc2, eA cy f2), (hb2, eA cy g2), (ho, eO 1 sv)] := hD
      refine lv_goto (tgt := 29) hx hb dL_narrowOther_18 (by decide +kernel) ?_
      refine lv_iconst (v := 0) hx hb dL_narrowOther_29 (by decide +kernel) ?_
      have he : o_L_narrowOther nv p1 p2 = (0, 1) := by (rw [o_L_narrowOther, if_pos c_4, if_pos c_5]) <;> rfl
      refine W.widen (k := 2) (n := 12) (by omega) (by omega) ?_
      exact W.iret (v := 0) hx hb hr (fun t ht hW => ⟨⟨_, (), rfl, (by (rw [he]) <;> rfl), (by rw [he]; exact ⟨by rw [ht]; exact hP, hD⟩)⟩, hS.F ht⟩) hS.2.2 dL_narrowOther_30
theorem cl_L_narrowLike_1 : ∀ w ∈ wsL_narrowLike_r1, w ∈ wsL_narrowLike := fun _ h => (List.mem_cons_of_mem _ (List.mem_append_left _ (List.mem_append_left _ (List.mem_append_left _ (List.mem_append_left _ (List.mem_append_left _ (List.mem_append_left _ h)))))))
theorem cl_L_narrowLike_2 : ∀ w ∈ wsL_narrowLike_r2, w ∈ wsL_narrowLike := fun _ h => (List.mem_cons_of_mem _ (List.mem_append_left _ (List.mem_append_left _ (List.mem_append_left _ (List.mem_append_left _ (List.mem_append_left _ (List.mem_append_right _ h)))))))
theorem cl_L_narrowLike_3 : ∀ w ∈ wsX30, w ∈ wsL_narrowLike := fun _ h => (List.mem_cons_of_mem _ (List.mem_append_left _ (List.mem_append_left _ (List.mem_append_left _ (List.mem_append_left _ (List.mem_append_right _ h))))))
theorem cl_L_narrowLike_4 : ∀ w ∈ wsX20, w ∈ wsL_narrowLike := fun _ h => (List.mem_cons_of_mem _ (List.mem_append_left _ (List.mem_append_left _ (List.mem_append_left _ (List.mem_append_right _ h)))))
theorem cl_L_narrowLike_5 : ∀ w ∈ wsX00, w ∈ wsL_narrowLike := fun _ h => (List.mem_cons_of_mem _ (List.mem_append_left _ (List.mem_append_left _ (List.mem_append_right _ h))))
theorem cl_L_narrowLike_6 : ∀ w ∈ wsX10, w ∈ wsL_narrowLike := fun _ h => (List.mem_cons_of_mem _ (List.mem_append_left _ (List.mem_append_right _ h)))
theorem cl_L_narrowLike_7 : ∀ w ∈ (vx_atS RX2 152 "java/lang/IndexOutOfBoundsException" ["java/lang/RuntimeException", "java/lang/Exception"]).filter goodWord, w ∈ wsL_narrowLike := fun _ h => (List.mem_cons_of_mem _ (List.mem_append_right _ h))
set_option maxRecDepth 20000 in
theorem ggL_narrowLike_X2_narrowLike : GoodIn wsL_narrowLike wsX2_narrowLike := goodIn_sub (List.forall_mem_cons.mpr ⟨(cl_L_narrowLike_1 _ (List.mem_of_getElem? (i := 5) rfl)), fun w h => (List.mem_append.mp h).elim ((fun w h => (List.mem_append.mp h).elim ((fun w h => (List.mem_append.mp h).elim ((fun w h => (List.mem_append.mp h).elim ((List.forall_mem_cons.mpr ⟨(cl_L_narrowLike_1 _ (List.mem_of_getElem? (i := 6) rfl)), List.forall_mem_cons.mpr ⟨(cl_L_narrowLike_1 _ (List.mem_of_getElem? (i := 7) rfl)), List.forall_mem_cons.mpr ⟨(cl_L_narrowLike_1 _ (List.mem_of_getElem? (i := 8) rfl)), List.forall_mem_cons.mpr ⟨(cl_L_narrowLike_1 _ (List.mem_of_getElem? (i := 9) rfl)), List.forall_mem_cons.mpr ⟨(cl_L_narrowLike_1 _ (List.mem_of_getElem? (i := 10) rfl)), List.forall_mem_cons.mpr ⟨(cl_L_narrowLike_1 _ (List.mem_of_getElem? (i := 11) rfl)), List.forall_mem_cons.mpr ⟨(cl_L_narrowLike_1 _ (List.mem_of_getElem? (i := 12) rfl)), List.forall_mem_cons.mpr ⟨(cl_L_narrowLike_1 _ (List.mem_of_getElem? (i := 13) rfl)), List.forall_mem_cons.mpr ⟨(cl_L_narrowLike_1 _ (List.mem_of_getElem? (i := 14) rfl)), List.forall_mem_cons.mpr ⟨(cl_L_narrowLike_1 _ (List.mem_of_getElem? (i := 4) rfl)), List.forall_mem_cons.mpr ⟨(cl_L_narrowLike_1 _ (List.mem_of_getElem? (i := 15) rfl)), List.forall_mem_cons.mpr ⟨(cl_L_narrowLike_1 _ (List.mem_of_getElem? (i := 16) rfl)), List.forall_mem_cons.mpr ⟨(cl_L_narrowLike_1 _ (List.mem_of_getElem? (i := 17) rfl)), List.forall_mem_cons.mpr ⟨(cl_L_narrowLike_1 _ (List.mem_of_getElem? (i := 18) rfl)), List.forall_mem_cons.mpr ⟨(cl_L_narrowLike_1 _ (List.mem_of_getElem? (i := 19) rfl)), List.forall_mem_cons.mpr ⟨(cl_L_narrowLike_1 _ (List.mem_of_getElem? (i := 20) rfl)), List.forall_mem_cons.mpr ⟨(cl_L_narrowLike_1 _ (List.mem_of_getElem? (i := 21) rfl)), List.forall_mem_cons.mpr ⟨(cl_L_narrowLike_1 _ (List.mem_of_getElem? (i := 22) rfl)), List.forall_mem_cons.mpr ⟨(cl_L_narrowLike_1 _ (List.mem_of_getElem? (i := 23) rfl)), List.forall_mem_cons.mpr ⟨(cl_L_narrowLike_2 _ (List.mem_of_getElem? (i := 0) rfl)), List.forall_mem_cons.mpr ⟨(cl_L_narrowLike_2 _ (List.mem_of_getElem? (i := 1) rfl)), List.forall_mem_cons.mpr ⟨(cl_L_narrowLike_2 _ (List.mem_of_getElem? (i := 2) rfl)), List.forall_mem_cons.mpr ⟨(cl_L_narrowLike_2 _ (List.mem_of_getElem? (i := 3) rfl)), List.forall_mem_cons.mpr ⟨(cl_L_narrowLike_2 _ (List.mem_of_getElem? (i := 4) rfl)), fun _ h => absurd h List.not_mem_nil⟩⟩⟩⟩⟩⟩⟩⟩⟩⟩⟩⟩⟩⟩⟩⟩⟩⟩⟩⟩⟩⟩⟩⟩) w) ((cl_L_narrowLike_4) w)) w) ((cl_L_narrowLike_5) w)) w) ((cl_L_narrowLike_6) w)) w) ((cl_L_narrowLike_7) w)⟩) (by decide +kernel)
set_option maxRecDepth 20000 in
theorem gL_narrowLike_X2_narrowLike : GoodIn wsL_narrowLike (wsV RL 147 RX2 yX2_narrowLike wsX2_narrowLike) := goodIn_app (goodIn_sub (List.forall_mem_cons.mpr ⟨(cl_L_narrowLike_1 _ (List.mem_of_getElem? (i := 1) rfl)), List.forall_mem_cons.mpr ⟨(cl_L_narrowLike_1 _ (List.mem_of_getElem? (i := 2) rfl)), List.forall_mem_cons.mpr ⟨(cl_L_narrowLike_1 _ (List.mem_of_getElem? (i := 3) rfl)), List.forall_mem_cons.mpr ⟨(cl_L_narrowLike_1 _ (List.mem_of_getElem? (i := 4) rfl)), fun _ h => absurd h List.not_mem_nil⟩⟩⟩⟩) (by decide +kernel)) ggL_narrowLike_X2_narrowLike
noncomputable def dz_p16_37 : List (Nat × Instr × Nat) := [(0, (.aload_n 3, 1)), (1, (.aload_n 0, 1)), (2, (.iload_n 1, 1)), (3, (.iload_n 2, 1)), (4, (.invokevirtual 147, 3)), (7, (.ifCond .eq 7, 3)), (10, (.lconst 1, 1)), (11, (.goto 4, 3)), (14, (.lconst 0, 1)), (15, (.putfield 13, 3)), (18, (.goto 7, 3)), (21, (.astore 4, 2)), (23, (.iconst 1, 1)), (24, (.ireturn, 1)), (25, (.iconst 0, 1)), (26, (.ireturn, 1))]
theorem dy_p16_37 : dz_ok cL_narrowLike dz_p16_37 = true := by decide +kernel
theorem dL_narrowLike_0 : decode cL_narrowLike 0 = .ok (.aload_n 3, 1) := dz_at (i := 0) dy_p16_37 rfl
theorem dL_narrowLike_1 : decode cL_narrowLike 1 = .ok (.aload_n 0, 1) := dz_at (i := 1) dy_p16_37 rfl
theorem dL_narrowLike_2 : decode cL_narrowLike 2 = .ok (.iload_n 1, 1) := dz_at (i := 2) dy_p16_37 rfl
theorem dL_narrowLike_3 : decode cL_narrowLike 3 = .ok (.iload_n 2, 1) := dz_at (i := 3) dy_p16_37 rfl
theorem dL_narrowLike_4 : decode cL_narrowLike 4 = .ok (.invokevirtual 147, 3) := dz_at (i := 4) dy_p16_37 rfl
theorem dL_narrowLike_7 : decode cL_narrowLike 7 = .ok (.ifCond .eq 7, 3) := dz_at (i := 5) dy_p16_37 rfl
theorem dL_narrowLike_10 : decode cL_narrowLike 10 = .ok (.lconst 1, 1) := dz_at (i := 6) dy_p16_37 rfl
theorem dL_narrowLike_11 : decode cL_narrowLike 11 = .ok (.goto 4, 3) := dz_at (i := 7) dy_p16_37 rfl
theorem dL_narrowLike_14 : decode cL_narrowLike 14 = .ok (.lconst 0, 1) := dz_at (i := 8) dy_p16_37 rfl
theorem dL_narrowLike_15 : decode cL_narrowLike 15 = .ok (.putfield 13, 3) := dz_at (i := 9) dy_p16_37 rfl
theorem dL_narrowLike_18 : decode cL_narrowLike 18 = .ok (.goto 7, 3) := dz_at (i := 10) dy_p16_37 rfl
theorem dL_narrowLike_21 : decode cL_narrowLike 21 = .ok (.astore 4, 2) := dz_at (i := 11) dy_p16_37 rfl
theorem dL_narrowLike_23 : decode cL_narrowLike 23 = .ok (.iconst 1, 1) := dz_at (i := 12) dy_p16_37 rfl
theorem dL_narrowLike_24 : decode cL_narrowLike 24 = .ok (.ireturn, 1) := dz_at (i := 13) dy_p16_37 rfl
theorem dL_narrowLike_25 : decode cL_narrowLike 25 = .ok (.iconst 0, 1) := dz_at (i := 14) dy_p16_37 rfl
theorem dL_narrowLike_26 : decode cL_narrowLike 26 = .ok (.ireturn, 1) := dz_at (i := 15) dy_p16_37 rfl
noncomputable def o_L_narrowLike (f2 : Nat → Int64) (nv : Int64) (p1 : Int32) (p2 : Int32) : Int32 × Int64 :=
  if (o_X2_narrowLike f2 p1 p2).1 = 0 then (if (o_X2_narrowLike f2 p1 p2).2 = true then (0, 1)
    else (0, 0))
  else (1, nv)
set_option maxHeartbeats 4000000 in
set_option maxRecDepth 100000 in
theorem k_L_narrowLike (l : Launch) (hfl : l.flags = flags0) (dC : Nat → ClassId) (dI : Nat → Nat → Nat) (cy : ClassId) (h0 : Nat) (h1 : Nat) (hw1 : Nat) (hc1 : Nat) (hb1 : Nat) (h2 : Nat) (hw2 : Nat) (hc2 : Nat) (hb2 : Nat) (a1 : Int32) (r1 : Int32) (f1 : Nat → Int64) (g1 : Nat → Int64) (a2 : Int32) (r2 : Int32) (f2 : Nat → Int64) (g2 : Nat → Int64) (kn : Int32) (ho : Nat) (nv : Int64) (sv : Value) (sz : Nat) (N : Nat) (p1 : Int32) (p2 : Int32) : Met l yL_narrowLike wsL_narrowLike ({ frames := 9, cells := 2, slots := 12, locals := 164 }) (va_Pc [.ref h0, .int p1, .int p2, .ref ho] (xL (dC, dI) xCl [(h0, eE h1 h2 kn), (h1, eR hw1 hc1 hb1 a1 r1), (hw1, eW true), (hc1, eA cy f1), (hb1, eA cy g1), (h2, eR hw2 hc2 hb2 a2 r2), (hw2, eW false), (hc2, eA cy f2), (hb2, eA cy g2), (ho, eO nv sv)] [(cy, .long)] sz N)) (va_Qi (fun (r : Int32) (_ : Unit) => r = (o_L_narrowLike f2 nv p1 p2).1) (fun _ t => xW (dC, dI) xCl [(h0, eE h1 h2 kn), (h1, eR hw1 hc1 hb1 a1 r1), (hw1, eW true), (hc1, eA cy f1), (hb1, eA cy g1), (h2, eR hw2 hc2 hb2 a2 r2), (hw2, eW false), (hc2, eA cy f2), (hb2, eA cy g2), (ho, eO (o_L_narrowLike f2 nv p1 p2).2 sv)] (va_A [(h0, eE h1 h2 kn), (h1, eR hw1 hc1 hb1 a1 r1), (hw1, eW true), (hc1, eA cy f1), (hb1, eA cy g1), (h2, eR hw2 hc2 hb2 a2 r2), (hw2, eW false), (hc2, eA cy f2), (hb2, eA cy g2), (ho, eO nv sv)] sz) t) (va_A [(h0, eE h1 h2 kn), (h1, eR hw1 hc1 hb1 a1 r1), (hw1, eW true), (hc1, eA cy f1), (hb1, eA cy g1), (h2, eR hw2 hc2 hb2 a2 r2), (hw2, eW false), (hc2, eA cy f2), (hb2, eA cy g2), (ho, eO nv sv)] sz)) 2 12 (va_A [(h0, eE h1 h2 kn), (h1, eR hw1 hc1 hb1 a1 r1), (hw1, eW true), (hc1, eA cy f1), (hb1, eA cy g1), (h2, eR hw2 hc2 hb2 a2 r2), (hw2, eW false), (hc2, eA cy f2), (hb2, eA cy g2), (ho, eO nv sv)] sz) := by
  refine va_MetW (cc := cL_narrowLike) (maxL := 5) (ret := (some .int)) (by decide +kernel) rfl ?_
  intro p e s m args below meth c s₁ B hml hv
  obtain ⟨rfl, ⟨hsz, hP, hK, hD0, hN, hG⟩, hnc⟩ := hv
  have hx := B.exec
  have hb := B.bytes
  have hr := B.returns
  have hts := atoms_spec (ws := wsL_narrowLike) B.pre
  have hown : s.vm.findClass RL = some m.cls := findClass_of_methodNamed B.named
  have hlocks := B.notSynchronized
  have htab := vx_table (x := yL_narrowLike) B (hts _ List.mem_cons_self)
  subst hsz
  have hAN : ∀ q, va_A [(h0, eE h1 h2 kn), (h1, eR hw1 hc1 hb1 a1 r1), (hw1, eW true), (hc1, eA cy f1), (hb1, eA cy g1), (h2, eR hw2 hc2 hb2 a2 r2), (hw2, eW false), (hc2, eA cy f2), (hb2, eA cy g2), (ho, eO nv sv)] s.heap.size q → N ≤ q := xA_N hD0 hN
  have hD := hD0.self (sz := s.heap.size)
  generalize hAe : va_A [(h0, eE h1 h2 kn), (h1, eR hw1 hc1 hb1 a1 r1), (hw1, eW true), (hc1, eA cy f1), (hb1, eA cy g1), (h2, eR hw2 hc2 hb2 a2 r2), (hw2, eW false), (hc2, eA cy f2), (hb2, eA cy g2), (ho, eO nv sv)] s.heap.size = A at hD hAN ⊢
  have hA : ∀ q : Nat, s.heap.size ≤ q → A q := fun q h => by rw [← hAe]; exact Or.inr h
  have hS : va_S A s.heap s.heap [] := va_S.rf
  have hP : va_P (dC, dI) xCl [(h0, eE h1 h2 kn), (h1, eR hw1 hc1 hb1 a1 r1), (hw1, eW true), (hc1, eA cy f1), (hb1, eA cy g1), (h2, eR hw2 hc2 hb2 a2 r2), (hw2, eW false), (hc2, eA cy f2), (hb2, eA cy g2), (ho, eO nv sv)] s.heap := hP
  have hl := lv_entry ([.ref h0, .int p1, .int p2, .ref ho]) (n := 5) (Nat.le_of_ble_eq_true rfl)
  rw [lg_entry_eq]
  generalize (lg_sl ([.ref h0, .int p1, .int p2, .ref ho]) ++ List.replicate (5 - (lg_sl ([.ref h0, .int p1, .int p2, .ref ho])).length) Slot.unset).toArray = ls at hl ⊢
  have hl : lv_has ls 5 [(0, .ref h0), (1, .int p1), (2, .int p2), (3, .ref ho)] := hl
  refine lv_aload_n hx hb dL_narrowLike_0 rfl (lv_at hl 3 rfl) ?_
  refine lv_aload_n hx hb dL_narrowLike_1 rfl (lv_at hl 0 rfl) ?_
  refine lv_iload_n hx hb dL_narrowLike_2 rfl (lv_at hl 1 rfl) ?_
  refine lv_iload_n hx hb dL_narrowLike_3 rfl (lv_at hl 2 rfl) ?_
  have hPc := hP.sub (ws' := [(h0, eE h1 h2 kn), (h1, eR hw1 hc1 hb1 a1 r1), (hw1, eW true), (hc1, eA cy f1), (hb1, eA cy g1), (h2, eR hw2 hc2 hb2 a2 r2), (hw2, eW false), (hc2, eA cy f2), (hb2, eA cy g2)]) [0, 1, 2, 3, 4, 5, 6, 7, 8] rfl
  have hDc := hD.sub (ws' := [(h0, eE h1 h2 kn), (h1, eR hw1 hc1 hb1 a1 r1), (hw1, eW true), (hc1, eA cy f1), (hb1, eA cy g1), (h2, eR hw2 hc2 hb2 a2 r2), (hw2, eW false), (hc2, eA cy f2), (hb2, eA cy g2)]) [0, 1, 2, 3, 4, 5, 6, 7, 8] (by decide +kernel) rfl
  have hKc := hK.sub (tys' := [(cy, .long)]) [0] rfl
  refine vx_calli (vx_runV (As := [.int p1, .int p2]) (rest := [.ref ho]) ⟨hx, hb, hml, hown, hts⟩ (k_X2_narrowLike l hfl dC dI cy h0 h1 hw1 hc1 hb1 h2 hw2 hc2 hb2 a1 r1 f1 g1 a2 r2 f2 g2 kn s.heap.size N p1 p2) (cwV 2 hts gL_narrowLike_X2_narrowLike rfl rfl rfl (by decide +kernel) ⟨Nat.le_of_ble_eq_true rfl, Nat.le_of_ble_eq_true rfl⟩) (xM.preV hKc hPc hDc hAN (Nat.le_trans hN hS.1) (hG.kept hS hAN) (ci := 4) (q0 := 0) rfl rfl) rfl rfl hl.1 rfl (lv_room (Nat.le_of_ble_eq_true rfl)) dL_narrowLike_4 ⟨Nat.le_of_ble_eq_true rfl, Nat.le_of_ble_eq_true rfl⟩) hS xA_old (fun q h => hA q (Nat.le_trans hS.1 h)) xA_old (fun E ce q9 u9 t H locs ht hvm hpx hbx hz hk hS hce hcv hcl => ?_) (fun r_1 u t H locs ht hvm hw hB hz hk hS => ?_)
  · have c_2 : ¬ (o_X2_narrowLike f2 p1 p2).1 = 0 := hpx
    have hbe := hbx
    have hP := xP_keep hP hk
    have hE : E = "java/lang/IndexOutOfBoundsException" := hbe.trans (by rw [show (o_X2_narrowLike f2 p1 p2).1 = 1 from (xr_X2_narrowLike _ _ _ c_2)]; rfl)
    subst hE
    refine vx_catch (own := RL) (name := "java/lang/IndexOutOfBoundsException") hown [] ⟨0, 18, 21, 19⟩ [] htab (fun z hz => absurd hz List.not_mem_nil) (by decide +kernel) (by decide +kernel) (hts (.classLink RL 19 "java/lang/IndexOutOfBoundsException") (by decide +kernel)) (va_Nw.use rfl (hG.1 (.castable "java/lang/IndexOutOfBoundsException" "java/lang/IndexOutOfBoundsException") (List.mem_of_getElem? (i := 11) rfl))) hce hcv hcl ?_
    refine lv_astore (lv' := [(4, .ref q9), (0, .ref h0), (1, .int p1), (2, .int p2), (3, .ref ho)]) hx hb dL_narrowLike_21 hl (by decide +kernel) rfl (fun ls hl => ?_)
    refine lv_iconst (v := 1) hx hb dL_narrowLike_23 (by decide +kernel) ?_
    have he : o_L_narrowLike f2 nv p1 p2 = (1, nv) := by (rw [o_L_narrowLike, if_neg c_2]) <;> rfl
    refine W.widen (k := 2) (n := 12) (by omega) (by omega) ?_
    exact W.iret (v := 1) hx hb hr (fun t ht hW => ⟨⟨_, (), rfl, (by (rw [he]) <;> rfl), (by rw [he]; exact ⟨by rw [ht]; exact hP, hD⟩)⟩, hS.F ht⟩) hS.2.2 dL_narrowLike_24
  · skip
    obtain ⟨c_3, hw⟩ := hw
    have c_3 : (o_X2_narrowLike f2 p1 p2).1 = 0 := c_3
    replace hw : r_1 = b2i ((o_X2_narrowLike f2 p1 p2).2) := hw
    subst r_1
    have hP := xP_keep hP hk
    refine xz_eq (tgt := 14) hx hb dL_narrowLike_7 (by decide +kernel) (fun c_4 => ?_) (fun c_4 => ?_)
    · skip
      refine lv_lconst (v := 0) hx hb dL_narrowLike_14 (by decide +kernel) ?_
      refine va_putN (D := (dC, dI)) (ci := 5) (v := .long 0) (ty := .long) (C := RX3) (T := TX3) (N := 2) hx hb hts (by decide +kernel) tyX3 tyX3_ok nmX3 hown hK hP hD hS 9 rfl rfl 0 (by decide +kernel) (va_Nw.use rfl (hG.1 (.fieldLinkNest RL 13 "EdgefloatsLaw$Out" "n" "J" RL) (List.mem_of_getElem? (i := 6) rfl))) (fun _ h9 => h9) rfl (by decide +kernel) rfl rfl (Nat.le_of_ble_eq_true rfl) dL_narrowLike_15 (fun H locs hP hD hS => ?_)
      have hP : va_P (dC, dI) xCl [(h0, eE h1 h2 kn), (h1, eR hw1 hc1 hb1 a1 r1), (hw1, eW true), (hc1, eA cy f1), (hb1, eA cy g1), (h2, eR hw2 hc2 hb2 a2 r2), (hw2, eW false), (hc2, eA cy f2), (hb2, eA cy g2), (ho, eO 0 sv)] H := hP
      have hD : va_D A [(h0, eE h1 h2 kn), (h1, eR hw1 hc1 hb1 a1 r1), (hw1, eW true), (hc1, eA cy f1), (hb1, eA cy g1), (h2, eR hw2 hc2 hb2 a2 r2), (hw2, eW false), (hc2, eA cy f2), (hb2, eA cy g2), (ho, eO 0 sv)] := hD
      refine lv_goto (tgt := 25) hx hb dL_narrowLike_18 (by decide +kernel) ?_
      refine lv_iconst (v := 0) hx hb dL_narrowLike_25 (by decide +kernel) ?_
      have he : o_L_narrowLike f2 nv p1 p2 = (0, 0) := by (rw [o_L_narrowLike, if_pos c_3, if_neg c_4]) <;> rfl
      refine W.widen (k := 2) (n := 12) (by omega) (by omega) ?_
      exact W.iret (v := 0) hx hb hr (fun t ht hW => ⟨⟨_, (), rfl, (by (rw [he]) <;> rfl), (by rw [he]; exact ⟨by rw [ht]; exact hP, hD⟩)⟩, hS.F ht⟩) hS.2.2 dL_narrowLike_26
    · skip
      refine lv_lconst (v := 1) hx hb dL_narrowLike_10 (by decide +kernel) ?_
      refine lv_goto (tgt := 15) hx hb dL_narrowLike_11 (by decide +kernel) ?_
      refine va_putN (D := (dC, dI)) (ci := 5) (v := .long 1) (ty := .long) (C := RX3) (T := TX3) (N := 2) hx hb hts (by decide +kernel) tyX3 tyX3_ok nmX3 hown hK hP hD hS 9 rfl rfl 0 (by decide +kernel) (va_Nw.use rfl (hG.1 (.fieldLinkNest RL 13 "EdgefloatsLaw$Out" "n" "J" RL) (List.mem_of_getElem? (i := 6) rfl))) (fun _ h9 => h9) rfl (by decide +kernel) rfl rfl (Nat.le_of_ble_eq_true rfl) dL_narrowLike_15 (fun H locs hP hD hS => ?_)
      have hP : va_P (dC, dI) xCl [(h0, eE h1 h2 kn), (h1, eR hw1 hc1 hb1 a1 r1), (hw1, eW true), (hc1, eA cy f1), (hb1, eA cy g1), (h2, eR hw2 hc2 hb2 a2 r2), (hw2, eW false), (hc2, eA cy f2), (hb2, eA cy g2), (ho, eO 1 sv)] H := hP
      have hD : va_D A [(h0, eE h1 h2 kn), (h1, eR hw1 hc1 hb1 a1 r1), (hw1, eW true), (hc1, eA cy f1), (hb1, eA cy g1), (h2, eR hw2 hc2 hb2 a2 r2), (hw2, eW false), (hc2, eA cy f2), (hb2, eA cy g2), (ho, eO 1 sv)] := hD
      refine lv_goto (tgt := 25) hx hb dL_narrowLike_18 (by decide +kernel) ?_
      refine lv_iconst (v := 0) hx hb dL_narrowLike_25 (by decide +kernel) ?_
      have he : o_L_narrowLike f2 nv p1 p2 = (0, 1) := by (rw [o_L_narrowLike, if_pos c_3, if_pos c_4]) <;> rfl
      refine W.widen (k := 2) (n := 12) (by omega) (by omega) ?_
      exact W.iret (v := 0) hx hb hr (fun t ht hW => ⟨⟨_, (), rfl, (by (rw [he]) <;> rfl), (by rw [he]; exact ⟨by rw [ht]; exact hP, hD⟩)⟩, hS.F ht⟩) hS.2.2 dL_narrowLike_26
theorem cl_L_narrowBelow_1 : ∀ w ∈ wsL_narrowBelow_r1, w ∈ wsL_narrowBelow := fun _ h => (List.mem_cons_of_mem _ (List.mem_append_left _ (List.mem_append_left _ (List.mem_append_left _ (List.mem_append_left _ (List.mem_append_left _ (List.mem_append_left _ h)))))))
theorem cl_L_narrowBelow_2 : ∀ w ∈ wsL_narrowBelow_r2, w ∈ wsL_narrowBelow := fun _ h => (List.mem_cons_of_mem _ (List.mem_append_left _ (List.mem_append_left _ (List.mem_append_left _ (List.mem_append_left _ (List.mem_append_left _ (List.mem_append_right _ h)))))))
theorem cl_L_narrowBelow_3 : ∀ w ∈ wsX30, w ∈ wsL_narrowBelow := fun _ h => (List.mem_cons_of_mem _ (List.mem_append_left _ (List.mem_append_left _ (List.mem_append_left _ (List.mem_append_left _ (List.mem_append_right _ h))))))
theorem cl_L_narrowBelow_4 : ∀ w ∈ wsX20, w ∈ wsL_narrowBelow := fun _ h => (List.mem_cons_of_mem _ (List.mem_append_left _ (List.mem_append_left _ (List.mem_append_left _ (List.mem_append_right _ h)))))
theorem cl_L_narrowBelow_5 : ∀ w ∈ wsX00, w ∈ wsL_narrowBelow := fun _ h => (List.mem_cons_of_mem _ (List.mem_append_left _ (List.mem_append_left _ (List.mem_append_right _ h))))
theorem cl_L_narrowBelow_6 : ∀ w ∈ wsX10, w ∈ wsL_narrowBelow := fun _ h => (List.mem_cons_of_mem _ (List.mem_append_left _ (List.mem_append_right _ h)))
theorem cl_L_narrowBelow_7 : ∀ w ∈ (vx_atS RX2 152 "java/lang/IndexOutOfBoundsException" ["java/lang/RuntimeException", "java/lang/Exception"]).filter goodWord, w ∈ wsL_narrowBelow := fun _ h => (List.mem_cons_of_mem _ (List.mem_append_right _ h))
set_option maxRecDepth 20000 in
theorem ggL_narrowBelow_X2_narrowBelow : GoodIn wsL_narrowBelow wsX2_narrowBelow := goodIn_sub (List.forall_mem_cons.mpr ⟨(cl_L_narrowBelow_1 _ (List.mem_of_getElem? (i := 5) rfl)), fun w h => (List.mem_append.mp h).elim ((fun w h => (List.mem_append.mp h).elim ((fun w h => (List.mem_append.mp h).elim ((fun w h => (List.mem_append.mp h).elim ((fun w h => (List.mem_append.mp h).elim ((List.forall_mem_cons.mpr ⟨(cl_L_narrowBelow_1 _ (List.mem_of_getElem? (i := 6) rfl)), List.forall_mem_cons.mpr ⟨(cl_L_narrowBelow_1 _ (List.mem_of_getElem? (i := 7) rfl)), List.forall_mem_cons.mpr ⟨(cl_L_narrowBelow_1 _ (List.mem_of_getElem? (i := 8) rfl)), List.forall_mem_cons.mpr ⟨(cl_L_narrowBelow_1 _ (List.mem_of_getElem? (i := 9) rfl)), List.forall_mem_cons.mpr ⟨(cl_L_narrowBelow_1 _ (List.mem_of_getElem? (i := 10) rfl)), List.forall_mem_cons.mpr ⟨(cl_L_narrowBelow_1 _ (List.mem_of_getElem? (i := 11) rfl)), List.forall_mem_cons.mpr ⟨(cl_L_narrowBelow_1 _ (List.mem_of_getElem? (i := 12) rfl)), List.forall_mem_cons.mpr ⟨(cl_L_narrowBelow_1 _ (List.mem_of_getElem? (i := 13) rfl)), List.forall_mem_cons.mpr ⟨(cl_L_narrowBelow_1 _ (List.mem_of_getElem? (i := 14) rfl)), List.forall_mem_cons.mpr ⟨(cl_L_narrowBelow_1 _ (List.mem_of_getElem? (i := 4) rfl)), List.forall_mem_cons.mpr ⟨(cl_L_narrowBelow_1 _ (List.mem_of_getElem? (i := 15) rfl)), List.forall_mem_cons.mpr ⟨(cl_L_narrowBelow_1 _ (List.mem_of_getElem? (i := 16) rfl)), List.forall_mem_cons.mpr ⟨(cl_L_narrowBelow_1 _ (List.mem_of_getElem? (i := 17) rfl)), List.forall_mem_cons.mpr ⟨(cl_L_narrowBelow_1 _ (List.mem_of_getElem? (i := 18) rfl)), List.forall_mem_cons.mpr ⟨(cl_L_narrowBelow_1 _ (List.mem_of_getElem? (i := 19) rfl)), List.forall_mem_cons.mpr ⟨(cl_L_narrowBelow_1 _ (List.mem_of_getElem? (i := 20) rfl)), List.forall_mem_cons.mpr ⟨(cl_L_narrowBelow_1 _ (List.mem_of_getElem? (i := 21) rfl)), List.forall_mem_cons.mpr ⟨(cl_L_narrowBelow_1 _ (List.mem_of_getElem? (i := 22) rfl)), List.forall_mem_cons.mpr ⟨(cl_L_narrowBelow_1 _ (List.mem_of_getElem? (i := 23) rfl)), List.forall_mem_cons.mpr ⟨(cl_L_narrowBelow_2 _ (List.mem_of_getElem? (i := 0) rfl)), List.forall_mem_cons.mpr ⟨(cl_L_narrowBelow_2 _ (List.mem_of_getElem? (i := 1) rfl)), List.forall_mem_cons.mpr ⟨(cl_L_narrowBelow_2 _ (List.mem_of_getElem? (i := 2) rfl)), List.forall_mem_cons.mpr ⟨(cl_L_narrowBelow_2 _ (List.mem_of_getElem? (i := 3) rfl)), List.forall_mem_cons.mpr ⟨(cl_L_narrowBelow_2 _ (List.mem_of_getElem? (i := 4) rfl)), fun _ h => absurd h List.not_mem_nil⟩⟩⟩⟩⟩⟩⟩⟩⟩⟩⟩⟩⟩⟩⟩⟩⟩⟩⟩⟩⟩⟩⟩⟩) w) ((List.forall_mem_cons.mpr ⟨(cl_L_narrowBelow_2 _ (List.mem_of_getElem? (i := 5) rfl)), List.forall_mem_cons.mpr ⟨(cl_L_narrowBelow_2 _ (List.mem_of_getElem? (i := 6) rfl)), List.forall_mem_cons.mpr ⟨(cl_L_narrowBelow_2 _ (List.mem_of_getElem? (i := 7) rfl)), List.forall_mem_cons.mpr ⟨(cl_L_narrowBelow_2 _ (List.mem_of_getElem? (i := 8) rfl)), fun _ h => absurd h List.not_mem_nil⟩⟩⟩⟩) w)) w) ((cl_L_narrowBelow_4) w)) w) ((cl_L_narrowBelow_5) w)) w) ((cl_L_narrowBelow_6) w)) w) ((cl_L_narrowBelow_7) w)⟩) (by decide +kernel)
set_option maxRecDepth 20000 in
theorem gL_narrowBelow_X2_narrowBelow : GoodIn wsL_narrowBelow (wsV RL 150 RX2 yX2_narrowBelow wsX2_narrowBelow) := goodIn_app (goodIn_sub (List.forall_mem_cons.mpr ⟨(cl_L_narrowBelow_1 _ (List.mem_of_getElem? (i := 1) rfl)), List.forall_mem_cons.mpr ⟨(cl_L_narrowBelow_1 _ (List.mem_of_getElem? (i := 2) rfl)), List.forall_mem_cons.mpr ⟨(cl_L_narrowBelow_1 _ (List.mem_of_getElem? (i := 3) rfl)), List.forall_mem_cons.mpr ⟨(cl_L_narrowBelow_1 _ (List.mem_of_getElem? (i := 4) rfl)), fun _ h => absurd h List.not_mem_nil⟩⟩⟩⟩) (by decide +kernel)) ggL_narrowBelow_X2_narrowBelow
noncomputable def dz_p16_38 : List (Nat × Instr × Nat) := [(0, (.aload 4, 2)), (2, (.aload_n 0, 1)), (3, (.iload_n 1, 1)), (4, (.iload_n 2, 1)), (5, (.iload_n 3, 1)), (6, (.invokevirtual 150, 3)), (9, (.ifCond .eq 7, 3)), (12, (.lconst 1, 1)), (13, (.goto 4, 3)), (16, (.lconst 0, 1)), (17, (.putfield 13, 3)), (20, (.goto 7, 3)), (23, (.astore 5, 2)), (25, (.iconst 1, 1)), (26, (.ireturn, 1)), (27, (.iconst 0, 1)), (28, (.ireturn, 1))]
theorem dy_p16_38 : dz_ok cL_narrowBelow dz_p16_38 = true := by decide +kernel
theorem dL_narrowBelow_0 : decode cL_narrowBelow 0 = .ok (.aload 4, 2) := dz_at (i := 0) dy_p16_38 rfl
theorem dL_narrowBelow_2 : decode cL_narrowBelow 2 = .ok (.aload_n 0, 1) := dz_at (i := 1) dy_p16_38 rfl
theorem dL_narrowBelow_3 : decode cL_narrowBelow 3 = .ok (.iload_n 1, 1) := dz_at (i := 2) dy_p16_38 rfl
theorem dL_narrowBelow_4 : decode cL_narrowBelow 4 = .ok (.iload_n 2, 1) := dz_at (i := 3) dy_p16_38 rfl
theorem dL_narrowBelow_5 : decode cL_narrowBelow 5 = .ok (.iload_n 3, 1) := dz_at (i := 4) dy_p16_38 rfl
theorem dL_narrowBelow_6 : decode cL_narrowBelow 6 = .ok (.invokevirtual 150, 3) := dz_at (i := 5) dy_p16_38 rfl
theorem dL_narrowBelow_9 : decode cL_narrowBelow 9 = .ok (.ifCond .eq 7, 3) := dz_at (i := 6) dy_p16_38 rfl
theorem dL_narrowBelow_12 : decode cL_narrowBelow 12 = .ok (.lconst 1, 1) := dz_at (i := 7) dy_p16_38 rfl
theorem dL_narrowBelow_13 : decode cL_narrowBelow 13 = .ok (.goto 4, 3) := dz_at (i := 8) dy_p16_38 rfl
theorem dL_narrowBelow_16 : decode cL_narrowBelow 16 = .ok (.lconst 0, 1) := dz_at (i := 9) dy_p16_38 rfl
theorem dL_narrowBelow_17 : decode cL_narrowBelow 17 = .ok (.putfield 13, 3) := dz_at (i := 10) dy_p16_38 rfl
theorem dL_narrowBelow_20 : decode cL_narrowBelow 20 = .ok (.goto 7, 3) := dz_at (i := 11) dy_p16_38 rfl
theorem dL_narrowBelow_23 : decode cL_narrowBelow 23 = .ok (.astore 5, 2) := dz_at (i := 12) dy_p16_38 rfl
theorem dL_narrowBelow_25 : decode cL_narrowBelow 25 = .ok (.iconst 1, 1) := dz_at (i := 13) dy_p16_38 rfl
theorem dL_narrowBelow_26 : decode cL_narrowBelow 26 = .ok (.ireturn, 1) := dz_at (i := 14) dy_p16_38 rfl
theorem dL_narrowBelow_27 : decode cL_narrowBelow 27 = .ok (.iconst 0, 1) := dz_at (i := 15) dy_p16_38 rfl
theorem dL_narrowBelow_28 : decode cL_narrowBelow 28 = .ok (.ireturn, 1) := dz_at (i := 16) dy_p16_38 rfl
noncomputable def o_L_narrowBelow (f2 : Nat → Int64) (nv : Int64) (p1 : Int32) (p2 : Int32) (p3 : Bool) : Int32 × Int64 :=
  if (o_X2_narrowBelow f2 p1 p2 p3).1 = 0 then (if (o_X2_narrowBelow f2 p1 p2 p3).2 = true then (0, 1)
    else (0, 0))
  else (1, nv)
set_option maxHeartbeats 4000000 in
set_option maxRecDepth 100000 in
theorem k_L_narrowBelow (l : Launch) (hfl : l.flags = flags0) (dC : Nat → ClassId) (dI : Nat → Nat → Nat) (cy : ClassId) (h0 : Nat) (h1 : Nat) (hw1 : Nat) (hc1 : Nat) (hb1 : Nat) (h2 : Nat) (hw2 : Nat) (hc2 : Nat) (hb2 : Nat) (a1 : Int32) (r1 : Int32) (f1 : Nat → Int64) (g1 : Nat → Int64) (a2 : Int32) (r2 : Int32) (f2 : Nat → Int64) (g2 : Nat → Int64) (kn : Int32) (ho : Nat) (nv : Int64) (sv : Value) (sz : Nat) (N : Nat) (p1 : Int32) (p2 : Int32) (p3 : Bool) : Met l yL_narrowBelow wsL_narrowBelow ({ frames := 9, cells := 2, slots := 12, locals := 166 }) (va_Pc [.ref h0, .int p1, .int p2, .int (b2i p3), .ref ho] (xL (dC, dI) xCl [(h0, eE h1 h2 kn), (h1, eR hw1 hc1 hb1 a1 r1), (hw1, eW true), (hc1, eA cy f1), (hb1, eA cy g1), (h2, eR hw2 hc2 hb2 a2 r2), (hw2, eW false), (hc2, eA cy f2), (hb2, eA cy g2), (ho, eO nv sv)] [(cy, .long)] sz N)) (va_Qi (fun (r : Int32) (_ : Unit) => r = (o_L_narrowBelow f2 nv p1 p2 p3).1) (fun _ t => xW (dC, dI) xCl [(h0, eE h1 h2 kn), (h1, eR hw1 hc1 hb1 a1 r1), (hw1, eW true), (hc1, eA cy f1), (hb1, eA cy g1), (h2, eR hw2 hc2 hb2 a2 r2), (hw2, eW false), (hc2, eA cy f2), (hb2, eA cy g2), (ho, eO (o_L_narrowBelow f2 nv p1 p2 p3).2 sv)] (va_A [(h0, eE h1 h2 kn), (h1, eR hw1 hc1 hb1 a1 r1), (hw1, eW true), (hc1, eA cy f1), (hb1, eA cy g1), (h2, eR hw2 hc2 hb2 a2 r2), (hw2, eW false), (hc2, eA cy f2), (hb2, eA cy g2), (ho, eO nv sv)] sz) t) (va_A [(h0, eE h1 h2 kn), (h1, eR hw1 hc1 hb1 a1 r1), (hw1, eW true), (hc1, eA cy f1), (hb1, eA cy g1), (h2, eR hw2 hc2 hb2 a2 r2), (hw2, eW false), (hc2, eA cy f2), (hb2, eA cy g2), (ho, eO nv sv)] sz)) 2 12 (va_A [(h0, eE h1 h2 kn), (h1, eR hw1 hc1 hb1 a1 r1), (hw1, eW true), (hc1, eA cy f1), (hb1, eA cy g1), (h2, eR hw2 hc2 hb2 a2 r2), (hw2, eW false), (hc2, eA cy f2), (hb2, eA cy g2), (ho, eO nv sv)] sz) := by
  refine va_MetW (cc := cL_narrowBelow) (maxL := 6) (ret := (some .int)) (by decide +kernel) rfl ?_
  intro p e s m args below meth c s₁ B hml hv
  obtain ⟨rfl, ⟨hsz, hP, hK, hD0, hN, hG⟩, hnc⟩ := hv
  have hx := B.exec
  have hb := B.bytes
  have hr := B.returns
  have hts := atoms_spec (ws := wsL_narrowBelow) B.pre
  have hown : s.vm.findClass RL = some m.cls := findClass_of_methodNamed B.named
  have hlocks := B.notSynchronized
  have htab := vx_table (x := yL_narrowBelow) B (hts _ List.mem_cons_self)
  subst hsz
  have hAN : ∀ q, va_A [(h0, eE h1 h2 kn), (h1, eR hw1 hc1 hb1 a1 r1), (hw1, eW true), (hc1, eA cy f1), (hb1, eA cy g1), (h2, eR hw2 hc2 hb2 a2 r2), (hw2, eW false), (hc2, eA cy f2), (hb2, eA cy g2), (ho, eO nv sv)] s.heap.size q → N ≤ q := xA_N hD0 hN
  have hD := hD0.self (sz := s.heap.size)
  generalize hAe : va_A [(h0, eE h1 h2 kn), (h1, eR hw1 hc1 hb1 a1 r1), (hw1, eW true), (hc1, eA cy f1), (hb1, eA cy g1), (h2, eR hw2 hc2 hb2 a2 r2), (hw2, eW false), (hc2, eA cy f2), (hb2, eA cy g2), (ho, eO nv sv)] s.heap.size = A at hD hAN ⊢
  have hA : ∀ q : Nat, s.heap.size ≤ q → A q := fun q h => by rw [← hAe]; exact Or.inr h
  have hS : va_S A s.heap s.heap [] := va_S.rf
  have hP : va_P (dC, dI) xCl [(h0, eE h1 h2 kn), (h1, eR hw1 hc1 hb1 a1 r1), (hw1, eW true), (hc1, eA cy f1), (hb1, eA cy g1), (h2, eR hw2 hc2 hb2 a2 r2), (hw2, eW false), (hc2, eA cy f2), (hb2, eA cy g2), (ho, eO nv sv)] s.heap := hP
  have hl := lv_entry ([.ref h0, .int p1, .int p2, .int (b2i p3), .ref ho]) (n := 6) (Nat.le_of_ble_eq_true rfl)
  rw [lg_entry_eq]
  generalize (lg_sl ([.ref h0, .int p1, .int p2, .int (b2i p3), .ref ho]) ++ List.replicate (6 - (lg_sl ([.ref h0, .int p1, .int p2, .int (b2i p3), .ref ho])).length) Slot.unset).toArray = ls at hl ⊢
  have hl : lv_has ls 6 [(0, .ref h0), (1, .int p1), (2, .int p2), (3, .int (b2i p3)), (4, .ref ho)] := hl
  refine lv_aload hx hb dL_narrowBelow_0 (lv_at hl 4 rfl) ?_
  refine lv_aload_n hx hb dL_narrowBelow_2 rfl (lv_at hl 0 rfl) ?_
  refine lv_iload_n hx hb dL_narrowBelow_3 rfl (lv_at hl 1 rfl) ?_
  refine lv_iload_n hx hb dL_narrowBelow_4 rfl (lv_at hl 2 rfl) ?_
  refine lv_iload_n hx hb dL_narrowBelow_5 rfl (lv_at hl 3 rfl) ?_
  have hPc := hP.sub (ws' := [(h0, eE h1 h2 kn), (h1, eR hw1 hc1 hb1 a1 r1), (hw1, eW true), (hc1, eA cy f1), (hb1, eA cy g1), (h2, eR hw2 hc2 hb2 a2 r2), (hw2, eW false), (hc2, eA cy f2), (hb2, eA cy g2)]) [0, 1, 2, 3, 4, 5, 6, 7, 8] rfl
  have hDc := hD.sub (ws' := [(h0, eE h1 h2 kn), (h1, eR hw1 hc1 hb1 a1 r1), (hw1, eW true), (hc1, eA cy f1), (hb1, eA cy g1), (h2, eR hw2 hc2 hb2 a2 r2), (hw2, eW false), (hc2, eA cy f2), (hb2, eA cy g2)]) [0, 1, 2, 3, 4, 5, 6, 7, 8] (by decide +kernel) rfl
  have hKc := hK.sub (tys' := [(cy, .long)]) [0] rfl
  refine vx_calli (vx_runV (As := [.int p1, .int p2, .int (b2i p3)]) (rest := [.ref ho]) ⟨hx, hb, hml, hown, hts⟩ (k_X2_narrowBelow l hfl dC dI cy h0 h1 hw1 hc1 hb1 h2 hw2 hc2 hb2 a1 r1 f1 g1 a2 r2 f2 g2 kn s.heap.size N p1 p2 p3) (cwV 3 hts gL_narrowBelow_X2_narrowBelow rfl rfl rfl (by decide +kernel) ⟨Nat.le_of_ble_eq_true rfl, Nat.le_of_ble_eq_true rfl⟩) (xM.preV hKc hPc hDc hAN (Nat.le_trans hN hS.1) (hG.kept hS hAN) (ci := 4) (q0 := 0) rfl rfl) rfl rfl hl.1 rfl (lv_room (Nat.le_of_ble_eq_true rfl)) dL_narrowBelow_6 ⟨Nat.le_of_ble_eq_true rfl, Nat.le_of_ble_eq_true rfl⟩) hS xA_old (fun q h => hA q (Nat.le_trans hS.1 h)) xA_old (fun E ce q9 u9 t H locs ht hvm hpx hbx hz hk hS hce hcv hcl => ?_) (fun r_1 u t H locs ht hvm hw hB hz hk hS => ?_)
  · have c_2 : ¬ (o_X2_narrowBelow f2 p1 p2 p3).1 = 0 := hpx
    have hbe := hbx
    have hP := xP_keep hP hk
    have hE : E = "java/lang/IndexOutOfBoundsException" := hbe.trans (by rw [show (o_X2_narrowBelow f2 p1 p2 p3).1 = 1 from (xr_X2_narrowBelow _ _ _ _ c_2)]; rfl)
    subst hE
    refine vx_catch (own := RL) (name := "java/lang/IndexOutOfBoundsException") hown [] ⟨0, 20, 23, 19⟩ [] htab (fun z hz => absurd hz List.not_mem_nil) (by decide +kernel) (by decide +kernel) (hts (.classLink RL 19 "java/lang/IndexOutOfBoundsException") (by decide +kernel)) (va_Nw.use rfl (hG.1 (.castable "java/lang/IndexOutOfBoundsException" "java/lang/IndexOutOfBoundsException") (List.mem_of_getElem? (i := 11) rfl))) hce hcv hcl ?_
    refine lv_astore (lv' := [(5, .ref q9), (0, .ref h0), (1, .int p1), (2, .int p2), (3, .int (b2i p3)), (4, .ref ho)]) hx hb dL_narrowBelow_23 hl (by decide +kernel) rfl (fun ls hl => ?_)
    refine lv_iconst (v := 1) hx hb dL_narrowBelow_25 (by decide +kernel) ?_
    have he : o_L_narrowBelow f2 nv p1 p2 p3 = (1, nv) := by (rw [o_L_narrowBelow, if_neg c_2]) <;> rfl
    refine W.widen (k := 2) (n := 12) (by omega) (by omega) ?_
    exact W.iret (v := 1) hx hb hr (fun t ht hW => ⟨⟨_, (), rfl, (by (rw [he]) <;> rfl), (by rw [he]; exact ⟨by rw [ht]; exact hP, hD⟩)⟩, hS.F ht⟩) hS.2.2 dL_narrowBelow_26
  · skip
    obtain ⟨c_3, hw⟩ := hw
    have c_3 : (o_X2_narrowBelow f2 p1 p2 p3).1 = 0 := c_3
    replace hw : r_1 = b2i ((o_X2_narrowBelow f2 p1 p2 p3).2) := hw
    subst r_1
    have hP := xP_keep hP hk
    refine xz_eq (tgt := 16) hx hb dL_narrowBelow_9 (by decide +kernel) (fun c_4 => ?_) (fun c_4 => ?_)
    · skip
      refine lv_lconst (v := 0) hx hb dL_narrowBelow_16 (by decide +kernel) ?_
      refine va_putN (D := (dC, dI)) (ci := 5) (v := .long 0) (ty := .long) (C := RX3) (T := TX3) (N := 2) hx hb hts (by decide +kernel) tyX3 tyX3_ok nmX3 hown hK hP hD hS 9 rfl rfl 0 (by decide +kernel) (va_Nw.use rfl (hG.1 (.fieldLinkNest RL 13 "EdgefloatsLaw$Out" "n" "J" RL) (List.mem_of_getElem? (i := 6) rfl))) (fun _ h9 => h9) rfl (by decide +kernel) rfl rfl (Nat.le_of_ble_eq_true rfl) dL_narrowBelow_17 (fun H locs hP hD hS => ?_)
      have hP : va_P (dC, dI) xCl [(h0, eE h1 h2 kn), (h1, eR hw1 hc1 hb1 a1 r1), (hw1, eW true), (hc1, eA cy f1), (hb1, eA cy g1), (h2, eR hw2 hc2 hb2 a2 r2), (hw2, eW false), (hc2, eA cy f2), (hb2, eA cy g2), (ho, eO 0 sv)] H := hP
      have hD : va_D A [(h0, eE h1 h2 kn), (h1, eR hw1 hc1 hb1 a1 r1), (hw1, eW true), (hc1, eA cy f1), (hb1, eA cy g1), (h2, eR hw2 hc2 hb2 a2 r2), (hw2, eW false), (hc2, eA cy f2), (hb2, eA cy g2), (ho, eO 0 sv)] := hD
      refine lv_goto (tgt := 27) hx hb dL_narrowBelow_20 (by decide +kernel) ?_
      refine lv_iconst (v := 0) hx hb dL_narrowBelow_27 (by decide +kernel) ?_
      have he : o_L_narrowBelow f2 nv p1 p2 p3 = (0, 0) := by (rw [o_L_narrowBelow, if_pos c_3, if_neg c_4]) <;> rfl
      refine W.widen (k := 2) (n := 12) (by omega) (by omega) ?_
      exact W.iret (v := 0) hx hb hr (fun t ht hW => ⟨⟨_, (), rfl, (by (rw [he]) <;> rfl), (by rw [he]; exact ⟨by rw [ht]; exact hP, hD⟩)⟩, hS.F ht⟩) hS.2.2 dL_narrowBelow_28
    · skip
      refine lv_lconst (v := 1) hx hb dL_narrowBelow_12 (by decide +kernel) ?_
      refine lv_goto (tgt := 17) hx hb dL_narrowBelow_13 (by decide +kernel) ?_
      refine va_putN (D := (dC, dI)) (ci := 5) (v := .long 1) (ty := .long) (C := RX3) (T := TX3) (N := 2) hx hb hts (by decide +kernel) tyX3 tyX3_ok nmX3 hown hK hP hD hS 9 rfl rfl 0 (by decide +kernel) (va_Nw.use rfl (hG.1 (.fieldLinkNest RL 13 "EdgefloatsLaw$Out" "n" "J" RL) (List.mem_of_getElem? (i := 6) rfl))) (fun _ h9 => h9) rfl (by decide +kernel) rfl rfl (Nat.le_of_ble_eq_true rfl) dL_narrowBelow_17 (fun H locs hP hD hS => ?_)
      have hP : va_P (dC, dI) xCl [(h0, eE h1 h2 kn), (h1, eR hw1 hc1 hb1 a1 r1), (hw1, eW true), (hc1, eA cy f1), (hb1, eA cy g1), (h2, eR hw2 hc2 hb2 a2 r2), (hw2, eW false), (hc2, eA cy f2), (hb2, eA cy g2), (ho, eO 1 sv)] H := hP
      have hD : va_D A [(h0, eE h1 h2 kn), (h1, eR hw1 hc1 hb1 a1 r1), (hw1, eW true), (hc1, eA cy f1), (hb1, eA cy g1), (h2, eR hw2 hc2 hb2 a2 r2), (hw2, eW false), (hc2, eA cy f2), (hb2, eA cy g2), (ho, eO 1 sv)] := hD
      refine lv_goto (tgt := 27) hx hb dL_narrowBelow_20 (by decide +kernel) ?_
      refine lv_iconst (v := 0) hx hb dL_narrowBelow_27 (by decide +kernel) ?_
      have he : o_L_narrowBelow f2 nv p1 p2 p3 = (0, 1) := by (rw [o_L_narrowBelow, if_pos c_3, if_pos c_4]) <;> rfl
      refine W.widen (k := 2) (n := 12) (by omega) (by omega) ?_
      exact W.iret (v := 0) hx hb hr (fun t ht hW => ⟨⟨_, (), rfl, (by (rw [he]) <;> rfl), (by rw [he]; exact ⟨by rw [ht]; exact hP, hD⟩)⟩, hS.F ht⟩) hS.2.2 dL_narrowBelow_28
theorem cl_L_narrowHash_1 : ∀ w ∈ wsL_narrowHash_r1, w ∈ wsL_narrowHash := fun _ h => (List.mem_cons_of_mem _ (List.mem_append_left _ (List.mem_append_left _ (List.mem_append_left _ (List.mem_append_left _ (List.mem_append_left _ (List.mem_append_left _ h)))))))
theorem cl_L_narrowHash_2 : ∀ w ∈ wsL_narrowHash_r2, w ∈ wsL_narrowHash := fun _ h => (List.mem_cons_of_mem _ (List.mem_append_left _ (List.mem_append_left _ (List.mem_append_left _ (List.mem_append_left _ (List.mem_append_left _ (List.mem_append_right _ h)))))))
theorem cl_L_narrowHash_3 : ∀ w ∈ wsX30, w ∈ wsL_narrowHash := fun _ h => (List.mem_cons_of_mem _ (List.mem_append_left _ (List.mem_append_left _ (List.mem_append_left _ (List.mem_append_left _ (List.mem_append_right _ h))))))
theorem cl_L_narrowHash_4 : ∀ w ∈ wsX20, w ∈ wsL_narrowHash := fun _ h => (List.mem_cons_of_mem _ (List.mem_append_left _ (List.mem_append_left _ (List.mem_append_left _ (List.mem_append_right _ h)))))
theorem cl_L_narrowHash_5 : ∀ w ∈ wsX00, w ∈ wsL_narrowHash := fun _ h => (List.mem_cons_of_mem _ (List.mem_append_left _ (List.mem_append_left _ (List.mem_append_right _ h))))
theorem cl_L_narrowHash_6 : ∀ w ∈ (vx_atS RX2 152 "java/lang/IndexOutOfBoundsException" ["java/lang/RuntimeException", "java/lang/Exception"]).filter goodWord, w ∈ wsL_narrowHash := fun _ h => (List.mem_cons_of_mem _ (List.mem_append_left _ (List.mem_append_right _ h)))
theorem cl_L_narrowHash_7 : ∀ w ∈ (vx_atS RX2 159 "java/lang/IllegalArgumentException" ["java/lang/RuntimeException", "java/lang/Exception"]).filter goodWord, w ∈ wsL_narrowHash := fun _ h => (List.mem_cons_of_mem _ (List.mem_append_right _ h))
set_option maxRecDepth 20000 in
theorem ggL_narrowHash_X2_narrowHash : GoodIn wsL_narrowHash wsX2_narrowHash := goodIn_sub (List.forall_mem_cons.mpr ⟨(cl_L_narrowHash_1 _ (List.mem_of_getElem? (i := 6) rfl)), fun w h => (List.mem_append.mp h).elim ((fun w h => (List.mem_append.mp h).elim ((fun w h => (List.mem_append.mp h).elim ((fun w h => (List.mem_append.mp h).elim ((List.forall_mem_cons.mpr ⟨(cl_L_narrowHash_1 _ (List.mem_of_getElem? (i := 7) rfl)), List.forall_mem_cons.mpr ⟨(cl_L_narrowHash_1 _ (List.mem_of_getElem? (i := 8) rfl)), List.forall_mem_cons.mpr ⟨(cl_L_narrowHash_1 _ (List.mem_of_getElem? (i := 9) rfl)), List.forall_mem_cons.mpr ⟨(cl_L_narrowHash_1 _ (List.mem_of_getElem? (i := 10) rfl)), List.forall_mem_cons.mpr ⟨(cl_L_narrowHash_1 _ (List.mem_of_getElem? (i := 11) rfl)), List.forall_mem_cons.mpr ⟨(cl_L_narrowHash_1 _ (List.mem_of_getElem? (i := 12) rfl)), List.forall_mem_cons.mpr ⟨(cl_L_narrowHash_1 _ (List.mem_of_getElem? (i := 13) rfl)), List.forall_mem_cons.mpr ⟨(cl_L_narrowHash_1 _ (List.mem_of_getElem? (i := 14) rfl)), List.forall_mem_cons.mpr ⟨(cl_L_narrowHash_1 _ (List.mem_of_getElem? (i := 15) rfl)), List.forall_mem_cons.mpr ⟨(cl_L_narrowHash_1 _ (List.mem_of_getElem? (i := 5) rfl)), List.forall_mem_cons.mpr ⟨(cl_L_narrowHash_1 _ (List.mem_of_getElem? (i := 16) rfl)), List.forall_mem_cons.mpr ⟨(cl_L_narrowHash_1 _ (List.mem_of_getElem? (i := 17) rfl)), List.forall_mem_cons.mpr ⟨(cl_L_narrowHash_1 _ (List.mem_of_getElem? (i := 18) rfl)), List.forall_mem_cons.mpr ⟨(cl_L_narrowHash_1 _ (List.mem_of_getElem? (i := 19) rfl)), List.forall_mem_cons.mpr ⟨(cl_L_narrowHash_1 _ (List.mem_of_getElem? (i := 20) rfl)), List.forall_mem_cons.mpr ⟨(cl_L_narrowHash_1 _ (List.mem_of_getElem? (i := 21) rfl)), List.forall_mem_cons.mpr ⟨(cl_L_narrowHash_1 _ (List.mem_of_getElem? (i := 22) rfl)), List.forall_mem_cons.mpr ⟨(cl_L_narrowHash_1 _ (List.mem_of_getElem? (i := 23) rfl)), List.forall_mem_cons.mpr ⟨(cl_L_narrowHash_2 _ (List.mem_of_getElem? (i := 0) rfl)), List.forall_mem_cons.mpr ⟨(cl_L_narrowHash_2 _ (List.mem_of_getElem? (i := 1) rfl)), List.forall_mem_cons.mpr ⟨(cl_L_narrowHash_2 _ (List.mem_of_getElem? (i := 2) rfl)), List.forall_mem_cons.mpr ⟨(cl_L_narrowHash_2 _ (List.mem_of_getElem? (i := 3) rfl)), fun _ h => absurd h List.not_mem_nil⟩⟩⟩⟩⟩⟩⟩⟩⟩⟩⟩⟩⟩⟩⟩⟩⟩⟩⟩⟩⟩⟩) w) ((cl_L_narrowHash_4) w)) w) ((cl_L_narrowHash_5) w)) w) ((cl_L_narrowHash_6) w)) w) ((cl_L_narrowHash_7) w)⟩) (by decide +kernel)
set_option maxRecDepth 20000 in
theorem gL_narrowHash_X2_narrowHash : GoodIn wsL_narrowHash (wsV RL 153 RX2 yX2_narrowHash wsX2_narrowHash) := goodIn_app (goodIn_sub (List.forall_mem_cons.mpr ⟨(cl_L_narrowHash_1 _ (List.mem_of_getElem? (i := 2) rfl)), List.forall_mem_cons.mpr ⟨(cl_L_narrowHash_1 _ (List.mem_of_getElem? (i := 3) rfl)), List.forall_mem_cons.mpr ⟨(cl_L_narrowHash_1 _ (List.mem_of_getElem? (i := 4) rfl)), List.forall_mem_cons.mpr ⟨(cl_L_narrowHash_1 _ (List.mem_of_getElem? (i := 5) rfl)), fun _ h => absurd h List.not_mem_nil⟩⟩⟩⟩) (by decide +kernel)) ggL_narrowHash_X2_narrowHash
noncomputable def dz_p16_39 : List (Nat × Instr × Nat) := [(0, (.aload_n 3, 1)), (1, (.aload_n 0, 1)), (2, (.iload_n 1, 1)), (3, (.iload_n 2, 1)), (4, (.invokevirtual 153, 3)), (7, (.i2l, 1)), (8, (.putfield 13, 3)), (11, (.goto 11, 3)), (14, (.astore 4, 2)), (16, (.iconst 1, 1)), (17, (.ireturn, 1)), (18, (.astore 4, 2)), (20, (.iconst 2, 1)), (21, (.ireturn, 1)), (22, (.iconst 0, 1)), (23, (.ireturn, 1))]
theorem dy_p16_39 : dz_ok cL_narrowHash dz_p16_39 = true := by decide +kernel
theorem dL_narrowHash_0 : decode cL_narrowHash 0 = .ok (.aload_n 3, 1) := dz_at (i := 0) dy_p16_39 rfl
theorem dL_narrowHash_1 : decode cL_narrowHash 1 = .ok (.aload_n 0, 1) := dz_at (i := 1) dy_p16_39 rfl
theorem dL_narrowHash_2 : decode cL_narrowHash 2 = .ok (.iload_n 1, 1) := dz_at (i := 2) dy_p16_39 rfl
theorem dL_narrowHash_3 : decode cL_narrowHash 3 = .ok (.iload_n 2, 1) := dz_at (i := 3) dy_p16_39 rfl
theorem dL_narrowHash_4 : decode cL_narrowHash 4 = .ok (.invokevirtual 153, 3) := dz_at (i := 4) dy_p16_39 rfl
theorem dL_narrowHash_7 : decode cL_narrowHash 7 = .ok (.i2l, 1) := dz_at (i := 5) dy_p16_39 rfl
theorem dL_narrowHash_8 : decode cL_narrowHash 8 = .ok (.putfield 13, 3) := dz_at (i := 6) dy_p16_39 rfl
theorem dL_narrowHash_11 : decode cL_narrowHash 11 = .ok (.goto 11, 3) := dz_at (i := 7) dy_p16_39 rfl
theorem dL_narrowHash_14 : decode cL_narrowHash 14 = .ok (.astore 4, 2) := dz_at (i := 8) dy_p16_39 rfl
theorem dL_narrowHash_16 : decode cL_narrowHash 16 = .ok (.iconst 1, 1) := dz_at (i := 9) dy_p16_39 rfl
theorem dL_narrowHash_17 : decode cL_narrowHash 17 = .ok (.ireturn, 1) := dz_at (i := 10) dy_p16_39 rfl
theorem dL_narrowHash_18 : decode cL_narrowHash 18 = .ok (.astore 4, 2) := dz_at (i := 11) dy_p16_39 rfl
theorem dL_narrowHash_20 : decode cL_narrowHash 20 = .ok (.iconst 2, 1) := dz_at (i := 12) dy_p16_39 rfl
theorem dL_narrowHash_21 : decode cL_narrowHash 21 = .ok (.ireturn, 1) := dz_at (i := 13) dy_p16_39 rfl
theorem dL_narrowHash_22 : decode cL_narrowHash 22 = .ok (.iconst 0, 1) := dz_at (i := 14) dy_p16_39 rfl
theorem dL_narrowHash_23 : decode cL_narrowHash 23 = .ok (.ireturn, 1) := dz_at (i := 15) dy_p16_39 rfl
noncomputable def o_L_narrowHash (f2 : Nat → Int64) (nv : Int64) (p1 : Int32) (p2 : Int32) : Int32 × Int64 :=
  if (o_X2_narrowHash f2 p1 p2).1 = 0 then (0, (((o_X2_narrowHash f2 p1 p2).2).toInt64))
  else if (o_X2_narrowHash f2 p1 p2).1 = 1 then (1, nv)
  else (2, nv)
set_option maxHeartbeats 4000000 in
set_option maxRecDepth 100000 in
theorem k_L_narrowHash (l : Launch) (hfl : l.flags = flags0) (dC : Nat → ClassId) (dI : Nat → Nat → Nat) (cy : ClassId) (h0 : Nat) (h1 : Nat) (hw1 : Nat) (hc1 : Nat) (hb1 : Nat) (h2 : Nat) (hw2 : Nat) (hc2 : Nat) (hb2 : Nat) (a1 : Int32) (r1 : Int32) (f1 : Nat → Int64) (g1 : Nat → Int64) (a2 : Int32) (r2 : Int32) (f2 : Nat → Int64) (g2 : Nat → Int64) (kn : Int32) (ho : Nat) (nv : Int64) (sv : Value) (sz : Nat) (N : Nat) (p1 : Int32) (p2 : Int32) : Met l yL_narrowHash wsL_narrowHash ({ frames := 9, cells := 2, slots := 12, locals := 165 }) (va_Pc [.ref h0, .int p1, .int p2, .ref ho] (xL (dC, dI) xCl [(h0, eE h1 h2 kn), (h1, eR hw1 hc1 hb1 a1 r1), (hw1, eW true), (hc1, eA cy f1), (hb1, eA cy g1), (h2, eR hw2 hc2 hb2 a2 r2), (hw2, eW false), (hc2, eA cy f2), (hb2, eA cy g2), (ho, eO nv sv)] [(cy, .long)] sz N)) (va_Qi (fun (r : Int32) (_ : Unit) => r = (o_L_narrowHash f2 nv p1 p2).1) (fun _ t => xW (dC, dI) xCl [(h0, eE h1 h2 kn), (h1, eR hw1 hc1 hb1 a1 r1), (hw1, eW true), (hc1, eA cy f1), (hb1, eA cy g1), (h2, eR hw2 hc2 hb2 a2 r2), (hw2, eW false), (hc2, eA cy f2), (hb2, eA cy g2), (ho, eO (o_L_narrowHash f2 nv p1 p2).2 sv)] (va_A [(h0, eE h1 h2 kn), (h1, eR hw1 hc1 hb1 a1 r1), (hw1, eW true), (hc1, eA cy f1), (hb1, eA cy g1), (h2, eR hw2 hc2 hb2 a2 r2), (hw2, eW false), (hc2, eA cy f2), (hb2, eA cy g2), (ho, eO nv sv)] sz) t) (va_A [(h0, eE h1 h2 kn), (h1, eR hw1 hc1 hb1 a1 r1), (hw1, eW true), (hc1, eA cy f1), (hb1, eA cy g1), (h2, eR hw2 hc2 hb2 a2 r2), (hw2, eW false), (hc2, eA cy f2), (hb2, eA cy g2), (ho, eO nv sv)] sz)) 2 12 (va_A [(h0, eE h1 h2 kn), (h1, eR hw1 hc1 hb1 a1 r1), (hw1, eW true), (hc1, eA cy f1), (hb1, eA cy g1), (h2, eR hw2 hc2 hb2 a2 r2), (hw2, eW false), (hc2, eA cy f2), (hb2, eA cy g2), (ho, eO nv sv)] sz) := by
  refine va_MetW (cc := cL_narrowHash) (maxL := 5) (ret := (some .int)) (by decide +kernel) rfl ?_
  intro p e s m args below meth c s₁ B hml hv
  obtain ⟨rfl, ⟨hsz, hP, hK, hD0, hN, hG⟩, hnc⟩ := hv
  have hx := B.exec
  have hb := B.bytes
  have hr := B.returns
  have hts := atoms_spec (ws := wsL_narrowHash) B.pre
  have hown : s.vm.findClass RL = some m.cls := findClass_of_methodNamed B.named
  have hlocks := B.notSynchronized
  have htab := vx_table (x := yL_narrowHash) B (hts _ List.mem_cons_self)
  subst hsz
  have hAN : ∀ q, va_A [(h0, eE h1 h2 kn), (h1, eR hw1 hc1 hb1 a1 r1), (hw1, eW true), (hc1, eA cy f1), (hb1, eA cy g1), (h2, eR hw2 hc2 hb2 a2 r2), (hw2, eW false), (hc2, eA cy f2), (hb2, eA cy g2), (ho, eO nv sv)] s.heap.size q → N ≤ q := xA_N hD0 hN
  have hD := hD0.self (sz := s.heap.size)
  generalize hAe : va_A [(h0, eE h1 h2 kn), (h1, eR hw1 hc1 hb1 a1 r1), (hw1, eW true), (hc1, eA cy f1), (hb1, eA cy g1), (h2, eR hw2 hc2 hb2 a2 r2), (hw2, eW false), (hc2, eA cy f2), (hb2, eA cy g2), (ho, eO nv sv)] s.heap.size = A at hD hAN ⊢
  have hA : ∀ q : Nat, s.heap.size ≤ q → A q := fun q h => by rw [← hAe]; exact Or.inr h
  have hS : va_S A s.heap s.heap [] := va_S.rf
  have hP : va_P (dC, dI) xCl [(h0, eE h1 h2 kn), (h1, eR hw1 hc1 hb1 a1 r1), (hw1, eW true), (hc1, eA cy f1), (hb1, eA cy g1), (h2, eR hw2 hc2 hb2 a2 r2), (hw2, eW false), (hc2, eA cy f2), (hb2, eA cy g2), (ho, eO nv sv)] s.heap := hP
  have hl := lv_entry ([.ref h0, .int p1, .int p2, .ref ho]) (n := 5) (Nat.le_of_ble_eq_true rfl)
  rw [lg_entry_eq]
  generalize (lg_sl ([.ref h0, .int p1, .int p2, .ref ho]) ++ List.replicate (5 - (lg_sl ([.ref h0, .int p1, .int p2, .ref ho])).length) Slot.unset).toArray = ls at hl ⊢
  have hl : lv_has ls 5 [(0, .ref h0), (1, .int p1), (2, .int p2), (3, .ref ho)] := hl
  refine lv_aload_n hx hb dL_narrowHash_0 rfl (lv_at hl 3 rfl) ?_
  refine lv_aload_n hx hb dL_narrowHash_1 rfl (lv_at hl 0 rfl) ?_
  refine lv_iload_n hx hb dL_narrowHash_2 rfl (lv_at hl 1 rfl) ?_
  refine lv_iload_n hx hb dL_narrowHash_3 rfl (lv_at hl 2 rfl) ?_
  have hPc := hP.sub (ws' := [(h0, eE h1 h2 kn), (h1, eR hw1 hc1 hb1 a1 r1), (hw1, eW true), (hc1, eA cy f1), (hb1, eA cy g1), (h2, eR hw2 hc2 hb2 a2 r2), (hw2, eW false), (hc2, eA cy f2), (hb2, eA cy g2)]) [0, 1, 2, 3, 4, 5, 6, 7, 8] rfl
  have hDc := hD.sub (ws' := [(h0, eE h1 h2 kn), (h1, eR hw1 hc1 hb1 a1 r1), (hw1, eW true), (hc1, eA cy f1), (hb1, eA cy g1), (h2, eR hw2 hc2 hb2 a2 r2), (hw2, eW false), (hc2, eA cy f2), (hb2, eA cy g2)]) [0, 1, 2, 3, 4, 5, 6, 7, 8] (by decide +kernel) rfl
  have hKc := hK.sub (tys' := [(cy, .long)]) [0] rfl
  refine vx_calli (vx_runV (As := [.int p1, .int p2]) (rest := [.ref ho]) ⟨hx, hb, hml, hown, hts⟩ (k_X2_narrowHash l hfl dC dI cy h0 h1 hw1 hc1 hb1 h2 hw2 hc2 hb2 a1 r1 f1 g1 a2 r2 f2 g2 kn s.heap.size N p1 p2) (cwV 2 hts gL_narrowHash_X2_narrowHash rfl rfl rfl (by decide +kernel) ⟨Nat.le_of_ble_eq_true rfl, Nat.le_of_ble_eq_true rfl⟩) (xM.preV hKc hPc hDc hAN (Nat.le_trans hN hS.1) (hG.kept hS hAN) (ci := 4) (q0 := 0) rfl rfl) rfl rfl hl.1 rfl (lv_room (Nat.le_of_ble_eq_true rfl)) dL_narrowHash_4 ⟨Nat.le_of_ble_eq_true rfl, Nat.le_of_ble_eq_true rfl⟩) hS xA_old (fun q h => hA q (Nat.le_trans hS.1 h)) xA_old (fun E ce q9 u9 t H locs ht hvm hpx hbx hz hk hS hce hcv hcl => ?_) (fun r_1 u t H locs ht hvm hw hB hz hk hS => ?_)
  · have c_2 : ¬ (o_X2_narrowHash f2 p1 p2).1 = 0 := hpx
    have hbe := hbx
    have hP := xP_keep hP hk
    by_cases c_3 : (o_X2_narrowHash f2 p1 p2).1 = 1
    · skip
      have hE : E = "java/lang/IndexOutOfBoundsException" := hbe.trans (by rw [c_3]; rfl)
      subst hE
      refine vx_catch (own := RL) (name := "java/lang/IndexOutOfBoundsException") hown [] ⟨0, 11, 14, 19⟩ [⟨0, 11, 18, 25⟩] htab (fun z hz => absurd hz List.not_mem_nil) (by decide +kernel) (by decide +kernel) (hts (.classLink RL 19 "java/lang/IndexOutOfBoundsException") (by decide +kernel)) (va_Nw.use rfl (hG.1 (.castable "java/lang/IndexOutOfBoundsException" "java/lang/IndexOutOfBoundsException") (List.mem_of_getElem? (i := 11) rfl))) hce hcv hcl ?_
      refine lv_astore (lv' := [(4, .ref q9), (0, .ref h0), (1, .int p1), (2, .int p2), (3, .ref ho)]) hx hb dL_narrowHash_14 hl (by decide +kernel) rfl (fun ls hl => ?_)
      refine lv_iconst (v := 1) hx hb dL_narrowHash_16 (by decide +kernel) ?_
      have he : o_L_narrowHash f2 nv p1 p2 = (1, nv) := by (rw [o_L_narrowHash, if_neg c_2, if_pos c_3]) <;> rfl
      refine W.widen (k := 2) (n := 12) (by omega) (by omega) ?_
      exact W.iret (v := 1) hx hb hr (fun t ht hW => ⟨⟨_, (), rfl, (by (rw [he]) <;> rfl), (by rw [he]; exact ⟨by rw [ht]; exact hP, hD⟩)⟩, hS.F ht⟩) hS.2.2 dL_narrowHash_17
    · skip
      have hE : E = "java/lang/IllegalArgumentException" := hbe.trans (if_neg c_3)
      subst hE
      refine vx_catch (own := RL) (name := "java/lang/IllegalArgumentException") hown [⟨0, 11, 14, 19⟩] ⟨0, 11, 18, 25⟩ [] htab (fun z hz => by cases List.mem_singleton.mp hz; exact Or.inr ⟨by decide, "java/lang/IndexOutOfBoundsException", hts (.classLink RL 19 "java/lang/IndexOutOfBoundsException") (by decide +kernel), hnc⟩) (by decide +kernel) (by decide +kernel) (hts (.classLink RL 25 "java/lang/IllegalArgumentException") (by decide +kernel)) (va_Nw.use rfl (hG.1 (.castable "java/lang/IllegalArgumentException" "java/lang/IllegalArgumentException") (List.mem_of_getElem? (i := 12) rfl))) hce hcv hcl ?_
      refine lv_astore (lv' := [(4, .ref q9), (0, .ref h0), (1, .int p1), (2, .int p2), (3, .ref ho)]) hx hb dL_narrowHash_18 hl (by decide +kernel) rfl (fun ls hl => ?_)
      refine lv_iconst (v := 2) hx hb dL_narrowHash_20 (by decide +kernel) ?_
      have he : o_L_narrowHash f2 nv p1 p2 = (2, nv) := by (rw [o_L_narrowHash, if_neg c_2, if_neg c_3]) <;> rfl
      refine W.widen (k := 2) (n := 12) (by omega) (by omega) ?_
      exact W.iret (v := 2) hx hb hr (fun t ht hW => ⟨⟨_, (), rfl, (by (rw [he]) <;> rfl), (by rw [he]; exact ⟨by rw [ht]; exact hP, hD⟩)⟩, hS.F ht⟩) hS.2.2 dL_narrowHash_21
  · skip
    obtain ⟨c_4, hw⟩ := hw
    have c_4 : (o_X2_narrowHash f2 p1 p2).1 = 0 := c_4
    replace hw : r_1 = (o_X2_narrowHash f2 p1 p2).2 := hw
    subst r_1
    have hP := xP_keep hP hk
    refine lv_i2l (v := (((o_X2_narrowHash f2 p1 p2).2).toInt64)) hx hb dL_narrowHash_7 rfl ?_
    refine va_putN (D := (dC, dI)) (ci := 5) (v := .long (((o_X2_narrowHash f2 p1 p2).2).toInt64)) (ty := .long) (C := RX3) (T := TX3) (N := 2) hx hb hts (by decide +kernel) tyX3 tyX3_ok nmX3 hown hK hP hD hS 9 rfl rfl 0 (by decide +kernel) (va_Nw.use rfl (hG.1 (.fieldLinkNest RL 13 "EdgefloatsLaw$Out" "n" "J" RL) (List.mem_of_getElem? (i := 6) rfl))) (fun _ h9 => h9) rfl (by decide +kernel) rfl rfl (Nat.le_of_ble_eq_true rfl) dL_narrowHash_8 (fun H locs hP hD hS => ?_)
    have hP : va_P (dC, dI) xCl [(h0, eE h1 h2 kn), (h1, eR hw1 hc1 hb1 a1 r1), (hw1, eW true), (hc1, eA cy f1), (hb1, eA cy g1), (h2, eR hw2 hc2 hb2 a2 r2), (hw2, eW false), (hc2, eA cy f2), (hb2, eA cy g2), (ho, eO (((o_X2_narrowHash f2 p1 p2).2).toInt64) sv)] H := hP
    have hD : va_D A [(h0, eE h1 h2 kn), (h1, eR hw1 hc1 hb1 a1 r1), (hw1, eW true), (hc1, eA cy f1), (hb1, eA cy g1), (h2, eR hw2 hc2 hb2 a2 r2), (hw2, eW false), (hc2, eA cy f2), (hb2, eA cy g2), (ho, eO (((o_X2_narrowHash f2 p1 p2).2).toInt64) sv)] := hD
    refine lv_goto (tgt := 22) hx hb dL_narrowHash_11 (by decide +kernel) ?_
    refine lv_iconst (v := 0) hx hb dL_narrowHash_22 (by decide +kernel) ?_
    have he : o_L_narrowHash f2 nv p1 p2 = (0, (((o_X2_narrowHash f2 p1 p2).2).toInt64)) := by (rw [o_L_narrowHash, if_pos c_4]) <;> rfl
    refine W.widen (k := 2) (n := 12) (by omega) (by omega) ?_
    exact W.iret (v := 0) hx hb hr (fun t ht hW => ⟨⟨_, (), rfl, (by (rw [he]) <;> rfl), (by rw [he]; exact ⟨by rw [ht]; exact hP, hD⟩)⟩, hS.F ht⟩) hS.2.2 dL_narrowHash_23
theorem cl_L_narrowEndless_1 : ∀ w ∈ wsL_narrowEndless_r1, w ∈ wsL_narrowEndless := fun _ h => (List.mem_cons_of_mem _ (List.mem_append_left _ (List.mem_append_left _ (List.mem_append_left _ (List.mem_append_left _ (List.mem_append_left _ (List.mem_append_left _ (List.mem_append_left _ h))))))))
theorem cl_L_narrowEndless_2 : ∀ w ∈ wsL_narrowEndless_r2, w ∈ wsL_narrowEndless := fun _ h => (List.mem_cons_of_mem _ (List.mem_append_left _ (List.mem_append_left _ (List.mem_append_left _ (List.mem_append_left _ (List.mem_append_left _ (List.mem_append_left _ (List.mem_append_right _ h))))))))
theorem cl_L_narrowEndless_3 : ∀ w ∈ wsX30, w ∈ wsL_narrowEndless := fun _ h => (List.mem_cons_of_mem _ (List.mem_append_left _ (List.mem_append_left _ (List.mem_append_left _ (List.mem_append_left _ (List.mem_append_left _ (List.mem_append_right _ h)))))))
theorem cl_L_narrowEndless_4 : ∀ w ∈ wsX20, w ∈ wsL_narrowEndless := fun _ h => (List.mem_cons_of_mem _ (List.mem_append_left _ (List.mem_append_left _ (List.mem_append_left _ (List.mem_append_left _ (List.mem_append_right _ h))))))
theorem cl_L_narrowEndless_5 : ∀ w ∈ wsX00, w ∈ wsL_narrowEndless := fun _ h => (List.mem_cons_of_mem _ (List.mem_append_left _ (List.mem_append_left _ (List.mem_append_left _ (List.mem_append_right _ h)))))
theorem cl_L_narrowEndless_6 : ∀ w ∈ wsX10, w ∈ wsL_narrowEndless := fun _ h => (List.mem_cons_of_mem _ (List.mem_append_left _ (List.mem_append_left _ (List.mem_append_right _ h))))
theorem cl_L_narrowEndless_7 : ∀ w ∈ (vx_atS RX2 152 "java/lang/IndexOutOfBoundsException" ["java/lang/RuntimeException", "java/lang/Exception"]).filter goodWord, w ∈ wsL_narrowEndless := fun _ h => (List.mem_cons_of_mem _ (List.mem_append_left _ (List.mem_append_right _ h)))
theorem cl_L_narrowEndless_8 : ∀ w ∈ (vx_atS RX2 159 "java/lang/IllegalArgumentException" ["java/lang/RuntimeException", "java/lang/Exception"]).filter goodWord, w ∈ wsL_narrowEndless := fun _ h => (List.mem_cons_of_mem _ (List.mem_append_right _ h))
set_option maxRecDepth 20000 in
theorem ggL_narrowEndless_X2_narrowEndless : GoodIn wsL_narrowEndless wsX2_narrowEndless := goodIn_sub (List.forall_mem_cons.mpr ⟨(cl_L_narrowEndless_1 _ (List.mem_of_getElem? (i := 6) rfl)), fun w h => (List.mem_append.mp h).elim ((fun w h => (List.mem_append.mp h).elim ((fun w h => (List.mem_append.mp h).elim ((fun w h => (List.mem_append.mp h).elim ((fun w h => (List.mem_append.mp h).elim ((fun w h => (List.mem_append.mp h).elim ((List.forall_mem_cons.mpr ⟨(cl_L_narrowEndless_1 _ (List.mem_of_getElem? (i := 7) rfl)), List.forall_mem_cons.mpr ⟨(cl_L_narrowEndless_1 _ (List.mem_of_getElem? (i := 8) rfl)), List.forall_mem_cons.mpr ⟨(cl_L_narrowEndless_1 _ (List.mem_of_getElem? (i := 9) rfl)), List.forall_mem_cons.mpr ⟨(cl_L_narrowEndless_1 _ (List.mem_of_getElem? (i := 10) rfl)), List.forall_mem_cons.mpr ⟨(cl_L_narrowEndless_1 _ (List.mem_of_getElem? (i := 11) rfl)), List.forall_mem_cons.mpr ⟨(cl_L_narrowEndless_1 _ (List.mem_of_getElem? (i := 12) rfl)), List.forall_mem_cons.mpr ⟨(cl_L_narrowEndless_1 _ (List.mem_of_getElem? (i := 13) rfl)), List.forall_mem_cons.mpr ⟨(cl_L_narrowEndless_1 _ (List.mem_of_getElem? (i := 14) rfl)), List.forall_mem_cons.mpr ⟨(cl_L_narrowEndless_1 _ (List.mem_of_getElem? (i := 15) rfl)), List.forall_mem_cons.mpr ⟨(cl_L_narrowEndless_1 _ (List.mem_of_getElem? (i := 5) rfl)), List.forall_mem_cons.mpr ⟨(cl_L_narrowEndless_1 _ (List.mem_of_getElem? (i := 16) rfl)), List.forall_mem_cons.mpr ⟨(cl_L_narrowEndless_1 _ (List.mem_of_getElem? (i := 17) rfl)), List.forall_mem_cons.mpr ⟨(cl_L_narrowEndless_1 _ (List.mem_of_getElem? (i := 18) rfl)), List.forall_mem_cons.mpr ⟨(cl_L_narrowEndless_1 _ (List.mem_of_getElem? (i := 19) rfl)), List.forall_mem_cons.mpr ⟨(cl_L_narrowEndless_1 _ (List.mem_of_getElem? (i := 20) rfl)), List.forall_mem_cons.mpr ⟨(cl_L_narrowEndless_1 _ (List.mem_of_getElem? (i := 21) rfl)), List.forall_mem_cons.mpr ⟨(cl_L_narrowEndless_1 _ (List.mem_of_getElem? (i := 22) rfl)), List.forall_mem_cons.mpr ⟨(cl_L_narrowEndless_1 _ (List.mem_of_getElem? (i := 23) rfl)), List.forall_mem_cons.mpr ⟨(cl_L_narrowEndless_2 _ (List.mem_of_getElem? (i := 0) rfl)), List.forall_mem_cons.mpr ⟨(cl_L_narrowEndless_2 _ (List.mem_of_getElem? (i := 1) rfl)), List.forall_mem_cons.mpr ⟨(cl_L_narrowEndless_2 _ (List.mem_of_getElem? (i := 2) rfl)), List.forall_mem_cons.mpr ⟨(cl_L_narrowEndless_2 _ (List.mem_of_getElem? (i := 3) rfl)), List.forall_mem_cons.mpr ⟨(cl_L_narrowEndless_2 _ (List.mem_of_getElem? (i := 4) rfl)), List.forall_mem_cons.mpr ⟨(cl_L_narrowEndless_2 _ (List.mem_of_getElem? (i := 5) rfl)), fun _ h => absurd h List.not_mem_nil⟩⟩⟩⟩⟩⟩⟩⟩⟩⟩⟩⟩⟩⟩⟩⟩⟩⟩⟩⟩⟩⟩⟩⟩) w) ((List.forall_mem_cons.mpr ⟨(cl_L_narrowEndless_2 _ (List.mem_of_getElem? (i := 6) rfl)), List.forall_mem_cons.mpr ⟨(cl_L_narrowEndless_2 _ (List.mem_of_getElem? (i := 7) rfl)), List.forall_mem_cons.mpr ⟨(cl_L_narrowEndless_2 _ (List.mem_of_getElem? (i := 8) rfl)), List.forall_mem_cons.mpr ⟨(cl_L_narrowEndless_2 _ (List.mem_of_getElem? (i := 9) rfl)), List.forall_mem_cons.mpr ⟨(cl_L_narrowEndless_2 _ (List.mem_of_getElem? (i := 10) rfl)), List.forall_mem_cons.mpr ⟨(cl_L_narrowEndless_2 _ (List.mem_of_getElem? (i := 11) rfl)), List.forall_mem_cons.mpr ⟨(cl_L_narrowEndless_2 _ (List.mem_of_getElem? (i := 12) rfl)), List.forall_mem_cons.mpr ⟨(cl_L_narrowEndless_2 _ (List.mem_of_getElem? (i := 13) rfl)), List.forall_mem_cons.mpr ⟨(cl_L_narrowEndless_2 _ (List.mem_of_getElem? (i := 14) rfl)), fun _ h => absurd h List.not_mem_nil⟩⟩⟩⟩⟩⟩⟩⟩⟩) w)) w) ((cl_L_narrowEndless_4) w)) w) ((cl_L_narrowEndless_5) w)) w) ((cl_L_narrowEndless_6) w)) w) ((cl_L_narrowEndless_7) w)) w) ((cl_L_narrowEndless_8) w)⟩) (by decide +kernel)
set_option maxRecDepth 20000 in
theorem gL_narrowEndless_X2_narrowEndless : GoodIn wsL_narrowEndless (wsV RL 156 RX2 yX2_narrowEndless wsX2_narrowEndless) := goodIn_app (goodIn_sub (List.forall_mem_cons.mpr ⟨(cl_L_narrowEndless_1 _ (List.mem_of_getElem? (i := 2) rfl)), List.forall_mem_cons.mpr ⟨(cl_L_narrowEndless_1 _ (List.mem_of_getElem? (i := 3) rfl)), List.forall_mem_cons.mpr ⟨(cl_L_narrowEndless_1 _ (List.mem_of_getElem? (i := 4) rfl)), List.forall_mem_cons.mpr ⟨(cl_L_narrowEndless_1 _ (List.mem_of_getElem? (i := 5) rfl)), fun _ h => absurd h List.not_mem_nil⟩⟩⟩⟩) (by decide +kernel)) ggL_narrowEndless_X2_narrowEndless
noncomputable def dz_p16_40 : List (Nat × Instr × Nat) := [(0, (.aload_n 3, 1)), (1, (.aload_n 0, 1)), (2, (.iload_n 1, 1)), (3, (.iload_n 2, 1)), (4, (.invokevirtual 156, 3)), (7, (.ifCond .eq 7, 3)), (10, (.lconst 1, 1)), (11, (.goto 4, 3)), (14, (.lconst 0, 1)), (15, (.putfield 13, 3)), (18, (.goto 11, 3)), (21, (.astore 4, 2)), (23, (.iconst 1, 1)), (24, (.ireturn, 1)), (25, (.astore 4, 2)), (27, (.iconst 2, 1)), (28, (.ireturn, 1)), (29, (.iconst 0, 1)), (30, (.ireturn, 1))]
theorem dy_p16_40 : dz_ok cL_narrowEndless dz_p16_40 = true := by decide +kernel
theorem dL_narrowEndless_0 : decode cL_narrowEndless 0 = .ok (.aload_n 3, 1) := dz_at (i := 0) dy_p16_40 rfl
theorem dL_narrowEndless_1 : decode cL_narrowEndless 1 = .ok (.aload_n 0, 1) := dz_at (i := 1) dy_p16_40 rfl
theorem dL_narrowEndless_2 : decode cL_narrowEndless 2 = .ok (.iload_n 1, 1) := dz_at (i := 2) dy_p16_40 rfl
theorem dL_narrowEndless_3 : decode cL_narrowEndless 3 = .ok (.iload_n 2, 1) := dz_at (i := 3) dy_p16_40 rfl
theorem dL_narrowEndless_4 : decode cL_narrowEndless 4 = .ok (.invokevirtual 156, 3) := dz_at (i := 4) dy_p16_40 rfl
theorem dL_narrowEndless_7 : decode cL_narrowEndless 7 = .ok (.ifCond .eq 7, 3) := dz_at (i := 5) dy_p16_40 rfl
theorem dL_narrowEndless_10 : decode cL_narrowEndless 10 = .ok (.lconst 1, 1) := dz_at (i := 6) dy_p16_40 rfl
theorem dL_narrowEndless_11 : decode cL_narrowEndless 11 = .ok (.goto 4, 3) := dz_at (i := 7) dy_p16_40 rfl
theorem dL_narrowEndless_14 : decode cL_narrowEndless 14 = .ok (.lconst 0, 1) := dz_at (i := 8) dy_p16_40 rfl
theorem dL_narrowEndless_15 : decode cL_narrowEndless 15 = .ok (.putfield 13, 3) := dz_at (i := 9) dy_p16_40 rfl
theorem dL_narrowEndless_18 : decode cL_narrowEndless 18 = .ok (.goto 11, 3) := dz_at (i := 10) dy_p16_40 rfl
theorem dL_narrowEndless_21 : decode cL_narrowEndless 21 = .ok (.astore 4, 2) := dz_at (i := 11) dy_p16_40 rfl
theorem dL_narrowEndless_23 : decode cL_narrowEndless 23 = .ok (.iconst 1, 1) := dz_at (i := 12) dy_p16_40 rfl
theorem dL_narrowEndless_24 : decode cL_narrowEndless 24 = .ok (.ireturn, 1) := dz_at (i := 13) dy_p16_40 rfl
theorem dL_narrowEndless_25 : decode cL_narrowEndless 25 = .ok (.astore 4, 2) := dz_at (i := 14) dy_p16_40 rfl
theorem dL_narrowEndless_27 : decode cL_narrowEndless 27 = .ok (.iconst 2, 1) := dz_at (i := 15) dy_p16_40 rfl
theorem dL_narrowEndless_28 : decode cL_narrowEndless 28 = .ok (.ireturn, 1) := dz_at (i := 16) dy_p16_40 rfl
theorem dL_narrowEndless_29 : decode cL_narrowEndless 29 = .ok (.iconst 0, 1) := dz_at (i := 17) dy_p16_40 rfl
theorem dL_narrowEndless_30 : decode cL_narrowEndless 30 = .ok (.ireturn, 1) := dz_at (i := 18) dy_p16_40 rfl
noncomputable def o_L_narrowEndless (f2 : Nat → Int64) (nv : Int64) (p1 : Int32) (p2 : Int32) : Int32 × Int64 :=
  if (o_X2_narrowEndless f2 p1 p2).1 = 0 then (if (o_X2_narrowEndless f2 p1 p2).2 = true then (0, 1)
    else (0, 0))
  else if (o_X2_narrowEndless f2 p1 p2).1 = 1 then (1, nv)
  else (2, nv)
set_option maxHeartbeats 4000000 in
set_option maxRecDepth 100000 in
theorem k_L_narrowEndless (l : Launch) (hfl : l.flags = flags0) (dC : Nat → ClassId) (dI : Nat → Nat → Nat) (cy : ClassId) (h0 : Nat) (h1 : Nat) (hw1 : Nat) (hc1 : Nat) (hb1 : Nat) (h2 : Nat) (hw2 : Nat) (hc2 : Nat) (hb2 : Nat) (a1 : Int32) (r1 : Int32) (f1 : Nat → Int64) (g1 : Nat → Int64) (a2 : Int32) (r2 : Int32) (f2 : Nat → Int64) (g2 : Nat → Int64) (kn : Int32) (ho : Nat) (nv : Int64) (sv : Value) (sz : Nat) (N : Nat) (p1 : Int32) (p2 : Int32) : Met l yL_narrowEndless wsL_narrowEndless ({ frames := 9, cells := 2, slots := 12, locals := 165 }) (va_Pc [.ref h0, .int p1, .int p2, .ref ho] (xL (dC, dI) xCl [(h0, eE h1 h2 kn), (h1, eR hw1 hc1 hb1 a1 r1), (hw1, eW true), (hc1, eA cy f1), (hb1, eA cy g1), (h2, eR hw2 hc2 hb2 a2 r2), (hw2, eW false), (hc2, eA cy f2), (hb2, eA cy g2), (ho, eO nv sv)] [(cy, .long)] sz N)) (va_Qi (fun (r : Int32) (_ : Unit) => r = (o_L_narrowEndless f2 nv p1 p2).1) (fun _ t => xW (dC, dI) xCl [(h0, eE h1 h2 kn), (h1, eR hw1 hc1 hb1 a1 r1), (hw1, eW true), (hc1, eA cy f1), (hb1, eA cy g1), (h2, eR hw2 hc2 hb2 a2 r2), (hw2, eW false), (hc2, eA cy f2), (hb2, eA cy g2), (ho, eO (o_L_narrowEndless f2 nv p1 p2).2 sv)] (va_A [(h0, eE h1 h2 kn), (h1, eR hw1 hc1 hb1 a1 r1), (hw1, eW true), (hc1, eA cy f1), (hb1, eA cy g1), (h2, eR hw2 hc2 hb2 a2 r2), (hw2, eW false), (hc2, eA cy f2), (hb2, eA cy g2), (ho, eO nv sv)] sz) t) (va_A [(h0, eE h1 h2 kn), (h1, eR hw1 hc1 hb1 a1 r1), (hw1, eW true), (hc1, eA cy f1), (hb1, eA cy g1), (h2, eR hw2 hc2 hb2 a2 r2), (hw2, eW false), (hc2, eA cy f2), (hb2, eA cy g2), (ho, eO nv sv)] sz)) 2 12 (va_A [(h0, eE h1 h2 kn), (h1, eR hw1 hc1 hb1 a1 r1), (hw1, eW true), (hc1, eA cy f1), (hb1, eA cy g1), (h2, eR hw2 hc2 hb2 a2 r2), (hw2, eW false), (hc2, eA cy f2), (hb2, eA cy g2), (ho, eO nv sv)] sz) := by
  refine va_MetW (cc := cL_narrowEndless) (maxL := 5) (ret := (some .int)) (by decide +kernel) rfl ?_
  intro p e s m args below meth c s₁ B hml hv
  obtain ⟨rfl, ⟨hsz, hP, hK, hD0, hN, hG⟩, hnc⟩ := hv
  have hx := B.exec
  have hb := B.bytes
  have hr := B.returns
  have hts := atoms_spec (ws := wsL_narrowEndless) B.pre
  have hown : s.vm.findClass RL = some m.cls := findClass_of_methodNamed B.named
  have hlocks := B.notSynchronized
  have htab := vx_table (x := yL_narrowEndless) B (hts _ List.mem_cons_self)
  subst hsz
  have hAN : ∀ q, va_A [(h0, eE h1 h2 kn), (h1, eR hw1 hc1 hb1 a1 r1), (hw1, eW true), (hc1, eA cy f1), (hb1, eA cy g1), (h2, eR hw2 hc2 hb2 a2 r2), (hw2, eW false), (hc2, eA cy f2), (hb2, eA cy g2), (ho, eO nv sv)] s.heap.size q → N ≤ q := xA_N hD0 hN
  have hD := hD0.self (sz := s.heap.size)
  generalize hAe : va_A [(h0, eE h1 h2 kn), (h1, eR hw1 hc1 hb1 a1 r1), (hw1, eW true), (hc1, eA cy f1), (hb1, eA cy g1), (h2, eR hw2 hc2 hb2 a2 r2), (hw2, eW false), (hc2, eA cy f2), (hb2, eA cy g2), (ho, eO nv sv)] s.heap.size = A at hD hAN ⊢
  have hA : ∀ q : Nat, s.heap.size ≤ q → A q := fun q h => by rw [← hAe]; exact Or.inr h
  have hS : va_S A s.heap s.heap [] := va_S.rf
  have hP : va_P (dC, dI) xCl [(h0, eE h1 h2 kn), (h1, eR hw1 hc1 hb1 a1 r1), (hw1, eW true), (hc1, eA cy f1), (hb1, eA cy g1), (h2, eR hw2 hc2 hb2 a2 r2), (hw2, eW false), (hc2, eA cy f2), (hb2, eA cy g2), (ho, eO nv sv)] s.heap := hP
  have hl := lv_entry ([.ref h0, .int p1, .int p2, .ref ho]) (n := 5) (Nat.le_of_ble_eq_true rfl)
  rw [lg_entry_eq]
  generalize (lg_sl ([.ref h0, .int p1, .int p2, .ref ho]) ++ List.replicate (5 - (lg_sl ([.ref h0, .int p1, .int p2, .ref ho])).length) Slot.unset).toArray = ls at hl ⊢
  have hl : lv_has ls 5 [(0, .ref h0), (1, .int p1), (2, .int p2), (3, .ref ho)] := hl
  refine lv_aload_n hx hb dL_narrowEndless_0 rfl (lv_at hl 3 rfl) ?_
  refine lv_aload_n hx hb dL_narrowEndless_1 rfl (lv_at hl 0 rfl) ?_
  refine lv_iload_n hx hb dL_narrowEndless_2 rfl (lv_at hl 1 rfl) ?_
  refine lv_iload_n hx hb dL_narrowEndless_3 rfl (lv_at hl 2 rfl) ?_
  have hPc := hP.sub (ws' := [(h0, eE h1 h2 kn), (h1, eR hw1 hc1 hb1 a1 r1), (hw1, eW true), (hc1, eA cy f1), (hb1, eA cy g1), (h2, eR hw2 hc2 hb2 a2 r2), (hw2, eW false), (hc2, eA cy f2), (hb2, eA cy g2)]) [0, 1, 2, 3, 4, 5, 6, 7, 8] rfl
  have hDc := hD.sub (ws' := [(h0, eE h1 h2 kn), (h1, eR hw1 hc1 hb1 a1 r1), (hw1, eW true), (hc1, eA cy f1), (hb1, eA cy g1), (h2, eR hw2 hc2 hb2 a2 r2), (hw2, eW false), (hc2, eA cy f2), (hb2, eA cy g2)]) [0, 1, 2, 3, 4, 5, 6, 7, 8] (by decide +kernel) rfl
  have hKc := hK.sub (tys' := [(cy, .long)]) [0] rfl
  refine vx_calli (vx_runV (As := [.int p1, .int p2]) (rest := [.ref ho]) ⟨hx, hb, hml, hown, hts⟩ (k_X2_narrowEndless l hfl dC dI cy h0 h1 hw1 hc1 hb1 h2 hw2 hc2 hb2 a1 r1 f1 g1 a2 r2 f2 g2 kn s.heap.size N p1 p2) (cwV 2 hts gL_narrowEndless_X2_narrowEndless rfl rfl rfl (by decide +kernel) ⟨Nat.le_of_ble_eq_true rfl, Nat.le_of_ble_eq_true rfl⟩) (xM.preV hKc hPc hDc hAN (Nat.le_trans hN hS.1) (hG.kept hS hAN) (ci := 4) (q0 := 0) rfl rfl) rfl rfl hl.1 rfl (lv_room (Nat.le_of_ble_eq_true rfl)) dL_narrowEndless_4 ⟨Nat.le_of_ble_eq_true rfl, Nat.le_of_ble_eq_true rfl⟩) hS xA_old (fun q h => hA q (Nat.le_trans hS.1 h)) xA_old (fun E ce q9 u9 t H locs ht hvm hpx hbx hz hk hS hce hcv hcl => ?_) (fun r_1 u t H locs ht hvm hw hB hz hk hS => ?_)
  · have c_2 : ¬ (o_X2_narrowEndless f2 p1 p2).1 = 0 := hpx
    have hbe := hbx
    have hP := xP_keep hP hk
    by_cases c_3 : (o_X2_narrowEndless f2 p1 p2).1 = 1
    · skip
      have hE : E = "java/lang/IndexOutOfBoundsException" := hbe.trans (by rw [c_3]; rfl)
      subst hE
      refine vx_catch (own := RL) (name := "java/lang/IndexOutOfBoundsException") hown [] ⟨0, 18, 21, 19⟩ [⟨0, 18, 25, 25⟩] htab (fun z hz => absurd hz List.not_mem_nil) (by decide +kernel) (by decide +kernel) (hts (.classLink RL 19 "java/lang/IndexOutOfBoundsException") (by decide +kernel)) (va_Nw.use rfl (hG.1 (.castable "java/lang/IndexOutOfBoundsException" "java/lang/IndexOutOfBoundsException") (List.mem_of_getElem? (i := 11) rfl))) hce hcv hcl ?_
      refine lv_astore (lv' := [(4, .ref q9), (0, .ref h0), (1, .int p1), (2, .int p2), (3, .ref ho)]) hx hb dL_narrowEndless_21 hl (by decide +kernel) rfl (fun ls hl => ?_)
      refine lv_iconst (v := 1) hx hb dL_narrowEndless_23 (by decide +kernel) ?_
      have he : o_L_narrowEndless f2 nv p1 p2 = (1, nv) := by (rw [o_L_narrowEndless, if_neg c_2, if_pos c_3]) <;> rfl
      refine W.widen (k := 2) (n := 12) (by omega) (by omega) ?_
      exact W.iret (v := 1) hx hb hr (fun t ht hW => ⟨⟨_, (), rfl, (by (rw [he]) <;> rfl), (by rw [he]; exact ⟨by rw [ht]; exact hP, hD⟩)⟩, hS.F ht⟩) hS.2.2 dL_narrowEndless_24
    · skip
      have hE : E = "java/lang/IllegalArgumentException" := hbe.trans (if_neg c_3)
      subst hE
      refine vx_catch (own := RL) (name := "java/lang/IllegalArgumentException") hown [⟨0, 18, 21, 19⟩] ⟨0, 18, 25, 25⟩ [] htab (fun z hz => by cases List.mem_singleton.mp hz; exact Or.inr ⟨by decide, "java/lang/IndexOutOfBoundsException", hts (.classLink RL 19 "java/lang/IndexOutOfBoundsException") (by decide +kernel), hnc⟩) (by decide +kernel) (by decide +kernel) (hts (.classLink RL 25 "java/lang/IllegalArgumentException") (by decide +kernel)) (va_Nw.use rfl (hG.1 (.castable "java/lang/IllegalArgumentException" "java/lang/IllegalArgumentException") (List.mem_of_getElem? (i := 12) rfl))) hce hcv hcl ?_
      refine lv_astore (lv' := [(4, .ref q9), (0, .ref h0), (1, .int p1), (2, .int p2), (3, .ref ho)]) hx hb dL_narrowEndless_25 hl (by decide +kernel) rfl (fun ls hl => ?_)
      refine lv_iconst (v := 2) hx hb dL_narrowEndless_27 (by decide +kernel) ?_
      have he : o_L_narrowEndless f2 nv p1 p2 = (2, nv) := by (rw [o_L_narrowEndless, if_neg c_2, if_neg c_3]) <;> rfl
      refine W.widen (k := 2) (n := 12) (by omega) (by omega) ?_
      exact W.iret (v := 2) hx hb hr (fun t ht hW => ⟨⟨_, (), rfl, (by (rw [he]) <;> rfl), (by rw [he]; exact ⟨by rw [ht]; exact hP, hD⟩)⟩, hS.F ht⟩) hS.2.2 dL_narrowEndless_28
  · skip
    obtain ⟨c_4, hw⟩ := hw
    have c_4 : (o_X2_narrowEndless f2 p1 p2).1 = 0 := c_4
    replace hw : r_1 = b2i ((o_X2_narrowEndless f2 p1 p2).2) := hw
    subst r_1
    have hP := xP_keep hP hk
    refine xz_eq (tgt := 14) hx hb dL_narrowEndless_7 (by decide +kernel) (fun c_5 => ?_) (fun c_5 => ?_)
    · skip
      refine lv_lconst (v := 0) hx hb dL_narrowEndless_14 (by decide +kernel) ?_
      refine va_putN (D := (dC, dI)) (ci := 5) (v := .long 0) (ty := .long) (C := RX3) (T := TX3) (N := 2) hx hb hts (by decide +kernel) tyX3 tyX3_ok nmX3 hown hK hP hD hS 9 rfl rfl 0 (by decide +kernel) (va_Nw.use rfl (hG.1 (.fieldLinkNest RL 13 "EdgefloatsLaw$Out" "n" "J" RL) (List.mem_of_getElem? (i := 6) rfl))) (fun _ h9 => h9) rfl (by decide +kernel) rfl rfl (Nat.le_of_ble_eq_true rfl) dL_narrowEndless_15 (fun H locs hP hD hS => ?_)
      have hP : va_P (dC, dI) xCl [(h0, eE h1 h2 kn), (h1, eR hw1 hc1 hb1 a1 r1), (hw1, eW true), (hc1, eA cy f1), (hb1, eA cy g1), (h2, eR hw2 hc2 hb2 a2 r2), (hw2, eW false), (hc2, eA cy f2), (hb2, eA cy g2), (ho, eO 0 sv)] H := hP
      have hD : va_D A [(h0, eE h1 h2 kn), (h1, eR hw1 hc1 hb1 a1 r1), (hw1, eW true), (hc1, eA cy f1), (hb1, eA cy g1), (h2, eR hw2 hc2 hb2 a2 r2), (hw2, eW false), (hc2, eA cy f2), (hb2, eA cy g2), (ho, eO 0 sv)] := hD
      refine lv_goto (tgt := 29) hx hb dL_narrowEndless_18 (by decide +kernel) ?_
      refine lv_iconst (v := 0) hx hb dL_narrowEndless_29 (by decide +kernel) ?_
      have he : o_L_narrowEndless f2 nv p1 p2 = (0, 0) := by (rw [o_L_narrowEndless, if_pos c_4, if_neg c_5]) <;> rfl
      refine W.widen (k := 2) (n := 12) (by omega) (by omega) ?_
      exact W.iret (v := 0) hx hb hr (fun t ht hW => ⟨⟨_, (), rfl, (by (rw [he]) <;> rfl), (by rw [he]; exact ⟨by rw [ht]; exact hP, hD⟩)⟩, hS.F ht⟩) hS.2.2 dL_narrowEndless_30
    · skip
      refine lv_lconst (v := 1) hx hb dL_narrowEndless_10 (by decide +kernel) ?_
      refine lv_goto (tgt := 15) hx hb dL_narrowEndless_11 (by decide +kernel) ?_
      refine va_putN (D := (dC, dI)) (ci := 5) (v := .long 1) (ty := .long) (C := RX3) (T := TX3) (N := 2) hx hb hts (by decide +kernel) tyX3 tyX3_ok nmX3 hown hK hP hD hS 9 rfl rfl 0 (by decide +kernel) (va_Nw.use rfl (hG.1 (.fieldLinkNest RL 13 "EdgefloatsLaw$Out" "n" "J" RL) (List.mem_of_getElem? (i := 6) rfl))) (fun _ h9 => h9) rfl (by decide +kernel) rfl rfl (Nat.le_of_ble_eq_true rfl) dL_narrowEndless_15 (fun H locs hP hD hS => ?_)
      have hP : va_P (dC, dI) xCl [(h0, eE h1 h2 kn), (h1, eR hw1 hc1 hb1 a1 r1), (hw1, eW true), (hc1, eA cy f1), (hb1, eA cy g1), (h2, eR hw2 hc2 hb2 a2 r2), (hw2, eW false), (hc2, eA cy f2), (hb2, eA cy g2), (ho, eO 1 sv)] H := hP
      have hD : va_D A [(h0, eE h1 h2 kn), (h1, eR hw1 hc1 hb1 a1 r1), (hw1, eW true), (hc1, eA cy f1), (hb1, eA cy g1), (h2, eR hw2 hc2 hb2 a2 r2), (hw2, eW false), (hc2, eA cy f2), (hb2, eA cy g2), (ho, eO 1 sv)] := hD
      refine lv_goto (tgt := 29) hx hb dL_narrowEndless_18 (by decide +kernel) ?_
      refine lv_iconst (v := 0) hx hb dL_narrowEndless_29 (by decide +kernel) ?_
      have he : o_L_narrowEndless f2 nv p1 p2 = (0, 1) := by (rw [o_L_narrowEndless, if_pos c_4, if_pos c_5]) <;> rfl
      refine W.widen (k := 2) (n := 12) (by omega) (by omega) ?_
      exact W.iret (v := 0) hx hb hr (fun t ht hW => ⟨⟨_, (), rfl, (by (rw [he]) <;> rfl), (by rw [he]; exact ⟨by rw [ht]; exact hP, hD⟩)⟩, hS.F ht⟩) hS.2.2 dL_narrowEndless_30
theorem cl_L_narrowCount_1 : ∀ w ∈ wsL_narrowCount_r1, w ∈ wsL_narrowCount := fun _ h => (List.mem_cons_of_mem _ (List.mem_append_left _ (List.mem_append_left _ (List.mem_append_left _ (List.mem_append_left _ (List.mem_append_left _ (List.mem_append_left _ h)))))))
theorem cl_L_narrowCount_2 : ∀ w ∈ wsL_narrowCount_r2, w ∈ wsL_narrowCount := fun _ h => (List.mem_cons_of_mem _ (List.mem_append_left _ (List.mem_append_left _ (List.mem_append_left _ (List.mem_append_left _ (List.mem_append_left _ (List.mem_append_right _ (List.mem_append_left _ h))))))))
theorem cl_L_narrowCount_3 : ∀ w ∈ wsL_narrowCount_r3, w ∈ wsL_narrowCount := fun _ h => (List.mem_cons_of_mem _ (List.mem_append_left _ (List.mem_append_left _ (List.mem_append_left _ (List.mem_append_left _ (List.mem_append_left _ (List.mem_append_right _ (List.mem_append_right _ h))))))))
theorem cl_L_narrowCount_4 : ∀ w ∈ wsX30, w ∈ wsL_narrowCount := fun _ h => (List.mem_cons_of_mem _ (List.mem_append_left _ (List.mem_append_left _ (List.mem_append_left _ (List.mem_append_left _ (List.mem_append_right _ h))))))
theorem cl_L_narrowCount_5 : ∀ w ∈ wsX20, w ∈ wsL_narrowCount := fun _ h => (List.mem_cons_of_mem _ (List.mem_append_left _ (List.mem_append_left _ (List.mem_append_left _ (List.mem_append_right _ h)))))
theorem cl_L_narrowCount_6 : ∀ w ∈ wsX00, w ∈ wsL_narrowCount := fun _ h => (List.mem_cons_of_mem _ (List.mem_append_left _ (List.mem_append_left _ (List.mem_append_right _ h))))
theorem cl_L_narrowCount_7 : ∀ w ∈ wsX10, w ∈ wsL_narrowCount := fun _ h => (List.mem_cons_of_mem _ (List.mem_append_left _ (List.mem_append_right _ h)))
theorem cl_L_narrowCount_8 : ∀ w ∈ (vx_atS RX2 152 "java/lang/IndexOutOfBoundsException" ["java/lang/RuntimeException", "java/lang/Exception"]).filter goodWord, w ∈ wsL_narrowCount := fun _ h => (List.mem_cons_of_mem _ (List.mem_append_right _ h))
set_option maxRecDepth 20000 in
theorem ggL_narrowCount_X2_narrowCount : GoodIn wsL_narrowCount wsX2_narrowCount := goodIn_sub (List.forall_mem_cons.mpr ⟨(cl_L_narrowCount_1 _ (List.mem_of_getElem? (i := 5) rfl)), fun w h => (List.mem_append.mp h).elim ((fun w h => (List.mem_append.mp h).elim ((fun w h => (List.mem_append.mp h).elim ((fun w h => (List.mem_append.mp h).elim ((fun w h => (List.mem_append.mp h).elim ((List.forall_mem_cons.mpr ⟨(cl_L_narrowCount_1 _ (List.mem_of_getElem? (i := 6) rfl)), List.forall_mem_cons.mpr ⟨(cl_L_narrowCount_1 _ (List.mem_of_getElem? (i := 7) rfl)), List.forall_mem_cons.mpr ⟨(cl_L_narrowCount_1 _ (List.mem_of_getElem? (i := 8) rfl)), List.forall_mem_cons.mpr ⟨(cl_L_narrowCount_1 _ (List.mem_of_getElem? (i := 9) rfl)), List.forall_mem_cons.mpr ⟨(cl_L_narrowCount_1 _ (List.mem_of_getElem? (i := 10) rfl)), List.forall_mem_cons.mpr ⟨(cl_L_narrowCount_1 _ (List.mem_of_getElem? (i := 11) rfl)), List.forall_mem_cons.mpr ⟨(cl_L_narrowCount_1 _ (List.mem_of_getElem? (i := 12) rfl)), List.forall_mem_cons.mpr ⟨(cl_L_narrowCount_1 _ (List.mem_of_getElem? (i := 13) rfl)), List.forall_mem_cons.mpr ⟨(cl_L_narrowCount_1 _ (List.mem_of_getElem? (i := 14) rfl)), List.forall_mem_cons.mpr ⟨(cl_L_narrowCount_1 _ (List.mem_of_getElem? (i := 4) rfl)), List.forall_mem_cons.mpr ⟨(cl_L_narrowCount_1 _ (List.mem_of_getElem? (i := 15) rfl)), List.forall_mem_cons.mpr ⟨(cl_L_narrowCount_1 _ (List.mem_of_getElem? (i := 16) rfl)), List.forall_mem_cons.mpr ⟨(cl_L_narrowCount_1 _ (List.mem_of_getElem? (i := 17) rfl)), List.forall_mem_cons.mpr ⟨(cl_L_narrowCount_1 _ (List.mem_of_getElem? (i := 18) rfl)), List.forall_mem_cons.mpr ⟨(cl_L_narrowCount_1 _ (List.mem_of_getElem? (i := 19) rfl)), List.forall_mem_cons.mpr ⟨(cl_L_narrowCount_1 _ (List.mem_of_getElem? (i := 20) rfl)), List.forall_mem_cons.mpr ⟨(cl_L_narrowCount_1 _ (List.mem_of_getElem? (i := 21) rfl)), List.forall_mem_cons.mpr ⟨(cl_L_narrowCount_1 _ (List.mem_of_getElem? (i := 22) rfl)), List.forall_mem_cons.mpr ⟨(cl_L_narrowCount_1 _ (List.mem_of_getElem? (i := 23) rfl)), List.forall_mem_cons.mpr ⟨(cl_L_narrowCount_2 _ (List.mem_of_getElem? (i := 0) rfl)), List.forall_mem_cons.mpr ⟨(cl_L_narrowCount_2 _ (List.mem_of_getElem? (i := 1) rfl)), List.forall_mem_cons.mpr ⟨(cl_L_narrowCount_2 _ (List.mem_of_getElem? (i := 2) rfl)), List.forall_mem_cons.mpr ⟨(cl_L_narrowCount_2 _ (List.mem_of_getElem? (i := 3) rfl)), List.forall_mem_cons.mpr ⟨(cl_L_narrowCount_2 _ (List.mem_of_getElem? (i := 4) rfl)), fun _ h => absurd h List.not_mem_nil⟩⟩⟩⟩⟩⟩⟩⟩⟩⟩⟩⟩⟩⟩⟩⟩⟩⟩⟩⟩⟩⟩⟩⟩) w) ((List.forall_mem_cons.mpr ⟨(cl_L_narrowCount_2 _ (List.mem_of_getElem? (i := 5) rfl)), List.forall_mem_cons.mpr ⟨(cl_L_narrowCount_2 _ (List.mem_of_getElem? (i := 6) rfl)), List.forall_mem_cons.mpr ⟨(cl_L_narrowCount_2 _ (List.mem_of_getElem? (i := 7) rfl)), List.forall_mem_cons.mpr ⟨(cl_L_narrowCount_2 _ (List.mem_of_getElem? (i := 8) rfl)), List.forall_mem_cons.mpr ⟨(cl_L_narrowCount_2 _ (List.mem_of_getElem? (i := 9) rfl)), List.forall_mem_cons.mpr ⟨(cl_L_narrowCount_2 _ (List.mem_of_getElem? (i := 10) rfl)), List.forall_mem_cons.mpr ⟨(cl_L_narrowCount_2 _ (List.mem_of_getElem? (i := 11) rfl)), List.forall_mem_cons.mpr ⟨(cl_L_narrowCount_2 _ (List.mem_of_getElem? (i := 12) rfl)), List.forall_mem_cons.mpr ⟨(cl_L_narrowCount_2 _ (List.mem_of_getElem? (i := 13) rfl)), List.forall_mem_cons.mpr ⟨(cl_L_narrowCount_2 _ (List.mem_of_getElem? (i := 14) rfl)), List.forall_mem_cons.mpr ⟨(cl_L_narrowCount_2 _ (List.mem_of_getElem? (i := 15) rfl)), List.forall_mem_cons.mpr ⟨(cl_L_narrowCount_2 _ (List.mem_of_getElem? (i := 16) rfl)), List.forall_mem_cons.mpr ⟨(cl_L_narrowCount_2 _ (List.mem_of_getElem? (i := 17) rfl)), List.forall_mem_cons.mpr ⟨(cl_L_narrowCount_2 _ (List.mem_of_getElem? (i := 18) rfl)), List.forall_mem_cons.mpr ⟨(cl_L_narrowCount_2 _ (List.mem_of_getElem? (i := 19) rfl)), List.forall_mem_cons.mpr ⟨(cl_L_narrowCount_2 _ (List.mem_of_getElem? (i := 20) rfl)), List.forall_mem_cons.mpr ⟨(cl_L_narrowCount_2 _ (List.mem_of_getElem? (i := 21) rfl)), List.forall_mem_cons.mpr ⟨(cl_L_narrowCount_2 _ (List.mem_of_getElem? (i := 22) rfl)), List.forall_mem_cons.mpr ⟨(cl_L_narrowCount_2 _ (List.mem_of_getElem? (i := 23) rfl)), List.forall_mem_cons.mpr ⟨(cl_L_narrowCount_3 _ (List.mem_of_getElem? (i := 0) rfl)), List.forall_mem_cons.mpr ⟨(cl_L_narrowCount_3 _ (List.mem_of_getElem? (i := 1) rfl)), List.forall_mem_cons.mpr ⟨(cl_L_narrowCount_3 _ (List.mem_of_getElem? (i := 2) rfl)), fun _ h => absurd h List.not_mem_nil⟩⟩⟩⟩⟩⟩⟩⟩⟩⟩⟩⟩⟩⟩⟩⟩⟩⟩⟩⟩⟩⟩) w)) w) ((cl_L_narrowCount_5) w)) w) ((cl_L_narrowCount_6) w)) w) ((cl_L_narrowCount_7) w)) w) ((cl_L_narrowCount_8) w)⟩) (by decide +kernel)
set_option maxRecDepth 20000 in
theorem gL_narrowCount_X2_narrowCount : GoodIn wsL_narrowCount (wsV RL 159 RX2 yX2_narrowCount wsX2_narrowCount) := goodIn_app (goodIn_sub (List.forall_mem_cons.mpr ⟨(cl_L_narrowCount_1 _ (List.mem_of_getElem? (i := 1) rfl)), List.forall_mem_cons.mpr ⟨(cl_L_narrowCount_1 _ (List.mem_of_getElem? (i := 2) rfl)), List.forall_mem_cons.mpr ⟨(cl_L_narrowCount_1 _ (List.mem_of_getElem? (i := 3) rfl)), List.forall_mem_cons.mpr ⟨(cl_L_narrowCount_1 _ (List.mem_of_getElem? (i := 4) rfl)), fun _ h => absurd h List.not_mem_nil⟩⟩⟩⟩) (by decide +kernel)) ggL_narrowCount_X2_narrowCount
noncomputable def dz_p16_41 : List (Nat × Instr × Nat) := [(0, (.aload_n 2, 1)), (1, (.aload_n 0, 1)), (2, (.iload_n 1, 1)), (3, (.invokevirtual 159, 3)), (6, (.i2l, 1)), (7, (.putfield 13, 3)), (10, (.goto 6, 3)), (13, (.astore_n 3, 1)), (14, (.iconst 1, 1)), (15, (.ireturn, 1)), (16, (.iconst 0, 1)), (17, (.ireturn, 1))]
theorem dy_p16_41 : dz_ok cL_narrowCount dz_p16_41 = true := by decide +kernel
theorem dL_narrowCount_0 : decode cL_narrowCount 0 = .ok (.aload_n 2, 1) := dz_at (i := 0) dy_p16_41 rfl
theorem dL_narrowCount_1 : decode cL_narrowCount 1 = .ok (.aload_n 0, 1) := dz_at (i := 1) dy_p16_41 rfl
theorem dL_narrowCount_2 : decode cL_narrowCount 2 = .ok (.iload_n 1, 1) := dz_at (i := 2) dy_p16_41 rfl
theorem dL_narrowCount_3 : decode cL_narrowCount 3 = .ok (.invokevirtual 159, 3) := dz_at (i := 3) dy_p16_41 rfl
theorem dL_narrowCount_6 : decode cL_narrowCount 6 = .ok (.i2l, 1) := dz_at (i := 4) dy_p16_41 rfl
theorem dL_narrowCount_7 : decode cL_narrowCount 7 = .ok (.putfield 13, 3) := dz_at (i := 5) dy_p16_41 rfl
theorem dL_narrowCount_10 : decode cL_narrowCount 10 = .ok (.goto 6, 3) := dz_at (i := 6) dy_p16_41 rfl
theorem dL_narrowCount_13 : decode cL_narrowCount 13 = .ok (.astore_n 3, 1) := dz_at (i := 7) dy_p16_41 rfl
theorem dL_narrowCount_14 : decode cL_narrowCount 14 = .ok (.iconst 1, 1) := dz_at (i := 8) dy_p16_41 rfl
theorem dL_narrowCount_15 : decode cL_narrowCount 15 = .ok (.ireturn, 1) := dz_at (i := 9) dy_p16_41 rfl
theorem dL_narrowCount_16 : decode cL_narrowCount 16 = .ok (.iconst 0, 1) := dz_at (i := 10) dy_p16_41 rfl
theorem dL_narrowCount_17 : decode cL_narrowCount 17 = .ok (.ireturn, 1) := dz_at (i := 11) dy_p16_41 rfl
noncomputable def o_L_narrowCount (f2 : Nat → Int64) (nv : Int64) (p1 : Int32) : Int32 × Int64 :=
  if (o_X2_narrowCount f2 p1).1 = 0 then (0, (((o_X2_narrowCount f2 p1).2).toInt64))
  else (1, nv)
set_option maxHeartbeats 4000000 in
set_option maxRecDepth 100000 in
theorem k_L_narrowCount (l : Launch) (hfl : l.flags = flags0) (dC : Nat → ClassId) (dI : Nat → Nat → Nat) (cy : ClassId) (h0 : Nat) (h1 : Nat) (hw1 : Nat) (hc1 : Nat) (hb1 : Nat) (h2 : Nat) (hw2 : Nat) (hc2 : Nat) (hb2 : Nat) (a1 : Int32) (r1 : Int32) (f1 : Nat → Int64) (g1 : Nat → Int64) (a2 : Int32) (r2 : Int32) (f2 : Nat → Int64) (g2 : Nat → Int64) (kn : Int32) (ho : Nat) (nv : Int64) (sv : Value) (sz : Nat) (N : Nat) (p1 : Int32) : Met l yL_narrowCount wsL_narrowCount ({ frames := 9, cells := 1, slots := 6, locals := 162 }) (va_Pc [.ref h0, .int p1, .ref ho] (xL (dC, dI) xCl [(h0, eE h1 h2 kn), (h1, eR hw1 hc1 hb1 a1 r1), (hw1, eW true), (hc1, eA cy f1), (hb1, eA cy g1), (h2, eR hw2 hc2 hb2 a2 r2), (hw2, eW false), (hc2, eA cy f2), (hb2, eA cy g2), (ho, eO nv sv)] [(cy, .long)] sz N)) (va_Qi (fun (r : Int32) (_ : Unit) => r = (o_L_narrowCount f2 nv p1).1) (fun _ t => xW (dC, dI) xCl [(h0, eE h1 h2 kn), (h1, eR hw1 hc1 hb1 a1 r1), (hw1, eW true), (hc1, eA cy f1), (hb1, eA cy g1), (h2, eR hw2 hc2 hb2 a2 r2), (hw2, eW false), (hc2, eA cy f2), (hb2, eA cy g2), (ho, eO (o_L_narrowCount f2 nv p1).2 sv)] (va_A [(h0, eE h1 h2 kn), (h1, eR hw1 hc1 hb1 a1 r1), (hw1, eW true), (hc1, eA cy f1), (hb1, eA cy g1), (h2, eR hw2 hc2 hb2 a2 r2), (hw2, eW false), (hc2, eA cy f2), (hb2, eA cy g2), (ho, eO nv sv)] sz) t) (va_A [(h0, eE h1 h2 kn), (h1, eR hw1 hc1 hb1 a1 r1), (hw1, eW true), (hc1, eA cy f1), (hb1, eA cy g1), (h2, eR hw2 hc2 hb2 a2 r2), (hw2, eW false), (hc2, eA cy f2), (hb2, eA cy g2), (ho, eO nv sv)] sz)) 1 6 (va_A [(h0, eE h1 h2 kn), (h1, eR hw1 hc1 hb1 a1 r1), (hw1, eW true), (hc1, eA cy f1), (hb1, eA cy g1), (h2, eR hw2 hc2 hb2 a2 r2), (hw2, eW false), (hc2, eA cy f2), (hb2, eA cy g2), (ho, eO nv sv)] sz) := by
  refine va_MetW (cc := cL_narrowCount) (maxL := 4) (ret := (some .int)) (by decide +kernel) rfl ?_
  intro p e s m args below meth c s₁ B hml hv
  obtain ⟨rfl, ⟨hsz, hP, hK, hD0, hN, hG⟩, hnc⟩ := hv
  have hx := B.exec
  have hb := B.bytes
  have hr := B.returns
  have hts := atoms_spec (ws := wsL_narrowCount) B.pre
  have hown : s.vm.findClass RL = some m.cls := findClass_of_methodNamed B.named
  have hlocks := B.notSynchronized
  have htab := vx_table (x := yL_narrowCount) B (hts _ List.mem_cons_self)
  subst hsz
  have hAN : ∀ q, va_A [(h0, eE h1 h2 kn), (h1, eR hw1 hc1 hb1 a1 r1), (hw1, eW true), (hc1, eA cy f1), (hb1, eA cy g1), (h2, eR hw2 hc2 hb2 a2 r2), (hw2, eW false), (hc2, eA cy f2), (hb2, eA cy g2), (ho, eO nv sv)] s.heap.size q → N ≤ q := xA_N hD0 hN
  have hD := hD0.self (sz := s.heap.size)
  generalize hAe : va_A [(h0, eE h1 h2 kn), (h1, eR hw1 hc1 hb1 a1 r1), (hw1, eW true), (hc1, eA cy f1), (hb1, eA cy g1), (h2, eR hw2 hc2 hb2 a2 r2), (hw2, eW false), (hc2, eA cy f2), (hb2, eA cy g2), (ho, eO nv sv)] s.heap.size = A at hD hAN ⊢
  have hA : ∀ q : Nat, s.heap.size ≤ q → A q := fun q h => by rw [← hAe]; exact Or.inr h
  have hS : va_S A s.heap s.heap [] := va_S.rf
  have hP : va_P (dC, dI) xCl [(h0, eE h1 h2 kn), (h1, eR hw1 hc1 hb1 a1 r1), (hw1, eW true), (hc1, eA cy f1), (hb1, eA cy g1), (h2, eR hw2 hc2 hb2 a2 r2), (hw2, eW false), (hc2, eA cy f2), (hb2, eA cy g2), (ho, eO nv sv)] s.heap := hP
  have hl := lv_entry ([.ref h0, .int p1, .ref ho]) (n := 4) (Nat.le_of_ble_eq_true rfl)
  rw [lg_entry_eq]
  generalize (lg_sl ([.ref h0, .int p1, .ref ho]) ++ List.replicate (4 - (lg_sl ([.ref h0, .int p1, .ref ho])).length) Slot.unset).toArray = ls at hl ⊢
  have hl : lv_has ls 4 [(0, .ref h0), (1, .int p1), (2, .ref ho)] := hl
  refine lv_aload_n hx hb dL_narrowCount_0 rfl (lv_at hl 2 rfl) ?_
  refine lv_aload_n hx hb dL_narrowCount_1 rfl (lv_at hl 0 rfl) ?_
  refine lv_iload_n hx hb dL_narrowCount_2 rfl (lv_at hl 1 rfl) ?_
  have hPc := hP.sub (ws' := [(h0, eE h1 h2 kn), (h1, eR hw1 hc1 hb1 a1 r1), (hw1, eW true), (hc1, eA cy f1), (hb1, eA cy g1), (h2, eR hw2 hc2 hb2 a2 r2), (hw2, eW false), (hc2, eA cy f2), (hb2, eA cy g2)]) [0, 1, 2, 3, 4, 5, 6, 7, 8] rfl
  have hDc := hD.sub (ws' := [(h0, eE h1 h2 kn), (h1, eR hw1 hc1 hb1 a1 r1), (hw1, eW true), (hc1, eA cy f1), (hb1, eA cy g1), (h2, eR hw2 hc2 hb2 a2 r2), (hw2, eW false), (hc2, eA cy f2), (hb2, eA cy g2)]) [0, 1, 2, 3, 4, 5, 6, 7, 8] (by decide +kernel) rfl
  have hKc := hK.sub (tys' := [(cy, .long)]) [0] rfl
  refine vx_calli (vx_runV (As := [.int p1]) (rest := [.ref ho]) ⟨hx, hb, hml, hown, hts⟩ (k_X2_narrowCount l hfl dC dI cy h0 h1 hw1 hc1 hb1 h2 hw2 hc2 hb2 a1 r1 f1 g1 a2 r2 f2 g2 kn s.heap.size N p1) (cwV 1 hts gL_narrowCount_X2_narrowCount rfl rfl rfl (by decide +kernel) ⟨Nat.le_of_ble_eq_true rfl, Nat.le_of_ble_eq_true rfl⟩) (xM.preV hKc hPc hDc hAN (Nat.le_trans hN hS.1) (hG.kept hS hAN) (ci := 4) (q0 := 0) rfl rfl) rfl rfl hl.1 rfl (lv_room (Nat.le_of_ble_eq_true rfl)) dL_narrowCount_3 ⟨Nat.le_of_ble_eq_true rfl, Nat.le_of_ble_eq_true rfl⟩) hS xA_old (fun q h => hA q (Nat.le_trans hS.1 h)) xA_old (fun E ce q9 u9 t H locs ht hvm hpx hbx hz hk hS hce hcv hcl => ?_) (fun r_1 u t H locs ht hvm hw hB hz hk hS => ?_)
  · have c_2 : ¬ (o_X2_narrowCount f2 p1).1 = 0 := hpx
    have hbe := hbx
    have hP := xP_keep hP hk
    have hE : E = "java/lang/IndexOutOfBoundsException" := hbe.trans (by rw [show (o_X2_narrowCount f2 p1).1 = 1 from (xr_X2_narrowCount _ _ c_2)]; rfl)
    subst hE
    refine vx_catch (own := RL) (name := "java/lang/IndexOutOfBoundsException") hown [] ⟨0, 10, 13, 19⟩ [] htab (fun z hz => absurd hz List.not_mem_nil) (by decide +kernel) (by decide +kernel) (hts (.classLink RL 19 "java/lang/IndexOutOfBoundsException") (by decide +kernel)) (va_Nw.use rfl (hG.1 (.castable "java/lang/IndexOutOfBoundsException" "java/lang/IndexOutOfBoundsException") (List.mem_of_getElem? (i := 11) rfl))) hce hcv hcl ?_
    refine lv_astore_n (lv' := [(3, .ref q9), (0, .ref h0), (1, .int p1), (2, .ref ho)]) hx hb dL_narrowCount_13 rfl hl (by decide +kernel) rfl (fun ls hl => ?_)
    refine lv_iconst (v := 1) hx hb dL_narrowCount_14 (by decide +kernel) ?_
    have he : o_L_narrowCount f2 nv p1 = (1, nv) := by (rw [o_L_narrowCount, if_neg c_2]) <;> rfl
    refine W.widen (k := 1) (n := 6) (by omega) (by omega) ?_
    exact W.iret (v := 1) hx hb hr (fun t ht hW => ⟨⟨_, (), rfl, (by (rw [he]) <;> rfl), (by rw [he]; exact ⟨by rw [ht]; exact hP, hD⟩)⟩, hS.F ht⟩) hS.2.2 dL_narrowCount_15
  · skip
    obtain ⟨c_3, hw⟩ := hw
    have c_3 : (o_X2_narrowCount f2 p1).1 = 0 := c_3
    replace hw : r_1 = (o_X2_narrowCount f2 p1).2 := hw
    subst r_1
    have hP := xP_keep hP hk
    refine lv_i2l (v := (((o_X2_narrowCount f2 p1).2).toInt64)) hx hb dL_narrowCount_6 rfl ?_
    refine va_putN (D := (dC, dI)) (ci := 5) (v := .long (((o_X2_narrowCount f2 p1).2).toInt64)) (ty := .long) (C := RX3) (T := TX3) (N := 2) hx hb hts (by decide +kernel) tyX3 tyX3_ok nmX3 hown hK hP hD hS 9 rfl rfl 0 (by decide +kernel) (va_Nw.use rfl (hG.1 (.fieldLinkNest RL 13 "EdgefloatsLaw$Out" "n" "J" RL) (List.mem_of_getElem? (i := 6) rfl))) (fun _ h9 => h9) rfl (by decide +kernel) rfl rfl (Nat.le_of_ble_eq_true rfl) dL_narrowCount_7 (fun H locs hP hD hS => ?_)
    have hP : va_P (dC, dI) xCl [(h0, eE h1 h2 kn), (h1, eR hw1 hc1 hb1 a1 r1), (hw1, eW true), (hc1, eA cy f1), (hb1, eA cy g1), (h2, eR hw2 hc2 hb2 a2 r2), (hw2, eW false), (hc2, eA cy f2), (hb2, eA cy g2), (ho, eO (((o_X2_narrowCount f2 p1).2).toInt64) sv)] H := hP
    have hD : va_D A [(h0, eE h1 h2 kn), (h1, eR hw1 hc1 hb1 a1 r1), (hw1, eW true), (hc1, eA cy f1), (hb1, eA cy g1), (h2, eR hw2 hc2 hb2 a2 r2), (hw2, eW false), (hc2, eA cy f2), (hb2, eA cy g2), (ho, eO (((o_X2_narrowCount f2 p1).2).toInt64) sv)] := hD
    refine lv_goto (tgt := 16) hx hb dL_narrowCount_10 (by decide +kernel) ?_
    refine lv_iconst (v := 0) hx hb dL_narrowCount_16 (by decide +kernel) ?_
    have he : o_L_narrowCount f2 nv p1 = (0, (((o_X2_narrowCount f2 p1).2).toInt64)) := by (rw [o_L_narrowCount, if_pos c_3]) <;> rfl
    refine W.widen (k := 1) (n := 6) (by omega) (by omega) ?_
    exact W.iret (v := 0) hx hb hr (fun t ht hW => ⟨⟨_, (), rfl, (by (rw [he]) <;> rfl), (by rw [he]; exact ⟨by rw [ht]; exact hP, hD⟩)⟩, hS.F ht⟩) hS.2.2 dL_narrowCount_17
theorem cl_L_narrowFind_1 : ∀ w ∈ [.classLink RL 19 "java/lang/IndexOutOfBoundsException", .methodLink RL 162 yX2_narrowFind, .instanceMethod yX2_narrowFind, .selects RX2 yX2_narrowFind yX2_narrowFind, .initialized RX2, .code yX2_narrowFind cX2_narrowFind 3 (some .int), .fieldLink RX2 25 "Edgefloats" "narrow" "LEdgefloats$Row;", .methodLink RX2 102 yX0_find, .instanceMethod yX0_find, .selects RX0 yX0_find yX0_find, .initialized RX0, .code yX0_find cX0_find 6 (some .int), .fieldLink RX0 15 "Edgefloats$Row" "cells" "[J", .static yX2_checkCell, .code yX2_checkCell cX2_checkCell 1 none, .classLink RX2 148 "java/lang/IndexOutOfBoundsException", .initialized "java/lang/IndexOutOfBoundsException"], w ∈ wsL_narrowFind := fun _ h => (List.mem_cons_of_mem _ (List.mem_append_left _ (List.mem_append_left _ (List.mem_append_left _ (List.mem_append_left _ h)))))
theorem cl_L_narrowFind_2 : ∀ w ∈ wsX30, w ∈ wsL_narrowFind := fun _ h => (List.mem_cons_of_mem _ (List.mem_append_left _ (List.mem_append_left _ (List.mem_append_left _ (List.mem_append_right _ h)))))
theorem cl_L_narrowFind_3 : ∀ w ∈ wsX20, w ∈ wsL_narrowFind := fun _ h => (List.mem_cons_of_mem _ (List.mem_append_left _ (List.mem_append_left _ (List.mem_append_right _ h))))
theorem cl_L_narrowFind_4 : ∀ w ∈ wsX00, w ∈ wsL_narrowFind := fun _ h => (List.mem_cons_of_mem _ (List.mem_append_left _ (List.mem_append_right _ h)))
theorem cl_L_narrowFind_5 : ∀ w ∈ (vx_atS RX2 152 "java/lang/IndexOutOfBoundsException" ["java/lang/RuntimeException", "java/lang/Exception"]).filter goodWord, w ∈ wsL_narrowFind := fun _ h => (List.mem_cons_of_mem _ (List.mem_append_right _ h))
set_option maxRecDepth 20000 in
theorem ggL_narrowFind_X2_narrowFind : GoodIn wsL_narrowFind wsX2_narrowFind := goodIn_sub (List.forall_mem_cons.mpr ⟨(cl_L_narrowFind_1 _ (List.mem_of_getElem? (i := 5) rfl)), fun w h => (List.mem_append.mp h).elim ((fun w h => (List.mem_append.mp h).elim ((fun w h => (List.mem_append.mp h).elim ((List.forall_mem_cons.mpr ⟨(cl_L_narrowFind_1 _ (List.mem_of_getElem? (i := 6) rfl)), List.forall_mem_cons.mpr ⟨(cl_L_narrowFind_1 _ (List.mem_of_getElem? (i := 7) rfl)), List.forall_mem_cons.mpr ⟨(cl_L_narrowFind_1 _ (List.mem_of_getElem? (i := 8) rfl)), List.forall_mem_cons.mpr ⟨(cl_L_narrowFind_1 _ (List.mem_of_getElem? (i := 9) rfl)), List.forall_mem_cons.mpr ⟨(cl_L_narrowFind_1 _ (List.mem_of_getElem? (i := 10) rfl)), List.forall_mem_cons.mpr ⟨(cl_L_narrowFind_1 _ (List.mem_of_getElem? (i := 11) rfl)), List.forall_mem_cons.mpr ⟨(cl_L_narrowFind_1 _ (List.mem_of_getElem? (i := 12) rfl)), List.forall_mem_cons.mpr ⟨(cl_L_narrowFind_1 _ (List.mem_of_getElem? (i := 13) rfl)), List.forall_mem_cons.mpr ⟨(cl_L_narrowFind_1 _ (List.mem_of_getElem? (i := 4) rfl)), List.forall_mem_cons.mpr ⟨(cl_L_narrowFind_1 _ (List.mem_of_getElem? (i := 14) rfl)), List.forall_mem_cons.mpr ⟨(cl_L_narrowFind_1 _ (List.mem_of_getElem? (i := 15) rfl)), List.forall_mem_cons.mpr ⟨(cl_L_narrowFind_1 _ (List.mem_of_getElem? (i := 16) rfl)), fun _ h => absurd h List.not_mem_nil⟩⟩⟩⟩⟩⟩⟩⟩⟩⟩⟩⟩) w) ((cl_L_narrowFind_3) w)) w) ((cl_L_narrowFind_4) w)) w) ((cl_L_narrowFind_5) w)⟩) (by decide +kernel)
set_option maxRecDepth 20000 in
theorem gL_narrowFind_X2_narrowFind : GoodIn wsL_narrowFind (wsV RL 162 RX2 yX2_narrowFind wsX2_narrowFind) := goodIn_app (goodIn_sub (List.forall_mem_cons.mpr ⟨(cl_L_narrowFind_1 _ (List.mem_of_getElem? (i := 1) rfl)), List.forall_mem_cons.mpr ⟨(cl_L_narrowFind_1 _ (List.mem_of_getElem? (i := 2) rfl)), List.forall_mem_cons.mpr ⟨(cl_L_narrowFind_1 _ (List.mem_of_getElem? (i := 3) rfl)), List.forall_mem_cons.mpr ⟨(cl_L_narrowFind_1 _ (List.mem_of_getElem? (i := 4) rfl)), fun _ h => absurd h List.not_mem_nil⟩⟩⟩⟩) (by decide +kernel)) ggL_narrowFind_X2_narrowFind
noncomputable def dz_p16_42 : List (Nat × Instr × Nat) := [(0, (.aload_n 3, 1)), (1, (.aload_n 0, 1)), (2, (.iload_n 1, 1)), (3, (.iload_n 2, 1)), (4, (.invokevirtual 162, 3)), (7, (.i2l, 1)), (8, (.putfield 13, 3)), (11, (.goto 7, 3)), (14, (.astore 4, 2)), (16, (.iconst 1, 1)), (17, (.ireturn, 1)), (18, (.iconst 0, 1)), (19, (.ireturn, 1))]
theorem dy_p16_42 : dz_ok cL_narrowFind dz_p16_42 = true := by decide +kernel
theorem dL_narrowFind_0 : decode cL_narrowFind 0 = .ok (.aload_n 3, 1) := dz_at (i := 0) dy_p16_42 rfl
theorem dL_narrowFind_1 : decode cL_narrowFind 1 = .ok (.aload_n 0, 1) := dz_at (i := 1) dy_p16_42 rfl
theorem dL_narrowFind_2 : decode cL_narrowFind 2 = .ok (.iload_n 1, 1) := dz_at (i := 2) dy_p16_42 rfl
theorem dL_narrowFind_3 : decode cL_narrowFind 3 = .ok (.iload_n 2, 1) := dz_at (i := 3) dy_p16_42 rfl
theorem dL_narrowFind_4 : decode cL_narrowFind 4 = .ok (.invokevirtual 162, 3) := dz_at (i := 4) dy_p16_42 rfl
theorem dL_narrowFind_7 : decode cL_narrowFind 7 = .ok (.i2l, 1) := dz_at (i := 5) dy_p16_42 rfl
theorem dL_narrowFind_8 : decode cL_narrowFind 8 = .ok (.putfield 13, 3) := dz_at (i := 6) dy_p16_42 rfl
theorem dL_narrowFind_11 : decode cL_narrowFind 11 = .ok (.goto 7, 3) := dz_at (i := 7) dy_p16_42 rfl
theorem dL_narrowFind_14 : decode cL_narrowFind 14 = .ok (.astore 4, 2) := dz_at (i := 8) dy_p16_42 rfl
theorem dL_narrowFind_16 : decode cL_narrowFind 16 = .ok (.iconst 1, 1) := dz_at (i := 9) dy_p16_42 rfl
theorem dL_narrowFind_17 : decode cL_narrowFind 17 = .ok (.ireturn, 1) := dz_at (i := 10) dy_p16_42 rfl
theorem dL_narrowFind_18 : decode cL_narrowFind 18 = .ok (.iconst 0, 1) := dz_at (i := 11) dy_p16_42 rfl
theorem dL_narrowFind_19 : decode cL_narrowFind 19 = .ok (.ireturn, 1) := dz_at (i := 12) dy_p16_42 rfl
noncomputable def o_L_narrowFind (f2 : Nat → Int64) (nv : Int64) (p1 : Int32) (p2 : Bool) : Int32 × Int64 :=
  if (o_X2_narrowFind f2 p1 p2).1 = 0 then (0, (((o_X2_narrowFind f2 p1 p2).2).toInt64))
  else (1, nv)
set_option maxHeartbeats 4000000 in
set_option maxRecDepth 100000 in
theorem k_L_narrowFind (l : Launch) (hfl : l.flags = flags0) (dC : Nat → ClassId) (dI : Nat → Nat → Nat) (cy : ClassId) (h0 : Nat) (h1 : Nat) (hw1 : Nat) (hc1 : Nat) (hb1 : Nat) (h2 : Nat) (hw2 : Nat) (hc2 : Nat) (hb2 : Nat) (a1 : Int32) (r1 : Int32) (f1 : Nat → Int64) (g1 : Nat → Int64) (a2 : Int32) (r2 : Int32) (f2 : Nat → Int64) (g2 : Nat → Int64) (kn : Int32) (ho : Nat) (nv : Int64) (sv : Value) (sz : Nat) (N : Nat) (p1 : Int32) (p2 : Bool) : Met l yL_narrowFind wsL_narrowFind ({ frames := 9, cells := 1, slots := 6, locals := 167 }) (va_Pc [.ref h0, .int p1, .int (b2i p2), .ref ho] (xL (dC, dI) xCl [(h0, eE h1 h2 kn), (h1, eR hw1 hc1 hb1 a1 r1), (hw1, eW true), (hc1, eA cy f1), (hb1, eA cy g1), (h2, eR hw2 hc2 hb2 a2 r2), (hw2, eW false), (hc2, eA cy f2), (hb2, eA cy g2), (ho, eO nv sv)] [(cy, .long)] sz N)) (va_Qi (fun (r : Int32) (_ : Unit) => r = (o_L_narrowFind f2 nv p1 p2).1) (fun _ t => xW (dC, dI) xCl [(h0, eE h1 h2 kn), (h1, eR hw1 hc1 hb1 a1 r1), (hw1, eW true), (hc1, eA cy f1), (hb1, eA cy g1), (h2, eR hw2 hc2 hb2 a2 r2), (hw2, eW false), (hc2, eA cy f2), (hb2, eA cy g2), (ho, eO (o_L_narrowFind f2 nv p1 p2).2 sv)] (va_A [(h0, eE h1 h2 kn), (h1, eR hw1 hc1 hb1 a1 r1), (hw1, eW true), (hc1, eA cy f1), (hb1, eA cy g1), (h2, eR hw2 hc2 hb2 a2 r2), (hw2, eW false), (hc2, eA cy f2), (hb2, eA cy g2), (ho, eO nv sv)] sz) t) (va_A [(h0, eE h1 h2 kn), (h1, eR hw1 hc1 hb1 a1 r1), (hw1, eW true), (hc1, eA cy f1), (hb1, eA cy g1), (h2, eR hw2 hc2 hb2 a2 r2), (hw2, eW false), (hc2, eA cy f2), (hb2, eA cy g2), (ho, eO nv sv)] sz)) 1 6 (va_A [(h0, eE h1 h2 kn), (h1, eR hw1 hc1 hb1 a1 r1), (hw1, eW true), (hc1, eA cy f1), (hb1, eA cy g1), (h2, eR hw2 hc2 hb2 a2 r2), (hw2, eW false), (hc2, eA cy f2), (hb2, eA cy g2), (ho, eO nv sv)] sz) := by
  refine va_MetW (cc := cL_narrowFind) (maxL := 5) (ret := (some .int)) (by decide +kernel) rfl ?_
  intro p e s m args below meth c s₁ B hml hv
  obtain ⟨rfl, ⟨hsz, hP, hK, hD0, hN, hG⟩, hnc⟩ := hv
  have hx := B.exec
  have hb := B.bytes
  have hr := B.returns
  have hts := atoms_spec (ws := wsL_narrowFind) B.pre
  have hown : s.vm.findClass RL = some m.cls := findClass_of_methodNamed B.named
  have hlocks := B.notSynchronized
  have htab := vx_table (x := yL_narrowFind) B (hts _ List.mem_cons_self)
  subst hsz
  have hAN : ∀ q, va_A [(h0, eE h1 h2 kn), (h1, eR hw1 hc1 hb1 a1 r1), (hw1, eW true), (hc1, eA cy f1), (hb1, eA cy g1), (h2, eR hw2 hc2 hb2 a2 r2), (hw2, eW false), (hc2, eA cy f2), (hb2, eA cy g2), (ho, eO nv sv)] s.heap.size q → N ≤ q := xA_N hD0 hN
  have hD := hD0.self (sz := s.heap.size)
  generalize hAe : va_A [(h0, eE h1 h2 kn), (h1, eR hw1 hc1 hb1 a1 r1), (hw1, eW true), (hc1, eA cy f1), (hb1, eA cy g1), (h2, eR hw2 hc2 hb2 a2 r2), (hw2, eW false), (hc2, eA cy f2), (hb2, eA cy g2), (ho, eO nv sv)] s.heap.size = A at hD hAN ⊢
  have hA : ∀ q : Nat, s.heap.size ≤ q → A q := fun q h => by rw [← hAe]; exact Or.inr h
  have hS : va_S A s.heap s.heap [] := va_S.rf
  have hP : va_P (dC, dI) xCl [(h0, eE h1 h2 kn), (h1, eR hw1 hc1 hb1 a1 r1), (hw1, eW true), (hc1, eA cy f1), (hb1, eA cy g1), (h2, eR hw2 hc2 hb2 a2 r2), (hw2, eW false), (hc2, eA cy f2), (hb2, eA cy g2), (ho, eO nv sv)] s.heap := hP
  have hl := lv_entry ([.ref h0, .int p1, .int (b2i p2), .ref ho]) (n := 5) (Nat.le_of_ble_eq_true rfl)
  rw [lg_entry_eq]
  generalize (lg_sl ([.ref h0, .int p1, .int (b2i p2), .ref ho]) ++ List.replicate (5 - (lg_sl ([.ref h0, .int p1, .int (b2i p2), .ref ho])).length) Slot.unset).toArray = ls at hl ⊢
  have hl : lv_has ls 5 [(0, .ref h0), (1, .int p1), (2, .int (b2i p2)), (3, .ref ho)] := hl
  refine lv_aload_n hx hb dL_narrowFind_0 rfl (lv_at hl 3 rfl) ?_
  refine lv_aload_n hx hb dL_narrowFind_1 rfl (lv_at hl 0 rfl) ?_
  refine lv_iload_n hx hb dL_narrowFind_2 rfl (lv_at hl 1 rfl) ?_
  refine lv_iload_n hx hb dL_narrowFind_3 rfl (lv_at hl 2 rfl) ?_
  have hPc := hP.sub (ws' := [(h0, eE h1 h2 kn), (h1, eR hw1 hc1 hb1 a1 r1), (hw1, eW true), (hc1, eA cy f1), (hb1, eA cy g1), (h2, eR hw2 hc2 hb2 a2 r2), (hw2, eW false), (hc2, eA cy f2), (hb2, eA cy g2)]) [0, 1, 2, 3, 4, 5, 6, 7, 8] rfl
  have hDc := hD.sub (ws' := [(h0, eE h1 h2 kn), (h1, eR hw1 hc1 hb1 a1 r1), (hw1, eW true), (hc1, eA cy f1), (hb1, eA cy g1), (h2, eR hw2 hc2 hb2 a2 r2), (hw2, eW false), (hc2, eA cy f2), (hb2, eA cy g2)]) [0, 1, 2, 3, 4, 5, 6, 7, 8] (by decide +kernel) rfl
  have hKc := hK.sub (tys' := [(cy, .long)]) [0] rfl
  refine vx_calli (vx_runV (As := [.int p1, .int (b2i p2)]) (rest := [.ref ho]) ⟨hx, hb, hml, hown, hts⟩ (k_X2_narrowFind l hfl dC dI cy h0 h1 hw1 hc1 hb1 h2 hw2 hc2 hb2 a1 r1 f1 g1 a2 r2 f2 g2 kn s.heap.size N p1 p2) (cwV 2 hts gL_narrowFind_X2_narrowFind rfl rfl rfl (by decide +kernel) ⟨Nat.le_of_ble_eq_true rfl, Nat.le_of_ble_eq_true rfl⟩) (xM.preV hKc hPc hDc hAN (Nat.le_trans hN hS.1) (hG.kept hS hAN) (ci := 4) (q0 := 0) rfl rfl) rfl rfl hl.1 rfl (lv_room (Nat.le_of_ble_eq_true rfl)) dL_narrowFind_4 ⟨Nat.le_of_ble_eq_true rfl, Nat.le_of_ble_eq_true rfl⟩) hS xA_old (fun q h => hA q (Nat.le_trans hS.1 h)) xA_old (fun E ce q9 u9 t H locs ht hvm hpx hbx hz hk hS hce hcv hcl => ?_) (fun r_1 u t H locs ht hvm hw hB hz hk hS => ?_)
  · have c_2 : ¬ (o_X2_narrowFind f2 p1 p2).1 = 0 := hpx
    have hbe := hbx
    have hP := xP_keep hP hk
    have hE : E = "java/lang/IndexOutOfBoundsException" := hbe.trans (by rw [show (o_X2_narrowFind f2 p1 p2).1 = 1 from (xr_X2_narrowFind _ _ _ c_2)]; rfl)
    subst hE
    refine vx_catch (own := RL) (name := "java/lang/IndexOutOfBoundsException") hown [] ⟨0, 11, 14, 19⟩ [] htab (fun z hz => absurd hz List.not_mem_nil) (by decide +kernel) (by decide +kernel) (hts (.classLink RL 19 "java/lang/IndexOutOfBoundsException") (by decide +kernel)) (va_Nw.use rfl (hG.1 (.castable "java/lang/IndexOutOfBoundsException" "java/lang/IndexOutOfBoundsException") (List.mem_of_getElem? (i := 11) rfl))) hce hcv hcl ?_
    refine lv_astore (lv' := [(4, .ref q9), (0, .ref h0), (1, .int p1), (2, .int (b2i p2)), (3, .ref ho)]) hx hb dL_narrowFind_14 hl (by decide +kernel) rfl (fun ls hl => ?_)
    refine lv_iconst (v := 1) hx hb dL_narrowFind_16 (by decide +kernel) ?_
    have he : o_L_narrowFind f2 nv p1 p2 = (1, nv) := by (rw [o_L_narrowFind, if_neg c_2]) <;> rfl
    refine W.widen (k := 1) (n := 6) (by omega) (by omega) ?_
    exact W.iret (v := 1) hx hb hr (fun t ht hW => ⟨⟨_, (), rfl, (by (rw [he]) <;> rfl), (by rw [he]; exact ⟨by rw [ht]; exact hP, hD⟩)⟩, hS.F ht⟩) hS.2.2 dL_narrowFind_17
  · skip
    obtain ⟨c_3, hw⟩ := hw
    have c_3 : (o_X2_narrowFind f2 p1 p2).1 = 0 := c_3
    replace hw : r_1 = (o_X2_narrowFind f2 p1 p2).2 := hw
    subst r_1
    have hP := xP_keep hP hk
    refine lv_i2l (v := (((o_X2_narrowFind f2 p1 p2).2).toInt64)) hx hb dL_narrowFind_7 rfl ?_
    refine va_putN (D := (dC, dI)) (ci := 5) (v := .long (((o_X2_narrowFind f2 p1 p2).2).toInt64)) (ty := .long) (C := RX3) (T := TX3) (N := 2) hx hb hts (by decide +kernel) tyX3 tyX3_ok nmX3 hown hK hP hD hS 9 rfl rfl 0 (by decide +kernel) (va_Nw.use rfl (hG.1 (.fieldLinkNest RL 13 "EdgefloatsLaw$Out" "n" "J" RL) (List.mem_of_getElem? (i := 6) rfl))) (fun _ h9 => h9) rfl (by decide +kernel) rfl rfl (Nat.le_of_ble_eq_true rfl) dL_narrowFind_8 (fun H locs hP hD hS => ?_)
    have hP : va_P (dC, dI) xCl [(h0, eE h1 h2 kn), (h1, eR hw1 hc1 hb1 a1 r1), (hw1, eW true), (hc1, eA cy f1), (hb1, eA cy g1), (h2, eR hw2 hc2 hb2 a2 r2), (hw2, eW false), (hc2, eA cy f2), (hb2, eA cy g2), (ho, eO (((o_X2_narrowFind f2 p1 p2).2).toInt64) sv)] H := hP
    have hD : va_D A [(h0, eE h1 h2 kn), (h1, eR hw1 hc1 hb1 a1 r1), (hw1, eW true), (hc1, eA cy f1), (hb1, eA cy g1), (h2, eR hw2 hc2 hb2 a2 r2), (hw2, eW false), (hc2, eA cy f2), (hb2, eA cy g2), (ho, eO (((o_X2_narrowFind f2 p1 p2).2).toInt64) sv)] := hD
    refine lv_goto (tgt := 18) hx hb dL_narrowFind_11 (by decide +kernel) ?_
    refine lv_iconst (v := 0) hx hb dL_narrowFind_18 (by decide +kernel) ?_
    have he : o_L_narrowFind f2 nv p1 p2 = (0, (((o_X2_narrowFind f2 p1 p2).2).toInt64)) := by (rw [o_L_narrowFind, if_pos c_3]) <;> rfl
    refine W.widen (k := 1) (n := 6) (by omega) (by omega) ?_
    exact W.iret (v := 0) hx hb hr (fun t ht hW => ⟨⟨_, (), rfl, (by (rw [he]) <;> rfl), (by rw [he]; exact ⟨by rw [ht]; exact hP, hD⟩)⟩, hS.F ht⟩) hS.2.2 dL_narrowFind_19
theorem cl_L_narrowHas_1 : ∀ w ∈ wsL_narrowHas_r1, w ∈ wsL_narrowHas := fun _ h => (List.mem_cons_of_mem _ (List.mem_append_left _ (List.mem_append_left _ (List.mem_append_left _ (List.mem_append_left _ (List.mem_append_left _ (List.mem_append_left _ h)))))))
theorem cl_L_narrowHas_2 : ∀ w ∈ wsL_narrowHas_r2, w ∈ wsL_narrowHas := fun _ h => (List.mem_cons_of_mem _ (List.mem_append_left _ (List.mem_append_left _ (List.mem_append_left _ (List.mem_append_left _ (List.mem_append_left _ (List.mem_append_right _ h)))))))
theorem cl_L_narrowHas_3 : ∀ w ∈ wsX30, w ∈ wsL_narrowHas := fun _ h => (List.mem_cons_of_mem _ (List.mem_append_left _ (List.mem_append_left _ (List.mem_append_left _ (List.mem_append_left _ (List.mem_append_right _ h))))))
theorem cl_L_narrowHas_4 : ∀ w ∈ wsX20, w ∈ wsL_narrowHas := fun _ h => (List.mem_cons_of_mem _ (List.mem_append_left _ (List.mem_append_left _ (List.mem_append_left _ (List.mem_append_right _ h)))))
theorem cl_L_narrowHas_5 : ∀ w ∈ wsX00, w ∈ wsL_narrowHas := fun _ h => (List.mem_cons_of_mem _ (List.mem_append_left _ (List.mem_append_left _ (List.mem_append_right _ h))))
theorem cl_L_narrowHas_6 : ∀ w ∈ wsX10, w ∈ wsL_narrowHas := fun _ h => (List.mem_cons_of_mem _ (List.mem_append_left _ (List.mem_append_right _ h)))
theorem cl_L_narrowHas_7 : ∀ w ∈ (vx_atS RX2 159 "java/lang/IllegalArgumentException" ["java/lang/RuntimeException", "java/lang/Exception"]).filter goodWord, w ∈ wsL_narrowHas := fun _ h => (List.mem_cons_of_mem _ (List.mem_append_right _ h))
set_option maxRecDepth 20000 in
theorem ggL_narrowHas_X2_narrowHas : GoodIn wsL_narrowHas wsX2_narrowHas := goodIn_sub (List.forall_mem_cons.mpr ⟨(cl_L_narrowHas_1 _ (List.mem_of_getElem? (i := 5) rfl)), fun w h => (List.mem_append.mp h).elim ((fun w h => (List.mem_append.mp h).elim ((fun w h => (List.mem_append.mp h).elim ((fun w h => (List.mem_append.mp h).elim ((List.forall_mem_cons.mpr ⟨(cl_L_narrowHas_1 _ (List.mem_of_getElem? (i := 6) rfl)), List.forall_mem_cons.mpr ⟨(cl_L_narrowHas_1 _ (List.mem_of_getElem? (i := 7) rfl)), List.forall_mem_cons.mpr ⟨(cl_L_narrowHas_1 _ (List.mem_of_getElem? (i := 8) rfl)), List.forall_mem_cons.mpr ⟨(cl_L_narrowHas_1 _ (List.mem_of_getElem? (i := 9) rfl)), List.forall_mem_cons.mpr ⟨(cl_L_narrowHas_1 _ (List.mem_of_getElem? (i := 10) rfl)), List.forall_mem_cons.mpr ⟨(cl_L_narrowHas_1 _ (List.mem_of_getElem? (i := 11) rfl)), List.forall_mem_cons.mpr ⟨(cl_L_narrowHas_1 _ (List.mem_of_getElem? (i := 12) rfl)), List.forall_mem_cons.mpr ⟨(cl_L_narrowHas_1 _ (List.mem_of_getElem? (i := 13) rfl)), List.forall_mem_cons.mpr ⟨(cl_L_narrowHas_1 _ (List.mem_of_getElem? (i := 14) rfl)), List.forall_mem_cons.mpr ⟨(cl_L_narrowHas_1 _ (List.mem_of_getElem? (i := 4) rfl)), List.forall_mem_cons.mpr ⟨(cl_L_narrowHas_1 _ (List.mem_of_getElem? (i := 15) rfl)), List.forall_mem_cons.mpr ⟨(cl_L_narrowHas_1 _ (List.mem_of_getElem? (i := 16) rfl)), List.forall_mem_cons.mpr ⟨(cl_L_narrowHas_1 _ (List.mem_of_getElem? (i := 17) rfl)), List.forall_mem_cons.mpr ⟨(cl_L_narrowHas_1 _ (List.mem_of_getElem? (i := 18) rfl)), List.forall_mem_cons.mpr ⟨(cl_L_narrowHas_1 _ (List.mem_of_getElem? (i := 19) rfl)), List.forall_mem_cons.mpr ⟨(cl_L_narrowHas_1 _ (List.mem_of_getElem? (i := 20) rfl)), List.forall_mem_cons.mpr ⟨(cl_L_narrowHas_1 _ (List.mem_of_getElem? (i := 21) rfl)), List.forall_mem_cons.mpr ⟨(cl_L_narrowHas_1 _ (List.mem_of_getElem? (i := 22) rfl)), List.forall_mem_cons.mpr ⟨(cl_L_narrowHas_1 _ (List.mem_of_getElem? (i := 23) rfl)), List.forall_mem_cons.mpr ⟨(cl_L_narrowHas_2 _ (List.mem_of_getElem? (i := 0) rfl)), List.forall_mem_cons.mpr ⟨(cl_L_narrowHas_2 _ (List.mem_of_getElem? (i := 1) rfl)), fun _ h => absurd h List.not_mem_nil⟩⟩⟩⟩⟩⟩⟩⟩⟩⟩⟩⟩⟩⟩⟩⟩⟩⟩⟩⟩⟩) w) ((cl_L_narrowHas_4) w)) w) ((cl_L_narrowHas_5) w)) w) ((cl_L_narrowHas_6) w)) w) ((cl_L_narrowHas_7) w)⟩) (by decide +kernel)
set_option maxRecDepth 20000 in
theorem gL_narrowHas_X2_narrowHas : GoodIn wsL_narrowHas (wsV RL 165 RX2 yX2_narrowHas wsX2_narrowHas) := goodIn_app (goodIn_sub (List.forall_mem_cons.mpr ⟨(cl_L_narrowHas_1 _ (List.mem_of_getElem? (i := 1) rfl)), List.forall_mem_cons.mpr ⟨(cl_L_narrowHas_1 _ (List.mem_of_getElem? (i := 2) rfl)), List.forall_mem_cons.mpr ⟨(cl_L_narrowHas_1 _ (List.mem_of_getElem? (i := 3) rfl)), List.forall_mem_cons.mpr ⟨(cl_L_narrowHas_1 _ (List.mem_of_getElem? (i := 4) rfl)), fun _ h => absurd h List.not_mem_nil⟩⟩⟩⟩) (by decide +kernel)) ggL_narrowHas_X2_narrowHas
noncomputable def dz_p16_43 : List (Nat × Instr × Nat) := [(0, (.aload_n 2, 1)), (1, (.aload_n 0, 1)), (2, (.iload_n 1, 1)), (3, (.invokevirtual 165, 3)), (6, (.ifCond .eq 7, 3)), (9, (.lconst 1, 1)), (10, (.goto 4, 3)), (13, (.lconst 0, 1)), (14, (.putfield 13, 3)), (17, (.goto 6, 3)), (20, (.astore_n 3, 1)), (21, (.iconst 1, 1)), (22, (.ireturn, 1)), (23, (.iconst 0, 1)), (24, (.ireturn, 1))]
theorem dy_p16_43 : dz_ok cL_narrowHas dz_p16_43 = true := by decide +kernel
theorem dL_narrowHas_0 : decode cL_narrowHas 0 = .ok (.aload_n 2, 1) := dz_at (i := 0) dy_p16_43 rfl
theorem dL_narrowHas_1 : decode cL_narrowHas 1 = .ok (.aload_n 0, 1) := dz_at (i := 1) dy_p16_43 rfl
theorem dL_narrowHas_2 : decode cL_narrowHas 2 = .ok (.iload_n 1, 1) := dz_at (i := 2) dy_p16_43 rfl
theorem dL_narrowHas_3 : decode cL_narrowHas 3 = .ok (.invokevirtual 165, 3) := dz_at (i := 3) dy_p16_43 rfl
theorem dL_narrowHas_6 : decode cL_narrowHas 6 = .ok (.ifCond .eq 7, 3) := dz_at (i := 4) dy_p16_43 rfl
theorem dL_narrowHas_9 : decode cL_narrowHas 9 = .ok (.lconst 1, 1) := dz_at (i := 5) dy_p16_43 rfl
theorem dL_narrowHas_10 : decode cL_narrowHas 10 = .ok (.goto 4, 3) := dz_at (i := 6) dy_p16_43 rfl
theorem dL_narrowHas_13 : decode cL_narrowHas 13 = .ok (.lconst 0, 1) := dz_at (i := 7) dy_p16_43 rfl
theorem dL_narrowHas_14 : decode cL_narrowHas 14 = .ok (.putfield 13, 3) := dz_at (i := 8) dy_p16_43 rfl
theorem dL_narrowHas_17 : decode cL_narrowHas 17 = .ok (.goto 6, 3) := dz_at (i := 9) dy_p16_43 rfl
theorem dL_narrowHas_20 : decode cL_narrowHas 20 = .ok (.astore_n 3, 1) := dz_at (i := 10) dy_p16_43 rfl
theorem dL_narrowHas_21 : decode cL_narrowHas 21 = .ok (.iconst 1, 1) := dz_at (i := 11) dy_p16_43 rfl
theorem dL_narrowHas_22 : decode cL_narrowHas 22 = .ok (.ireturn, 1) := dz_at (i := 12) dy_p16_43 rfl
theorem dL_narrowHas_23 : decode cL_narrowHas 23 = .ok (.iconst 0, 1) := dz_at (i := 13) dy_p16_43 rfl
theorem dL_narrowHas_24 : decode cL_narrowHas 24 = .ok (.ireturn, 1) := dz_at (i := 14) dy_p16_43 rfl
noncomputable def o_L_narrowHas (f2 : Nat → Int64) (nv : Int64) (p1 : Int32) : Int32 × Int64 :=
  if (o_X2_narrowHas f2 p1).1 = 0 then (if (o_X2_narrowHas f2 p1).2 = true then (0, 1)
    else (0, 0))
  else (1, nv)
set_option maxHeartbeats 4000000 in
set_option maxRecDepth 100000 in
theorem k_L_narrowHas (l : Launch) (hfl : l.flags = flags0) (dC : Nat → ClassId) (dI : Nat → Nat → Nat) (cy : ClassId) (h0 : Nat) (h1 : Nat) (hw1 : Nat) (hc1 : Nat) (hb1 : Nat) (h2 : Nat) (hw2 : Nat) (hc2 : Nat) (hb2 : Nat) (a1 : Int32) (r1 : Int32) (f1 : Nat → Int64) (g1 : Nat → Int64) (a2 : Int32) (r2 : Int32) (f2 : Nat → Int64) (g2 : Nat → Int64) (kn : Int32) (ho : Nat) (nv : Int64) (sv : Value) (sz : Nat) (N : Nat) (p1 : Int32) : Met l yL_narrowHas wsL_narrowHas ({ frames := 9, cells := 1, slots := 6, locals := 166 }) (va_Pc [.ref h0, .int p1, .ref ho] (xL (dC, dI) xCl [(h0, eE h1 h2 kn), (h1, eR hw1 hc1 hb1 a1 r1), (hw1, eW true), (hc1, eA cy f1), (hb1, eA cy g1), (h2, eR hw2 hc2 hb2 a2 r2), (hw2, eW false), (hc2, eA cy f2), (hb2, eA cy g2), (ho, eO nv sv)] [(cy, .long)] sz N)) (va_Qi (fun (r : Int32) (_ : Unit) => r = (o_L_narrowHas f2 nv p1).1) (fun _ t => xW (dC, dI) xCl [(h0, eE h1 h2 kn), (h1, eR hw1 hc1 hb1 a1 r1), (hw1, eW true), (hc1, eA cy f1), (hb1, eA cy g1), (h2, eR hw2 hc2 hb2 a2 r2), (hw2, eW false), (hc2, eA cy f2), (hb2, eA cy g2), (ho, eO (o_L_narrowHas f2 nv p1).2 sv)] (va_A [(h0, eE h1 h2 kn), (h1, eR hw1 hc1 hb1 a1 r1), (hw1, eW true), (hc1, eA cy f1), (hb1, eA cy g1), (h2, eR hw2 hc2 hb2 a2 r2), (hw2, eW false), (hc2, eA cy f2), (hb2, eA cy g2), (ho, eO nv sv)] sz) t) (va_A [(h0, eE h1 h2 kn), (h1, eR hw1 hc1 hb1 a1 r1), (hw1, eW true), (hc1, eA cy f1), (hb1, eA cy g1), (h2, eR hw2 hc2 hb2 a2 r2), (hw2, eW false), (hc2, eA cy f2), (hb2, eA cy g2), (ho, eO nv sv)] sz)) 1 6 (va_A [(h0, eE h1 h2 kn), (h1, eR hw1 hc1 hb1 a1 r1), (hw1, eW true), (hc1, eA cy f1), (hb1, eA cy g1), (h2, eR hw2 hc2 hb2 a2 r2), (hw2, eW false), (hc2, eA cy f2), (hb2, eA cy g2), (ho, eO nv sv)] sz) := by
  refine va_MetW (cc := cL_narrowHas) (maxL := 4) (ret := (some .int)) (by decide +kernel) rfl ?_
  intro p e s m args below meth c s₁ B hml hv
  obtain ⟨rfl, ⟨hsz, hP, hK, hD0, hN, hG⟩, hnc⟩ := hv
  have hx := B.exec
  have hb := B.bytes
  have hr := B.returns
  have hts := atoms_spec (ws := wsL_narrowHas) B.pre
  have hown : s.vm.findClass RL = some m.cls := findClass_of_methodNamed B.named
  have hlocks := B.notSynchronized
  have htab := vx_table (x := yL_narrowHas) B (hts _ List.mem_cons_self)
  subst hsz
  have hAN : ∀ q, va_A [(h0, eE h1 h2 kn), (h1, eR hw1 hc1 hb1 a1 r1), (hw1, eW true), (hc1, eA cy f1), (hb1, eA cy g1), (h2, eR hw2 hc2 hb2 a2 r2), (hw2, eW false), (hc2, eA cy f2), (hb2, eA cy g2), (ho, eO nv sv)] s.heap.size q → N ≤ q := xA_N hD0 hN
  have hD := hD0.self (sz := s.heap.size)
  generalize hAe : va_A [(h0, eE h1 h2 kn), (h1, eR hw1 hc1 hb1 a1 r1), (hw1, eW true), (hc1, eA cy f1), (hb1, eA cy g1), (h2, eR hw2 hc2 hb2 a2 r2), (hw2, eW false), (hc2, eA cy f2), (hb2, eA cy g2), (ho, eO nv sv)] s.heap.size = A at hD hAN ⊢
  have hA : ∀ q : Nat, s.heap.size ≤ q → A q := fun q h => by rw [← hAe]; exact Or.inr h
  have hS : va_S A s.heap s.heap [] := va_S.rf
  have hP : va_P (dC, dI) xCl [(h0, eE h1 h2 kn), (h1, eR hw1 hc1 hb1 a1 r1), (hw1, eW true), (hc1, eA cy f1), (hb1, eA cy g1), (h2, eR hw2 hc2 hb2 a2 r2), (hw2, eW false), (hc2, eA cy f2), (hb2, eA cy g2), (ho, eO nv sv)] s.heap := hP
  have hl := lv_entry ([.ref h0, .int p1, .ref ho]) (n := 4) (Nat.le_of_ble_eq_true rfl)
  rw [lg_entry_eq]
  generalize (lg_sl ([.ref h0, .int p1, .ref ho]) ++ List.replicate (4 - (lg_sl ([.ref h0, .int p1, .ref ho])).length) Slot.unset).toArray = ls at hl ⊢
  have hl : lv_has ls 4 [(0, .ref h0), (1, .int p1), (2, .ref ho)] := hl
  refine lv_aload_n hx hb dL_narrowHas_0 rfl (lv_at hl 2 rfl) ?_
  refine lv_aload_n hx hb dL_narrowHas_1 rfl (lv_at hl 0 rfl) ?_
  refine lv_iload_n hx hb dL_narrowHas_2 rfl (lv_at hl 1 rfl) ?_
  have hPc := hP.sub (ws' := [(h0, eE h1 h2 kn), (h1, eR hw1 hc1 hb1 a1 r1), (hw1, eW true), (hc1, eA cy f1), (hb1, eA cy g1), (h2, eR hw2 hc2 hb2 a2 r2), (hw2, eW false), (hc2, eA cy f2), (hb2, eA cy g2)]) [0, 1, 2, 3, 4, 5, 6, 7, 8] rfl
  have hDc := hD.sub (ws' := [(h0, eE h1 h2 kn), (h1, eR hw1 hc1 hb1 a1 r1), (hw1, eW true), (hc1, eA cy f1), (hb1, eA cy g1), (h2, eR hw2 hc2 hb2 a2 r2), (hw2, eW false), (hc2, eA cy f2), (hb2, eA cy g2)]) [0, 1, 2, 3, 4, 5, 6, 7, 8] (by decide +kernel) rfl
  have hKc := hK.sub (tys' := [(cy, .long)]) [0] rfl
  refine vx_calli (vx_runV (As := [.int p1]) (rest := [.ref ho]) ⟨hx, hb, hml, hown, hts⟩ (k_X2_narrowHas l hfl dC dI cy h0 h1 hw1 hc1 hb1 h2 hw2 hc2 hb2 a1 r1 f1 g1 a2 r2 f2 g2 kn s.heap.size N p1) (cwV 1 hts gL_narrowHas_X2_narrowHas rfl rfl rfl (by decide +kernel) ⟨Nat.le_of_ble_eq_true rfl, Nat.le_of_ble_eq_true rfl⟩) (xM.preV hKc hPc hDc hAN (Nat.le_trans hN hS.1) (hG.kept hS hAN) (ci := 4) (q0 := 0) rfl rfl) rfl rfl hl.1 rfl (lv_room (Nat.le_of_ble_eq_true rfl)) dL_narrowHas_3 ⟨Nat.le_of_ble_eq_true rfl, Nat.le_of_ble_eq_true rfl⟩) hS xA_old (fun q h => hA q (Nat.le_trans hS.1 h)) xA_old (fun E ce q9 u9 t H locs ht hvm hpx hbx hz hk hS hce hcv hcl => ?_) (fun r_1 u t H locs ht hvm hw hB hz hk hS => ?_)
  · have c_2 : ¬ (o_X2_narrowHas f2 p1).1 = 0 := hpx
    have hbe := hbx
    have hP := xP_keep hP hk
    have hE : E = "java/lang/IllegalArgumentException" := hbe.trans (by rw [show (o_X2_narrowHas f2 p1).1 = 2 from (xr_X2_narrowHas _ _ c_2)]; rfl)
    subst hE
    refine vx_catch (own := RL) (name := "java/lang/IllegalArgumentException") hown [] ⟨0, 17, 20, 25⟩ [] htab (fun z hz => absurd hz List.not_mem_nil) (by decide +kernel) (by decide +kernel) (hts (.classLink RL 25 "java/lang/IllegalArgumentException") (by decide +kernel)) (va_Nw.use rfl (hG.1 (.castable "java/lang/IllegalArgumentException" "java/lang/IllegalArgumentException") (List.mem_of_getElem? (i := 12) rfl))) hce hcv hcl ?_
    refine lv_astore_n (lv' := [(3, .ref q9), (0, .ref h0), (1, .int p1), (2, .ref ho)]) hx hb dL_narrowHas_20 rfl hl (by decide +kernel) rfl (fun ls hl => ?_)
    refine lv_iconst (v := 1) hx hb dL_narrowHas_21 (by decide +kernel) ?_
    have he : o_L_narrowHas f2 nv p1 = (1, nv) := by (rw [o_L_narrowHas, if_neg c_2]) <;> rfl
    refine W.widen (k := 1) (n := 6) (by omega) (by omega) ?_
    exact W.iret (v := 1) hx hb hr (fun t ht hW => ⟨⟨_, (), rfl, (by (rw [he]) <;> rfl), (by rw [he]; exact ⟨by rw [ht]; exact hP, hD⟩)⟩, hS.F ht⟩) hS.2.2 dL_narrowHas_22
  · skip
    obtain ⟨c_3, hw⟩ := hw
    have c_3 : (o_X2_narrowHas f2 p1).1 = 0 := c_3
    replace hw : r_1 = b2i ((o_X2_narrowHas f2 p1).2) := hw
    subst r_1
    have hP := xP_keep hP hk
    refine xz_eq (tgt := 13) hx hb dL_narrowHas_6 (by decide +kernel) (fun c_4 => ?_) (fun c_4 => ?_)
    · skip
      refine lv_lconst (v := 0) hx hb dL_narrowHas_13 (by decide +kernel) ?_
      refine va_putN (D := (dC, dI)) (ci := 5) (v := .long 0) (ty := .long) (C := RX3) (T := TX3) (N := 2) hx hb hts (by decide +kernel) tyX3 tyX3_ok nmX3 hown hK hP hD hS 9 rfl rfl 0 (by decide +kernel) (va_Nw.use rfl (hG.1 (.fieldLinkNest RL 13 "EdgefloatsLaw$Out" "n" "J" RL) (List.mem_of_getElem? (i := 6) rfl))) (fun _ h9 => h9) rfl (by decide +kernel) rfl rfl (Nat.le_of_ble_eq_true rfl) dL_narrowHas_14 (fun H locs hP hD hS => ?_)
      have hP : va_P (dC, dI) xCl [(h0, eE h1 h2 kn), (h1, eR hw1 hc1 hb1 a1 r1), (hw1, eW true), (hc1, eA cy f1), (hb1, eA cy g1), (h2, eR hw2 hc2 hb2 a2 r2), (hw2, eW false), (hc2, eA cy f2), (hb2, eA cy g2), (ho, eO 0 sv)] H := hP
      have hD : va_D A [(h0, eE h1 h2 kn), (h1, eR hw1 hc1 hb1 a1 r1), (hw1, eW true), (hc1, eA cy f1), (hb1, eA cy g1), (h2, eR hw2 hc2 hb2 a2 r2), (hw2, eW false), (hc2, eA cy f2), (hb2, eA cy g2), (ho, eO 0 sv)] := hD
      refine lv_goto (tgt := 23) hx hb dL_narrowHas_17 (by decide +kernel) ?_
      refine lv_iconst (v := 0) hx hb dL_narrowHas_23 (by decide +kernel) ?_
      have he : o_L_narrowHas f2 nv p1 = (0, 0) := by (rw [o_L_narrowHas, if_pos c_3, if_neg c_4]) <;> rfl
      refine W.widen (k := 1) (n := 6) (by omega) (by omega) ?_
      exact W.iret (v := 0) hx hb hr (fun t ht hW => ⟨⟨_, (), rfl, (by (rw [he]) <;> rfl), (by rw [he]; exact ⟨by rw [ht]; exact hP, hD⟩)⟩, hS.F ht⟩) hS.2.2 dL_narrowHas_24
    · skip
      refine lv_lconst (v := 1) hx hb dL_narrowHas_9 (by decide +kernel) ?_
      refine lv_goto (tgt := 14) hx hb dL_narrowHas_10 (by decide +kernel) ?_
      refine va_putN (D := (dC, dI)) (ci := 5) (v := .long 1) (ty := .long) (C := RX3) (T := TX3) (N := 2) hx hb hts (by decide +kernel) tyX3 tyX3_ok nmX3 hown hK hP hD hS 9 rfl rfl 0 (by decide +kernel) (va_Nw.use rfl (hG.1 (.fieldLinkNest RL 13 "EdgefloatsLaw$Out" "n" "J" RL) (List.mem_of_getElem? (i := 6) rfl))) (fun _ h9 => h9) rfl (by decide +kernel) rfl rfl (Nat.le_of_ble_eq_true rfl) dL_narrowHas_14 (fun H locs hP hD hS => ?_)
      have hP : va_P (dC, dI) xCl [(h0, eE h1 h2 kn), (h1, eR hw1 hc1 hb1 a1 r1), (hw1, eW true), (hc1, eA cy f1), (hb1, eA cy g1), (h2, eR hw2 hc2 hb2 a2 r2), (hw2, eW false), (hc2, eA cy f2), (hb2, eA cy g2), (ho, eO 1 sv)] H := hP
      have hD : va_D A [(h0, eE h1 h2 kn), (h1, eR hw1 hc1 hb1 a1 r1), (hw1, eW true), (hc1, eA cy f1), (hb1, eA cy g1), (h2, eR hw2 hc2 hb2 a2 r2), (hw2, eW false), (hc2, eA cy f2), (hb2, eA cy g2), (ho, eO 1 sv)] := hD
      refine lv_goto (tgt := 23) hx hb dL_narrowHas_17 (by decide +kernel) ?_
      refine lv_iconst (v := 0) hx hb dL_narrowHas_23 (by decide +kernel) ?_
      have he : o_L_narrowHas f2 nv p1 = (0, 1) := by (rw [o_L_narrowHas, if_pos c_3, if_pos c_4]) <;> rfl
      refine W.widen (k := 1) (n := 6) (by omega) (by omega) ?_
      exact W.iret (v := 0) hx hb hr (fun t ht hW => ⟨⟨_, (), rfl, (by (rw [he]) <;> rfl), (by rw [he]; exact ⟨by rw [ht]; exact hP, hD⟩)⟩, hS.F ht⟩) hS.2.2 dL_narrowHas_24
theorem cl_L_house_1 : ∀ w ∈ [.classLink RL 25 "java/lang/IllegalArgumentException", .methodLink RL 168 yX2_house, .instanceMethod yX2_house, .selects RX2 yX2_house yX2_house, .initialized RX2, .code yX2_house cX2_house 2 (some .int), .methodLink RX2 110 yX2_checkChoice, .static yX2_checkChoice, .code yX2_checkChoice cX2_checkChoice 2 none, .classLink RX2 155 "java/lang/IllegalArgumentException", .initialized "java/lang/IllegalArgumentException", .methodLink RX2 114 yX2_counted, .instanceMethod yX2_counted, .selects RX2 yX2_counted yX2_counted, .code yX2_counted cX2_counted 2 (some .int), .fieldLink RX2 20 "Edgefloats" "wide" "LEdgefloats$Row;", .fieldLink RX2 25 "Edgefloats" "narrow" "LEdgefloats$Row;", .fieldLink RX2 117 "Edgefloats" "knocks" "I"], w ∈ wsL_house := fun _ h => (List.mem_cons_of_mem _ (List.mem_append_left _ (List.mem_append_left _ (List.mem_append_left _ (List.mem_append_left _ h)))))
theorem cl_L_house_2 : ∀ w ∈ wsX30, w ∈ wsL_house := fun _ h => (List.mem_cons_of_mem _ (List.mem_append_left _ (List.mem_append_left _ (List.mem_append_left _ (List.mem_append_right _ h)))))
theorem cl_L_house_3 : ∀ w ∈ wsX20, w ∈ wsL_house := fun _ h => (List.mem_cons_of_mem _ (List.mem_append_left _ (List.mem_append_left _ (List.mem_append_right _ h))))
theorem cl_L_house_4 : ∀ w ∈ wsX00, w ∈ wsL_house := fun _ h => (List.mem_cons_of_mem _ (List.mem_append_left _ (List.mem_append_right _ h)))
theorem cl_L_house_5 : ∀ w ∈ (vx_atS RX2 159 "java/lang/IllegalArgumentException" ["java/lang/RuntimeException", "java/lang/Exception"]).filter goodWord, w ∈ wsL_house := fun _ h => (List.mem_cons_of_mem _ (List.mem_append_right _ h))
set_option maxRecDepth 20000 in
theorem ggL_house_X2_house : GoodIn wsL_house wsX2_house := goodIn_sub (List.forall_mem_cons.mpr ⟨(cl_L_house_1 _ (List.mem_of_getElem? (i := 5) rfl)), fun w h => (List.mem_append.mp h).elim ((fun w h => (List.mem_append.mp h).elim ((fun w h => (List.mem_append.mp h).elim ((List.forall_mem_cons.mpr ⟨(cl_L_house_1 _ (List.mem_of_getElem? (i := 6) rfl)), List.forall_mem_cons.mpr ⟨(cl_L_house_1 _ (List.mem_of_getElem? (i := 7) rfl)), List.forall_mem_cons.mpr ⟨(cl_L_house_1 _ (List.mem_of_getElem? (i := 4) rfl)), List.forall_mem_cons.mpr ⟨(cl_L_house_1 _ (List.mem_of_getElem? (i := 8) rfl)), List.forall_mem_cons.mpr ⟨(cl_L_house_1 _ (List.mem_of_getElem? (i := 9) rfl)), List.forall_mem_cons.mpr ⟨(cl_L_house_1 _ (List.mem_of_getElem? (i := 10) rfl)), List.forall_mem_cons.mpr ⟨(cl_L_house_1 _ (List.mem_of_getElem? (i := 11) rfl)), List.forall_mem_cons.mpr ⟨(cl_L_house_1 _ (List.mem_of_getElem? (i := 12) rfl)), List.forall_mem_cons.mpr ⟨(cl_L_house_1 _ (List.mem_of_getElem? (i := 13) rfl)), List.forall_mem_cons.mpr ⟨(cl_L_house_1 _ (List.mem_of_getElem? (i := 14) rfl)), List.forall_mem_cons.mpr ⟨(cl_L_house_1 _ (List.mem_of_getElem? (i := 15) rfl)), List.forall_mem_cons.mpr ⟨(cl_L_house_1 _ (List.mem_of_getElem? (i := 16) rfl)), List.forall_mem_cons.mpr ⟨(cl_L_house_1 _ (List.mem_of_getElem? (i := 17) rfl)), fun _ h => absurd h List.not_mem_nil⟩⟩⟩⟩⟩⟩⟩⟩⟩⟩⟩⟩⟩) w) ((cl_L_house_3) w)) w) ((cl_L_house_4) w)) w) ((cl_L_house_5) w)⟩) (by decide +kernel)
set_option maxRecDepth 20000 in
theorem gL_house_X2_house : GoodIn wsL_house (wsV RL 168 RX2 yX2_house wsX2_house) := goodIn_app (goodIn_sub (List.forall_mem_cons.mpr ⟨(cl_L_house_1 _ (List.mem_of_getElem? (i := 1) rfl)), List.forall_mem_cons.mpr ⟨(cl_L_house_1 _ (List.mem_of_getElem? (i := 2) rfl)), List.forall_mem_cons.mpr ⟨(cl_L_house_1 _ (List.mem_of_getElem? (i := 3) rfl)), List.forall_mem_cons.mpr ⟨(cl_L_house_1 _ (List.mem_of_getElem? (i := 4) rfl)), fun _ h => absurd h List.not_mem_nil⟩⟩⟩⟩) (by decide +kernel)) ggL_house_X2_house
noncomputable def dz_p16_44 : List (Nat × Instr × Nat) := [(0, (.aload_n 2, 1)), (1, (.aload_n 0, 1)), (2, (.iload_n 1, 1)), (3, (.invokevirtual 168, 3)), (6, (.i2l, 1)), (7, (.putfield 13, 3)), (10, (.goto 6, 3)), (13, (.astore_n 3, 1)), (14, (.iconst 1, 1)), (15, (.ireturn, 1)), (16, (.iconst 0, 1)), (17, (.ireturn, 1))]
theorem dy_p16_44 : dz_ok cL_house dz_p16_44 = true := by decide +kernel
theorem dL_house_0 : decode cL_house 0 = .ok (.aload_n 2, 1) := dz_at (i := 0) dy_p16_44 rfl
theorem dL_house_1 : decode cL_house 1 = .ok (.aload_n 0, 1) := dz_at (i := 1) dy_p16_44 rfl
theorem dL_house_2 : decode cL_house 2 = .ok (.iload_n 1, 1) := dz_at (i := 2) dy_p16_44 rfl
theorem dL_house_3 : decode cL_house 3 = .ok (.invokevirtual 168, 3) := dz_at (i := 3) dy_p16_44 rfl
theorem dL_house_6 : decode cL_house 6 = .ok (.i2l, 1) := dz_at (i := 4) dy_p16_44 rfl
theorem dL_house_7 : decode cL_house 7 = .ok (.putfield 13, 3) := dz_at (i := 5) dy_p16_44 rfl
theorem dL_house_10 : decode cL_house 10 = .ok (.goto 6, 3) := dz_at (i := 6) dy_p16_44 rfl
theorem dL_house_13 : decode cL_house 13 = .ok (.astore_n 3, 1) := dz_at (i := 7) dy_p16_44 rfl
theorem dL_house_14 : decode cL_house 14 = .ok (.iconst 1, 1) := dz_at (i := 8) dy_p16_44 rfl
theorem dL_house_15 : decode cL_house 15 = .ok (.ireturn, 1) := dz_at (i := 9) dy_p16_44 rfl
theorem dL_house_16 : decode cL_house 16 = .ok (.iconst 0, 1) := dz_at (i := 10) dy_p16_44 rfl
theorem dL_house_17 : decode cL_house 17 = .ok (.ireturn, 1) := dz_at (i := 11) dy_p16_44 rfl
noncomputable def o_L_house (a1 : Int32) (r1 : Int32) (a2 : Int32) (r2 : Int32) (kn : Int32) (nv : Int64) (p1 : Int32) : Int32 × Int64 :=
  if (o_X2_house a1 r1 a2 r2 kn p1).1 = 0 then (0, (((o_X2_house a1 r1 a2 r2 kn p1).2).toInt64))
  else (1, nv)
set_option maxHeartbeats 4000000 in
set_option maxRecDepth 100000 in
theorem k_L_house (l : Launch) (hfl : l.flags = flags0) (dC : Nat → ClassId) (dI : Nat → Nat → Nat) (cy : ClassId) (h0 : Nat) (h1 : Nat) (hw1 : Nat) (hc1 : Nat) (hb1 : Nat) (h2 : Nat) (hw2 : Nat) (hc2 : Nat) (hb2 : Nat) (a1 : Int32) (r1 : Int32) (f1 : Nat → Int64) (g1 : Nat → Int64) (a2 : Int32) (r2 : Int32) (f2 : Nat → Int64) (g2 : Nat → Int64) (kn : Int32) (ho : Nat) (nv : Int64) (sv : Value) (sz : Nat) (N : Nat) (p1 : Int32) : Met l yL_house wsL_house ({ frames := 8, cells := 1, slots := 6, locals := 142 }) (va_Pc [.ref h0, .int p1, .ref ho] (xL (dC, dI) xCl [(h0, eE h1 h2 kn), (h1, eR hw1 hc1 hb1 a1 r1), (hw1, eW true), (hc1, eA cy f1), (hb1, eA cy g1), (h2, eR hw2 hc2 hb2 a2 r2), (hw2, eW false), (hc2, eA cy f2), (hb2, eA cy g2), (ho, eO nv sv)] [(cy, .long)] sz N)) (va_Qi (fun (r : Int32) (_ : Unit) => r = (o_L_house a1 r1 a2 r2 kn nv p1).1) (fun _ t => xW (dC, dI) xCl [(h0, eE h1 h2 kn), (h1, eR hw1 hc1 hb1 a1 r1), (hw1, eW true), (hc1, eA cy f1), (hb1, eA cy g1), (h2, eR hw2 hc2 hb2 a2 r2), (hw2, eW false), (hc2, eA cy f2), (hb2, eA cy g2), (ho, eO (o_L_house a1 r1 a2 r2 kn nv p1).2 sv)] (va_A [(h0, eE h1 h2 kn), (h1, eR hw1 hc1 hb1 a1 r1), (hw1, eW true), (hc1, eA cy f1), (hb1, eA cy g1), (h2, eR hw2 hc2 hb2 a2 r2), (hw2, eW false), (hc2, eA cy f2), (hb2, eA cy g2), (ho, eO nv sv)] sz) t) (va_A [(h0, eE h1 h2 kn), (h1, eR hw1 hc1 hb1 a1 r1), (hw1, eW true), (hc1, eA cy f1), (hb1, eA cy g1), (h2, eR hw2 hc2 hb2 a2 r2), (hw2, eW false), (hc2, eA cy f2), (hb2, eA cy g2), (ho, eO nv sv)] sz)) 1 6 (va_A [(h0, eE h1 h2 kn), (h1, eR hw1 hc1 hb1 a1 r1), (hw1, eW true), (hc1, eA cy f1), (hb1, eA cy g1), (h2, eR hw2 hc2 hb2 a2 r2), (hw2, eW false), (hc2, eA cy f2), (hb2, eA cy g2), (ho, eO nv sv)] sz) := by
  refine va_MetW (cc := cL_house) (maxL := 4) (ret := (some .int)) (by decide +kernel) rfl ?_
  intro p e s m args below meth c s₁ B hml hv
  obtain ⟨rfl, ⟨hsz, hP, hK, hD0, hN, hG⟩, hnc⟩ := hv
  have hx := B.exec
  have hb := B.bytes
  have hr := B.returns
  have hts := atoms_spec (ws := wsL_house) B.pre
  have hown : s.vm.findClass RL = some m.cls := findClass_of_methodNamed B.named
  have hlocks := B.notSynchronized
  have htab := vx_table (x := yL_house) B (hts _ List.mem_cons_self)
  subst hsz
  have hAN : ∀ q, va_A [(h0, eE h1 h2 kn), (h1, eR hw1 hc1 hb1 a1 r1), (hw1, eW true), (hc1, eA cy f1), (hb1, eA cy g1), (h2, eR hw2 hc2 hb2 a2 r2), (hw2, eW false), (hc2, eA cy f2), (hb2, eA cy g2), (ho, eO nv sv)] s.heap.size q → N ≤ q := xA_N hD0 hN
  have hD := hD0.self (sz := s.heap.size)
  generalize hAe : va_A [(h0, eE h1 h2 kn), (h1, eR hw1 hc1 hb1 a1 r1), (hw1, eW true), (hc1, eA cy f1), (hb1, eA cy g1), (h2, eR hw2 hc2 hb2 a2 r2), (hw2, eW false), (hc2, eA cy f2), (hb2, eA cy g2), (ho, eO nv sv)] s.heap.size = A at hD hAN ⊢
  have hA : ∀ q : Nat, s.heap.size ≤ q → A q := fun q h => by rw [← hAe]; exact Or.inr h
  have hS : va_S A s.heap s.heap [] := va_S.rf
  have hP : va_P (dC, dI) xCl [(h0, eE h1 h2 kn), (h1, eR hw1 hc1 hb1 a1 r1), (hw1, eW true), (hc1, eA cy f1), (hb1, eA cy g1), (h2, eR hw2 hc2 hb2 a2 r2), (hw2, eW false), (hc2, eA cy f2), (hb2, eA cy g2), (ho, eO nv sv)] s.heap := hP
  have hl := lv_entry ([.ref h0, .int p1, .ref ho]) (n := 4) (Nat.le_of_ble_eq_true rfl)
  rw [lg_entry_eq]
  generalize (lg_sl ([.ref h0, .int p1, .ref ho]) ++ List.replicate (4 - (lg_sl ([.ref h0, .int p1, .ref ho])).length) Slot.unset).toArray = ls at hl ⊢
  have hl : lv_has ls 4 [(0, .ref h0), (1, .int p1), (2, .ref ho)] := hl
  refine lv_aload_n hx hb dL_house_0 rfl (lv_at hl 2 rfl) ?_
  refine lv_aload_n hx hb dL_house_1 rfl (lv_at hl 0 rfl) ?_
  refine lv_iload_n hx hb dL_house_2 rfl (lv_at hl 1 rfl) ?_
  have hPc := hP.sub (ws' := [(h0, eE h1 h2 kn), (h1, eR hw1 hc1 hb1 a1 r1), (hw1, eW true), (hc1, eA cy f1), (hb1, eA cy g1), (h2, eR hw2 hc2 hb2 a2 r2), (hw2, eW false), (hc2, eA cy f2), (hb2, eA cy g2)]) [0, 1, 2, 3, 4, 5, 6, 7, 8] rfl
  have hDc := hD.sub (ws' := [(h0, eE h1 h2 kn), (h1, eR hw1 hc1 hb1 a1 r1), (hw1, eW true), (hc1, eA cy f1), (hb1, eA cy g1), (h2, eR hw2 hc2 hb2 a2 r2), (hw2, eW false), (hc2, eA cy f2), (hb2, eA cy g2)]) [0, 1, 2, 3, 4, 5, 6, 7, 8] (by decide +kernel) rfl
  have hKc := hK.sub (tys' := [(cy, .long)]) [0] rfl
  refine vx_calli (vx_runV (As := [.int p1]) (rest := [.ref ho]) ⟨hx, hb, hml, hown, hts⟩ (k_X2_house l hfl dC dI cy h0 h1 hw1 hc1 hb1 h2 hw2 hc2 hb2 a1 r1 f1 g1 a2 r2 f2 g2 kn s.heap.size N p1) (cwV 1 hts gL_house_X2_house rfl rfl rfl (by decide +kernel) ⟨Nat.le_of_ble_eq_true rfl, Nat.le_of_ble_eq_true rfl⟩) (xM.preV hKc hPc hDc hAN (Nat.le_trans hN hS.1) (hG.kept hS hAN) (ci := 4) (q0 := 0) rfl rfl) rfl rfl hl.1 rfl (lv_room (Nat.le_of_ble_eq_true rfl)) dL_house_3 ⟨Nat.le_of_ble_eq_true rfl, Nat.le_of_ble_eq_true rfl⟩) hS xA_old (fun q h => hA q (Nat.le_trans hS.1 h)) xA_old (fun E ce q9 u9 t H locs ht hvm hpx hbx hz hk hS hce hcv hcl => ?_) (fun r_1 u t H locs ht hvm hw hB hz hk hS => ?_)
  · have c_2 : ¬ (o_X2_house a1 r1 a2 r2 kn p1).1 = 0 := hpx
    have hbe := hbx
    have hP := xP_keep hP hk
    have hE : E = "java/lang/IllegalArgumentException" := hbe.trans (by rw [show (o_X2_house a1 r1 a2 r2 kn p1).1 = 2 from (xr_X2_house _ _ _ _ _ _ c_2)]; rfl)
    subst hE
    refine vx_catch (own := RL) (name := "java/lang/IllegalArgumentException") hown [] ⟨0, 10, 13, 25⟩ [] htab (fun z hz => absurd hz List.not_mem_nil) (by decide +kernel) (by decide +kernel) (hts (.classLink RL 25 "java/lang/IllegalArgumentException") (by decide +kernel)) (va_Nw.use rfl (hG.1 (.castable "java/lang/IllegalArgumentException" "java/lang/IllegalArgumentException") (List.mem_of_getElem? (i := 12) rfl))) hce hcv hcl ?_
    refine lv_astore_n (lv' := [(3, .ref q9), (0, .ref h0), (1, .int p1), (2, .ref ho)]) hx hb dL_house_13 rfl hl (by decide +kernel) rfl (fun ls hl => ?_)
    refine lv_iconst (v := 1) hx hb dL_house_14 (by decide +kernel) ?_
    have he : o_L_house a1 r1 a2 r2 kn nv p1 = (1, nv) := by (rw [o_L_house, if_neg c_2]) <;> rfl
    refine W.widen (k := 1) (n := 6) (by omega) (by omega) ?_
    exact W.iret (v := 1) hx hb hr (fun t ht hW => ⟨⟨_, (), rfl, (by (rw [he]) <;> rfl), (by rw [he]; exact ⟨by rw [ht]; exact hP, hD⟩)⟩, hS.F ht⟩) hS.2.2 dL_house_15
  · skip
    obtain ⟨c_3, hw⟩ := hw
    have c_3 : (o_X2_house a1 r1 a2 r2 kn p1).1 = 0 := c_3
    replace hw : r_1 = (o_X2_house a1 r1 a2 r2 kn p1).2 := hw
    subst r_1
    have hP := xP_keep hP hk
    refine lv_i2l (v := (((o_X2_house a1 r1 a2 r2 kn p1).2).toInt64)) hx hb dL_house_6 rfl ?_
    refine va_putN (D := (dC, dI)) (ci := 5) (v := .long (((o_X2_house a1 r1 a2 r2 kn p1).2).toInt64)) (ty := .long) (C := RX3) (T := TX3) (N := 2) hx hb hts (by decide +kernel) tyX3 tyX3_ok nmX3 hown hK hP hD hS 9 rfl rfl 0 (by decide +kernel) (va_Nw.use rfl (hG.1 (.fieldLinkNest RL 13 "EdgefloatsLaw$Out" "n" "J" RL) (List.mem_of_getElem? (i := 6) rfl))) (fun _ h9 => h9) rfl (by decide +kernel) rfl rfl (Nat.le_of_ble_eq_true rfl) dL_house_7 (fun H locs hP hD hS => ?_)
    have hP : va_P (dC, dI) xCl [(h0, eE h1 h2 kn), (h1, eR hw1 hc1 hb1 a1 r1), (hw1, eW true), (hc1, eA cy f1), (hb1, eA cy g1), (h2, eR hw2 hc2 hb2 a2 r2), (hw2, eW false), (hc2, eA cy f2), (hb2, eA cy g2), (ho, eO (((o_X2_house a1 r1 a2 r2 kn p1).2).toInt64) sv)] H := hP
    have hD : va_D A [(h0, eE h1 h2 kn), (h1, eR hw1 hc1 hb1 a1 r1), (hw1, eW true), (hc1, eA cy f1), (hb1, eA cy g1), (h2, eR hw2 hc2 hb2 a2 r2), (hw2, eW false), (hc2, eA cy f2), (hb2, eA cy g2), (ho, eO (((o_X2_house a1 r1 a2 r2 kn p1).2).toInt64) sv)] := hD
    refine lv_goto (tgt := 16) hx hb dL_house_10 (by decide +kernel) ?_
    refine lv_iconst (v := 0) hx hb dL_house_16 (by decide +kernel) ?_
    have he : o_L_house a1 r1 a2 r2 kn nv p1 = (0, (((o_X2_house a1 r1 a2 r2 kn p1).2).toInt64)) := by (rw [o_L_house, if_pos c_3]) <;> rfl
    refine W.widen (k := 1) (n := 6) (by omega) (by omega) ?_
    exact W.iret (v := 0) hx hb hr (fun t ht hW => ⟨⟨_, (), rfl, (by (rw [he]) <;> rfl), (by rw [he]; exact ⟨by rw [ht]; exact hP, hD⟩)⟩, hS.F ht⟩) hS.2.2 dL_house_17
