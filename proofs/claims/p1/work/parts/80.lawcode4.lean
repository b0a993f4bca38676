set_option maxRecDepth 20000 in
theorem ggL_law_X10_again_1 : GoodIn wsL_law wsX10_again_r1 := goodIn_r _ [19, 785, 786, 787, 846, 26, 15, 855, 245, 246, 247, 2, 248, 27, 312, 139, 140, 25, 141, 142, 78, 143, 144, 145] (by decide +kernel) (by decide +kernel)
set_option maxRecDepth 20000 in
theorem ggL_law_X10_again_2 : GoodIn wsL_law wsX10_again_r2 := goodIn_r _ [146, 79, 80, 147, 135, 136, 137, 776, 496, 497, 86, 498, 98, 93, 393, 394, 395, 396, 162, 397, 398, 399, 400, 856] (by decide +kernel) (by decide +kernel)
set_option maxRecDepth 20000 in
theorem ggL_law_X10_again_3 : GoodIn wsL_law wsX10_again_r3 := goodIn_r _ [604, 605, 606, 596, 590, 857, 858, 859, 860, 861, 587, 588, 589, 591, 304, 305, 14, 306, 307, 36, 39, 592, 593, 594] (by decide +kernel) (by decide +kernel)
set_option maxRecDepth 20000 in
theorem ggL_law_X10_again_4 : GoodIn wsL_law wsX10_again_r4 := goodIn_r _ [595, 597, 598, 293, 294, 862, 600, 601, 602, 259, 260, 261, 262] (by decide +kernel) (by decide +kernel)
set_option maxRecDepth 20000 in
theorem ggL_law_X10_again_5 : GoodIn wsL_law wsX100 := goodIn_r _ [980, 981, 982, 983, 984, 985] (by decide +kernel) (by decide +kernel)
set_option maxRecDepth 20000 in
theorem ggL_law_X10_again_6 : GoodIn wsL_law wsX30 := goodIn_r _ [1023, 1024, 1025, 1026, 1027, 1028, 1029] (by decide +kernel) (by decide +kernel)
set_option maxRecDepth 20000 in
theorem ggL_law_X10_again_7 : GoodIn wsL_law wsX00 := goodIn_r _ [1046, 1047, 1048, 1049, 1050, 1051, 1052, 1053, 1054] (by decide +kernel) (by decide +kernel)
set_option maxRecDepth 20000 in
theorem ggL_law_X10_again_8 : GoodIn wsL_law wsX20 := goodIn_r _ [1068, 1069, 1070, 1071, 1072, 1073, 1074, 1075, 1076, 1077, 1078, 1079, 1080, 1081] (by decide +kernel) (by decide +kernel)
set_option maxRecDepth 20000 in
theorem ggL_law_X10_again_9 : GoodIn wsL_law wsX80 := goodIn_r _ [1064, 1065, 1066, 1067] (by decide +kernel) (by decide +kernel)
set_option maxRecDepth 20000 in
theorem ggL_law_X10_again_10 : GoodIn wsL_law wsX60 := goodIn_r _ [1010, 1011, 1012, 1013, 1014, 1015, 1016, 1017, 1018, 1019, 1020, 1021, 1022] (by decide +kernel) (by decide +kernel)
set_option maxRecDepth 20000 in
theorem ggL_law_X10_again_11 : GoodIn wsL_law wsX10 := goodIn_r _ [1030, 1031, 1032] (by decide +kernel) (by decide +kernel)
theorem ggL_law_X10_again : GoodIn wsL_law wsX10_again := (goodIn_app (a := [.code yX10_again cX10_again 6 (some .int)]) ggL_law_X10_again_c (goodIn_app (goodIn_app (goodIn_app (goodIn_app (goodIn_app (goodIn_app (goodIn_app (goodIn_app ggL_law_X10_again_1 (goodIn_app ggL_law_X10_again_2 (goodIn_app ggL_law_X10_again_3 ggL_law_X10_again_4))) ggL_law_X10_again_5) ggL_law_X10_again_6) ggL_law_X10_again_7) ggL_law_X10_again_8) ggL_law_X10_again_9) ggL_law_X10_again_10) ggL_law_X10_again_11))
set_option maxRecDepth 20000 in
theorem gL_law_X10_again : GoodIn wsL_law (wsV RL 91 RX10 yX10_again wsX10_again) := goodIn_app (goodIn_of _ (by decide +kernel)) ggL_law_X10_again
set_option maxRecDepth 20000 in
theorem ggL_law_X11_again_c : GoodIn wsL_law [.code yX11_again cX11_again 3 (some .int)] := goodIn_r _ [866] (by decide +kernel) (by decide +kernel)
set_option maxRecDepth 20000 in
theorem ggL_law_X11_again_1 : GoodIn wsL_law wsX11_again_r1 := goodIn_r _ [213, 234, 225, 220, 226, 406, 277, 278, 279, 5, 280, 281, 274, 275, 276, 867, 868, 869, 870, 219, 696, 697, 698, 699] (by decide +kernel) (by decide +kernel)
set_option maxRecDepth 20000 in
theorem ggL_law_X11_again_2 : GoodIn wsL_law wsX11_again_r2 := goodIn_r _ [700, 701, 218, 322, 323, 324, 325, 214, 215, 326, 327, 328, 329, 282, 283, 284, 285] (by decide +kernel) (by decide +kernel)
set_option maxRecDepth 20000 in
theorem ggL_law_X11_again_3 : GoodIn wsL_law wsX110 := goodIn_r _ [986, 987, 988, 989, 990, 991, 992, 993, 994, 995, 996, 997, 998, 999, 1000, 1001, 1002, 1003, 1004, 1005, 1006, 1007, 1008, 1009] (by decide +kernel) (by decide +kernel)
theorem ggL_law_X11_again : GoodIn wsL_law wsX11_again := (goodIn_app (a := [.code yX11_again cX11_again 3 (some .int)]) ggL_law_X11_again_c (goodIn_app (goodIn_app ggL_law_X11_again_1 ggL_law_X11_again_2) ggL_law_X11_again_3))
set_option maxRecDepth 20000 in
theorem gL_law_X11_again : GoodIn wsL_law (wsV RL 94 RX11 yX11_again wsX11_again) := goodIn_app (goodIn_of _ (by decide +kernel)) ggL_law_X11_again
set_option maxRecDepth 20000 in
theorem ggL_law_X10_keep_c : GoodIn wsL_law [.code yX10_keep cX10_keep 2 (some .int)] := goodIn_r _ [874] (by decide +kernel) (by decide +kernel)
set_option maxRecDepth 20000 in
theorem ggL_law_X10_keep_1 : GoodIn wsL_law wsX10_keep_r1 := goodIn_r _ [20, 16, 17, 18, 19, 22, 15, 875, 876, 877, 2, 878, 245, 246, 247, 248, 27, 41, 42, 43, 10, 11, 44, 45] (by decide +kernel) (by decide +kernel)
set_option maxRecDepth 20000 in
theorem ggL_law_X10_keep_2 : GoodIn wsL_law wsX10_keep_r2 := goodIn_r _ [46, 47, 48, 24, 25, 49, 50, 51, 52, 53, 54, 55, 56, 57, 58, 59, 60, 61, 62, 63, 64, 65, 66, 67] (by decide +kernel) (by decide +kernel)
set_option maxRecDepth 20000 in
theorem ggL_law_X10_keep_3 : GoodIn wsL_law wsX10_keep_r3 := goodIn_r _ [68, 21, 69, 70, 71, 72, 73, 74, 75, 76, 77, 78, 79, 80, 81, 82, 83, 84, 85, 86, 87, 88, 89, 90] (by decide +kernel) (by decide +kernel)
set_option maxRecDepth 20000 in
theorem ggL_law_X10_keep_4 : GoodIn wsL_law wsX10_keep_r4 := goodIn_r _ [91, 92, 93, 94, 95, 96, 97, 98, 99, 100, 101, 102, 103, 104, 105, 106, 107, 108, 109, 110, 111, 112, 113, 114] (by decide +kernel) (by decide +kernel)
set_option maxRecDepth 20000 in
theorem ggL_law_X10_keep_5 : GoodIn wsL_law wsX10_keep_r5 := goodIn_r _ [115, 116, 117, 118, 119, 120, 121, 122, 123, 124, 879, 880, 881, 882, 129, 883, 884, 885, 886, 611, 144, 145, 146, 887] (by decide +kernel) (by decide +kernel)
set_option maxRecDepth 20000 in
theorem ggL_law_X10_keep_6 : GoodIn wsL_law wsX10_keep_r6 := goodIn_r _ [888, 889, 890, 143, 891, 892, 893, 894, 152, 153, 154, 155, 156, 157, 895, 896, 897, 898, 162, 899, 900, 901, 902, 903] (by decide +kernel) (by decide +kernel)
set_option maxRecDepth 20000 in
theorem ggL_law_X10_keep_7 : GoodIn wsL_law wsX10_keep_r7 := goodIn_r _ [904, 167, 168, 169, 170, 171, 172, 905, 906, 907, 908, 177, 178, 179, 180, 181, 182, 190, 191, 192, 193, 194, 183, 184] (by decide +kernel) (by decide +kernel)
set_option maxRecDepth 20000 in
theorem ggL_law_X10_keep_8 : GoodIn wsL_law wsX10_keep_r8 := goodIn_r _ [909, 186, 187, 188, 189, 910, 911, 912, 913, 914, 915, 916, 917, 918, 919, 204, 205, 206, 920, 259, 260, 261, 262] (by decide +kernel) (by decide +kernel)
set_option maxRecDepth 20000 in
theorem ggL_law_X10_keep_9 : GoodIn wsL_law wsX100 := goodIn_r _ [980, 981, 982, 983, 984, 985] (by decide +kernel) (by decide +kernel)
set_option maxRecDepth 20000 in
theorem ggL_law_X10_keep_10 : GoodIn wsL_law wsX30 := goodIn_r _ [1023, 1024, 1025, 1026, 1027, 1028, 1029] (by decide +kernel) (by decide +kernel)
set_option maxRecDepth 20000 in
theorem ggL_law_X10_keep_11 : GoodIn wsL_law wsX60 := goodIn_r _ [1010, 1011, 1012, 1013, 1014, 1015, 1016, 1017, 1018, 1019, 1020, 1021, 1022] (by decide +kernel) (by decide +kernel)
set_option maxRecDepth 20000 in
theorem ggL_law_X10_keep_12 : GoodIn wsL_law wsX90 := goodIn_r _ [1033, 1034, 1035, 1036, 1037, 1038] (by decide +kernel) (by decide +kernel)
set_option maxRecDepth 20000 in
theorem ggL_law_X10_keep_13 : GoodIn wsL_law wsX10 := goodIn_r _ [1030, 1031, 1032] (by decide +kernel) (by decide +kernel)
set_option maxRecDepth 20000 in
theorem ggL_law_X10_keep_14 : GoodIn wsL_law wsX40 := goodIn_r _ [1039, 1040, 1041, 1042, 1043, 1044, 1045] (by decide +kernel) (by decide +kernel)
set_option maxRecDepth 20000 in
theorem ggL_law_X10_keep_15 : GoodIn wsL_law wsX00 := goodIn_r _ [1046, 1047, 1048, 1049, 1050, 1051, 1052, 1053, 1054] (by decide +kernel) (by decide +kernel)
set_option maxRecDepth 20000 in
theorem ggL_law_X10_keep_16 : GoodIn wsL_law wsX70 := goodIn_r _ [1055, 1056, 1057, 1058] (by decide +kernel) (by decide +kernel)
set_option maxRecDepth 20000 in
theorem ggL_law_X10_keep_17 : GoodIn wsL_law wsX50 := goodIn_r _ [1059, 1060, 1061, 1062, 1063] (by decide +kernel) (by decide +kernel)
set_option maxRecDepth 20000 in
theorem ggL_law_X10_keep_18 : GoodIn wsL_law wsX80 := goodIn_r _ [1064, 1065, 1066, 1067] (by decide +kernel) (by decide +kernel)
set_option maxRecDepth 20000 in
theorem ggL_law_X10_keep_19 : GoodIn wsL_law wsX20 := goodIn_r _ [1068, 1069, 1070, 1071, 1072, 1073, 1074, 1075, 1076, 1077, 1078, 1079, 1080, 1081] (by decide +kernel) (by decide +kernel)
theorem ggL_law_X10_keep : GoodIn wsL_law wsX10_keep := (goodIn_app (a := [.code yX10_keep cX10_keep 2 (some .int)]) ggL_law_X10_keep_c (goodIn_app (goodIn_app (goodIn_app (goodIn_app (goodIn_app (goodIn_app (goodIn_app (goodIn_app (goodIn_app (goodIn_app (goodIn_app (goodIn_app ggL_law_X10_keep_1 (goodIn_app ggL_law_X10_keep_2 (goodIn_app ggL_law_X10_keep_3 (goodIn_app ggL_law_X10_keep_4 (goodIn_app ggL_law_X10_keep_5 (goodIn_app ggL_law_X10_keep_6 (goodIn_app ggL_law_X10_keep_7 ggL_law_X10_keep_8))))))) ggL_law_X10_keep_9) ggL_law_X10_keep_10) ggL_law_X10_keep_11) ggL_law_X10_keep_12) ggL_law_X10_keep_13) ggL_law_X10_keep_14) ggL_law_X10_keep_15) ggL_law_X10_keep_16) ggL_law_X10_keep_17) ggL_law_X10_keep_18) ggL_law_X10_keep_19))
set_option maxRecDepth 20000 in
theorem gL_law_X10_keep : GoodIn wsL_law (wsV RL 95 RX10 yX10_keep wsX10_keep) := goodIn_app (goodIn_of _ (by decide +kernel)) ggL_law_X10_keep
set_option maxRecDepth 20000 in
theorem ggL_law_X11_keep_c : GoodIn wsL_law [.code yX11_keep cX11_keep 3 (some .int)] := goodIn_r _ [924] (by decide +kernel) (by decide +kernel)
set_option maxRecDepth 20000 in
theorem ggL_law_X11_keep_1 : GoodIn wsL_law ([.constantLong RX11 118 (2), .fieldLink RX11 54 "BusBridgeModel" "kept" "[I", .fieldLink RX11 7 "BusBridgeModel" "z" "[I", .fieldLink RX11 57 "BusBridgeModel" "keptChanges" "[I", .fieldLink RX11 91 "BusBridgeModel" "changes" "I", .fieldLink RX11 60 "BusBridgeModel" "isKept" "[Z", .methodLink RX11 74 yX11_in, .static yX11_in, .initialized RX11, .code yX11_in cX11_in 6 (some .boolean), .methodLink RX11 84 yX11_refused, .instanceMethod yX11_refused, .selects RX11 yX11_refused yX11_refused, .code yX11_refused cX11_refused 2 (some .int), .fieldLink RX11 66 "BusBridgeModel" "status" "I", .methodLink RX11 94 yX11_done, .instanceMethod yX11_done, .selects RX11 yX11_done yX11_done, .code yX11_done cX11_done 2 (some .int)] : List Cond) := goodIn_r _ [406, 227, 213, 228, 269, 229, 274, 275, 5, 276, 277, 278, 279, 280, 281, 282, 283, 284, 285] (by decide +kernel) (by decide +kernel)
set_option maxRecDepth 20000 in
theorem ggL_law_X11_keep_2 : GoodIn wsL_law wsX110 := goodIn_r _ [986, 987, 988, 989, 990, 991, 992, 993, 994, 995, 996, 997, 998, 999, 1000, 1001, 1002, 1003, 1004, 1005, 1006, 1007, 1008, 1009] (by decide +kernel) (by decide +kernel)
theorem ggL_law_X11_keep : GoodIn wsL_law wsX11_keep := (goodIn_app (a := [.code yX11_keep cX11_keep 3 (some .int)]) ggL_law_X11_keep_c (goodIn_app ggL_law_X11_keep_1 ggL_law_X11_keep_2))
set_option maxRecDepth 20000 in
theorem gL_law_X11_keep : GoodIn wsL_law (wsV RL 98 RX11 yX11_keep wsX11_keep) := goodIn_app (goodIn_of _ (by decide +kernel)) ggL_law_X11_keep
set_option maxRecDepth 20000 in
theorem ggL_law_X10_back_c : GoodIn wsL_law [.code yX10_back cX10_back 3 (some .int)] := goodIn_r _ [928] (by decide +kernel) (by decide +kernel)
set_option maxRecDepth 20000 in
theorem ggL_law_X10_back_1 : GoodIn wsL_law wsX10_back_r1 := goodIn_r _ [19, 20, 239, 929, 930, 931, 2, 932, 22, 15, 875, 876, 877, 878, 245, 246, 247, 248, 27, 879, 880, 881, 18, 882] (by decide +kernel) (by decide +kernel)
set_option maxRecDepth 20000 in
theorem ggL_law_X10_back_2 : GoodIn wsL_law wsX10_back_r2 := goodIn_r _ [47, 49, 53, 57, 61, 65, 129, 883, 884, 885, 46, 886, 69, 611, 144, 145, 146, 71, 72, 73, 74, 887, 888, 889] (by decide +kernel) (by decide +kernel)
set_option maxRecDepth 20000 in
theorem ggL_law_X10_back_3 : GoodIn wsL_law wsX10_back_r3 := goodIn_r _ [25, 890, 78, 143, 79, 80, 891, 892, 893, 52, 894, 87, 152, 153, 154, 155, 156, 157, 895, 896, 897, 86, 898, 98] (by decide +kernel) (by decide +kernel)
set_option maxRecDepth 20000 in
theorem ggL_law_X10_back_4 : GoodIn wsL_law wsX10_back_r4 := goodIn_r _ [162, 93, 899, 900, 901, 902, 56, 903, 105, 106, 904, 107, 167, 168, 169, 170, 171, 172, 905, 906, 907, 104, 908, 112] (by decide +kernel) (by decide +kernel)
set_option maxRecDepth 20000 in
theorem ggL_law_X10_back_5 : GoodIn wsL_law wsX10_back_r5 := goodIn_r _ [177, 178, 179, 180, 181, 182, 190, 191, 192, 193, 194, 183, 184, 909, 186, 187, 188, 189, 910, 911, 912, 60, 913, 117] (by decide +kernel) (by decide +kernel)
set_option maxRecDepth 20000 in
theorem ggL_law_X10_back_6 : GoodIn wsL_law wsX10_back_r6 := goodIn_r _ [914, 915, 916, 917, 64, 918, 121, 919, 123, 204, 205, 206, 920, 259, 260, 261, 262] (by decide +kernel) (by decide +kernel)
set_option maxRecDepth 20000 in
theorem ggL_law_X10_back_7 : GoodIn wsL_law wsX100 := goodIn_r _ [980, 981, 982, 983, 984, 985] (by decide +kernel) (by decide +kernel)
set_option maxRecDepth 20000 in
theorem ggL_law_X10_back_8 : GoodIn wsL_law wsX30 := goodIn_r _ [1023, 1024, 1025, 1026, 1027, 1028, 1029] (by decide +kernel) (by decide +kernel)
set_option maxRecDepth 20000 in
theorem ggL_law_X10_back_9 : GoodIn wsL_law wsX60 := goodIn_r _ [1010, 1011, 1012, 1013, 1014, 1015, 1016, 1017, 1018, 1019, 1020, 1021, 1022] (by decide +kernel) (by decide +kernel)
set_option maxRecDepth 20000 in
theorem ggL_law_X10_back_10 : GoodIn wsL_law wsX90 := goodIn_r _ [1033, 1034, 1035, 1036, 1037, 1038] (by decide +kernel) (by decide +kernel)
set_option maxRecDepth 20000 in
theorem ggL_law_X10_back_11 : GoodIn wsL_law wsX10 := goodIn_r _ [1030, 1031, 1032] (by decide +kernel) (by decide +kernel)
set_option maxRecDepth 20000 in
theorem ggL_law_X10_back_12 : GoodIn wsL_law wsX40 := goodIn_r _ [1039, 1040, 1041, 1042, 1043, 1044, 1045] (by decide +kernel) (by decide +kernel)
set_option maxRecDepth 20000 in
theorem ggL_law_X10_back_13 : GoodIn wsL_law wsX80 := goodIn_r _ [1064, 1065, 1066, 1067] (by decide +kernel) (by decide +kernel)
set_option maxRecDepth 20000 in
theorem ggL_law_X10_back_14 : GoodIn wsL_law wsX00 := goodIn_r _ [1046, 1047, 1048, 1049, 1050, 1051, 1052, 1053, 1054] (by decide +kernel) (by decide +kernel)
set_option maxRecDepth 20000 in
theorem ggL_law_X10_back_15 : GoodIn wsL_law wsX20 := goodIn_r _ [1068, 1069, 1070, 1071, 1072, 1073, 1074, 1075, 1076, 1077, 1078, 1079, 1080, 1081] (by decide +kernel) (by decide +kernel)
set_option maxRecDepth 20000 in
theorem ggL_law_X10_back_16 : GoodIn wsL_law wsX70 := goodIn_r _ [1055, 1056, 1057, 1058] (by decide +kernel) (by decide +kernel)
set_option maxRecDepth 20000 in
theorem ggL_law_X10_back_17 : GoodIn wsL_law wsX50 := goodIn_r _ [1059, 1060, 1061, 1062, 1063] (by decide +kernel) (by decide +kernel)
theorem ggL_law_X10_back : GoodIn wsL_law wsX10_back := (goodIn_app (a := [.code yX10_back cX10_back 3 (some .int)]) ggL_law_X10_back_c (goodIn_app (goodIn_app (goodIn_app (goodIn_app (goodIn_app (goodIn_app (goodIn_app (goodIn_app (goodIn_app (goodIn_app (goodIn_app (goodIn_app ggL_law_X10_back_1 (goodIn_app ggL_law_X10_back_2 (goodIn_app ggL_law_X10_back_3 (goodIn_app ggL_law_X10_back_4 (goodIn_app ggL_law_X10_back_5 ggL_law_X10_back_6))))) ggL_law_X10_back_7) ggL_law_X10_back_8) ggL_law_X10_back_9) ggL_law_X10_back_10) ggL_law_X10_back_11) ggL_law_X10_back_12) ggL_law_X10_back_13) ggL_law_X10_back_14) ggL_law_X10_back_15) ggL_law_X10_back_16) ggL_law_X10_back_17))
set_option maxRecDepth 20000 in
theorem gL_law_X10_back : GoodIn wsL_law (wsV RL 99 RX10 yX10_back wsX10_back) := goodIn_app (goodIn_of _ (by decide +kernel)) ggL_law_X10_back
set_option maxRecDepth 20000 in
theorem ggL_law_X11_back_c : GoodIn wsL_law [.code yX11_back cX11_back 4 (some .int)] := goodIn_r _ [936] (by decide +kernel) (by decide +kernel)
set_option maxRecDepth 20000 in
theorem ggL_law_X11_back_1 : GoodIn wsL_law ([.fieldLink RX11 7 "BusBridgeModel" "z" "[I", .fieldLink RX11 54 "BusBridgeModel" "kept" "[I", .methodLink RX11 222 yX11_whyNot, .instanceMethod yX11_whyNot, .selects RX11 yX11_whyNot yX11_whyNot, .initialized RX11, .code yX11_whyNot cX11_whyNot 2 (some .int), .constantLong RX11 118 (2), .fieldLink RX11 60 "BusBridgeModel" "isKept" "[Z", .fieldLink RX11 57 "BusBridgeModel" "keptChanges" "[I", .fieldLink RX11 91 "BusBridgeModel" "changes" "I", .methodLink RX11 74 yX11_in, .static yX11_in, .code yX11_in cX11_in 6 (some .boolean), .methodLink RX11 84 yX11_refused, .instanceMethod yX11_refused, .selects RX11 yX11_refused yX11_refused, .code yX11_refused cX11_refused 2 (some .int), .fieldLink RX11 66 "BusBridgeModel" "status" "I", .methodLink RX11 94 yX11_done, .instanceMethod yX11_done, .selects RX11 yX11_done yX11_done, .code yX11_done cX11_done 2 (some .int)] : List Cond) := goodIn_r _ [213, 227, 937, 938, 939, 5, 940, 406, 229, 228, 269, 274, 275, 276, 277, 278, 279, 280, 281, 282, 283, 284, 285] (by decide +kernel) (by decide +kernel)
set_option maxRecDepth 20000 in
theorem ggL_law_X11_back_2 : GoodIn wsL_law wsX110 := goodIn_r _ [986, 987, 988, 989, 990, 991, 992, 993, 994, 995, 996, 997, 998, 999, 1000, 1001, 1002, 1003, 1004, 1005, 1006, 1007, 1008, 1009] (by decide +kernel) (by decide +kernel)
theorem ggL_law_X11_back : GoodIn wsL_law wsX11_back := (goodIn_app (a := [.code yX11_back cX11_back 4 (some .int)]) ggL_law_X11_back_c (goodIn_app ggL_law_X11_back_1 ggL_law_X11_back_2))
set_option maxRecDepth 20000 in
theorem gL_law_X11_back : GoodIn wsL_law (wsV RL 102 RX11 yX11_back wsX11_back) := goodIn_app (goodIn_of _ (by decide +kernel)) ggL_law_X11_back
set_option maxRecDepth 20000 in
theorem ggL_law_X10_differs_c : GoodIn wsL_law [.code yX10_differs cX10_differs 3 (some .int)] := goodIn_r _ [944] (by decide +kernel) (by decide +kernel)
set_option maxRecDepth 20000 in
theorem ggL_law_X10_differs_1 : GoodIn wsL_law wsX10_differs_r1 := goodIn_r _ [19, 20, 15, 290, 929, 930, 931, 2, 932, 22, 875, 876, 877, 878, 245, 246, 247, 248, 27, 945, 946, 947, 18, 948] (by decide +kernel) (by decide +kernel)
set_option maxRecDepth 20000 in
theorem ggL_law_X10_differs_2 : GoodIn wsL_law wsX10_differs_r2 := goodIn_r _ [47, 49, 949, 129, 950, 951, 952, 46, 953, 69, 259, 260, 261, 262] (by decide +kernel) (by decide +kernel)
set_option maxRecDepth 20000 in
theorem ggL_law_X10_differs_3 : GoodIn wsL_law wsX100 := goodIn_r _ [980, 981, 982, 983, 984, 985] (by decide +kernel) (by decide +kernel)
set_option maxRecDepth 20000 in
theorem ggL_law_X10_differs_4 : GoodIn wsL_law wsX60 := goodIn_r _ [1010, 1011, 1012, 1013, 1014, 1015, 1016, 1017, 1018, 1019, 1020, 1021, 1022] (by decide +kernel) (by decide +kernel)
set_option maxRecDepth 20000 in
theorem ggL_law_X10_differs_5 : GoodIn wsL_law wsX30 := goodIn_r _ [1023, 1024, 1025, 1026, 1027, 1028, 1029] (by decide +kernel) (by decide +kernel)
set_option maxRecDepth 20000 in
theorem ggL_law_X10_differs_6 : GoodIn wsL_law wsX10 := goodIn_r _ [1030, 1031, 1032] (by decide +kernel) (by decide +kernel)
set_option maxRecDepth 20000 in
theorem ggL_law_X10_differs_7 : GoodIn wsL_law wsX90 := goodIn_r _ [1033, 1034, 1035, 1036, 1037, 1038] (by decide +kernel) (by decide +kernel)
theorem ggL_law_X10_differs : GoodIn wsL_law wsX10_differs := (goodIn_app (a := [.code yX10_differs cX10_differs 3 (some .int)]) ggL_law_X10_differs_c (goodIn_app (goodIn_app (goodIn_app (goodIn_app (goodIn_app (goodIn_app ggL_law_X10_differs_1 ggL_law_X10_differs_2) ggL_law_X10_differs_3) ggL_law_X10_differs_4) ggL_law_X10_differs_5) ggL_law_X10_differs_6) ggL_law_X10_differs_7))
set_option maxRecDepth 20000 in
theorem gL_law_X10_differs : GoodIn wsL_law (wsV RL 103 RX10 yX10_differs wsX10_differs) := goodIn_app (goodIn_of _ (by decide +kernel)) ggL_law_X10_differs
set_option maxRecDepth 20000 in
theorem ggL_law_X11_differs_c : GoodIn wsL_law [.code yX11_differs cX11_differs 4 (some .int)] := goodIn_r _ [957] (by decide +kernel) (by decide +kernel)
set_option maxRecDepth 20000 in
theorem ggL_law_X11_differs_1 : GoodIn wsL_law ([.fieldLink RX11 7 "BusBridgeModel" "z" "[I", .fieldLink RX11 54 "BusBridgeModel" "kept" "[I", .fieldLink RX11 69 "BusBridgeModel" "registers" "I", .methodLink RX11 222 yX11_whyNot, .instanceMethod yX11_whyNot, .selects RX11 yX11_whyNot yX11_whyNot, .initialized RX11, .code yX11_whyNot cX11_whyNot 2 (some .int), .constantLong RX11 118 (2), .fieldLink RX11 60 "BusBridgeModel" "isKept" "[Z", .fieldLink RX11 57 "BusBridgeModel" "keptChanges" "[I", .fieldLink RX11 91 "BusBridgeModel" "changes" "I", .methodLink RX11 74 yX11_in, .static yX11_in, .code yX11_in cX11_in 6 (some .boolean), .methodLink RX11 84 yX11_refused, .instanceMethod yX11_refused, .selects RX11 yX11_refused yX11_refused, .code yX11_refused cX11_refused 2 (some .int), .fieldLink RX11 66 "BusBridgeModel" "status" "I", .methodLink RX11 94 yX11_done, .instanceMethod yX11_done, .selects RX11 yX11_done yX11_done, .code yX11_done cX11_done 2 (some .int)] : List Cond) := goodIn_r _ [213, 227, 234, 937, 938, 939, 5, 940, 406, 229, 228, 269, 274, 275, 276, 277, 278, 279, 280, 281, 282, 283, 284, 285] (by decide +kernel) (by decide +kernel)
set_option maxRecDepth 20000 in
theorem ggL_law_X11_differs_2 : GoodIn wsL_law wsX110 := goodIn_r _ [986, 987, 988, 989, 990, 991, 992, 993, 994, 995, 996, 997, 998, 999, 1000, 1001, 1002, 1003, 1004, 1005, 1006, 1007, 1008, 1009] (by decide +kernel) (by decide +kernel)
theorem ggL_law_X11_differs : GoodIn wsL_law wsX11_differs := (goodIn_app (a := [.code yX11_differs cX11_differs 4 (some .int)]) ggL_law_X11_differs_c (goodIn_app ggL_law_X11_differs_1 ggL_law_X11_differs_2))
set_option maxRecDepth 20000 in
theorem gL_law_X11_differs : GoodIn wsL_law (wsV RL 106 RX11 yX11_differs wsX11_differs) := goodIn_app (goodIn_of _ (by decide +kernel)) ggL_law_X11_differs
set_option maxRecDepth 20000 in
theorem ggL_law_X10_told_c : GoodIn wsL_law [.code yX10_told cX10_told 2 (some .int)] := goodIn_r _ [961] (by decide +kernel) (by decide +kernel)
set_option maxRecDepth 20000 in
theorem ggL_law_X10_told_1 : GoodIn wsL_law wsX10_told_r1 := goodIn_r _ [15, 240, 290, 19, 371, 372, 855, 962, 963, 785, 786, 787, 801, 811, 239, 259, 260, 261, 2, 262, 27, 245, 246, 247] (by decide +kernel) (by decide +kernel)
set_option maxRecDepth 20000 in
theorem ggL_law_X10_told_2 : GoodIn wsL_law wsX10_told_r2 := goodIn_r _ [248] (by decide +kernel) (by decide +kernel)
set_option maxRecDepth 20000 in
theorem ggL_law_X10_told_3 : GoodIn wsL_law wsX100 := goodIn_r _ [980, 981, 982, 983, 984, 985] (by decide +kernel) (by decide +kernel)
set_option maxRecDepth 20000 in
theorem ggL_law_X10_told_4 : GoodIn wsL_law wsX60 := goodIn_r _ [1010, 1011, 1012, 1013, 1014, 1015, 1016, 1017, 1018, 1019, 1020, 1021, 1022] (by decide +kernel) (by decide +kernel)
set_option maxRecDepth 20000 in
theorem ggL_law_X10_told_5 : GoodIn wsL_law wsX30 := goodIn_r _ [1023, 1024, 1025, 1026, 1027, 1028, 1029] (by decide +kernel) (by decide +kernel)
set_option maxRecDepth 20000 in
theorem ggL_law_X10_told_6 : GoodIn wsL_law wsX40 := goodIn_r _ [1039, 1040, 1041, 1042, 1043, 1044, 1045] (by decide +kernel) (by decide +kernel)
set_option maxRecDepth 20000 in
theorem ggL_law_X10_told_7 : GoodIn wsL_law wsX80 := goodIn_r _ [1064, 1065, 1066, 1067] (by decide +kernel) (by decide +kernel)
set_option maxRecDepth 20000 in
theorem ggL_law_X10_told_8 : GoodIn wsL_law wsX00 := goodIn_r _ [1046, 1047, 1048, 1049, 1050, 1051, 1052, 1053, 1054] (by decide +kernel) (by decide +kernel)
set_option maxRecDepth 20000 in
theorem ggL_law_X10_told_9 : GoodIn wsL_law wsX20 := goodIn_r _ [1068, 1069, 1070, 1071, 1072, 1073, 1074, 1075, 1076, 1077, 1078, 1079, 1080, 1081] (by decide +kernel) (by decide +kernel)
set_option maxRecDepth 20000 in
theorem ggL_law_X10_told_10 : GoodIn wsL_law wsX50 := goodIn_r _ [1059, 1060, 1061, 1062, 1063] (by decide +kernel) (by decide +kernel)
theorem ggL_law_X10_told : GoodIn wsL_law wsX10_told := (goodIn_app (a := [.code yX10_told cX10_told 2 (some .int)]) ggL_law_X10_told_c (goodIn_app (goodIn_app (goodIn_app (goodIn_app (goodIn_app (goodIn_app (goodIn_app (goodIn_app (goodIn_app ggL_law_X10_told_1 ggL_law_X10_told_2) ggL_law_X10_told_3) ggL_law_X10_told_4) ggL_law_X10_told_5) ggL_law_X10_told_6) ggL_law_X10_told_7) ggL_law_X10_told_8) ggL_law_X10_told_9) ggL_law_X10_told_10))
set_option maxRecDepth 20000 in
theorem gL_law_X10_told : GoodIn wsL_law (wsV RL 107 RX10 yX10_told wsX10_told) := goodIn_app (goodIn_of _ (by decide +kernel)) ggL_law_X10_told
set_option maxRecDepth 20000 in
theorem ggL_law_X11_told_c : GoodIn wsL_law [.code yX11_told cX11_told 2 (some .int)] := goodIn_r _ [967] (by decide +kernel) (by decide +kernel)
set_option maxRecDepth 20000 in
theorem ggL_law_X11_told_1 : GoodIn wsL_law wsX11_told_r1 := goodIn_r _ [268, 234, 213, 282, 283, 284, 5, 285, 281, 968, 969, 970, 971, 652, 653, 654, 655, 274, 275, 276, 793, 794, 795, 796] (by decide +kernel) (by decide +kernel)
set_option maxRecDepth 20000 in
theorem ggL_law_X11_told_2 : GoodIn wsL_law wsX11_told_r2 := goodIn_r _ [816, 817, 818, 819, 277, 278, 279, 280] (by decide +kernel) (by decide +kernel)
set_option maxRecDepth 20000 in
theorem ggL_law_X11_told_3 : GoodIn wsL_law wsX110 := goodIn_r _ [986, 987, 988, 989, 990, 991, 992, 993, 994, 995, 996, 997, 998, 999, 1000, 1001, 1002, 1003, 1004, 1005, 1006, 1007, 1008, 1009] (by decide +kernel) (by decide +kernel)
theorem ggL_law_X11_told : GoodIn wsL_law wsX11_told := (goodIn_app (a := [.code yX11_told cX11_told 2 (some .int)]) ggL_law_X11_told_c (goodIn_app (goodIn_app ggL_law_X11_told_1 ggL_law_X11_told_2) ggL_law_X11_told_3))
set_option maxRecDepth 20000 in
theorem gL_law_X11_told : GoodIn wsL_law (wsV RL 110 RX11 yX11_told wsX11_told) := goodIn_app (goodIn_of _ (by decide +kernel)) ggL_law_X11_told
set_option maxRecDepth 20000 in
theorem ggL_law_X10_status : GoodIn wsL_law wsX10_status := goodIn_r _ [975, 27, 980, 981, 982, 983, 984, 985] (by decide +kernel) (by decide +kernel)
set_option maxRecDepth 20000 in
theorem gL_law_X10_status : GoodIn wsL_law (wsV RL 111 RX10 yX10_status wsX10_status) := goodIn_app (goodIn_of _ (by decide +kernel)) ggL_law_X10_status
set_option maxRecDepth 20000 in
theorem ggL_law_X11_status_c : GoodIn wsL_law [.code yX11_status cX11_status 1 (some .int)] := goodIn_r _ [979] (by decide +kernel) (by decide +kernel)
set_option maxRecDepth 20000 in
theorem ggL_law_X11_status_1 : GoodIn wsL_law ([.fieldLink RX11 66 "BusBridgeModel" "status" "I"] : List Cond) := goodIn_r _ [281] (by decide +kernel) (by decide +kernel)
set_option maxRecDepth 20000 in
theorem ggL_law_X11_status_2 : GoodIn wsL_law wsX110 := goodIn_r _ [986, 987, 988, 989, 990, 991, 992, 993, 994, 995, 996, 997, 998, 999, 1000, 1001, 1002, 1003, 1004, 1005, 1006, 1007, 1008, 1009] (by decide +kernel) (by decide +kernel)
