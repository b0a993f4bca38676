set_option maxRecDepth 20000 in
theorem ggL_law_X10_init_c : GoodIn wsL_law [.code yX10_init cX10_init 1 none] := goodIn_r _ [8] (by decide +kernel) (by decide +kernel)
set_option maxRecDepth 20000 in
theorem ggL_law_X10_init_1 : GoodIn wsL_law wsX10_init_r1 := goodIn_r _ [9, 10, 11, 12, 13, 14, 15, 16, 17, 18, 19, 20, 21, 22, 23, 24, 25, 26, 27, 28, 29, 30, 31, 32] (by decide +kernel) (by decide +kernel)
set_option maxRecDepth 20000 in
theorem ggL_law_X10_init_2 : GoodIn wsL_law wsX10_init_r2 := goodIn_r _ [33, 34, 35, 36, 37, 38, 39, 40, 41, 42, 43, 44, 45, 46, 47, 48, 49, 50, 51, 52, 53, 54, 55, 56] (by decide +kernel) (by decide +kernel)
set_option maxRecDepth 20000 in
theorem ggL_law_X10_init_3 : GoodIn wsL_law wsX10_init_r3 := goodIn_r _ [57, 58, 59, 60, 61, 62, 63, 64, 65, 66, 67, 68, 69, 70, 71, 72, 73, 74, 75, 76, 77, 78, 79, 80] (by decide +kernel) (by decide +kernel)
set_option maxRecDepth 20000 in
theorem ggL_law_X10_init_4 : GoodIn wsL_law wsX10_init_r4 := goodIn_r _ [81, 82, 83, 84, 85, 86, 87, 88, 89, 90, 91, 92, 93, 94, 95, 96, 97, 98, 99, 100, 101, 102, 103, 104] (by decide +kernel) (by decide +kernel)
set_option maxRecDepth 20000 in
theorem ggL_law_X10_init_5 : GoodIn wsL_law wsX10_init_r5 := goodIn_r _ [105, 106, 107, 108, 109, 110, 111, 112, 113, 114, 115, 116, 117, 118, 119, 120, 121, 122, 123, 124, 125, 126, 127, 128] (by decide +kernel) (by decide +kernel)
set_option maxRecDepth 20000 in
theorem ggL_law_X10_init_6 : GoodIn wsL_law wsX10_init_r6 := goodIn_r _ [129, 130, 131, 132, 133, 134, 135, 136, 137, 138, 139, 140, 141, 142, 143, 144, 145, 146, 147, 148, 149, 150, 151, 152] (by decide +kernel) (by decide +kernel)
set_option maxRecDepth 20000 in
theorem ggL_law_X10_init_7 : GoodIn wsL_law wsX10_init_r7 := goodIn_r _ [153, 154, 155, 156, 157, 158, 159, 160, 161, 162, 163, 164, 165, 166, 167, 168, 169, 170, 171, 172, 173, 174, 175, 176] (by decide +kernel) (by decide +kernel)
set_option maxRecDepth 20000 in
theorem ggL_law_X10_init_8 : GoodIn wsL_law wsX10_init_r8 := goodIn_r _ [177, 178, 179, 180, 181, 182, 183, 184, 185, 186, 187, 188, 189, 190, 191, 192, 193, 194, 195, 196, 197, 198, 199, 200] (by decide +kernel) (by decide +kernel)
set_option maxRecDepth 20000 in
theorem ggL_law_X10_init_9 : GoodIn wsL_law wsX10_init_r9 := goodIn_r _ [201, 202, 203, 204, 205, 206, 207, 208] (by decide +kernel) (by decide +kernel)
set_option maxRecDepth 20000 in
theorem ggL_law_X10_init_10 : GoodIn wsL_law wsX60 := goodIn_r _ [1010, 1011, 1012, 1013, 1014, 1015, 1016, 1017, 1018, 1019, 1020, 1021, 1022] (by decide +kernel) (by decide +kernel)
set_option maxRecDepth 20000 in
theorem ggL_law_X10_init_11 : GoodIn wsL_law wsX100 := goodIn_r _ [980, 981, 982, 983, 984, 985] (by decide +kernel) (by decide +kernel)
set_option maxRecDepth 20000 in
theorem ggL_law_X10_init_12 : GoodIn wsL_law wsX30 := goodIn_r _ [1023, 1024, 1025, 1026, 1027, 1028, 1029] (by decide +kernel) (by decide +kernel)
set_option maxRecDepth 20000 in
theorem ggL_law_X10_init_13 : GoodIn wsL_law wsX10 := goodIn_r _ [1030, 1031, 1032] (by decide +kernel) (by decide +kernel)
set_option maxRecDepth 20000 in
theorem ggL_law_X10_init_14 : GoodIn wsL_law wsX90 := goodIn_r _ [1033, 1034, 1035, 1036, 1037, 1038] (by decide +kernel) (by decide +kernel)
set_option maxRecDepth 20000 in
theorem ggL_law_X10_init_15 : GoodIn wsL_law wsX40 := goodIn_r _ [1039, 1040, 1041, 1042, 1043, 1044, 1045] (by decide +kernel) (by decide +kernel)
set_option maxRecDepth 20000 in
theorem ggL_law_X10_init_16 : GoodIn wsL_law wsX00 := goodIn_r _ [1046, 1047, 1048, 1049, 1050, 1051, 1052, 1053, 1054] (by decide +kernel) (by decide +kernel)
set_option maxRecDepth 20000 in
theorem ggL_law_X10_init_17 : GoodIn wsL_law wsX70 := goodIn_r _ [1055, 1056, 1057, 1058] (by decide +kernel) (by decide +kernel)
set_option maxRecDepth 20000 in
theorem ggL_law_X10_init_18 : GoodIn wsL_law wsX50 := goodIn_r _ [1059, 1060, 1061, 1062, 1063] (by decide +kernel) (by decide +kernel)
set_option maxRecDepth 20000 in
theorem ggL_law_X10_init_19 : GoodIn wsL_law wsX80 := goodIn_r _ [1064, 1065, 1066, 1067] (by decide +kernel) (by decide +kernel)
set_option maxRecDepth 20000 in
theorem ggL_law_X10_init_20 : GoodIn wsL_law wsX20 := goodIn_r _ [1068, 1069, 1070, 1071, 1072, 1073, 1074, 1075, 1076, 1077, 1078, 1079, 1080, 1081] (by decide +kernel) (by decide +kernel)
theorem ggL_law_X10_init : GoodIn wsL_law wsX10_init := (goodIn_app (a := [.code yX10_init cX10_init 1 none]) ggL_law_X10_init_c (goodIn_app (goodIn_app (goodIn_app (goodIn_app (goodIn_app (goodIn_app (goodIn_app (goodIn_app (goodIn_app (goodIn_app (goodIn_app (goodIn_app ggL_law_X10_init_1 (goodIn_app ggL_law_X10_init_2 (goodIn_app ggL_law_X10_init_3 (goodIn_app ggL_law_X10_init_4 (goodIn_app ggL_law_X10_init_5 (goodIn_app ggL_law_X10_init_6 (goodIn_app ggL_law_X10_init_7 (goodIn_app ggL_law_X10_init_8 ggL_law_X10_init_9)))))))) ggL_law_X10_init_10) ggL_law_X10_init_11) ggL_law_X10_init_12) ggL_law_X10_init_13) ggL_law_X10_init_14) ggL_law_X10_init_15) ggL_law_X10_init_16) ggL_law_X10_init_17) ggL_law_X10_init_18) ggL_law_X10_init_19) ggL_law_X10_init_20))
set_option maxRecDepth 20000 in
theorem gL_law_X10_init : GoodIn wsL_law (wsX10_init) := ggL_law_X10_init
set_option maxRecDepth 20000 in
theorem ggL_law_X11_init_c : GoodIn wsL_law [.code yX11_init cX11_init 1 none] := goodIn_r _ [211] (by decide +kernel) (by decide +kernel)
set_option maxRecDepth 20000 in
theorem ggL_law_X11_init_1 : GoodIn wsL_law wsX11_init_r1 := goodIn_r _ [212, 10, 11, 21, 213, 214, 215, 216, 34, 217, 218, 219, 220, 221, 222, 223, 224, 225, 226, 227, 228, 229, 230, 231] (by decide +kernel) (by decide +kernel)
set_option maxRecDepth 20000 in
theorem ggL_law_X11_init_2 : GoodIn wsL_law wsX11_init_r2 := goodIn_r _ [232, 5, 233, 234] (by decide +kernel) (by decide +kernel)
set_option maxRecDepth 20000 in
theorem ggL_law_X11_init_3 : GoodIn wsL_law wsX110 := goodIn_r _ [986, 987, 988, 989, 990, 991, 992, 993, 994, 995, 996, 997, 998, 999, 1000, 1001, 1002, 1003, 1004, 1005, 1006, 1007, 1008, 1009] (by decide +kernel) (by decide +kernel)
theorem ggL_law_X11_init : GoodIn wsL_law wsX11_init := (goodIn_app (a := [.code yX11_init cX11_init 1 none]) ggL_law_X11_init_c (goodIn_app (goodIn_app ggL_law_X11_init_1 ggL_law_X11_init_2) ggL_law_X11_init_3))
set_option maxRecDepth 20000 in
theorem gL_law_X11_init : GoodIn wsL_law (wsX11_init) := ggL_law_X11_init
set_option maxRecDepth 20000 in
theorem ggL_law_X10_slave_c : GoodIn wsL_law [.code yX10_slave cX10_slave 5 (some .int)] := goodIn_r _ [238] (by decide +kernel) (by decide +kernel)
set_option maxRecDepth 20000 in
theorem ggL_law_X10_slave_1 : GoodIn wsL_law wsX10_slave_r1 := goodIn_r _ [19, 239, 15, 240, 241, 242, 14, 243, 244, 245, 246, 247, 2, 248, 27, 249, 250, 251, 252, 253, 32, 31, 254, 255] (by decide +kernel) (by decide +kernel)
set_option maxRecDepth 20000 in
theorem ggL_law_X10_slave_2 : GoodIn wsL_law wsX10_slave_r2 := goodIn_r _ [256, 257, 33, 35, 258, 259, 260, 261, 262] (by decide +kernel) (by decide +kernel)
set_option maxRecDepth 20000 in
theorem ggL_law_X10_slave_3 : GoodIn wsL_law wsX100 := goodIn_r _ [980, 981, 982, 983, 984, 985] (by decide +kernel) (by decide +kernel)
set_option maxRecDepth 20000 in
theorem ggL_law_X10_slave_4 : GoodIn wsL_law wsX30 := goodIn_r _ [1023, 1024, 1025, 1026, 1027, 1028, 1029] (by decide +kernel) (by decide +kernel)
set_option maxRecDepth 20000 in
theorem ggL_law_X10_slave_5 : GoodIn wsL_law wsX60 := goodIn_r _ [1010, 1011, 1012, 1013, 1014, 1015, 1016, 1017, 1018, 1019, 1020, 1021, 1022] (by decide +kernel) (by decide +kernel)
theorem ggL_law_X10_slave : GoodIn wsL_law wsX10_slave := (goodIn_app (a := [.code yX10_slave cX10_slave 5 (some .int)]) ggL_law_X10_slave_c (goodIn_app (goodIn_app (goodIn_app (goodIn_app ggL_law_X10_slave_1 ggL_law_X10_slave_2) ggL_law_X10_slave_3) ggL_law_X10_slave_4) ggL_law_X10_slave_5))
set_option maxRecDepth 20000 in
theorem gL_law_X10_slave : GoodIn wsL_law (wsV RL 13 RX10 yX10_slave wsX10_slave) := goodIn_app (goodIn_of _ (by decide +kernel)) ggL_law_X10_slave
set_option maxRecDepth 20000 in
theorem ggL_law_X11_slave_c : GoodIn wsL_law [.code yX11_slave cX11_slave 6 (some .int)] := goodIn_r _ [266] (by decide +kernel) (by decide +kernel)
set_option maxRecDepth 20000 in
theorem ggL_law_X11_slave_1 : GoodIn wsL_law wsX11_slave_r1 := goodIn_r _ [267, 213, 268, 215, 214, 216, 217, 269, 270, 271, 5, 272, 273, 274, 275, 276, 277, 278, 279, 280, 281, 282, 283, 284] (by decide +kernel) (by decide +kernel)
set_option maxRecDepth 20000 in
theorem ggL_law_X11_slave_2 : GoodIn wsL_law wsX11_slave_r2 := goodIn_r _ [285] (by decide +kernel) (by decide +kernel)
set_option maxRecDepth 20000 in
theorem ggL_law_X11_slave_3 : GoodIn wsL_law wsX110 := goodIn_r _ [986, 987, 988, 989, 990, 991, 992, 993, 994, 995, 996, 997, 998, 999, 1000, 1001, 1002, 1003, 1004, 1005, 1006, 1007, 1008, 1009] (by decide +kernel) (by decide +kernel)
theorem ggL_law_X11_slave : GoodIn wsL_law wsX11_slave := (goodIn_app (a := [.code yX11_slave cX11_slave 6 (some .int)]) ggL_law_X11_slave_c (goodIn_app (goodIn_app ggL_law_X11_slave_1 ggL_law_X11_slave_2) ggL_law_X11_slave_3))
set_option maxRecDepth 20000 in
theorem gL_law_X11_slave : GoodIn wsL_law (wsV RL 17 RX11 yX11_slave wsX11_slave) := goodIn_app (goodIn_of _ (by decide +kernel)) ggL_law_X11_slave
set_option maxRecDepth 20000 in
theorem ggL_law_X10_register_c : GoodIn wsL_law [.code yX10_register cX10_register 5 (some .int)] := goodIn_r _ [289] (by decide +kernel) (by decide +kernel)
set_option maxRecDepth 20000 in
theorem ggL_law_X10_register_1 : GoodIn wsL_law wsX10_register_r1 := goodIn_r _ [19, 239, 15, 290, 291, 241, 242, 14, 243, 244, 245, 246, 247, 2, 248, 27, 292, 293, 294, 295, 296, 297, 298, 253] (by decide +kernel) (by decide +kernel)
set_option maxRecDepth 20000 in
theorem ggL_law_X10_register_2 : GoodIn wsL_law wsX10_register_r2 := goodIn_r _ [299, 300, 301, 302, 31, 32, 303, 304, 305, 306, 307, 36, 39, 308, 309, 310, 311, 37, 38, 258, 312, 139, 140, 25] (by decide +kernel) (by decide +kernel)
set_option maxRecDepth 20000 in
theorem ggL_law_X10_register_3 : GoodIn wsL_law wsX10_register_r3 := goodIn_r _ [141, 142, 78, 143, 144, 145, 146, 79, 80, 147, 135, 136, 137, 259, 260, 261, 262] (by decide +kernel) (by decide +kernel)
set_option maxRecDepth 20000 in
theorem ggL_law_X10_register_4 : GoodIn wsL_law wsX100 := goodIn_r _ [980, 981, 982, 983, 984, 985] (by decide +kernel) (by decide +kernel)
set_option maxRecDepth 20000 in
theorem ggL_law_X10_register_5 : GoodIn wsL_law wsX30 := goodIn_r _ [1023, 1024, 1025, 1026, 1027, 1028, 1029] (by decide +kernel) (by decide +kernel)
set_option maxRecDepth 20000 in
theorem ggL_law_X10_register_6 : GoodIn wsL_law wsX60 := goodIn_r _ [1010, 1011, 1012, 1013, 1014, 1015, 1016, 1017, 1018, 1019, 1020, 1021, 1022] (by decide +kernel) (by decide +kernel)
set_option maxRecDepth 20000 in
theorem ggL_law_X10_register_7 : GoodIn wsL_law wsX10 := goodIn_r _ [1030, 1031, 1032] (by decide +kernel) (by decide +kernel)
theorem ggL_law_X10_register : GoodIn wsL_law wsX10_register := (goodIn_app (a := [.code yX10_register cX10_register 5 (some .int)]) ggL_law_X10_register_c (goodIn_app (goodIn_app (goodIn_app (goodIn_app (goodIn_app ggL_law_X10_register_1 (goodIn_app ggL_law_X10_register_2 ggL_law_X10_register_3)) ggL_law_X10_register_4) ggL_law_X10_register_5) ggL_law_X10_register_6) ggL_law_X10_register_7))
set_option maxRecDepth 20000 in
theorem gL_law_X10_register : GoodIn wsL_law (wsV RL 18 RX10 yX10_register wsX10_register) := goodIn_app (goodIn_of _ (by decide +kernel)) ggL_law_X10_register
set_option maxRecDepth 20000 in
theorem ggL_law_X11_register_c : GoodIn wsL_law [.code yX11_register cX11_register 4 (some .int)] := goodIn_r _ [316] (by decide +kernel) (by decide +kernel)
set_option maxRecDepth 20000 in
theorem ggL_law_X11_register_1 : GoodIn wsL_law wsX11_register_r1 := goodIn_r _ [317, 213, 234, 218, 219, 220, 269, 270, 271, 5, 272, 273, 274, 275, 276, 277, 278, 279, 280, 281, 318, 319, 320, 321] (by decide +kernel) (by decide +kernel)
set_option maxRecDepth 20000 in
theorem ggL_law_X11_register_2 : GoodIn wsL_law wsX11_register_r2 := goodIn_r _ [268, 322, 323, 324, 325, 214, 215, 326, 327, 328, 329, 282, 283, 284, 285] (by decide +kernel) (by decide +kernel)
set_option maxRecDepth 20000 in
theorem ggL_law_X11_register_3 : GoodIn wsL_law wsX110 := goodIn_r _ [986, 987, 988, 989, 990, 991, 992, 993, 994, 995, 996, 997, 998, 999, 1000, 1001, 1002, 1003, 1004, 1005, 1006, 1007, 1008, 1009] (by decide +kernel) (by decide +kernel)
theorem ggL_law_X11_register : GoodIn wsL_law wsX11_register := (goodIn_app (a := [.code yX11_register cX11_register 4 (some .int)]) ggL_law_X11_register_c (goodIn_app (goodIn_app ggL_law_X11_register_1 ggL_law_X11_register_2) ggL_law_X11_register_3))
set_option maxRecDepth 20000 in
theorem gL_law_X11_register : GoodIn wsL_law (wsV RL 22 RX11 yX11_register wsX11_register) := goodIn_app (goodIn_of _ (by decide +kernel)) ggL_law_X11_register
set_option maxRecDepth 20000 in
theorem ggL_law_X10_depth_c : GoodIn wsL_law [.code yX10_depth cX10_depth 2 (some .int)] := goodIn_r _ [333] (by decide +kernel) (by decide +kernel)
set_option maxRecDepth 20000 in
theorem ggL_law_X10_depth_1 : GoodIn wsL_law ([.fieldLink RX10 19 "BusBridge" "now" "LBusBridge$Machine;", .fieldLink RX10 54 "BusBridge$Machine" "time" "I", .fieldLink RX10 10 "BusBridge" "plan" "LBusBridge$Plan;", .methodLink RX10 50 yX10_refuse, .instanceMethod yX10_refuse, .selects RX10 yX10_refuse yX10_refuse, .initialized RX10, .code yX10_refuse cX10_refuse 2 (some .int), .fieldLink RX10 38 "BusBridge" "refused" "I", .methodLink RX10 92 yX6_changeDepth, .instanceMethod yX6_changeDepth, .selects RX6 yX6_changeDepth yX6_changeDepth, .initialized RX6, .code yX6_changeDepth cX6_changeDepth 3 (some .int), .fieldLink RX6 51 "BusBridge$Plan" "depth" "I", .fieldLink RX6 45 "BusBridge$Plan" "changes" "I", .methodLink RX10 68 yX10_allow, .instanceMethod yX10_allow, .selects RX10 yX10_allow yX10_allow, .code yX10_allow cX10_allow 2 (some .int)] : List Cond) := goodIn_r _ [19, 239, 15, 245, 246, 247, 2, 248, 27, 334, 335, 336, 14, 337, 338, 258, 259, 260, 261, 262] (by decide +kernel) (by decide +kernel)
set_option maxRecDepth 20000 in
theorem ggL_law_X10_depth_2 : GoodIn wsL_law wsX100 := goodIn_r _ [980, 981, 982, 983, 984, 985] (by decide +kernel) (by decide +kernel)
set_option maxRecDepth 20000 in
theorem ggL_law_X10_depth_3 : GoodIn wsL_law wsX30 := goodIn_r _ [1023, 1024, 1025, 1026, 1027, 1028, 1029] (by decide +kernel) (by decide +kernel)
set_option maxRecDepth 20000 in
theorem ggL_law_X10_depth_4 : GoodIn wsL_law wsX60 := goodIn_r _ [1010, 1011, 1012, 1013, 1014, 1015, 1016, 1017, 1018, 1019, 1020, 1021, 1022] (by decide +kernel) (by decide +kernel)
theorem ggL_law_X10_depth : GoodIn wsL_law wsX10_depth := (goodIn_app (a := [.code yX10_depth cX10_depth 2 (some .int)]) ggL_law_X10_depth_c (goodIn_app (goodIn_app (goodIn_app ggL_law_X10_depth_1 ggL_law_X10_depth_2) ggL_law_X10_depth_3) ggL_law_X10_depth_4))
set_option maxRecDepth 20000 in
theorem gL_law_X10_depth : GoodIn wsL_law (wsV RL 23 RX10 yX10_depth wsX10_depth) := goodIn_app (goodIn_of _ (by decide +kernel)) ggL_law_X10_depth
set_option maxRecDepth 20000 in
theorem ggL_law_X11_depth_c : GoodIn wsL_law [.code yX11_depth cX11_depth 3 (some .int)] := goodIn_r _ [342] (by decide +kernel) (by decide +kernel)
set_option maxRecDepth 20000 in
theorem ggL_law_X11_depth_1 : GoodIn wsL_law ([.constantLong RX11 109 (4), .fieldLink RX11 7 "BusBridgeModel" "z" "[I", .fieldLink RX11 111 "BusBridgeModel" "deep" "I", .fieldLink RX11 91 "BusBridgeModel" "changes" "I", .methodLink RX11 74 yX11_in, .static yX11_in, .initialized RX11, .code yX11_in cX11_in 6 (some .boolean), .methodLink RX11 84 yX11_refused, .instanceMethod yX11_refused, .selects RX11 yX11_refused yX11_refused, .code yX11_refused cX11_refused 2 (some .int), .fieldLink RX11 66 "BusBridgeModel" "status" "I", .methodLink RX11 94 yX11_done, .instanceMethod yX11_done, .selects RX11 yX11_done yX11_done, .code yX11_done cX11_done 2 (some .int)] : List Cond) := goodIn_r _ [343, 213, 344, 269, 274, 275, 5, 276, 277, 278, 279, 280, 281, 282, 283, 284, 285] (by decide +kernel) (by decide +kernel)
set_option maxRecDepth 20000 in
theorem ggL_law_X11_depth_2 : GoodIn wsL_law wsX110 := goodIn_r _ [986, 987, 988, 989, 990, 991, 992, 993, 994, 995, 996, 997, 998, 999, 1000, 1001, 1002, 1003, 1004, 1005, 1006, 1007, 1008, 1009] (by decide +kernel) (by decide +kernel)
theorem ggL_law_X11_depth : GoodIn wsL_law wsX11_depth := (goodIn_app (a := [.code yX11_depth cX11_depth 3 (some .int)]) ggL_law_X11_depth_c (goodIn_app ggL_law_X11_depth_1 ggL_law_X11_depth_2))
set_option maxRecDepth 20000 in
theorem gL_law_X11_depth : GoodIn wsL_law (wsV RL 27 RX11 yX11_depth wsX11_depth) := goodIn_app (goodIn_of _ (by decide +kernel)) ggL_law_X11_depth
set_option maxRecDepth 20000 in
theorem ggL_law_X10_limit_c : GoodIn wsL_law [.code yX10_limit cX10_limit 2 (some .int)] := goodIn_r _ [348] (by decide +kernel) (by decide +kernel)
set_option maxRecDepth 20000 in
theorem ggL_law_X10_limit_1 : GoodIn wsL_law ([.fieldLink RX10 19 "BusBridge" "now" "LBusBridge$Machine;", .fieldLink RX10 54 "BusBridge$Machine" "time" "I", .fieldLink RX10 10 "BusBridge" "plan" "LBusBridge$Plan;", .methodLink RX10 50 yX10_refuse, .instanceMethod yX10_refuse, .selects RX10 yX10_refuse yX10_refuse, .initialized RX10, .code yX10_refuse cX10_refuse 2 (some .int), .fieldLink RX10 38 "BusBridge" "refused" "I", .methodLink RX10 95 yX6_changeLimit, .instanceMethod yX6_changeLimit, .selects RX6 yX6_changeLimit yX6_changeLimit, .initialized RX6, .code yX6_changeLimit cX6_changeLimit 3 (some .int), .fieldLink RX6 37 "BusBridge$Plan" "limit" "I", .fieldLink RX6 45 "BusBridge$Plan" "changes" "I", .methodLink RX10 68 yX10_allow, .instanceMethod yX10_allow, .selects RX10 yX10_allow yX10_allow, .code yX10_allow cX10_allow 2 (some .int)] : List Cond) := goodIn_r _ [19, 239, 15, 245, 246, 247, 2, 248, 27, 349, 350, 351, 14, 352, 40, 258, 259, 260, 261, 262] (by decide +kernel) (by decide +kernel)
set_option maxRecDepth 20000 in
theorem ggL_law_X10_limit_2 : GoodIn wsL_law wsX100 := goodIn_r _ [980, 981, 982, 983, 984, 985] (by decide +kernel) (by decide +kernel)
set_option maxRecDepth 20000 in
theorem ggL_law_X10_limit_3 : GoodIn wsL_law wsX30 := goodIn_r _ [1023, 1024, 1025, 1026, 1027, 1028, 1029] (by decide +kernel) (by decide +kernel)
set_option maxRecDepth 20000 in
theorem ggL_law_X10_limit_4 : GoodIn wsL_law wsX60 := goodIn_r _ [1010, 1011, 1012, 1013, 1014, 1015, 1016, 1017, 1018, 1019, 1020, 1021, 1022] (by decide +kernel) (by decide +kernel)
theorem ggL_law_X10_limit : GoodIn wsL_law wsX10_limit := (goodIn_app (a := [.code yX10_limit cX10_limit 2 (some .int)]) ggL_law_X10_limit_c (goodIn_app (goodIn_app (goodIn_app ggL_law_X10_limit_1 ggL_law_X10_limit_2) ggL_law_X10_limit_3) ggL_law_X10_limit_4))
set_option maxRecDepth 20000 in
theorem gL_law_X10_limit : GoodIn wsL_law (wsV RL 28 RX10 yX10_limit wsX10_limit) := goodIn_app (goodIn_of _ (by decide +kernel)) ggL_law_X10_limit
set_option maxRecDepth 20000 in
theorem ggL_law_X11_limit_c : GoodIn wsL_law [.code yX11_limit cX11_limit 3 (some .int)] := goodIn_r _ [356] (by decide +kernel) (by decide +kernel)
set_option maxRecDepth 20000 in
theorem ggL_law_X11_limit_1 : GoodIn wsL_law ([.constantLong RX11 109 (4), .constantLong RX11 114 (60), .fieldLink RX11 7 "BusBridgeModel" "z" "[I", .fieldLink RX11 35 "BusBridgeModel" "most" "I", .fieldLink RX11 91 "BusBridgeModel" "changes" "I", .methodLink RX11 74 yX11_in, .static yX11_in, .initialized RX11, .code yX11_in cX11_in 6 (some .boolean), .methodLink RX11 84 yX11_refused, .instanceMethod yX11_refused, .selects RX11 yX11_refused yX11_refused, .code yX11_refused cX11_refused 2 (some .int), .fieldLink RX11 66 "BusBridgeModel" "status" "I", .methodLink RX11 94 yX11_done, .instanceMethod yX11_done, .selects RX11 yX11_done yX11_done, .code yX11_done cX11_done 2 (some .int)] : List Cond) := goodIn_r _ [343, 357, 213, 221, 269, 274, 275, 5, 276, 277, 278, 279, 280, 281, 282, 283, 284, 285] (by decide +kernel) (by decide +kernel)
set_option maxRecDepth 20000 in
theorem ggL_law_X11_limit_2 : GoodIn wsL_law wsX110 := goodIn_r _ [986, 987, 988, 989, 990, 991, 992, 993, 994, 995, 996, 997, 998, 999, 1000, 1001, 1002, 1003, 1004, 1005, 1006, 1007, 1008, 1009] (by decide +kernel) (by decide +kernel)
theorem ggL_law_X11_limit : GoodIn wsL_law wsX11_limit := (goodIn_app (a := [.code yX11_limit cX11_limit 3 (some .int)]) ggL_law_X11_limit_c (goodIn_app ggL_law_X11_limit_1 ggL_law_X11_limit_2))
set_option maxRecDepth 20000 in
theorem gL_law_X11_limit : GoodIn wsL_law (wsV RL 31 RX11 yX11_limit wsX11_limit) := goodIn_app (goodIn_of _ (by decide +kernel)) ggL_law_X11_limit
set_option maxRecDepth 20000 in
theorem ggL_law_X10_reset_c : GoodIn wsL_law [.code yX10_reset cX10_reset 2 (some .int)] := goodIn_r _ [361] (by decide +kernel) (by decide +kernel)
set_option maxRecDepth 20000 in
theorem ggL_law_X10_reset_1 : GoodIn wsL_law wsX10_reset_r1 := goodIn_r _ [19, 239, 15, 125, 126, 127, 18, 128, 47, 49, 53, 57, 61, 65, 129, 130, 131, 132, 46, 133, 69, 70, 71, 72] (by decide +kernel) (by decide +kernel)
set_option maxRecDepth 20000 in
theorem ggL_law_X10_reset_2 : GoodIn wsL_law wsX10_reset_r2 := goodIn_r _ [134, 135, 136, 137, 138, 139, 140, 25, 141, 142, 78, 143, 144, 145, 146, 79, 80, 147, 148, 149, 150, 52, 151, 87] (by decide +kernel) (by decide +kernel)
set_option maxRecDepth 20000 in
theorem ggL_law_X10_reset_3 : GoodIn wsL_law wsX10_reset_r3 := goodIn_r _ [152, 153, 154, 155, 156, 157, 158, 159, 160, 86, 161, 162, 163, 164, 165, 56, 166, 105, 167, 168, 169, 170, 171, 172] (by decide +kernel) (by decide +kernel)
set_option maxRecDepth 20000 in
theorem ggL_law_X10_reset_4 : GoodIn wsL_law wsX10_reset_r4 := goodIn_r _ [173, 174, 175, 104, 176, 112, 177, 178, 179, 180, 181, 182, 183, 184, 185, 186, 187, 188, 189, 190, 191, 192, 193, 194] (by decide +kernel) (by decide +kernel)
set_option maxRecDepth 20000 in
theorem ggL_law_X10_reset_5 : GoodIn wsL_law wsX10_reset_r5 := goodIn_r _ [195, 196, 197, 60, 198, 117, 199, 200, 201, 202, 64, 203, 121, 123, 204, 205, 206, 207, 208, 259, 260, 261, 2, 262] (by decide +kernel) (by decide +kernel)
set_option maxRecDepth 20000 in
theorem ggL_law_X10_reset_6 : GoodIn wsL_law wsX10_reset_r6 := goodIn_r _ [27] (by decide +kernel) (by decide +kernel)
set_option maxRecDepth 20000 in
theorem ggL_law_X10_reset_7 : GoodIn wsL_law wsX100 := goodIn_r _ [980, 981, 982, 983, 984, 985] (by decide +kernel) (by decide +kernel)
set_option maxRecDepth 20000 in
theorem ggL_law_X10_reset_8 : GoodIn wsL_law wsX30 := goodIn_r _ [1023, 1024, 1025, 1026, 1027, 1028, 1029] (by decide +kernel) (by decide +kernel)
set_option maxRecDepth 20000 in
theorem ggL_law_X10_reset_9 : GoodIn wsL_law wsX90 := goodIn_r _ [1033, 1034, 1035, 1036, 1037, 1038] (by decide +kernel) (by decide +kernel)
set_option maxRecDepth 20000 in
theorem ggL_law_X10_reset_10 : GoodIn wsL_law wsX60 := goodIn_r _ [1010, 1011, 1012, 1013, 1014, 1015, 1016, 1017, 1018, 1019, 1020, 1021, 1022] (by decide +kernel) (by decide +kernel)
set_option maxRecDepth 20000 in
theorem ggL_law_X10_reset_11 : GoodIn wsL_law wsX10 := goodIn_r _ [1030, 1031, 1032] (by decide +kernel) (by decide +kernel)
set_option maxRecDepth 20000 in
theorem ggL_law_X10_reset_12 : GoodIn wsL_law wsX40 := goodIn_r _ [1039, 1040, 1041, 1042, 1043, 1044, 1045] (by decide +kernel) (by decide +kernel)
set_option maxRecDepth 20000 in
theorem ggL_law_X10_reset_13 : GoodIn wsL_law wsX80 := goodIn_r _ [1064, 1065, 1066, 1067] (by decide +kernel) (by decide +kernel)
set_option maxRecDepth 20000 in
theorem ggL_law_X10_reset_14 : GoodIn wsL_law wsX00 := goodIn_r _ [1046, 1047, 1048, 1049, 1050, 1051, 1052, 1053, 1054] (by decide +kernel) (by decide +kernel)
set_option maxRecDepth 20000 in
theorem ggL_law_X10_reset_15 : GoodIn wsL_law wsX20 := goodIn_r _ [1068, 1069, 1070, 1071, 1072, 1073, 1074, 1075, 1076, 1077, 1078, 1079, 1080, 1081] (by decide +kernel) (by decide +kernel)
set_option maxRecDepth 20000 in
theorem ggL_law_X10_reset_16 : GoodIn wsL_law wsX70 := goodIn_r _ [1055, 1056, 1057, 1058] (by decide +kernel) (by decide +kernel)
set_option maxRecDepth 20000 in
theorem ggL_law_X10_reset_17 : GoodIn wsL_law wsX50 := goodIn_r _ [1059, 1060, 1061, 1062, 1063] (by decide +kernel) (by decide +kernel)
theorem ggL_law_X10_reset : GoodIn wsL_law wsX10_reset := (goodIn_app (a := [.code yX10_reset cX10_reset 2 (some .int)]) ggL_law_X10_reset_c (goodIn_app (goodIn_app (goodIn_app (goodIn_app (goodIn_app (goodIn_app (goodIn_app (goodIn_app (goodIn_app (goodIn_app (goodIn_app (goodIn_app ggL_law_X10_reset_1 (goodIn_app ggL_law_X10_reset_2 (goodIn_app ggL_law_X10_reset_3 (goodIn_app ggL_law_X10_reset_4 (goodIn_app ggL_law_X10_reset_5 ggL_law_X10_reset_6))))) ggL_law_X10_reset_7) ggL_law_X10_reset_8) ggL_law_X10_reset_9) ggL_law_X10_reset_10) ggL_law_X10_reset_11) ggL_law_X10_reset_12) ggL_law_X10_reset_13) ggL_law_X10_reset_14) ggL_law_X10_reset_15) ggL_law_X10_reset_16) ggL_law_X10_reset_17))
set_option maxRecDepth 20000 in
theorem gL_law_X10_reset : GoodIn wsL_law (wsV RL 32 RX10 yX10_reset wsX10_reset) := goodIn_app (goodIn_of _ (by decide +kernel)) ggL_law_X10_reset
set_option maxRecDepth 20000 in
theorem ggL_law_X11_reset_c : GoodIn wsL_law [.code yX11_reset cX11_reset 2 (some .int)] := goodIn_r _ [365] (by decide +kernel) (by decide +kernel)
set_option maxRecDepth 20000 in
theorem ggL_law_X11_reset_1 : GoodIn wsL_law ([.fieldLink RX11 7 "BusBridgeModel" "z" "[I", .methodLink RX11 63 yX11_begin, .instanceMethod yX11_begin, .selects RX11 yX11_begin yX11_begin, .initialized RX11, .code yX11_begin cX11_begin 2 none, .fieldLink RX11 69 "BusBridgeModel" "registers" "I", .fieldLink RX11 32 "BusBridgeModel" "atFirst" "[I", .methodLink RX11 94 yX11_done, .instanceMethod yX11_done, .selects RX11 yX11_done yX11_done, .code yX11_done cX11_done 2 (some .int), .fieldLink RX11 66 "BusBridgeModel" "status" "I"] : List Cond) := goodIn_r _ [213, 230, 231, 232, 5, 233, 234, 220, 282, 283, 284, 285, 281] (by decide +kernel) (by decide +kernel)
set_option maxRecDepth 20000 in
theorem ggL_law_X11_reset_2 : GoodIn wsL_law wsX110 := goodIn_r _ [986, 987, 988, 989, 990, 991, 992, 993, 994, 995, 996, 997, 998, 999, 1000, 1001, 1002, 1003, 1004, 1005, 1006, 1007, 1008, 1009] (by decide +kernel) (by decide +kernel)
theorem ggL_law_X11_reset : GoodIn wsL_law wsX11_reset := (goodIn_app (a := [.code yX11_reset cX11_reset 2 (some .int)]) ggL_law_X11_reset_c (goodIn_app ggL_law_X11_reset_1 ggL_law_X11_reset_2))
set_option maxRecDepth 20000 in
theorem gL_law_X11_reset : GoodIn wsL_law (wsV RL 36 RX11 yX11_reset wsX11_reset) := goodIn_app (goodIn_of _ (by decide +kernel)) ggL_law_X11_reset
set_option maxRecDepth 20000 in
theorem ggL_law_X10_transfer_c : GoodIn wsL_law [.code yX10_transfer cX10_transfer 6 (some .int)] := goodIn_r _ [369] (by decide +kernel) (by decide +kernel)
set_option maxRecDepth 20000 in
theorem ggL_law_X10_transfer_1 : GoodIn wsL_law wsX10_transfer_r1 := goodIn_r _ [370, 19, 371, 372, 245, 246, 247, 2, 248, 27, 373, 374, 46, 375, 376, 377, 378, 86, 379, 162, 92, 380, 381, 382] (by decide +kernel) (by decide +kernel)
