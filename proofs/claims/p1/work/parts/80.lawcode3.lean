set_option maxRecDepth 20000 in
theorem ggL_law_X11_wire_1 : GoodIn wsL_law ([.constantLong RX11 205 (14), .methodLink RX11 74 yX11_in, .static yX11_in, .initialized RX11, .code yX11_in cX11_in 6 (some .boolean), .methodLink RX11 122 yX11_seen, .instanceMethod yX11_seen, .selects RX11 yX11_seen yX11_seen, .code yX11_seen cX11_seen 3 (some .int), .fieldLink RX11 7 "BusBridgeModel" "z" "[I", .methodLink RX11 94 yX11_done, .instanceMethod yX11_done, .selects RX11 yX11_done yX11_done, .code yX11_done cX11_done 2 (some .int), .fieldLink RX11 66 "BusBridgeModel" "status" "I", .methodLink RX11 209 yX11_none, .instanceMethod yX11_none, .selects RX11 yX11_none yX11_none, .code yX11_none cX11_none 2 (some .int)] : List Cond) := goodIn_r _ [743, 274, 275, 5, 276, 621, 622, 623, 624, 213, 282, 283, 284, 285, 281, 758, 759, 760, 761] (by decide +kernel) (by decide +kernel)
set_option maxRecDepth 20000 in
theorem ggL_law_X11_wire_2 : GoodIn wsL_law wsX110 := goodIn_r _ [986, 987, 988, 989, 990, 991, 992, 993, 994, 995, 996, 997, 998, 999, 1000, 1001, 1002, 1003, 1004, 1005, 1006, 1007, 1008, 1009] (by decide +kernel) (by decide +kernel)
theorem ggL_law_X11_wire : GoodIn wsL_law wsX11_wire := (goodIn_app (a := [.code yX11_wire cX11_wire 2 (some .int)]) ggL_law_X11_wire_c (goodIn_app ggL_law_X11_wire_1 ggL_law_X11_wire_2))
set_option maxRecDepth 20000 in
theorem gL_law_X11_wire : GoodIn wsL_law (wsV RL 57 RX11 yX11_wire wsX11_wire) := goodIn_app (goodIn_of _ (by decide +kernel)) ggL_law_X11_wire
set_option maxRecDepth 20000 in
theorem ggL_law_X10_under_c : GoodIn wsL_law [.code yX10_under cX10_under 2 (some .int)] := goodIn_r _ [765] (by decide +kernel) (by decide +kernel)
set_option maxRecDepth 20000 in
theorem ggL_law_X10_under_1 : GoodIn wsL_law ([.fieldLink RX10 19 "BusBridge" "now" "LBusBridge$Machine;", .fieldLink RX10 133 "BusBridge$Machine" "wires" "LBusBridge$Wires;", .fieldLink RX10 146 "BusBridge$Wires" "driven" "[I", .methodLink RX10 130 yX9_isWire, .static yX9_isWire, .initialized RX9, .code yX9_isWire cX9_isWire 1 (some .boolean), .methodLink RX10 140 yX10_refuseWithZero, .instanceMethod yX10_refuseWithZero, .selects RX10 yX10_refuseWithZero yX10_refuseWithZero, .initialized RX10, .code yX10_refuseWithZero cX10_refuseWithZero 2 (some .int), .fieldLink RX10 38 "BusBridge" "refused" "I", .methodLink RX10 68 yX10_allow, .instanceMethod yX10_allow, .selects RX10 yX10_allow yX10_allow, .code yX10_allow cX10_allow 2 (some .int)] : List Cond) := goodIn_r _ [19, 731, 766, 732, 733, 46, 734, 749, 750, 751, 2, 752, 27, 259, 260, 261, 262] (by decide +kernel) (by decide +kernel)
set_option maxRecDepth 20000 in
theorem ggL_law_X10_under_2 : GoodIn wsL_law wsX100 := goodIn_r _ [980, 981, 982, 983, 984, 985] (by decide +kernel) (by decide +kernel)
set_option maxRecDepth 20000 in
theorem ggL_law_X10_under_3 : GoodIn wsL_law wsX30 := goodIn_r _ [1023, 1024, 1025, 1026, 1027, 1028, 1029] (by decide +kernel) (by decide +kernel)
set_option maxRecDepth 20000 in
theorem ggL_law_X10_under_4 : GoodIn wsL_law wsX90 := goodIn_r _ [1033, 1034, 1035, 1036, 1037, 1038] (by decide +kernel) (by decide +kernel)
theorem ggL_law_X10_under : GoodIn wsL_law wsX10_under := (goodIn_app (a := [.code yX10_under cX10_under 2 (some .int)]) ggL_law_X10_under_c (goodIn_app (goodIn_app (goodIn_app ggL_law_X10_under_1 ggL_law_X10_under_2) ggL_law_X10_under_3) ggL_law_X10_under_4))
set_option maxRecDepth 20000 in
theorem gL_law_X10_under : GoodIn wsL_law (wsV RL 58 RX10 yX10_under wsX10_under) := goodIn_app (goodIn_of _ (by decide +kernel)) ggL_law_X10_under
set_option maxRecDepth 20000 in
theorem ggL_law_X11_under_c : GoodIn wsL_law [.code yX11_under cX11_under 2 (some .int)] := goodIn_r _ [770] (by decide +kernel) (by decide +kernel)
set_option maxRecDepth 20000 in
theorem ggL_law_X11_under_1 : GoodIn wsL_law ([.constantLong RX11 205 (14), .fieldLink RX11 7 "BusBridgeModel" "z" "[I", .methodLink RX11 74 yX11_in, .static yX11_in, .initialized RX11, .code yX11_in cX11_in 6 (some .boolean), .methodLink RX11 94 yX11_done, .instanceMethod yX11_done, .selects RX11 yX11_done yX11_done, .code yX11_done cX11_done 2 (some .int), .fieldLink RX11 66 "BusBridgeModel" "status" "I", .methodLink RX11 209 yX11_none, .instanceMethod yX11_none, .selects RX11 yX11_none yX11_none, .code yX11_none cX11_none 2 (some .int)] : List Cond) := goodIn_r _ [743, 213, 274, 275, 5, 276, 282, 283, 284, 285, 281, 758, 759, 760, 761] (by decide +kernel) (by decide +kernel)
set_option maxRecDepth 20000 in
theorem ggL_law_X11_under_2 : GoodIn wsL_law wsX110 := goodIn_r _ [986, 987, 988, 989, 990, 991, 992, 993, 994, 995, 996, 997, 998, 999, 1000, 1001, 1002, 1003, 1004, 1005, 1006, 1007, 1008, 1009] (by decide +kernel) (by decide +kernel)
theorem ggL_law_X11_under : GoodIn wsL_law wsX11_under := (goodIn_app (a := [.code yX11_under cX11_under 2 (some .int)]) ggL_law_X11_under_c (goodIn_app ggL_law_X11_under_1 ggL_law_X11_under_2))
set_option maxRecDepth 20000 in
theorem gL_law_X11_under : GoodIn wsL_law (wsV RL 61 RX11 yX11_under wsX11_under) := goodIn_app (goodIn_of _ (by decide +kernel)) ggL_law_X11_under
set_option maxRecDepth 20000 in
theorem ggL_law_X10_result_c : GoodIn wsL_law [.code yX10_result cX10_result 4 (some .int)] := goodIn_r _ [774] (by decide +kernel) (by decide +kernel)
set_option maxRecDepth 20000 in
theorem ggL_law_X10_result_1 : GoodIn wsL_law wsX10_result_r1 := goodIn_r _ [19, 371, 372, 775, 394, 395, 86, 396, 162, 749, 750, 751, 2, 752, 27, 776, 496, 497, 498, 98, 93, 393, 397, 398] (by decide +kernel) (by decide +kernel)
set_option maxRecDepth 20000 in
theorem ggL_law_X10_result_2 : GoodIn wsL_law wsX10_result_r2 := goodIn_r _ [399, 400, 259, 260, 261, 262] (by decide +kernel) (by decide +kernel)
set_option maxRecDepth 20000 in
theorem ggL_law_X10_result_3 : GoodIn wsL_law wsX100 := goodIn_r _ [980, 981, 982, 983, 984, 985] (by decide +kernel) (by decide +kernel)
set_option maxRecDepth 20000 in
theorem ggL_law_X10_result_4 : GoodIn wsL_law wsX30 := goodIn_r _ [1023, 1024, 1025, 1026, 1027, 1028, 1029] (by decide +kernel) (by decide +kernel)
set_option maxRecDepth 20000 in
theorem ggL_law_X10_result_5 : GoodIn wsL_law wsX40 := goodIn_r _ [1039, 1040, 1041, 1042, 1043, 1044, 1045] (by decide +kernel) (by decide +kernel)
set_option maxRecDepth 20000 in
theorem ggL_law_X10_result_6 : GoodIn wsL_law wsX80 := goodIn_r _ [1064, 1065, 1066, 1067] (by decide +kernel) (by decide +kernel)
theorem ggL_law_X10_result : GoodIn wsL_law wsX10_result := (goodIn_app (a := [.code yX10_result cX10_result 4 (some .int)]) ggL_law_X10_result_c (goodIn_app (goodIn_app (goodIn_app (goodIn_app (goodIn_app ggL_law_X10_result_1 ggL_law_X10_result_2) ggL_law_X10_result_3) ggL_law_X10_result_4) ggL_law_X10_result_5) ggL_law_X10_result_6))
set_option maxRecDepth 20000 in
theorem gL_law_X10_result : GoodIn wsL_law (wsV RL 62 RX10 yX10_result wsX10_result) := goodIn_app (goodIn_of _ (by decide +kernel)) ggL_law_X10_result
set_option maxRecDepth 20000 in
theorem ggL_law_X11_result_c : GoodIn wsL_law [.code yX11_result cX11_result 3 (some .int)] := goodIn_r _ [780] (by decide +kernel) (by decide +kernel)
set_option maxRecDepth 20000 in
theorem ggL_law_X11_result_1 : GoodIn wsL_law ([.fieldLink RX11 7 "BusBridgeModel" "z" "[I", .constantLong RX11 120 (3), .methodLink RX11 74 yX11_in, .static yX11_in, .initialized RX11, .code yX11_in cX11_in 6 (some .boolean), .methodLink RX11 209 yX11_none, .instanceMethod yX11_none, .selects RX11 yX11_none yX11_none, .code yX11_none cX11_none 2 (some .int), .fieldLink RX11 66 "BusBridgeModel" "status" "I", .methodLink RX11 143 yX11_ofTransfer, .instanceMethod yX11_ofTransfer, .selects RX11 yX11_ofTransfer yX11_ofTransfer, .code yX11_ofTransfer cX11_ofTransfer 3 (some .int), .methodLink RX11 94 yX11_done, .instanceMethod yX11_done, .selects RX11 yX11_done yX11_done, .code yX11_done cX11_done 2 (some .int)] : List Cond) := goodIn_r _ [213, 407, 274, 275, 5, 276, 758, 759, 760, 761, 281, 652, 653, 654, 655, 282, 283, 284, 285] (by decide +kernel) (by decide +kernel)
set_option maxRecDepth 20000 in
theorem ggL_law_X11_result_2 : GoodIn wsL_law wsX110 := goodIn_r _ [986, 987, 988, 989, 990, 991, 992, 993, 994, 995, 996, 997, 998, 999, 1000, 1001, 1002, 1003, 1004, 1005, 1006, 1007, 1008, 1009] (by decide +kernel) (by decide +kernel)
theorem ggL_law_X11_result : GoodIn wsL_law wsX11_result := (goodIn_app (a := [.code yX11_result cX11_result 3 (some .int)]) ggL_law_X11_result_c (goodIn_app ggL_law_X11_result_1 ggL_law_X11_result_2))
set_option maxRecDepth 20000 in
theorem gL_law_X11_result : GoodIn wsL_law (wsV RL 66 RX11 yX11_result wsX11_result) := goodIn_app (goodIn_of _ (by decide +kernel)) ggL_law_X11_result
set_option maxRecDepth 20000 in
theorem ggL_law_X10_log_c : GoodIn wsL_law [.code yX10_log cX10_log 4 (some .int)] := goodIn_r _ [784] (by decide +kernel) (by decide +kernel)
set_option maxRecDepth 20000 in
theorem ggL_law_X10_log_1 : GoodIn wsL_law wsX10_log_r1 := goodIn_r _ [19, 785, 786, 787, 775, 394, 395, 86, 396, 162, 749, 750, 751, 2, 752, 27, 788, 398, 399, 400, 93, 776, 496, 497] (by decide +kernel) (by decide +kernel)
set_option maxRecDepth 20000 in
theorem ggL_law_X10_log_2 : GoodIn wsL_law wsX10_log_r2 := goodIn_r _ [498, 98, 393, 397, 259, 260, 261, 262] (by decide +kernel) (by decide +kernel)
set_option maxRecDepth 20000 in
theorem ggL_law_X10_log_3 : GoodIn wsL_law wsX100 := goodIn_r _ [980, 981, 982, 983, 984, 985] (by decide +kernel) (by decide +kernel)
set_option maxRecDepth 20000 in
theorem ggL_law_X10_log_4 : GoodIn wsL_law wsX30 := goodIn_r _ [1023, 1024, 1025, 1026, 1027, 1028, 1029] (by decide +kernel) (by decide +kernel)
set_option maxRecDepth 20000 in
theorem ggL_law_X10_log_5 : GoodIn wsL_law wsX00 := goodIn_r _ [1046, 1047, 1048, 1049, 1050, 1051, 1052, 1053, 1054] (by decide +kernel) (by decide +kernel)
set_option maxRecDepth 20000 in
theorem ggL_law_X10_log_6 : GoodIn wsL_law wsX20 := goodIn_r _ [1068, 1069, 1070, 1071, 1072, 1073, 1074, 1075, 1076, 1077, 1078, 1079, 1080, 1081] (by decide +kernel) (by decide +kernel)
set_option maxRecDepth 20000 in
theorem ggL_law_X10_log_7 : GoodIn wsL_law wsX80 := goodIn_r _ [1064, 1065, 1066, 1067] (by decide +kernel) (by decide +kernel)
theorem ggL_law_X10_log : GoodIn wsL_law wsX10_log := (goodIn_app (a := [.code yX10_log cX10_log 4 (some .int)]) ggL_law_X10_log_c (goodIn_app (goodIn_app (goodIn_app (goodIn_app (goodIn_app (goodIn_app ggL_law_X10_log_1 ggL_law_X10_log_2) ggL_law_X10_log_3) ggL_law_X10_log_4) ggL_law_X10_log_5) ggL_law_X10_log_6) ggL_law_X10_log_7))
set_option maxRecDepth 20000 in
theorem gL_law_X10_log : GoodIn wsL_law (wsV RL 67 RX10 yX10_log wsX10_log) := goodIn_app (goodIn_of _ (by decide +kernel)) ggL_law_X10_log
set_option maxRecDepth 20000 in
theorem ggL_law_X11_log_c : GoodIn wsL_law [.code yX11_log cX11_log 3 (some .int)] := goodIn_r _ [792] (by decide +kernel) (by decide +kernel)
set_option maxRecDepth 20000 in
theorem ggL_law_X11_log_1 : GoodIn wsL_law ([.constantLong RX11 101 (7), .fieldLink RX11 7 "BusBridgeModel" "z" "[I", .methodLink RX11 212 yX11_logged, .instanceMethod yX11_logged, .selects RX11 yX11_logged yX11_logged, .initialized RX11, .code yX11_logged cX11_logged 1 (some .int), .methodLink RX11 74 yX11_in, .static yX11_in, .code yX11_in cX11_in 6 (some .boolean), .methodLink RX11 209 yX11_none, .instanceMethod yX11_none, .selects RX11 yX11_none yX11_none, .code yX11_none cX11_none 2 (some .int), .fieldLink RX11 66 "BusBridgeModel" "status" "I", .methodLink RX11 94 yX11_done, .instanceMethod yX11_done, .selects RX11 yX11_done yX11_done, .code yX11_done cX11_done 2 (some .int)] : List Cond) := goodIn_r _ [317, 213, 793, 794, 795, 5, 796, 274, 275, 276, 758, 759, 760, 761, 281, 282, 283, 284, 285] (by decide +kernel) (by decide +kernel)
set_option maxRecDepth 20000 in
theorem ggL_law_X11_log_2 : GoodIn wsL_law wsX110 := goodIn_r _ [986, 987, 988, 989, 990, 991, 992, 993, 994, 995, 996, 997, 998, 999, 1000, 1001, 1002, 1003, 1004, 1005, 1006, 1007, 1008, 1009] (by decide +kernel) (by decide +kernel)
theorem ggL_law_X11_log : GoodIn wsL_law wsX11_log := (goodIn_app (a := [.code yX11_log cX11_log 3 (some .int)]) ggL_law_X11_log_c (goodIn_app ggL_law_X11_log_1 ggL_law_X11_log_2))
set_option maxRecDepth 20000 in
theorem gL_law_X11_log : GoodIn wsL_law (wsV RL 70 RX11 yX11_log wsX11_log) := goodIn_app (goodIn_of _ (by decide +kernel)) ggL_law_X11_log
set_option maxRecDepth 20000 in
theorem ggL_law_X10_findings_c : GoodIn wsL_law [.code yX10_findings cX10_findings 2 (some .int)] := goodIn_r _ [800] (by decide +kernel) (by decide +kernel)
set_option maxRecDepth 20000 in
theorem ggL_law_X10_findings_1 : GoodIn wsL_law ([.fieldLink RX10 19 "BusBridge" "now" "LBusBridge$Machine;", .fieldLink RX10 175 "BusBridge$Machine" "monitor" "LBusBridge$Monitor;", .fieldLink RX10 179 "BusBridge$Monitor" "counts" "[I", .methodLink RX10 50 yX10_refuse, .instanceMethod yX10_refuse, .selects RX10 yX10_refuse yX10_refuse, .initialized RX10, .code yX10_refuse cX10_refuse 2 (some .int), .fieldLink RX10 38 "BusBridge" "refused" "I", .methodLink RX10 68 yX10_allow, .instanceMethod yX10_allow, .selects RX10 yX10_allow yX10_allow, .code yX10_allow cX10_allow 2 (some .int)] : List Cond) := goodIn_r _ [19, 801, 802, 245, 246, 247, 2, 248, 27, 259, 260, 261, 262] (by decide +kernel) (by decide +kernel)
set_option maxRecDepth 20000 in
theorem ggL_law_X10_findings_2 : GoodIn wsL_law wsX100 := goodIn_r _ [980, 981, 982, 983, 984, 985] (by decide +kernel) (by decide +kernel)
set_option maxRecDepth 20000 in
theorem ggL_law_X10_findings_3 : GoodIn wsL_law wsX30 := goodIn_r _ [1023, 1024, 1025, 1026, 1027, 1028, 1029] (by decide +kernel) (by decide +kernel)
set_option maxRecDepth 20000 in
theorem ggL_law_X10_findings_4 : GoodIn wsL_law wsX50 := goodIn_r _ [1059, 1060, 1061, 1062, 1063] (by decide +kernel) (by decide +kernel)
theorem ggL_law_X10_findings : GoodIn wsL_law wsX10_findings := (goodIn_app (a := [.code yX10_findings cX10_findings 2 (some .int)]) ggL_law_X10_findings_c (goodIn_app (goodIn_app (goodIn_app ggL_law_X10_findings_1 ggL_law_X10_findings_2) ggL_law_X10_findings_3) ggL_law_X10_findings_4))
set_option maxRecDepth 20000 in
theorem gL_law_X10_findings : GoodIn wsL_law (wsV RL 71 RX10 yX10_findings wsX10_findings) := goodIn_app (goodIn_of _ (by decide +kernel)) ggL_law_X10_findings
set_option maxRecDepth 20000 in
theorem ggL_law_X11_findings_c : GoodIn wsL_law [.code yX11_findings cX11_findings 2 (some .int)] := goodIn_r _ [806] (by decide +kernel) (by decide +kernel)
set_option maxRecDepth 20000 in
theorem ggL_law_X11_findings_1 : GoodIn wsL_law ([.constantLong RX11 82 (15), .fieldLink RX11 7 "BusBridgeModel" "z" "[I", .methodLink RX11 74 yX11_in, .static yX11_in, .initialized RX11, .code yX11_in cX11_in 6 (some .boolean), .methodLink RX11 84 yX11_refused, .instanceMethod yX11_refused, .selects RX11 yX11_refused yX11_refused, .code yX11_refused cX11_refused 2 (some .int), .fieldLink RX11 66 "BusBridgeModel" "status" "I", .methodLink RX11 94 yX11_done, .instanceMethod yX11_done, .selects RX11 yX11_done yX11_done, .code yX11_done cX11_done 2 (some .int)] : List Cond) := goodIn_r _ [267, 213, 274, 275, 5, 276, 277, 278, 279, 280, 281, 282, 283, 284, 285] (by decide +kernel) (by decide +kernel)
set_option maxRecDepth 20000 in
theorem ggL_law_X11_findings_2 : GoodIn wsL_law wsX110 := goodIn_r _ [986, 987, 988, 989, 990, 991, 992, 993, 994, 995, 996, 997, 998, 999, 1000, 1001, 1002, 1003, 1004, 1005, 1006, 1007, 1008, 1009] (by decide +kernel) (by decide +kernel)
theorem ggL_law_X11_findings : GoodIn wsL_law wsX11_findings := (goodIn_app (a := [.code yX11_findings cX11_findings 2 (some .int)]) ggL_law_X11_findings_c (goodIn_app ggL_law_X11_findings_1 ggL_law_X11_findings_2))
set_option maxRecDepth 20000 in
theorem gL_law_X11_findings : GoodIn wsL_law (wsV RL 74 RX11 yX11_findings wsX11_findings) := goodIn_app (goodIn_of _ (by decide +kernel)) ggL_law_X11_findings
set_option maxRecDepth 20000 in
theorem ggL_law_X10_finding_c : GoodIn wsL_law [.code yX10_finding cX10_finding 4 (some .int)] := goodIn_r _ [810] (by decide +kernel) (by decide +kernel)
set_option maxRecDepth 20000 in
theorem ggL_law_X10_finding_1 : GoodIn wsL_law wsX10_finding_r1 := goodIn_r _ [19, 801, 811, 775, 394, 395, 86, 396, 162, 245, 246, 247, 2, 248, 27, 788, 398, 399, 400, 93, 776, 496, 497, 498] (by decide +kernel) (by decide +kernel)
set_option maxRecDepth 20000 in
theorem ggL_law_X10_finding_2 : GoodIn wsL_law wsX10_finding_r2 := goodIn_r _ [98, 393, 397, 259, 260, 261, 262] (by decide +kernel) (by decide +kernel)
set_option maxRecDepth 20000 in
theorem ggL_law_X10_finding_3 : GoodIn wsL_law wsX100 := goodIn_r _ [980, 981, 982, 983, 984, 985] (by decide +kernel) (by decide +kernel)
set_option maxRecDepth 20000 in
theorem ggL_law_X10_finding_4 : GoodIn wsL_law wsX30 := goodIn_r _ [1023, 1024, 1025, 1026, 1027, 1028, 1029] (by decide +kernel) (by decide +kernel)
set_option maxRecDepth 20000 in
theorem ggL_law_X10_finding_5 : GoodIn wsL_law wsX50 := goodIn_r _ [1059, 1060, 1061, 1062, 1063] (by decide +kernel) (by decide +kernel)
set_option maxRecDepth 20000 in
theorem ggL_law_X10_finding_6 : GoodIn wsL_law wsX80 := goodIn_r _ [1064, 1065, 1066, 1067] (by decide +kernel) (by decide +kernel)
theorem ggL_law_X10_finding : GoodIn wsL_law wsX10_finding := (goodIn_app (a := [.code yX10_finding cX10_finding 4 (some .int)]) ggL_law_X10_finding_c (goodIn_app (goodIn_app (goodIn_app (goodIn_app (goodIn_app ggL_law_X10_finding_1 ggL_law_X10_finding_2) ggL_law_X10_finding_3) ggL_law_X10_finding_4) ggL_law_X10_finding_5) ggL_law_X10_finding_6))
set_option maxRecDepth 20000 in
theorem gL_law_X10_finding : GoodIn wsL_law (wsV RL 75 RX10 yX10_finding wsX10_finding) := goodIn_app (goodIn_of _ (by decide +kernel)) ggL_law_X10_finding
set_option maxRecDepth 20000 in
theorem ggL_law_X11_finding_c : GoodIn wsL_law [.code yX11_finding cX11_finding 3 (some .int)] := goodIn_r _ [815] (by decide +kernel) (by decide +kernel)
set_option maxRecDepth 20000 in
theorem ggL_law_X11_finding_1 : GoodIn wsL_law ([.fieldLink RX11 7 "BusBridgeModel" "z" "[I", .methodLink RX11 216 yX11_found, .instanceMethod yX11_found, .selects RX11 yX11_found yX11_found, .initialized RX11, .code yX11_found cX11_found 1 (some .int), .methodLink RX11 74 yX11_in, .static yX11_in, .code yX11_in cX11_in 6 (some .boolean), .methodLink RX11 84 yX11_refused, .instanceMethod yX11_refused, .selects RX11 yX11_refused yX11_refused, .code yX11_refused cX11_refused 2 (some .int), .fieldLink RX11 66 "BusBridgeModel" "status" "I", .methodLink RX11 94 yX11_done, .instanceMethod yX11_done, .selects RX11 yX11_done yX11_done, .code yX11_done cX11_done 2 (some .int)] : List Cond) := goodIn_r _ [213, 816, 817, 818, 5, 819, 274, 275, 276, 277, 278, 279, 280, 281, 282, 283, 284, 285] (by decide +kernel) (by decide +kernel)
set_option maxRecDepth 20000 in
theorem ggL_law_X11_finding_2 : GoodIn wsL_law wsX110 := goodIn_r _ [986, 987, 988, 989, 990, 991, 992, 993, 994, 995, 996, 997, 998, 999, 1000, 1001, 1002, 1003, 1004, 1005, 1006, 1007, 1008, 1009] (by decide +kernel) (by decide +kernel)
theorem ggL_law_X11_finding : GoodIn wsL_law wsX11_finding := (goodIn_app (a := [.code yX11_finding cX11_finding 3 (some .int)]) ggL_law_X11_finding_c (goodIn_app ggL_law_X11_finding_1 ggL_law_X11_finding_2))
set_option maxRecDepth 20000 in
theorem gL_law_X11_finding : GoodIn wsL_law (wsV RL 78 RX11 yX11_finding wsX11_finding) := goodIn_app (goodIn_of _ (by decide +kernel)) ggL_law_X11_finding
set_option maxRecDepth 20000 in
theorem ggL_law_X10_value_c : GoodIn wsL_law [.code yX10_value cX10_value 4 (some .int)] := goodIn_r _ [823] (by decide +kernel) (by decide +kernel)
set_option maxRecDepth 20000 in
theorem ggL_law_X10_value_1 : GoodIn wsL_law wsX10_value_r1 := goodIn_r _ [15, 19, 291, 824, 295, 296, 297, 14, 298, 253, 299, 300, 301, 302, 31, 32, 303, 304, 305, 306, 307, 36, 39, 749] (by decide +kernel) (by decide +kernel)
set_option maxRecDepth 20000 in
theorem ggL_law_X10_value_2 : GoodIn wsL_law wsX10_value_r2 := goodIn_r _ [750, 751, 2, 752, 27, 259, 260, 261, 262] (by decide +kernel) (by decide +kernel)
set_option maxRecDepth 20000 in
theorem ggL_law_X10_value_3 : GoodIn wsL_law wsX100 := goodIn_r _ [980, 981, 982, 983, 984, 985] (by decide +kernel) (by decide +kernel)
set_option maxRecDepth 20000 in
theorem ggL_law_X10_value_4 : GoodIn wsL_law wsX30 := goodIn_r _ [1023, 1024, 1025, 1026, 1027, 1028, 1029] (by decide +kernel) (by decide +kernel)
set_option maxRecDepth 20000 in
theorem ggL_law_X10_value_5 : GoodIn wsL_law wsX10 := goodIn_r _ [1030, 1031, 1032] (by decide +kernel) (by decide +kernel)
set_option maxRecDepth 20000 in
theorem ggL_law_X10_value_6 : GoodIn wsL_law wsX60 := goodIn_r _ [1010, 1011, 1012, 1013, 1014, 1015, 1016, 1017, 1018, 1019, 1020, 1021, 1022] (by decide +kernel) (by decide +kernel)
theorem ggL_law_X10_value : GoodIn wsL_law wsX10_value := (goodIn_app (a := [.code yX10_value cX10_value 4 (some .int)]) ggL_law_X10_value_c (goodIn_app (goodIn_app (goodIn_app (goodIn_app (goodIn_app ggL_law_X10_value_1 ggL_law_X10_value_2) ggL_law_X10_value_3) ggL_law_X10_value_4) ggL_law_X10_value_5) ggL_law_X10_value_6))
set_option maxRecDepth 20000 in
theorem gL_law_X10_value : GoodIn wsL_law (wsV RL 79 RX10 yX10_value wsX10_value) := goodIn_app (goodIn_of _ (by decide +kernel)) ggL_law_X10_value
set_option maxRecDepth 20000 in
theorem ggL_law_X11_value_c : GoodIn wsL_law [.code yX11_value cX11_value 3 (some .int)] := goodIn_r _ [828] (by decide +kernel) (by decide +kernel)
set_option maxRecDepth 20000 in
theorem ggL_law_X11_value_1 : GoodIn wsL_law ([.fieldLink RX11 7 "BusBridgeModel" "z" "[I", .methodLink RX11 106 yX11_registerAt, .instanceMethod yX11_registerAt, .selects RX11 yX11_registerAt yX11_registerAt, .initialized RX11, .code yX11_registerAt cX11_registerAt 3 (some .int), .fieldLink RX11 69 "BusBridgeModel" "registers" "I", .fieldLink RX11 26 "BusBridgeModel" "word" "[I", .methodLink RX11 209 yX11_none, .instanceMethod yX11_none, .selects RX11 yX11_none yX11_none, .code yX11_none cX11_none 2 (some .int), .fieldLink RX11 66 "BusBridgeModel" "status" "I", .methodLink RX11 94 yX11_done, .instanceMethod yX11_done, .selects RX11 yX11_done yX11_done, .code yX11_done cX11_done 2 (some .int)] : List Cond) := goodIn_r _ [213, 326, 327, 328, 5, 329, 234, 218, 758, 759, 760, 761, 281, 282, 283, 284, 285] (by decide +kernel) (by decide +kernel)
set_option maxRecDepth 20000 in
theorem ggL_law_X11_value_2 : GoodIn wsL_law wsX110 := goodIn_r _ [986, 987, 988, 989, 990, 991, 992, 993, 994, 995, 996, 997, 998, 999, 1000, 1001, 1002, 1003, 1004, 1005, 1006, 1007, 1008, 1009] (by decide +kernel) (by decide +kernel)
theorem ggL_law_X11_value : GoodIn wsL_law wsX11_value := (goodIn_app (a := [.code yX11_value cX11_value 3 (some .int)]) ggL_law_X11_value_c (goodIn_app ggL_law_X11_value_1 ggL_law_X11_value_2))
set_option maxRecDepth 20000 in
theorem gL_law_X11_value : GoodIn wsL_law (wsV RL 82 RX11 yX11_value wsX11_value) := goodIn_app (goodIn_of _ (by decide +kernel)) ggL_law_X11_value
set_option maxRecDepth 20000 in
theorem ggL_law_X10_decode_c : GoodIn wsL_law [.code yX10_decode cX10_decode 3 (some .int)] := goodIn_r _ [832] (by decide +kernel) (by decide +kernel)
set_option maxRecDepth 20000 in
theorem ggL_law_X10_decode_1 : GoodIn wsL_law ([.fieldLink RX10 10 "BusBridge" "plan" "LBusBridge$Plan;", .methodLink RX10 77 yX6_slaveAt, .instanceMethod yX6_slaveAt, .selects RX6 yX6_slaveAt yX6_slaveAt, .initialized RX6, .code yX6_slaveAt cX6_slaveAt 3 (some .int), .fieldLink RX6 42 "BusBridge$Plan" "slaves" "I", .methodLink RX6 54 yX6_isInRange, .instanceMethod yX6_isInRange, .selects RX6 yX6_isInRange yX6_isInRange, .code yX6_isInRange cX6_isInRange 3 (some .boolean), .fieldLink RX6 11 "BusBridge$Plan" "first" "[I", .fieldLink RX6 15 "BusBridge$Plan" "last" "[I", .methodLink RX10 68 yX10_allow, .instanceMethod yX10_allow, .selects RX10 yX10_allow yX10_allow, .initialized RX10, .code yX10_allow cX10_allow 2 (some .int), .fieldLink RX10 38 "BusBridge" "refused" "I"] : List Cond) := goodIn_r _ [15, 295, 296, 297, 14, 298, 253, 299, 300, 301, 302, 31, 32, 259, 260, 261, 2, 262, 27] (by decide +kernel) (by decide +kernel)
set_option maxRecDepth 20000 in
theorem ggL_law_X10_decode_2 : GoodIn wsL_law wsX100 := goodIn_r _ [980, 981, 982, 983, 984, 985] (by decide +kernel) (by decide +kernel)
set_option maxRecDepth 20000 in
theorem ggL_law_X10_decode_3 : GoodIn wsL_law wsX60 := goodIn_r _ [1010, 1011, 1012, 1013, 1014, 1015, 1016, 1017, 1018, 1019, 1020, 1021, 1022] (by decide +kernel) (by decide +kernel)
theorem ggL_law_X10_decode : GoodIn wsL_law wsX10_decode := (goodIn_app (a := [.code yX10_decode cX10_decode 3 (some .int)]) ggL_law_X10_decode_c (goodIn_app (goodIn_app ggL_law_X10_decode_1 ggL_law_X10_decode_2) ggL_law_X10_decode_3))
set_option maxRecDepth 20000 in
theorem gL_law_X10_decode : GoodIn wsL_law (wsV RL 83 RX10 yX10_decode wsX10_decode) := goodIn_app (goodIn_of _ (by decide +kernel)) ggL_law_X10_decode
set_option maxRecDepth 20000 in
theorem ggL_law_X11_decode_c : GoodIn wsL_law [.code yX11_decode cX11_decode 2 (some .int)] := goodIn_r _ [836] (by decide +kernel) (by decide +kernel)
set_option maxRecDepth 20000 in
theorem ggL_law_X11_decode_1 : GoodIn wsL_law ([.methodLink RX11 103 yX11_slaveOf, .instanceMethod yX11_slaveOf, .selects RX11 yX11_slaveOf yX11_slaveOf, .initialized RX11, .code yX11_slaveOf cX11_slaveOf 3 (some .int), .fieldLink RX11 88 "BusBridgeModel" "slaves" "I", .methodLink RX11 97 yX11_has, .instanceMethod yX11_has, .selects RX11 yX11_has yX11_has, .code yX11_has cX11_has 3 (some .boolean), .fieldLink RX11 13 "BusBridgeModel" "first" "[I", .fieldLink RX11 16 "BusBridgeModel" "last" "[I", .methodLink RX11 74 yX11_in, .static yX11_in, .code yX11_in cX11_in 6 (some .boolean), .methodLink RX11 94 yX11_done, .instanceMethod yX11_done, .selects RX11 yX11_done yX11_done, .code yX11_done cX11_done 2 (some .int), .fieldLink RX11 66 "BusBridgeModel" "status" "I"] : List Cond) := goodIn_r _ [318, 319, 320, 5, 321, 268, 322, 323, 324, 325, 214, 215, 274, 275, 276, 282, 283, 284, 285, 281] (by decide +kernel) (by decide +kernel)
set_option maxRecDepth 20000 in
theorem ggL_law_X11_decode_2 : GoodIn wsL_law wsX110 := goodIn_r _ [986, 987, 988, 989, 990, 991, 992, 993, 994, 995, 996, 997, 998, 999, 1000, 1001, 1002, 1003, 1004, 1005, 1006, 1007, 1008, 1009] (by decide +kernel) (by decide +kernel)
theorem ggL_law_X11_decode : GoodIn wsL_law wsX11_decode := (goodIn_app (a := [.code yX11_decode cX11_decode 2 (some .int)]) ggL_law_X11_decode_c (goodIn_app ggL_law_X11_decode_1 ggL_law_X11_decode_2))
set_option maxRecDepth 20000 in
theorem gL_law_X11_decode : GoodIn wsL_law (wsV RL 86 RX11 yX11_decode wsX11_decode) := goodIn_app (goodIn_of _ (by decide +kernel)) ggL_law_X11_decode
set_option maxRecDepth 20000 in
theorem ggL_law_X10_bridge_c : GoodIn wsL_law [.code yX10_bridge cX10_bridge 3 (some .int)] := goodIn_r _ [840] (by decide +kernel) (by decide +kernel)
set_option maxRecDepth 20000 in
theorem ggL_law_X10_bridge_1 : GoodIn wsL_law ([.fieldLink RX10 19 "BusBridge" "now" "LBusBridge$Machine;", .fieldLink RX10 155 "BusBridge$Machine" "bridge" "LBusBridge$Bridge;", .fieldLink RX10 186 "BusBridge$Bridge" "state" "I", .fieldLink RX10 159 "BusBridge$Bridge" "lower" "LBusBridge$Lower;", .fieldLink RX10 189 "BusBridge$Lower" "phase" "I", .fieldLink RX10 192 "BusBridge$Bridge" "posted" "I", .fieldLink RX10 195 "BusBridge$Lower" "late" "I", .fieldLink RX10 198 "BusBridge$Lower" "timeouts" "I", .fieldLink RX10 201 "BusBridge$Lower" "begun" "I", .methodLink RX10 68 yX10_allow, .instanceMethod yX10_allow, .selects RX10 yX10_allow yX10_allow, .initialized RX10, .code yX10_allow cX10_allow 2 (some .int), .fieldLink RX10 38 "BusBridge" "refused" "I", .methodLink RX10 50 yX10_refuse, .instanceMethod yX10_refuse, .selects RX10 yX10_refuse yX10_refuse, .code yX10_refuse cX10_refuse 2 (some .int)] : List Cond) := goodIn_r _ [19, 785, 841, 786, 842, 843, 844, 845, 846, 259, 260, 261, 2, 262, 27, 245, 246, 247, 248] (by decide +kernel) (by decide +kernel)
set_option maxRecDepth 20000 in
theorem ggL_law_X10_bridge_2 : GoodIn wsL_law wsX100 := goodIn_r _ [980, 981, 982, 983, 984, 985] (by decide +kernel) (by decide +kernel)
set_option maxRecDepth 20000 in
theorem ggL_law_X10_bridge_3 : GoodIn wsL_law wsX30 := goodIn_r _ [1023, 1024, 1025, 1026, 1027, 1028, 1029] (by decide +kernel) (by decide +kernel)
set_option maxRecDepth 20000 in
theorem ggL_law_X10_bridge_4 : GoodIn wsL_law wsX00 := goodIn_r _ [1046, 1047, 1048, 1049, 1050, 1051, 1052, 1053, 1054] (by decide +kernel) (by decide +kernel)
set_option maxRecDepth 20000 in
theorem ggL_law_X10_bridge_5 : GoodIn wsL_law wsX20 := goodIn_r _ [1068, 1069, 1070, 1071, 1072, 1073, 1074, 1075, 1076, 1077, 1078, 1079, 1080, 1081] (by decide +kernel) (by decide +kernel)
theorem ggL_law_X10_bridge : GoodIn wsL_law wsX10_bridge := (goodIn_app (a := [.code yX10_bridge cX10_bridge 3 (some .int)]) ggL_law_X10_bridge_c (goodIn_app (goodIn_app (goodIn_app (goodIn_app ggL_law_X10_bridge_1 ggL_law_X10_bridge_2) ggL_law_X10_bridge_3) ggL_law_X10_bridge_4) ggL_law_X10_bridge_5))
set_option maxRecDepth 20000 in
theorem gL_law_X10_bridge : GoodIn wsL_law (wsV RL 87 RX10 yX10_bridge wsX10_bridge) := goodIn_app (goodIn_of _ (by decide +kernel)) ggL_law_X10_bridge
set_option maxRecDepth 20000 in
theorem ggL_law_X11_bridge__c : GoodIn wsL_law [.code yX11_bridge_ cX11_bridge_ 2 (some .int)] := goodIn_r _ [850] (by decide +kernel) (by decide +kernel)
set_option maxRecDepth 20000 in
theorem ggL_law_X11_bridge__1 : GoodIn wsL_law ([.fieldLink RX11 7 "BusBridgeModel" "z" "[I", .methodLink RX11 94 yX11_done, .instanceMethod yX11_done, .selects RX11 yX11_done yX11_done, .initialized RX11, .code yX11_done cX11_done 2 (some .int), .fieldLink RX11 66 "BusBridgeModel" "status" "I", .methodLink RX11 84 yX11_refused, .instanceMethod yX11_refused, .selects RX11 yX11_refused yX11_refused, .code yX11_refused cX11_refused 2 (some .int)] : List Cond) := goodIn_r _ [213, 282, 283, 284, 5, 285, 281, 277, 278, 279, 280] (by decide +kernel) (by decide +kernel)
set_option maxRecDepth 20000 in
theorem ggL_law_X11_bridge__2 : GoodIn wsL_law wsX110 := goodIn_r _ [986, 987, 988, 989, 990, 991, 992, 993, 994, 995, 996, 997, 998, 999, 1000, 1001, 1002, 1003, 1004, 1005, 1006, 1007, 1008, 1009] (by decide +kernel) (by decide +kernel)
theorem ggL_law_X11_bridge_ : GoodIn wsL_law wsX11_bridge_ := (goodIn_app (a := [.code yX11_bridge_ cX11_bridge_ 2 (some .int)]) ggL_law_X11_bridge__c (goodIn_app ggL_law_X11_bridge__1 ggL_law_X11_bridge__2))
set_option maxRecDepth 20000 in
theorem gL_law_X11_bridge_ : GoodIn wsL_law (wsV RL 90 RX11 yX11_bridge_ wsX11_bridge_) := goodIn_app (goodIn_of _ (by decide +kernel)) ggL_law_X11_bridge_
set_option maxRecDepth 20000 in
theorem ggL_law_X10_again_c : GoodIn wsL_law [.code yX10_again cX10_again 6 (some .int)] := goodIn_r _ [854] (by decide +kernel) (by decide +kernel)
