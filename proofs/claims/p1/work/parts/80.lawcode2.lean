set_option maxRecDepth 20000 in
theorem ggL_law_X10_transfer_2 : GoodIn wsL_law wsX10_transfer_r2 := goodIn_r _ [52, 383, 87, 384, 385, 386, 387, 93, 98, 388, 389, 390, 391, 392, 393, 394, 395, 396, 397, 398, 399, 400, 259, 260] (by decide +kernel) (by decide +kernel)
set_option maxRecDepth 20000 in
theorem ggL_law_X10_transfer_3 : GoodIn wsL_law wsX10_transfer_r3 := goodIn_r _ [261, 262] (by decide +kernel) (by decide +kernel)
set_option maxRecDepth 20000 in
theorem ggL_law_X10_transfer_4 : GoodIn wsL_law wsX100 := goodIn_r _ [980, 981, 982, 983, 984, 985] (by decide +kernel) (by decide +kernel)
set_option maxRecDepth 20000 in
theorem ggL_law_X10_transfer_5 : GoodIn wsL_law wsX30 := goodIn_r _ [1023, 1024, 1025, 1026, 1027, 1028, 1029] (by decide +kernel) (by decide +kernel)
set_option maxRecDepth 20000 in
theorem ggL_law_X10_transfer_6 : GoodIn wsL_law wsX40 := goodIn_r _ [1039, 1040, 1041, 1042, 1043, 1044, 1045] (by decide +kernel) (by decide +kernel)
set_option maxRecDepth 20000 in
theorem ggL_law_X10_transfer_7 : GoodIn wsL_law wsX80 := goodIn_r _ [1064, 1065, 1066, 1067] (by decide +kernel) (by decide +kernel)
theorem ggL_law_X10_transfer : GoodIn wsL_law wsX10_transfer := (goodIn_app (a := [.code yX10_transfer cX10_transfer 6 (some .int)]) ggL_law_X10_transfer_c (goodIn_app (goodIn_app (goodIn_app (goodIn_app (goodIn_app ggL_law_X10_transfer_1 (goodIn_app ggL_law_X10_transfer_2 ggL_law_X10_transfer_3)) ggL_law_X10_transfer_4) ggL_law_X10_transfer_5) ggL_law_X10_transfer_6) ggL_law_X10_transfer_7))
set_option maxRecDepth 20000 in
theorem gL_law_X10_transfer : GoodIn wsL_law (wsV RL 37 RX10 yX10_transfer wsX10_transfer) := goodIn_app (goodIn_of _ (by decide +kernel)) ggL_law_X10_transfer
set_option maxRecDepth 20000 in
theorem ggL_law_X11_transfer_c : GoodIn wsL_law [.code yX11_transfer cX11_transfer 7 (some .int)] := goodIn_r _ [404] (by decide +kernel) (by decide +kernel)
set_option maxRecDepth 20000 in
theorem ggL_law_X11_transfer_1 : GoodIn wsL_law ([.constantLong RX11 116 (65535), .constantLong RX11 118 (2), .constantLong RX11 120 (3), .constantLong RX11 101 (7), .fieldLink RX11 7 "BusBridgeModel" "z" "[I", .methodLink RX11 74 yX11_in, .static yX11_in, .initialized RX11, .code yX11_in cX11_in 6 (some .boolean), .methodLink RX11 84 yX11_refused, .instanceMethod yX11_refused, .selects RX11 yX11_refused yX11_refused, .code yX11_refused cX11_refused 2 (some .int), .fieldLink RX11 66 "BusBridgeModel" "status" "I", .methodLink RX11 94 yX11_done, .instanceMethod yX11_done, .selects RX11 yX11_done yX11_done, .code yX11_done cX11_done 2 (some .int)] : List Cond) := goodIn_r _ [405, 406, 407, 317, 213, 274, 275, 5, 276, 277, 278, 279, 280, 281, 282, 283, 284, 285] (by decide +kernel) (by decide +kernel)
set_option maxRecDepth 20000 in
theorem ggL_law_X11_transfer_2 : GoodIn wsL_law wsX110 := goodIn_r _ [986, 987, 988, 989, 990, 991, 992, 993, 994, 995, 996, 997, 998, 999, 1000, 1001, 1002, 1003, 1004, 1005, 1006, 1007, 1008, 1009] (by decide +kernel) (by decide +kernel)
theorem ggL_law_X11_transfer : GoodIn wsL_law wsX11_transfer := (goodIn_app (a := [.code yX11_transfer cX11_transfer 7 (some .int)]) ggL_law_X11_transfer_c (goodIn_app ggL_law_X11_transfer_1 ggL_law_X11_transfer_2))
set_option maxRecDepth 20000 in
theorem gL_law_X11_transfer : GoodIn wsL_law (wsV RL 41 RX11 yX11_transfer wsX11_transfer) := goodIn_app (goodIn_of _ (by decide +kernel)) ggL_law_X11_transfer
set_option maxRecDepth 20000 in
theorem ggL_law_X10_clock_c : GoodIn wsL_law [.code yX10_clock cX10_clock 3 (some .int)] := goodIn_r _ [411] (by decide +kernel) (by decide +kernel)
set_option maxRecDepth 20000 in
theorem ggL_law_X10_clock_1 : GoodIn wsL_law wsX10_clock_r1 := goodIn_r _ [19, 15, 239, 245, 246, 247, 2, 248, 27, 412, 413, 414, 18, 415, 47, 129, 65, 53, 57, 61, 49, 416, 417, 418] (by decide +kernel) (by decide +kernel)
set_option maxRecDepth 20000 in
theorem ggL_law_X10_clock_2 : GoodIn wsL_law wsX10_clock_r2 := goodIn_r _ [46, 419, 70, 420, 421, 422, 423, 73, 74, 69, 72, 424, 425, 426, 64, 427, 428, 429, 204, 205, 206, 430, 374, 375] (by decide +kernel) (by decide +kernel)
set_option maxRecDepth 20000 in
theorem ggL_law_X10_clock_3 : GoodIn wsL_law wsX10_clock_r3 := goodIn_r _ [431, 432, 433, 434, 435, 436, 437, 438, 439, 440, 441, 442, 443, 444, 445, 446, 447, 448, 449, 450, 451, 452, 453, 454] (by decide +kernel) (by decide +kernel)
set_option maxRecDepth 20000 in
theorem ggL_law_X10_clock_4 : GoodIn wsL_law wsX10_clock_r4 := goodIn_r _ [455, 456, 457, 458, 459, 460, 461, 462, 463, 464, 465, 466, 467, 468, 469, 470, 471, 472, 473, 474, 296, 297, 14, 298] (by decide +kernel) (by decide +kernel)
set_option maxRecDepth 20000 in
theorem ggL_law_X10_clock_5 : GoodIn wsL_law wsX10_clock_r5 := goodIn_r _ [253, 299, 300, 301, 302, 31, 32, 475, 476, 477, 478, 121, 123, 479, 385, 386, 86, 387, 162, 93, 98, 388, 377, 378] (by decide +kernel) (by decide +kernel)
set_option maxRecDepth 20000 in
theorem ggL_law_X10_clock_6 : GoodIn wsL_law wsX10_clock_r6 := goodIn_r _ [379, 92, 480, 390, 391, 392, 393, 394, 395, 396, 397, 398, 399, 400, 481, 482, 483, 52, 484, 485, 152, 486, 487, 488] (by decide +kernel) (by decide +kernel)
set_option maxRecDepth 20000 in
theorem ggL_law_X10_clock_7 : GoodIn wsL_law wsX10_clock_r7 := goodIn_r _ [489, 153, 87, 156, 389, 490, 491, 492, 493, 494, 495, 496, 497, 498, 499, 500, 501, 502, 154, 503, 155, 504, 505, 506] (by decide +kernel) (by decide +kernel)
set_option maxRecDepth 20000 in
theorem ggL_law_X10_clock_8 : GoodIn wsL_law wsX10_clock_r8 := goodIn_r _ [507, 508, 509, 510, 511, 157, 512, 513, 514, 56, 515, 105, 516, 168, 517, 518, 519, 520, 104, 521, 178, 177, 184, 522] (by decide +kernel) (by decide +kernel)
set_option maxRecDepth 20000 in
theorem ggL_law_X10_clock_9 : GoodIn wsL_law wsX10_clock_r9 := goodIn_r _ [523, 524, 181, 525, 526, 527, 528, 179, 194, 180, 112, 183, 192, 529, 530, 531, 532, 533, 534, 171, 535, 536, 537, 538] (by decide +kernel) (by decide +kernel)
set_option maxRecDepth 20000 in
theorem ggL_law_X10_clock_10 : GoodIn wsL_law wsX10_clock_r10 := goodIn_r _ [167, 106, 169, 107, 539, 540, 541, 542, 170, 172, 543, 544, 545, 546, 547, 548, 549, 550, 551, 552, 553, 554, 555, 556] (by decide +kernel) (by decide +kernel)
set_option maxRecDepth 20000 in
theorem ggL_law_X10_clock_11 : GoodIn wsL_law wsX10_clock_r11 := goodIn_r _ [187, 188, 189, 190, 191, 193, 557, 558, 559, 560, 182, 561, 562, 563, 564, 565, 566, 567, 568, 60, 569, 570, 571, 572] (by decide +kernel) (by decide +kernel)
set_option maxRecDepth 20000 in
theorem ggL_law_X10_clock_12 : GoodIn wsL_law wsX10_clock_r12 := goodIn_r _ [573, 574, 575, 576, 577, 578, 579, 117, 580, 581, 582, 583, 584, 585, 586, 587, 588, 25, 589, 590, 78, 80, 79, 591] (by decide +kernel) (by decide +kernel)
set_option maxRecDepth 20000 in
theorem ggL_law_X10_clock_13 : GoodIn wsL_law wsX10_clock_r13 := goodIn_r _ [304, 305, 306, 307, 36, 39, 592, 593, 594, 595, 596, 597, 598, 293, 294, 599, 600, 601, 602, 603, 604, 605, 606, 607] (by decide +kernel) (by decide +kernel)
set_option maxRecDepth 20000 in
theorem ggL_law_X10_clock_14 : GoodIn wsL_law wsX10_clock_r14 := goodIn_r _ [608, 609, 610, 71, 611, 144, 145, 146, 259, 260, 261, 262] (by decide +kernel) (by decide +kernel)
set_option maxRecDepth 20000 in
theorem ggL_law_X10_clock_15 : GoodIn wsL_law wsX100 := goodIn_r _ [980, 981, 982, 983, 984, 985] (by decide +kernel) (by decide +kernel)
set_option maxRecDepth 20000 in
theorem ggL_law_X10_clock_16 : GoodIn wsL_law wsX30 := goodIn_r _ [1023, 1024, 1025, 1026, 1027, 1028, 1029] (by decide +kernel) (by decide +kernel)
set_option maxRecDepth 20000 in
theorem ggL_law_X10_clock_17 : GoodIn wsL_law wsX90 := goodIn_r _ [1033, 1034, 1035, 1036, 1037, 1038] (by decide +kernel) (by decide +kernel)
set_option maxRecDepth 20000 in
theorem ggL_law_X10_clock_18 : GoodIn wsL_law wsX50 := goodIn_r _ [1059, 1060, 1061, 1062, 1063] (by decide +kernel) (by decide +kernel)
set_option maxRecDepth 20000 in
theorem ggL_law_X10_clock_19 : GoodIn wsL_law wsX60 := goodIn_r _ [1010, 1011, 1012, 1013, 1014, 1015, 1016, 1017, 1018, 1019, 1020, 1021, 1022] (by decide +kernel) (by decide +kernel)
set_option maxRecDepth 20000 in
theorem ggL_law_X10_clock_20 : GoodIn wsL_law wsX80 := goodIn_r _ [1064, 1065, 1066, 1067] (by decide +kernel) (by decide +kernel)
set_option maxRecDepth 20000 in
theorem ggL_law_X10_clock_21 : GoodIn wsL_law wsX40 := goodIn_r _ [1039, 1040, 1041, 1042, 1043, 1044, 1045] (by decide +kernel) (by decide +kernel)
set_option maxRecDepth 20000 in
theorem ggL_law_X10_clock_22 : GoodIn wsL_law wsX00 := goodIn_r _ [1046, 1047, 1048, 1049, 1050, 1051, 1052, 1053, 1054] (by decide +kernel) (by decide +kernel)
set_option maxRecDepth 20000 in
theorem ggL_law_X10_clock_23 : GoodIn wsL_law wsX20 := goodIn_r _ [1068, 1069, 1070, 1071, 1072, 1073, 1074, 1075, 1076, 1077, 1078, 1079, 1080, 1081] (by decide +kernel) (by decide +kernel)
set_option maxRecDepth 20000 in
theorem ggL_law_X10_clock_24 : GoodIn wsL_law wsX70 := goodIn_r _ [1055, 1056, 1057, 1058] (by decide +kernel) (by decide +kernel)
set_option maxRecDepth 20000 in
theorem ggL_law_X10_clock_25 : GoodIn wsL_law wsX10 := goodIn_r _ [1030, 1031, 1032] (by decide +kernel) (by decide +kernel)
theorem ggL_law_X10_clock : GoodIn wsL_law wsX10_clock := (goodIn_app (a := [.code yX10_clock cX10_clock 3 (some .int)]) ggL_law_X10_clock_c (goodIn_app (goodIn_app (goodIn_app (goodIn_app (goodIn_app (goodIn_app (goodIn_app (goodIn_app (goodIn_app (goodIn_app (goodIn_app (goodIn_app ggL_law_X10_clock_1 (goodIn_app ggL_law_X10_clock_2 (goodIn_app ggL_law_X10_clock_3 (goodIn_app ggL_law_X10_clock_4 (goodIn_app ggL_law_X10_clock_5 (goodIn_app ggL_law_X10_clock_6 (goodIn_app ggL_law_X10_clock_7 (goodIn_app ggL_law_X10_clock_8 (goodIn_app ggL_law_X10_clock_9 (goodIn_app ggL_law_X10_clock_10 (goodIn_app ggL_law_X10_clock_11 (goodIn_app ggL_law_X10_clock_12 (goodIn_app ggL_law_X10_clock_13 ggL_law_X10_clock_14))))))))))))) ggL_law_X10_clock_15) ggL_law_X10_clock_16) ggL_law_X10_clock_17) ggL_law_X10_clock_18) ggL_law_X10_clock_19) ggL_law_X10_clock_20) ggL_law_X10_clock_21) ggL_law_X10_clock_22) ggL_law_X10_clock_23) ggL_law_X10_clock_24) ggL_law_X10_clock_25))
set_option maxRecDepth 20000 in
theorem gL_law_X10_clock : GoodIn wsL_law (wsV RL 42 RX10 yX10_clock wsX10_clock) := goodIn_app (goodIn_of _ (by decide +kernel)) ggL_law_X10_clock
set_option maxRecDepth 20000 in
theorem ggL_law_X11_clock_c : GoodIn wsL_law [.code yX11_clock cX11_clock 3 (some .int)] := goodIn_r _ [615] (by decide +kernel) (by decide +kernel)
set_option maxRecDepth 20000 in
theorem ggL_law_X11_clock_1 : GoodIn wsL_law wsX11_clock_r1 := goodIn_r _ [616, 213, 274, 275, 5, 276, 277, 278, 279, 280, 281, 617, 618, 619, 620, 222, 223, 621, 622, 623, 624, 625, 626, 627] (by decide +kernel) (by decide +kernel)
set_option maxRecDepth 20000 in
theorem ggL_law_X11_clock_2 : GoodIn wsL_law wsX11_clock_r2 := goodIn_r _ [628, 629, 630, 631, 632, 633, 634, 635, 636, 637, 638, 639, 640, 641, 642, 643, 644, 645, 646, 647, 268, 322, 323, 324] (by decide +kernel) (by decide +kernel)
set_option maxRecDepth 20000 in
theorem ggL_law_X11_clock_3 : GoodIn wsL_law wsX11_clock_r3 := goodIn_r _ [325, 214, 215, 648, 649, 650, 651, 652, 653, 654, 655, 656, 657, 658, 659, 660, 661, 662, 663, 221, 664, 665, 666, 667] (by decide +kernel) (by decide +kernel)
set_option maxRecDepth 20000 in
theorem ggL_law_X11_clock_4 : GoodIn wsL_law wsX11_clock_r4 := goodIn_r _ [668, 669, 670, 671, 406, 343, 672, 673, 674, 675, 676, 677, 678, 679, 344, 318, 319, 320, 321, 680, 681, 682, 683, 684] (by decide +kernel) (by decide +kernel)
set_option maxRecDepth 20000 in
theorem ggL_law_X11_clock_5 : GoodIn wsL_law wsX11_clock_r5 := goodIn_r _ [685, 686, 687, 688, 689, 690, 691, 234, 224, 219, 692, 693, 694, 695, 216, 217, 696, 697, 698, 699, 700, 701, 218, 326] (by decide +kernel) (by decide +kernel)
set_option maxRecDepth 20000 in
theorem ggL_law_X11_clock_6 : GoodIn wsL_law wsX11_clock_r6 := goodIn_r _ [327, 328, 329, 282, 283, 284, 285] (by decide +kernel) (by decide +kernel)
set_option maxRecDepth 20000 in
theorem ggL_law_X11_clock_7 : GoodIn wsL_law wsX110 := goodIn_r _ [986, 987, 988, 989, 990, 991, 992, 993, 994, 995, 996, 997, 998, 999, 1000, 1001, 1002, 1003, 1004, 1005, 1006, 1007, 1008, 1009] (by decide +kernel) (by decide +kernel)
theorem ggL_law_X11_clock : GoodIn wsL_law wsX11_clock := (goodIn_app (a := [.code yX11_clock cX11_clock 3 (some .int)]) ggL_law_X11_clock_c (goodIn_app (goodIn_app ggL_law_X11_clock_1 (goodIn_app ggL_law_X11_clock_2 (goodIn_app ggL_law_X11_clock_3 (goodIn_app ggL_law_X11_clock_4 (goodIn_app ggL_law_X11_clock_5 ggL_law_X11_clock_6))))) ggL_law_X11_clock_7))
set_option maxRecDepth 20000 in
theorem gL_law_X11_clock : GoodIn wsL_law (wsV RL 45 RX11 yX11_clock wsX11_clock) := goodIn_app (goodIn_of _ (by decide +kernel)) ggL_law_X11_clock
set_option maxRecDepth 20000 in
theorem ggL_law_X10_finish_c : GoodIn wsL_law [.code yX10_finish cX10_finish 3 (some .int)] := goodIn_r _ [705] (by decide +kernel) (by decide +kernel)
set_option maxRecDepth 20000 in
theorem ggL_law_X10_finish_1 : GoodIn wsL_law wsX10_finish_r1 := goodIn_r _ [19, 15, 245, 246, 247, 2, 248, 27, 706, 707, 708, 18, 709, 53, 57, 710, 711, 712, 52, 713, 156, 157, 87, 503] (by decide +kernel) (by decide +kernel)
set_option maxRecDepth 20000 in
theorem ggL_law_X10_finish_2 : GoodIn wsL_law wsX10_finish_r2 := goodIn_r _ [714, 715, 716, 56, 717, 167, 105, 516, 168, 412, 413, 414, 415, 47, 129, 65, 61, 49, 416, 417, 418, 46, 419, 70] (by decide +kernel) (by decide +kernel)
set_option maxRecDepth 20000 in
theorem ggL_law_X10_finish_3 : GoodIn wsL_law wsX10_finish_r3 := goodIn_r _ [420, 421, 422, 423, 73, 74, 69, 72, 424, 425, 426, 64, 427, 428, 429, 204, 205, 206, 430, 374, 375, 431, 432, 433] (by decide +kernel) (by decide +kernel)
set_option maxRecDepth 20000 in
theorem ggL_law_X10_finish_4 : GoodIn wsL_law wsX10_finish_r4 := goodIn_r _ [434, 435, 436, 437, 438, 439, 440, 441, 442, 443, 444, 445, 446, 447, 448, 449, 450, 451, 452, 453, 454, 455, 456, 457] (by decide +kernel) (by decide +kernel)
set_option maxRecDepth 20000 in
theorem ggL_law_X10_finish_5 : GoodIn wsL_law wsX10_finish_r5 := goodIn_r _ [458, 459, 460, 461, 462, 463, 464, 465, 466, 467, 468, 469, 470, 471, 472, 473, 474, 296, 297, 14, 298, 253, 299, 300] (by decide +kernel) (by decide +kernel)
set_option maxRecDepth 20000 in
theorem ggL_law_X10_finish_6 : GoodIn wsL_law wsX10_finish_r6 := goodIn_r _ [301, 302, 31, 32, 475, 476, 477, 478, 121, 123, 479, 385, 386, 86, 387, 162, 93, 98, 388, 377, 378, 379, 92, 480] (by decide +kernel) (by decide +kernel)
set_option maxRecDepth 20000 in
theorem ggL_law_X10_finish_7 : GoodIn wsL_law wsX10_finish_r7 := goodIn_r _ [390, 391, 392, 393, 394, 395, 396, 397, 398, 399, 400, 481, 482, 483, 484, 485, 152, 486, 487, 488, 489, 153, 389, 490] (by decide +kernel) (by decide +kernel)
set_option maxRecDepth 20000 in
theorem ggL_law_X10_finish_8 : GoodIn wsL_law wsX10_finish_r8 := goodIn_r _ [491, 492, 493, 494, 495, 496, 497, 498, 499, 500, 501, 502, 154, 155, 504, 505, 506, 507, 508, 509, 510, 511, 512, 513] (by decide +kernel) (by decide +kernel)
set_option maxRecDepth 20000 in
theorem ggL_law_X10_finish_9 : GoodIn wsL_law wsX10_finish_r9 := goodIn_r _ [514, 515, 517, 518, 519, 520, 104, 521, 178, 177, 184, 522, 523, 524, 181, 525, 526, 527, 528, 179, 194, 180, 112, 183] (by decide +kernel) (by decide +kernel)
set_option maxRecDepth 20000 in
theorem ggL_law_X10_finish_10 : GoodIn wsL_law wsX10_finish_r10 := goodIn_r _ [192, 529, 530, 531, 532, 533, 534, 171, 535, 536, 537, 538, 106, 169, 107, 539, 540, 541, 542, 170, 172, 543, 544, 545] (by decide +kernel) (by decide +kernel)
set_option maxRecDepth 20000 in
theorem ggL_law_X10_finish_11 : GoodIn wsL_law wsX10_finish_r11 := goodIn_r _ [546, 547, 548, 549, 550, 551, 552, 553, 554, 555, 556, 187, 188, 189, 190, 191, 193, 557, 558, 559, 560, 182, 561, 562] (by decide +kernel) (by decide +kernel)
set_option maxRecDepth 20000 in
theorem ggL_law_X10_finish_12 : GoodIn wsL_law wsX10_finish_r12 := goodIn_r _ [563, 564, 565, 566, 567, 568, 60, 569, 570, 571, 572, 573, 574, 575, 576, 577, 578, 579, 117, 580, 581, 582, 583, 584] (by decide +kernel) (by decide +kernel)
set_option maxRecDepth 20000 in
theorem ggL_law_X10_finish_13 : GoodIn wsL_law wsX10_finish_r13 := goodIn_r _ [585, 586, 587, 588, 25, 589, 590, 78, 80, 79, 591, 304, 305, 306, 307, 36, 39, 592, 593, 594, 595, 596, 597, 598] (by decide +kernel) (by decide +kernel)
set_option maxRecDepth 20000 in
theorem ggL_law_X10_finish_14 : GoodIn wsL_law wsX10_finish_r14 := goodIn_r _ [293, 294, 599, 600, 601, 602, 603, 604, 605, 606, 607, 608, 609, 610, 71, 611, 144, 145, 146, 259, 260, 261, 262] (by decide +kernel) (by decide +kernel)
set_option maxRecDepth 20000 in
theorem ggL_law_X10_finish_15 : GoodIn wsL_law wsX100 := goodIn_r _ [980, 981, 982, 983, 984, 985] (by decide +kernel) (by decide +kernel)
set_option maxRecDepth 20000 in
theorem ggL_law_X10_finish_16 : GoodIn wsL_law wsX30 := goodIn_r _ [1023, 1024, 1025, 1026, 1027, 1028, 1029] (by decide +kernel) (by decide +kernel)
set_option maxRecDepth 20000 in
theorem ggL_law_X10_finish_17 : GoodIn wsL_law wsX40 := goodIn_r _ [1039, 1040, 1041, 1042, 1043, 1044, 1045] (by decide +kernel) (by decide +kernel)
set_option maxRecDepth 20000 in
theorem ggL_law_X10_finish_18 : GoodIn wsL_law wsX80 := goodIn_r _ [1064, 1065, 1066, 1067] (by decide +kernel) (by decide +kernel)
set_option maxRecDepth 20000 in
theorem ggL_law_X10_finish_19 : GoodIn wsL_law wsX00 := goodIn_r _ [1046, 1047, 1048, 1049, 1050, 1051, 1052, 1053, 1054] (by decide +kernel) (by decide +kernel)
set_option maxRecDepth 20000 in
theorem ggL_law_X10_finish_20 : GoodIn wsL_law wsX20 := goodIn_r _ [1068, 1069, 1070, 1071, 1072, 1073, 1074, 1075, 1076, 1077, 1078, 1079, 1080, 1081] (by decide +kernel) (by decide +kernel)
set_option maxRecDepth 20000 in
theorem ggL_law_X10_finish_21 : GoodIn wsL_law wsX90 := goodIn_r _ [1033, 1034, 1035, 1036, 1037, 1038] (by decide +kernel) (by decide +kernel)
set_option maxRecDepth 20000 in
theorem ggL_law_X10_finish_22 : GoodIn wsL_law wsX50 := goodIn_r _ [1059, 1060, 1061, 1062, 1063] (by decide +kernel) (by decide +kernel)
set_option maxRecDepth 20000 in
theorem ggL_law_X10_finish_23 : GoodIn wsL_law wsX60 := goodIn_r _ [1010, 1011, 1012, 1013, 1014, 1015, 1016, 1017, 1018, 1019, 1020, 1021, 1022] (by decide +kernel) (by decide +kernel)
set_option maxRecDepth 20000 in
theorem ggL_law_X10_finish_24 : GoodIn wsL_law wsX70 := goodIn_r _ [1055, 1056, 1057, 1058] (by decide +kernel) (by decide +kernel)
set_option maxRecDepth 20000 in
theorem ggL_law_X10_finish_25 : GoodIn wsL_law wsX10 := goodIn_r _ [1030, 1031, 1032] (by decide +kernel) (by decide +kernel)
theorem ggL_law_X10_finish : GoodIn wsL_law wsX10_finish := (goodIn_app (a := [.code yX10_finish cX10_finish 3 (some .int)]) ggL_law_X10_finish_c (goodIn_app (goodIn_app (goodIn_app (goodIn_app (goodIn_app (goodIn_app (goodIn_app (goodIn_app (goodIn_app (goodIn_app (goodIn_app (goodIn_app ggL_law_X10_finish_1 (goodIn_app ggL_law_X10_finish_2 (goodIn_app ggL_law_X10_finish_3 (goodIn_app ggL_law_X10_finish_4 (goodIn_app ggL_law_X10_finish_5 (goodIn_app ggL_law_X10_finish_6 (goodIn_app ggL_law_X10_finish_7 (goodIn_app ggL_law_X10_finish_8 (goodIn_app ggL_law_X10_finish_9 (goodIn_app ggL_law_X10_finish_10 (goodIn_app ggL_law_X10_finish_11 (goodIn_app ggL_law_X10_finish_12 (goodIn_app ggL_law_X10_finish_13 ggL_law_X10_finish_14))))))))))))) ggL_law_X10_finish_15) ggL_law_X10_finish_16) ggL_law_X10_finish_17) ggL_law_X10_finish_18) ggL_law_X10_finish_19) ggL_law_X10_finish_20) ggL_law_X10_finish_21) ggL_law_X10_finish_22) ggL_law_X10_finish_23) ggL_law_X10_finish_24) ggL_law_X10_finish_25))
set_option maxRecDepth 20000 in
theorem gL_law_X10_finish : GoodIn wsL_law (wsV RL 46 RX10 yX10_finish wsX10_finish) := goodIn_app (goodIn_of _ (by decide +kernel)) ggL_law_X10_finish
set_option maxRecDepth 20000 in
theorem ggL_law_X11_finish_c : GoodIn wsL_law [.code yX11_finish cX11_finish 3 (some .int)] := goodIn_r _ [721] (by decide +kernel) (by decide +kernel)
set_option maxRecDepth 20000 in
theorem ggL_law_X11_finish_1 : GoodIn wsL_law wsX11_finish_r1 := goodIn_r _ [722, 274, 275, 5, 276, 277, 278, 279, 280, 281, 723, 724, 725, 726, 213, 652, 653, 654, 655, 617, 618, 619, 620, 222] (by decide +kernel) (by decide +kernel)
set_option maxRecDepth 20000 in
theorem ggL_law_X11_finish_2 : GoodIn wsL_law wsX11_finish_r2 := goodIn_r _ [223, 621, 622, 623, 624, 625, 626, 627, 628, 629, 630, 631, 632, 633, 634, 635, 636, 637, 638, 639, 640, 641, 642, 643] (by decide +kernel) (by decide +kernel)
set_option maxRecDepth 20000 in
theorem ggL_law_X11_finish_3 : GoodIn wsL_law wsX11_finish_r3 := goodIn_r _ [644, 645, 646, 647, 268, 322, 323, 324, 325, 214, 215, 648, 649, 650, 651, 656, 657, 658, 659, 660, 661, 662, 663, 221] (by decide +kernel) (by decide +kernel)
set_option maxRecDepth 20000 in
theorem ggL_law_X11_finish_4 : GoodIn wsL_law wsX11_finish_r4 := goodIn_r _ [664, 665, 666, 667, 668, 669, 670, 671, 406, 343, 672, 673, 674, 675, 676, 677, 678, 679, 344, 318, 319, 320, 321, 680] (by decide +kernel) (by decide +kernel)
set_option maxRecDepth 20000 in
theorem ggL_law_X11_finish_5 : GoodIn wsL_law wsX11_finish_r5 := goodIn_r _ [681, 682, 683, 684, 685, 686, 687, 688, 689, 690, 691, 234, 224, 219, 692, 693, 694, 695, 216, 217, 696, 697, 698, 699] (by decide +kernel) (by decide +kernel)
set_option maxRecDepth 20000 in
theorem ggL_law_X11_finish_6 : GoodIn wsL_law wsX11_finish_r6 := goodIn_r _ [700, 701, 218, 326, 327, 328, 329, 282, 283, 284, 285] (by decide +kernel) (by decide +kernel)
set_option maxRecDepth 20000 in
theorem ggL_law_X11_finish_7 : GoodIn wsL_law wsX110 := goodIn_r _ [986, 987, 988, 989, 990, 991, 992, 993, 994, 995, 996, 997, 998, 999, 1000, 1001, 1002, 1003, 1004, 1005, 1006, 1007, 1008, 1009] (by decide +kernel) (by decide +kernel)
theorem ggL_law_X11_finish : GoodIn wsL_law wsX11_finish := (goodIn_app (a := [.code yX11_finish cX11_finish 3 (some .int)]) ggL_law_X11_finish_c (goodIn_app (goodIn_app ggL_law_X11_finish_1 (goodIn_app ggL_law_X11_finish_2 (goodIn_app ggL_law_X11_finish_3 (goodIn_app ggL_law_X11_finish_4 (goodIn_app ggL_law_X11_finish_5 ggL_law_X11_finish_6))))) ggL_law_X11_finish_7))
set_option maxRecDepth 20000 in
theorem gL_law_X11_finish : GoodIn wsL_law (wsV RL 49 RX11 yX11_finish wsX11_finish) := goodIn_app (goodIn_of _ (by decide +kernel)) ggL_law_X11_finish
set_option maxRecDepth 20000 in
theorem ggL_law_X10_turn_c : GoodIn wsL_law [.code yX10_turn cX10_turn 4 (some .int)] := goodIn_r _ [730] (by decide +kernel) (by decide +kernel)
set_option maxRecDepth 20000 in
theorem ggL_law_X10_turn_1 : GoodIn wsL_law ([.fieldLink RX10 19 "BusBridge" "now" "LBusBridge$Machine;", .fieldLink RX10 133 "BusBridge$Machine" "wires" "LBusBridge$Wires;", .fieldLink RX10 54 "BusBridge$Machine" "time" "I", .methodLink RX10 130 yX9_isWire, .static yX9_isWire, .initialized RX9, .code yX9_isWire cX9_isWire 1 (some .boolean), .methodLink RX10 50 yX10_refuse, .instanceMethod yX10_refuse, .selects RX10 yX10_refuse yX10_refuse, .initialized RX10, .code yX10_refuse cX10_refuse 2 (some .int), .fieldLink RX10 38 "BusBridge" "refused" "I", .methodLink RX10 137 yX9_exchange, .instanceMethod yX9_exchange, .selects RX9 yX9_exchange yX9_exchange, .code yX9_exchange cX9_exchange 5 none, .fieldLink RX9 19 "BusBridge$Wires" "masks" "[I", .fieldLink RX9 22 "BusBridge$Wires" "from" "[I", .fieldLink RX9 25 "BusBridge$Wires" "until" "[I", .methodLink RX10 68 yX10_allow, .instanceMethod yX10_allow, .selects RX10 yX10_allow yX10_allow, .code yX10_allow cX10_allow 2 (some .int)] : List Cond) := goodIn_r _ [19, 731, 239, 732, 733, 46, 734, 245, 246, 247, 2, 248, 27, 735, 736, 737, 738, 72, 73, 74, 259, 260, 261, 262] (by decide +kernel) (by decide +kernel)
set_option maxRecDepth 20000 in
theorem ggL_law_X10_turn_2 : GoodIn wsL_law wsX100 := goodIn_r _ [980, 981, 982, 983, 984, 985] (by decide +kernel) (by decide +kernel)
set_option maxRecDepth 20000 in
theorem ggL_law_X10_turn_3 : GoodIn wsL_law wsX30 := goodIn_r _ [1023, 1024, 1025, 1026, 1027, 1028, 1029] (by decide +kernel) (by decide +kernel)
set_option maxRecDepth 20000 in
theorem ggL_law_X10_turn_4 : GoodIn wsL_law wsX90 := goodIn_r _ [1033, 1034, 1035, 1036, 1037, 1038] (by decide +kernel) (by decide +kernel)
theorem ggL_law_X10_turn : GoodIn wsL_law wsX10_turn := (goodIn_app (a := [.code yX10_turn cX10_turn 4 (some .int)]) ggL_law_X10_turn_c (goodIn_app (goodIn_app (goodIn_app ggL_law_X10_turn_1 ggL_law_X10_turn_2) ggL_law_X10_turn_3) ggL_law_X10_turn_4))
set_option maxRecDepth 20000 in
theorem gL_law_X10_turn : GoodIn wsL_law (wsV RL 50 RX10 yX10_turn wsX10_turn) := goodIn_app (goodIn_of _ (by decide +kernel)) ggL_law_X10_turn
set_option maxRecDepth 20000 in
theorem ggL_law_X11_turn_c : GoodIn wsL_law [.code yX11_turn cX11_turn 4 (some .int)] := goodIn_r _ [742] (by decide +kernel) (by decide +kernel)
set_option maxRecDepth 20000 in
theorem ggL_law_X11_turn_1 : GoodIn wsL_law ([.constantLong RX11 205 (14), .constantLong RX11 207 (100), .fieldLink RX11 7 "BusBridgeModel" "z" "[I", .methodLink RX11 74 yX11_in, .static yX11_in, .initialized RX11, .code yX11_in cX11_in 6 (some .boolean), .methodLink RX11 84 yX11_refused, .instanceMethod yX11_refused, .selects RX11 yX11_refused yX11_refused, .code yX11_refused cX11_refused 2 (some .int), .fieldLink RX11 66 "BusBridgeModel" "status" "I", .methodLink RX11 94 yX11_done, .instanceMethod yX11_done, .selects RX11 yX11_done yX11_done, .code yX11_done cX11_done 2 (some .int)] : List Cond) := goodIn_r _ [743, 744, 213, 274, 275, 5, 276, 277, 278, 279, 280, 281, 282, 283, 284, 285] (by decide +kernel) (by decide +kernel)
set_option maxRecDepth 20000 in
theorem ggL_law_X11_turn_2 : GoodIn wsL_law wsX110 := goodIn_r _ [986, 987, 988, 989, 990, 991, 992, 993, 994, 995, 996, 997, 998, 999, 1000, 1001, 1002, 1003, 1004, 1005, 1006, 1007, 1008, 1009] (by decide +kernel) (by decide +kernel)
theorem ggL_law_X11_turn : GoodIn wsL_law wsX11_turn := (goodIn_app (a := [.code yX11_turn cX11_turn 4 (some .int)]) ggL_law_X11_turn_c (goodIn_app ggL_law_X11_turn_1 ggL_law_X11_turn_2))
set_option maxRecDepth 20000 in
theorem gL_law_X11_turn : GoodIn wsL_law (wsV RL 53 RX11 yX11_turn wsX11_turn) := goodIn_app (goodIn_of _ (by decide +kernel)) ggL_law_X11_turn
set_option maxRecDepth 20000 in
theorem ggL_law_X10_wire_c : GoodIn wsL_law [.code yX10_wire cX10_wire 2 (some .int)] := goodIn_r _ [748] (by decide +kernel) (by decide +kernel)
set_option maxRecDepth 20000 in
theorem ggL_law_X10_wire_1 : GoodIn wsL_law wsX10_wire_r1 := goodIn_r _ [19, 731, 239, 732, 733, 46, 734, 749, 750, 751, 2, 752, 27, 753, 421, 422, 423, 73, 74, 69, 72, 259, 260, 261] (by decide +kernel) (by decide +kernel)
set_option maxRecDepth 20000 in
theorem ggL_law_X10_wire_2 : GoodIn wsL_law wsX10_wire_r2 := goodIn_r _ [262] (by decide +kernel) (by decide +kernel)
set_option maxRecDepth 20000 in
theorem ggL_law_X10_wire_3 : GoodIn wsL_law wsX100 := goodIn_r _ [980, 981, 982, 983, 984, 985] (by decide +kernel) (by decide +kernel)
set_option maxRecDepth 20000 in
theorem ggL_law_X10_wire_4 : GoodIn wsL_law wsX30 := goodIn_r _ [1023, 1024, 1025, 1026, 1027, 1028, 1029] (by decide +kernel) (by decide +kernel)
set_option maxRecDepth 20000 in
theorem ggL_law_X10_wire_5 : GoodIn wsL_law wsX90 := goodIn_r _ [1033, 1034, 1035, 1036, 1037, 1038] (by decide +kernel) (by decide +kernel)
theorem ggL_law_X10_wire : GoodIn wsL_law wsX10_wire := (goodIn_app (a := [.code yX10_wire cX10_wire 2 (some .int)]) ggL_law_X10_wire_c (goodIn_app (goodIn_app (goodIn_app (goodIn_app ggL_law_X10_wire_1 ggL_law_X10_wire_2) ggL_law_X10_wire_3) ggL_law_X10_wire_4) ggL_law_X10_wire_5))
set_option maxRecDepth 20000 in
theorem gL_law_X10_wire : GoodIn wsL_law (wsV RL 54 RX10 yX10_wire wsX10_wire) := goodIn_app (goodIn_of _ (by decide +kernel)) ggL_law_X10_wire
set_option maxRecDepth 20000 in
theorem ggL_law_X11_wire_c : GoodIn wsL_law [.code yX11_wire cX11_wire 2 (some .int)] := goodIn_r _ [757] (by decide +kernel) (by decide +kernel)
