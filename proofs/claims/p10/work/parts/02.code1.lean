set_option maxRecDepth 20000 in
theorem ggX0_init_X2_init : GoodIn wsX0_init wsX2_init := goodIn_r _ [12, 13, 2, 3, 14, 15, 16, 17, 18, 19, 20, 21, 22, 23, 24, 25, 26, 27, 8, 28, 52, 53, 54, 55, 29, 30, 31, 32, 33, 34, 35, 36, 37, 38, 39, 40, 41, 42] (by decide +kernel) (by decide +kernel)
set_option maxRecDepth 20000 in
theorem gX0_init_X2_init_n9 : GoodIn wsX0_init (wsX2_init) := ggX0_init_X2_init
theorem dX0_init_0 : decode cX0_init 0 = .ok (.aload_n 0, 1) := by decide +kernel
theorem dX0_init_1 : decode cX0_init 1 = .ok (.invokespecial 1, 3) := by decide +kernel
theorem dX0_init_4 : decode cX0_init 4 = .ok (.aload_n 0, 1) := by decide +kernel
theorem dX0_init_5 : decode cX0_init 5 = .ok (.new 7, 3) := by decide +kernel
theorem dX0_init_8 : decode cX0_init 8 = .ok (.dup, 1) := by decide +kernel
theorem dX0_init_9 : decode cX0_init 9 = .ok (.invokespecial 9, 3) := by decide +kernel
theorem dX0_init_12 : decode cX0_init 12 = .ok (.putfield 10, 3) := by decide +kernel
theorem dX0_init_15 : decode cX0_init 15 = .ok (.aload_n 0, 1) := by decide +kernel
theorem dX0_init_16 : decode cX0_init 16 = .ok (.iconst 4, 1) := by decide +kernel
theorem dX0_init_17 : decode cX0_init 17 = .ok (.newarray .int, 2) := by decide +kernel
theorem dX0_init_19 : decode cX0_init 19 = .ok (.putfield 18, 3) := by decide +kernel
theorem dX0_init_22 : decode cX0_init 22 = .ok (.aload_n 0, 1) := by decide +kernel
theorem dX0_init_23 : decode cX0_init 23 = .ok (.iconst 4, 1) := by decide +kernel
theorem dX0_init_24 : decode cX0_init 24 = .ok (.newarray .int, 2) := by decide +kernel
theorem dX0_init_26 : decode cX0_init 26 = .ok (.putfield 22, 3) := by decide +kernel
theorem dX0_init_29 : decode cX0_init 29 = .ok (.return_, 1) := by decide +kernel
set_option maxRecDepth 20000 in
theorem ggX0_clear_X2_clear : GoodIn wsX0_clear wsX2_clear := goodIn_r _ [12, 13, 14, 15, 16, 17, 18, 19, 20, 21, 22, 23, 24, 25, 26, 27, 28, 29, 30, 11, 31, 32, 33, 34, 35, 36, 46, 47, 48, 49, 50, 51, 52, 53, 54, 55, 56, 57, 58, 59, 60, 61, 62, 63] (by decide +kernel) (by decide +kernel)
set_option maxRecDepth 20000 in
theorem gX0_clear_X2_clear : GoodIn wsX0_clear (wsV RX0 25 RX2 yX2_clear wsX2_clear) := goodIn_app (goodIn_of _ (by decide +kernel)) ggX0_clear_X2_clear
theorem dX0_clear_0 : decode cX0_clear 0 = .ok (.aload_n 0, 1) := by decide +kernel
theorem dX0_clear_1 : decode cX0_clear 1 = .ok (.getfield 10, 3) := by decide +kernel
theorem dX0_clear_4 : decode cX0_clear 4 = .ok (.invokevirtual 25, 3) := by decide +kernel
theorem dX0_clear_7 : decode cX0_clear 7 = .ok (.aload_n 0, 1) := by decide +kernel
theorem dX0_clear_8 : decode cX0_clear 8 = .ok (.iconst 0, 1) := by decide +kernel
theorem dX0_clear_9 : decode cX0_clear 9 = .ok (.putfield 28, 3) := by decide +kernel
theorem dX0_clear_12 : decode cX0_clear 12 = .ok (.aload_n 0, 1) := by decide +kernel
theorem dX0_clear_13 : decode cX0_clear 13 = .ok (.iconst 0, 1) := by decide +kernel
theorem dX0_clear_14 : decode cX0_clear 14 = .ok (.putfield 32, 3) := by decide +kernel
theorem dX0_clear_17 : decode cX0_clear 17 = .ok (.aload_n 0, 1) := by decide +kernel
theorem dX0_clear_18 : decode cX0_clear 18 = .ok (.iconst 0, 1) := by decide +kernel
theorem dX0_clear_19 : decode cX0_clear 19 = .ok (.putfield 35, 3) := by decide +kernel
theorem dX0_clear_22 : decode cX0_clear 22 = .ok (.aload_n 0, 1) := by decide +kernel
theorem dX0_clear_23 : decode cX0_clear 23 = .ok (.iconst 0, 1) := by decide +kernel
theorem dX0_clear_24 : decode cX0_clear 24 = .ok (.putfield 38, 3) := by decide +kernel
theorem dX0_clear_27 : decode cX0_clear 27 = .ok (.aload_n 0, 1) := by decide +kernel
theorem dX0_clear_28 : decode cX0_clear 28 = .ok (.iconst 0, 1) := by decide +kernel
theorem dX0_clear_29 : decode cX0_clear 29 = .ok (.putfield 41, 3) := by decide +kernel
theorem dX0_clear_32 : decode cX0_clear 32 = .ok (.aload_n 0, 1) := by decide +kernel
theorem dX0_clear_33 : decode cX0_clear 33 = .ok (.iconst 0, 1) := by decide +kernel
theorem dX0_clear_34 : decode cX0_clear 34 = .ok (.putfield 44, 3) := by decide +kernel
theorem dX0_clear_37 : decode cX0_clear 37 = .ok (.return_, 1) := by decide +kernel
set_option maxRecDepth 20000 in
theorem ggX0_copyFrom_X2_copyFrom : GoodIn wsX0_copyFrom wsX2_copyFrom := goodIn_r _ [18, 19, 20, 21, 22, 23, 24, 25, 26, 27, 28, 29, 30, 31, 32, 33, 34, 35, 36, 37, 38, 39, 40, 41, 4, 5, 6, 42, 43, 44, 17, 45, 55, 56, 57, 58, 59, 60, 61, 62, 63, 64, 65, 66, 67, 68, 69, 70, 71, 72] (by decide +kernel) (by decide +kernel)
set_option maxRecDepth 20000 in
theorem gX0_copyFrom_X2_copyFrom : GoodIn wsX0_copyFrom (wsV RX0 48 RX2 yX2_copyFrom wsX2_copyFrom) := goodIn_app (goodIn_of _ (by decide +kernel)) ggX0_copyFrom_X2_copyFrom
theorem dX0_copyFrom_0 : decode cX0_copyFrom 0 = .ok (.aload_n 0, 1) := by decide +kernel
theorem dX0_copyFrom_1 : decode cX0_copyFrom 1 = .ok (.getfield 10, 3) := by decide +kernel
theorem dX0_copyFrom_4 : decode cX0_copyFrom 4 = .ok (.aload_n 1, 1) := by decide +kernel
theorem dX0_copyFrom_5 : decode cX0_copyFrom 5 = .ok (.getfield 10, 3) := by decide +kernel
theorem dX0_copyFrom_8 : decode cX0_copyFrom 8 = .ok (.invokevirtual 48, 3) := by decide +kernel
theorem dX0_copyFrom_11 : decode cX0_copyFrom 11 = .ok (.aload_n 1, 1) := by decide +kernel
theorem dX0_copyFrom_12 : decode cX0_copyFrom 12 = .ok (.getfield 18, 3) := by decide +kernel
theorem dX0_copyFrom_15 : decode cX0_copyFrom 15 = .ok (.iconst 0, 1) := by decide +kernel
theorem dX0_copyFrom_16 : decode cX0_copyFrom 16 = .ok (.aload_n 0, 1) := by decide +kernel
theorem dX0_copyFrom_17 : decode cX0_copyFrom 17 = .ok (.getfield 18, 3) := by decide +kernel
theorem dX0_copyFrom_20 : decode cX0_copyFrom 20 = .ok (.iconst 0, 1) := by decide +kernel
theorem dX0_copyFrom_21 : decode cX0_copyFrom 21 = .ok (.iconst 4, 1) := by decide +kernel
theorem dX0_copyFrom_22 : decode cX0_copyFrom 22 = .ok (.invokestatic 52, 3) := by decide +kernel
theorem dX0_copyFrom_25 : decode cX0_copyFrom 25 = .ok (.aload_n 1, 1) := by decide +kernel
theorem dX0_copyFrom_26 : decode cX0_copyFrom 26 = .ok (.getfield 22, 3) := by decide +kernel
theorem dX0_copyFrom_29 : decode cX0_copyFrom 29 = .ok (.iconst 0, 1) := by decide +kernel
theorem dX0_copyFrom_30 : decode cX0_copyFrom 30 = .ok (.aload_n 0, 1) := by decide +kernel
theorem dX0_copyFrom_31 : decode cX0_copyFrom 31 = .ok (.getfield 22, 3) := by decide +kernel
theorem dX0_copyFrom_34 : decode cX0_copyFrom 34 = .ok (.iconst 0, 1) := by decide +kernel
theorem dX0_copyFrom_35 : decode cX0_copyFrom 35 = .ok (.iconst 4, 1) := by decide +kernel
theorem dX0_copyFrom_36 : decode cX0_copyFrom 36 = .ok (.invokestatic 52, 3) := by decide +kernel
theorem dX0_copyFrom_39 : decode cX0_copyFrom 39 = .ok (.aload_n 0, 1) := by decide +kernel
theorem dX0_copyFrom_40 : decode cX0_copyFrom 40 = .ok (.aload_n 1, 1) := by decide +kernel
theorem dX0_copyFrom_41 : decode cX0_copyFrom 41 = .ok (.getfield 28, 3) := by decide +kernel
theorem dX0_copyFrom_44 : decode cX0_copyFrom 44 = .ok (.putfield 28, 3) := by decide +kernel
theorem dX0_copyFrom_47 : decode cX0_copyFrom 47 = .ok (.aload_n 0, 1) := by decide +kernel
theorem dX0_copyFrom_48 : decode cX0_copyFrom 48 = .ok (.aload_n 1, 1) := by decide +kernel
theorem dX0_copyFrom_49 : decode cX0_copyFrom 49 = .ok (.getfield 32, 3) := by decide +kernel
theorem dX0_copyFrom_52 : decode cX0_copyFrom 52 = .ok (.putfield 32, 3) := by decide +kernel
theorem dX0_copyFrom_55 : decode cX0_copyFrom 55 = .ok (.aload_n 0, 1) := by decide +kernel
theorem dX0_copyFrom_56 : decode cX0_copyFrom 56 = .ok (.aload_n 1, 1) := by decide +kernel
theorem dX0_copyFrom_57 : decode cX0_copyFrom 57 = .ok (.getfield 35, 3) := by decide +kernel
theorem dX0_copyFrom_60 : decode cX0_copyFrom 60 = .ok (.putfield 35, 3) := by decide +kernel
theorem dX0_copyFrom_63 : decode cX0_copyFrom 63 = .ok (.aload_n 0, 1) := by decide +kernel
theorem dX0_copyFrom_64 : decode cX0_copyFrom 64 = .ok (.aload_n 1, 1) := by decide +kernel
theorem dX0_copyFrom_65 : decode cX0_copyFrom 65 = .ok (.getfield 38, 3) := by decide +kernel
theorem dX0_copyFrom_68 : decode cX0_copyFrom 68 = .ok (.putfield 38, 3) := by decide +kernel
theorem dX0_copyFrom_71 : decode cX0_copyFrom 71 = .ok (.aload_n 0, 1) := by decide +kernel
theorem dX0_copyFrom_72 : decode cX0_copyFrom 72 = .ok (.aload_n 1, 1) := by decide +kernel
theorem dX0_copyFrom_73 : decode cX0_copyFrom 73 = .ok (.getfield 41, 3) := by decide +kernel
theorem dX0_copyFrom_76 : decode cX0_copyFrom 76 = .ok (.putfield 41, 3) := by decide +kernel
theorem dX0_copyFrom_79 : decode cX0_copyFrom 79 = .ok (.aload_n 0, 1) := by decide +kernel
theorem dX0_copyFrom_80 : decode cX0_copyFrom 80 = .ok (.aload_n 1, 1) := by decide +kernel
theorem dX0_copyFrom_81 : decode cX0_copyFrom 81 = .ok (.getfield 44, 3) := by decide +kernel
theorem dX0_copyFrom_84 : decode cX0_copyFrom 84 = .ok (.putfield 44, 3) := by decide +kernel
theorem dX0_copyFrom_87 : decode cX0_copyFrom 87 = .ok (.return_, 1) := by decide +kernel
theorem dX0_isIdle_0 : decode cX0_isIdle 0 = .ok (.aload_n 0, 1) := by decide +kernel
theorem dX0_isIdle_1 : decode cX0_isIdle 1 = .ok (.getfield 28, 3) := by decide +kernel
theorem dX0_isIdle_4 : decode cX0_isIdle 4 = .ok (.ifCond .ne 24, 3) := by decide +kernel
theorem dX0_isIdle_7 : decode cX0_isIdle 7 = .ok (.aload_n 0, 1) := by decide +kernel
theorem dX0_isIdle_8 : decode cX0_isIdle 8 = .ok (.getfield 10, 3) := by decide +kernel
theorem dX0_isIdle_11 : decode cX0_isIdle 11 = .ok (.getfield 58, 3) := by decide +kernel
theorem dX0_isIdle_14 : decode cX0_isIdle 14 = .ok (.ifCond .ne 14, 3) := by decide +kernel
theorem dX0_isIdle_17 : decode cX0_isIdle 17 = .ok (.aload_n 0, 1) := by decide +kernel
theorem dX0_isIdle_18 : decode cX0_isIdle 18 = .ok (.getfield 32, 3) := by decide +kernel
theorem dX0_isIdle_21 : decode cX0_isIdle 21 = .ok (.ifCond .ne 7, 3) := by decide +kernel
theorem dX0_isIdle_24 : decode cX0_isIdle 24 = .ok (.iconst 1, 1) := by decide +kernel
theorem dX0_isIdle_25 : decode cX0_isIdle 25 = .ok (.goto 4, 3) := by decide +kernel
theorem dX0_isIdle_28 : decode cX0_isIdle 28 = .ok (.iconst 0, 1) := by decide +kernel
theorem dX0_isIdle_29 : decode cX0_isIdle 29 = .ok (.ireturn, 1) := by decide +kernel
set_option maxRecDepth 20000 in
theorem ggX0_pass_X2_pass_c : GoodIn wsX0_pass [.code yX2_pass cX2_pass 4 none] := goodIn_r _ [9] (by decide +kernel) (by decide +kernel)
set_option maxRecDepth 20000 in
theorem ggX0_pass_X2_pass_1 : GoodIn wsX0_pass wsX2_pass_r1 := goodIn_r _ [10, 11, 12, 13, 14, 15, 16, 17, 18, 19, 8, 20, 21, 22, 23, 24, 25, 26, 27, 28, 29, 30, 31, 32] (by decide +kernel) (by decide +kernel)
set_option maxRecDepth 20000 in
theorem ggX0_pass_X2_pass_2 : GoodIn wsX0_pass wsX2_pass_r2 := goodIn_r _ [33, 34, 35, 36, 37, 38, 39, 40, 41, 42] (by decide +kernel) (by decide +kernel)
set_option maxRecDepth 20000 in
theorem ggX0_pass_X2_pass_3 : GoodIn wsX0_pass wsX20 := goodIn_r _ [125, 126, 127, 128, 129, 130, 131, 132, 133, 134, 135, 136, 137, 138] (by decide +kernel) (by decide +kernel)
set_option maxRecDepth 20000 in
theorem ggX0_pass_X2_pass_4 : GoodIn wsX0_pass wsX90 := goodIn_r _ [139, 140, 141, 142, 143, 144] (by decide +kernel) (by decide +kernel)
set_option maxRecDepth 20000 in
theorem ggX0_pass_X2_pass_5 : GoodIn wsX0_pass wsX60 := goodIn_r _ [145, 146, 147, 148, 149, 150, 151, 152, 153, 154, 155, 156, 157] (by decide +kernel) (by decide +kernel)
set_option maxRecDepth 20000 in
theorem ggX0_pass_X2_pass_6 : GoodIn wsX0_pass wsX80 := goodIn_r _ [158, 159, 160, 161] (by decide +kernel) (by decide +kernel)
theorem ggX0_pass_X2_pass : GoodIn wsX0_pass wsX2_pass := (goodIn_app (a := [.code yX2_pass cX2_pass 4 none]) ggX0_pass_X2_pass_c (goodIn_app (goodIn_app (goodIn_app (goodIn_app (goodIn_app ggX0_pass_X2_pass_1 ggX0_pass_X2_pass_2) ggX0_pass_X2_pass_3) ggX0_pass_X2_pass_4) ggX0_pass_X2_pass_5) ggX0_pass_X2_pass_6))
set_option maxRecDepth 20000 in
theorem gX0_pass_X2_pass : GoodIn wsX0_pass (wsV RX0 61 RX2 yX2_pass wsX2_pass) := goodIn_app (goodIn_of _ (by decide +kernel)) ggX0_pass_X2_pass
set_option maxRecDepth 20000 in
theorem ggX0_pass_X0_moveOn_c : GoodIn wsX0_pass [.code yX0_moveOn cX0_moveOn 3 none] := goodIn_r _ [47] (by decide +kernel) (by decide +kernel)
set_option maxRecDepth 20000 in
theorem ggX0_pass_X0_moveOn_1 : GoodIn wsX0_pass wsX0_moveOn_r1 := goodIn_r _ [3, 48, 49, 50, 51, 52, 46, 53, 54, 55, 56, 57, 58, 59, 60, 61, 62, 63, 64, 65, 66, 67, 68, 69] (by decide +kernel) (by decide +kernel)
set_option maxRecDepth 20000 in
theorem ggX0_pass_X0_moveOn_2 : GoodIn wsX0_pass wsX0_moveOn_r2 := goodIn_r _ [70, 71, 72, 73, 74, 75, 76, 77, 78, 79, 80, 81, 82, 83, 84, 1, 85, 4, 86] (by decide +kernel) (by decide +kernel)
set_option maxRecDepth 20000 in
theorem ggX0_pass_X0_moveOn_3 : GoodIn wsX0_pass wsX00 := goodIn_r _ [116, 117, 118, 119, 120, 121, 122, 123, 124] (by decide +kernel) (by decide +kernel)
set_option maxRecDepth 20000 in
theorem ggX0_pass_X0_moveOn_4 : GoodIn wsX0_pass wsX90 := goodIn_r _ [139, 140, 141, 142, 143, 144] (by decide +kernel) (by decide +kernel)
set_option maxRecDepth 20000 in
theorem ggX0_pass_X0_moveOn_5 : GoodIn wsX0_pass wsX60 := goodIn_r _ [145, 146, 147, 148, 149, 150, 151, 152, 153, 154, 155, 156, 157] (by decide +kernel) (by decide +kernel)
set_option maxRecDepth 20000 in
theorem ggX0_pass_X0_moveOn_6 : GoodIn wsX0_pass wsX20 := goodIn_r _ [125, 126, 127, 128, 129, 130, 131, 132, 133, 134, 135, 136, 137, 138] (by decide +kernel) (by decide +kernel)
theorem ggX0_pass_X0_moveOn : GoodIn wsX0_pass wsX0_moveOn := (goodIn_app (a := [.code yX0_moveOn cX0_moveOn 3 none]) ggX0_pass_X0_moveOn_c (goodIn_app (goodIn_app (goodIn_app (goodIn_app (goodIn_app ggX0_pass_X0_moveOn_1 ggX0_pass_X0_moveOn_2) ggX0_pass_X0_moveOn_3) ggX0_pass_X0_moveOn_4) ggX0_pass_X0_moveOn_5) ggX0_pass_X0_moveOn_6))
set_option maxRecDepth 20000 in
theorem gX0_pass_X0_moveOn : GoodIn wsX0_pass (wsV RX0 65 RX0 yX0_moveOn wsX0_moveOn) := goodIn_app (goodIn_of _ (by decide +kernel)) ggX0_pass_X0_moveOn
set_option maxRecDepth 20000 in
theorem ggX0_pass_X0_beginAct_c : GoodIn wsX0_pass [.code yX0_beginAct cX0_beginAct 4 none] := goodIn_r _ [90] (by decide +kernel) (by decide +kernel)
set_option maxRecDepth 20000 in
theorem ggX0_pass_X0_beginAct_1 : GoodIn wsX0_pass wsX0_beginAct_r1 := goodIn_r _ [54, 1, 55, 57, 3, 63, 56, 62, 49, 69, 70, 71, 72, 73, 74, 75, 76, 77, 78, 79, 80, 91, 92, 93] (by decide +kernel) (by decide +kernel)
set_option maxRecDepth 20000 in
theorem ggX0_pass_X0_beginAct_2 : GoodIn wsX0_pass wsX0_beginAct_r2 := goodIn_r _ [8, 94, 95, 96, 26, 97, 22, 98, 99, 100, 101, 11, 102, 13, 24, 25, 103, 104, 105, 30, 106, 38, 33, 32] (by decide +kernel) (by decide +kernel)
set_option maxRecDepth 20000 in
theorem ggX0_pass_X0_beginAct_3 : GoodIn wsX0_pass wsX0_beginAct_r3 := goodIn_r _ [107, 108, 109, 110, 111, 27, 28, 29, 31, 34, 35, 36, 37, 39, 40, 41, 42, 112, 113, 114, 46, 115] (by decide +kernel) (by decide +kernel)
set_option maxRecDepth 20000 in
theorem ggX0_pass_X0_beginAct_4 : GoodIn wsX0_pass wsX00 := goodIn_r _ [116, 117, 118, 119, 120, 121, 122, 123, 124] (by decide +kernel) (by decide +kernel)
set_option maxRecDepth 20000 in
theorem ggX0_pass_X0_beginAct_5 : GoodIn wsX0_pass wsX60 := goodIn_r _ [145, 146, 147, 148, 149, 150, 151, 152, 153, 154, 155, 156, 157] (by decide +kernel) (by decide +kernel)
set_option maxRecDepth 20000 in
theorem ggX0_pass_X0_beginAct_6 : GoodIn wsX0_pass wsX20 := goodIn_r _ [125, 126, 127, 128, 129, 130, 131, 132, 133, 134, 135, 136, 137, 138] (by decide +kernel) (by decide +kernel)
set_option maxRecDepth 20000 in
theorem ggX0_pass_X0_beginAct_7 : GoodIn wsX0_pass wsX90 := goodIn_r _ [139, 140, 141, 142, 143, 144] (by decide +kernel) (by decide +kernel)
set_option maxRecDepth 20000 in
theorem ggX0_pass_X0_beginAct_8 : GoodIn wsX0_pass wsX80 := goodIn_r _ [158, 159, 160, 161] (by decide +kernel) (by decide +kernel)
theorem ggX0_pass_X0_beginAct : GoodIn wsX0_pass wsX0_beginAct := (goodIn_app (a := [.code yX0_beginAct cX0_beginAct 4 none]) ggX0_pass_X0_beginAct_c (goodIn_app (goodIn_app (goodIn_app (goodIn_app (goodIn_app (goodIn_app ggX0_pass_X0_beginAct_1 (goodIn_app ggX0_pass_X0_beginAct_2 ggX0_pass_X0_beginAct_3)) ggX0_pass_X0_beginAct_4) ggX0_pass_X0_beginAct_5) ggX0_pass_X0_beginAct_6) ggX0_pass_X0_beginAct_7) ggX0_pass_X0_beginAct_8))
set_option maxRecDepth 20000 in
theorem gX0_pass_X0_beginAct : GoodIn wsX0_pass (wsV RX0 69 RX0 yX0_beginAct wsX0_beginAct) := goodIn_app (goodIn_of _ (by decide +kernel)) ggX0_pass_X0_beginAct
theorem dX0_pass_0 : decode cX0_pass 0 = .ok (.aload_n 0, 1) := by decide +kernel
theorem dX0_pass_1 : decode cX0_pass 1 = .ok (.getfield 10, 3) := by decide +kernel
theorem dX0_pass_4 : decode cX0_pass 4 = .ok (.aload_n 1, 1) := by decide +kernel
theorem dX0_pass_5 : decode cX0_pass 5 = .ok (.aload_n 2, 1) := by decide +kernel
theorem dX0_pass_6 : decode cX0_pass 6 = .ok (.iload_n 3, 1) := by decide +kernel
theorem dX0_pass_7 : decode cX0_pass 7 = .ok (.invokevirtual 61, 3) := by decide +kernel
theorem dX0_pass_10 : decode cX0_pass 10 = .ok (.aload_n 0, 1) := by decide +kernel
theorem dX0_pass_11 : decode cX0_pass 11 = .ok (.aload_n 1, 1) := by decide +kernel
theorem dX0_pass_12 : decode cX0_pass 12 = .ok (.aload_n 2, 1) := by decide +kernel
theorem dX0_pass_13 : decode cX0_pass 13 = .ok (.invokevirtual 65, 3) := by decide +kernel
theorem dX0_pass_16 : decode cX0_pass 16 = .ok (.aload_n 0, 1) := by decide +kernel
theorem dX0_pass_17 : decode cX0_pass 17 = .ok (.getfield 10, 3) := by decide +kernel
theorem dX0_pass_20 : decode cX0_pass 20 = .ok (.getfield 58, 3) := by decide +kernel
theorem dX0_pass_23 : decode cX0_pass 23 = .ok (.ifCond .ne 10, 3) := by decide +kernel
theorem dX0_pass_26 : decode cX0_pass 26 = .ok (.aload_n 0, 1) := by decide +kernel
theorem dX0_pass_27 : decode cX0_pass 27 = .ok (.aload_n 1, 1) := by decide +kernel
theorem dX0_pass_28 : decode cX0_pass 28 = .ok (.aload_n 2, 1) := by decide +kernel
theorem dX0_pass_29 : decode cX0_pass 29 = .ok (.iload_n 3, 1) := by decide +kernel
theorem dX0_pass_30 : decode cX0_pass 30 = .ok (.invokevirtual 69, 3) := by decide +kernel
theorem dX0_pass_33 : decode cX0_pass 33 = .ok (.aload_n 0, 1) := by decide +kernel
theorem dX0_pass_34 : decode cX0_pass 34 = .ok (.getfield 32, 3) := by decide +kernel
theorem dX0_pass_37 : decode cX0_pass 37 = .ok (.iconst 2, 1) := by decide +kernel
theorem dX0_pass_38 : decode cX0_pass 38 = .ok (.if_icmp .eq 19, 3) := by decide +kernel
theorem dX0_pass_41 : decode cX0_pass 41 = .ok (.aload_n 0, 1) := by decide +kernel
theorem dX0_pass_42 : decode cX0_pass 42 = .ok (.getfield 32, 3) := by decide +kernel
theorem dX0_pass_45 : decode cX0_pass 45 = .ok (.iconst 3, 1) := by decide +kernel
theorem dX0_pass_46 : decode cX0_pass 46 = .ok (.if_icmp .eq 11, 3) := by decide +kernel
theorem dX0_pass_49 : decode cX0_pass 49 = .ok (.aload_n 0, 1) := by decide +kernel
theorem dX0_pass_50 : decode cX0_pass 50 = .ok (.getfield 32, 3) := by decide +kernel
theorem dX0_pass_53 : decode cX0_pass 53 = .ok (.iconst 4, 1) := by decide +kernel
theorem dX0_pass_54 : decode cX0_pass 54 = .ok (.if_icmp .ne 7, 3) := by decide +kernel
theorem dX0_pass_57 : decode cX0_pass 57 = .ok (.iconst 1, 1) := by decide +kernel
theorem dX0_pass_58 : decode cX0_pass 58 = .ok (.goto 4, 3) := by decide +kernel
theorem dX0_pass_61 : decode cX0_pass 61 = .ok (.iconst 0, 1) := by decide +kernel
theorem dX0_pass_62 : decode cX0_pass 62 = .ok (.istore 4, 2) := by decide +kernel
theorem dX0_pass_64 : decode cX0_pass 64 = .ok (.aload_n 2, 1) := by decide +kernel
theorem dX0_pass_65 : decode cX0_pass 65 = .ok (.getfield 72, 3) := by decide +kernel
theorem dX0_pass_68 : decode cX0_pass 68 = .ok (.iconst 4, 1) := by decide +kernel
theorem dX0_pass_69 : decode cX0_pass 69 = .ok (.iload 4, 2) := by decide +kernel
theorem dX0_pass_71 : decode cX0_pass 71 = .ok (.ifCond .eq 7, 3) := by decide +kernel
theorem dX0_pass_74 : decode cX0_pass 74 = .ok (.iconst 0, 1) := by decide +kernel
theorem dX0_pass_75 : decode cX0_pass 75 = .ok (.goto 4, 3) := by decide +kernel
theorem dX0_pass_78 : decode cX0_pass 78 = .ok (.iconst 1, 1) := by decide +kernel
theorem dX0_pass_79 : decode cX0_pass 79 = .ok (.iastore, 1) := by decide +kernel
theorem dX0_pass_80 : decode cX0_pass 80 = .ok (.aload_n 2, 1) := by decide +kernel
theorem dX0_pass_81 : decode cX0_pass 81 = .ok (.getfield 72, 3) := by decide +kernel
theorem dX0_pass_84 : decode cX0_pass 84 = .ok (.iconst 5, 1) := by decide +kernel
theorem dX0_pass_85 : decode cX0_pass 85 = .ok (.aload_n 0, 1) := by decide +kernel
theorem dX0_pass_86 : decode cX0_pass 86 = .ok (.getfield 32, 3) := by decide +kernel
theorem dX0_pass_89 : decode cX0_pass 89 = .ok (.iconst 4, 1) := by decide +kernel
theorem dX0_pass_90 : decode cX0_pass 90 = .ok (.if_icmp .eq 11, 3) := by decide +kernel
theorem dX0_pass_93 : decode cX0_pass 93 = .ok (.aload_n 0, 1) := by decide +kernel
theorem dX0_pass_94 : decode cX0_pass 94 = .ok (.getfield 32, 3) := by decide +kernel
theorem dX0_pass_97 : decode cX0_pass 97 = .ok (.iconst 5, 1) := by decide +kernel
theorem dX0_pass_98 : decode cX0_pass 98 = .ok (.if_icmp .ne 7, 3) := by decide +kernel
theorem dX0_pass_101 : decode cX0_pass 101 = .ok (.iconst 1, 1) := by decide +kernel
theorem dX0_pass_102 : decode cX0_pass 102 = .ok (.goto 4, 3) := by decide +kernel
theorem dX0_pass_105 : decode cX0_pass 105 = .ok (.iconst 0, 1) := by decide +kernel
theorem dX0_pass_106 : decode cX0_pass 106 = .ok (.iastore, 1) := by decide +kernel
theorem dX0_pass_107 : decode cX0_pass 107 = .ok (.return_, 1) := by decide +kernel
set_option maxRecDepth 20000 in
theorem ggX0_moveOn_X0_post : GoodIn wsX0_moveOn wsX0_post := goodIn_r _ [8, 9, 10, 11, 12, 44, 45, 46, 47, 48, 49, 50, 51, 52] (by decide +kernel) (by decide +kernel)
set_option maxRecDepth 20000 in
theorem gX0_moveOn_X0_post : GoodIn wsX0_moveOn (wsV RX0 80 RX0 yX0_post wsX0_post) := goodIn_app (goodIn_of _ (by decide +kernel)) ggX0_moveOn_X0_post
set_option maxRecDepth 20000 in
theorem ggX0_moveOn_X0_takeCase : GoodIn wsX0_moveOn wsX0_takeCase := goodIn_r _ [16, 2, 1, 11, 17, 18, 9, 19, 20, 21, 22, 23, 24, 25, 26, 27, 28, 29, 30, 31, 32, 33, 34, 35, 53, 54, 55, 56, 57, 58, 44, 45, 46, 47, 48, 49, 50, 51, 52, 59, 60, 61, 62, 63, 64, 65, 66, 67, 68, 69, 70, 71] (by decide +kernel) (by decide +kernel)
set_option maxRecDepth 20000 in
theorem gX0_moveOn_X0_takeCase : GoodIn wsX0_moveOn (wsV RX0 84 RX0 yX0_takeCase wsX0_takeCase) := goodIn_app (goodIn_of _ (by decide +kernel)) ggX0_moveOn_X0_takeCase
set_option maxRecDepth 20000 in
theorem ggX0_moveOn_X0_endWait : GoodIn wsX0_moveOn wsX0_endWait := goodIn_r _ [39, 18, 40, 41, 1, 17, 42, 43, 44, 45, 46, 47, 48, 49, 50, 51, 52, 72, 73, 74, 75, 76, 77, 78, 79, 80, 81, 82, 83, 84, 85, 53, 54, 55, 56, 57, 58] (by decide +kernel) (by decide +kernel)
set_option maxRecDepth 20000 in
theorem gX0_moveOn_X0_endWait : GoodIn wsX0_moveOn (wsV RX0 87 RX0 yX0_endWait wsX0_endWait) := goodIn_app (goodIn_of _ (by decide +kernel)) ggX0_moveOn_X0_endWait
theorem dX0_moveOn_0 : decode cX0_moveOn 0 = .ok (.aload_n 0, 1) := by decide +kernel
theorem dX0_moveOn_1 : decode cX0_moveOn 1 = .ok (.getfield 32, 3) := by decide +kernel
theorem dX0_moveOn_4 : decode cX0_moveOn 4 = .ok (.tableswitch 85 1 4 #[32, 51, 69, 77], 32) := by decide +kernel
theorem dX0_moveOn_36 : decode cX0_moveOn 36 = .ok (.aload_n 0, 1) := by decide +kernel
theorem dX0_moveOn_37 : decode cX0_moveOn 37 = .ok (.aload_n 2, 1) := by decide +kernel
theorem dX0_moveOn_38 : decode cX0_moveOn 38 = .ok (.getfield 77, 3) := by decide +kernel
theorem dX0_moveOn_41 : decode cX0_moveOn 41 = .ok (.iconst 3, 1) := by decide +kernel
theorem dX0_moveOn_42 : decode cX0_moveOn 42 = .ok (.iaload, 1) := by decide +kernel
theorem dX0_moveOn_43 : decode cX0_moveOn 43 = .ok (.invokevirtual 80, 3) := by decide +kernel
theorem dX0_moveOn_46 : decode cX0_moveOn 46 = .ok (.aload_n 0, 1) := by decide +kernel
theorem dX0_moveOn_47 : decode cX0_moveOn 47 = .ok (.aload_n 1, 1) := by decide +kernel
theorem dX0_moveOn_48 : decode cX0_moveOn 48 = .ok (.aload_n 2, 1) := by decide +kernel
theorem dX0_moveOn_49 : decode cX0_moveOn 49 = .ok (.invokevirtual 84, 3) := by decide +kernel
theorem dX0_moveOn_52 : decode cX0_moveOn 52 = .ok (.goto 43, 3) := by decide +kernel
theorem dX0_moveOn_55 : decode cX0_moveOn 55 = .ok (.aload_n 0, 1) := by decide +kernel
theorem dX0_moveOn_56 : decode cX0_moveOn 56 = .ok (.aload_n 2, 1) := by decide +kernel
theorem dX0_moveOn_57 : decode cX0_moveOn 57 = .ok (.getfield 77, 3) := by decide +kernel
theorem dX0_moveOn_60 : decode cX0_moveOn 60 = .ok (.iconst 3, 1) := by decide +kernel
theorem dX0_moveOn_61 : decode cX0_moveOn 61 = .ok (.iaload, 1) := by decide +kernel
theorem dX0_moveOn_62 : decode cX0_moveOn 62 = .ok (.putfield 41, 3) := by decide +kernel
theorem dX0_moveOn_65 : decode cX0_moveOn 65 = .ok (.aload_n 0, 1) := by decide +kernel
theorem dX0_moveOn_66 : decode cX0_moveOn 66 = .ok (.iconst 3, 1) := by decide +kernel
theorem dX0_moveOn_67 : decode cX0_moveOn 67 = .ok (.putfield 32, 3) := by decide +kernel
theorem dX0_moveOn_70 : decode cX0_moveOn 70 = .ok (.goto 25, 3) := by decide +kernel
theorem dX0_moveOn_73 : decode cX0_moveOn 73 = .ok (.aload_n 0, 1) := by decide +kernel
theorem dX0_moveOn_74 : decode cX0_moveOn 74 = .ok (.aload_n 2, 1) := by decide +kernel
theorem dX0_moveOn_75 : decode cX0_moveOn 75 = .ok (.invokevirtual 87, 3) := by decide +kernel
theorem dX0_moveOn_78 : decode cX0_moveOn 78 = .ok (.goto 17, 3) := by decide +kernel
theorem dX0_moveOn_81 : decode cX0_moveOn 81 = .ok (.aload_n 0, 1) := by decide +kernel
theorem dX0_moveOn_82 : decode cX0_moveOn 82 = .ok (.iconst 5, 1) := by decide +kernel
theorem dX0_moveOn_83 : decode cX0_moveOn 83 = .ok (.putfield 32, 3) := by decide +kernel
theorem dX0_moveOn_86 : decode cX0_moveOn 86 = .ok (.goto 9, 3) := by decide +kernel
theorem dX0_moveOn_89 : decode cX0_moveOn 89 = .ok (.aload_n 0, 1) := by decide +kernel
theorem dX0_moveOn_90 : decode cX0_moveOn 90 = .ok (.aload_n 1, 1) := by decide +kernel
theorem dX0_moveOn_91 : decode cX0_moveOn 91 = .ok (.aload_n 2, 1) := by decide +kernel
theorem dX0_moveOn_92 : decode cX0_moveOn 92 = .ok (.invokevirtual 84, 3) := by decide +kernel
theorem dX0_moveOn_95 : decode cX0_moveOn 95 = .ok (.return_, 1) := by decide +kernel
theorem dX0_post_0 : decode cX0_post 0 = .ok (.aload_n 0, 1) := by decide +kernel
theorem dX0_post_1 : decode cX0_post 1 = .ok (.getfield 28, 3) := by decide +kernel
theorem dX0_post_4 : decode cX0_post 4 = .ok (.iconst 4, 1) := by decide +kernel
theorem dX0_post_5 : decode cX0_post 5 = .ok (.if_icmp .ge 36, 3) := by decide +kernel
theorem dX0_post_8 : decode cX0_post 8 = .ok (.aload_n 0, 1) := by decide +kernel
theorem dX0_post_9 : decode cX0_post 9 = .ok (.getfield 18, 3) := by decide +kernel
theorem dX0_post_12 : decode cX0_post 12 = .ok (.aload_n 0, 1) := by decide +kernel
theorem dX0_post_13 : decode cX0_post 13 = .ok (.getfield 28, 3) := by decide +kernel
theorem dX0_post_16 : decode cX0_post 16 = .ok (.aload_n 0, 1) := by decide +kernel
theorem dX0_post_17 : decode cX0_post 17 = .ok (.getfield 35, 3) := by decide +kernel
theorem dX0_post_20 : decode cX0_post 20 = .ok (.iastore, 1) := by decide +kernel
theorem dX0_post_21 : decode cX0_post 21 = .ok (.aload_n 0, 1) := by decide +kernel
theorem dX0_post_22 : decode cX0_post 22 = .ok (.getfield 22, 3) := by decide +kernel
theorem dX0_post_25 : decode cX0_post 25 = .ok (.aload_n 0, 1) := by decide +kernel
theorem dX0_post_26 : decode cX0_post 26 = .ok (.getfield 28, 3) := by decide +kernel
theorem dX0_post_29 : decode cX0_post 29 = .ok (.iload_n 1, 1) := by decide +kernel
theorem dX0_post_30 : decode cX0_post 30 = .ok (.iastore, 1) := by decide +kernel
theorem dX0_post_31 : decode cX0_post 31 = .ok (.aload_n 0, 1) := by decide +kernel
theorem dX0_post_32 : decode cX0_post 32 = .ok (.dup, 1) := by decide +kernel
theorem dX0_post_33 : decode cX0_post 33 = .ok (.getfield 28, 3) := by decide +kernel
theorem dX0_post_36 : decode cX0_post 36 = .ok (.iconst 1, 1) := by decide +kernel
theorem dX0_post_37 : decode cX0_post 37 = .ok (.iadd, 1) := by decide +kernel
theorem dX0_post_38 : decode cX0_post 38 = .ok (.putfield 28, 3) := by decide +kernel
theorem dX0_post_41 : decode cX0_post 41 = .ok (.return_, 1) := by decide +kernel
set_option maxRecDepth 20000 in
theorem ggX0_takeCase_X9_isTransfer : GoodIn wsX0_takeCase wsX9_isTransfer := goodIn_r _ [11] (by decide +kernel) (by decide +kernel)
set_option maxRecDepth 20000 in
theorem gX0_takeCase_X9_isTransfer : GoodIn wsX0_takeCase (va_wsS RX0 91 yX9_isTransfer wsX9_isTransfer) := goodIn_app (goodIn_of _ (by decide +kernel)) ggX0_takeCase_X9_isTransfer
set_option maxRecDepth 20000 in
theorem ggX0_takeCase_X6_slaveAt : GoodIn wsX0_takeCase wsX6_slaveAt := goodIn_r _ [16, 17, 18, 19, 20, 15, 21, 22, 23, 39, 40, 41, 42, 43, 44, 45, 46, 47, 48, 49, 50, 51] (by decide +kernel) (by decide +kernel)
set_option maxRecDepth 20000 in
theorem gX0_takeCase_X6_slaveAt : GoodIn wsX0_takeCase (wsV RX0 95 RX6 yX6_slaveAt wsX6_slaveAt) := goodIn_app (goodIn_of _ (by decide +kernel)) ggX0_takeCase_X6_slaveAt
theorem dX0_takeCase_0 : decode cX0_takeCase 0 = .ok (.aload_n 2, 1) := by decide +kernel
theorem dX0_takeCase_1 : decode cX0_takeCase 1 = .ok (.getfield 77, 3) := by decide +kernel
theorem dX0_takeCase_4 : decode cX0_takeCase 4 = .ok (.iconst 2, 1) := by decide +kernel
theorem dX0_takeCase_5 : decode cX0_takeCase 5 = .ok (.iaload, 1) := by decide +kernel
theorem dX0_takeCase_6 : decode cX0_takeCase 6 = .ok (.invokestatic 91, 3) := by decide +kernel
theorem dX0_takeCase_9 : decode cX0_takeCase 9 = .ok (.ifCond .ne 9, 3) := by decide +kernel
theorem dX0_takeCase_12 : decode cX0_takeCase 12 = .ok (.aload_n 0, 1) := by decide +kernel
theorem dX0_takeCase_13 : decode cX0_takeCase 13 = .ok (.iconst 0, 1) := by decide +kernel
theorem dX0_takeCase_14 : decode cX0_takeCase 14 = .ok (.putfield 32, 3) := by decide +kernel
theorem dX0_takeCase_17 : decode cX0_takeCase 17 = .ok (.return_, 1) := by decide +kernel
theorem dX0_takeCase_18 : decode cX0_takeCase 18 = .ok (.aload_n 0, 1) := by decide +kernel
theorem dX0_takeCase_19 : decode cX0_takeCase 19 = .ok (.aload_n 2, 1) := by decide +kernel
theorem dX0_takeCase_20 : decode cX0_takeCase 20 = .ok (.getfield 77, 3) := by decide +kernel
theorem dX0_takeCase_23 : decode cX0_takeCase 23 = .ok (.iconst 0, 1) := by decide +kernel
theorem dX0_takeCase_24 : decode cX0_takeCase 24 = .ok (.iaload, 1) := by decide +kernel
theorem dX0_takeCase_25 : decode cX0_takeCase 25 = .ok (.putfield 35, 3) := by decide +kernel
theorem dX0_takeCase_28 : decode cX0_takeCase 28 = .ok (.aload_n 0, 1) := by decide +kernel
theorem dX0_takeCase_29 : decode cX0_takeCase 29 = .ok (.aload_n 2, 1) := by decide +kernel
theorem dX0_takeCase_30 : decode cX0_takeCase 30 = .ok (.getfield 77, 3) := by decide +kernel
theorem dX0_takeCase_33 : decode cX0_takeCase 33 = .ok (.iconst 1, 1) := by decide +kernel
theorem dX0_takeCase_34 : decode cX0_takeCase 34 = .ok (.iaload, 1) := by decide +kernel
theorem dX0_takeCase_35 : decode cX0_takeCase 35 = .ok (.ifCond .eq 7, 3) := by decide +kernel
theorem dX0_takeCase_38 : decode cX0_takeCase 38 = .ok (.iconst 1, 1) := by decide +kernel
theorem dX0_takeCase_39 : decode cX0_takeCase 39 = .ok (.goto 4, 3) := by decide +kernel
theorem dX0_takeCase_42 : decode cX0_takeCase 42 = .ok (.iconst 0, 1) := by decide +kernel
theorem dX0_takeCase_43 : decode cX0_takeCase 43 = .ok (.putfield 38, 3) := by decide +kernel
theorem dX0_takeCase_46 : decode cX0_takeCase 46 = .ok (.aload_n 0, 1) := by decide +kernel
theorem dX0_takeCase_47 : decode cX0_takeCase 47 = .ok (.iconst 0, 1) := by decide +kernel
theorem dX0_takeCase_48 : decode cX0_takeCase 48 = .ok (.putfield 44, 3) := by decide +kernel
theorem dX0_takeCase_51 : decode cX0_takeCase 51 = .ok (.aload_n 1, 1) := by decide +kernel
theorem dX0_takeCase_52 : decode cX0_takeCase 52 = .ok (.aload_n 0, 1) := by decide +kernel
theorem dX0_takeCase_53 : decode cX0_takeCase 53 = .ok (.getfield 35, 3) := by decide +kernel
theorem dX0_takeCase_56 : decode cX0_takeCase 56 = .ok (.invokevirtual 95, 3) := by decide +kernel
theorem dX0_takeCase_59 : decode cX0_takeCase 59 = .ok (.ifCond .ge 11, 3) := by decide +kernel
theorem dX0_takeCase_62 : decode cX0_takeCase 62 = .ok (.aload_n 0, 1) := by decide +kernel
theorem dX0_takeCase_63 : decode cX0_takeCase 63 = .ok (.iconst 4, 1) := by decide +kernel
theorem dX0_takeCase_64 : decode cX0_takeCase 64 = .ok (.putfield 32, 3) := by decide +kernel
theorem dX0_takeCase_67 : decode cX0_takeCase 67 = .ok (.goto 38, 3) := by decide +kernel
theorem dX0_takeCase_70 : decode cX0_takeCase 70 = .ok (.aload_n 0, 1) := by decide +kernel
theorem dX0_takeCase_71 : decode cX0_takeCase 71 = .ok (.getfield 38, 3) := by decide +kernel
theorem dX0_takeCase_74 : decode cX0_takeCase 74 = .ok (.ifCond .ne 11, 3) := by decide +kernel
theorem dX0_takeCase_77 : decode cX0_takeCase 77 = .ok (.aload_n 0, 1) := by decide +kernel
theorem dX0_takeCase_78 : decode cX0_takeCase 78 = .ok (.iconst 3, 1) := by decide +kernel
theorem dX0_takeCase_79 : decode cX0_takeCase 79 = .ok (.putfield 32, 3) := by decide +kernel
theorem dX0_takeCase_82 : decode cX0_takeCase 82 = .ok (.goto 23, 3) := by decide +kernel
theorem dX0_takeCase_85 : decode cX0_takeCase 85 = .ok (.aload_n 0, 1) := by decide +kernel
theorem dX0_takeCase_86 : decode cX0_takeCase 86 = .ok (.aload_n 0, 1) := by decide +kernel
theorem dX0_takeCase_87 : decode cX0_takeCase 87 = .ok (.getfield 28, 3) := by decide +kernel
theorem dX0_takeCase_90 : decode cX0_takeCase 90 = .ok (.aload_n 1, 1) := by decide +kernel
theorem dX0_takeCase_91 : decode cX0_takeCase 91 = .ok (.getfield 99, 3) := by decide +kernel
theorem dX0_takeCase_94 : decode cX0_takeCase 94 = .ok (.if_icmp .ge 7, 3) := by decide +kernel
theorem dX0_takeCase_97 : decode cX0_takeCase 97 = .ok (.iconst 1, 1) := by decide +kernel
theorem dX0_takeCase_98 : decode cX0_takeCase 98 = .ok (.goto 4, 3) := by decide +kernel
theorem dX0_takeCase_101 : decode cX0_takeCase 101 = .ok (.iconst 2, 1) := by decide +kernel
theorem dX0_takeCase_102 : decode cX0_takeCase 102 = .ok (.putfield 32, 3) := by decide +kernel
theorem dX0_takeCase_105 : decode cX0_takeCase 105 = .ok (.return_, 1) := by decide +kernel
theorem dX0_endWait_0 : decode cX0_endWait 0 = .ok (.aload_n 0, 1) := by decide +kernel
theorem dX0_endWait_1 : decode cX0_endWait 1 = .ok (.getfield 44, 3) := by decide +kernel
theorem dX0_endWait_4 : decode cX0_endWait 4 = .ok (.ifCond .eq 13, 3) := by decide +kernel
theorem dX0_endWait_7 : decode cX0_endWait 7 = .ok (.aload_n 0, 1) := by decide +kernel
theorem dX0_endWait_8 : decode cX0_endWait 8 = .ok (.getfield 10, 3) := by decide +kernel
theorem dX0_endWait_11 : decode cX0_endWait 11 = .ok (.getfield 102, 3) := by decide +kernel
theorem dX0_endWait_14 : decode cX0_endWait 14 = .ok (.ifCond .ne 4, 3) := by decide +kernel
theorem dX0_endWait_17 : decode cX0_endWait 17 = .ok (.return_, 1) := by decide +kernel
theorem dX0_endWait_18 : decode cX0_endWait 18 = .ok (.aload_n 0, 1) := by decide +kernel
theorem dX0_endWait_19 : decode cX0_endWait 19 = .ok (.getfield 10, 3) := by decide +kernel
theorem dX0_endWait_22 : decode cX0_endWait 22 = .ok (.getfield 102, 3) := by decide +kernel
theorem dX0_endWait_25 : decode cX0_endWait 25 = .ok (.iconst 1, 1) := by decide +kernel
theorem dX0_endWait_26 : decode cX0_endWait 26 = .ok (.if_icmp .eq 9, 3) := by decide +kernel
theorem dX0_endWait_29 : decode cX0_endWait 29 = .ok (.aload_n 0, 1) := by decide +kernel
theorem dX0_endWait_30 : decode cX0_endWait 30 = .ok (.iconst 4, 1) := by decide +kernel
theorem dX0_endWait_31 : decode cX0_endWait 31 = .ok (.putfield 32, 3) := by decide +kernel
theorem dX0_endWait_34 : decode cX0_endWait 34 = .ok (.return_, 1) := by decide +kernel
theorem dX0_endWait_35 : decode cX0_endWait 35 = .ok (.aload_n 0, 1) := by decide +kernel
theorem dX0_endWait_36 : decode cX0_endWait 36 = .ok (.bipush 6, 2) := by decide +kernel
theorem dX0_endWait_38 : decode cX0_endWait 38 = .ok (.putfield 32, 3) := by decide +kernel
theorem dX0_endWait_41 : decode cX0_endWait 41 = .ok (.aload_n 0, 1) := by decide +kernel
theorem dX0_endWait_42 : decode cX0_endWait 42 = .ok (.getfield 38, 3) := by decide +kernel
theorem dX0_endWait_45 : decode cX0_endWait 45 = .ok (.ifCond .ne 17, 3) := by decide +kernel
theorem dX0_endWait_48 : decode cX0_endWait 48 = .ok (.aload_n 1, 1) := by decide +kernel
theorem dX0_endWait_49 : decode cX0_endWait 49 = .ok (.getfield 72, 3) := by decide +kernel
theorem dX0_endWait_52 : decode cX0_endWait 52 = .ok (.bipush 6, 2) := by decide +kernel
theorem dX0_endWait_54 : decode cX0_endWait 54 = .ok (.aload_n 0, 1) := by decide +kernel
theorem dX0_endWait_55 : decode cX0_endWait 55 = .ok (.getfield 10, 3) := by decide +kernel
theorem dX0_endWait_58 : decode cX0_endWait 58 = .ok (.getfield 105, 3) := by decide +kernel
theorem dX0_endWait_61 : decode cX0_endWait 61 = .ok (.iastore, 1) := by decide +kernel
theorem dX0_endWait_62 : decode cX0_endWait 62 = .ok (.return_, 1) := by decide +kernel
set_option maxRecDepth 20000 in
theorem ggX0_beginAct_X6_slaveAt : GoodIn wsX0_beginAct wsX6_slaveAt := goodIn_r _ [14, 15, 16, 17, 18, 13, 19, 20, 21, 80, 81, 82, 83, 84, 85, 86, 87, 88, 89, 90, 91, 92] (by decide +kernel) (by decide +kernel)
set_option maxRecDepth 20000 in
theorem gX0_beginAct_X6_slaveAt : GoodIn wsX0_beginAct (wsV RX0 95 RX6 yX6_slaveAt wsX6_slaveAt) := goodIn_app (goodIn_of _ (by decide +kernel)) ggX0_beginAct_X6_slaveAt
set_option maxRecDepth 20000 in
theorem ggX0_beginAct_X2_aim : GoodIn wsX0_beginAct wsX2_aim := goodIn_r _ [26, 27, 28, 29, 30, 31, 93, 94, 95, 96, 97, 98, 99, 100, 101, 102, 103, 104, 105, 106] (by decide +kernel) (by decide +kernel)
set_option maxRecDepth 20000 in
theorem gX0_beginAct_X2_aim : GoodIn wsX0_beginAct (wsV RX0 108 RX2 yX2_aim wsX2_aim) := goodIn_app (goodIn_of _ (by decide +kernel)) ggX0_beginAct_X2_aim
set_option maxRecDepth 20000 in
theorem ggX0_beginAct_X2_begin : GoodIn wsX0_beginAct wsX2_begin := goodIn_r _ [35, 36, 37, 38, 27, 28, 29, 30, 39, 40, 31, 41, 42, 43, 44, 45, 46, 47, 48, 49, 50, 51, 52, 53, 54, 55, 56, 57, 58, 59, 60, 61, 62, 63, 64, 65, 93, 94, 95, 96, 97, 98, 99, 100, 101, 102, 103, 104, 105, 106, 107, 108, 109, 110, 111, 112, 113, 114, 115, 116] (by decide +kernel) (by decide +kernel)
set_option maxRecDepth 20000 in
theorem gX0_beginAct_X2_begin : GoodIn wsX0_beginAct (wsV RX0 112 RX2 yX2_begin wsX2_begin) := goodIn_app (goodIn_of _ (by decide +kernel)) ggX0_beginAct_X2_begin
set_option maxRecDepth 20000 in
theorem ggX0_beginAct_X0_dropFirstPosted : GoodIn wsX0_beginAct wsX0_dropFirstPosted := goodIn_r _ [70, 1, 3, 4, 71, 72, 73, 74, 75, 76, 77, 78, 79] (by decide +kernel) (by decide +kernel)
set_option maxRecDepth 20000 in
theorem gX0_beginAct_X0_dropFirstPosted : GoodIn wsX0_beginAct (wsV RX0 116 RX0 yX0_dropFirstPosted wsX0_dropFirstPosted) := goodIn_app (goodIn_of _ (by decide +kernel)) ggX0_beginAct_X0_dropFirstPosted
theorem dX0_beginAct_0 : decode cX0_beginAct 0 = .ok (.aload_n 0, 1) := by decide +kernel
theorem dX0_beginAct_1 : decode cX0_beginAct 1 = .ok (.getfield 28, 3) := by decide +kernel
theorem dX0_beginAct_4 : decode cX0_beginAct 4 = .ok (.ifCond .le 50, 3) := by decide +kernel
theorem dX0_beginAct_7 : decode cX0_beginAct 7 = .ok (.aload_n 0, 1) := by decide +kernel
theorem dX0_beginAct_8 : decode cX0_beginAct 8 = .ok (.getfield 10, 3) := by decide +kernel
theorem dX0_beginAct_11 : decode cX0_beginAct 11 = .ok (.aload_n 1, 1) := by decide +kernel
theorem dX0_beginAct_12 : decode cX0_beginAct 12 = .ok (.aload_n 0, 1) := by decide +kernel
theorem dX0_beginAct_13 : decode cX0_beginAct 13 = .ok (.getfield 18, 3) := by decide +kernel
theorem dX0_beginAct_16 : decode cX0_beginAct 16 = .ok (.iconst 0, 1) := by decide +kernel
theorem dX0_beginAct_17 : decode cX0_beginAct 17 = .ok (.iaload, 1) := by decide +kernel
theorem dX0_beginAct_18 : decode cX0_beginAct 18 = .ok (.invokevirtual 95, 3) := by decide +kernel
theorem dX0_beginAct_21 : decode cX0_beginAct 21 = .ok (.aload_n 0, 1) := by decide +kernel
theorem dX0_beginAct_22 : decode cX0_beginAct 22 = .ok (.getfield 18, 3) := by decide +kernel
theorem dX0_beginAct_25 : decode cX0_beginAct 25 = .ok (.iconst 0, 1) := by decide +kernel
theorem dX0_beginAct_26 : decode cX0_beginAct 26 = .ok (.iaload, 1) := by decide +kernel
theorem dX0_beginAct_27 : decode cX0_beginAct 27 = .ok (.iconst 1, 1) := by decide +kernel
theorem dX0_beginAct_28 : decode cX0_beginAct 28 = .ok (.aload_n 0, 1) := by decide +kernel
theorem dX0_beginAct_29 : decode cX0_beginAct 29 = .ok (.getfield 22, 3) := by decide +kernel
theorem dX0_beginAct_32 : decode cX0_beginAct 32 = .ok (.iconst 0, 1) := by decide +kernel
theorem dX0_beginAct_33 : decode cX0_beginAct 33 = .ok (.iaload, 1) := by decide +kernel
theorem dX0_beginAct_34 : decode cX0_beginAct 34 = .ok (.iconst 1, 1) := by decide +kernel
theorem dX0_beginAct_35 : decode cX0_beginAct 35 = .ok (.invokevirtual 108, 3) := by decide +kernel
theorem dX0_beginAct_38 : decode cX0_beginAct 38 = .ok (.aload_n 0, 1) := by decide +kernel
theorem dX0_beginAct_39 : decode cX0_beginAct 39 = .ok (.getfield 10, 3) := by decide +kernel
theorem dX0_beginAct_42 : decode cX0_beginAct 42 = .ok (.aload_n 2, 1) := by decide +kernel
theorem dX0_beginAct_43 : decode cX0_beginAct 43 = .ok (.iload_n 3, 1) := by decide +kernel
theorem dX0_beginAct_44 : decode cX0_beginAct 44 = .ok (.invokevirtual 112, 3) := by decide +kernel
theorem dX0_beginAct_47 : decode cX0_beginAct 47 = .ok (.aload_n 0, 1) := by decide +kernel
theorem dX0_beginAct_48 : decode cX0_beginAct 48 = .ok (.invokevirtual 116, 3) := by decide +kernel
theorem dX0_beginAct_51 : decode cX0_beginAct 51 = .ok (.goto 60, 3) := by decide +kernel
theorem dX0_beginAct_54 : decode cX0_beginAct 54 = .ok (.aload_n 0, 1) := by decide +kernel
theorem dX0_beginAct_55 : decode cX0_beginAct 55 = .ok (.getfield 32, 3) := by decide +kernel
theorem dX0_beginAct_58 : decode cX0_beginAct 58 = .ok (.iconst 3, 1) := by decide +kernel
theorem dX0_beginAct_59 : decode cX0_beginAct 59 = .ok (.if_icmp .ne 52, 3) := by decide +kernel
theorem dX0_beginAct_62 : decode cX0_beginAct 62 = .ok (.aload_n 0, 1) := by decide +kernel
theorem dX0_beginAct_63 : decode cX0_beginAct 63 = .ok (.getfield 44, 3) := by decide +kernel
theorem dX0_beginAct_66 : decode cX0_beginAct 66 = .ok (.ifCond .ne 45, 3) := by decide +kernel
theorem dX0_beginAct_69 : decode cX0_beginAct 69 = .ok (.aload_n 0, 1) := by decide +kernel
theorem dX0_beginAct_70 : decode cX0_beginAct 70 = .ok (.getfield 10, 3) := by decide +kernel
theorem dX0_beginAct_73 : decode cX0_beginAct 73 = .ok (.aload_n 1, 1) := by decide +kernel
theorem dX0_beginAct_74 : decode cX0_beginAct 74 = .ok (.aload_n 0, 1) := by decide +kernel
theorem dX0_beginAct_75 : decode cX0_beginAct 75 = .ok (.getfield 35, 3) := by decide +kernel
theorem dX0_beginAct_78 : decode cX0_beginAct 78 = .ok (.invokevirtual 95, 3) := by decide +kernel
theorem dX0_beginAct_81 : decode cX0_beginAct 81 = .ok (.aload_n 0, 1) := by decide +kernel
theorem dX0_beginAct_82 : decode cX0_beginAct 82 = .ok (.getfield 35, 3) := by decide +kernel
theorem dX0_beginAct_85 : decode cX0_beginAct 85 = .ok (.aload_n 0, 1) := by decide +kernel
theorem dX0_beginAct_86 : decode cX0_beginAct 86 = .ok (.getfield 38, 3) := by decide +kernel
theorem dX0_beginAct_89 : decode cX0_beginAct 89 = .ok (.aload_n 0, 1) := by decide +kernel
theorem dX0_beginAct_90 : decode cX0_beginAct 90 = .ok (.getfield 41, 3) := by decide +kernel
theorem dX0_beginAct_93 : decode cX0_beginAct 93 = .ok (.iconst 0, 1) := by decide +kernel
theorem dX0_beginAct_94 : decode cX0_beginAct 94 = .ok (.invokevirtual 108, 3) := by decide +kernel
theorem dX0_beginAct_97 : decode cX0_beginAct 97 = .ok (.aload_n 0, 1) := by decide +kernel
theorem dX0_beginAct_98 : decode cX0_beginAct 98 = .ok (.getfield 10, 3) := by decide +kernel
theorem dX0_beginAct_101 : decode cX0_beginAct 101 = .ok (.aload_n 2, 1) := by decide +kernel
theorem dX0_beginAct_102 : decode cX0_beginAct 102 = .ok (.iload_n 3, 1) := by decide +kernel
theorem dX0_beginAct_103 : decode cX0_beginAct 103 = .ok (.invokevirtual 112, 3) := by decide +kernel
theorem dX0_beginAct_106 : decode cX0_beginAct 106 = .ok (.aload_n 0, 1) := by decide +kernel
theorem dX0_beginAct_107 : decode cX0_beginAct 107 = .ok (.iconst 1, 1) := by decide +kernel
theorem dX0_beginAct_108 : decode cX0_beginAct 108 = .ok (.putfield 44, 3) := by decide +kernel
theorem dX0_beginAct_111 : decode cX0_beginAct 111 = .ok (.return_, 1) := by decide +kernel
theorem dX0_dropFirstPosted_0 : decode cX0_dropFirstPosted 0 = .ok (.aload_n 0, 1) := by decide +kernel
theorem dX0_dropFirstPosted_1 : decode cX0_dropFirstPosted 1 = .ok (.dup, 1) := by decide +kernel
theorem dX0_dropFirstPosted_2 : decode cX0_dropFirstPosted 2 = .ok (.getfield 28, 3) := by decide +kernel
theorem dX0_dropFirstPosted_5 : decode cX0_dropFirstPosted 5 = .ok (.iconst 1, 1) := by decide +kernel
theorem dX0_dropFirstPosted_6 : decode cX0_dropFirstPosted 6 = .ok (.isub, 1) := by decide +kernel
theorem dX0_dropFirstPosted_7 : decode cX0_dropFirstPosted 7 = .ok (.putfield 28, 3) := by decide +kernel
theorem dX0_dropFirstPosted_10 : decode cX0_dropFirstPosted 10 = .ok (.iconst 0, 1) := by decide +kernel
theorem dX0_dropFirstPosted_11 : decode cX0_dropFirstPosted 11 = .ok (.istore_n 1, 1) := by decide +kernel
theorem dX0_dropFirstPosted_12 : decode cX0_dropFirstPosted 12 = .ok (.iload_n 1, 1) := by decide +kernel
theorem dX0_dropFirstPosted_13 : decode cX0_dropFirstPosted 13 = .ok (.aload_n 0, 1) := by decide +kernel
theorem dX0_dropFirstPosted_14 : decode cX0_dropFirstPosted 14 = .ok (.getfield 28, 3) := by decide +kernel
theorem dX0_dropFirstPosted_17 : decode cX0_dropFirstPosted 17 = .ok (.if_icmp .ge 37, 3) := by decide +kernel
theorem dX0_dropFirstPosted_20 : decode cX0_dropFirstPosted 20 = .ok (.aload_n 0, 1) := by decide +kernel
theorem dX0_dropFirstPosted_21 : decode cX0_dropFirstPosted 21 = .ok (.getfield 18, 3) := by decide +kernel
theorem dX0_dropFirstPosted_24 : decode cX0_dropFirstPosted 24 = .ok (.iload_n 1, 1) := by decide +kernel
theorem dX0_dropFirstPosted_25 : decode cX0_dropFirstPosted 25 = .ok (.aload_n 0, 1) := by decide +kernel
theorem dX0_dropFirstPosted_26 : decode cX0_dropFirstPosted 26 = .ok (.getfield 18, 3) := by decide +kernel
theorem dX0_dropFirstPosted_29 : decode cX0_dropFirstPosted 29 = .ok (.iload_n 1, 1) := by decide +kernel
theorem dX0_dropFirstPosted_30 : decode cX0_dropFirstPosted 30 = .ok (.iconst 1, 1) := by decide +kernel
theorem dX0_dropFirstPosted_31 : decode cX0_dropFirstPosted 31 = .ok (.iadd, 1) := by decide +kernel
theorem dX0_dropFirstPosted_32 : decode cX0_dropFirstPosted 32 = .ok (.iaload, 1) := by decide +kernel
theorem dX0_dropFirstPosted_33 : decode cX0_dropFirstPosted 33 = .ok (.iastore, 1) := by decide +kernel
theorem dX0_dropFirstPosted_34 : decode cX0_dropFirstPosted 34 = .ok (.aload_n 0, 1) := by decide +kernel
theorem dX0_dropFirstPosted_35 : decode cX0_dropFirstPosted 35 = .ok (.getfield 22, 3) := by decide +kernel
theorem dX0_dropFirstPosted_38 : decode cX0_dropFirstPosted 38 = .ok (.iload_n 1, 1) := by decide +kernel
theorem dX0_dropFirstPosted_39 : decode cX0_dropFirstPosted 39 = .ok (.aload_n 0, 1) := by decide +kernel
theorem dX0_dropFirstPosted_40 : decode cX0_dropFirstPosted 40 = .ok (.getfield 22, 3) := by decide +kernel
theorem dX0_dropFirstPosted_43 : decode cX0_dropFirstPosted 43 = .ok (.iload_n 1, 1) := by decide +kernel
theorem dX0_dropFirstPosted_44 : decode cX0_dropFirstPosted 44 = .ok (.iconst 1, 1) := by decide +kernel
theorem dX0_dropFirstPosted_45 : decode cX0_dropFirstPosted 45 = .ok (.iadd, 1) := by decide +kernel
theorem dX0_dropFirstPosted_46 : decode cX0_dropFirstPosted 46 = .ok (.iaload, 1) := by decide +kernel
theorem dX0_dropFirstPosted_47 : decode cX0_dropFirstPosted 47 = .ok (.iastore, 1) := by decide +kernel
theorem dX0_dropFirstPosted_48 : decode cX0_dropFirstPosted 48 = .ok (.iinc 1 1, 3) := by decide +kernel
theorem dX0_dropFirstPosted_51 : decode cX0_dropFirstPosted 51 = .ok (.goto (-39), 3) := by decide +kernel
theorem dX0_dropFirstPosted_54 : decode cX0_dropFirstPosted 54 = .ok (.return_, 1) := by decide +kernel
theorem dX1_init_0 : decode cX1_init 0 = .ok (.aload_n 0, 1) := by decide +kernel
theorem dX1_init_1 : decode cX1_init 1 = .ok (.invokespecial 1, 3) := by decide +kernel
theorem dX1_init_4 : decode cX1_init 4 = .ok (.aload_n 0, 1) := by decide +kernel
theorem dX1_init_5 : decode cX1_init 5 = .ok (.bipush 48, 2) := by decide +kernel
theorem dX1_init_7 : decode cX1_init 7 = .ok (.newarray .int, 2) := by decide +kernel
theorem dX1_init_9 : decode cX1_init 9 = .ok (.putfield 9, 3) := by decide +kernel
theorem dX1_init_12 : decode cX1_init 12 = .ok (.aload_n 0, 1) := by decide +kernel
theorem dX1_init_13 : decode cX1_init 13 = .ok (.bipush 48, 2) := by decide +kernel
theorem dX1_init_15 : decode cX1_init 15 = .ok (.newarray .int, 2) := by decide +kernel
theorem dX1_init_17 : decode cX1_init 17 = .ok (.putfield 15, 3) := by decide +kernel
theorem dX1_init_20 : decode cX1_init 20 = .ok (.aload_n 0, 1) := by decide +kernel
theorem dX1_init_21 : decode cX1_init 21 = .ok (.iconst (-1), 1) := by decide +kernel
theorem dX1_init_22 : decode cX1_init 22 = .ok (.putfield 18, 3) := by decide +kernel
theorem dX1_init_25 : decode cX1_init 25 = .ok (.return_, 1) := by decide +kernel
set_option maxRecDepth 20000 in
theorem ggX1_clear_J7_fill_53178 : GoodIn wsX1_clear wsJ7_fill_53178 := goodIn_r _ [12] (by decide +kernel) (by decide +kernel)
set_option maxRecDepth 20000 in
theorem gX1_clear_J7_fill_53178 : GoodIn wsX1_clear (va_wsS RX1 31 yJ7_fill_53178 wsJ7_fill_53178) := goodIn_app (goodIn_of _ (by decide +kernel)) ggX1_clear_J7_fill_53178
theorem dX1_clear_0 : decode cX1_clear 0 = .ok (.aload_n 1, 1) := by decide +kernel
theorem dX1_clear_1 : decode cX1_clear 1 = .ok (.getfield 22, 3) := by decide +kernel
theorem dX1_clear_4 : decode cX1_clear 4 = .ok (.iconst 0, 1) := by decide +kernel
theorem dX1_clear_5 : decode cX1_clear 5 = .ok (.aload_n 0, 1) := by decide +kernel
theorem dX1_clear_6 : decode cX1_clear 6 = .ok (.getfield 9, 3) := by decide +kernel
theorem dX1_clear_9 : decode cX1_clear 9 = .ok (.iconst 0, 1) := by decide +kernel
theorem dX1_clear_10 : decode cX1_clear 10 = .ok (.aload_n 0, 1) := by decide +kernel
theorem dX1_clear_11 : decode cX1_clear 11 = .ok (.getfield 9, 3) := by decide +kernel
theorem dX1_clear_14 : decode cX1_clear 14 = .ok (.arraylength, 1) := by decide +kernel
theorem dX1_clear_15 : decode cX1_clear 15 = .ok (.invokestatic 25, 3) := by decide +kernel
theorem dX1_clear_18 : decode cX1_clear 18 = .ok (.aload_n 0, 1) := by decide +kernel
theorem dX1_clear_19 : decode cX1_clear 19 = .ok (.getfield 15, 3) := by decide +kernel
theorem dX1_clear_22 : decode cX1_clear 22 = .ok (.iconst 0, 1) := by decide +kernel
theorem dX1_clear_23 : decode cX1_clear 23 = .ok (.invokestatic 31, 3) := by decide +kernel
theorem dX1_clear_26 : decode cX1_clear 26 = .ok (.aload_n 0, 1) := by decide +kernel
theorem dX1_clear_27 : decode cX1_clear 27 = .ok (.iconst (-1), 1) := by decide +kernel
theorem dX1_clear_28 : decode cX1_clear 28 = .ok (.putfield 18, 3) := by decide +kernel
theorem dX1_clear_31 : decode cX1_clear 31 = .ok (.return_, 1) := by decide +kernel
theorem dX1_copyFrom_0 : decode cX1_copyFrom 0 = .ok (.aload_n 1, 1) := by decide +kernel
theorem dX1_copyFrom_1 : decode cX1_copyFrom 1 = .ok (.getfield 9, 3) := by decide +kernel
theorem dX1_copyFrom_4 : decode cX1_copyFrom 4 = .ok (.iconst 0, 1) := by decide +kernel
theorem dX1_copyFrom_5 : decode cX1_copyFrom 5 = .ok (.aload_n 0, 1) := by decide +kernel
theorem dX1_copyFrom_6 : decode cX1_copyFrom 6 = .ok (.getfield 9, 3) := by decide +kernel
theorem dX1_copyFrom_9 : decode cX1_copyFrom 9 = .ok (.iconst 0, 1) := by decide +kernel
theorem dX1_copyFrom_10 : decode cX1_copyFrom 10 = .ok (.aload_n 0, 1) := by decide +kernel
theorem dX1_copyFrom_11 : decode cX1_copyFrom 11 = .ok (.getfield 9, 3) := by decide +kernel
theorem dX1_copyFrom_14 : decode cX1_copyFrom 14 = .ok (.arraylength, 1) := by decide +kernel
theorem dX1_copyFrom_15 : decode cX1_copyFrom 15 = .ok (.invokestatic 25, 3) := by decide +kernel
theorem dX1_copyFrom_18 : decode cX1_copyFrom 18 = .ok (.aload_n 1, 1) := by decide +kernel
theorem dX1_copyFrom_19 : decode cX1_copyFrom 19 = .ok (.getfield 15, 3) := by decide +kernel
theorem dX1_copyFrom_22 : decode cX1_copyFrom 22 = .ok (.iconst 0, 1) := by decide +kernel
theorem dX1_copyFrom_23 : decode cX1_copyFrom 23 = .ok (.aload_n 0, 1) := by decide +kernel
theorem dX1_copyFrom_24 : decode cX1_copyFrom 24 = .ok (.getfield 15, 3) := by decide +kernel
theorem dX1_copyFrom_27 : decode cX1_copyFrom 27 = .ok (.iconst 0, 1) := by decide +kernel
theorem dX1_copyFrom_28 : decode cX1_copyFrom 28 = .ok (.aload_n 0, 1) := by decide +kernel
theorem dX1_copyFrom_29 : decode cX1_copyFrom 29 = .ok (.getfield 15, 3) := by decide +kernel
theorem dX1_copyFrom_32 : decode cX1_copyFrom 32 = .ok (.arraylength, 1) := by decide +kernel
theorem dX1_copyFrom_33 : decode cX1_copyFrom 33 = .ok (.invokestatic 25, 3) := by decide +kernel
theorem dX1_copyFrom_36 : decode cX1_copyFrom 36 = .ok (.aload_n 0, 1) := by decide +kernel
theorem dX1_copyFrom_37 : decode cX1_copyFrom 37 = .ok (.aload_n 1, 1) := by decide +kernel
theorem dX1_copyFrom_38 : decode cX1_copyFrom 38 = .ok (.getfield 18, 3) := by decide +kernel
theorem dX1_copyFrom_41 : decode cX1_copyFrom 41 = .ok (.putfield 18, 3) := by decide +kernel
theorem dX1_copyFrom_44 : decode cX1_copyFrom 44 = .ok (.return_, 1) := by decide +kernel
set_option maxRecDepth 20000 in
theorem ggX1_read_X6_registerOf : GoodIn wsX1_read wsX6_registerOf := goodIn_r _ [7, 8, 9, 10, 14, 15, 16, 17, 18, 19, 20, 21, 22, 23, 24, 25, 26] (by decide +kernel) (by decide +kernel)
set_option maxRecDepth 20000 in
theorem gX1_read_X6_registerOf : GoodIn wsX1_read (wsV RX1 37 RX6 yX6_registerOf wsX6_registerOf) := goodIn_app (goodIn_of _ (by decide +kernel)) ggX1_read_X6_registerOf
theorem dX1_read_0 : decode cX1_read 0 = .ok (.aload_n 1, 1) := by decide +kernel
theorem dX1_read_1 : decode cX1_read 1 = .ok (.iload_n 2, 1) := by decide +kernel
theorem dX1_read_2 : decode cX1_read 2 = .ok (.iload_n 3, 1) := by decide +kernel
theorem dX1_read_3 : decode cX1_read 3 = .ok (.invokevirtual 37, 3) := by decide +kernel
theorem dX1_read_6 : decode cX1_read 6 = .ok (.istore 4, 2) := by decide +kernel
theorem dX1_read_8 : decode cX1_read 8 = .ok (.iload 4, 2) := by decide +kernel
theorem dX1_read_10 : decode cX1_read 10 = .ok (.ifCond .ge 5, 3) := by decide +kernel
theorem dX1_read_13 : decode cX1_read 13 = .ok (.iconst 0, 1) := by decide +kernel
theorem dX1_read_14 : decode cX1_read 14 = .ok (.ireturn, 1) := by decide +kernel
theorem dX1_read_15 : decode cX1_read 15 = .ok (.aload_n 0, 1) := by decide +kernel
theorem dX1_read_16 : decode cX1_read 16 = .ok (.getfield 9, 3) := by decide +kernel
theorem dX1_read_19 : decode cX1_read 19 = .ok (.iload 4, 2) := by decide +kernel
theorem dX1_read_21 : decode cX1_read 21 = .ok (.iaload, 1) := by decide +kernel
theorem dX1_read_22 : decode cX1_read 22 = .ok (.istore 5, 2) := by decide +kernel
theorem dX1_read_24 : decode cX1_read 24 = .ok (.aload_n 1, 1) := by decide +kernel
theorem dX1_read_25 : decode cX1_read 25 = .ok (.getfield 41, 3) := by decide +kernel
theorem dX1_read_28 : decode cX1_read 28 = .ok (.iload 4, 2) := by decide +kernel
theorem dX1_read_30 : decode cX1_read 30 = .ok (.iaload, 1) := by decide +kernel
theorem dX1_read_31 : decode cX1_read 31 = .ok (.bipush 6, 2) := by decide +kernel
theorem dX1_read_33 : decode cX1_read 33 = .ok (.if_icmp .ne 11, 3) := by decide +kernel
theorem dX1_read_36 : decode cX1_read 36 = .ok (.aload_n 0, 1) := by decide +kernel
theorem dX1_read_37 : decode cX1_read 37 = .ok (.getfield 9, 3) := by decide +kernel
theorem dX1_read_40 : decode cX1_read 40 = .ok (.iload 4, 2) := by decide +kernel
theorem dX1_read_42 : decode cX1_read 42 = .ok (.iconst 0, 1) := by decide +kernel
theorem dX1_read_43 : decode cX1_read 43 = .ok (.iastore, 1) := by decide +kernel
theorem dX1_read_44 : decode cX1_read 44 = .ok (.iload 5, 2) := by decide +kernel
theorem dX1_read_46 : decode cX1_read 46 = .ok (.ireturn, 1) := by decide +kernel
set_option maxRecDepth 20000 in
theorem ggX1_write_X6_registerOf : GoodIn wsX1_write wsX6_registerOf := goodIn_r _ [9, 10, 11, 12, 23, 24, 25, 26, 27, 28, 29, 30, 31, 32, 33, 34, 35] (by decide +kernel) (by decide +kernel)
set_option maxRecDepth 20000 in
theorem gX1_write_X6_registerOf : GoodIn wsX1_write (wsV RX1 37 RX6 yX6_registerOf wsX6_registerOf) := goodIn_app (goodIn_of _ (by decide +kernel)) ggX1_write_X6_registerOf
set_option maxRecDepth 20000 in
theorem ggX1_write_X1_isGuarded : GoodIn wsX1_write wsX1_isGuarded := goodIn_r _ [17, 18, 1, 2, 19, 23, 24, 25, 26, 27, 28, 29, 30, 31, 32, 33, 34, 35, 36, 37, 38] (by decide +kernel) (by decide +kernel)
set_option maxRecDepth 20000 in
theorem gX1_write_X1_isGuarded : GoodIn wsX1_write (wsV RX1 44 RX1 yX1_isGuarded wsX1_isGuarded) := goodIn_app (goodIn_of _ (by decide +kernel)) ggX1_write_X1_isGuarded
set_option maxRecDepth 20000 in
theorem ggX1_write_X6_isGuardValue : GoodIn wsX1_write wsX6_isGuardValue := goodIn_r _ [22] (by decide +kernel) (by decide +kernel)
set_option maxRecDepth 20000 in
theorem gX1_write_X6_isGuardValue : GoodIn wsX1_write (va_wsS RX1 48 yX6_isGuardValue wsX6_isGuardValue) := goodIn_app (goodIn_of _ (by decide +kernel)) ggX1_write_X6_isGuardValue
theorem dX1_write_0 : decode cX1_write 0 = .ok (.aload_n 1, 1) := by decide +kernel
theorem dX1_write_1 : decode cX1_write 1 = .ok (.iload_n 2, 1) := by decide +kernel
theorem dX1_write_2 : decode cX1_write 2 = .ok (.iload_n 3, 1) := by decide +kernel
theorem dX1_write_3 : decode cX1_write 3 = .ok (.invokevirtual 37, 3) := by decide +kernel
theorem dX1_write_6 : decode cX1_write 6 = .ok (.istore 5, 2) := by decide +kernel
theorem dX1_write_8 : decode cX1_write 8 = .ok (.iload 5, 2) := by decide +kernel
theorem dX1_write_10 : decode cX1_write 10 = .ok (.ifCond .lt 13, 3) := by decide +kernel
theorem dX1_write_13 : decode cX1_write 13 = .ok (.aload_n 0, 1) := by decide +kernel
theorem dX1_write_14 : decode cX1_write 14 = .ok (.aload_n 1, 1) := by decide +kernel
theorem dX1_write_15 : decode cX1_write 15 = .ok (.iload 5, 2) := by decide +kernel
theorem dX1_write_17 : decode cX1_write 17 = .ok (.invokevirtual 44, 3) := by decide +kernel
theorem dX1_write_20 : decode cX1_write 20 = .ok (.ifCond .eq 5, 3) := by decide +kernel
theorem dX1_write_23 : decode cX1_write 23 = .ok (.iconst 0, 1) := by decide +kernel
theorem dX1_write_24 : decode cX1_write 24 = .ok (.ireturn, 1) := by decide +kernel
theorem dX1_write_25 : decode cX1_write 25 = .ok (.aload_n 1, 1) := by decide +kernel
theorem dX1_write_26 : decode cX1_write 26 = .ok (.getfield 41, 3) := by decide +kernel
theorem dX1_write_29 : decode cX1_write 29 = .ok (.iload 5, 2) := by decide +kernel
theorem dX1_write_31 : decode cX1_write 31 = .ok (.iaload, 1) := by decide +kernel
theorem dX1_write_32 : decode cX1_write 32 = .ok (.tableswitch 151 1 7 #[44, 47, 62, 79, 97, 151, 129], 44) := by decide +kernel
theorem dX1_write_76 : decode cX1_write 76 = .ok (.goto 116, 3) := by decide +kernel
theorem dX1_write_79 : decode cX1_write 79 = .ok (.aload_n 0, 1) := by decide +kernel
theorem dX1_write_80 : decode cX1_write 80 = .ok (.getfield 9, 3) := by decide +kernel
theorem dX1_write_83 : decode cX1_write 83 = .ok (.iload 5, 2) := by decide +kernel
theorem dX1_write_85 : decode cX1_write 85 = .ok (.dup2, 1) := by decide +kernel
theorem dX1_write_86 : decode cX1_write 86 = .ok (.iaload, 1) := by decide +kernel
theorem dX1_write_87 : decode cX1_write 87 = .ok (.iload 4, 2) := by decide +kernel
theorem dX1_write_89 : decode cX1_write 89 = .ok (.ior, 1) := by decide +kernel
theorem dX1_write_90 : decode cX1_write 90 = .ok (.iastore, 1) := by decide +kernel
theorem dX1_write_91 : decode cX1_write 91 = .ok (.goto 101, 3) := by decide +kernel
theorem dX1_write_94 : decode cX1_write 94 = .ok (.aload_n 0, 1) := by decide +kernel
theorem dX1_write_95 : decode cX1_write 95 = .ok (.getfield 9, 3) := by decide +kernel
theorem dX1_write_98 : decode cX1_write 98 = .ok (.iload 5, 2) := by decide +kernel
theorem dX1_write_100 : decode cX1_write 100 = .ok (.dup2, 1) := by decide +kernel
theorem dX1_write_101 : decode cX1_write 101 = .ok (.iaload, 1) := by decide +kernel
theorem dX1_write_102 : decode cX1_write 102 = .ok (.iload 4, 2) := by decide +kernel
theorem dX1_write_104 : decode cX1_write 104 = .ok (.iconst (-1), 1) := by decide +kernel
theorem dX1_write_105 : decode cX1_write 105 = .ok (.ixor, 1) := by decide +kernel
theorem dX1_write_106 : decode cX1_write 106 = .ok (.iand, 1) := by decide +kernel
theorem dX1_write_107 : decode cX1_write 107 = .ok (.iastore, 1) := by decide +kernel
theorem dX1_write_108 : decode cX1_write 108 = .ok (.goto 84, 3) := by decide +kernel
theorem dX1_write_111 : decode cX1_write 111 = .ok (.aload_n 0, 1) := by decide +kernel
theorem dX1_write_112 : decode cX1_write 112 = .ok (.getfield 9, 3) := by decide +kernel
theorem dX1_write_115 : decode cX1_write 115 = .ok (.iload 5, 2) := by decide +kernel
theorem dX1_write_117 : decode cX1_write 117 = .ok (.iload 4, 2) := by decide +kernel
theorem dX1_write_119 : decode cX1_write 119 = .ok (.iastore, 1) := by decide +kernel
theorem dX1_write_120 : decode cX1_write 120 = .ok (.aload_n 0, 1) := by decide +kernel
theorem dX1_write_121 : decode cX1_write 121 = .ok (.iload 5, 2) := by decide +kernel
theorem dX1_write_123 : decode cX1_write 123 = .ok (.putfield 18, 3) := by decide +kernel
theorem dX1_write_126 : decode cX1_write 126 = .ok (.goto 66, 3) := by decide +kernel
theorem dX1_write_129 : decode cX1_write 129 = .ok (.aload_n 0, 1) := by decide +kernel
theorem dX1_write_130 : decode cX1_write 130 = .ok (.getfield 15, 3) := by decide +kernel
theorem dX1_write_133 : decode cX1_write 133 = .ok (.iload 5, 2) := by decide +kernel
theorem dX1_write_135 : decode cX1_write 135 = .ok (.iaload, 1) := by decide +kernel
theorem dX1_write_136 : decode cX1_write 136 = .ok (.ifCond .eq 5, 3) := by decide +kernel
theorem dX1_write_139 : decode cX1_write 139 = .ok (.iconst 0, 1) := by decide +kernel
theorem dX1_write_140 : decode cX1_write 140 = .ok (.ireturn, 1) := by decide +kernel
theorem dX1_write_141 : decode cX1_write 141 = .ok (.aload_n 0, 1) := by decide +kernel
theorem dX1_write_142 : decode cX1_write 142 = .ok (.getfield 9, 3) := by decide +kernel
theorem dX1_write_145 : decode cX1_write 145 = .ok (.iload 5, 2) := by decide +kernel
theorem dX1_write_147 : decode cX1_write 147 = .ok (.iload 4, 2) := by decide +kernel
theorem dX1_write_149 : decode cX1_write 149 = .ok (.iastore, 1) := by decide +kernel
theorem dX1_write_150 : decode cX1_write 150 = .ok (.aload_n 0, 1) := by decide +kernel
theorem dX1_write_151 : decode cX1_write 151 = .ok (.getfield 15, 3) := by decide +kernel
theorem dX1_write_154 : decode cX1_write 154 = .ok (.iload 5, 2) := by decide +kernel
theorem dX1_write_156 : decode cX1_write 156 = .ok (.iconst 1, 1) := by decide +kernel
theorem dX1_write_157 : decode cX1_write 157 = .ok (.iastore, 1) := by decide +kernel
theorem dX1_write_158 : decode cX1_write 158 = .ok (.goto 34, 3) := by decide +kernel
theorem dX1_write_161 : decode cX1_write 161 = .ok (.iload 4, 2) := by decide +kernel
theorem dX1_write_163 : decode cX1_write 163 = .ok (.invokestatic 48, 3) := by decide +kernel
theorem dX1_write_166 : decode cX1_write 166 = .ok (.ifCond .ne 5, 3) := by decide +kernel
theorem dX1_write_169 : decode cX1_write 169 = .ok (.iconst 0, 1) := by decide +kernel
theorem dX1_write_170 : decode cX1_write 170 = .ok (.ireturn, 1) := by decide +kernel
theorem dX1_write_171 : decode cX1_write 171 = .ok (.aload_n 0, 1) := by decide +kernel
theorem dX1_write_172 : decode cX1_write 172 = .ok (.getfield 9, 3) := by decide +kernel
theorem dX1_write_175 : decode cX1_write 175 = .ok (.iload 5, 2) := by decide +kernel
theorem dX1_write_177 : decode cX1_write 177 = .ok (.iload 4, 2) := by decide +kernel
theorem dX1_write_179 : decode cX1_write 179 = .ok (.iastore, 1) := by decide +kernel
theorem dX1_write_180 : decode cX1_write 180 = .ok (.goto 12, 3) := by decide +kernel
theorem dX1_write_183 : decode cX1_write 183 = .ok (.aload_n 0, 1) := by decide +kernel
theorem dX1_write_184 : decode cX1_write 184 = .ok (.getfield 9, 3) := by decide +kernel
theorem dX1_write_187 : decode cX1_write 187 = .ok (.iload 5, 2) := by decide +kernel
theorem dX1_write_189 : decode cX1_write 189 = .ok (.iload 4, 2) := by decide +kernel
theorem dX1_write_191 : decode cX1_write 191 = .ok (.iastore, 1) := by decide +kernel
theorem dX1_write_192 : decode cX1_write 192 = .ok (.iconst 1, 1) := by decide +kernel
theorem dX1_write_193 : decode cX1_write 193 = .ok (.ireturn, 1) := by decide +kernel
theorem dX1_isGuarded_0 : decode cX1_isGuarded 0 = .ok (.iconst 0, 1) := by decide +kernel
theorem dX1_isGuarded_1 : decode cX1_isGuarded 1 = .ok (.istore_n 3, 1) := by decide +kernel
theorem dX1_isGuarded_2 : decode cX1_isGuarded 2 = .ok (.iload_n 3, 1) := by decide +kernel
theorem dX1_isGuarded_3 : decode cX1_isGuarded 3 = .ok (.aload_n 1, 1) := by decide +kernel
theorem dX1_isGuarded_4 : decode cX1_isGuarded 4 = .ok (.getfield 52, 3) := by decide +kernel
theorem dX1_isGuarded_7 : decode cX1_isGuarded 7 = .ok (.if_icmp .ge 51, 3) := by decide +kernel
theorem dX1_isGuarded_10 : decode cX1_isGuarded 10 = .ok (.iload_n 3, 1) := by decide +kernel
theorem dX1_isGuarded_11 : decode cX1_isGuarded 11 = .ok (.iload_n 2, 1) := by decide +kernel
theorem dX1_isGuarded_12 : decode cX1_isGuarded 12 = .ok (.if_icmp .eq 40, 3) := by decide +kernel
theorem dX1_isGuarded_15 : decode cX1_isGuarded 15 = .ok (.aload_n 1, 1) := by decide +kernel
theorem dX1_isGuarded_16 : decode cX1_isGuarded 16 = .ok (.getfield 41, 3) := by decide +kernel
theorem dX1_isGuarded_19 : decode cX1_isGuarded 19 = .ok (.iload_n 3, 1) := by decide +kernel
theorem dX1_isGuarded_20 : decode cX1_isGuarded 20 = .ok (.iaload, 1) := by decide +kernel
theorem dX1_isGuarded_21 : decode cX1_isGuarded 21 = .ok (.bipush 7, 2) := by decide +kernel
theorem dX1_isGuarded_23 : decode cX1_isGuarded 23 = .ok (.if_icmp .ne 29, 3) := by decide +kernel
theorem dX1_isGuarded_26 : decode cX1_isGuarded 26 = .ok (.aload_n 0, 1) := by decide +kernel
theorem dX1_isGuarded_27 : decode cX1_isGuarded 27 = .ok (.getfield 9, 3) := by decide +kernel
theorem dX1_isGuarded_30 : decode cX1_isGuarded 30 = .ok (.iload_n 3, 1) := by decide +kernel
theorem dX1_isGuarded_31 : decode cX1_isGuarded 31 = .ok (.iaload, 1) := by decide +kernel
theorem dX1_isGuarded_32 : decode cX1_isGuarded 32 = .ok (.ifCond .eq 20, 3) := by decide +kernel
theorem dX1_isGuarded_35 : decode cX1_isGuarded 35 = .ok (.aload_n 1, 1) := by decide +kernel
theorem dX1_isGuarded_36 : decode cX1_isGuarded 36 = .ok (.getfield 55, 3) := by decide +kernel
theorem dX1_isGuarded_39 : decode cX1_isGuarded 39 = .ok (.iload_n 3, 1) := by decide +kernel
theorem dX1_isGuarded_40 : decode cX1_isGuarded 40 = .ok (.iaload, 1) := by decide +kernel
theorem dX1_isGuarded_41 : decode cX1_isGuarded 41 = .ok (.aload_n 1, 1) := by decide +kernel
theorem dX1_isGuarded_42 : decode cX1_isGuarded 42 = .ok (.getfield 55, 3) := by decide +kernel
theorem dX1_isGuarded_45 : decode cX1_isGuarded 45 = .ok (.iload_n 2, 1) := by decide +kernel
theorem dX1_isGuarded_46 : decode cX1_isGuarded 46 = .ok (.iaload, 1) := by decide +kernel
theorem dX1_isGuarded_47 : decode cX1_isGuarded 47 = .ok (.if_icmp .ne 5, 3) := by decide +kernel
theorem dX1_isGuarded_50 : decode cX1_isGuarded 50 = .ok (.iconst 1, 1) := by decide +kernel
theorem dX1_isGuarded_51 : decode cX1_isGuarded 51 = .ok (.ireturn, 1) := by decide +kernel
theorem dX1_isGuarded_52 : decode cX1_isGuarded 52 = .ok (.iinc 3 1, 3) := by decide +kernel
theorem dX1_isGuarded_55 : decode cX1_isGuarded 55 = .ok (.goto (-53), 3) := by decide +kernel
theorem dX1_isGuarded_58 : decode cX1_isGuarded 58 = .ok (.iconst 0, 1) := by decide +kernel
theorem dX1_isGuarded_59 : decode cX1_isGuarded 59 = .ok (.ireturn, 1) := by decide +kernel
theorem dX1_countUp_0 : decode cX1_countUp 0 = .ok (.iload_n 2, 1) := by decide +kernel
theorem dX1_countUp_1 : decode cX1_countUp 1 = .ok (.ifCond .gt 4, 3) := by decide +kernel
theorem dX1_countUp_4 : decode cX1_countUp 4 = .ok (.return_, 1) := by decide +kernel
theorem dX1_countUp_5 : decode cX1_countUp 5 = .ok (.iconst 0, 1) := by decide +kernel
theorem dX1_countUp_6 : decode cX1_countUp 6 = .ok (.istore_n 3, 1) := by decide +kernel
theorem dX1_countUp_7 : decode cX1_countUp 7 = .ok (.iload_n 3, 1) := by decide +kernel
theorem dX1_countUp_8 : decode cX1_countUp 8 = .ok (.aload_n 1, 1) := by decide +kernel
theorem dX1_countUp_9 : decode cX1_countUp 9 = .ok (.getfield 52, 3) := by decide +kernel
theorem dX1_countUp_12 : decode cX1_countUp 12 = .ok (.if_icmp .ge 43, 3) := by decide +kernel
theorem dX1_countUp_15 : decode cX1_countUp 15 = .ok (.aload_n 1, 1) := by decide +kernel
theorem dX1_countUp_16 : decode cX1_countUp 16 = .ok (.getfield 41, 3) := by decide +kernel
theorem dX1_countUp_19 : decode cX1_countUp 19 = .ok (.iload_n 3, 1) := by decide +kernel
theorem dX1_countUp_20 : decode cX1_countUp 20 = .ok (.iaload, 1) := by decide +kernel
theorem dX1_countUp_21 : decode cX1_countUp 21 = .ok (.iconst 4, 1) := by decide +kernel
theorem dX1_countUp_22 : decode cX1_countUp 22 = .ok (.if_icmp .ne 27, 3) := by decide +kernel
theorem dX1_countUp_25 : decode cX1_countUp 25 = .ok (.aload_n 0, 1) := by decide +kernel
theorem dX1_countUp_26 : decode cX1_countUp 26 = .ok (.getfield 9, 3) := by decide +kernel
theorem dX1_countUp_29 : decode cX1_countUp 29 = .ok (.iload_n 3, 1) := by decide +kernel
theorem dX1_countUp_30 : decode cX1_countUp 30 = .ok (.dup2, 1) := by decide +kernel
theorem dX1_countUp_31 : decode cX1_countUp 31 = .ok (.iaload, 1) := by decide +kernel
theorem dX1_countUp_32 : decode cX1_countUp 32 = .ok (.iload_n 3, 1) := by decide +kernel
theorem dX1_countUp_33 : decode cX1_countUp 33 = .ok (.aload_n 0, 1) := by decide +kernel
theorem dX1_countUp_34 : decode cX1_countUp 34 = .ok (.getfield 18, 3) := by decide +kernel
theorem dX1_countUp_37 : decode cX1_countUp 37 = .ok (.if_icmp .ne 9, 3) := by decide +kernel
theorem dX1_countUp_40 : decode cX1_countUp 40 = .ok (.iload_n 2, 1) := by decide +kernel
theorem dX1_countUp_41 : decode cX1_countUp 41 = .ok (.iconst 1, 1) := by decide +kernel
theorem dX1_countUp_42 : decode cX1_countUp 42 = .ok (.isub, 1) := by decide +kernel
theorem dX1_countUp_43 : decode cX1_countUp 43 = .ok (.goto 4, 3) := by decide +kernel
theorem dX1_countUp_46 : decode cX1_countUp 46 = .ok (.iload_n 2, 1) := by decide +kernel
theorem dX1_countUp_47 : decode cX1_countUp 47 = .ok (.iadd, 1) := by decide +kernel
theorem dX1_countUp_48 : decode cX1_countUp 48 = .ok (.iastore, 1) := by decide +kernel
theorem dX1_countUp_49 : decode cX1_countUp 49 = .ok (.iinc 3 1, 3) := by decide +kernel
theorem dX1_countUp_52 : decode cX1_countUp 52 = .ok (.goto (-45), 3) := by decide +kernel
theorem dX1_countUp_55 : decode cX1_countUp 55 = .ok (.aload_n 0, 1) := by decide +kernel
theorem dX1_countUp_56 : decode cX1_countUp 56 = .ok (.iconst (-1), 1) := by decide +kernel
theorem dX1_countUp_57 : decode cX1_countUp 57 = .ok (.putfield 18, 3) := by decide +kernel
theorem dX1_countUp_60 : decode cX1_countUp 60 = .ok (.return_, 1) := by decide +kernel
set_option maxRecDepth 20000 in
theorem ggX2_init_X8_init : GoodIn wsX2_init wsX8_init := goodIn_r _ [10, 11, 2, 3, 12, 13, 14, 15, 16, 17, 18, 19, 20, 21, 22, 23] (by decide +kernel) (by decide +kernel)
set_option maxRecDepth 20000 in
theorem gX2_init_X8_init : GoodIn wsX2_init (wsX8_init) := ggX2_init_X8_init
theorem dX2_init_0 : decode cX2_init 0 = .ok (.aload_n 0, 1) := by decide +kernel
theorem dX2_init_1 : decode cX2_init 1 = .ok (.invokespecial 3, 3) := by decide +kernel
theorem dX2_init_4 : decode cX2_init 4 = .ok (.aload_n 0, 1) := by decide +kernel
theorem dX2_init_5 : decode cX2_init 5 = .ok (.new 9, 3) := by decide +kernel
theorem dX2_init_8 : decode cX2_init 8 = .ok (.dup, 1) := by decide +kernel
theorem dX2_init_9 : decode cX2_init 9 = .ok (.sipush 200, 3) := by decide +kernel
theorem dX2_init_12 : decode cX2_init 12 = .ok (.bipush 8, 2) := by decide +kernel
theorem dX2_init_14 : decode cX2_init 14 = .ok (.invokespecial 13, 3) := by decide +kernel
theorem dX2_init_17 : decode cX2_init 17 = .ok (.putfield 16, 3) := by decide +kernel
theorem dX2_init_20 : decode cX2_init 20 = .ok (.return_, 1) := by decide +kernel
set_option maxRecDepth 20000 in
theorem ggX2_clear_X8_clear : GoodIn wsX2_clear wsX8_clear := goodIn_r _ [14, 15, 40, 41, 42, 43] (by decide +kernel) (by decide +kernel)
set_option maxRecDepth 20000 in
theorem gX2_clear_X8_clear : GoodIn wsX2_clear (wsV RX2 20 RX8 yX8_clear wsX8_clear) := goodIn_app (goodIn_of _ (by decide +kernel)) ggX2_clear_X8_clear
set_option maxRecDepth 20000 in
theorem ggX2_clear_X2_aim : GoodIn wsX2_clear wsX2_aim := goodIn_r _ [20, 21, 22, 23, 24, 25, 26, 27, 28, 29, 30, 31, 32, 33, 34, 35, 36, 37, 38, 39] (by decide +kernel) (by decide +kernel)
set_option maxRecDepth 20000 in
theorem gX2_clear_X2_aim : GoodIn wsX2_clear (wsV RX2 42 RX2 yX2_aim wsX2_aim) := goodIn_app (goodIn_of _ (by decide +kernel)) ggX2_clear_X2_aim
theorem dX2_clear_0 : decode cX2_clear 0 = .ok (.aload_n 0, 1) := by decide +kernel
theorem dX2_clear_1 : decode cX2_clear 1 = .ok (.getfield 16, 3) := by decide +kernel
theorem dX2_clear_4 : decode cX2_clear 4 = .ok (.invokevirtual 20, 3) := by decide +kernel
theorem dX2_clear_7 : decode cX2_clear 7 = .ok (.aload_n 0, 1) := by decide +kernel
theorem dX2_clear_8 : decode cX2_clear 8 = .ok (.iconst 0, 1) := by decide +kernel
theorem dX2_clear_9 : decode cX2_clear 9 = .ok (.putfield 23, 3) := by decide +kernel
theorem dX2_clear_12 : decode cX2_clear 12 = .ok (.aload_n 0, 1) := by decide +kernel
theorem dX2_clear_13 : decode cX2_clear 13 = .ok (.iconst 0, 1) := by decide +kernel
theorem dX2_clear_14 : decode cX2_clear 14 = .ok (.putfield 27, 3) := by decide +kernel
theorem dX2_clear_17 : decode cX2_clear 17 = .ok (.aload_n 0, 1) := by decide +kernel
theorem dX2_clear_18 : decode cX2_clear 18 = .ok (.iconst 0, 1) := by decide +kernel
theorem dX2_clear_19 : decode cX2_clear 19 = .ok (.putfield 30, 3) := by decide +kernel
theorem dX2_clear_22 : decode cX2_clear 22 = .ok (.aload_n 0, 1) := by decide +kernel
theorem dX2_clear_23 : decode cX2_clear 23 = .ok (.iconst 0, 1) := by decide +kernel
theorem dX2_clear_24 : decode cX2_clear 24 = .ok (.putfield 33, 3) := by decide +kernel
theorem dX2_clear_27 : decode cX2_clear 27 = .ok (.aload_n 0, 1) := by decide +kernel
theorem dX2_clear_28 : decode cX2_clear 28 = .ok (.iconst 0, 1) := by decide +kernel
theorem dX2_clear_29 : decode cX2_clear 29 = .ok (.putfield 36, 3) := by decide +kernel
theorem dX2_clear_32 : decode cX2_clear 32 = .ok (.aload_n 0, 1) := by decide +kernel
theorem dX2_clear_33 : decode cX2_clear 33 = .ok (.iconst 0, 1) := by decide +kernel
theorem dX2_clear_34 : decode cX2_clear 34 = .ok (.putfield 39, 3) := by decide +kernel
theorem dX2_clear_37 : decode cX2_clear 37 = .ok (.aload_n 0, 1) := by decide +kernel
theorem dX2_clear_38 : decode cX2_clear 38 = .ok (.iconst 0, 1) := by decide +kernel
theorem dX2_clear_39 : decode cX2_clear 39 = .ok (.iconst 0, 1) := by decide +kernel
theorem dX2_clear_40 : decode cX2_clear 40 = .ok (.iconst 0, 1) := by decide +kernel
theorem dX2_clear_41 : decode cX2_clear 41 = .ok (.iconst 0, 1) := by decide +kernel
theorem dX2_clear_42 : decode cX2_clear 42 = .ok (.iconst 0, 1) := by decide +kernel
theorem dX2_clear_43 : decode cX2_clear 43 = .ok (.invokevirtual 42, 3) := by decide +kernel
theorem dX2_clear_46 : decode cX2_clear 46 = .ok (.aload_n 0, 1) := by decide +kernel
theorem dX2_clear_47 : decode cX2_clear 47 = .ok (.iconst (-1), 1) := by decide +kernel
theorem dX2_clear_48 : decode cX2_clear 48 = .ok (.putfield 46, 3) := by decide +kernel
theorem dX2_clear_51 : decode cX2_clear 51 = .ok (.aload_n 0, 1) := by decide +kernel
theorem dX2_clear_52 : decode cX2_clear 52 = .ok (.iconst 0, 1) := by decide +kernel
theorem dX2_clear_53 : decode cX2_clear 53 = .ok (.putfield 49, 3) := by decide +kernel
theorem dX2_clear_56 : decode cX2_clear 56 = .ok (.return_, 1) := by decide +kernel
set_option maxRecDepth 20000 in
theorem ggX2_copyFrom_X8_copyFrom : GoodIn wsX2_copyFrom wsX8_copyFrom := goodIn_r _ [19, 20, 21, 22, 23, 24, 25, 26, 46, 47, 48, 49] (by decide +kernel) (by decide +kernel)
set_option maxRecDepth 20000 in
theorem gX2_copyFrom_X8_copyFrom : GoodIn wsX2_copyFrom (wsV RX2 52 RX8 yX8_copyFrom wsX8_copyFrom) := goodIn_app (goodIn_of _ (by decide +kernel)) ggX2_copyFrom_X8_copyFrom
set_option maxRecDepth 20000 in
theorem ggX2_copyFrom_X2_aim : GoodIn wsX2_copyFrom wsX2_aim := goodIn_r _ [31, 8, 9, 10, 11, 12, 32, 33, 34, 35, 36, 37, 38, 39, 40, 41, 42, 43, 44, 45] (by decide +kernel) (by decide +kernel)
set_option maxRecDepth 20000 in
theorem gX2_copyFrom_X2_aim : GoodIn wsX2_copyFrom (wsV RX2 42 RX2 yX2_aim wsX2_aim) := goodIn_app (goodIn_of _ (by decide +kernel)) ggX2_copyFrom_X2_aim
theorem dX2_copyFrom_0 : decode cX2_copyFrom 0 = .ok (.aload_n 0, 1) := by decide +kernel
theorem dX2_copyFrom_1 : decode cX2_copyFrom 1 = .ok (.getfield 16, 3) := by decide +kernel
theorem dX2_copyFrom_4 : decode cX2_copyFrom 4 = .ok (.aload_n 1, 1) := by decide +kernel
theorem dX2_copyFrom_5 : decode cX2_copyFrom 5 = .ok (.getfield 16, 3) := by decide +kernel
theorem dX2_copyFrom_8 : decode cX2_copyFrom 8 = .ok (.invokevirtual 52, 3) := by decide +kernel
theorem dX2_copyFrom_11 : decode cX2_copyFrom 11 = .ok (.aload_n 0, 1) := by decide +kernel
theorem dX2_copyFrom_12 : decode cX2_copyFrom 12 = .ok (.aload_n 1, 1) := by decide +kernel
theorem dX2_copyFrom_13 : decode cX2_copyFrom 13 = .ok (.getfield 23, 3) := by decide +kernel
theorem dX2_copyFrom_16 : decode cX2_copyFrom 16 = .ok (.putfield 23, 3) := by decide +kernel
theorem dX2_copyFrom_19 : decode cX2_copyFrom 19 = .ok (.aload_n 0, 1) := by decide +kernel
theorem dX2_copyFrom_20 : decode cX2_copyFrom 20 = .ok (.aload_n 1, 1) := by decide +kernel
theorem dX2_copyFrom_21 : decode cX2_copyFrom 21 = .ok (.getfield 27, 3) := by decide +kernel
theorem dX2_copyFrom_24 : decode cX2_copyFrom 24 = .ok (.putfield 27, 3) := by decide +kernel
theorem dX2_copyFrom_27 : decode cX2_copyFrom 27 = .ok (.aload_n 0, 1) := by decide +kernel
theorem dX2_copyFrom_28 : decode cX2_copyFrom 28 = .ok (.aload_n 1, 1) := by decide +kernel
theorem dX2_copyFrom_29 : decode cX2_copyFrom 29 = .ok (.getfield 30, 3) := by decide +kernel
theorem dX2_copyFrom_32 : decode cX2_copyFrom 32 = .ok (.putfield 30, 3) := by decide +kernel
theorem dX2_copyFrom_35 : decode cX2_copyFrom 35 = .ok (.aload_n 0, 1) := by decide +kernel
theorem dX2_copyFrom_36 : decode cX2_copyFrom 36 = .ok (.aload_n 1, 1) := by decide +kernel
theorem dX2_copyFrom_37 : decode cX2_copyFrom 37 = .ok (.getfield 33, 3) := by decide +kernel
theorem dX2_copyFrom_40 : decode cX2_copyFrom 40 = .ok (.putfield 33, 3) := by decide +kernel
theorem dX2_copyFrom_43 : decode cX2_copyFrom 43 = .ok (.aload_n 0, 1) := by decide +kernel
theorem dX2_copyFrom_44 : decode cX2_copyFrom 44 = .ok (.aload_n 1, 1) := by decide +kernel
theorem dX2_copyFrom_45 : decode cX2_copyFrom 45 = .ok (.getfield 36, 3) := by decide +kernel
theorem dX2_copyFrom_48 : decode cX2_copyFrom 48 = .ok (.putfield 36, 3) := by decide +kernel
theorem dX2_copyFrom_51 : decode cX2_copyFrom 51 = .ok (.aload_n 0, 1) := by decide +kernel
theorem dX2_copyFrom_52 : decode cX2_copyFrom 52 = .ok (.aload_n 1, 1) := by decide +kernel
theorem dX2_copyFrom_53 : decode cX2_copyFrom 53 = .ok (.getfield 39, 3) := by decide +kernel
theorem dX2_copyFrom_56 : decode cX2_copyFrom 56 = .ok (.putfield 39, 3) := by decide +kernel
theorem dX2_copyFrom_59 : decode cX2_copyFrom 59 = .ok (.aload_n 0, 1) := by decide +kernel
theorem dX2_copyFrom_60 : decode cX2_copyFrom 60 = .ok (.aload_n 1, 1) := by decide +kernel
theorem dX2_copyFrom_61 : decode cX2_copyFrom 61 = .ok (.getfield 56, 3) := by decide +kernel
theorem dX2_copyFrom_64 : decode cX2_copyFrom 64 = .ok (.aload_n 1, 1) := by decide +kernel
theorem dX2_copyFrom_65 : decode cX2_copyFrom 65 = .ok (.getfield 59, 3) := by decide +kernel
theorem dX2_copyFrom_68 : decode cX2_copyFrom 68 = .ok (.aload_n 1, 1) := by decide +kernel
theorem dX2_copyFrom_69 : decode cX2_copyFrom 69 = .ok (.getfield 62, 3) := by decide +kernel
theorem dX2_copyFrom_72 : decode cX2_copyFrom 72 = .ok (.aload_n 1, 1) := by decide +kernel
theorem dX2_copyFrom_73 : decode cX2_copyFrom 73 = .ok (.getfield 65, 3) := by decide +kernel
theorem dX2_copyFrom_76 : decode cX2_copyFrom 76 = .ok (.aload_n 1, 1) := by decide +kernel
theorem dX2_copyFrom_77 : decode cX2_copyFrom 77 = .ok (.getfield 68, 3) := by decide +kernel
theorem dX2_copyFrom_80 : decode cX2_copyFrom 80 = .ok (.invokevirtual 42, 3) := by decide +kernel
theorem dX2_copyFrom_83 : decode cX2_copyFrom 83 = .ok (.aload_n 0, 1) := by decide +kernel
theorem dX2_copyFrom_84 : decode cX2_copyFrom 84 = .ok (.aload_n 1, 1) := by decide +kernel
theorem dX2_copyFrom_85 : decode cX2_copyFrom 85 = .ok (.getfield 46, 3) := by decide +kernel
theorem dX2_copyFrom_88 : decode cX2_copyFrom 88 = .ok (.putfield 46, 3) := by decide +kernel
theorem dX2_copyFrom_91 : decode cX2_copyFrom 91 = .ok (.aload_n 0, 1) := by decide +kernel
theorem dX2_copyFrom_92 : decode cX2_copyFrom 92 = .ok (.aload_n 1, 1) := by decide +kernel
theorem dX2_copyFrom_93 : decode cX2_copyFrom 93 = .ok (.getfield 49, 3) := by decide +kernel
theorem dX2_copyFrom_96 : decode cX2_copyFrom 96 = .ok (.putfield 49, 3) := by decide +kernel
theorem dX2_copyFrom_99 : decode cX2_copyFrom 99 = .ok (.return_, 1) := by decide +kernel
set_option maxRecDepth 20000 in
theorem ggX2_pass_X2_end : GoodIn wsX2_pass wsX2_end := goodIn_r _ [12, 2, 1, 5, 13, 4, 14, 15, 16, 17, 18, 19, 20, 21, 22, 23, 24, 25, 26, 27, 28, 29, 30, 31, 32, 33, 34, 35, 36, 37, 38, 39, 40, 41, 42, 43, 44, 45, 46, 47, 48, 49, 50, 51, 52, 53, 54, 68, 69, 70, 71] (by decide +kernel) (by decide +kernel)
set_option maxRecDepth 20000 in
theorem gX2_pass_X2_end : GoodIn wsX2_pass (wsV RX2 80 RX2 yX2_end wsX2_end) := goodIn_app (goodIn_of _ (by decide +kernel)) ggX2_pass_X2_end
theorem dX2_pass_0 : decode cX2_pass 0 = .ok (.aload_n 0, 1) := by decide +kernel
theorem dX2_pass_1 : decode cX2_pass 1 = .ok (.iconst 0, 1) := by decide +kernel
theorem dX2_pass_2 : decode cX2_pass 2 = .ok (.putfield 27, 3) := by decide +kernel
theorem dX2_pass_5 : decode cX2_pass 5 = .ok (.aload_n 0, 1) := by decide +kernel
theorem dX2_pass_6 : decode cX2_pass 6 = .ok (.getfield 23, 3) := by decide +kernel
theorem dX2_pass_9 : decode cX2_pass 9 = .ok (.iconst 1, 1) := by decide +kernel
theorem dX2_pass_10 : decode cX2_pass 10 = .ok (.if_icmp .ne 24, 3) := by decide +kernel
theorem dX2_pass_13 : decode cX2_pass 13 = .ok (.aload_n 0, 1) := by decide +kernel
theorem dX2_pass_14 : decode cX2_pass 14 = .ok (.iconst 2, 1) := by decide +kernel
theorem dX2_pass_15 : decode cX2_pass 15 = .ok (.putfield 23, 3) := by decide +kernel
theorem dX2_pass_18 : decode cX2_pass 18 = .ok (.aload_n 0, 1) := by decide +kernel
theorem dX2_pass_19 : decode cX2_pass 19 = .ok (.iconst 0, 1) := by decide +kernel
theorem dX2_pass_20 : decode cX2_pass 20 = .ok (.putfield 49, 3) := by decide +kernel
theorem dX2_pass_23 : decode cX2_pass 23 = .ok (.aload_n 2, 1) := by decide +kernel
theorem dX2_pass_24 : decode cX2_pass 24 = .ok (.getfield 71, 3) := by decide +kernel
theorem dX2_pass_27 : decode cX2_pass 27 = .ok (.bipush 8, 2) := by decide +kernel
theorem dX2_pass_29 : decode cX2_pass 29 = .ok (.iconst 1, 1) := by decide +kernel
theorem dX2_pass_30 : decode cX2_pass 30 = .ok (.iastore, 1) := by decide +kernel
theorem dX2_pass_31 : decode cX2_pass 31 = .ok (.goto 83, 3) := by decide +kernel
theorem dX2_pass_34 : decode cX2_pass 34 = .ok (.aload_n 0, 1) := by decide +kernel
theorem dX2_pass_35 : decode cX2_pass 35 = .ok (.getfield 23, 3) := by decide +kernel
theorem dX2_pass_38 : decode cX2_pass 38 = .ok (.iconst 2, 1) := by decide +kernel
theorem dX2_pass_39 : decode cX2_pass 39 = .ok (.if_icmp .ne 75, 3) := by decide +kernel
theorem dX2_pass_42 : decode cX2_pass 42 = .ok (.aload_n 0, 1) := by decide +kernel
theorem dX2_pass_43 : decode cX2_pass 43 = .ok (.dup, 1) := by decide +kernel
theorem dX2_pass_44 : decode cX2_pass 44 = .ok (.getfield 49, 3) := by decide +kernel
theorem dX2_pass_47 : decode cX2_pass 47 = .ok (.iconst 1, 1) := by decide +kernel
theorem dX2_pass_48 : decode cX2_pass 48 = .ok (.iadd, 1) := by decide +kernel
theorem dX2_pass_49 : decode cX2_pass 49 = .ok (.putfield 49, 3) := by decide +kernel
theorem dX2_pass_52 : decode cX2_pass 52 = .ok (.aload_n 2, 1) := by decide +kernel
theorem dX2_pass_53 : decode cX2_pass 53 = .ok (.getfield 77, 3) := by decide +kernel
theorem dX2_pass_56 : decode cX2_pass 56 = .ok (.bipush 12, 2) := by decide +kernel
theorem dX2_pass_58 : decode cX2_pass 58 = .ok (.iaload, 1) := by decide +kernel
theorem dX2_pass_59 : decode cX2_pass 59 = .ok (.ifCond .eq 27, 3) := by decide +kernel
theorem dX2_pass_62 : decode cX2_pass 62 = .ok (.aload_n 0, 1) := by decide +kernel
theorem dX2_pass_63 : decode cX2_pass 63 = .ok (.aload_n 2, 1) := by decide +kernel
theorem dX2_pass_64 : decode cX2_pass 64 = .ok (.iload_n 3, 1) := by decide +kernel
theorem dX2_pass_65 : decode cX2_pass 65 = .ok (.aload_n 2, 1) := by decide +kernel
theorem dX2_pass_66 : decode cX2_pass 66 = .ok (.getfield 77, 3) := by decide +kernel
theorem dX2_pass_69 : decode cX2_pass 69 = .ok (.bipush 13, 2) := by decide +kernel
theorem dX2_pass_71 : decode cX2_pass 71 = .ok (.iaload, 1) := by decide +kernel
theorem dX2_pass_72 : decode cX2_pass 72 = .ok (.ifCond .eq 7, 3) := by decide +kernel
theorem dX2_pass_75 : decode cX2_pass 75 = .ok (.iconst 2, 1) := by decide +kernel
theorem dX2_pass_76 : decode cX2_pass 76 = .ok (.goto 4, 3) := by decide +kernel
theorem dX2_pass_79 : decode cX2_pass 79 = .ok (.iconst 1, 1) := by decide +kernel
theorem dX2_pass_80 : decode cX2_pass 80 = .ok (.invokevirtual 80, 3) := by decide +kernel
theorem dX2_pass_83 : decode cX2_pass 83 = .ok (.goto 31, 3) := by decide +kernel
theorem dX2_pass_86 : decode cX2_pass 86 = .ok (.aload_n 0, 1) := by decide +kernel
theorem dX2_pass_87 : decode cX2_pass 87 = .ok (.getfield 49, 3) := by decide +kernel
theorem dX2_pass_90 : decode cX2_pass 90 = .ok (.aload_n 1, 1) := by decide +kernel
theorem dX2_pass_91 : decode cX2_pass 91 = .ok (.getfield 84, 3) := by decide +kernel
theorem dX2_pass_94 : decode cX2_pass 94 = .ok (.if_icmp .lt 20, 3) := by decide +kernel
theorem dX2_pass_97 : decode cX2_pass 97 = .ok (.aload_n 0, 1) := by decide +kernel
theorem dX2_pass_98 : decode cX2_pass 98 = .ok (.dup, 1) := by decide +kernel
theorem dX2_pass_99 : decode cX2_pass 99 = .ok (.getfield 36, 3) := by decide +kernel
theorem dX2_pass_102 : decode cX2_pass 102 = .ok (.iconst 1, 1) := by decide +kernel
theorem dX2_pass_103 : decode cX2_pass 103 = .ok (.iadd, 1) := by decide +kernel
theorem dX2_pass_104 : decode cX2_pass 104 = .ok (.putfield 36, 3) := by decide +kernel
theorem dX2_pass_107 : decode cX2_pass 107 = .ok (.aload_n 0, 1) := by decide +kernel
theorem dX2_pass_108 : decode cX2_pass 108 = .ok (.aload_n 2, 1) := by decide +kernel
theorem dX2_pass_109 : decode cX2_pass 109 = .ok (.iload_n 3, 1) := by decide +kernel
theorem dX2_pass_110 : decode cX2_pass 110 = .ok (.iconst 3, 1) := by decide +kernel
theorem dX2_pass_111 : decode cX2_pass 111 = .ok (.invokevirtual 80, 3) := by decide +kernel
theorem dX2_pass_114 : decode cX2_pass 114 = .ok (.return_, 1) := by decide +kernel
set_option maxRecDepth 20000 in
theorem ggX2_end_X8_put : GoodIn wsX2_end wsX8_put := goodIn_r _ [15, 16, 17, 18, 19, 20, 14, 21, 22, 23, 24, 25, 26, 47, 48, 49, 50] (by decide +kernel) (by decide +kernel)
set_option maxRecDepth 20000 in
theorem gX2_end_X8_put : GoodIn wsX2_end (wsV RX2 89 RX8 yX8_put wsX8_put) := goodIn_app (goodIn_of _ (by decide +kernel)) ggX2_end_X8_put
theorem dX2_end_0 : decode cX2_end 0 = .ok (.aload_n 0, 1) := by decide +kernel
theorem dX2_end_1 : decode cX2_end 1 = .ok (.iconst 0, 1) := by decide +kernel
theorem dX2_end_2 : decode cX2_end 2 = .ok (.putfield 23, 3) := by decide +kernel
theorem dX2_end_5 : decode cX2_end 5 = .ok (.aload_n 0, 1) := by decide +kernel
theorem dX2_end_6 : decode cX2_end 6 = .ok (.iload_n 3, 1) := by decide +kernel
theorem dX2_end_7 : decode cX2_end 7 = .ok (.putfield 27, 3) := by decide +kernel
theorem dX2_end_10 : decode cX2_end 10 = .ok (.aload_n 0, 1) := by decide +kernel
theorem dX2_end_11 : decode cX2_end 11 = .ok (.iload_n 3, 1) := by decide +kernel
theorem dX2_end_12 : decode cX2_end 12 = .ok (.iconst 1, 1) := by decide +kernel
theorem dX2_end_13 : decode cX2_end 13 = .ok (.if_icmp .ne 13, 3) := by decide +kernel
theorem dX2_end_16 : decode cX2_end 16 = .ok (.aload_n 1, 1) := by decide +kernel
theorem dX2_end_17 : decode cX2_end 17 = .ok (.getfield 77, 3) := by decide +kernel
theorem dX2_end_20 : decode cX2_end 20 = .ok (.bipush 14, 2) := by decide +kernel
theorem dX2_end_22 : decode cX2_end 22 = .ok (.iaload, 1) := by decide +kernel
theorem dX2_end_23 : decode cX2_end 23 = .ok (.goto 4, 3) := by decide +kernel
theorem dX2_end_26 : decode cX2_end 26 = .ok (.iconst 0, 1) := by decide +kernel
theorem dX2_end_27 : decode cX2_end 27 = .ok (.putfield 30, 3) := by decide +kernel
theorem dX2_end_30 : decode cX2_end 30 = .ok (.aload_n 1, 1) := by decide +kernel
theorem dX2_end_31 : decode cX2_end 31 = .ok (.getfield 71, 3) := by decide +kernel
theorem dX2_end_34 : decode cX2_end 34 = .ok (.bipush 7, 2) := by decide +kernel
theorem dX2_end_36 : decode cX2_end 36 = .ok (.iconst 0, 1) := by decide +kernel
theorem dX2_end_37 : decode cX2_end 37 = .ok (.iastore, 1) := by decide +kernel
theorem dX2_end_38 : decode cX2_end 38 = .ok (.aload_n 1, 1) := by decide +kernel
theorem dX2_end_39 : decode cX2_end 39 = .ok (.getfield 71, 3) := by decide +kernel
theorem dX2_end_42 : decode cX2_end 42 = .ok (.bipush 8, 2) := by decide +kernel
theorem dX2_end_44 : decode cX2_end 44 = .ok (.iconst 0, 1) := by decide +kernel
theorem dX2_end_45 : decode cX2_end 45 = .ok (.iastore, 1) := by decide +kernel
theorem dX2_end_46 : decode cX2_end 46 = .ok (.aload_n 0, 1) := by decide +kernel
theorem dX2_end_47 : decode cX2_end 47 = .ok (.getfield 68, 3) := by decide +kernel
theorem dX2_end_50 : decode cX2_end 50 = .ok (.ifCond .eq 18, 3) := by decide +kernel
theorem dX2_end_53 : decode cX2_end 53 = .ok (.iload_n 3, 1) := by decide +kernel
theorem dX2_end_54 : decode cX2_end 54 = .ok (.iconst 1, 1) := by decide +kernel
theorem dX2_end_55 : decode cX2_end 55 = .ok (.if_icmp .eq 13, 3) := by decide +kernel
theorem dX2_end_58 : decode cX2_end 58 = .ok (.aload_n 0, 1) := by decide +kernel
theorem dX2_end_59 : decode cX2_end 59 = .ok (.dup, 1) := by decide +kernel
theorem dX2_end_60 : decode cX2_end 60 = .ok (.getfield 33, 3) := by decide +kernel
theorem dX2_end_63 : decode cX2_end 63 = .ok (.iconst 1, 1) := by decide +kernel
theorem dX2_end_64 : decode cX2_end 64 = .ok (.iadd, 1) := by decide +kernel
theorem dX2_end_65 : decode cX2_end 65 = .ok (.putfield 33, 3) := by decide +kernel
theorem dX2_end_68 : decode cX2_end 68 = .ok (.aload_n 0, 1) := by decide +kernel
theorem dX2_end_69 : decode cX2_end 69 = .ok (.getfield 16, 3) := by decide +kernel
theorem dX2_end_72 : decode cX2_end 72 = .ok (.aload_n 0, 1) := by decide +kernel
theorem dX2_end_73 : decode cX2_end 73 = .ok (.getfield 46, 3) := by decide +kernel
theorem dX2_end_76 : decode cX2_end 76 = .ok (.iconst 5, 1) := by decide +kernel
theorem dX2_end_77 : decode cX2_end 77 = .ok (.iload_n 2, 1) := by decide +kernel
theorem dX2_end_78 : decode cX2_end 78 = .ok (.invokevirtual 89, 3) := by decide +kernel
theorem dX2_end_81 : decode cX2_end 81 = .ok (.aload_n 0, 1) := by decide +kernel
theorem dX2_end_82 : decode cX2_end 82 = .ok (.getfield 16, 3) := by decide +kernel
theorem dX2_end_85 : decode cX2_end 85 = .ok (.aload_n 0, 1) := by decide +kernel
theorem dX2_end_86 : decode cX2_end 86 = .ok (.getfield 46, 3) := by decide +kernel
theorem dX2_end_89 : decode cX2_end 89 = .ok (.bipush 6, 2) := by decide +kernel
theorem dX2_end_91 : decode cX2_end 91 = .ok (.iload_n 3, 1) := by decide +kernel
theorem dX2_end_92 : decode cX2_end 92 = .ok (.invokevirtual 89, 3) := by decide +kernel
theorem dX2_end_95 : decode cX2_end 95 = .ok (.aload_n 0, 1) := by decide +kernel
theorem dX2_end_96 : decode cX2_end 96 = .ok (.getfield 62, 3) := by decide +kernel
theorem dX2_end_99 : decode cX2_end 99 = .ok (.ifCond .ne 19, 3) := by decide +kernel
theorem dX2_end_102 : decode cX2_end 102 = .ok (.aload_n 0, 1) := by decide +kernel
theorem dX2_end_103 : decode cX2_end 103 = .ok (.getfield 16, 3) := by decide +kernel
theorem dX2_end_106 : decode cX2_end 106 = .ok (.aload_n 0, 1) := by decide +kernel
theorem dX2_end_107 : decode cX2_end 107 = .ok (.getfield 46, 3) := by decide +kernel
theorem dX2_end_110 : decode cX2_end 110 = .ok (.iconst 3, 1) := by decide +kernel
theorem dX2_end_111 : decode cX2_end 111 = .ok (.aload_n 0, 1) := by decide +kernel
theorem dX2_end_112 : decode cX2_end 112 = .ok (.getfield 30, 3) := by decide +kernel
theorem dX2_end_115 : decode cX2_end 115 = .ok (.invokevirtual 89, 3) := by decide +kernel
theorem dX2_end_118 : decode cX2_end 118 = .ok (.return_, 1) := by decide +kernel
theorem dX2_aim_0 : decode cX2_aim 0 = .ok (.aload_n 0, 1) := by decide +kernel
theorem dX2_aim_1 : decode cX2_aim 1 = .ok (.iload_n 1, 1) := by decide +kernel
theorem dX2_aim_2 : decode cX2_aim 2 = .ok (.putfield 56, 3) := by decide +kernel
theorem dX2_aim_5 : decode cX2_aim 5 = .ok (.aload_n 0, 1) := by decide +kernel
theorem dX2_aim_6 : decode cX2_aim 6 = .ok (.iload_n 2, 1) := by decide +kernel
theorem dX2_aim_7 : decode cX2_aim 7 = .ok (.putfield 59, 3) := by decide +kernel
theorem dX2_aim_10 : decode cX2_aim 10 = .ok (.aload_n 0, 1) := by decide +kernel
theorem dX2_aim_11 : decode cX2_aim 11 = .ok (.iload_n 3, 1) := by decide +kernel
theorem dX2_aim_12 : decode cX2_aim 12 = .ok (.putfield 62, 3) := by decide +kernel
theorem dX2_aim_15 : decode cX2_aim 15 = .ok (.aload_n 0, 1) := by decide +kernel
theorem dX2_aim_16 : decode cX2_aim 16 = .ok (.iload 4, 2) := by decide +kernel
theorem dX2_aim_18 : decode cX2_aim 18 = .ok (.putfield 65, 3) := by decide +kernel
theorem dX2_aim_21 : decode cX2_aim 21 = .ok (.aload_n 0, 1) := by decide +kernel
theorem dX2_aim_22 : decode cX2_aim 22 = .ok (.iload 5, 2) := by decide +kernel
theorem dX2_aim_24 : decode cX2_aim 24 = .ok (.putfield 68, 3) := by decide +kernel
theorem dX2_aim_27 : decode cX2_aim 27 = .ok (.return_, 1) := by decide +kernel
set_option maxRecDepth 20000 in
theorem ggX2_begin_X8_add : GoodIn wsX2_begin wsX8_add := goodIn_r _ [15, 16, 17, 18, 19, 20, 21, 14, 22, 23, 56, 57, 58, 59] (by decide +kernel) (by decide +kernel)
set_option maxRecDepth 20000 in
theorem gX2_begin_X8_add : GoodIn wsX2_begin (wsV RX2 93 RX8 yX8_add wsX8_add) := goodIn_app (goodIn_of _ (by decide +kernel)) ggX2_begin_X8_add
set_option maxRecDepth 20000 in
theorem ggX2_begin_X8_put : GoodIn wsX2_begin wsX8_put := goodIn_r _ [27, 18, 17, 28, 29, 30, 14, 31, 16, 32, 33, 34, 35, 56, 57, 58, 59] (by decide +kernel) (by decide +kernel)
set_option maxRecDepth 20000 in
theorem gX2_begin_X8_put : GoodIn wsX2_begin (wsV RX2 89 RX8 yX8_put wsX8_put) := goodIn_app (goodIn_of _ (by decide +kernel)) ggX2_begin_X8_put
theorem dX2_begin_0 : decode cX2_begin 0 = .ok (.aload_n 0, 1) := by decide +kernel
theorem dX2_begin_1 : decode cX2_begin 1 = .ok (.iconst 1, 1) := by decide +kernel
theorem dX2_begin_2 : decode cX2_begin 2 = .ok (.putfield 23, 3) := by decide +kernel
theorem dX2_begin_5 : decode cX2_begin 5 = .ok (.aload_n 0, 1) := by decide +kernel
theorem dX2_begin_6 : decode cX2_begin 6 = .ok (.dup, 1) := by decide +kernel
theorem dX2_begin_7 : decode cX2_begin 7 = .ok (.getfield 39, 3) := by decide +kernel
theorem dX2_begin_10 : decode cX2_begin 10 = .ok (.iconst 1, 1) := by decide +kernel
theorem dX2_begin_11 : decode cX2_begin 11 = .ok (.iadd, 1) := by decide +kernel
theorem dX2_begin_12 : decode cX2_begin 12 = .ok (.putfield 39, 3) := by decide +kernel
theorem dX2_begin_15 : decode cX2_begin 15 = .ok (.aload_n 1, 1) := by decide +kernel
theorem dX2_begin_16 : decode cX2_begin 16 = .ok (.getfield 71, 3) := by decide +kernel
theorem dX2_begin_19 : decode cX2_begin 19 = .ok (.bipush 7, 2) := by decide +kernel
theorem dX2_begin_21 : decode cX2_begin 21 = .ok (.iconst 1, 1) := by decide +kernel
theorem dX2_begin_22 : decode cX2_begin 22 = .ok (.aload_n 0, 1) := by decide +kernel
theorem dX2_begin_23 : decode cX2_begin 23 = .ok (.getfield 56, 3) := by decide +kernel
theorem dX2_begin_26 : decode cX2_begin 26 = .ok (.ishl, 1) := by decide +kernel
theorem dX2_begin_27 : decode cX2_begin 27 = .ok (.iastore, 1) := by decide +kernel
theorem dX2_begin_28 : decode cX2_begin 28 = .ok (.aload_n 1, 1) := by decide +kernel
theorem dX2_begin_29 : decode cX2_begin 29 = .ok (.getfield 71, 3) := by decide +kernel
theorem dX2_begin_32 : decode cX2_begin 32 = .ok (.bipush 8, 2) := by decide +kernel
theorem dX2_begin_34 : decode cX2_begin 34 = .ok (.iconst 0, 1) := by decide +kernel
theorem dX2_begin_35 : decode cX2_begin 35 = .ok (.iastore, 1) := by decide +kernel
theorem dX2_begin_36 : decode cX2_begin 36 = .ok (.aload_n 1, 1) := by decide +kernel
theorem dX2_begin_37 : decode cX2_begin 37 = .ok (.getfield 71, 3) := by decide +kernel
theorem dX2_begin_40 : decode cX2_begin 40 = .ok (.bipush 9, 2) := by decide +kernel
theorem dX2_begin_42 : decode cX2_begin 42 = .ok (.aload_n 0, 1) := by decide +kernel
theorem dX2_begin_43 : decode cX2_begin 43 = .ok (.getfield 59, 3) := by decide +kernel
theorem dX2_begin_46 : decode cX2_begin 46 = .ok (.iastore, 1) := by decide +kernel
theorem dX2_begin_47 : decode cX2_begin 47 = .ok (.aload_n 1, 1) := by decide +kernel
theorem dX2_begin_48 : decode cX2_begin 48 = .ok (.getfield 71, 3) := by decide +kernel
theorem dX2_begin_51 : decode cX2_begin 51 = .ok (.bipush 10, 2) := by decide +kernel
theorem dX2_begin_53 : decode cX2_begin 53 = .ok (.aload_n 0, 1) := by decide +kernel
theorem dX2_begin_54 : decode cX2_begin 54 = .ok (.getfield 62, 3) := by decide +kernel
theorem dX2_begin_57 : decode cX2_begin 57 = .ok (.iastore, 1) := by decide +kernel
theorem dX2_begin_58 : decode cX2_begin 58 = .ok (.aload_n 0, 1) := by decide +kernel
theorem dX2_begin_59 : decode cX2_begin 59 = .ok (.getfield 62, 3) := by decide +kernel
theorem dX2_begin_62 : decode cX2_begin 62 = .ok (.ifCond .eq 14, 3) := by decide +kernel
theorem dX2_begin_65 : decode cX2_begin 65 = .ok (.aload_n 1, 1) := by decide +kernel
theorem dX2_begin_66 : decode cX2_begin 66 = .ok (.getfield 71, 3) := by decide +kernel
theorem dX2_begin_69 : decode cX2_begin 69 = .ok (.bipush 11, 2) := by decide +kernel
theorem dX2_begin_71 : decode cX2_begin 71 = .ok (.aload_n 0, 1) := by decide +kernel
theorem dX2_begin_72 : decode cX2_begin 72 = .ok (.getfield 65, 3) := by decide +kernel
theorem dX2_begin_75 : decode cX2_begin 75 = .ok (.iastore, 1) := by decide +kernel
theorem dX2_begin_76 : decode cX2_begin 76 = .ok (.aload_n 0, 1) := by decide +kernel
theorem dX2_begin_77 : decode cX2_begin 77 = .ok (.aload_n 0, 1) := by decide +kernel
theorem dX2_begin_78 : decode cX2_begin 78 = .ok (.getfield 16, 3) := by decide +kernel
theorem dX2_begin_81 : decode cX2_begin 81 = .ok (.invokevirtual 93, 3) := by decide +kernel
theorem dX2_begin_84 : decode cX2_begin 84 = .ok (.putfield 46, 3) := by decide +kernel
theorem dX2_begin_87 : decode cX2_begin 87 = .ok (.aload_n 0, 1) := by decide +kernel
theorem dX2_begin_88 : decode cX2_begin 88 = .ok (.getfield 16, 3) := by decide +kernel
theorem dX2_begin_91 : decode cX2_begin 91 = .ok (.aload_n 0, 1) := by decide +kernel
theorem dX2_begin_92 : decode cX2_begin 92 = .ok (.getfield 46, 3) := by decide +kernel
theorem dX2_begin_95 : decode cX2_begin 95 = .ok (.iconst 0, 1) := by decide +kernel
theorem dX2_begin_96 : decode cX2_begin 96 = .ok (.aload_n 0, 1) := by decide +kernel
theorem dX2_begin_97 : decode cX2_begin 97 = .ok (.getfield 56, 3) := by decide +kernel
theorem dX2_begin_100 : decode cX2_begin 100 = .ok (.invokevirtual 89, 3) := by decide +kernel
theorem dX2_begin_103 : decode cX2_begin 103 = .ok (.aload_n 0, 1) := by decide +kernel
theorem dX2_begin_104 : decode cX2_begin 104 = .ok (.getfield 16, 3) := by decide +kernel
theorem dX2_begin_107 : decode cX2_begin 107 = .ok (.aload_n 0, 1) := by decide +kernel
theorem dX2_begin_108 : decode cX2_begin 108 = .ok (.getfield 46, 3) := by decide +kernel
theorem dX2_begin_111 : decode cX2_begin 111 = .ok (.iconst 1, 1) := by decide +kernel
theorem dX2_begin_112 : decode cX2_begin 112 = .ok (.aload_n 0, 1) := by decide +kernel
theorem dX2_begin_113 : decode cX2_begin 113 = .ok (.getfield 59, 3) := by decide +kernel
theorem dX2_begin_116 : decode cX2_begin 116 = .ok (.invokevirtual 89, 3) := by decide +kernel
theorem dX2_begin_119 : decode cX2_begin 119 = .ok (.aload_n 0, 1) := by decide +kernel
theorem dX2_begin_120 : decode cX2_begin 120 = .ok (.getfield 16, 3) := by decide +kernel
theorem dX2_begin_123 : decode cX2_begin 123 = .ok (.aload_n 0, 1) := by decide +kernel
theorem dX2_begin_124 : decode cX2_begin 124 = .ok (.getfield 46, 3) := by decide +kernel
theorem dX2_begin_127 : decode cX2_begin 127 = .ok (.iconst 2, 1) := by decide +kernel
theorem dX2_begin_128 : decode cX2_begin 128 = .ok (.aload_n 0, 1) := by decide +kernel
theorem dX2_begin_129 : decode cX2_begin 129 = .ok (.getfield 62, 3) := by decide +kernel
theorem dX2_begin_132 : decode cX2_begin 132 = .ok (.invokevirtual 89, 3) := by decide +kernel
theorem dX2_begin_135 : decode cX2_begin 135 = .ok (.aload_n 0, 1) := by decide +kernel
theorem dX2_begin_136 : decode cX2_begin 136 = .ok (.getfield 16, 3) := by decide +kernel
theorem dX2_begin_139 : decode cX2_begin 139 = .ok (.aload_n 0, 1) := by decide +kernel
theorem dX2_begin_140 : decode cX2_begin 140 = .ok (.getfield 46, 3) := by decide +kernel
theorem dX2_begin_143 : decode cX2_begin 143 = .ok (.iconst 3, 1) := by decide +kernel
theorem dX2_begin_144 : decode cX2_begin 144 = .ok (.aload_n 0, 1) := by decide +kernel
theorem dX2_begin_145 : decode cX2_begin 145 = .ok (.getfield 62, 3) := by decide +kernel
theorem dX2_begin_148 : decode cX2_begin 148 = .ok (.ifCond .eq 10, 3) := by decide +kernel
theorem dX2_begin_151 : decode cX2_begin 151 = .ok (.aload_n 0, 1) := by decide +kernel
theorem dX2_begin_152 : decode cX2_begin 152 = .ok (.getfield 65, 3) := by decide +kernel
theorem dX2_begin_155 : decode cX2_begin 155 = .ok (.goto 4, 3) := by decide +kernel
theorem dX2_begin_158 : decode cX2_begin 158 = .ok (.iconst 0, 1) := by decide +kernel
theorem dX2_begin_159 : decode cX2_begin 159 = .ok (.invokevirtual 89, 3) := by decide +kernel
theorem dX2_begin_162 : decode cX2_begin 162 = .ok (.aload_n 0, 1) := by decide +kernel
theorem dX2_begin_163 : decode cX2_begin 163 = .ok (.getfield 16, 3) := by decide +kernel
theorem dX2_begin_166 : decode cX2_begin 166 = .ok (.aload_n 0, 1) := by decide +kernel
theorem dX2_begin_167 : decode cX2_begin 167 = .ok (.getfield 46, 3) := by decide +kernel
theorem dX2_begin_170 : decode cX2_begin 170 = .ok (.iconst 4, 1) := by decide +kernel
theorem dX2_begin_171 : decode cX2_begin 171 = .ok (.iload_n 2, 1) := by decide +kernel
theorem dX2_begin_172 : decode cX2_begin 172 = .ok (.iconst 1, 1) := by decide +kernel
theorem dX2_begin_173 : decode cX2_begin 173 = .ok (.iadd, 1) := by decide +kernel
theorem dX2_begin_174 : decode cX2_begin 174 = .ok (.invokevirtual 89, 3) := by decide +kernel
theorem dX2_begin_177 : decode cX2_begin 177 = .ok (.aload_n 0, 1) := by decide +kernel
theorem dX2_begin_178 : decode cX2_begin 178 = .ok (.getfield 16, 3) := by decide +kernel
theorem dX2_begin_181 : decode cX2_begin 181 = .ok (.aload_n 0, 1) := by decide +kernel
theorem dX2_begin_182 : decode cX2_begin 182 = .ok (.getfield 46, 3) := by decide +kernel
theorem dX2_begin_185 : decode cX2_begin 185 = .ok (.iconst 5, 1) := by decide +kernel
theorem dX2_begin_186 : decode cX2_begin 186 = .ok (.bipush (-6), 2) := by decide +kernel
theorem dX2_begin_188 : decode cX2_begin 188 = .ok (.invokevirtual 89, 3) := by decide +kernel
theorem dX2_begin_191 : decode cX2_begin 191 = .ok (.aload_n 0, 1) := by decide +kernel
theorem dX2_begin_192 : decode cX2_begin 192 = .ok (.getfield 16, 3) := by decide +kernel
theorem dX2_begin_195 : decode cX2_begin 195 = .ok (.aload_n 0, 1) := by decide +kernel
theorem dX2_begin_196 : decode cX2_begin 196 = .ok (.getfield 46, 3) := by decide +kernel
theorem dX2_begin_199 : decode cX2_begin 199 = .ok (.bipush 7, 2) := by decide +kernel
theorem dX2_begin_201 : decode cX2_begin 201 = .ok (.aload_n 0, 1) := by decide +kernel
theorem dX2_begin_202 : decode cX2_begin 202 = .ok (.getfield 68, 3) := by decide +kernel
theorem dX2_begin_205 : decode cX2_begin 205 = .ok (.invokevirtual 89, 3) := by decide +kernel
theorem dX2_begin_208 : decode cX2_begin 208 = .ok (.return_, 1) := by decide +kernel
set_option maxRecDepth 20000 in
theorem ggX3_init_X9_init : GoodIn wsX3_init wsX9_init := goodIn_r _ [29, 30, 2, 3, 31, 32, 33, 34, 35, 36, 37, 88, 89, 90, 91, 92, 93] (by decide +kernel) (by decide +kernel)
set_option maxRecDepth 20000 in
theorem gX3_init_X9_init_n11 : GoodIn wsX3_init (wsX9_init) := ggX3_init_X9_init
set_option maxRecDepth 20000 in
theorem ggX3_init_X1_init : GoodIn wsX3_init wsX1_init := goodIn_r _ [39, 40, 2, 3, 31, 41, 42, 43, 101, 102, 103] (by decide +kernel) (by decide +kernel)
set_option maxRecDepth 20000 in
theorem gX3_init_X1_init_n20 : GoodIn wsX3_init (wsX1_init) := ggX3_init_X1_init
set_option maxRecDepth 20000 in
theorem ggX3_init_X4_init : GoodIn wsX3_init wsX4_init := goodIn_r _ [45, 46, 2, 3, 47, 48, 49, 50, 51, 52, 53, 54, 55, 56, 57, 58, 59, 60, 31, 61, 129, 130, 131, 132, 104, 105, 106, 107, 108, 109, 110] (by decide +kernel) (by decide +kernel)
set_option maxRecDepth 20000 in
theorem gX3_init_X4_init_n27 : GoodIn wsX3_init (wsX4_init) := ggX3_init_X4_init
set_option maxRecDepth 20000 in
theorem ggX3_init_X0_init : GoodIn wsX3_init wsX0_init := goodIn_r _ [63, 64, 2, 3, 65, 66, 67, 68, 31, 69, 70, 71, 72, 73, 74, 48, 49, 75, 76, 52, 53, 54, 55, 56, 57, 58, 59, 60, 61, 133, 134, 135, 136, 137, 138, 139, 140, 141, 142, 143, 144, 145, 146, 111, 112, 113, 114, 115, 116, 117, 118, 119, 129, 130, 131, 132] (by decide +kernel) (by decide +kernel)
set_option maxRecDepth 20000 in
theorem gX3_init_X0_init_n34 : GoodIn wsX3_init (wsX0_init) := ggX3_init_X0_init
set_option maxRecDepth 20000 in
theorem ggX3_init_X7_init : GoodIn wsX3_init wsX7_init := goodIn_r _ [78, 79, 2, 3, 31, 80, 120, 121, 122, 123] (by decide +kernel) (by decide +kernel)
set_option maxRecDepth 20000 in
theorem gX3_init_X7_init_n41 : GoodIn wsX3_init (wsX7_init) := ggX3_init_X7_init
set_option maxRecDepth 20000 in
theorem ggX3_init_X5_init : GoodIn wsX3_init wsX5_init := goodIn_r _ [82, 83, 2, 3, 31, 84, 85, 48, 49, 86, 87, 52, 53, 54, 55, 56, 57, 58, 59, 60, 61, 124, 125, 126, 127, 128, 129, 130, 131, 132] (by decide +kernel) (by decide +kernel)
set_option maxRecDepth 20000 in
theorem gX3_init_X5_init_n48 : GoodIn wsX3_init (wsX5_init) := ggX3_init_X5_init
theorem dX3_init_0 : decode cX3_init 0 = .ok (.aload_n 0, 1) := by decide +kernel
theorem dX3_init_1 : decode cX3_init 1 = .ok (.invokespecial 3, 3) := by decide +kernel
theorem dX3_init_4 : decode cX3_init 4 = .ok (.aload_n 0, 1) := by decide +kernel
theorem dX3_init_5 : decode cX3_init 5 = .ok (.new 9, 3) := by decide +kernel
theorem dX3_init_8 : decode cX3_init 8 = .ok (.dup, 1) := by decide +kernel
theorem dX3_init_9 : decode cX3_init 9 = .ok (.invokespecial 11, 3) := by decide +kernel
theorem dX3_init_12 : decode cX3_init 12 = .ok (.putfield 12, 3) := by decide +kernel
theorem dX3_init_15 : decode cX3_init 15 = .ok (.aload_n 0, 1) := by decide +kernel
theorem dX3_init_16 : decode cX3_init 16 = .ok (.new 18, 3) := by decide +kernel
theorem dX3_init_19 : decode cX3_init 19 = .ok (.dup, 1) := by decide +kernel
theorem dX3_init_20 : decode cX3_init 20 = .ok (.invokespecial 20, 3) := by decide +kernel
theorem dX3_init_23 : decode cX3_init 23 = .ok (.putfield 21, 3) := by decide +kernel
theorem dX3_init_26 : decode cX3_init 26 = .ok (.aload_n 0, 1) := by decide +kernel
theorem dX3_init_27 : decode cX3_init 27 = .ok (.new 25, 3) := by decide +kernel
theorem dX3_init_30 : decode cX3_init 30 = .ok (.dup, 1) := by decide +kernel
theorem dX3_init_31 : decode cX3_init 31 = .ok (.invokespecial 27, 3) := by decide +kernel
theorem dX3_init_34 : decode cX3_init 34 = .ok (.putfield 28, 3) := by decide +kernel
theorem dX3_init_37 : decode cX3_init 37 = .ok (.aload_n 0, 1) := by decide +kernel
theorem dX3_init_38 : decode cX3_init 38 = .ok (.new 32, 3) := by decide +kernel
theorem dX3_init_41 : decode cX3_init 41 = .ok (.dup, 1) := by decide +kernel
theorem dX3_init_42 : decode cX3_init 42 = .ok (.invokespecial 34, 3) := by decide +kernel
theorem dX3_init_45 : decode cX3_init 45 = .ok (.putfield 35, 3) := by decide +kernel
theorem dX3_init_48 : decode cX3_init 48 = .ok (.aload_n 0, 1) := by decide +kernel
theorem dX3_init_49 : decode cX3_init 49 = .ok (.new 39, 3) := by decide +kernel
theorem dX3_init_52 : decode cX3_init 52 = .ok (.dup, 1) := by decide +kernel
theorem dX3_init_53 : decode cX3_init 53 = .ok (.invokespecial 41, 3) := by decide +kernel
theorem dX3_init_56 : decode cX3_init 56 = .ok (.putfield 42, 3) := by decide +kernel
theorem dX3_init_59 : decode cX3_init 59 = .ok (.aload_n 0, 1) := by decide +kernel
theorem dX3_init_60 : decode cX3_init 60 = .ok (.new 46, 3) := by decide +kernel
theorem dX3_init_63 : decode cX3_init 63 = .ok (.dup, 1) := by decide +kernel
theorem dX3_init_64 : decode cX3_init 64 = .ok (.invokespecial 48, 3) := by decide +kernel
theorem dX3_init_67 : decode cX3_init 67 = .ok (.putfield 49, 3) := by decide +kernel
theorem dX3_init_70 : decode cX3_init 70 = .ok (.return_, 1) := by decide +kernel
set_option maxRecDepth 20000 in
theorem ggX3_clear_X9_clear : GoodIn wsX3_clear wsX9_clear := goodIn_r _ [12, 13, 14, 15, 16, 17, 18, 19, 20, 115, 116, 117, 118, 119, 120] (by decide +kernel) (by decide +kernel)
set_option maxRecDepth 20000 in
theorem gX3_clear_X9_clear : GoodIn wsX3_clear (wsV RX3 53 RX9 yX9_clear wsX9_clear) := goodIn_app (goodIn_of _ (by decide +kernel)) ggX3_clear_X9_clear
set_option maxRecDepth 20000 in
theorem ggX3_clear_X1_clear : GoodIn wsX3_clear wsX1_clear := goodIn_r _ [25, 26, 27, 28, 29, 30, 31, 32, 33, 34, 18, 19, 20, 121, 122, 123, 124, 125, 126, 127, 128, 129, 130, 131, 132, 133, 134, 135, 136] (by decide +kernel) (by decide +kernel)
set_option maxRecDepth 20000 in
theorem gX3_clear_X1_clear : GoodIn wsX3_clear (wsV RX3 56 RX1 yX1_clear wsX1_clear) := goodIn_app (goodIn_of _ (by decide +kernel)) ggX3_clear_X1_clear
set_option maxRecDepth 20000 in
theorem ggX3_clear_X4_clear : GoodIn wsX3_clear wsX4_clear := goodIn_r _ [39, 40, 41, 42, 43, 44, 45, 46, 47, 48, 49, 50, 51, 52, 137, 138, 139, 140, 141, 142, 143, 144, 145, 146, 147] (by decide +kernel) (by decide +kernel)
set_option maxRecDepth 20000 in
theorem gX3_clear_X4_clear : GoodIn wsX3_clear (wsV RX3 59 RX4 yX4_clear wsX4_clear) := goodIn_app (goodIn_of _ (by decide +kernel)) ggX3_clear_X4_clear
set_option maxRecDepth 20000 in
theorem ggX3_clear_X0_clear_c : GoodIn wsX3_clear [.code yX0_clear cX0_clear 1 none] := goodIn_r _ [57] (by decide +kernel) (by decide +kernel)
set_option maxRecDepth 20000 in
theorem ggX3_clear_X0_clear_1 : GoodIn wsX3_clear wsX0_clear_r1 := goodIn_r _ [58, 59, 60, 61, 62, 63, 64, 65, 66, 67, 68, 69, 70, 71, 72, 73, 74, 75, 76, 77, 78, 79, 48, 49] (by decide +kernel) (by decide +kernel)
set_option maxRecDepth 20000 in
theorem ggX3_clear_X0_clear_2 : GoodIn wsX3_clear wsX0_clear_r2 := goodIn_r _ [50, 51, 52, 80, 81, 82, 83, 84, 85, 86, 87, 88] (by decide +kernel) (by decide +kernel)
set_option maxRecDepth 20000 in
theorem ggX3_clear_X0_clear_3 : GoodIn wsX3_clear wsX00 := goodIn_r _ [148, 149, 150, 151, 152, 153, 154, 155, 156] (by decide +kernel) (by decide +kernel)
set_option maxRecDepth 20000 in
theorem ggX3_clear_X0_clear_4 : GoodIn wsX3_clear wsX20 := goodIn_r _ [157, 158, 159, 160, 161, 162, 163, 164, 165, 166, 167, 168, 169, 170] (by decide +kernel) (by decide +kernel)
set_option maxRecDepth 20000 in
theorem ggX3_clear_X0_clear_5 : GoodIn wsX3_clear wsX80 := goodIn_r _ [144, 145, 146, 147] (by decide +kernel) (by decide +kernel)
theorem ggX3_clear_X0_clear : GoodIn wsX3_clear wsX0_clear := (goodIn_app (a := [.code yX0_clear cX0_clear 1 none]) ggX3_clear_X0_clear_c (goodIn_app (goodIn_app (goodIn_app (goodIn_app ggX3_clear_X0_clear_1 ggX3_clear_X0_clear_2) ggX3_clear_X0_clear_3) ggX3_clear_X0_clear_4) ggX3_clear_X0_clear_5))
set_option maxRecDepth 20000 in
theorem gX3_clear_X0_clear : GoodIn wsX3_clear (wsV RX3 60 RX0 yX0_clear wsX0_clear) := goodIn_app (goodIn_of _ (by decide +kernel)) ggX3_clear_X0_clear
set_option maxRecDepth 20000 in
theorem ggX3_clear_X7_clear : GoodIn wsX3_clear wsX7_clear := goodIn_r _ [93, 94, 95, 18, 19, 20, 171, 172, 173, 174] (by decide +kernel) (by decide +kernel)
set_option maxRecDepth 20000 in
theorem gX3_clear_X7_clear : GoodIn wsX3_clear (wsV RX3 61 RX7 yX7_clear wsX7_clear) := goodIn_app (goodIn_of _ (by decide +kernel)) ggX3_clear_X7_clear
set_option maxRecDepth 20000 in
theorem ggX3_clear_X5_clear : GoodIn wsX3_clear wsX5_clear := goodIn_r _ [100, 101, 102, 103, 104, 105, 106, 18, 19, 20, 107, 48, 49, 50, 51, 52, 175, 176, 177, 178, 179, 144, 145, 146, 147] (by decide +kernel) (by decide +kernel)
set_option maxRecDepth 20000 in
theorem gX3_clear_X5_clear : GoodIn wsX3_clear (wsV RX3 62 RX5 yX5_clear wsX5_clear) := goodIn_app (goodIn_of _ (by decide +kernel)) ggX3_clear_X5_clear
theorem dX3_clear_0 : decode cX3_clear 0 = .ok (.aload_n 0, 1) := by decide +kernel
theorem dX3_clear_1 : decode cX3_clear 1 = .ok (.getfield 12, 3) := by decide +kernel
theorem dX3_clear_4 : decode cX3_clear 4 = .ok (.invokevirtual 53, 3) := by decide +kernel
theorem dX3_clear_7 : decode cX3_clear 7 = .ok (.aload_n 0, 1) := by decide +kernel
theorem dX3_clear_8 : decode cX3_clear 8 = .ok (.getfield 21, 3) := by decide +kernel
theorem dX3_clear_11 : decode cX3_clear 11 = .ok (.aload_n 1, 1) := by decide +kernel
theorem dX3_clear_12 : decode cX3_clear 12 = .ok (.invokevirtual 56, 3) := by decide +kernel
theorem dX3_clear_15 : decode cX3_clear 15 = .ok (.aload_n 0, 1) := by decide +kernel
theorem dX3_clear_16 : decode cX3_clear 16 = .ok (.getfield 28, 3) := by decide +kernel
theorem dX3_clear_19 : decode cX3_clear 19 = .ok (.invokevirtual 59, 3) := by decide +kernel
theorem dX3_clear_22 : decode cX3_clear 22 = .ok (.aload_n 0, 1) := by decide +kernel
theorem dX3_clear_23 : decode cX3_clear 23 = .ok (.getfield 35, 3) := by decide +kernel
theorem dX3_clear_26 : decode cX3_clear 26 = .ok (.invokevirtual 60, 3) := by decide +kernel
theorem dX3_clear_29 : decode cX3_clear 29 = .ok (.aload_n 0, 1) := by decide +kernel
theorem dX3_clear_30 : decode cX3_clear 30 = .ok (.getfield 42, 3) := by decide +kernel
theorem dX3_clear_33 : decode cX3_clear 33 = .ok (.invokevirtual 61, 3) := by decide +kernel
theorem dX3_clear_36 : decode cX3_clear 36 = .ok (.aload_n 0, 1) := by decide +kernel
theorem dX3_clear_37 : decode cX3_clear 37 = .ok (.getfield 49, 3) := by decide +kernel
theorem dX3_clear_40 : decode cX3_clear 40 = .ok (.invokevirtual 62, 3) := by decide +kernel
theorem dX3_clear_43 : decode cX3_clear 43 = .ok (.aload_n 0, 1) := by decide +kernel
theorem dX3_clear_44 : decode cX3_clear 44 = .ok (.iconst 0, 1) := by decide +kernel
theorem dX3_clear_45 : decode cX3_clear 45 = .ok (.putfield 63, 3) := by decide +kernel
theorem dX3_clear_48 : decode cX3_clear 48 = .ok (.return_, 1) := by decide +kernel
set_option maxRecDepth 20000 in
theorem ggX3_copyFrom_X9_copyFrom : GoodIn wsX3_copyFrom wsX9_copyFrom := goodIn_r _ [12, 13, 14, 15, 16, 17, 18, 19, 20, 21, 117, 118, 119, 120, 121, 122] (by decide +kernel) (by decide +kernel)
set_option maxRecDepth 20000 in
theorem gX3_copyFrom_X9_copyFrom : GoodIn wsX3_copyFrom (wsV RX3 67 RX9 yX9_copyFrom wsX9_copyFrom) := goodIn_app (goodIn_of _ (by decide +kernel)) ggX3_copyFrom_X9_copyFrom
set_option maxRecDepth 20000 in
theorem ggX3_copyFrom_X1_copyFrom : GoodIn wsX3_copyFrom wsX1_copyFrom := goodIn_r _ [26, 27, 28, 15, 16, 17, 29, 30, 123, 124, 125] (by decide +kernel) (by decide +kernel)
set_option maxRecDepth 20000 in
theorem gX3_copyFrom_X1_copyFrom : GoodIn wsX3_copyFrom (wsV RX3 71 RX1 yX1_copyFrom wsX1_copyFrom) := goodIn_app (goodIn_of _ (by decide +kernel)) ggX3_copyFrom_X1_copyFrom
set_option maxRecDepth 20000 in
theorem ggX3_copyFrom_X4_copyFrom : GoodIn wsX3_copyFrom wsX4_copyFrom := goodIn_r _ [35, 36, 37, 38, 39, 40, 41, 42, 43, 44, 45, 46, 47, 48, 49, 50, 51, 15, 16, 17, 126, 127, 128, 129, 130, 131, 132, 133, 134, 135, 136] (by decide +kernel) (by decide +kernel)
set_option maxRecDepth 20000 in
theorem gX3_copyFrom_X4_copyFrom : GoodIn wsX3_copyFrom (wsV RX3 74 RX4 yX4_copyFrom wsX4_copyFrom) := goodIn_app (goodIn_of _ (by decide +kernel)) ggX3_copyFrom_X4_copyFrom
set_option maxRecDepth 20000 in
theorem ggX3_copyFrom_X0_copyFrom_c : GoodIn wsX3_copyFrom [.code yX0_copyFrom cX0_copyFrom 2 none] := goodIn_r _ [56] (by decide +kernel) (by decide +kernel)
set_option maxRecDepth 20000 in
theorem ggX3_copyFrom_X0_copyFrom_1 : GoodIn wsX3_copyFrom wsX0_copyFrom_r1 := goodIn_r _ [57, 58, 59, 15, 16, 17, 60, 61, 62, 63, 64, 65, 66, 67, 68, 69, 70, 71, 72, 73, 74, 75, 76, 77] (by decide +kernel) (by decide +kernel)
set_option maxRecDepth 20000 in
theorem ggX3_copyFrom_X0_copyFrom_2 : GoodIn wsX3_copyFrom wsX0_copyFrom_r2 := goodIn_r _ [78, 79, 80, 81, 82, 83, 84, 85, 86, 44, 45, 46, 47, 48, 49, 50, 51, 87, 88, 89, 90] (by decide +kernel) (by decide +kernel)
set_option maxRecDepth 20000 in
theorem ggX3_copyFrom_X0_copyFrom_3 : GoodIn wsX3_copyFrom wsX00 := goodIn_r _ [137, 138, 139, 140, 141, 142, 143, 144, 145] (by decide +kernel) (by decide +kernel)
set_option maxRecDepth 20000 in
theorem ggX3_copyFrom_X0_copyFrom_4 : GoodIn wsX3_copyFrom wsX20 := goodIn_r _ [146, 147, 148, 149, 150, 151, 152, 153, 154, 155, 156, 157, 158, 159] (by decide +kernel) (by decide +kernel)
set_option maxRecDepth 20000 in
theorem ggX3_copyFrom_X0_copyFrom_5 : GoodIn wsX3_copyFrom wsX80 := goodIn_r _ [133, 134, 135, 136] (by decide +kernel) (by decide +kernel)
theorem ggX3_copyFrom_X0_copyFrom : GoodIn wsX3_copyFrom wsX0_copyFrom := (goodIn_app (a := [.code yX0_copyFrom cX0_copyFrom 2 none]) ggX3_copyFrom_X0_copyFrom_c (goodIn_app (goodIn_app (goodIn_app (goodIn_app ggX3_copyFrom_X0_copyFrom_1 ggX3_copyFrom_X0_copyFrom_2) ggX3_copyFrom_X0_copyFrom_3) ggX3_copyFrom_X0_copyFrom_4) ggX3_copyFrom_X0_copyFrom_5))
set_option maxRecDepth 20000 in
theorem gX3_copyFrom_X0_copyFrom : GoodIn wsX3_copyFrom (wsV RX3 77 RX0 yX0_copyFrom wsX0_copyFrom) := goodIn_app (goodIn_of _ (by decide +kernel)) ggX3_copyFrom_X0_copyFrom
set_option maxRecDepth 20000 in
theorem ggX3_copyFrom_X7_copyFrom : GoodIn wsX3_copyFrom wsX7_copyFrom := goodIn_r _ [95, 96, 97, 15, 16, 17, 160, 161, 162, 163] (by decide +kernel) (by decide +kernel)
set_option maxRecDepth 20000 in
theorem gX3_copyFrom_X7_copyFrom : GoodIn wsX3_copyFrom (wsV RX3 80 RX7 yX7_copyFrom wsX7_copyFrom) := goodIn_app (goodIn_of _ (by decide +kernel)) ggX3_copyFrom_X7_copyFrom
set_option maxRecDepth 20000 in
theorem ggX3_copyFrom_X5_copyFrom : GoodIn wsX3_copyFrom wsX5_copyFrom := goodIn_r _ [102, 103, 104, 15, 16, 17, 105, 106, 107, 108, 109, 44, 45, 46, 47, 48, 49, 50, 51, 164, 165, 166, 167, 168, 133, 134, 135, 136] (by decide +kernel) (by decide +kernel)
set_option maxRecDepth 20000 in
theorem gX3_copyFrom_X5_copyFrom : GoodIn wsX3_copyFrom (wsV RX3 83 RX5 yX5_copyFrom wsX5_copyFrom) := goodIn_app (goodIn_of _ (by decide +kernel)) ggX3_copyFrom_X5_copyFrom
theorem dX3_copyFrom_0 : decode cX3_copyFrom 0 = .ok (.aload_n 0, 1) := by decide +kernel
theorem dX3_copyFrom_1 : decode cX3_copyFrom 1 = .ok (.getfield 12, 3) := by decide +kernel
theorem dX3_copyFrom_4 : decode cX3_copyFrom 4 = .ok (.aload_n 1, 1) := by decide +kernel
theorem dX3_copyFrom_5 : decode cX3_copyFrom 5 = .ok (.getfield 12, 3) := by decide +kernel
theorem dX3_copyFrom_8 : decode cX3_copyFrom 8 = .ok (.invokevirtual 67, 3) := by decide +kernel
theorem dX3_copyFrom_11 : decode cX3_copyFrom 11 = .ok (.aload_n 0, 1) := by decide +kernel
theorem dX3_copyFrom_12 : decode cX3_copyFrom 12 = .ok (.getfield 21, 3) := by decide +kernel
theorem dX3_copyFrom_15 : decode cX3_copyFrom 15 = .ok (.aload_n 1, 1) := by decide +kernel
theorem dX3_copyFrom_16 : decode cX3_copyFrom 16 = .ok (.getfield 21, 3) := by decide +kernel
theorem dX3_copyFrom_19 : decode cX3_copyFrom 19 = .ok (.invokevirtual 71, 3) := by decide +kernel
theorem dX3_copyFrom_22 : decode cX3_copyFrom 22 = .ok (.aload_n 0, 1) := by decide +kernel
theorem dX3_copyFrom_23 : decode cX3_copyFrom 23 = .ok (.getfield 28, 3) := by decide +kernel
theorem dX3_copyFrom_26 : decode cX3_copyFrom 26 = .ok (.aload_n 1, 1) := by decide +kernel
theorem dX3_copyFrom_27 : decode cX3_copyFrom 27 = .ok (.getfield 28, 3) := by decide +kernel
theorem dX3_copyFrom_30 : decode cX3_copyFrom 30 = .ok (.invokevirtual 74, 3) := by decide +kernel
theorem dX3_copyFrom_33 : decode cX3_copyFrom 33 = .ok (.aload_n 0, 1) := by decide +kernel
theorem dX3_copyFrom_34 : decode cX3_copyFrom 34 = .ok (.getfield 35, 3) := by decide +kernel
theorem dX3_copyFrom_37 : decode cX3_copyFrom 37 = .ok (.aload_n 1, 1) := by decide +kernel
theorem dX3_copyFrom_38 : decode cX3_copyFrom 38 = .ok (.getfield 35, 3) := by decide +kernel
theorem dX3_copyFrom_41 : decode cX3_copyFrom 41 = .ok (.invokevirtual 77, 3) := by decide +kernel
theorem dX3_copyFrom_44 : decode cX3_copyFrom 44 = .ok (.aload_n 0, 1) := by decide +kernel
theorem dX3_copyFrom_45 : decode cX3_copyFrom 45 = .ok (.getfield 42, 3) := by decide +kernel
theorem dX3_copyFrom_48 : decode cX3_copyFrom 48 = .ok (.aload_n 1, 1) := by decide +kernel
theorem dX3_copyFrom_49 : decode cX3_copyFrom 49 = .ok (.getfield 42, 3) := by decide +kernel
theorem dX3_copyFrom_52 : decode cX3_copyFrom 52 = .ok (.invokevirtual 80, 3) := by decide +kernel
theorem dX3_copyFrom_55 : decode cX3_copyFrom 55 = .ok (.aload_n 0, 1) := by decide +kernel
theorem dX3_copyFrom_56 : decode cX3_copyFrom 56 = .ok (.getfield 49, 3) := by decide +kernel
theorem dX3_copyFrom_59 : decode cX3_copyFrom 59 = .ok (.aload_n 1, 1) := by decide +kernel
theorem dX3_copyFrom_60 : decode cX3_copyFrom 60 = .ok (.getfield 49, 3) := by decide +kernel
theorem dX3_copyFrom_63 : decode cX3_copyFrom 63 = .ok (.invokevirtual 83, 3) := by decide +kernel
theorem dX3_copyFrom_66 : decode cX3_copyFrom 66 = .ok (.aload_n 0, 1) := by decide +kernel
theorem dX3_copyFrom_67 : decode cX3_copyFrom 67 = .ok (.aload_n 1, 1) := by decide +kernel
theorem dX3_copyFrom_68 : decode cX3_copyFrom 68 = .ok (.getfield 63, 3) := by decide +kernel
theorem dX3_copyFrom_71 : decode cX3_copyFrom 71 = .ok (.putfield 63, 3) := by decide +kernel
theorem dX3_copyFrom_74 : decode cX3_copyFrom 74 = .ok (.return_, 1) := by decide +kernel
set_option maxRecDepth 20000 in
theorem ggX3_isAtRest_X4_isIdle : GoodIn wsX3_isAtRest wsX4_isIdle := goodIn_r _ [7, 8, 9, 10, 11, 28, 29, 30, 31, 32, 33, 34, 35, 36, 37, 38] (by decide +kernel) (by decide +kernel)
set_option maxRecDepth 20000 in
theorem gX3_isAtRest_X4_isIdle : GoodIn wsX3_isAtRest (wsV RX3 86 RX4 yX4_isIdle wsX4_isIdle) := goodIn_app (goodIn_of _ (by decide +kernel)) ggX3_isAtRest_X4_isIdle
set_option maxRecDepth 20000 in
theorem ggX3_isAtRest_X0_isIdle : GoodIn wsX3_isAtRest wsX0_isIdle := goodIn_r _ [16, 17, 18, 19, 20, 39, 40, 41, 42, 43, 44, 45, 46, 47, 48, 49, 50, 51, 52, 53, 54, 55, 56, 57, 58, 59, 60, 61] (by decide +kernel) (by decide +kernel)
set_option maxRecDepth 20000 in
theorem gX3_isAtRest_X0_isIdle : GoodIn wsX3_isAtRest (wsV RX3 90 RX0 yX0_isIdle wsX0_isIdle) := goodIn_app (goodIn_of _ (by decide +kernel)) ggX3_isAtRest_X0_isIdle
theorem dX3_isAtRest_0 : decode cX3_isAtRest 0 = .ok (.aload_n 0, 1) := by decide +kernel
theorem dX3_isAtRest_1 : decode cX3_isAtRest 1 = .ok (.getfield 28, 3) := by decide +kernel
theorem dX3_isAtRest_4 : decode cX3_isAtRest 4 = .ok (.invokevirtual 86, 3) := by decide +kernel
theorem dX3_isAtRest_7 : decode cX3_isAtRest 7 = .ok (.ifCond .eq 17, 3) := by decide +kernel
theorem dX3_isAtRest_10 : decode cX3_isAtRest 10 = .ok (.aload_n 0, 1) := by decide +kernel
theorem dX3_isAtRest_11 : decode cX3_isAtRest 11 = .ok (.getfield 35, 3) := by decide +kernel
theorem dX3_isAtRest_14 : decode cX3_isAtRest 14 = .ok (.invokevirtual 90, 3) := by decide +kernel
theorem dX3_isAtRest_17 : decode cX3_isAtRest 17 = .ok (.ifCond .eq 7, 3) := by decide +kernel
theorem dX3_isAtRest_20 : decode cX3_isAtRest 20 = .ok (.iconst 1, 1) := by decide +kernel
theorem dX3_isAtRest_21 : decode cX3_isAtRest 21 = .ok (.goto 4, 3) := by decide +kernel
theorem dX3_isAtRest_24 : decode cX3_isAtRest 24 = .ok (.iconst 0, 1) := by decide +kernel
theorem dX3_isAtRest_25 : decode cX3_isAtRest 25 = .ok (.ireturn, 1) := by decide +kernel
set_option maxRecDepth 20000 in
theorem ggX3_tick_X9_look : GoodIn wsX3_tick wsX9_look := goodIn_r _ [12, 13, 14, 15, 16, 11, 17, 18, 19, 20, 21, 314, 315, 316, 317, 318, 319] (by decide +kernel) (by decide +kernel)
set_option maxRecDepth 20000 in
theorem gX3_tick_X9_look : GoodIn wsX3_tick (wsV RX3 91 RX9 yX9_look wsX9_look) := goodIn_app (goodIn_of _ (by decide +kernel)) ggX3_tick_X9_look
set_option maxRecDepth 20000 in
theorem ggX3_tick_X5_judge_c : GoodIn wsX3_tick [.code yX5_judge cX5_judge 8 none] := goodIn_r _ [26] (by decide +kernel) (by decide +kernel)
set_option maxRecDepth 20000 in
theorem ggX3_tick_X5_judge_1 : GoodIn wsX3_tick wsX5_judge_r1 := goodIn_r _ [27, 28, 29, 30, 31, 32, 33, 11, 34, 35, 36, 37, 25, 38, 39, 40, 41, 42, 43, 44, 45, 46, 47, 48] (by decide +kernel) (by decide +kernel)
set_option maxRecDepth 20000 in
theorem ggX3_tick_X5_judge_2 : GoodIn wsX3_tick wsX5_judge_r2 := goodIn_r _ [49, 50, 51, 52, 53, 54, 55, 56, 57, 58, 59, 60, 61, 62, 63, 64, 65, 66, 67, 68, 69, 70, 71, 72] (by decide +kernel) (by decide +kernel)
set_option maxRecDepth 20000 in
theorem ggX3_tick_X5_judge_3 : GoodIn wsX3_tick wsX5_judge_r3 := goodIn_r _ [73, 74, 75, 76, 77, 78, 79, 80, 81, 82, 83, 84, 85, 86, 87, 88, 89, 90, 91, 92, 93, 94, 95, 96] (by decide +kernel) (by decide +kernel)
set_option maxRecDepth 20000 in
theorem ggX3_tick_X5_judge_4 : GoodIn wsX3_tick wsX5_judge_r4 := goodIn_r _ [97, 98, 99, 100, 101, 102, 103, 104, 105, 106, 107, 108, 109, 110, 111, 112, 113, 114, 115, 116, 117, 118, 119, 120] (by decide +kernel) (by decide +kernel)
set_option maxRecDepth 20000 in
theorem ggX3_tick_X5_judge_5 : GoodIn wsX3_tick wsX90 := goodIn_r _ [314, 315, 316, 317, 318, 319] (by decide +kernel) (by decide +kernel)
set_option maxRecDepth 20000 in
theorem ggX3_tick_X5_judge_6 : GoodIn wsX3_tick wsX50 := goodIn_r _ [320, 321, 322, 323, 324] (by decide +kernel) (by decide +kernel)
set_option maxRecDepth 20000 in
theorem ggX3_tick_X5_judge_7 : GoodIn wsX3_tick wsX60 := goodIn_r _ [325, 326, 327, 328, 329, 330, 331, 332, 333, 334, 335, 336, 337] (by decide +kernel) (by decide +kernel)
set_option maxRecDepth 20000 in
theorem ggX3_tick_X5_judge_8 : GoodIn wsX3_tick wsX80 := goodIn_r _ [338, 339, 340, 341] (by decide +kernel) (by decide +kernel)
theorem ggX3_tick_X5_judge : GoodIn wsX3_tick wsX5_judge := (goodIn_app (a := [.code yX5_judge cX5_judge 8 none]) ggX3_tick_X5_judge_c (goodIn_app (goodIn_app (goodIn_app (goodIn_app (goodIn_app ggX3_tick_X5_judge_1 (goodIn_app ggX3_tick_X5_judge_2 (goodIn_app ggX3_tick_X5_judge_3 ggX3_tick_X5_judge_4))) ggX3_tick_X5_judge_5) ggX3_tick_X5_judge_6) ggX3_tick_X5_judge_7) ggX3_tick_X5_judge_8))
set_option maxRecDepth 20000 in
theorem gX3_tick_X5_judge : GoodIn wsX3_tick (wsV RX3 95 RX5 yX5_judge wsX5_judge) := goodIn_app (goodIn_of _ (by decide +kernel)) ggX3_tick_X5_judge
set_option maxRecDepth 20000 in
theorem ggX3_tick_X4_pass_c : GoodIn wsX3_tick [.code yX4_pass cX4_pass 3 none] := goodIn_r _ [125] (by decide +kernel) (by decide +kernel)
set_option maxRecDepth 20000 in
theorem ggX3_tick_X4_pass_1 : GoodIn wsX3_tick wsX4_pass_r1 := goodIn_r _ [126, 127, 128, 129, 130, 124, 131, 132, 133, 134, 135, 110, 111, 99, 112, 103, 102, 113, 114, 115, 116, 101, 117, 118] (by decide +kernel) (by decide +kernel)
set_option maxRecDepth 20000 in
theorem ggX3_tick_X4_pass_2 : GoodIn wsX3_tick wsX4_pass_r2 := goodIn_r _ [119, 120, 136, 137, 138, 139, 140, 141, 142, 143, 144, 145, 146, 147, 148, 149, 150, 151, 152, 153, 154, 155, 156, 157] (by decide +kernel) (by decide +kernel)
set_option maxRecDepth 20000 in
theorem ggX3_tick_X4_pass_3 : GoodIn wsX3_tick wsX4_pass_r3 := goodIn_r _ [158, 159, 160] (by decide +kernel) (by decide +kernel)
set_option maxRecDepth 20000 in
theorem ggX3_tick_X4_pass_4 : GoodIn wsX3_tick wsX90 := goodIn_r _ [314, 315, 316, 317, 318, 319] (by decide +kernel) (by decide +kernel)
set_option maxRecDepth 20000 in
theorem ggX3_tick_X4_pass_5 : GoodIn wsX3_tick wsX40 := goodIn_r _ [342, 343, 344, 345, 346, 347, 348] (by decide +kernel) (by decide +kernel)
set_option maxRecDepth 20000 in
theorem ggX3_tick_X4_pass_6 : GoodIn wsX3_tick wsX80 := goodIn_r _ [338, 339, 340, 341] (by decide +kernel) (by decide +kernel)
theorem ggX3_tick_X4_pass : GoodIn wsX3_tick wsX4_pass := (goodIn_app (a := [.code yX4_pass cX4_pass 3 none]) ggX3_tick_X4_pass_c (goodIn_app (goodIn_app (goodIn_app (goodIn_app ggX3_tick_X4_pass_1 (goodIn_app ggX3_tick_X4_pass_2 ggX3_tick_X4_pass_3)) ggX3_tick_X4_pass_4) ggX3_tick_X4_pass_5) ggX3_tick_X4_pass_6))
set_option maxRecDepth 20000 in
theorem gX3_tick_X4_pass : GoodIn wsX3_tick (wsV RX3 99 RX4 yX4_pass wsX4_pass) := goodIn_app (goodIn_of _ (by decide +kernel)) ggX3_tick_X4_pass
set_option maxRecDepth 20000 in
theorem ggX3_tick_X0_pass_c : GoodIn wsX3_tick [.code yX0_pass cX0_pass 5 none] := goodIn_r _ [165] (by decide +kernel) (by decide +kernel)
set_option maxRecDepth 20000 in
theorem ggX3_tick_X0_pass_1 : GoodIn wsX3_tick wsX0_pass_r1 := goodIn_r _ [166, 167, 168, 169, 170, 171, 172, 173, 174, 175, 176, 177, 178, 179, 180, 181, 182, 183, 184, 185, 186, 187, 188, 189] (by decide +kernel) (by decide +kernel)
set_option maxRecDepth 20000 in
theorem ggX3_tick_X0_pass_2 : GoodIn wsX3_tick wsX0_pass_r2 := goodIn_r _ [190, 191, 192, 110, 111, 99, 112, 103, 102, 113, 114, 115, 116, 101, 117, 118, 119, 120, 193, 194, 195, 164, 196, 197] (by decide +kernel) (by decide +kernel)
set_option maxRecDepth 20000 in
theorem ggX3_tick_X0_pass_3 : GoodIn wsX3_tick wsX0_pass_r3 := goodIn_r _ [198, 199, 200, 201, 202, 203, 204, 205, 206, 207, 208, 209, 210, 211, 212, 213, 214, 33, 11, 34, 215, 79, 80, 81] (by decide +kernel) (by decide +kernel)
set_option maxRecDepth 20000 in
theorem ggX3_tick_X0_pass_4 : GoodIn wsX3_tick wsX0_pass_r4 := goodIn_r _ [82, 83, 84, 85, 86, 87, 88, 89, 216, 217, 218, 219, 220, 221, 222, 223, 224, 225, 226, 227, 228, 229, 230, 231] (by decide +kernel) (by decide +kernel)
set_option maxRecDepth 20000 in
theorem ggX3_tick_X0_pass_5 : GoodIn wsX3_tick wsX0_pass_r5 := goodIn_r _ [232, 233, 234, 235, 236, 237, 238, 97, 98, 100, 104, 105, 106, 107, 108, 239, 240, 241, 242] (by decide +kernel) (by decide +kernel)
set_option maxRecDepth 20000 in
theorem ggX3_tick_X0_pass_6 : GoodIn wsX3_tick wsX00 := goodIn_r _ [349, 350, 351, 352, 353, 354, 355, 356, 357] (by decide +kernel) (by decide +kernel)
set_option maxRecDepth 20000 in
theorem ggX3_tick_X0_pass_7 : GoodIn wsX3_tick wsX20 := goodIn_r _ [358, 359, 360, 361, 362, 363, 364, 365, 366, 367, 368, 369, 370, 371] (by decide +kernel) (by decide +kernel)
set_option maxRecDepth 20000 in
theorem ggX3_tick_X0_pass_8 : GoodIn wsX3_tick wsX90 := goodIn_r _ [314, 315, 316, 317, 318, 319] (by decide +kernel) (by decide +kernel)
set_option maxRecDepth 20000 in
theorem ggX3_tick_X0_pass_9 : GoodIn wsX3_tick wsX60 := goodIn_r _ [325, 326, 327, 328, 329, 330, 331, 332, 333, 334, 335, 336, 337] (by decide +kernel) (by decide +kernel)
set_option maxRecDepth 20000 in
theorem ggX3_tick_X0_pass_10 : GoodIn wsX3_tick wsX80 := goodIn_r _ [338, 339, 340, 341] (by decide +kernel) (by decide +kernel)
theorem ggX3_tick_X0_pass : GoodIn wsX3_tick wsX0_pass := (goodIn_app (a := [.code yX0_pass cX0_pass 5 none]) ggX3_tick_X0_pass_c (goodIn_app (goodIn_app (goodIn_app (goodIn_app (goodIn_app (goodIn_app ggX3_tick_X0_pass_1 (goodIn_app ggX3_tick_X0_pass_2 (goodIn_app ggX3_tick_X0_pass_3 (goodIn_app ggX3_tick_X0_pass_4 ggX3_tick_X0_pass_5)))) ggX3_tick_X0_pass_6) ggX3_tick_X0_pass_7) ggX3_tick_X0_pass_8) ggX3_tick_X0_pass_9) ggX3_tick_X0_pass_10))
set_option maxRecDepth 20000 in
theorem gX3_tick_X0_pass : GoodIn wsX3_tick (wsV RX3 103 RX0 yX0_pass wsX0_pass) := goodIn_app (goodIn_of _ (by decide +kernel)) ggX3_tick_X0_pass
set_option maxRecDepth 20000 in
theorem ggX3_tick_X7_pass_c : GoodIn wsX3_tick [.code yX7_pass cX7_pass 7 none] := goodIn_r _ [247] (by decide +kernel) (by decide +kernel)
set_option maxRecDepth 20000 in
theorem ggX3_tick_X7_pass_1 : GoodIn wsX3_tick wsX7_pass_r1 := goodIn_r _ [248, 249, 250, 251, 252, 253, 254, 255, 256, 246, 257, 258, 259, 260, 261, 262, 263, 264, 265, 266, 267, 268, 269, 270] (by decide +kernel) (by decide +kernel)
set_option maxRecDepth 20000 in
theorem ggX3_tick_X7_pass_2 : GoodIn wsX3_tick wsX7_pass_r2 := goodIn_r _ [271, 272, 273, 274, 275, 276, 81, 277, 278, 279, 280, 281, 282, 283, 284, 285, 286, 287, 288, 289, 290, 291, 292, 293] (by decide +kernel) (by decide +kernel)
set_option maxRecDepth 20000 in
theorem ggX3_tick_X7_pass_3 : GoodIn wsX3_tick wsX90 := goodIn_r _ [314, 315, 316, 317, 318, 319] (by decide +kernel) (by decide +kernel)
set_option maxRecDepth 20000 in
theorem ggX3_tick_X7_pass_4 : GoodIn wsX3_tick wsX70 := goodIn_r _ [372, 373, 374, 375] (by decide +kernel) (by decide +kernel)
set_option maxRecDepth 20000 in
theorem ggX3_tick_X7_pass_5 : GoodIn wsX3_tick wsX60 := goodIn_r _ [325, 326, 327, 328, 329, 330, 331, 332, 333, 334, 335, 336, 337] (by decide +kernel) (by decide +kernel)
set_option maxRecDepth 20000 in
theorem ggX3_tick_X7_pass_6 : GoodIn wsX3_tick wsX10 := goodIn_r _ [376, 377, 378] (by decide +kernel) (by decide +kernel)
theorem ggX3_tick_X7_pass : GoodIn wsX3_tick wsX7_pass := (goodIn_app (a := [.code yX7_pass cX7_pass 7 none]) ggX3_tick_X7_pass_c (goodIn_app (goodIn_app (goodIn_app (goodIn_app (goodIn_app ggX3_tick_X7_pass_1 ggX3_tick_X7_pass_2) ggX3_tick_X7_pass_3) ggX3_tick_X7_pass_4) ggX3_tick_X7_pass_5) ggX3_tick_X7_pass_6))
set_option maxRecDepth 20000 in
theorem gX3_tick_X7_pass : GoodIn wsX3_tick (wsV RX3 105 RX7 yX7_pass wsX7_pass) := goodIn_app (goodIn_of _ (by decide +kernel)) ggX3_tick_X7_pass
set_option maxRecDepth 20000 in
theorem ggX3_tick_X1_countUp : GoodIn wsX3_tick wsX1_countUp := goodIn_r _ [297, 285, 270, 271, 272, 325, 326, 327, 328, 329, 330, 331, 332, 333, 334, 335, 336, 337, 376, 377, 378] (by decide +kernel) (by decide +kernel)
set_option maxRecDepth 20000 in
theorem gX3_tick_X1_countUp : GoodIn wsX3_tick (wsV RX3 108 RX1 yX1_countUp wsX1_countUp) := goodIn_app (goodIn_of _ (by decide +kernel)) ggX3_tick_X1_countUp
set_option maxRecDepth 20000 in
theorem ggX3_tick_X9_remember : GoodIn wsX3_tick wsX9_remember := goodIn_r _ [301, 13, 302, 303, 304, 305, 306, 314, 315, 316, 317, 318, 319] (by decide +kernel) (by decide +kernel)
set_option maxRecDepth 20000 in
theorem gX3_tick_X9_remember : GoodIn wsX3_tick (wsV RX3 112 RX9 yX9_remember wsX9_remember) := goodIn_app (goodIn_of _ (by decide +kernel)) ggX3_tick_X9_remember
theorem dX3_tick_0 : decode cX3_tick 0 = .ok (.aload_n 0, 1) := by decide +kernel
theorem dX3_tick_1 : decode cX3_tick 1 = .ok (.getfield 12, 3) := by decide +kernel
theorem dX3_tick_4 : decode cX3_tick 4 = .ok (.aload_n 0, 1) := by decide +kernel
theorem dX3_tick_5 : decode cX3_tick 5 = .ok (.getfield 63, 3) := by decide +kernel
theorem dX3_tick_8 : decode cX3_tick 8 = .ok (.invokevirtual 91, 3) := by decide +kernel
theorem dX3_tick_11 : decode cX3_tick 11 = .ok (.aload_n 0, 1) := by decide +kernel
theorem dX3_tick_12 : decode cX3_tick 12 = .ok (.getfield 49, 3) := by decide +kernel
theorem dX3_tick_15 : decode cX3_tick 15 = .ok (.aload_n 1, 1) := by decide +kernel
theorem dX3_tick_16 : decode cX3_tick 16 = .ok (.aload_n 0, 1) := by decide +kernel
theorem dX3_tick_17 : decode cX3_tick 17 = .ok (.getfield 12, 3) := by decide +kernel
theorem dX3_tick_20 : decode cX3_tick 20 = .ok (.aload_n 0, 1) := by decide +kernel
theorem dX3_tick_21 : decode cX3_tick 21 = .ok (.getfield 63, 3) := by decide +kernel
theorem dX3_tick_24 : decode cX3_tick 24 = .ok (.invokevirtual 95, 3) := by decide +kernel
theorem dX3_tick_27 : decode cX3_tick 27 = .ok (.aload_n 0, 1) := by decide +kernel
theorem dX3_tick_28 : decode cX3_tick 28 = .ok (.getfield 28, 3) := by decide +kernel
theorem dX3_tick_31 : decode cX3_tick 31 = .ok (.aload_n 0, 1) := by decide +kernel
theorem dX3_tick_32 : decode cX3_tick 32 = .ok (.getfield 12, 3) := by decide +kernel
theorem dX3_tick_35 : decode cX3_tick 35 = .ok (.aload_n 0, 1) := by decide +kernel
theorem dX3_tick_36 : decode cX3_tick 36 = .ok (.getfield 63, 3) := by decide +kernel
theorem dX3_tick_39 : decode cX3_tick 39 = .ok (.invokevirtual 99, 3) := by decide +kernel
theorem dX3_tick_42 : decode cX3_tick 42 = .ok (.aload_n 0, 1) := by decide +kernel
theorem dX3_tick_43 : decode cX3_tick 43 = .ok (.getfield 35, 3) := by decide +kernel
theorem dX3_tick_46 : decode cX3_tick 46 = .ok (.aload_n 1, 1) := by decide +kernel
theorem dX3_tick_47 : decode cX3_tick 47 = .ok (.aload_n 0, 1) := by decide +kernel
theorem dX3_tick_48 : decode cX3_tick 48 = .ok (.getfield 12, 3) := by decide +kernel
theorem dX3_tick_51 : decode cX3_tick 51 = .ok (.aload_n 0, 1) := by decide +kernel
theorem dX3_tick_52 : decode cX3_tick 52 = .ok (.getfield 63, 3) := by decide +kernel
theorem dX3_tick_55 : decode cX3_tick 55 = .ok (.invokevirtual 103, 3) := by decide +kernel
theorem dX3_tick_58 : decode cX3_tick 58 = .ok (.aload_n 0, 1) := by decide +kernel
theorem dX3_tick_59 : decode cX3_tick 59 = .ok (.getfield 42, 3) := by decide +kernel
theorem dX3_tick_62 : decode cX3_tick 62 = .ok (.aload_n 1, 1) := by decide +kernel
theorem dX3_tick_63 : decode cX3_tick 63 = .ok (.aload_n 0, 1) := by decide +kernel
theorem dX3_tick_64 : decode cX3_tick 64 = .ok (.getfield 21, 3) := by decide +kernel
theorem dX3_tick_67 : decode cX3_tick 67 = .ok (.aload_n 0, 1) := by decide +kernel
theorem dX3_tick_68 : decode cX3_tick 68 = .ok (.getfield 12, 3) := by decide +kernel
theorem dX3_tick_71 : decode cX3_tick 71 = .ok (.invokevirtual 105, 3) := by decide +kernel
theorem dX3_tick_74 : decode cX3_tick 74 = .ok (.aload_n 0, 1) := by decide +kernel
theorem dX3_tick_75 : decode cX3_tick 75 = .ok (.getfield 21, 3) := by decide +kernel
theorem dX3_tick_78 : decode cX3_tick 78 = .ok (.aload_n 1, 1) := by decide +kernel
theorem dX3_tick_79 : decode cX3_tick 79 = .ok (.iconst 1, 1) := by decide +kernel
theorem dX3_tick_80 : decode cX3_tick 80 = .ok (.invokevirtual 108, 3) := by decide +kernel
theorem dX3_tick_83 : decode cX3_tick 83 = .ok (.aload_n 0, 1) := by decide +kernel
theorem dX3_tick_84 : decode cX3_tick 84 = .ok (.getfield 12, 3) := by decide +kernel
theorem dX3_tick_87 : decode cX3_tick 87 = .ok (.invokevirtual 112, 3) := by decide +kernel
theorem dX3_tick_90 : decode cX3_tick 90 = .ok (.aload_n 0, 1) := by decide +kernel
theorem dX3_tick_91 : decode cX3_tick 91 = .ok (.dup, 1) := by decide +kernel
theorem dX3_tick_92 : decode cX3_tick 92 = .ok (.getfield 63, 3) := by decide +kernel
theorem dX3_tick_95 : decode cX3_tick 95 = .ok (.iconst 1, 1) := by decide +kernel
theorem dX3_tick_96 : decode cX3_tick 96 = .ok (.iadd, 1) := by decide +kernel
theorem dX3_tick_97 : decode cX3_tick 97 = .ok (.putfield 63, 3) := by decide +kernel
theorem dX3_tick_100 : decode cX3_tick 100 = .ok (.return_, 1) := by decide +kernel
set_option maxRecDepth 20000 in
theorem ggX3_firstDifference_X9_firstDifference : GoodIn wsX3_firstDifference wsX9_firstDifference := goodIn_r _ [9, 10, 21, 22, 23, 24, 25, 26] (by decide +kernel) (by decide +kernel)
set_option maxRecDepth 20000 in
theorem gX3_firstDifference_X9_firstDifference : GoodIn wsX3_firstDifference (wsV RX3 115 RX9 yX9_firstDifference wsX9_firstDifference) := goodIn_app (goodIn_of _ (by decide +kernel)) ggX3_firstDifference_X9_firstDifference
theorem dX3_firstDifference_0 : decode cX3_firstDifference 0 = .ok (.aload_n 0, 1) := by decide +kernel
theorem dX3_firstDifference_1 : decode cX3_firstDifference 1 = .ok (.getfield 12, 3) := by decide +kernel
theorem dX3_firstDifference_4 : decode cX3_firstDifference 4 = .ok (.aload_n 1, 1) := by decide +kernel
theorem dX3_firstDifference_5 : decode cX3_firstDifference 5 = .ok (.getfield 12, 3) := by decide +kernel
theorem dX3_firstDifference_8 : decode cX3_firstDifference 8 = .ok (.invokevirtual 115, 3) := by decide +kernel
theorem dX3_firstDifference_11 : decode cX3_firstDifference 11 = .ok (.istore_n 3, 1) := by decide +kernel
theorem dX3_firstDifference_12 : decode cX3_firstDifference 12 = .ok (.iload_n 3, 1) := by decide +kernel
theorem dX3_firstDifference_13 : decode cX3_firstDifference 13 = .ok (.bipush 15, 2) := by decide +kernel
theorem dX3_firstDifference_15 : decode cX3_firstDifference 15 = .ok (.if_icmp .ge 5, 3) := by decide +kernel
theorem dX3_firstDifference_18 : decode cX3_firstDifference 18 = .ok (.iload_n 3, 1) := by decide +kernel
theorem dX3_firstDifference_19 : decode cX3_firstDifference 19 = .ok (.ireturn, 1) := by decide +kernel
theorem dX3_firstDifference_20 : decode cX3_firstDifference 20 = .ok (.iconst 0, 1) := by decide +kernel
theorem dX3_firstDifference_21 : decode cX3_firstDifference 21 = .ok (.istore 4, 2) := by decide +kernel
theorem dX3_firstDifference_23 : decode cX3_firstDifference 23 = .ok (.iload 4, 2) := by decide +kernel
theorem dX3_firstDifference_25 : decode cX3_firstDifference 25 = .ok (.iload_n 2, 1) := by decide +kernel
theorem dX3_firstDifference_26 : decode cX3_firstDifference 26 = .ok (.if_icmp .ge 35, 3) := by decide +kernel
theorem dX3_firstDifference_29 : decode cX3_firstDifference 29 = .ok (.aload_n 0, 1) := by decide +kernel
theorem dX3_firstDifference_30 : decode cX3_firstDifference 30 = .ok (.getfield 21, 3) := by decide +kernel
theorem dX3_firstDifference_33 : decode cX3_firstDifference 33 = .ok (.getfield 119, 3) := by decide +kernel
theorem dX3_firstDifference_36 : decode cX3_firstDifference 36 = .ok (.iload 4, 2) := by decide +kernel
theorem dX3_firstDifference_38 : decode cX3_firstDifference 38 = .ok (.iaload, 1) := by decide +kernel
theorem dX3_firstDifference_39 : decode cX3_firstDifference 39 = .ok (.aload_n 1, 1) := by decide +kernel
theorem dX3_firstDifference_40 : decode cX3_firstDifference 40 = .ok (.getfield 21, 3) := by decide +kernel
theorem dX3_firstDifference_43 : decode cX3_firstDifference 43 = .ok (.getfield 119, 3) := by decide +kernel
theorem dX3_firstDifference_46 : decode cX3_firstDifference 46 = .ok (.iload 4, 2) := by decide +kernel
theorem dX3_firstDifference_48 : decode cX3_firstDifference 48 = .ok (.iaload, 1) := by decide +kernel
theorem dX3_firstDifference_49 : decode cX3_firstDifference 49 = .ok (.if_icmp .eq 6, 3) := by decide +kernel
theorem dX3_firstDifference_52 : decode cX3_firstDifference 52 = .ok (.bipush 15, 2) := by decide +kernel
theorem dX3_firstDifference_54 : decode cX3_firstDifference 54 = .ok (.ireturn, 1) := by decide +kernel
theorem dX3_firstDifference_55 : decode cX3_firstDifference 55 = .ok (.iinc 4 1, 3) := by decide +kernel
theorem dX3_firstDifference_58 : decode cX3_firstDifference 58 = .ok (.goto (-35), 3) := by decide +kernel
theorem dX3_firstDifference_61 : decode cX3_firstDifference 61 = .ok (.aload_n 0, 1) := by decide +kernel
theorem dX3_firstDifference_62 : decode cX3_firstDifference 62 = .ok (.getfield 63, 3) := by decide +kernel
theorem dX3_firstDifference_65 : decode cX3_firstDifference 65 = .ok (.aload_n 1, 1) := by decide +kernel
theorem dX3_firstDifference_66 : decode cX3_firstDifference 66 = .ok (.getfield 63, 3) := by decide +kernel
theorem dX3_firstDifference_69 : decode cX3_firstDifference 69 = .ok (.if_icmp .eq 8, 3) := by decide +kernel
theorem dX3_firstDifference_72 : decode cX3_firstDifference 72 = .ok (.bipush 16, 2) := by decide +kernel
theorem dX3_firstDifference_74 : decode cX3_firstDifference 74 = .ok (.goto 5, 3) := by decide +kernel
theorem dX3_firstDifference_77 : decode cX3_firstDifference 77 = .ok (.bipush (-6), 2) := by decide +kernel
theorem dX3_firstDifference_79 : decode cX3_firstDifference 79 = .ok (.ireturn, 1) := by decide +kernel
set_option maxRecDepth 20000 in
theorem ggX4_init_X8_init : GoodIn wsX4_init wsX8_init := goodIn_r _ [10, 11, 2, 3, 12, 13, 14, 15, 16, 17, 18, 19, 20, 21, 22, 23] (by decide +kernel) (by decide +kernel)
set_option maxRecDepth 20000 in
theorem gX4_init_X8_init : GoodIn wsX4_init (wsX8_init) := ggX4_init_X8_init
theorem dX4_init_0 : decode cX4_init 0 = .ok (.aload_n 0, 1) := by decide +kernel
theorem dX4_init_1 : decode cX4_init 1 = .ok (.invokespecial 3, 3) := by decide +kernel
theorem dX4_init_4 : decode cX4_init 4 = .ok (.aload_n 0, 1) := by decide +kernel
theorem dX4_init_5 : decode cX4_init 5 = .ok (.new 9, 3) := by decide +kernel
theorem dX4_init_8 : decode cX4_init 8 = .ok (.dup, 1) := by decide +kernel
theorem dX4_init_9 : decode cX4_init 9 = .ok (.bipush 60, 2) := by decide +kernel
theorem dX4_init_11 : decode cX4_init 11 = .ok (.bipush 9, 2) := by decide +kernel
theorem dX4_init_13 : decode cX4_init 13 = .ok (.invokespecial 13, 3) := by decide +kernel
theorem dX4_init_16 : decode cX4_init 16 = .ok (.putfield 16, 3) := by decide +kernel
theorem dX4_init_19 : decode cX4_init 19 = .ok (.return_, 1) := by decide +kernel
set_option maxRecDepth 20000 in
theorem ggX4_clear_X8_clear : GoodIn wsX4_clear wsX8_clear := goodIn_r _ [12, 13, 21, 22, 23, 24] (by decide +kernel) (by decide +kernel)
set_option maxRecDepth 20000 in
theorem gX4_clear_X8_clear : GoodIn wsX4_clear (wsV RX4 20 RX8 yX8_clear wsX8_clear) := goodIn_app (goodIn_of _ (by decide +kernel)) ggX4_clear_X8_clear
theorem dX4_clear_0 : decode cX4_clear 0 = .ok (.aload_n 0, 1) := by decide +kernel
theorem dX4_clear_1 : decode cX4_clear 1 = .ok (.getfield 16, 3) := by decide +kernel
theorem dX4_clear_4 : decode cX4_clear 4 = .ok (.invokevirtual 20, 3) := by decide +kernel
theorem dX4_clear_7 : decode cX4_clear 7 = .ok (.aload_n 0, 1) := by decide +kernel
theorem dX4_clear_8 : decode cX4_clear 8 = .ok (.iconst (-1), 1) := by decide +kernel
theorem dX4_clear_9 : decode cX4_clear 9 = .ok (.putfield 23, 3) := by decide +kernel
theorem dX4_clear_12 : decode cX4_clear 12 = .ok (.aload_n 0, 1) := by decide +kernel
theorem dX4_clear_13 : decode cX4_clear 13 = .ok (.iconst (-1), 1) := by decide +kernel
theorem dX4_clear_14 : decode cX4_clear 14 = .ok (.putfield 27, 3) := by decide +kernel
theorem dX4_clear_17 : decode cX4_clear 17 = .ok (.aload_n 0, 1) := by decide +kernel
theorem dX4_clear_18 : decode cX4_clear 18 = .ok (.iconst 0, 1) := by decide +kernel
theorem dX4_clear_19 : decode cX4_clear 19 = .ok (.putfield 30, 3) := by decide +kernel
theorem dX4_clear_22 : decode cX4_clear 22 = .ok (.aload_n 0, 1) := by decide +kernel
theorem dX4_clear_23 : decode cX4_clear 23 = .ok (.iconst 0, 1) := by decide +kernel
theorem dX4_clear_24 : decode cX4_clear 24 = .ok (.putfield 33, 3) := by decide +kernel
theorem dX4_clear_27 : decode cX4_clear 27 = .ok (.aload_n 0, 1) := by decide +kernel
theorem dX4_clear_28 : decode cX4_clear 28 = .ok (.iconst 0, 1) := by decide +kernel
theorem dX4_clear_29 : decode cX4_clear 29 = .ok (.putfield 36, 3) := by decide +kernel
theorem dX4_clear_32 : decode cX4_clear 32 = .ok (.aload_n 0, 1) := by decide +kernel
theorem dX4_clear_33 : decode cX4_clear 33 = .ok (.iconst 0, 1) := by decide +kernel
theorem dX4_clear_34 : decode cX4_clear 34 = .ok (.putfield 39, 3) := by decide +kernel
theorem dX4_clear_37 : decode cX4_clear 37 = .ok (.return_, 1) := by decide +kernel
set_option maxRecDepth 20000 in
theorem ggX4_copyFrom_X8_copyFrom : GoodIn wsX4_copyFrom wsX8_copyFrom := goodIn_r _ [12, 13, 14, 15, 16, 17, 18, 19, 27, 28, 29, 30] (by decide +kernel) (by decide +kernel)
set_option maxRecDepth 20000 in
theorem gX4_copyFrom_X8_copyFrom : GoodIn wsX4_copyFrom (wsV RX4 42 RX8 yX8_copyFrom wsX8_copyFrom) := goodIn_app (goodIn_of _ (by decide +kernel)) ggX4_copyFrom_X8_copyFrom
theorem dX4_copyFrom_0 : decode cX4_copyFrom 0 = .ok (.aload_n 0, 1) := by decide +kernel
theorem dX4_copyFrom_1 : decode cX4_copyFrom 1 = .ok (.getfield 16, 3) := by decide +kernel
theorem dX4_copyFrom_4 : decode cX4_copyFrom 4 = .ok (.aload_n 1, 1) := by decide +kernel
theorem dX4_copyFrom_5 : decode cX4_copyFrom 5 = .ok (.getfield 16, 3) := by decide +kernel
theorem dX4_copyFrom_8 : decode cX4_copyFrom 8 = .ok (.invokevirtual 42, 3) := by decide +kernel
theorem dX4_copyFrom_11 : decode cX4_copyFrom 11 = .ok (.aload_n 0, 1) := by decide +kernel
theorem dX4_copyFrom_12 : decode cX4_copyFrom 12 = .ok (.aload_n 1, 1) := by decide +kernel
theorem dX4_copyFrom_13 : decode cX4_copyFrom 13 = .ok (.getfield 23, 3) := by decide +kernel
theorem dX4_copyFrom_16 : decode cX4_copyFrom 16 = .ok (.putfield 23, 3) := by decide +kernel
theorem dX4_copyFrom_19 : decode cX4_copyFrom 19 = .ok (.aload_n 0, 1) := by decide +kernel
theorem dX4_copyFrom_20 : decode cX4_copyFrom 20 = .ok (.aload_n 1, 1) := by decide +kernel
theorem dX4_copyFrom_21 : decode cX4_copyFrom 21 = .ok (.getfield 27, 3) := by decide +kernel
theorem dX4_copyFrom_24 : decode cX4_copyFrom 24 = .ok (.putfield 27, 3) := by decide +kernel
theorem dX4_copyFrom_27 : decode cX4_copyFrom 27 = .ok (.aload_n 0, 1) := by decide +kernel
theorem dX4_copyFrom_28 : decode cX4_copyFrom 28 = .ok (.aload_n 1, 1) := by decide +kernel
theorem dX4_copyFrom_29 : decode cX4_copyFrom 29 = .ok (.getfield 30, 3) := by decide +kernel
theorem dX4_copyFrom_32 : decode cX4_copyFrom 32 = .ok (.putfield 30, 3) := by decide +kernel
theorem dX4_copyFrom_35 : decode cX4_copyFrom 35 = .ok (.aload_n 0, 1) := by decide +kernel
theorem dX4_copyFrom_36 : decode cX4_copyFrom 36 = .ok (.aload_n 1, 1) := by decide +kernel
theorem dX4_copyFrom_37 : decode cX4_copyFrom 37 = .ok (.getfield 33, 3) := by decide +kernel
theorem dX4_copyFrom_40 : decode cX4_copyFrom 40 = .ok (.putfield 33, 3) := by decide +kernel
theorem dX4_copyFrom_43 : decode cX4_copyFrom 43 = .ok (.aload_n 0, 1) := by decide +kernel
theorem dX4_copyFrom_44 : decode cX4_copyFrom 44 = .ok (.aload_n 1, 1) := by decide +kernel
theorem dX4_copyFrom_45 : decode cX4_copyFrom 45 = .ok (.getfield 36, 3) := by decide +kernel
theorem dX4_copyFrom_48 : decode cX4_copyFrom 48 = .ok (.putfield 36, 3) := by decide +kernel
theorem dX4_copyFrom_51 : decode cX4_copyFrom 51 = .ok (.aload_n 0, 1) := by decide +kernel
theorem dX4_copyFrom_52 : decode cX4_copyFrom 52 = .ok (.aload_n 1, 1) := by decide +kernel
theorem dX4_copyFrom_53 : decode cX4_copyFrom 53 = .ok (.getfield 39, 3) := by decide +kernel
theorem dX4_copyFrom_56 : decode cX4_copyFrom 56 = .ok (.putfield 39, 3) := by decide +kernel
theorem dX4_copyFrom_59 : decode cX4_copyFrom 59 = .ok (.return_, 1) := by decide +kernel
set_option maxRecDepth 20000 in
theorem ggX4_addTransfer_X8_add : GoodIn wsX4_addTransfer wsX8_add := goodIn_r _ [6, 7, 8, 9, 10, 11, 12, 5, 13, 14, 34, 35, 36, 37] (by decide +kernel) (by decide +kernel)
set_option maxRecDepth 20000 in
theorem gX4_addTransfer_X8_add : GoodIn wsX4_addTransfer (wsV RX4 46 RX8 yX8_add wsX8_add) := goodIn_app (goodIn_of _ (by decide +kernel)) ggX4_addTransfer_X8_add
set_option maxRecDepth 20000 in
theorem ggX4_addTransfer_X8_put : GoodIn wsX4_addTransfer wsX8_put := goodIn_r _ [18, 9, 8, 19, 20, 21, 5, 22, 7, 23, 24, 25, 26, 34, 35, 36, 37] (by decide +kernel) (by decide +kernel)
set_option maxRecDepth 20000 in
theorem gX4_addTransfer_X8_put : GoodIn wsX4_addTransfer (wsV RX4 50 RX8 yX8_put wsX8_put) := goodIn_app (goodIn_of _ (by decide +kernel)) ggX4_addTransfer_X8_put
theorem dX4_addTransfer_0 : decode cX4_addTransfer 0 = .ok (.aload_n 0, 1) := by decide +kernel
theorem dX4_addTransfer_1 : decode cX4_addTransfer 1 = .ok (.getfield 16, 3) := by decide +kernel
theorem dX4_addTransfer_4 : decode cX4_addTransfer 4 = .ok (.invokevirtual 46, 3) := by decide +kernel
theorem dX4_addTransfer_7 : decode cX4_addTransfer 7 = .ok (.istore 6, 2) := by decide +kernel
theorem dX4_addTransfer_9 : decode cX4_addTransfer 9 = .ok (.aload_n 0, 1) := by decide +kernel
theorem dX4_addTransfer_10 : decode cX4_addTransfer 10 = .ok (.getfield 16, 3) := by decide +kernel
theorem dX4_addTransfer_13 : decode cX4_addTransfer 13 = .ok (.iload 6, 2) := by decide +kernel
theorem dX4_addTransfer_15 : decode cX4_addTransfer 15 = .ok (.iconst 2, 1) := by decide +kernel
theorem dX4_addTransfer_16 : decode cX4_addTransfer 16 = .ok (.bipush (-6), 2) := by decide +kernel
theorem dX4_addTransfer_18 : decode cX4_addTransfer 18 = .ok (.invokevirtual 50, 3) := by decide +kernel
theorem dX4_addTransfer_21 : decode cX4_addTransfer 21 = .ok (.aload_n 0, 1) := by decide +kernel
theorem dX4_addTransfer_22 : decode cX4_addTransfer 22 = .ok (.getfield 16, 3) := by decide +kernel
theorem dX4_addTransfer_25 : decode cX4_addTransfer 25 = .ok (.iload 6, 2) := by decide +kernel
theorem dX4_addTransfer_27 : decode cX4_addTransfer 27 = .ok (.iconst 3, 1) := by decide +kernel
theorem dX4_addTransfer_28 : decode cX4_addTransfer 28 = .ok (.bipush (-6), 2) := by decide +kernel
theorem dX4_addTransfer_30 : decode cX4_addTransfer 30 = .ok (.invokevirtual 50, 3) := by decide +kernel
theorem dX4_addTransfer_33 : decode cX4_addTransfer 33 = .ok (.aload_n 0, 1) := by decide +kernel
theorem dX4_addTransfer_34 : decode cX4_addTransfer 34 = .ok (.getfield 16, 3) := by decide +kernel
theorem dX4_addTransfer_37 : decode cX4_addTransfer 37 = .ok (.iload 6, 2) := by decide +kernel
theorem dX4_addTransfer_39 : decode cX4_addTransfer 39 = .ok (.iconst 4, 1) := by decide +kernel
theorem dX4_addTransfer_40 : decode cX4_addTransfer 40 = .ok (.iload_n 1, 1) := by decide +kernel
theorem dX4_addTransfer_41 : decode cX4_addTransfer 41 = .ok (.invokevirtual 50, 3) := by decide +kernel
theorem dX4_addTransfer_44 : decode cX4_addTransfer 44 = .ok (.aload_n 0, 1) := by decide +kernel
theorem dX4_addTransfer_45 : decode cX4_addTransfer 45 = .ok (.getfield 16, 3) := by decide +kernel
theorem dX4_addTransfer_48 : decode cX4_addTransfer 48 = .ok (.iload 6, 2) := by decide +kernel
theorem dX4_addTransfer_50 : decode cX4_addTransfer 50 = .ok (.iconst 5, 1) := by decide +kernel
theorem dX4_addTransfer_51 : decode cX4_addTransfer 51 = .ok (.iload_n 2, 1) := by decide +kernel
theorem dX4_addTransfer_52 : decode cX4_addTransfer 52 = .ok (.invokevirtual 50, 3) := by decide +kernel
theorem dX4_addTransfer_55 : decode cX4_addTransfer 55 = .ok (.aload_n 0, 1) := by decide +kernel
theorem dX4_addTransfer_56 : decode cX4_addTransfer 56 = .ok (.getfield 16, 3) := by decide +kernel
theorem dX4_addTransfer_59 : decode cX4_addTransfer 59 = .ok (.iload 6, 2) := by decide +kernel
theorem dX4_addTransfer_61 : decode cX4_addTransfer 61 = .ok (.bipush 6, 2) := by decide +kernel
theorem dX4_addTransfer_63 : decode cX4_addTransfer 63 = .ok (.iload_n 3, 1) := by decide +kernel
theorem dX4_addTransfer_64 : decode cX4_addTransfer 64 = .ok (.invokevirtual 50, 3) := by decide +kernel
theorem dX4_addTransfer_67 : decode cX4_addTransfer 67 = .ok (.aload_n 0, 1) := by decide +kernel
theorem dX4_addTransfer_68 : decode cX4_addTransfer 68 = .ok (.getfield 16, 3) := by decide +kernel
theorem dX4_addTransfer_71 : decode cX4_addTransfer 71 = .ok (.iload 6, 2) := by decide +kernel
theorem dX4_addTransfer_73 : decode cX4_addTransfer 73 = .ok (.bipush 7, 2) := by decide +kernel
theorem dX4_addTransfer_75 : decode cX4_addTransfer 75 = .ok (.iload 4, 2) := by decide +kernel
theorem dX4_addTransfer_77 : decode cX4_addTransfer 77 = .ok (.invokevirtual 50, 3) := by decide +kernel
theorem dX4_addTransfer_80 : decode cX4_addTransfer 80 = .ok (.aload_n 0, 1) := by decide +kernel
theorem dX4_addTransfer_81 : decode cX4_addTransfer 81 = .ok (.getfield 16, 3) := by decide +kernel
theorem dX4_addTransfer_84 : decode cX4_addTransfer 84 = .ok (.iload 6, 2) := by decide +kernel
theorem dX4_addTransfer_86 : decode cX4_addTransfer 86 = .ok (.bipush 8, 2) := by decide +kernel
theorem dX4_addTransfer_88 : decode cX4_addTransfer 88 = .ok (.iload 5, 2) := by decide +kernel
theorem dX4_addTransfer_90 : decode cX4_addTransfer 90 = .ok (.invokevirtual 50, 3) := by decide +kernel
theorem dX4_addTransfer_93 : decode cX4_addTransfer 93 = .ok (.iload 6, 2) := by decide +kernel
theorem dX4_addTransfer_95 : decode cX4_addTransfer 95 = .ok (.ireturn, 1) := by decide +kernel
theorem dX4_isIdle_0 : decode cX4_isIdle 0 = .ok (.aload_n 0, 1) := by decide +kernel
theorem dX4_isIdle_1 : decode cX4_isIdle 1 = .ok (.getfield 36, 3) := by decide +kernel
theorem dX4_isIdle_4 : decode cX4_isIdle 4 = .ok (.aload_n 0, 1) := by decide +kernel
theorem dX4_isIdle_5 : decode cX4_isIdle 5 = .ok (.getfield 39, 3) := by decide +kernel
theorem dX4_isIdle_8 : decode cX4_isIdle 8 = .ok (.iadd, 1) := by decide +kernel
theorem dX4_isIdle_9 : decode cX4_isIdle 9 = .ok (.aload_n 0, 1) := by decide +kernel
theorem dX4_isIdle_10 : decode cX4_isIdle 10 = .ok (.getfield 16, 3) := by decide +kernel
theorem dX4_isIdle_13 : decode cX4_isIdle 13 = .ok (.getfield 54, 3) := by decide +kernel
theorem dX4_isIdle_16 : decode cX4_isIdle 16 = .ok (.if_icmp .ne 7, 3) := by decide +kernel
theorem dX4_isIdle_19 : decode cX4_isIdle 19 = .ok (.iconst 1, 1) := by decide +kernel
theorem dX4_isIdle_20 : decode cX4_isIdle 20 = .ok (.goto 4, 3) := by decide +kernel
theorem dX4_isIdle_23 : decode cX4_isIdle 23 = .ok (.iconst 0, 1) := by decide +kernel
theorem dX4_isIdle_24 : decode cX4_isIdle 24 = .ok (.ireturn, 1) := by decide +kernel
set_option maxRecDepth 20000 in
theorem ggX4_pass_X4_endData : GoodIn wsX4_pass wsX4_endData := goodIn_r _ [7, 8, 9, 1, 10, 11, 12, 13, 14, 15, 16, 17, 18, 19, 20, 21, 22, 23, 24, 25, 26, 58, 59, 60, 61, 62, 63, 64, 52, 53, 54, 55, 56, 57, 65, 66, 67, 68] (by decide +kernel) (by decide +kernel)
set_option maxRecDepth 20000 in
theorem gX4_pass_X4_endData : GoodIn wsX4_pass (wsV RX4 63 RX4 yX4_endData wsX4_endData) := goodIn_app (goodIn_of _ (by decide +kernel)) ggX4_pass_X4_endData
set_option maxRecDepth 20000 in
theorem ggX4_pass_X4_moveToData : GoodIn wsX4_pass wsX4_moveToData := goodIn_r _ [30, 2, 8, 9, 31, 11, 12, 13, 14, 15, 16, 17, 18, 19, 20, 21, 22, 23, 24, 25, 26, 32, 33, 34, 35, 58, 59, 60, 61, 62, 63, 64, 52, 53, 54, 55, 56, 57, 65, 66, 67, 68] (by decide +kernel) (by decide +kernel)
set_option maxRecDepth 20000 in
theorem gX4_pass_X4_moveToData : GoodIn wsX4_pass (wsV RX4 67 RX4 yX4_moveToData wsX4_moveToData) := goodIn_app (goodIn_of _ (by decide +kernel)) ggX4_pass_X4_moveToData
set_option maxRecDepth 20000 in
theorem ggX4_pass_X4_beginNext : GoodIn wsX4_pass wsX4_beginNext := goodIn_r _ [39, 40, 9, 41, 31, 42, 2, 32, 33, 34, 14, 35, 16, 17, 18, 19, 20, 21, 22, 23, 24, 25, 26, 11, 12, 13, 15, 58, 59, 60, 61, 62, 63, 64, 65, 66, 67, 68, 52, 53, 54, 55, 56, 57] (by decide +kernel) (by decide +kernel)
set_option maxRecDepth 20000 in
theorem gX4_pass_X4_beginNext : GoodIn wsX4_pass (wsV RX4 71 RX4 yX4_beginNext wsX4_beginNext) := goodIn_app (goodIn_of _ (by decide +kernel)) ggX4_pass_X4_beginNext
set_option maxRecDepth 20000 in
theorem ggX4_pass_X4_cancel : GoodIn wsX4_pass wsX4_cancel := goodIn_r _ [46, 2, 31, 40, 9, 41, 47, 48, 49, 6, 50, 51, 11, 12, 13, 14, 15, 16, 17, 18, 19, 20, 21, 22, 23, 24, 25, 26, 32, 33, 34, 35, 58, 59, 60, 61, 62, 63, 64, 52, 53, 54, 55, 56, 57, 65, 66, 67, 68] (by decide +kernel) (by decide +kernel)
set_option maxRecDepth 20000 in
theorem gX4_pass_X4_cancel : GoodIn wsX4_pass (wsV RX4 74 RX4 yX4_cancel wsX4_cancel) := goodIn_app (goodIn_of _ (by decide +kernel)) ggX4_pass_X4_cancel
theorem dX4_pass_0 : decode cX4_pass 0 = .ok (.aload_n 1, 1) := by decide +kernel
theorem dX4_pass_1 : decode cX4_pass 1 = .ok (.getfield 57, 3) := by decide +kernel
theorem dX4_pass_4 : decode cX4_pass 4 = .ok (.iconst 4, 1) := by decide +kernel
theorem dX4_pass_5 : decode cX4_pass 5 = .ok (.iaload, 1) := by decide +kernel
theorem dX4_pass_6 : decode cX4_pass 6 = .ok (.ifCond .eq 23, 3) := by decide +kernel
theorem dX4_pass_9 : decode cX4_pass 9 = .ok (.aload_n 0, 1) := by decide +kernel
theorem dX4_pass_10 : decode cX4_pass 10 = .ok (.aload_n 1, 1) := by decide +kernel
theorem dX4_pass_11 : decode cX4_pass 11 = .ok (.iload_n 2, 1) := by decide +kernel
theorem dX4_pass_12 : decode cX4_pass 12 = .ok (.invokevirtual 63, 3) := by decide +kernel
theorem dX4_pass_15 : decode cX4_pass 15 = .ok (.aload_n 0, 1) := by decide +kernel
theorem dX4_pass_16 : decode cX4_pass 16 = .ok (.aload_n 1, 1) := by decide +kernel
theorem dX4_pass_17 : decode cX4_pass 17 = .ok (.invokevirtual 67, 3) := by decide +kernel
theorem dX4_pass_20 : decode cX4_pass 20 = .ok (.aload_n 0, 1) := by decide +kernel
theorem dX4_pass_21 : decode cX4_pass 21 = .ok (.aload_n 1, 1) := by decide +kernel
theorem dX4_pass_22 : decode cX4_pass 22 = .ok (.iload_n 2, 1) := by decide +kernel
theorem dX4_pass_23 : decode cX4_pass 23 = .ok (.invokevirtual 71, 3) := by decide +kernel
theorem dX4_pass_26 : decode cX4_pass 26 = .ok (.goto 24, 3) := by decide +kernel
theorem dX4_pass_29 : decode cX4_pass 29 = .ok (.aload_n 1, 1) := by decide +kernel
theorem dX4_pass_30 : decode cX4_pass 30 = .ok (.getfield 57, 3) := by decide +kernel
theorem dX4_pass_33 : decode cX4_pass 33 = .ok (.iconst 5, 1) := by decide +kernel
theorem dX4_pass_34 : decode cX4_pass 34 = .ok (.iaload, 1) := by decide +kernel
theorem dX4_pass_35 : decode cX4_pass 35 = .ok (.ifCond .eq 15, 3) := by decide +kernel
theorem dX4_pass_38 : decode cX4_pass 38 = .ok (.aload_n 0, 1) := by decide +kernel
theorem dX4_pass_39 : decode cX4_pass 39 = .ok (.getfield 23, 3) := by decide +kernel
theorem dX4_pass_42 : decode cX4_pass 42 = .ok (.ifCond .lt 8, 3) := by decide +kernel
theorem dX4_pass_45 : decode cX4_pass 45 = .ok (.aload_n 0, 1) := by decide +kernel
theorem dX4_pass_46 : decode cX4_pass 46 = .ok (.aload_n 1, 1) := by decide +kernel
theorem dX4_pass_47 : decode cX4_pass 47 = .ok (.invokevirtual 74, 3) := by decide +kernel
theorem dX4_pass_50 : decode cX4_pass 50 = .ok (.return_, 1) := by decide +kernel
set_option maxRecDepth 20000 in
theorem ggX4_endData_X8_put : GoodIn wsX4_endData wsX8_put := goodIn_r _ [9, 10, 11, 12, 13, 14, 8, 15, 16, 17, 18, 19, 20, 34, 35, 36, 37] (by decide +kernel) (by decide +kernel)
set_option maxRecDepth 20000 in
theorem gX4_endData_X8_put : GoodIn wsX4_endData (wsV RX4 50 RX8 yX8_put wsX8_put) := goodIn_app (goodIn_of _ (by decide +kernel)) ggX4_endData_X8_put
theorem dX4_endData_0 : decode cX4_endData 0 = .ok (.aload_n 0, 1) := by decide +kernel
theorem dX4_endData_1 : decode cX4_endData 1 = .ok (.getfield 27, 3) := by decide +kernel
theorem dX4_endData_4 : decode cX4_endData 4 = .ok (.ifCond .lt 71, 3) := by decide +kernel
theorem dX4_endData_7 : decode cX4_endData 7 = .ok (.aload_n 0, 1) := by decide +kernel
theorem dX4_endData_8 : decode cX4_endData 8 = .ok (.getfield 16, 3) := by decide +kernel
theorem dX4_endData_11 : decode cX4_endData 11 = .ok (.aload_n 0, 1) := by decide +kernel
theorem dX4_endData_12 : decode cX4_endData 12 = .ok (.getfield 27, 3) := by decide +kernel
theorem dX4_endData_15 : decode cX4_endData 15 = .ok (.iconst 0, 1) := by decide +kernel
theorem dX4_endData_16 : decode cX4_endData 16 = .ok (.aload_n 1, 1) := by decide +kernel
theorem dX4_endData_17 : decode cX4_endData 17 = .ok (.getfield 57, 3) := by decide +kernel
theorem dX4_endData_20 : decode cX4_endData 20 = .ok (.iconst 5, 1) := by decide +kernel
theorem dX4_endData_21 : decode cX4_endData 21 = .ok (.iaload, 1) := by decide +kernel
theorem dX4_endData_22 : decode cX4_endData 22 = .ok (.ifCond .eq 7, 3) := by decide +kernel
theorem dX4_endData_25 : decode cX4_endData 25 = .ok (.iconst 4, 1) := by decide +kernel
theorem dX4_endData_26 : decode cX4_endData 26 = .ok (.goto 4, 3) := by decide +kernel
theorem dX4_endData_29 : decode cX4_endData 29 = .ok (.iconst 3, 1) := by decide +kernel
theorem dX4_endData_30 : decode cX4_endData 30 = .ok (.invokevirtual 50, 3) := by decide +kernel
theorem dX4_endData_33 : decode cX4_endData 33 = .ok (.aload_n 0, 1) := by decide +kernel
theorem dX4_endData_34 : decode cX4_endData 34 = .ok (.getfield 16, 3) := by decide +kernel
theorem dX4_endData_37 : decode cX4_endData 37 = .ok (.aload_n 0, 1) := by decide +kernel
theorem dX4_endData_38 : decode cX4_endData 38 = .ok (.getfield 27, 3) := by decide +kernel
theorem dX4_endData_41 : decode cX4_endData 41 = .ok (.iconst 1, 1) := by decide +kernel
theorem dX4_endData_42 : decode cX4_endData 42 = .ok (.aload_n 1, 1) := by decide +kernel
theorem dX4_endData_43 : decode cX4_endData 43 = .ok (.getfield 57, 3) := by decide +kernel
theorem dX4_endData_46 : decode cX4_endData 46 = .ok (.bipush 6, 2) := by decide +kernel
theorem dX4_endData_48 : decode cX4_endData 48 = .ok (.iaload, 1) := by decide +kernel
theorem dX4_endData_49 : decode cX4_endData 49 = .ok (.invokevirtual 50, 3) := by decide +kernel
theorem dX4_endData_52 : decode cX4_endData 52 = .ok (.aload_n 0, 1) := by decide +kernel
theorem dX4_endData_53 : decode cX4_endData 53 = .ok (.getfield 16, 3) := by decide +kernel
theorem dX4_endData_56 : decode cX4_endData 56 = .ok (.aload_n 0, 1) := by decide +kernel
theorem dX4_endData_57 : decode cX4_endData 57 = .ok (.getfield 27, 3) := by decide +kernel
theorem dX4_endData_60 : decode cX4_endData 60 = .ok (.iconst 3, 1) := by decide +kernel
theorem dX4_endData_61 : decode cX4_endData 61 = .ok (.iload_n 2, 1) := by decide +kernel
theorem dX4_endData_62 : decode cX4_endData 62 = .ok (.invokevirtual 50, 3) := by decide +kernel
theorem dX4_endData_65 : decode cX4_endData 65 = .ok (.aload_n 0, 1) := by decide +kernel
theorem dX4_endData_66 : decode cX4_endData 66 = .ok (.dup, 1) := by decide +kernel
theorem dX4_endData_67 : decode cX4_endData 67 = .ok (.getfield 36, 3) := by decide +kernel
theorem dX4_endData_70 : decode cX4_endData 70 = .ok (.iconst 1, 1) := by decide +kernel
theorem dX4_endData_71 : decode cX4_endData 71 = .ok (.iadd, 1) := by decide +kernel
theorem dX4_endData_72 : decode cX4_endData 72 = .ok (.putfield 36, 3) := by decide +kernel
theorem dX4_endData_75 : decode cX4_endData 75 = .ok (.aload_n 0, 1) := by decide +kernel
theorem dX4_endData_76 : decode cX4_endData 76 = .ok (.iconst (-1), 1) := by decide +kernel
theorem dX4_endData_77 : decode cX4_endData 77 = .ok (.putfield 27, 3) := by decide +kernel
theorem dX4_endData_80 : decode cX4_endData 80 = .ok (.return_, 1) := by decide +kernel
set_option maxRecDepth 20000 in
theorem ggX4_moveToData_X8_put : GoodIn wsX4_moveToData wsX8_put := goodIn_r _ [9, 10, 11, 12, 13, 14, 8, 15, 16, 17, 18, 19, 20, 38, 39, 40, 41] (by decide +kernel) (by decide +kernel)
set_option maxRecDepth 20000 in
theorem gX4_moveToData_X8_put : GoodIn wsX4_moveToData (wsV RX4 50 RX8 yX8_put wsX8_put) := goodIn_app (goodIn_of _ (by decide +kernel)) ggX4_moveToData_X8_put
set_option maxRecDepth 20000 in
theorem ggX4_moveToData_X8_get : GoodIn wsX4_moveToData wsX8_get := goodIn_r _ [24, 10, 11, 12, 13, 14, 8, 15, 16, 17, 18, 19, 20, 38, 39, 40, 41] (by decide +kernel) (by decide +kernel)
set_option maxRecDepth 20000 in
theorem gX4_moveToData_X8_get : GoodIn wsX4_moveToData (wsV RX4 77 RX8 yX8_get wsX8_get) := goodIn_app (goodIn_of _ (by decide +kernel)) ggX4_moveToData_X8_get
theorem dX4_moveToData_0 : decode cX4_moveToData 0 = .ok (.aload_n 0, 1) := by decide +kernel
theorem dX4_moveToData_1 : decode cX4_moveToData 1 = .ok (.aload_n 0, 1) := by decide +kernel
theorem dX4_moveToData_2 : decode cX4_moveToData 2 = .ok (.getfield 23, 3) := by decide +kernel
theorem dX4_moveToData_5 : decode cX4_moveToData 5 = .ok (.putfield 27, 3) := by decide +kernel
theorem dX4_moveToData_8 : decode cX4_moveToData 8 = .ok (.aload_n 0, 1) := by decide +kernel
theorem dX4_moveToData_9 : decode cX4_moveToData 9 = .ok (.iconst (-1), 1) := by decide +kernel
theorem dX4_moveToData_10 : decode cX4_moveToData 10 = .ok (.putfield 23, 3) := by decide +kernel
theorem dX4_moveToData_13 : decode cX4_moveToData 13 = .ok (.aload_n 0, 1) := by decide +kernel
theorem dX4_moveToData_14 : decode cX4_moveToData 14 = .ok (.getfield 27, 3) := by decide +kernel
theorem dX4_moveToData_17 : decode cX4_moveToData 17 = .ok (.ifCond .lt 50, 3) := by decide +kernel
theorem dX4_moveToData_20 : decode cX4_moveToData 20 = .ok (.aload_n 0, 1) := by decide +kernel
theorem dX4_moveToData_21 : decode cX4_moveToData 21 = .ok (.getfield 16, 3) := by decide +kernel
theorem dX4_moveToData_24 : decode cX4_moveToData 24 = .ok (.aload_n 0, 1) := by decide +kernel
theorem dX4_moveToData_25 : decode cX4_moveToData 25 = .ok (.getfield 27, 3) := by decide +kernel
theorem dX4_moveToData_28 : decode cX4_moveToData 28 = .ok (.iconst 0, 1) := by decide +kernel
theorem dX4_moveToData_29 : decode cX4_moveToData 29 = .ok (.iconst 2, 1) := by decide +kernel
theorem dX4_moveToData_30 : decode cX4_moveToData 30 = .ok (.invokevirtual 50, 3) := by decide +kernel
theorem dX4_moveToData_33 : decode cX4_moveToData 33 = .ok (.aload_n 0, 1) := by decide +kernel
theorem dX4_moveToData_34 : decode cX4_moveToData 34 = .ok (.getfield 16, 3) := by decide +kernel
theorem dX4_moveToData_37 : decode cX4_moveToData 37 = .ok (.aload_n 0, 1) := by decide +kernel
theorem dX4_moveToData_38 : decode cX4_moveToData 38 = .ok (.getfield 27, 3) := by decide +kernel
theorem dX4_moveToData_41 : decode cX4_moveToData 41 = .ok (.iconst 5, 1) := by decide +kernel
theorem dX4_moveToData_42 : decode cX4_moveToData 42 = .ok (.invokevirtual 77, 3) := by decide +kernel
theorem dX4_moveToData_45 : decode cX4_moveToData 45 = .ok (.ifCond .eq 22, 3) := by decide +kernel
theorem dX4_moveToData_48 : decode cX4_moveToData 48 = .ok (.aload_n 1, 1) := by decide +kernel
theorem dX4_moveToData_49 : decode cX4_moveToData 49 = .ok (.getfield 81, 3) := by decide +kernel
theorem dX4_moveToData_52 : decode cX4_moveToData 52 = .ok (.iconst 3, 1) := by decide +kernel
theorem dX4_moveToData_53 : decode cX4_moveToData 53 = .ok (.aload_n 0, 1) := by decide +kernel
theorem dX4_moveToData_54 : decode cX4_moveToData 54 = .ok (.getfield 16, 3) := by decide +kernel
theorem dX4_moveToData_57 : decode cX4_moveToData 57 = .ok (.aload_n 0, 1) := by decide +kernel
theorem dX4_moveToData_58 : decode cX4_moveToData 58 = .ok (.getfield 27, 3) := by decide +kernel
theorem dX4_moveToData_61 : decode cX4_moveToData 61 = .ok (.bipush 6, 2) := by decide +kernel
theorem dX4_moveToData_63 : decode cX4_moveToData 63 = .ok (.invokevirtual 77, 3) := by decide +kernel
theorem dX4_moveToData_66 : decode cX4_moveToData 66 = .ok (.iastore, 1) := by decide +kernel
theorem dX4_moveToData_67 : decode cX4_moveToData 67 = .ok (.return_, 1) := by decide +kernel
set_option maxRecDepth 20000 in
theorem ggX4_beginNext_X8_get : GoodIn wsX4_beginNext wsX8_get := goodIn_r _ [11, 12, 13, 14, 15, 16, 10, 17, 18, 19, 20, 21, 22, 34, 35, 36, 37] (by decide +kernel) (by decide +kernel)
set_option maxRecDepth 20000 in
theorem gX4_beginNext_X8_get : GoodIn wsX4_beginNext (wsV RX4 77 RX8 yX8_get wsX8_get) := goodIn_app (goodIn_of _ (by decide +kernel)) ggX4_beginNext_X8_get
set_option maxRecDepth 20000 in
theorem ggX4_beginNext_X8_put : GoodIn wsX4_beginNext wsX8_put := goodIn_r _ [26, 12, 13, 14, 15, 16, 10, 17, 18, 19, 20, 21, 22, 34, 35, 36, 37] (by decide +kernel) (by decide +kernel)
set_option maxRecDepth 20000 in
theorem gX4_beginNext_X8_put : GoodIn wsX4_beginNext (wsV RX4 50 RX8 yX8_put wsX8_put) := goodIn_app (goodIn_of _ (by decide +kernel)) ggX4_beginNext_X8_put
