theorem dX11_register_109 : decode cX11_register 109 = .ok (.aload_n 0, 1) := by decide +kernel
theorem dX11_register_110 : decode cX11_register 110 = .ok (.getfield 29, 3) := by decide +kernel
theorem dX11_register_113 : decode cX11_register 113 = .ok (.aload_n 0, 1) := by decide +kernel
theorem dX11_register_114 : decode cX11_register 114 = .ok (.getfield 69, 3) := by decide +kernel
theorem dX11_register_117 : decode cX11_register 117 = .ok (.iload_n 2, 1) := by decide +kernel
theorem dX11_register_118 : decode cX11_register 118 = .ok (.iastore, 1) := by decide +kernel
theorem dX11_register_119 : decode cX11_register 119 = .ok (.aload_n 0, 1) := by decide +kernel
theorem dX11_register_120 : decode cX11_register 120 = .ok (.getfield 32, 3) := by decide +kernel
theorem dX11_register_123 : decode cX11_register 123 = .ok (.aload_n 0, 1) := by decide +kernel
theorem dX11_register_124 : decode cX11_register 124 = .ok (.getfield 69, 3) := by decide +kernel
theorem dX11_register_127 : decode cX11_register 127 = .ok (.iload_n 3, 1) := by decide +kernel
theorem dX11_register_128 : decode cX11_register 128 = .ok (.iastore, 1) := by decide +kernel
theorem dX11_register_129 : decode cX11_register 129 = .ok (.aload_n 0, 1) := by decide +kernel
theorem dX11_register_130 : decode cX11_register 130 = .ok (.getfield 7, 3) := by decide +kernel
theorem dX11_register_133 : decode cX11_register 133 = .ok (.bipush 75, 2) := by decide +kernel
theorem dX11_register_135 : decode cX11_register 135 = .ok (.aload_n 0, 1) := by decide +kernel
theorem dX11_register_136 : decode cX11_register 136 = .ok (.getfield 69, 3) := by decide +kernel
theorem dX11_register_139 : decode cX11_register 139 = .ok (.iadd, 1) := by decide +kernel
theorem dX11_register_140 : decode cX11_register 140 = .ok (.iload_n 3, 1) := by decide +kernel
theorem dX11_register_141 : decode cX11_register 141 = .ok (.iastore, 1) := by decide +kernel
theorem dX11_register_142 : decode cX11_register 142 = .ok (.aload_n 0, 1) := by decide +kernel
theorem dX11_register_143 : decode cX11_register 143 = .ok (.dup, 1) := by decide +kernel
theorem dX11_register_144 : decode cX11_register 144 = .ok (.getfield 69, 3) := by decide +kernel
theorem dX11_register_147 : decode cX11_register 147 = .ok (.iconst 1, 1) := by decide +kernel
theorem dX11_register_148 : decode cX11_register 148 = .ok (.iadd, 1) := by decide +kernel
theorem dX11_register_149 : decode cX11_register 149 = .ok (.putfield 69, 3) := by decide +kernel
theorem dX11_register_152 : decode cX11_register 152 = .ok (.aload_n 0, 1) := by decide +kernel
theorem dX11_register_153 : decode cX11_register 153 = .ok (.dup, 1) := by decide +kernel
theorem dX11_register_154 : decode cX11_register 154 = .ok (.getfield 91, 3) := by decide +kernel
theorem dX11_register_157 : decode cX11_register 157 = .ok (.iconst 1, 1) := by decide +kernel
theorem dX11_register_158 : decode cX11_register 158 = .ok (.iadd, 1) := by decide +kernel
theorem dX11_register_159 : decode cX11_register 159 = .ok (.putfield 91, 3) := by decide +kernel
theorem dX11_register_162 : decode cX11_register 162 = .ok (.aload_n 0, 1) := by decide +kernel
theorem dX11_register_163 : decode cX11_register 163 = .ok (.aload_n 0, 1) := by decide +kernel
theorem dX11_register_164 : decode cX11_register 164 = .ok (.getfield 69, 3) := by decide +kernel
theorem dX11_register_167 : decode cX11_register 167 = .ok (.invokevirtual 94, 3) := by decide +kernel
theorem dX11_register_170 : decode cX11_register 170 = .ok (.ireturn, 1) := by decide +kernel
set_option maxRecDepth 20000 in
theorem ggX11_depth_X11_in : GoodIn wsX11_depth wsX11_in := goodIn_r _ [8] (by decide +kernel) (by decide +kernel)
set_option maxRecDepth 20000 in
theorem gX11_depth_X11_in : GoodIn wsX11_depth (va_wsS RX11 74 yX11_in wsX11_in) := goodIn_app (goodIn_of _ (by decide +kernel)) ggX11_depth_X11_in
set_option maxRecDepth 20000 in
theorem ggX11_depth_X11_refused : GoodIn wsX11_depth wsX11_refused := goodIn_r _ [12, 13, 18, 19, 20, 21, 22, 23, 24, 25, 26, 27, 28, 29, 30, 31, 32, 33, 34, 35, 36, 37, 38, 39, 40, 41] (by decide +kernel) (by decide +kernel)
set_option maxRecDepth 20000 in
theorem gX11_depth_X11_refused : GoodIn wsX11_depth (wsV RX11 84 RX11 yX11_refused wsX11_refused) := goodIn_app (goodIn_of _ (by decide +kernel)) ggX11_depth_X11_refused
set_option maxRecDepth 20000 in
theorem ggX11_depth_X11_done : GoodIn wsX11_depth wsX11_done := goodIn_r _ [17, 13, 18, 19, 20, 21, 22, 23, 24, 25, 26, 27, 28, 29, 30, 31, 32, 33, 34, 35, 36, 37, 38, 39, 40, 41] (by decide +kernel) (by decide +kernel)
set_option maxRecDepth 20000 in
theorem gX11_depth_X11_done : GoodIn wsX11_depth (wsV RX11 94 RX11 yX11_done wsX11_done) := goodIn_app (goodIn_of _ (by decide +kernel)) ggX11_depth_X11_done
theorem dX11_depth_0 : decode cX11_depth 0 = .ok (.iload_n 1, 1) := by decide +kernel
theorem dX11_depth_1 : decode cX11_depth 1 = .ok (.i2l, 1) := by decide +kernel
theorem dX11_depth_2 : decode cX11_depth 2 = .ok (.lconst 0, 1) := by decide +kernel
theorem dX11_depth_3 : decode cX11_depth 3 = .ok (.ldc2_w 109, 3) := by decide +kernel
theorem dX11_depth_6 : decode cX11_depth 6 = .ok (.invokestatic 74, 3) := by decide +kernel
theorem dX11_depth_9 : decode cX11_depth 9 = .ok (.ifCond .ne 10, 3) := by decide +kernel
theorem dX11_depth_12 : decode cX11_depth 12 = .ok (.aload_n 0, 1) := by decide +kernel
theorem dX11_depth_13 : decode cX11_depth 13 = .ok (.bipush (-2), 2) := by decide +kernel
theorem dX11_depth_15 : decode cX11_depth 15 = .ok (.invokevirtual 84, 3) := by decide +kernel
theorem dX11_depth_18 : decode cX11_depth 18 = .ok (.ireturn, 1) := by decide +kernel
theorem dX11_depth_19 : decode cX11_depth 19 = .ok (.aload_n 0, 1) := by decide +kernel
theorem dX11_depth_20 : decode cX11_depth 20 = .ok (.getfield 7, 3) := by decide +kernel
theorem dX11_depth_23 : decode cX11_depth 23 = .ok (.sipush 179, 3) := by decide +kernel
theorem dX11_depth_26 : decode cX11_depth 26 = .ok (.iaload, 1) := by decide +kernel
theorem dX11_depth_27 : decode cX11_depth 27 = .ok (.ifCond .eq 10, 3) := by decide +kernel
theorem dX11_depth_30 : decode cX11_depth 30 = .ok (.aload_n 0, 1) := by decide +kernel
theorem dX11_depth_31 : decode cX11_depth 31 = .ok (.bipush (-3), 2) := by decide +kernel
theorem dX11_depth_33 : decode cX11_depth 33 = .ok (.invokevirtual 84, 3) := by decide +kernel
theorem dX11_depth_36 : decode cX11_depth 36 = .ok (.ireturn, 1) := by decide +kernel
theorem dX11_depth_37 : decode cX11_depth 37 = .ok (.aload_n 0, 1) := by decide +kernel
theorem dX11_depth_38 : decode cX11_depth 38 = .ok (.getfield 111, 3) := by decide +kernel
theorem dX11_depth_41 : decode cX11_depth 41 = .ok (.istore_n 2, 1) := by decide +kernel
theorem dX11_depth_42 : decode cX11_depth 42 = .ok (.aload_n 0, 1) := by decide +kernel
theorem dX11_depth_43 : decode cX11_depth 43 = .ok (.iload_n 1, 1) := by decide +kernel
theorem dX11_depth_44 : decode cX11_depth 44 = .ok (.putfield 111, 3) := by decide +kernel
theorem dX11_depth_47 : decode cX11_depth 47 = .ok (.aload_n 0, 1) := by decide +kernel
theorem dX11_depth_48 : decode cX11_depth 48 = .ok (.dup, 1) := by decide +kernel
theorem dX11_depth_49 : decode cX11_depth 49 = .ok (.getfield 91, 3) := by decide +kernel
theorem dX11_depth_52 : decode cX11_depth 52 = .ok (.iconst 1, 1) := by decide +kernel
theorem dX11_depth_53 : decode cX11_depth 53 = .ok (.iadd, 1) := by decide +kernel
theorem dX11_depth_54 : decode cX11_depth 54 = .ok (.putfield 91, 3) := by decide +kernel
theorem dX11_depth_57 : decode cX11_depth 57 = .ok (.aload_n 0, 1) := by decide +kernel
theorem dX11_depth_58 : decode cX11_depth 58 = .ok (.iload_n 2, 1) := by decide +kernel
theorem dX11_depth_59 : decode cX11_depth 59 = .ok (.invokevirtual 94, 3) := by decide +kernel
theorem dX11_depth_62 : decode cX11_depth 62 = .ok (.ireturn, 1) := by decide +kernel
set_option maxRecDepth 20000 in
theorem ggX11_limit_X11_in : GoodIn wsX11_limit wsX11_in := goodIn_r _ [9] (by decide +kernel) (by decide +kernel)
set_option maxRecDepth 20000 in
theorem gX11_limit_X11_in : GoodIn wsX11_limit (va_wsS RX11 74 yX11_in wsX11_in) := goodIn_app (goodIn_of _ (by decide +kernel)) ggX11_limit_X11_in
set_option maxRecDepth 20000 in
theorem ggX11_limit_X11_refused : GoodIn wsX11_limit wsX11_refused := goodIn_r _ [13, 14, 19, 20, 21, 22, 23, 24, 25, 26, 27, 28, 29, 30, 31, 32, 33, 34, 35, 36, 37, 38, 39, 40, 41, 42] (by decide +kernel) (by decide +kernel)
set_option maxRecDepth 20000 in
theorem gX11_limit_X11_refused : GoodIn wsX11_limit (wsV RX11 84 RX11 yX11_refused wsX11_refused) := goodIn_app (goodIn_of _ (by decide +kernel)) ggX11_limit_X11_refused
set_option maxRecDepth 20000 in
theorem ggX11_limit_X11_done : GoodIn wsX11_limit wsX11_done := goodIn_r _ [18, 14, 19, 20, 21, 22, 23, 24, 25, 26, 27, 28, 29, 30, 31, 32, 33, 34, 35, 36, 37, 38, 39, 40, 41, 42] (by decide +kernel) (by decide +kernel)
set_option maxRecDepth 20000 in
theorem gX11_limit_X11_done : GoodIn wsX11_limit (wsV RX11 94 RX11 yX11_done wsX11_done) := goodIn_app (goodIn_of _ (by decide +kernel)) ggX11_limit_X11_done
theorem dX11_limit_0 : decode cX11_limit 0 = .ok (.iload_n 1, 1) := by decide +kernel
theorem dX11_limit_1 : decode cX11_limit 1 = .ok (.i2l, 1) := by decide +kernel
theorem dX11_limit_2 : decode cX11_limit 2 = .ok (.ldc2_w 109, 3) := by decide +kernel
theorem dX11_limit_5 : decode cX11_limit 5 = .ok (.ldc2_w 114, 3) := by decide +kernel
theorem dX11_limit_8 : decode cX11_limit 8 = .ok (.invokestatic 74, 3) := by decide +kernel
theorem dX11_limit_11 : decode cX11_limit 11 = .ok (.ifCond .ne 10, 3) := by decide +kernel
theorem dX11_limit_14 : decode cX11_limit 14 = .ok (.aload_n 0, 1) := by decide +kernel
theorem dX11_limit_15 : decode cX11_limit 15 = .ok (.bipush (-2), 2) := by decide +kernel
theorem dX11_limit_17 : decode cX11_limit 17 = .ok (.invokevirtual 84, 3) := by decide +kernel
theorem dX11_limit_20 : decode cX11_limit 20 = .ok (.ireturn, 1) := by decide +kernel
theorem dX11_limit_21 : decode cX11_limit 21 = .ok (.aload_n 0, 1) := by decide +kernel
theorem dX11_limit_22 : decode cX11_limit 22 = .ok (.getfield 7, 3) := by decide +kernel
theorem dX11_limit_25 : decode cX11_limit 25 = .ok (.sipush 179, 3) := by decide +kernel
theorem dX11_limit_28 : decode cX11_limit 28 = .ok (.iaload, 1) := by decide +kernel
theorem dX11_limit_29 : decode cX11_limit 29 = .ok (.ifCond .eq 10, 3) := by decide +kernel
theorem dX11_limit_32 : decode cX11_limit 32 = .ok (.aload_n 0, 1) := by decide +kernel
theorem dX11_limit_33 : decode cX11_limit 33 = .ok (.bipush (-3), 2) := by decide +kernel
theorem dX11_limit_35 : decode cX11_limit 35 = .ok (.invokevirtual 84, 3) := by decide +kernel
theorem dX11_limit_38 : decode cX11_limit 38 = .ok (.ireturn, 1) := by decide +kernel
theorem dX11_limit_39 : decode cX11_limit 39 = .ok (.aload_n 0, 1) := by decide +kernel
theorem dX11_limit_40 : decode cX11_limit 40 = .ok (.getfield 35, 3) := by decide +kernel
theorem dX11_limit_43 : decode cX11_limit 43 = .ok (.istore_n 2, 1) := by decide +kernel
theorem dX11_limit_44 : decode cX11_limit 44 = .ok (.aload_n 0, 1) := by decide +kernel
theorem dX11_limit_45 : decode cX11_limit 45 = .ok (.iload_n 1, 1) := by decide +kernel
theorem dX11_limit_46 : decode cX11_limit 46 = .ok (.putfield 35, 3) := by decide +kernel
theorem dX11_limit_49 : decode cX11_limit 49 = .ok (.aload_n 0, 1) := by decide +kernel
theorem dX11_limit_50 : decode cX11_limit 50 = .ok (.dup, 1) := by decide +kernel
theorem dX11_limit_51 : decode cX11_limit 51 = .ok (.getfield 91, 3) := by decide +kernel
theorem dX11_limit_54 : decode cX11_limit 54 = .ok (.iconst 1, 1) := by decide +kernel
theorem dX11_limit_55 : decode cX11_limit 55 = .ok (.iadd, 1) := by decide +kernel
theorem dX11_limit_56 : decode cX11_limit 56 = .ok (.putfield 91, 3) := by decide +kernel
theorem dX11_limit_59 : decode cX11_limit 59 = .ok (.aload_n 0, 1) := by decide +kernel
theorem dX11_limit_60 : decode cX11_limit 60 = .ok (.iload_n 2, 1) := by decide +kernel
theorem dX11_limit_61 : decode cX11_limit 61 = .ok (.invokevirtual 94, 3) := by decide +kernel
theorem dX11_limit_64 : decode cX11_limit 64 = .ok (.ireturn, 1) := by decide +kernel
set_option maxRecDepth 20000 in
theorem ggX11_reset_X11_begin : GoodIn wsX11_reset wsX11_begin := goodIn_r _ [6, 1, 7, 8, 14, 15, 16, 17, 18, 19, 20, 21, 22, 23, 24, 25, 26, 27, 28, 29, 30, 31, 32, 33, 34, 35, 36, 37] (by decide +kernel) (by decide +kernel)
set_option maxRecDepth 20000 in
theorem gX11_reset_X11_begin : GoodIn wsX11_reset (wsV RX11 63 RX11 yX11_begin wsX11_begin) := goodIn_app (goodIn_of _ (by decide +kernel)) ggX11_reset_X11_begin
set_option maxRecDepth 20000 in
theorem ggX11_reset_X11_done : GoodIn wsX11_reset wsX11_done := goodIn_r _ [12, 13, 14, 15, 16, 17, 18, 19, 20, 21, 22, 23, 24, 25, 26, 27, 28, 29, 30, 31, 32, 33, 34, 35, 36, 37] (by decide +kernel) (by decide +kernel)
set_option maxRecDepth 20000 in
theorem gX11_reset_X11_done : GoodIn wsX11_reset (wsV RX11 94 RX11 yX11_done wsX11_done) := goodIn_app (goodIn_of _ (by decide +kernel)) ggX11_reset_X11_done
theorem dX11_reset_0 : decode cX11_reset 0 = .ok (.aload_n 0, 1) := by decide +kernel
theorem dX11_reset_1 : decode cX11_reset 1 = .ok (.getfield 7, 3) := by decide +kernel
theorem dX11_reset_4 : decode cX11_reset 4 = .ok (.sipush 179, 3) := by decide +kernel
theorem dX11_reset_7 : decode cX11_reset 7 = .ok (.iaload, 1) := by decide +kernel
theorem dX11_reset_8 : decode cX11_reset 8 = .ok (.istore_n 1, 1) := by decide +kernel
theorem dX11_reset_9 : decode cX11_reset 9 = .ok (.aload_n 0, 1) := by decide +kernel
theorem dX11_reset_10 : decode cX11_reset 10 = .ok (.invokevirtual 63, 3) := by decide +kernel
theorem dX11_reset_13 : decode cX11_reset 13 = .ok (.aload_n 0, 1) := by decide +kernel
theorem dX11_reset_14 : decode cX11_reset 14 = .ok (.iload_n 1, 1) := by decide +kernel
theorem dX11_reset_15 : decode cX11_reset 15 = .ok (.invokevirtual 94, 3) := by decide +kernel
theorem dX11_reset_18 : decode cX11_reset 18 = .ok (.ireturn, 1) := by decide +kernel
set_option maxRecDepth 20000 in
theorem ggX11_transfer_X11_in : GoodIn wsX11_transfer wsX11_in := goodIn_r _ [9] (by decide +kernel) (by decide +kernel)
set_option maxRecDepth 20000 in
theorem gX11_transfer_X11_in : GoodIn wsX11_transfer (va_wsS RX11 74 yX11_in wsX11_in) := goodIn_app (goodIn_of _ (by decide +kernel)) ggX11_transfer_X11_in
set_option maxRecDepth 20000 in
theorem ggX11_transfer_X11_refused : GoodIn wsX11_transfer wsX11_refused := goodIn_r _ [13, 14, 19, 20, 21, 22, 23, 24, 25, 26, 27, 28, 29, 30, 31, 32, 33, 34, 35, 36, 37, 38, 39, 40, 41, 42] (by decide +kernel) (by decide +kernel)
set_option maxRecDepth 20000 in
theorem gX11_transfer_X11_refused : GoodIn wsX11_transfer (wsV RX11 84 RX11 yX11_refused wsX11_refused) := goodIn_app (goodIn_of _ (by decide +kernel)) ggX11_transfer_X11_refused
set_option maxRecDepth 20000 in
theorem ggX11_transfer_X11_done : GoodIn wsX11_transfer wsX11_done := goodIn_r _ [18, 14, 19, 20, 21, 22, 23, 24, 25, 26, 27, 28, 29, 30, 31, 32, 33, 34, 35, 36, 37, 38, 39, 40, 41, 42] (by decide +kernel) (by decide +kernel)
set_option maxRecDepth 20000 in
theorem gX11_transfer_X11_done : GoodIn wsX11_transfer (wsV RX11 94 RX11 yX11_done wsX11_done) := goodIn_app (goodIn_of _ (by decide +kernel)) ggX11_transfer_X11_done
theorem dX11_transfer_0 : decode cX11_transfer 0 = .ok (.iload_n 1, 1) := by decide +kernel
theorem dX11_transfer_1 : decode cX11_transfer 1 = .ok (.i2l, 1) := by decide +kernel
theorem dX11_transfer_2 : decode cX11_transfer 2 = .ok (.lconst 0, 1) := by decide +kernel
theorem dX11_transfer_3 : decode cX11_transfer 3 = .ok (.ldc2_w 116, 3) := by decide +kernel
theorem dX11_transfer_6 : decode cX11_transfer 6 = .ok (.invokestatic 74, 3) := by decide +kernel
theorem dX11_transfer_9 : decode cX11_transfer 9 = .ok (.ifCond .eq 31, 3) := by decide +kernel
theorem dX11_transfer_12 : decode cX11_transfer 12 = .ok (.iload 4, 2) := by decide +kernel
theorem dX11_transfer_14 : decode cX11_transfer 14 = .ok (.i2l, 1) := by decide +kernel
theorem dX11_transfer_15 : decode cX11_transfer 15 = .ok (.ldc2_w 118, 3) := by decide +kernel
theorem dX11_transfer_18 : decode cX11_transfer 18 = .ok (.ldc2_w 120, 3) := by decide +kernel
theorem dX11_transfer_21 : decode cX11_transfer 21 = .ok (.invokestatic 74, 3) := by decide +kernel
theorem dX11_transfer_24 : decode cX11_transfer 24 = .ok (.ifCond .eq 16, 3) := by decide +kernel
theorem dX11_transfer_27 : decode cX11_transfer 27 = .ok (.iload 5, 2) := by decide +kernel
theorem dX11_transfer_29 : decode cX11_transfer 29 = .ok (.i2l, 1) := by decide +kernel
theorem dX11_transfer_30 : decode cX11_transfer 30 = .ok (.lconst 0, 1) := by decide +kernel
theorem dX11_transfer_31 : decode cX11_transfer 31 = .ok (.ldc2_w 101, 3) := by decide +kernel
theorem dX11_transfer_34 : decode cX11_transfer 34 = .ok (.invokestatic 74, 3) := by decide +kernel
theorem dX11_transfer_37 : decode cX11_transfer 37 = .ok (.ifCond .ne 10, 3) := by decide +kernel
theorem dX11_transfer_40 : decode cX11_transfer 40 = .ok (.aload_n 0, 1) := by decide +kernel
theorem dX11_transfer_41 : decode cX11_transfer 41 = .ok (.bipush (-2), 2) := by decide +kernel
theorem dX11_transfer_43 : decode cX11_transfer 43 = .ok (.invokevirtual 84, 3) := by decide +kernel
theorem dX11_transfer_46 : decode cX11_transfer 46 = .ok (.ireturn, 1) := by decide +kernel
theorem dX11_transfer_47 : decode cX11_transfer 47 = .ok (.aload_n 0, 1) := by decide +kernel
theorem dX11_transfer_48 : decode cX11_transfer 48 = .ok (.getfield 7, 3) := by decide +kernel
theorem dX11_transfer_51 : decode cX11_transfer 51 = .ok (.sipush 212, 3) := by decide +kernel
theorem dX11_transfer_54 : decode cX11_transfer 54 = .ok (.iaload, 1) := by decide +kernel
theorem dX11_transfer_55 : decode cX11_transfer 55 = .ok (.bipush 60, 2) := by decide +kernel
theorem dX11_transfer_57 : decode cX11_transfer 57 = .ok (.if_icmp .ne 10, 3) := by decide +kernel
theorem dX11_transfer_60 : decode cX11_transfer 60 = .ok (.aload_n 0, 1) := by decide +kernel
theorem dX11_transfer_61 : decode cX11_transfer 61 = .ok (.bipush (-4), 2) := by decide +kernel
theorem dX11_transfer_63 : decode cX11_transfer 63 = .ok (.invokevirtual 84, 3) := by decide +kernel
theorem dX11_transfer_66 : decode cX11_transfer 66 = .ok (.ireturn, 1) := by decide +kernel
theorem dX11_transfer_67 : decode cX11_transfer 67 = .ok (.sipush 350, 3) := by decide +kernel
theorem dX11_transfer_70 : decode cX11_transfer 70 = .ok (.bipush 9, 2) := by decide +kernel
theorem dX11_transfer_72 : decode cX11_transfer 72 = .ok (.aload_n 0, 1) := by decide +kernel
theorem dX11_transfer_73 : decode cX11_transfer 73 = .ok (.getfield 7, 3) := by decide +kernel
theorem dX11_transfer_76 : decode cX11_transfer 76 = .ok (.sipush 212, 3) := by decide +kernel
theorem dX11_transfer_79 : decode cX11_transfer 79 = .ok (.iaload, 1) := by decide +kernel
theorem dX11_transfer_80 : decode cX11_transfer 80 = .ok (.imul, 1) := by decide +kernel
theorem dX11_transfer_81 : decode cX11_transfer 81 = .ok (.iadd, 1) := by decide +kernel
theorem dX11_transfer_82 : decode cX11_transfer 82 = .ok (.istore 6, 2) := by decide +kernel
theorem dX11_transfer_84 : decode cX11_transfer 84 = .ok (.aload_n 0, 1) := by decide +kernel
theorem dX11_transfer_85 : decode cX11_transfer 85 = .ok (.getfield 7, 3) := by decide +kernel
theorem dX11_transfer_88 : decode cX11_transfer 88 = .ok (.iload 6, 2) := by decide +kernel
theorem dX11_transfer_90 : decode cX11_transfer 90 = .ok (.iconst 0, 1) := by decide +kernel
theorem dX11_transfer_91 : decode cX11_transfer 91 = .ok (.iadd, 1) := by decide +kernel
theorem dX11_transfer_92 : decode cX11_transfer 92 = .ok (.iload_n 1, 1) := by decide +kernel
theorem dX11_transfer_93 : decode cX11_transfer 93 = .ok (.iastore, 1) := by decide +kernel
theorem dX11_transfer_94 : decode cX11_transfer 94 = .ok (.aload_n 0, 1) := by decide +kernel
theorem dX11_transfer_95 : decode cX11_transfer 95 = .ok (.getfield 7, 3) := by decide +kernel
theorem dX11_transfer_98 : decode cX11_transfer 98 = .ok (.iload 6, 2) := by decide +kernel
theorem dX11_transfer_100 : decode cX11_transfer 100 = .ok (.iconst 1, 1) := by decide +kernel
theorem dX11_transfer_101 : decode cX11_transfer 101 = .ok (.iadd, 1) := by decide +kernel
theorem dX11_transfer_102 : decode cX11_transfer 102 = .ok (.iload_n 2, 1) := by decide +kernel
theorem dX11_transfer_103 : decode cX11_transfer 103 = .ok (.ifCond .eq 7, 3) := by decide +kernel
theorem dX11_transfer_106 : decode cX11_transfer 106 = .ok (.iconst 1, 1) := by decide +kernel
theorem dX11_transfer_107 : decode cX11_transfer 107 = .ok (.goto 4, 3) := by decide +kernel
theorem dX11_transfer_110 : decode cX11_transfer 110 = .ok (.iconst 0, 1) := by decide +kernel
theorem dX11_transfer_111 : decode cX11_transfer 111 = .ok (.iastore, 1) := by decide +kernel
theorem dX11_transfer_112 : decode cX11_transfer 112 = .ok (.aload_n 0, 1) := by decide +kernel
theorem dX11_transfer_113 : decode cX11_transfer 113 = .ok (.getfield 7, 3) := by decide +kernel
theorem dX11_transfer_116 : decode cX11_transfer 116 = .ok (.iload 6, 2) := by decide +kernel
theorem dX11_transfer_118 : decode cX11_transfer 118 = .ok (.iconst 2, 1) := by decide +kernel
theorem dX11_transfer_119 : decode cX11_transfer 119 = .ok (.iadd, 1) := by decide +kernel
theorem dX11_transfer_120 : decode cX11_transfer 120 = .ok (.iload_n 3, 1) := by decide +kernel
theorem dX11_transfer_121 : decode cX11_transfer 121 = .ok (.iastore, 1) := by decide +kernel
theorem dX11_transfer_122 : decode cX11_transfer 122 = .ok (.aload_n 0, 1) := by decide +kernel
theorem dX11_transfer_123 : decode cX11_transfer 123 = .ok (.getfield 7, 3) := by decide +kernel
theorem dX11_transfer_126 : decode cX11_transfer 126 = .ok (.iload 6, 2) := by decide +kernel
theorem dX11_transfer_128 : decode cX11_transfer 128 = .ok (.iconst 3, 1) := by decide +kernel
theorem dX11_transfer_129 : decode cX11_transfer 129 = .ok (.iadd, 1) := by decide +kernel
theorem dX11_transfer_130 : decode cX11_transfer 130 = .ok (.iload 4, 2) := by decide +kernel
theorem dX11_transfer_132 : decode cX11_transfer 132 = .ok (.iastore, 1) := by decide +kernel
theorem dX11_transfer_133 : decode cX11_transfer 133 = .ok (.aload_n 0, 1) := by decide +kernel
theorem dX11_transfer_134 : decode cX11_transfer 134 = .ok (.getfield 7, 3) := by decide +kernel
theorem dX11_transfer_137 : decode cX11_transfer 137 = .ok (.iload 6, 2) := by decide +kernel
theorem dX11_transfer_139 : decode cX11_transfer 139 = .ok (.iconst 4, 1) := by decide +kernel
theorem dX11_transfer_140 : decode cX11_transfer 140 = .ok (.iadd, 1) := by decide +kernel
theorem dX11_transfer_141 : decode cX11_transfer 141 = .ok (.iload 5, 2) := by decide +kernel
theorem dX11_transfer_143 : decode cX11_transfer 143 = .ok (.iastore, 1) := by decide +kernel
theorem dX11_transfer_144 : decode cX11_transfer 144 = .ok (.aload_n 0, 1) := by decide +kernel
theorem dX11_transfer_145 : decode cX11_transfer 145 = .ok (.getfield 7, 3) := by decide +kernel
theorem dX11_transfer_148 : decode cX11_transfer 148 = .ok (.iload 6, 2) := by decide +kernel
theorem dX11_transfer_150 : decode cX11_transfer 150 = .ok (.iconst 5, 1) := by decide +kernel
theorem dX11_transfer_151 : decode cX11_transfer 151 = .ok (.iadd, 1) := by decide +kernel
theorem dX11_transfer_152 : decode cX11_transfer 152 = .ok (.iconst 0, 1) := by decide +kernel
theorem dX11_transfer_153 : decode cX11_transfer 153 = .ok (.iastore, 1) := by decide +kernel
theorem dX11_transfer_154 : decode cX11_transfer 154 = .ok (.aload_n 0, 1) := by decide +kernel
theorem dX11_transfer_155 : decode cX11_transfer 155 = .ok (.getfield 7, 3) := by decide +kernel
theorem dX11_transfer_158 : decode cX11_transfer 158 = .ok (.iload 6, 2) := by decide +kernel
theorem dX11_transfer_160 : decode cX11_transfer 160 = .ok (.bipush 6, 2) := by decide +kernel
theorem dX11_transfer_162 : decode cX11_transfer 162 = .ok (.iadd, 1) := by decide +kernel
theorem dX11_transfer_163 : decode cX11_transfer 163 = .ok (.iconst 0, 1) := by decide +kernel
theorem dX11_transfer_164 : decode cX11_transfer 164 = .ok (.iastore, 1) := by decide +kernel
theorem dX11_transfer_165 : decode cX11_transfer 165 = .ok (.aload_n 0, 1) := by decide +kernel
theorem dX11_transfer_166 : decode cX11_transfer 166 = .ok (.getfield 7, 3) := by decide +kernel
theorem dX11_transfer_169 : decode cX11_transfer 169 = .ok (.iload 6, 2) := by decide +kernel
theorem dX11_transfer_171 : decode cX11_transfer 171 = .ok (.bipush 7, 2) := by decide +kernel
theorem dX11_transfer_173 : decode cX11_transfer 173 = .ok (.iadd, 1) := by decide +kernel
theorem dX11_transfer_174 : decode cX11_transfer 174 = .ok (.bipush (-6), 2) := by decide +kernel
theorem dX11_transfer_176 : decode cX11_transfer 176 = .ok (.iastore, 1) := by decide +kernel
theorem dX11_transfer_177 : decode cX11_transfer 177 = .ok (.aload_n 0, 1) := by decide +kernel
theorem dX11_transfer_178 : decode cX11_transfer 178 = .ok (.getfield 7, 3) := by decide +kernel
theorem dX11_transfer_181 : decode cX11_transfer 181 = .ok (.iload 6, 2) := by decide +kernel
theorem dX11_transfer_183 : decode cX11_transfer 183 = .ok (.bipush 8, 2) := by decide +kernel
theorem dX11_transfer_185 : decode cX11_transfer 185 = .ok (.iadd, 1) := by decide +kernel
theorem dX11_transfer_186 : decode cX11_transfer 186 = .ok (.bipush (-6), 2) := by decide +kernel
theorem dX11_transfer_188 : decode cX11_transfer 188 = .ok (.iastore, 1) := by decide +kernel
theorem dX11_transfer_189 : decode cX11_transfer 189 = .ok (.aload_n 0, 1) := by decide +kernel
theorem dX11_transfer_190 : decode cX11_transfer 190 = .ok (.getfield 7, 3) := by decide +kernel
theorem dX11_transfer_193 : decode cX11_transfer 193 = .ok (.sipush 212, 3) := by decide +kernel
theorem dX11_transfer_196 : decode cX11_transfer 196 = .ok (.dup2, 1) := by decide +kernel
theorem dX11_transfer_197 : decode cX11_transfer 197 = .ok (.iaload, 1) := by decide +kernel
theorem dX11_transfer_198 : decode cX11_transfer 198 = .ok (.iconst 1, 1) := by decide +kernel
theorem dX11_transfer_199 : decode cX11_transfer 199 = .ok (.iadd, 1) := by decide +kernel
theorem dX11_transfer_200 : decode cX11_transfer 200 = .ok (.iastore, 1) := by decide +kernel
theorem dX11_transfer_201 : decode cX11_transfer 201 = .ok (.aload_n 0, 1) := by decide +kernel
theorem dX11_transfer_202 : decode cX11_transfer 202 = .ok (.aload_n 0, 1) := by decide +kernel
theorem dX11_transfer_203 : decode cX11_transfer 203 = .ok (.getfield 7, 3) := by decide +kernel
theorem dX11_transfer_206 : decode cX11_transfer 206 = .ok (.sipush 212, 3) := by decide +kernel
theorem dX11_transfer_209 : decode cX11_transfer 209 = .ok (.iaload, 1) := by decide +kernel
theorem dX11_transfer_210 : decode cX11_transfer 210 = .ok (.iconst 1, 1) := by decide +kernel
theorem dX11_transfer_211 : decode cX11_transfer 211 = .ok (.isub, 1) := by decide +kernel
theorem dX11_transfer_212 : decode cX11_transfer 212 = .ok (.invokevirtual 94, 3) := by decide +kernel
theorem dX11_transfer_215 : decode cX11_transfer 215 = .ok (.ireturn, 1) := by decide +kernel
theorem dX11_ofTransfer_0 : decode cX11_ofTransfer 0 = .ok (.sipush 350, 3) := by decide +kernel
theorem dX11_ofTransfer_3 : decode cX11_ofTransfer 3 = .ok (.bipush 9, 2) := by decide +kernel
theorem dX11_ofTransfer_5 : decode cX11_ofTransfer 5 = .ok (.iload_n 1, 1) := by decide +kernel
theorem dX11_ofTransfer_6 : decode cX11_ofTransfer 6 = .ok (.imul, 1) := by decide +kernel
theorem dX11_ofTransfer_7 : decode cX11_ofTransfer 7 = .ok (.iadd, 1) := by decide +kernel
theorem dX11_ofTransfer_8 : decode cX11_ofTransfer 8 = .ok (.iload_n 2, 1) := by decide +kernel
theorem dX11_ofTransfer_9 : decode cX11_ofTransfer 9 = .ok (.iadd, 1) := by decide +kernel
theorem dX11_ofTransfer_10 : decode cX11_ofTransfer 10 = .ok (.ireturn, 1) := by decide +kernel
set_option maxRecDepth 20000 in
theorem ggX11_seen_X11_in : GoodIn wsX11_seen wsX11_in := goodIn_r _ [5] (by decide +kernel) (by decide +kernel)
set_option maxRecDepth 20000 in
theorem gX11_seen_X11_in : GoodIn wsX11_seen (va_wsS RX11 74 yX11_in wsX11_in) := goodIn_app (goodIn_of _ (by decide +kernel)) ggX11_seen_X11_in
theorem dX11_seen_0 : decode cX11_seen 0 = .ok (.aload_n 0, 1) := by decide +kernel
theorem dX11_seen_1 : decode cX11_seen 1 = .ok (.getfield 7, 3) := by decide +kernel
theorem dX11_seen_4 : decode cX11_seen 4 = .ok (.sipush 179, 3) := by decide +kernel
theorem dX11_seen_7 : decode cX11_seen 7 = .ok (.iaload, 1) := by decide +kernel
theorem dX11_seen_8 : decode cX11_seen 8 = .ok (.i2l, 1) := by decide +kernel
theorem dX11_seen_9 : decode cX11_seen 9 = .ok (.aload_n 0, 1) := by decide +kernel
theorem dX11_seen_10 : decode cX11_seen 10 = .ok (.getfield 7, 3) := by decide +kernel
theorem dX11_seen_13 : decode cX11_seen 13 = .ok (.bipush 45, 2) := by decide +kernel
theorem dX11_seen_15 : decode cX11_seen 15 = .ok (.iload_n 1, 1) := by decide +kernel
theorem dX11_seen_16 : decode cX11_seen 16 = .ok (.iadd, 1) := by decide +kernel
theorem dX11_seen_17 : decode cX11_seen 17 = .ok (.iaload, 1) := by decide +kernel
theorem dX11_seen_18 : decode cX11_seen 18 = .ok (.i2l, 1) := by decide +kernel
theorem dX11_seen_19 : decode cX11_seen 19 = .ok (.aload_n 0, 1) := by decide +kernel
theorem dX11_seen_20 : decode cX11_seen 20 = .ok (.getfield 7, 3) := by decide +kernel
theorem dX11_seen_23 : decode cX11_seen 23 = .ok (.bipush 60, 2) := by decide +kernel
theorem dX11_seen_25 : decode cX11_seen 25 = .ok (.iload_n 1, 1) := by decide +kernel
theorem dX11_seen_26 : decode cX11_seen 26 = .ok (.iadd, 1) := by decide +kernel
theorem dX11_seen_27 : decode cX11_seen 27 = .ok (.iaload, 1) := by decide +kernel
theorem dX11_seen_28 : decode cX11_seen 28 = .ok (.i2l, 1) := by decide +kernel
theorem dX11_seen_29 : decode cX11_seen 29 = .ok (.invokestatic 74, 3) := by decide +kernel
theorem dX11_seen_32 : decode cX11_seen 32 = .ok (.istore_n 2, 1) := by decide +kernel
theorem dX11_seen_33 : decode cX11_seen 33 = .ok (.iload_n 2, 1) := by decide +kernel
theorem dX11_seen_34 : decode cX11_seen 34 = .ok (.ifCond .eq 22, 3) := by decide +kernel
theorem dX11_seen_37 : decode cX11_seen 37 = .ok (.aload_n 0, 1) := by decide +kernel
theorem dX11_seen_38 : decode cX11_seen 38 = .ok (.getfield 7, 3) := by decide +kernel
theorem dX11_seen_41 : decode cX11_seen 41 = .ok (.iload_n 1, 1) := by decide +kernel
theorem dX11_seen_42 : decode cX11_seen 42 = .ok (.iaload, 1) := by decide +kernel
theorem dX11_seen_43 : decode cX11_seen 43 = .ok (.aload_n 0, 1) := by decide +kernel
theorem dX11_seen_44 : decode cX11_seen 44 = .ok (.getfield 7, 3) := by decide +kernel
theorem dX11_seen_47 : decode cX11_seen 47 = .ok (.bipush 30, 2) := by decide +kernel
theorem dX11_seen_49 : decode cX11_seen 49 = .ok (.iload_n 1, 1) := by decide +kernel
theorem dX11_seen_50 : decode cX11_seen 50 = .ok (.iadd, 1) := by decide +kernel
theorem dX11_seen_51 : decode cX11_seen 51 = .ok (.iaload, 1) := by decide +kernel
theorem dX11_seen_52 : decode cX11_seen 52 = .ok (.ixor, 1) := by decide +kernel
theorem dX11_seen_53 : decode cX11_seen 53 = .ok (.goto 9, 3) := by decide +kernel
theorem dX11_seen_56 : decode cX11_seen 56 = .ok (.aload_n 0, 1) := by decide +kernel
theorem dX11_seen_57 : decode cX11_seen 57 = .ok (.getfield 7, 3) := by decide +kernel
theorem dX11_seen_60 : decode cX11_seen 60 = .ok (.iload_n 1, 1) := by decide +kernel
theorem dX11_seen_61 : decode cX11_seen 61 = .ok (.iaload, 1) := by decide +kernel
theorem dX11_seen_62 : decode cX11_seen 62 = .ok (.ireturn, 1) := by decide +kernel
set_option maxRecDepth 20000 in
theorem ggX11_goOn_X11_seen : GoodIn wsX11_goOn wsX11_seen := goodIn_r _ [8, 3, 9, 10, 7, 11, 114, 115, 116, 117, 118, 119, 120, 121, 122, 123, 124, 125, 126, 127, 128, 129, 130, 131, 132, 133, 134, 135, 136, 137] (by decide +kernel) (by decide +kernel)
set_option maxRecDepth 20000 in
theorem gX11_goOn_X11_seen : GoodIn wsX11_goOn (wsV RX11 122 RX11 yX11_seen wsX11_seen) := goodIn_app (goodIn_of _ (by decide +kernel)) ggX11_goOn_X11_seen
set_option maxRecDepth 20000 in
theorem ggX11_goOn_X11_judge : GoodIn wsX11_goOn wsX11_judge := goodIn_r _ [15, 3, 1, 16, 17, 18, 7, 19, 20, 21, 22, 23, 24, 25, 26, 27, 28, 29, 30, 31, 32, 33, 34, 35, 9, 10, 11, 36, 37, 38, 39, 40, 41, 114, 115, 116, 117, 118, 119, 120, 121, 122, 123, 124, 125, 126, 127, 128, 129, 130, 131, 132, 133, 134, 135, 136, 137] (by decide +kernel) (by decide +kernel)
set_option maxRecDepth 20000 in
theorem gX11_goOn_X11_judge : GoodIn wsX11_goOn (wsV RX11 125 RX11 yX11_judge wsX11_judge) := goodIn_app (goodIn_of _ (by decide +kernel)) ggX11_goOn_X11_judge
set_option maxRecDepth 20000 in
theorem ggX11_goOn_X11_master : GoodIn wsX11_goOn wsX11_master := goodIn_r _ [45, 1, 3, 2, 46, 47, 48, 7, 49, 50, 51, 52, 53, 114, 115, 116, 117, 118, 119, 120, 121, 122, 123, 124, 125, 126, 127, 128, 129, 130, 131, 132, 133, 134, 135, 136, 137] (by decide +kernel) (by decide +kernel)
set_option maxRecDepth 20000 in
theorem gX11_goOn_X11_master : GoodIn wsX11_goOn (wsV RX11 128 RX11 yX11_master wsX11_master) := goodIn_app (goodIn_of _ (by decide +kernel)) ggX11_goOn_X11_master
set_option maxRecDepth 20000 in
theorem ggX11_goOn_X11_lower : GoodIn wsX11_goOn wsX11_lower := goodIn_r _ [57, 3, 2, 1, 58, 59, 60, 61, 7, 62, 114, 115, 116, 117, 118, 119, 120, 121, 122, 123, 124, 125, 126, 127, 128, 129, 130, 131, 132, 133, 134, 135, 136, 137] (by decide +kernel) (by decide +kernel)
set_option maxRecDepth 20000 in
theorem gX11_goOn_X11_lower : GoodIn wsX11_goOn (wsV RX11 131 RX11 yX11_lower wsX11_lower) := goodIn_app (goodIn_of _ (by decide +kernel)) ggX11_goOn_X11_lower
set_option maxRecDepth 20000 in
theorem ggX11_goOn_X11_bridge : GoodIn wsX11_goOn wsX11_bridge := goodIn_r _ [66, 3, 1, 2, 67, 68, 69, 70, 71, 7, 72, 73, 74, 75, 76, 77, 78, 79, 80, 81, 35, 36, 37, 38, 39, 40, 41, 9, 10, 11, 114, 115, 116, 117, 118, 119, 120, 121, 122, 123, 124, 125, 126, 127, 128, 129, 130, 131, 132, 133, 134, 135, 136, 137] (by decide +kernel) (by decide +kernel)
set_option maxRecDepth 20000 in
theorem gX11_goOn_X11_bridge : GoodIn wsX11_goOn (wsV RX11 134 RX11 yX11_bridge wsX11_bridge) := goodIn_app (goodIn_of _ (by decide +kernel)) ggX11_goOn_X11_bridge
set_option maxRecDepth 20000 in
theorem ggX11_goOn_X11_act : GoodIn wsX11_goOn wsX11_act := goodIn_r _ [85, 3, 86, 87, 88, 7, 89, 2, 78, 79, 80, 81, 35, 36, 37, 38, 39, 40, 41, 9, 10, 11, 114, 115, 116, 117, 118, 119, 120, 121, 122, 123, 124, 125, 126, 127, 128, 129, 130, 131, 132, 133, 134, 135, 136, 137] (by decide +kernel) (by decide +kernel)
set_option maxRecDepth 20000 in
theorem gX11_goOn_X11_act : GoodIn wsX11_goOn (wsV RX11 137 RX11 yX11_act wsX11_act) := goodIn_app (goodIn_of _ (by decide +kernel)) ggX11_goOn_X11_act
set_option maxRecDepth 20000 in
theorem ggX11_goOn_X11_slavesGo : GoodIn wsX11_goOn wsX11_slavesGo := goodIn_r _ [93, 94, 95, 35, 1, 2, 96, 3, 97, 98, 99, 7, 100, 101, 102, 103, 104, 105, 106, 107, 108, 109, 36, 37, 38, 39, 40, 41, 9, 10, 11, 110, 111, 112, 113, 114, 115, 116, 117, 118, 119, 120, 121, 122, 123, 124, 125, 126, 127, 128, 129, 130, 131, 132, 133, 134, 135, 136, 137] (by decide +kernel) (by decide +kernel)
set_option maxRecDepth 20000 in
theorem gX11_goOn_X11_slavesGo : GoodIn wsX11_goOn (wsV RX11 140 RX11 yX11_slavesGo wsX11_slavesGo) := goodIn_app (goodIn_of _ (by decide +kernel)) ggX11_goOn_X11_slavesGo
theorem dX11_goOn_0 : decode cX11_goOn 0 = .ok (.iconst 0, 1) := by decide +kernel
theorem dX11_goOn_1 : decode cX11_goOn 1 = .ok (.istore_n 1, 1) := by decide +kernel
theorem dX11_goOn_2 : decode cX11_goOn 2 = .ok (.iload_n 1, 1) := by decide +kernel
theorem dX11_goOn_3 : decode cX11_goOn 3 = .ok (.bipush 15, 2) := by decide +kernel
theorem dX11_goOn_5 : decode cX11_goOn 5 = .ok (.if_icmp .ge 32, 3) := by decide +kernel
theorem dX11_goOn_8 : decode cX11_goOn 8 = .ok (.aload_n 0, 1) := by decide +kernel
theorem dX11_goOn_9 : decode cX11_goOn 9 = .ok (.getfield 39, 3) := by decide +kernel
theorem dX11_goOn_12 : decode cX11_goOn 12 = .ok (.iload_n 1, 1) := by decide +kernel
theorem dX11_goOn_13 : decode cX11_goOn 13 = .ok (.aload_n 0, 1) := by decide +kernel
theorem dX11_goOn_14 : decode cX11_goOn 14 = .ok (.iload_n 1, 1) := by decide +kernel
theorem dX11_goOn_15 : decode cX11_goOn 15 = .ok (.invokevirtual 122, 3) := by decide +kernel
theorem dX11_goOn_18 : decode cX11_goOn 18 = .ok (.iastore, 1) := by decide +kernel
theorem dX11_goOn_19 : decode cX11_goOn 19 = .ok (.aload_n 0, 1) := by decide +kernel
theorem dX11_goOn_20 : decode cX11_goOn 20 = .ok (.getfield 42, 3) := by decide +kernel
theorem dX11_goOn_23 : decode cX11_goOn 23 = .ok (.iload_n 1, 1) := by decide +kernel
theorem dX11_goOn_24 : decode cX11_goOn 24 = .ok (.aload_n 0, 1) := by decide +kernel
theorem dX11_goOn_25 : decode cX11_goOn 25 = .ok (.getfield 7, 3) := by decide +kernel
theorem dX11_goOn_28 : decode cX11_goOn 28 = .ok (.iload_n 1, 1) := by decide +kernel
theorem dX11_goOn_29 : decode cX11_goOn 29 = .ok (.iaload, 1) := by decide +kernel
theorem dX11_goOn_30 : decode cX11_goOn 30 = .ok (.iastore, 1) := by decide +kernel
theorem dX11_goOn_31 : decode cX11_goOn 31 = .ok (.iinc 1 1, 3) := by decide +kernel
theorem dX11_goOn_34 : decode cX11_goOn 34 = .ok (.goto (-32), 3) := by decide +kernel
theorem dX11_goOn_37 : decode cX11_goOn 37 = .ok (.aload_n 0, 1) := by decide +kernel
theorem dX11_goOn_38 : decode cX11_goOn 38 = .ok (.invokevirtual 125, 3) := by decide +kernel
theorem dX11_goOn_41 : decode cX11_goOn 41 = .ok (.aload_n 0, 1) := by decide +kernel
theorem dX11_goOn_42 : decode cX11_goOn 42 = .ok (.invokevirtual 128, 3) := by decide +kernel
theorem dX11_goOn_45 : decode cX11_goOn 45 = .ok (.aload_n 0, 1) := by decide +kernel
theorem dX11_goOn_46 : decode cX11_goOn 46 = .ok (.invokevirtual 131, 3) := by decide +kernel
theorem dX11_goOn_49 : decode cX11_goOn 49 = .ok (.aload_n 0, 1) := by decide +kernel
theorem dX11_goOn_50 : decode cX11_goOn 50 = .ok (.invokevirtual 134, 3) := by decide +kernel
theorem dX11_goOn_53 : decode cX11_goOn 53 = .ok (.aload_n 0, 1) := by decide +kernel
theorem dX11_goOn_54 : decode cX11_goOn 54 = .ok (.invokevirtual 137, 3) := by decide +kernel
theorem dX11_goOn_57 : decode cX11_goOn 57 = .ok (.aload_n 0, 1) := by decide +kernel
theorem dX11_goOn_58 : decode cX11_goOn 58 = .ok (.invokevirtual 140, 3) := by decide +kernel
theorem dX11_goOn_61 : decode cX11_goOn 61 = .ok (.iconst 0, 1) := by decide +kernel
theorem dX11_goOn_62 : decode cX11_goOn 62 = .ok (.istore_n 1, 1) := by decide +kernel
theorem dX11_goOn_63 : decode cX11_goOn 63 = .ok (.iload_n 1, 1) := by decide +kernel
theorem dX11_goOn_64 : decode cX11_goOn 64 = .ok (.bipush 15, 2) := by decide +kernel
theorem dX11_goOn_66 : decode cX11_goOn 66 = .ok (.if_icmp .ge 36, 3) := by decide +kernel
theorem dX11_goOn_69 : decode cX11_goOn 69 = .ok (.aload_n 0, 1) := by decide +kernel
theorem dX11_goOn_70 : decode cX11_goOn 70 = .ok (.getfield 7, 3) := by decide +kernel
theorem dX11_goOn_73 : decode cX11_goOn 73 = .ok (.bipush 15, 2) := by decide +kernel
theorem dX11_goOn_75 : decode cX11_goOn 75 = .ok (.iload_n 1, 1) := by decide +kernel
theorem dX11_goOn_76 : decode cX11_goOn 76 = .ok (.iadd, 1) := by decide +kernel
theorem dX11_goOn_77 : decode cX11_goOn 77 = .ok (.aload_n 0, 1) := by decide +kernel
theorem dX11_goOn_78 : decode cX11_goOn 78 = .ok (.getfield 39, 3) := by decide +kernel
theorem dX11_goOn_81 : decode cX11_goOn 81 = .ok (.iload_n 1, 1) := by decide +kernel
theorem dX11_goOn_82 : decode cX11_goOn 82 = .ok (.iaload, 1) := by decide +kernel
theorem dX11_goOn_83 : decode cX11_goOn 83 = .ok (.iastore, 1) := by decide +kernel
theorem dX11_goOn_84 : decode cX11_goOn 84 = .ok (.aload_n 0, 1) := by decide +kernel
theorem dX11_goOn_85 : decode cX11_goOn 85 = .ok (.getfield 7, 3) := by decide +kernel
theorem dX11_goOn_88 : decode cX11_goOn 88 = .ok (.iload_n 1, 1) := by decide +kernel
theorem dX11_goOn_89 : decode cX11_goOn 89 = .ok (.aload_n 0, 1) := by decide +kernel
theorem dX11_goOn_90 : decode cX11_goOn 90 = .ok (.getfield 42, 3) := by decide +kernel
theorem dX11_goOn_93 : decode cX11_goOn 93 = .ok (.iload_n 1, 1) := by decide +kernel
theorem dX11_goOn_94 : decode cX11_goOn 94 = .ok (.iaload, 1) := by decide +kernel
theorem dX11_goOn_95 : decode cX11_goOn 95 = .ok (.iastore, 1) := by decide +kernel
theorem dX11_goOn_96 : decode cX11_goOn 96 = .ok (.iinc 1 1, 3) := by decide +kernel
theorem dX11_goOn_99 : decode cX11_goOn 99 = .ok (.goto (-36), 3) := by decide +kernel
theorem dX11_goOn_102 : decode cX11_goOn 102 = .ok (.aload_n 0, 1) := by decide +kernel
theorem dX11_goOn_103 : decode cX11_goOn 103 = .ok (.getfield 7, 3) := by decide +kernel
theorem dX11_goOn_106 : decode cX11_goOn 106 = .ok (.sipush 179, 3) := by decide +kernel
theorem dX11_goOn_109 : decode cX11_goOn 109 = .ok (.dup2, 1) := by decide +kernel
theorem dX11_goOn_110 : decode cX11_goOn 110 = .ok (.iaload, 1) := by decide +kernel
theorem dX11_goOn_111 : decode cX11_goOn 111 = .ok (.iconst 1, 1) := by decide +kernel
theorem dX11_goOn_112 : decode cX11_goOn 112 = .ok (.iadd, 1) := by decide +kernel
theorem dX11_goOn_113 : decode cX11_goOn 113 = .ok (.iastore, 1) := by decide +kernel
theorem dX11_goOn_114 : decode cX11_goOn 114 = .ok (.return_, 1) := by decide +kernel
set_option maxRecDepth 20000 in
theorem ggX11_master_X11_ofTransfer : GoodIn wsX11_master wsX11_ofTransfer := goodIn_r _ [8] (by decide +kernel) (by decide +kernel)
set_option maxRecDepth 20000 in
theorem gX11_master_X11_ofTransfer : GoodIn wsX11_master (wsV RX11 143 RX11 yX11_ofTransfer wsX11_ofTransfer) := goodIn_app (goodIn_of _ (by decide +kernel)) ggX11_master_X11_ofTransfer
set_option maxRecDepth 20000 in
theorem ggX11_master_X11_beginNext : GoodIn wsX11_master wsX11_beginNext := goodIn_r _ [12, 2, 3, 4, 5, 6, 7, 8, 13, 14, 15, 16, 17, 18, 19, 20, 21, 22, 23, 24, 25, 26, 27, 28, 29, 30, 31, 32, 33, 34, 35, 36] (by decide +kernel) (by decide +kernel)
set_option maxRecDepth 20000 in
theorem gX11_master_X11_beginNext : GoodIn wsX11_master (wsV RX11 147 RX11 yX11_beginNext wsX11_beginNext) := goodIn_app (goodIn_of _ (by decide +kernel)) ggX11_master_X11_beginNext
theorem dX11_master_0 : decode cX11_master 0 = .ok (.aload_n 0, 1) := by decide +kernel
theorem dX11_master_1 : decode cX11_master 1 = .ok (.getfield 39, 3) := by decide +kernel
theorem dX11_master_4 : decode cX11_master 4 = .ok (.iconst 4, 1) := by decide +kernel
theorem dX11_master_5 : decode cX11_master 5 = .ok (.iaload, 1) := by decide +kernel
theorem dX11_master_6 : decode cX11_master 6 = .ok (.ifCond .eq 178, 3) := by decide +kernel
theorem dX11_master_9 : decode cX11_master 9 = .ok (.aload_n 0, 1) := by decide +kernel
theorem dX11_master_10 : decode cX11_master 10 = .ok (.getfield 7, 3) := by decide +kernel
theorem dX11_master_13 : decode cX11_master 13 = .ok (.sipush 181, 3) := by decide +kernel
theorem dX11_master_16 : decode cX11_master 16 = .ok (.iaload, 1) := by decide +kernel
theorem dX11_master_17 : decode cX11_master 17 = .ok (.istore_n 1, 1) := by decide +kernel
theorem dX11_master_18 : decode cX11_master 18 = .ok (.iload_n 1, 1) := by decide +kernel
theorem dX11_master_19 : decode cX11_master 19 = .ok (.ifCond .lt 67, 3) := by decide +kernel
theorem dX11_master_22 : decode cX11_master 22 = .ok (.aload_n 0, 1) := by decide +kernel
theorem dX11_master_23 : decode cX11_master 23 = .ok (.getfield 7, 3) := by decide +kernel
theorem dX11_master_26 : decode cX11_master 26 = .ok (.aload_n 0, 1) := by decide +kernel
theorem dX11_master_27 : decode cX11_master 27 = .ok (.iload_n 1, 1) := by decide +kernel
theorem dX11_master_28 : decode cX11_master 28 = .ok (.iconst 5, 1) := by decide +kernel
theorem dX11_master_29 : decode cX11_master 29 = .ok (.invokevirtual 143, 3) := by decide +kernel
theorem dX11_master_32 : decode cX11_master 32 = .ok (.aload_n 0, 1) := by decide +kernel
theorem dX11_master_33 : decode cX11_master 33 = .ok (.getfield 39, 3) := by decide +kernel
theorem dX11_master_36 : decode cX11_master 36 = .ok (.iconst 5, 1) := by decide +kernel
theorem dX11_master_37 : decode cX11_master 37 = .ok (.iaload, 1) := by decide +kernel
theorem dX11_master_38 : decode cX11_master 38 = .ok (.ifCond .eq 7, 3) := by decide +kernel
theorem dX11_master_41 : decode cX11_master 41 = .ok (.iconst 4, 1) := by decide +kernel
theorem dX11_master_42 : decode cX11_master 42 = .ok (.goto 4, 3) := by decide +kernel
theorem dX11_master_45 : decode cX11_master 45 = .ok (.iconst 3, 1) := by decide +kernel
theorem dX11_master_46 : decode cX11_master 46 = .ok (.iastore, 1) := by decide +kernel
theorem dX11_master_47 : decode cX11_master 47 = .ok (.aload_n 0, 1) := by decide +kernel
theorem dX11_master_48 : decode cX11_master 48 = .ok (.getfield 7, 3) := by decide +kernel
theorem dX11_master_51 : decode cX11_master 51 = .ok (.aload_n 0, 1) := by decide +kernel
theorem dX11_master_52 : decode cX11_master 52 = .ok (.iload_n 1, 1) := by decide +kernel
theorem dX11_master_53 : decode cX11_master 53 = .ok (.bipush 6, 2) := by decide +kernel
theorem dX11_master_55 : decode cX11_master 55 = .ok (.invokevirtual 143, 3) := by decide +kernel
theorem dX11_master_58 : decode cX11_master 58 = .ok (.aload_n 0, 1) := by decide +kernel
theorem dX11_master_59 : decode cX11_master 59 = .ok (.getfield 39, 3) := by decide +kernel
theorem dX11_master_62 : decode cX11_master 62 = .ok (.bipush 6, 2) := by decide +kernel
theorem dX11_master_64 : decode cX11_master 64 = .ok (.iaload, 1) := by decide +kernel
theorem dX11_master_65 : decode cX11_master 65 = .ok (.iastore, 1) := by decide +kernel
theorem dX11_master_66 : decode cX11_master 66 = .ok (.aload_n 0, 1) := by decide +kernel
theorem dX11_master_67 : decode cX11_master 67 = .ok (.getfield 7, 3) := by decide +kernel
theorem dX11_master_70 : decode cX11_master 70 = .ok (.aload_n 0, 1) := by decide +kernel
theorem dX11_master_71 : decode cX11_master 71 = .ok (.iload_n 1, 1) := by decide +kernel
theorem dX11_master_72 : decode cX11_master 72 = .ok (.bipush 8, 2) := by decide +kernel
theorem dX11_master_74 : decode cX11_master 74 = .ok (.invokevirtual 143, 3) := by decide +kernel
theorem dX11_master_77 : decode cX11_master 77 = .ok (.aload_n 0, 1) := by decide +kernel
theorem dX11_master_78 : decode cX11_master 78 = .ok (.getfield 7, 3) := by decide +kernel
theorem dX11_master_81 : decode cX11_master 81 = .ok (.sipush 179, 3) := by decide +kernel
theorem dX11_master_84 : decode cX11_master 84 = .ok (.iaload, 1) := by decide +kernel
theorem dX11_master_85 : decode cX11_master 85 = .ok (.iastore, 1) := by decide +kernel
theorem dX11_master_86 : decode cX11_master 86 = .ok (.aload_n 0, 1) := by decide +kernel
theorem dX11_master_87 : decode cX11_master 87 = .ok (.getfield 7, 3) := by decide +kernel
theorem dX11_master_90 : decode cX11_master 90 = .ok (.sipush 180, 3) := by decide +kernel
theorem dX11_master_93 : decode cX11_master 93 = .ok (.iaload, 1) := by decide +kernel
theorem dX11_master_94 : decode cX11_master 94 = .ok (.istore_n 1, 1) := by decide +kernel
theorem dX11_master_95 : decode cX11_master 95 = .ok (.aload_n 0, 1) := by decide +kernel
theorem dX11_master_96 : decode cX11_master 96 = .ok (.getfield 7, 3) := by decide +kernel
theorem dX11_master_99 : decode cX11_master 99 = .ok (.sipush 181, 3) := by decide +kernel
theorem dX11_master_102 : decode cX11_master 102 = .ok (.iload_n 1, 1) := by decide +kernel
theorem dX11_master_103 : decode cX11_master 103 = .ok (.iastore, 1) := by decide +kernel
theorem dX11_master_104 : decode cX11_master 104 = .ok (.iload_n 1, 1) := by decide +kernel
theorem dX11_master_105 : decode cX11_master 105 = .ok (.ifCond .lt 56, 3) := by decide +kernel
theorem dX11_master_108 : decode cX11_master 108 = .ok (.aload_n 0, 1) := by decide +kernel
theorem dX11_master_109 : decode cX11_master 109 = .ok (.getfield 7, 3) := by decide +kernel
theorem dX11_master_112 : decode cX11_master 112 = .ok (.aload_n 0, 1) := by decide +kernel
theorem dX11_master_113 : decode cX11_master 113 = .ok (.iload_n 1, 1) := by decide +kernel
theorem dX11_master_114 : decode cX11_master 114 = .ok (.iconst 5, 1) := by decide +kernel
theorem dX11_master_115 : decode cX11_master 115 = .ok (.invokevirtual 143, 3) := by decide +kernel
theorem dX11_master_118 : decode cX11_master 118 = .ok (.iconst 2, 1) := by decide +kernel
theorem dX11_master_119 : decode cX11_master 119 = .ok (.iastore, 1) := by decide +kernel
theorem dX11_master_120 : decode cX11_master 120 = .ok (.aload_n 0, 1) := by decide +kernel
theorem dX11_master_121 : decode cX11_master 121 = .ok (.getfield 42, 3) := by decide +kernel
theorem dX11_master_124 : decode cX11_master 124 = .ok (.iconst 3, 1) := by decide +kernel
theorem dX11_master_125 : decode cX11_master 125 = .ok (.aload_n 0, 1) := by decide +kernel
theorem dX11_master_126 : decode cX11_master 126 = .ok (.getfield 7, 3) := by decide +kernel
theorem dX11_master_129 : decode cX11_master 129 = .ok (.aload_n 0, 1) := by decide +kernel
theorem dX11_master_130 : decode cX11_master 130 = .ok (.iload_n 1, 1) := by decide +kernel
theorem dX11_master_131 : decode cX11_master 131 = .ok (.iconst 1, 1) := by decide +kernel
theorem dX11_master_132 : decode cX11_master 132 = .ok (.invokevirtual 143, 3) := by decide +kernel
theorem dX11_master_135 : decode cX11_master 135 = .ok (.iaload, 1) := by decide +kernel
theorem dX11_master_136 : decode cX11_master 136 = .ok (.iconst 1, 1) := by decide +kernel
theorem dX11_master_137 : decode cX11_master 137 = .ok (.if_icmp .ne 17, 3) := by decide +kernel
theorem dX11_master_140 : decode cX11_master 140 = .ok (.aload_n 0, 1) := by decide +kernel
theorem dX11_master_141 : decode cX11_master 141 = .ok (.getfield 7, 3) := by decide +kernel
theorem dX11_master_144 : decode cX11_master 144 = .ok (.aload_n 0, 1) := by decide +kernel
theorem dX11_master_145 : decode cX11_master 145 = .ok (.iload_n 1, 1) := by decide +kernel
theorem dX11_master_146 : decode cX11_master 146 = .ok (.iconst 2, 1) := by decide +kernel
theorem dX11_master_147 : decode cX11_master 147 = .ok (.invokevirtual 143, 3) := by decide +kernel
theorem dX11_master_150 : decode cX11_master 150 = .ok (.iaload, 1) := by decide +kernel
theorem dX11_master_151 : decode cX11_master 151 = .ok (.goto 9, 3) := by decide +kernel
theorem dX11_master_154 : decode cX11_master 154 = .ok (.aload_n 0, 1) := by decide +kernel
theorem dX11_master_155 : decode cX11_master 155 = .ok (.getfield 42, 3) := by decide +kernel
theorem dX11_master_158 : decode cX11_master 158 = .ok (.iconst 3, 1) := by decide +kernel
theorem dX11_master_159 : decode cX11_master 159 = .ok (.iaload, 1) := by decide +kernel
theorem dX11_master_160 : decode cX11_master 160 = .ok (.iastore, 1) := by decide +kernel
theorem dX11_master_161 : decode cX11_master 161 = .ok (.aload_n 0, 1) := by decide +kernel
theorem dX11_master_162 : decode cX11_master 162 = .ok (.getfield 7, 3) := by decide +kernel
theorem dX11_master_165 : decode cX11_master 165 = .ok (.sipush 180, 3) := by decide +kernel
theorem dX11_master_168 : decode cX11_master 168 = .ok (.iconst (-1), 1) := by decide +kernel
theorem dX11_master_169 : decode cX11_master 169 = .ok (.iastore, 1) := by decide +kernel
theorem dX11_master_170 : decode cX11_master 170 = .ok (.aload_n 0, 1) := by decide +kernel
theorem dX11_master_171 : decode cX11_master 171 = .ok (.getfield 42, 3) := by decide +kernel
theorem dX11_master_174 : decode cX11_master 174 = .ok (.iconst 2, 1) := by decide +kernel
theorem dX11_master_175 : decode cX11_master 175 = .ok (.iconst 0, 1) := by decide +kernel
theorem dX11_master_176 : decode cX11_master 176 = .ok (.iastore, 1) := by decide +kernel
theorem dX11_master_177 : decode cX11_master 177 = .ok (.aload_n 0, 1) := by decide +kernel
theorem dX11_master_178 : decode cX11_master 178 = .ok (.invokevirtual 147, 3) := by decide +kernel
theorem dX11_master_181 : decode cX11_master 181 = .ok (.goto 138, 3) := by decide +kernel
theorem dX11_master_184 : decode cX11_master 184 = .ok (.aload_n 0, 1) := by decide +kernel
theorem dX11_master_185 : decode cX11_master 185 = .ok (.getfield 39, 3) := by decide +kernel
theorem dX11_master_188 : decode cX11_master 188 = .ok (.iconst 5, 1) := by decide +kernel
theorem dX11_master_189 : decode cX11_master 189 = .ok (.iaload, 1) := by decide +kernel
theorem dX11_master_190 : decode cX11_master 190 = .ok (.ifCond .eq 129, 3) := by decide +kernel
theorem dX11_master_193 : decode cX11_master 193 = .ok (.aload_n 0, 1) := by decide +kernel
theorem dX11_master_194 : decode cX11_master 194 = .ok (.getfield 7, 3) := by decide +kernel
theorem dX11_master_197 : decode cX11_master 197 = .ok (.sipush 180, 3) := by decide +kernel
theorem dX11_master_200 : decode cX11_master 200 = .ok (.iaload, 1) := by decide +kernel
theorem dX11_master_201 : decode cX11_master 201 = .ok (.ifCond .lt 118, 3) := by decide +kernel
theorem dX11_master_204 : decode cX11_master 204 = .ok (.aload_n 0, 1) := by decide +kernel
theorem dX11_master_205 : decode cX11_master 205 = .ok (.getfield 7, 3) := by decide +kernel
theorem dX11_master_208 : decode cX11_master 208 = .ok (.sipush 180, 3) := by decide +kernel
theorem dX11_master_211 : decode cX11_master 211 = .ok (.iaload, 1) := by decide +kernel
theorem dX11_master_212 : decode cX11_master 212 = .ok (.istore_n 1, 1) := by decide +kernel
theorem dX11_master_213 : decode cX11_master 213 = .ok (.aload_n 0, 1) := by decide +kernel
theorem dX11_master_214 : decode cX11_master 214 = .ok (.getfield 7, 3) := by decide +kernel
theorem dX11_master_217 : decode cX11_master 217 = .ok (.aload_n 0, 1) := by decide +kernel
theorem dX11_master_218 : decode cX11_master 218 = .ok (.iload_n 1, 1) := by decide +kernel
theorem dX11_master_219 : decode cX11_master 219 = .ok (.iconst 5, 1) := by decide +kernel
theorem dX11_master_220 : decode cX11_master 220 = .ok (.invokevirtual 143, 3) := by decide +kernel
theorem dX11_master_223 : decode cX11_master 223 = .ok (.iconst 5, 1) := by decide +kernel
theorem dX11_master_224 : decode cX11_master 224 = .ok (.iastore, 1) := by decide +kernel
theorem dX11_master_225 : decode cX11_master 225 = .ok (.iinc 1 1, 3) := by decide +kernel
theorem dX11_master_228 : decode cX11_master 228 = .ok (.iload_n 1, 1) := by decide +kernel
theorem dX11_master_229 : decode cX11_master 229 = .ok (.aload_n 0, 1) := by decide +kernel
theorem dX11_master_230 : decode cX11_master 230 = .ok (.getfield 7, 3) := by decide +kernel
theorem dX11_master_233 : decode cX11_master 233 = .ok (.sipush 212, 3) := by decide +kernel
theorem dX11_master_236 : decode cX11_master 236 = .ok (.iaload, 1) := by decide +kernel
theorem dX11_master_237 : decode cX11_master 237 = .ok (.if_icmp .ge 36, 3) := by decide +kernel
theorem dX11_master_240 : decode cX11_master 240 = .ok (.aload_n 0, 1) := by decide +kernel
theorem dX11_master_241 : decode cX11_master 241 = .ok (.getfield 7, 3) := by decide +kernel
theorem dX11_master_244 : decode cX11_master 244 = .ok (.aload_n 0, 1) := by decide +kernel
theorem dX11_master_245 : decode cX11_master 245 = .ok (.iload_n 1, 1) := by decide +kernel
theorem dX11_master_246 : decode cX11_master 246 = .ok (.iconst 3, 1) := by decide +kernel
theorem dX11_master_247 : decode cX11_master 247 = .ok (.invokevirtual 143, 3) := by decide +kernel
theorem dX11_master_250 : decode cX11_master 250 = .ok (.iaload, 1) := by decide +kernel
theorem dX11_master_251 : decode cX11_master 251 = .ok (.iconst 3, 1) := by decide +kernel
theorem dX11_master_252 : decode cX11_master 252 = .ok (.if_icmp .ne 21, 3) := by decide +kernel
theorem dX11_master_255 : decode cX11_master 255 = .ok (.aload_n 0, 1) := by decide +kernel
theorem dX11_master_256 : decode cX11_master 256 = .ok (.getfield 7, 3) := by decide +kernel
theorem dX11_master_259 : decode cX11_master 259 = .ok (.aload_n 0, 1) := by decide +kernel
theorem dX11_master_260 : decode cX11_master 260 = .ok (.iload_n 1, 1) := by decide +kernel
theorem dX11_master_261 : decode cX11_master 261 = .ok (.iconst 5, 1) := by decide +kernel
theorem dX11_master_262 : decode cX11_master 262 = .ok (.invokevirtual 143, 3) := by decide +kernel
theorem dX11_master_265 : decode cX11_master 265 = .ok (.iconst 5, 1) := by decide +kernel
theorem dX11_master_266 : decode cX11_master 266 = .ok (.iastore, 1) := by decide +kernel
theorem dX11_master_267 : decode cX11_master 267 = .ok (.iinc 1 1, 3) := by decide +kernel
theorem dX11_master_270 : decode cX11_master 270 = .ok (.goto (-42), 3) := by decide +kernel
theorem dX11_master_273 : decode cX11_master 273 = .ok (.iload_n 1, 1) := by decide +kernel
theorem dX11_master_274 : decode cX11_master 274 = .ok (.aload_n 0, 1) := by decide +kernel
theorem dX11_master_275 : decode cX11_master 275 = .ok (.getfield 7, 3) := by decide +kernel
theorem dX11_master_278 : decode cX11_master 278 = .ok (.sipush 182, 3) := by decide +kernel
theorem dX11_master_281 : decode cX11_master 281 = .ok (.iaload, 1) := by decide +kernel
theorem dX11_master_282 : decode cX11_master 282 = .ok (.if_icmp .eq 21, 3) := by decide +kernel
theorem dX11_master_285 : decode cX11_master 285 = .ok (.aload_n 0, 1) := by decide +kernel
theorem dX11_master_286 : decode cX11_master 286 = .ok (.getfield 7, 3) := by decide +kernel
theorem dX11_master_289 : decode cX11_master 289 = .ok (.sipush 182, 3) := by decide +kernel
theorem dX11_master_292 : decode cX11_master 292 = .ok (.iload_n 1, 1) := by decide +kernel
theorem dX11_master_293 : decode cX11_master 293 = .ok (.iastore, 1) := by decide +kernel
theorem dX11_master_294 : decode cX11_master 294 = .ok (.aload_n 0, 1) := by decide +kernel
theorem dX11_master_295 : decode cX11_master 295 = .ok (.getfield 7, 3) := by decide +kernel
theorem dX11_master_298 : decode cX11_master 298 = .ok (.sipush 183, 3) := by decide +kernel
theorem dX11_master_301 : decode cX11_master 301 = .ok (.iconst 0, 1) := by decide +kernel
theorem dX11_master_302 : decode cX11_master 302 = .ok (.iastore, 1) := by decide +kernel
theorem dX11_master_303 : decode cX11_master 303 = .ok (.aload_n 0, 1) := by decide +kernel
theorem dX11_master_304 : decode cX11_master 304 = .ok (.getfield 7, 3) := by decide +kernel
theorem dX11_master_307 : decode cX11_master 307 = .ok (.sipush 180, 3) := by decide +kernel
theorem dX11_master_310 : decode cX11_master 310 = .ok (.iconst (-1), 1) := by decide +kernel
theorem dX11_master_311 : decode cX11_master 311 = .ok (.iastore, 1) := by decide +kernel
theorem dX11_master_312 : decode cX11_master 312 = .ok (.aload_n 0, 1) := by decide +kernel
theorem dX11_master_313 : decode cX11_master 313 = .ok (.getfield 42, 3) := by decide +kernel
theorem dX11_master_316 : decode cX11_master 316 = .ok (.iconst 2, 1) := by decide +kernel
theorem dX11_master_317 : decode cX11_master 317 = .ok (.iconst 0, 1) := by decide +kernel
theorem dX11_master_318 : decode cX11_master 318 = .ok (.iastore, 1) := by decide +kernel
theorem dX11_master_319 : decode cX11_master 319 = .ok (.return_, 1) := by decide +kernel
set_option maxRecDepth 20000 in
theorem ggX11_beginNext_X11_ofTransfer : GoodIn wsX11_beginNext wsX11_ofTransfer := goodIn_r _ [7] (by decide +kernel) (by decide +kernel)
set_option maxRecDepth 20000 in
theorem gX11_beginNext_X11_ofTransfer : GoodIn wsX11_beginNext (wsV RX11 143 RX11 yX11_ofTransfer wsX11_ofTransfer) := goodIn_app (goodIn_of _ (by decide +kernel)) ggX11_beginNext_X11_ofTransfer
theorem dX11_beginNext_0 : decode cX11_beginNext 0 = .ok (.aload_n 0, 1) := by decide +kernel
theorem dX11_beginNext_1 : decode cX11_beginNext 1 = .ok (.getfield 7, 3) := by decide +kernel
theorem dX11_beginNext_4 : decode cX11_beginNext 4 = .ok (.sipush 182, 3) := by decide +kernel
theorem dX11_beginNext_7 : decode cX11_beginNext 7 = .ok (.iaload, 1) := by decide +kernel
theorem dX11_beginNext_8 : decode cX11_beginNext 8 = .ok (.istore_n 1, 1) := by decide +kernel
theorem dX11_beginNext_9 : decode cX11_beginNext 9 = .ok (.iload_n 1, 1) := by decide +kernel
theorem dX11_beginNext_10 : decode cX11_beginNext 10 = .ok (.aload_n 0, 1) := by decide +kernel
theorem dX11_beginNext_11 : decode cX11_beginNext 11 = .ok (.getfield 7, 3) := by decide +kernel
theorem dX11_beginNext_14 : decode cX11_beginNext 14 = .ok (.sipush 212, 3) := by decide +kernel
theorem dX11_beginNext_17 : decode cX11_beginNext 17 = .ok (.iaload, 1) := by decide +kernel
theorem dX11_beginNext_18 : decode cX11_beginNext 18 = .ok (.if_icmp .lt 4, 3) := by decide +kernel
theorem dX11_beginNext_21 : decode cX11_beginNext 21 = .ok (.return_, 1) := by decide +kernel
theorem dX11_beginNext_22 : decode cX11_beginNext 22 = .ok (.aload_n 0, 1) := by decide +kernel
theorem dX11_beginNext_23 : decode cX11_beginNext 23 = .ok (.getfield 7, 3) := by decide +kernel
theorem dX11_beginNext_26 : decode cX11_beginNext 26 = .ok (.sipush 183, 3) := by decide +kernel
theorem dX11_beginNext_29 : decode cX11_beginNext 29 = .ok (.iaload, 1) := by decide +kernel
theorem dX11_beginNext_30 : decode cX11_beginNext 30 = .ok (.aload_n 0, 1) := by decide +kernel
theorem dX11_beginNext_31 : decode cX11_beginNext 31 = .ok (.getfield 7, 3) := by decide +kernel
theorem dX11_beginNext_34 : decode cX11_beginNext 34 = .ok (.aload_n 0, 1) := by decide +kernel
theorem dX11_beginNext_35 : decode cX11_beginNext 35 = .ok (.iload_n 1, 1) := by decide +kernel
theorem dX11_beginNext_36 : decode cX11_beginNext 36 = .ok (.iconst 4, 1) := by decide +kernel
theorem dX11_beginNext_37 : decode cX11_beginNext 37 = .ok (.invokevirtual 143, 3) := by decide +kernel
theorem dX11_beginNext_40 : decode cX11_beginNext 40 = .ok (.iaload, 1) := by decide +kernel
theorem dX11_beginNext_41 : decode cX11_beginNext 41 = .ok (.if_icmp .ge 16, 3) := by decide +kernel
theorem dX11_beginNext_44 : decode cX11_beginNext 44 = .ok (.aload_n 0, 1) := by decide +kernel
theorem dX11_beginNext_45 : decode cX11_beginNext 45 = .ok (.getfield 7, 3) := by decide +kernel
theorem dX11_beginNext_48 : decode cX11_beginNext 48 = .ok (.sipush 183, 3) := by decide +kernel
theorem dX11_beginNext_51 : decode cX11_beginNext 51 = .ok (.dup2, 1) := by decide +kernel
theorem dX11_beginNext_52 : decode cX11_beginNext 52 = .ok (.iaload, 1) := by decide +kernel
theorem dX11_beginNext_53 : decode cX11_beginNext 53 = .ok (.iconst 1, 1) := by decide +kernel
theorem dX11_beginNext_54 : decode cX11_beginNext 54 = .ok (.iadd, 1) := by decide +kernel
theorem dX11_beginNext_55 : decode cX11_beginNext 55 = .ok (.iastore, 1) := by decide +kernel
theorem dX11_beginNext_56 : decode cX11_beginNext 56 = .ok (.return_, 1) := by decide +kernel
theorem dX11_beginNext_57 : decode cX11_beginNext 57 = .ok (.aload_n 0, 1) := by decide +kernel
theorem dX11_beginNext_58 : decode cX11_beginNext 58 = .ok (.getfield 7, 3) := by decide +kernel
theorem dX11_beginNext_61 : decode cX11_beginNext 61 = .ok (.sipush 180, 3) := by decide +kernel
theorem dX11_beginNext_64 : decode cX11_beginNext 64 = .ok (.iload_n 1, 1) := by decide +kernel
theorem dX11_beginNext_65 : decode cX11_beginNext 65 = .ok (.iastore, 1) := by decide +kernel
theorem dX11_beginNext_66 : decode cX11_beginNext 66 = .ok (.aload_n 0, 1) := by decide +kernel
theorem dX11_beginNext_67 : decode cX11_beginNext 67 = .ok (.getfield 7, 3) := by decide +kernel
theorem dX11_beginNext_70 : decode cX11_beginNext 70 = .ok (.aload_n 0, 1) := by decide +kernel
theorem dX11_beginNext_71 : decode cX11_beginNext 71 = .ok (.iload_n 1, 1) := by decide +kernel
theorem dX11_beginNext_72 : decode cX11_beginNext 72 = .ok (.iconst 5, 1) := by decide +kernel
theorem dX11_beginNext_73 : decode cX11_beginNext 73 = .ok (.invokevirtual 143, 3) := by decide +kernel
theorem dX11_beginNext_76 : decode cX11_beginNext 76 = .ok (.iconst 1, 1) := by decide +kernel
theorem dX11_beginNext_77 : decode cX11_beginNext 77 = .ok (.iastore, 1) := by decide +kernel
theorem dX11_beginNext_78 : decode cX11_beginNext 78 = .ok (.aload_n 0, 1) := by decide +kernel
theorem dX11_beginNext_79 : decode cX11_beginNext 79 = .ok (.getfield 7, 3) := by decide +kernel
theorem dX11_beginNext_82 : decode cX11_beginNext 82 = .ok (.aload_n 0, 1) := by decide +kernel
theorem dX11_beginNext_83 : decode cX11_beginNext 83 = .ok (.iload_n 1, 1) := by decide +kernel
theorem dX11_beginNext_84 : decode cX11_beginNext 84 = .ok (.bipush 7, 2) := by decide +kernel
theorem dX11_beginNext_86 : decode cX11_beginNext 86 = .ok (.invokevirtual 143, 3) := by decide +kernel
theorem dX11_beginNext_89 : decode cX11_beginNext 89 = .ok (.aload_n 0, 1) := by decide +kernel
theorem dX11_beginNext_90 : decode cX11_beginNext 90 = .ok (.getfield 7, 3) := by decide +kernel
theorem dX11_beginNext_93 : decode cX11_beginNext 93 = .ok (.sipush 179, 3) := by decide +kernel
theorem dX11_beginNext_96 : decode cX11_beginNext 96 = .ok (.iaload, 1) := by decide +kernel
theorem dX11_beginNext_97 : decode cX11_beginNext 97 = .ok (.iconst 1, 1) := by decide +kernel
theorem dX11_beginNext_98 : decode cX11_beginNext 98 = .ok (.iadd, 1) := by decide +kernel
theorem dX11_beginNext_99 : decode cX11_beginNext 99 = .ok (.iastore, 1) := by decide +kernel
theorem dX11_beginNext_100 : decode cX11_beginNext 100 = .ok (.aload_n 0, 1) := by decide +kernel
theorem dX11_beginNext_101 : decode cX11_beginNext 101 = .ok (.getfield 42, 3) := by decide +kernel
theorem dX11_beginNext_104 : decode cX11_beginNext 104 = .ok (.iconst 0, 1) := by decide +kernel
theorem dX11_beginNext_105 : decode cX11_beginNext 105 = .ok (.aload_n 0, 1) := by decide +kernel
theorem dX11_beginNext_106 : decode cX11_beginNext 106 = .ok (.getfield 7, 3) := by decide +kernel
theorem dX11_beginNext_109 : decode cX11_beginNext 109 = .ok (.aload_n 0, 1) := by decide +kernel
theorem dX11_beginNext_110 : decode cX11_beginNext 110 = .ok (.iload_n 1, 1) := by decide +kernel
theorem dX11_beginNext_111 : decode cX11_beginNext 111 = .ok (.iconst 0, 1) := by decide +kernel
theorem dX11_beginNext_112 : decode cX11_beginNext 112 = .ok (.invokevirtual 143, 3) := by decide +kernel
theorem dX11_beginNext_115 : decode cX11_beginNext 115 = .ok (.iaload, 1) := by decide +kernel
theorem dX11_beginNext_116 : decode cX11_beginNext 116 = .ok (.iastore, 1) := by decide +kernel
theorem dX11_beginNext_117 : decode cX11_beginNext 117 = .ok (.aload_n 0, 1) := by decide +kernel
theorem dX11_beginNext_118 : decode cX11_beginNext 118 = .ok (.getfield 42, 3) := by decide +kernel
theorem dX11_beginNext_121 : decode cX11_beginNext 121 = .ok (.iconst 1, 1) := by decide +kernel
theorem dX11_beginNext_122 : decode cX11_beginNext 122 = .ok (.aload_n 0, 1) := by decide +kernel
theorem dX11_beginNext_123 : decode cX11_beginNext 123 = .ok (.getfield 7, 3) := by decide +kernel
theorem dX11_beginNext_126 : decode cX11_beginNext 126 = .ok (.aload_n 0, 1) := by decide +kernel
theorem dX11_beginNext_127 : decode cX11_beginNext 127 = .ok (.iload_n 1, 1) := by decide +kernel
theorem dX11_beginNext_128 : decode cX11_beginNext 128 = .ok (.iconst 1, 1) := by decide +kernel
theorem dX11_beginNext_129 : decode cX11_beginNext 129 = .ok (.invokevirtual 143, 3) := by decide +kernel
theorem dX11_beginNext_132 : decode cX11_beginNext 132 = .ok (.iaload, 1) := by decide +kernel
theorem dX11_beginNext_133 : decode cX11_beginNext 133 = .ok (.iastore, 1) := by decide +kernel
theorem dX11_beginNext_134 : decode cX11_beginNext 134 = .ok (.aload_n 0, 1) := by decide +kernel
theorem dX11_beginNext_135 : decode cX11_beginNext 135 = .ok (.getfield 42, 3) := by decide +kernel
theorem dX11_beginNext_138 : decode cX11_beginNext 138 = .ok (.iconst 2, 1) := by decide +kernel
theorem dX11_beginNext_139 : decode cX11_beginNext 139 = .ok (.aload_n 0, 1) := by decide +kernel
theorem dX11_beginNext_140 : decode cX11_beginNext 140 = .ok (.getfield 7, 3) := by decide +kernel
theorem dX11_beginNext_143 : decode cX11_beginNext 143 = .ok (.aload_n 0, 1) := by decide +kernel
theorem dX11_beginNext_144 : decode cX11_beginNext 144 = .ok (.iload_n 1, 1) := by decide +kernel
theorem dX11_beginNext_145 : decode cX11_beginNext 145 = .ok (.iconst 3, 1) := by decide +kernel
theorem dX11_beginNext_146 : decode cX11_beginNext 146 = .ok (.invokevirtual 143, 3) := by decide +kernel
theorem dX11_beginNext_149 : decode cX11_beginNext 149 = .ok (.iaload, 1) := by decide +kernel
theorem dX11_beginNext_150 : decode cX11_beginNext 150 = .ok (.iastore, 1) := by decide +kernel
theorem dX11_beginNext_151 : decode cX11_beginNext 151 = .ok (.aload_n 0, 1) := by decide +kernel
theorem dX11_beginNext_152 : decode cX11_beginNext 152 = .ok (.getfield 7, 3) := by decide +kernel
theorem dX11_beginNext_155 : decode cX11_beginNext 155 = .ok (.sipush 182, 3) := by decide +kernel
theorem dX11_beginNext_158 : decode cX11_beginNext 158 = .ok (.iload_n 1, 1) := by decide +kernel
theorem dX11_beginNext_159 : decode cX11_beginNext 159 = .ok (.iconst 1, 1) := by decide +kernel
theorem dX11_beginNext_160 : decode cX11_beginNext 160 = .ok (.iadd, 1) := by decide +kernel
theorem dX11_beginNext_161 : decode cX11_beginNext 161 = .ok (.iastore, 1) := by decide +kernel
theorem dX11_beginNext_162 : decode cX11_beginNext 162 = .ok (.aload_n 0, 1) := by decide +kernel
theorem dX11_beginNext_163 : decode cX11_beginNext 163 = .ok (.getfield 7, 3) := by decide +kernel
theorem dX11_beginNext_166 : decode cX11_beginNext 166 = .ok (.sipush 183, 3) := by decide +kernel
theorem dX11_beginNext_169 : decode cX11_beginNext 169 = .ok (.iconst 0, 1) := by decide +kernel
theorem dX11_beginNext_170 : decode cX11_beginNext 170 = .ok (.iastore, 1) := by decide +kernel
theorem dX11_beginNext_171 : decode cX11_beginNext 171 = .ok (.return_, 1) := by decide +kernel
set_option maxRecDepth 20000 in
theorem ggX11_lower_X11_over : GoodIn wsX11_lower wsX11_over := goodIn_r _ [9, 1, 2, 3, 10, 11, 12, 13, 14, 15, 16, 17, 18, 19, 20, 21, 22, 23, 24, 25, 26, 27, 28, 29, 30, 31, 32, 33] (by decide +kernel) (by decide +kernel)
set_option maxRecDepth 20000 in
theorem gX11_lower_X11_over : GoodIn wsX11_lower (wsV RX11 150 RX11 yX11_over wsX11_over) := goodIn_app (goodIn_of _ (by decide +kernel)) ggX11_lower_X11_over
theorem dX11_lower_0 : decode cX11_lower 0 = .ok (.aload_n 0, 1) := by decide +kernel
theorem dX11_lower_1 : decode cX11_lower 1 = .ok (.getfield 7, 3) := by decide +kernel
theorem dX11_lower_4 : decode cX11_lower 4 = .ok (.sipush 201, 3) := by decide +kernel
theorem dX11_lower_7 : decode cX11_lower 7 = .ok (.iaload, 1) := by decide +kernel
theorem dX11_lower_8 : decode cX11_lower 8 = .ok (.iconst 1, 1) := by decide +kernel
theorem dX11_lower_9 : decode cX11_lower 9 = .ok (.if_icmp .ne 32, 3) := by decide +kernel
theorem dX11_lower_12 : decode cX11_lower 12 = .ok (.aload_n 0, 1) := by decide +kernel
theorem dX11_lower_13 : decode cX11_lower 13 = .ok (.getfield 7, 3) := by decide +kernel
theorem dX11_lower_16 : decode cX11_lower 16 = .ok (.sipush 201, 3) := by decide +kernel
theorem dX11_lower_19 : decode cX11_lower 19 = .ok (.iconst 2, 1) := by decide +kernel
theorem dX11_lower_20 : decode cX11_lower 20 = .ok (.iastore, 1) := by decide +kernel
theorem dX11_lower_21 : decode cX11_lower 21 = .ok (.aload_n 0, 1) := by decide +kernel
theorem dX11_lower_22 : decode cX11_lower 22 = .ok (.getfield 7, 3) := by decide +kernel
theorem dX11_lower_25 : decode cX11_lower 25 = .ok (.sipush 205, 3) := by decide +kernel
theorem dX11_lower_28 : decode cX11_lower 28 = .ok (.iconst 0, 1) := by decide +kernel
theorem dX11_lower_29 : decode cX11_lower 29 = .ok (.iastore, 1) := by decide +kernel
theorem dX11_lower_30 : decode cX11_lower 30 = .ok (.aload_n 0, 1) := by decide +kernel
theorem dX11_lower_31 : decode cX11_lower 31 = .ok (.getfield 42, 3) := by decide +kernel
theorem dX11_lower_34 : decode cX11_lower 34 = .ok (.bipush 8, 2) := by decide +kernel
theorem dX11_lower_36 : decode cX11_lower 36 = .ok (.iconst 1, 1) := by decide +kernel
theorem dX11_lower_37 : decode cX11_lower 37 = .ok (.iastore, 1) := by decide +kernel
theorem dX11_lower_38 : decode cX11_lower 38 = .ok (.goto 91, 3) := by decide +kernel
theorem dX11_lower_41 : decode cX11_lower 41 = .ok (.aload_n 0, 1) := by decide +kernel
theorem dX11_lower_42 : decode cX11_lower 42 = .ok (.getfield 7, 3) := by decide +kernel
theorem dX11_lower_45 : decode cX11_lower 45 = .ok (.sipush 201, 3) := by decide +kernel
theorem dX11_lower_48 : decode cX11_lower 48 = .ok (.iaload, 1) := by decide +kernel
theorem dX11_lower_49 : decode cX11_lower 49 = .ok (.iconst 2, 1) := by decide +kernel
theorem dX11_lower_50 : decode cX11_lower 50 = .ok (.if_icmp .ne 79, 3) := by decide +kernel
theorem dX11_lower_53 : decode cX11_lower 53 = .ok (.aload_n 0, 1) := by decide +kernel
theorem dX11_lower_54 : decode cX11_lower 54 = .ok (.getfield 7, 3) := by decide +kernel
theorem dX11_lower_57 : decode cX11_lower 57 = .ok (.sipush 205, 3) := by decide +kernel
theorem dX11_lower_60 : decode cX11_lower 60 = .ok (.dup2, 1) := by decide +kernel
theorem dX11_lower_61 : decode cX11_lower 61 = .ok (.iaload, 1) := by decide +kernel
theorem dX11_lower_62 : decode cX11_lower 62 = .ok (.iconst 1, 1) := by decide +kernel
theorem dX11_lower_63 : decode cX11_lower 63 = .ok (.iadd, 1) := by decide +kernel
theorem dX11_lower_64 : decode cX11_lower 64 = .ok (.iastore, 1) := by decide +kernel
theorem dX11_lower_65 : decode cX11_lower 65 = .ok (.aload_n 0, 1) := by decide +kernel
theorem dX11_lower_66 : decode cX11_lower 66 = .ok (.getfield 39, 3) := by decide +kernel
theorem dX11_lower_69 : decode cX11_lower 69 = .ok (.bipush 12, 2) := by decide +kernel
theorem dX11_lower_71 : decode cX11_lower 71 = .ok (.iaload, 1) := by decide +kernel
theorem dX11_lower_72 : decode cX11_lower 72 = .ok (.ifCond .eq 25, 3) := by decide +kernel
theorem dX11_lower_75 : decode cX11_lower 75 = .ok (.aload_n 0, 1) := by decide +kernel
theorem dX11_lower_76 : decode cX11_lower 76 = .ok (.aload_n 0, 1) := by decide +kernel
theorem dX11_lower_77 : decode cX11_lower 77 = .ok (.getfield 39, 3) := by decide +kernel
theorem dX11_lower_80 : decode cX11_lower 80 = .ok (.bipush 13, 2) := by decide +kernel
theorem dX11_lower_82 : decode cX11_lower 82 = .ok (.iaload, 1) := by decide +kernel
theorem dX11_lower_83 : decode cX11_lower 83 = .ok (.ifCond .eq 7, 3) := by decide +kernel
theorem dX11_lower_86 : decode cX11_lower 86 = .ok (.iconst 2, 1) := by decide +kernel
theorem dX11_lower_87 : decode cX11_lower 87 = .ok (.goto 4, 3) := by decide +kernel
theorem dX11_lower_90 : decode cX11_lower 90 = .ok (.iconst 1, 1) := by decide +kernel
theorem dX11_lower_91 : decode cX11_lower 91 = .ok (.invokevirtual 150, 3) := by decide +kernel
theorem dX11_lower_94 : decode cX11_lower 94 = .ok (.goto 35, 3) := by decide +kernel
theorem dX11_lower_97 : decode cX11_lower 97 = .ok (.aload_n 0, 1) := by decide +kernel
theorem dX11_lower_98 : decode cX11_lower 98 = .ok (.getfield 7, 3) := by decide +kernel
theorem dX11_lower_101 : decode cX11_lower 101 = .ok (.sipush 205, 3) := by decide +kernel
theorem dX11_lower_104 : decode cX11_lower 104 = .ok (.iaload, 1) := by decide +kernel
theorem dX11_lower_105 : decode cX11_lower 105 = .ok (.aload_n 0, 1) := by decide +kernel
theorem dX11_lower_106 : decode cX11_lower 106 = .ok (.getfield 35, 3) := by decide +kernel
theorem dX11_lower_109 : decode cX11_lower 109 = .ok (.if_icmp .ne 20, 3) := by decide +kernel
theorem dX11_lower_112 : decode cX11_lower 112 = .ok (.aload_n 0, 1) := by decide +kernel
theorem dX11_lower_113 : decode cX11_lower 113 = .ok (.getfield 7, 3) := by decide +kernel
theorem dX11_lower_116 : decode cX11_lower 116 = .ok (.sipush 207, 3) := by decide +kernel
theorem dX11_lower_119 : decode cX11_lower 119 = .ok (.dup2, 1) := by decide +kernel
theorem dX11_lower_120 : decode cX11_lower 120 = .ok (.iaload, 1) := by decide +kernel
theorem dX11_lower_121 : decode cX11_lower 121 = .ok (.iconst 1, 1) := by decide +kernel
theorem dX11_lower_122 : decode cX11_lower 122 = .ok (.iadd, 1) := by decide +kernel
theorem dX11_lower_123 : decode cX11_lower 123 = .ok (.iastore, 1) := by decide +kernel
theorem dX11_lower_124 : decode cX11_lower 124 = .ok (.aload_n 0, 1) := by decide +kernel
theorem dX11_lower_125 : decode cX11_lower 125 = .ok (.iconst 3, 1) := by decide +kernel
theorem dX11_lower_126 : decode cX11_lower 126 = .ok (.invokevirtual 150, 3) := by decide +kernel
theorem dX11_lower_129 : decode cX11_lower 129 = .ok (.return_, 1) := by decide +kernel
theorem dX11_over_0 : decode cX11_over 0 = .ok (.aload_n 0, 1) := by decide +kernel
theorem dX11_over_1 : decode cX11_over 1 = .ok (.getfield 7, 3) := by decide +kernel
theorem dX11_over_4 : decode cX11_over 4 = .ok (.sipush 201, 3) := by decide +kernel
theorem dX11_over_7 : decode cX11_over 7 = .ok (.iconst 0, 1) := by decide +kernel
theorem dX11_over_8 : decode cX11_over 8 = .ok (.iastore, 1) := by decide +kernel
theorem dX11_over_9 : decode cX11_over 9 = .ok (.aload_n 0, 1) := by decide +kernel
theorem dX11_over_10 : decode cX11_over 10 = .ok (.getfield 42, 3) := by decide +kernel
theorem dX11_over_13 : decode cX11_over 13 = .ok (.bipush 7, 2) := by decide +kernel
theorem dX11_over_15 : decode cX11_over 15 = .ok (.iconst 0, 1) := by decide +kernel
theorem dX11_over_16 : decode cX11_over 16 = .ok (.iastore, 1) := by decide +kernel
theorem dX11_over_17 : decode cX11_over 17 = .ok (.aload_n 0, 1) := by decide +kernel
theorem dX11_over_18 : decode cX11_over 18 = .ok (.getfield 42, 3) := by decide +kernel
theorem dX11_over_21 : decode cX11_over 21 = .ok (.bipush 8, 2) := by decide +kernel
theorem dX11_over_23 : decode cX11_over 23 = .ok (.iconst 0, 1) := by decide +kernel
theorem dX11_over_24 : decode cX11_over 24 = .ok (.iastore, 1) := by decide +kernel
theorem dX11_over_25 : decode cX11_over 25 = .ok (.aload_n 0, 1) := by decide +kernel
theorem dX11_over_26 : decode cX11_over 26 = .ok (.getfield 7, 3) := by decide +kernel
theorem dX11_over_29 : decode cX11_over 29 = .ok (.sipush 204, 3) := by decide +kernel
theorem dX11_over_32 : decode cX11_over 32 = .ok (.iaload, 1) := by decide +kernel
theorem dX11_over_33 : decode cX11_over 33 = .ok (.istore_n 2, 1) := by decide +kernel
theorem dX11_over_34 : decode cX11_over 34 = .ok (.iload_n 2, 1) := by decide +kernel
theorem dX11_over_35 : decode cX11_over 35 = .ok (.sipush 200, 3) := by decide +kernel
theorem dX11_over_38 : decode cX11_over 38 = .ok (.if_icmp .ge 85, 3) := by decide +kernel
theorem dX11_over_41 : decode cX11_over 41 = .ok (.aload_n 0, 1) := by decide +kernel
theorem dX11_over_42 : decode cX11_over 42 = .ok (.getfield 7, 3) := by decide +kernel
theorem dX11_over_45 : decode cX11_over 45 = .ok (.sipush 890, 3) := by decide +kernel
theorem dX11_over_48 : decode cX11_over 48 = .ok (.bipush 8, 2) := by decide +kernel
theorem dX11_over_50 : decode cX11_over 50 = .ok (.iload_n 2, 1) := by decide +kernel
theorem dX11_over_51 : decode cX11_over 51 = .ok (.imul, 1) := by decide +kernel
theorem dX11_over_52 : decode cX11_over 52 = .ok (.iadd, 1) := by decide +kernel
theorem dX11_over_53 : decode cX11_over 53 = .ok (.iconst 5, 1) := by decide +kernel
theorem dX11_over_54 : decode cX11_over 54 = .ok (.iadd, 1) := by decide +kernel
theorem dX11_over_55 : decode cX11_over 55 = .ok (.aload_n 0, 1) := by decide +kernel
theorem dX11_over_56 : decode cX11_over 56 = .ok (.getfield 7, 3) := by decide +kernel
theorem dX11_over_59 : decode cX11_over 59 = .ok (.sipush 179, 3) := by decide +kernel
theorem dX11_over_62 : decode cX11_over 62 = .ok (.iaload, 1) := by decide +kernel
theorem dX11_over_63 : decode cX11_over 63 = .ok (.iastore, 1) := by decide +kernel
theorem dX11_over_64 : decode cX11_over 64 = .ok (.aload_n 0, 1) := by decide +kernel
theorem dX11_over_65 : decode cX11_over 65 = .ok (.getfield 7, 3) := by decide +kernel
theorem dX11_over_68 : decode cX11_over 68 = .ok (.sipush 890, 3) := by decide +kernel
theorem dX11_over_71 : decode cX11_over 71 = .ok (.bipush 8, 2) := by decide +kernel
theorem dX11_over_73 : decode cX11_over 73 = .ok (.iload_n 2, 1) := by decide +kernel
theorem dX11_over_74 : decode cX11_over 74 = .ok (.imul, 1) := by decide +kernel
theorem dX11_over_75 : decode cX11_over 75 = .ok (.iadd, 1) := by decide +kernel
theorem dX11_over_76 : decode cX11_over 76 = .ok (.bipush 6, 2) := by decide +kernel
theorem dX11_over_78 : decode cX11_over 78 = .ok (.iadd, 1) := by decide +kernel
theorem dX11_over_79 : decode cX11_over 79 = .ok (.iload_n 1, 1) := by decide +kernel
theorem dX11_over_80 : decode cX11_over 80 = .ok (.iastore, 1) := by decide +kernel
theorem dX11_over_81 : decode cX11_over 81 = .ok (.aload_n 0, 1) := by decide +kernel
theorem dX11_over_82 : decode cX11_over 82 = .ok (.getfield 7, 3) := by decide +kernel
theorem dX11_over_85 : decode cX11_over 85 = .ok (.sipush 203, 3) := by decide +kernel
theorem dX11_over_88 : decode cX11_over 88 = .ok (.iaload, 1) := by decide +kernel
theorem dX11_over_89 : decode cX11_over 89 = .ok (.ifCond .ne 34, 3) := by decide +kernel
theorem dX11_over_92 : decode cX11_over 92 = .ok (.aload_n 0, 1) := by decide +kernel
theorem dX11_over_93 : decode cX11_over 93 = .ok (.getfield 7, 3) := by decide +kernel
theorem dX11_over_96 : decode cX11_over 96 = .ok (.sipush 890, 3) := by decide +kernel
theorem dX11_over_99 : decode cX11_over 99 = .ok (.bipush 8, 2) := by decide +kernel
theorem dX11_over_101 : decode cX11_over 101 = .ok (.iload_n 2, 1) := by decide +kernel
theorem dX11_over_102 : decode cX11_over 102 = .ok (.imul, 1) := by decide +kernel
theorem dX11_over_103 : decode cX11_over 103 = .ok (.iadd, 1) := by decide +kernel
theorem dX11_over_104 : decode cX11_over 104 = .ok (.iconst 3, 1) := by decide +kernel
theorem dX11_over_105 : decode cX11_over 105 = .ok (.iadd, 1) := by decide +kernel
theorem dX11_over_106 : decode cX11_over 106 = .ok (.iload_n 1, 1) := by decide +kernel
theorem dX11_over_107 : decode cX11_over 107 = .ok (.iconst 1, 1) := by decide +kernel
theorem dX11_over_108 : decode cX11_over 108 = .ok (.if_icmp .ne 13, 3) := by decide +kernel
theorem dX11_over_111 : decode cX11_over 111 = .ok (.aload_n 0, 1) := by decide +kernel
theorem dX11_over_112 : decode cX11_over 112 = .ok (.getfield 39, 3) := by decide +kernel
theorem dX11_over_115 : decode cX11_over 115 = .ok (.bipush 14, 2) := by decide +kernel
theorem dX11_over_117 : decode cX11_over 117 = .ok (.iaload, 1) := by decide +kernel
theorem dX11_over_118 : decode cX11_over 118 = .ok (.goto 4, 3) := by decide +kernel
theorem dX11_over_121 : decode cX11_over 121 = .ok (.iconst 0, 1) := by decide +kernel
theorem dX11_over_122 : decode cX11_over 122 = .ok (.iastore, 1) := by decide +kernel
theorem dX11_over_123 : decode cX11_over 123 = .ok (.aload_n 0, 1) := by decide +kernel
theorem dX11_over_124 : decode cX11_over 124 = .ok (.getfield 7, 3) := by decide +kernel
theorem dX11_over_127 : decode cX11_over 127 = .ok (.sipush 202, 3) := by decide +kernel
theorem dX11_over_130 : decode cX11_over 130 = .ok (.iaload, 1) := by decide +kernel
theorem dX11_over_131 : decode cX11_over 131 = .ok (.iconst 1, 1) := by decide +kernel
theorem dX11_over_132 : decode cX11_over 132 = .ok (.if_icmp .ne 27, 3) := by decide +kernel
theorem dX11_over_135 : decode cX11_over 135 = .ok (.aload_n 0, 1) := by decide +kernel
theorem dX11_over_136 : decode cX11_over 136 = .ok (.getfield 7, 3) := by decide +kernel
theorem dX11_over_139 : decode cX11_over 139 = .ok (.sipush 206, 3) := by decide +kernel
theorem dX11_over_142 : decode cX11_over 142 = .ok (.dup2, 1) := by decide +kernel
theorem dX11_over_143 : decode cX11_over 143 = .ok (.iaload, 1) := by decide +kernel
theorem dX11_over_144 : decode cX11_over 144 = .ok (.iload_n 1, 1) := by decide +kernel
theorem dX11_over_145 : decode cX11_over 145 = .ok (.iconst 1, 1) := by decide +kernel
theorem dX11_over_146 : decode cX11_over 146 = .ok (.if_icmp .le 7, 3) := by decide +kernel
theorem dX11_over_149 : decode cX11_over 149 = .ok (.iconst 1, 1) := by decide +kernel
theorem dX11_over_150 : decode cX11_over 150 = .ok (.goto 4, 3) := by decide +kernel
theorem dX11_over_153 : decode cX11_over 153 = .ok (.iconst 0, 1) := by decide +kernel
theorem dX11_over_154 : decode cX11_over 154 = .ok (.iadd, 1) := by decide +kernel
theorem dX11_over_155 : decode cX11_over 155 = .ok (.iastore, 1) := by decide +kernel
theorem dX11_over_156 : decode cX11_over 156 = .ok (.goto 45, 3) := by decide +kernel
theorem dX11_over_159 : decode cX11_over 159 = .ok (.aload_n 0, 1) := by decide +kernel
theorem dX11_over_160 : decode cX11_over 160 = .ok (.getfield 7, 3) := by decide +kernel
theorem dX11_over_163 : decode cX11_over 163 = .ok (.sipush 189, 3) := by decide +kernel
theorem dX11_over_166 : decode cX11_over 166 = .ok (.iconst 1, 1) := by decide +kernel
theorem dX11_over_167 : decode cX11_over 167 = .ok (.iastore, 1) := by decide +kernel
theorem dX11_over_168 : decode cX11_over 168 = .ok (.aload_n 0, 1) := by decide +kernel
theorem dX11_over_169 : decode cX11_over 169 = .ok (.getfield 7, 3) := by decide +kernel
theorem dX11_over_172 : decode cX11_over 172 = .ok (.sipush 190, 3) := by decide +kernel
theorem dX11_over_175 : decode cX11_over 175 = .ok (.iload_n 1, 1) := by decide +kernel
theorem dX11_over_176 : decode cX11_over 176 = .ok (.iconst 1, 1) := by decide +kernel
theorem dX11_over_177 : decode cX11_over 177 = .ok (.if_icmp .le 7, 3) := by decide +kernel
theorem dX11_over_180 : decode cX11_over 180 = .ok (.iconst 1, 1) := by decide +kernel
theorem dX11_over_181 : decode cX11_over 181 = .ok (.goto 4, 3) := by decide +kernel
theorem dX11_over_184 : decode cX11_over 184 = .ok (.iconst 0, 1) := by decide +kernel
theorem dX11_over_185 : decode cX11_over 185 = .ok (.iastore, 1) := by decide +kernel
theorem dX11_over_186 : decode cX11_over 186 = .ok (.aload_n 0, 1) := by decide +kernel
theorem dX11_over_187 : decode cX11_over 187 = .ok (.getfield 7, 3) := by decide +kernel
theorem dX11_over_190 : decode cX11_over 190 = .ok (.sipush 191, 3) := by decide +kernel
theorem dX11_over_193 : decode cX11_over 193 = .ok (.aload_n 0, 1) := by decide +kernel
theorem dX11_over_194 : decode cX11_over 194 = .ok (.getfield 39, 3) := by decide +kernel
theorem dX11_over_197 : decode cX11_over 197 = .ok (.bipush 14, 2) := by decide +kernel
theorem dX11_over_199 : decode cX11_over 199 = .ok (.iaload, 1) := by decide +kernel
theorem dX11_over_200 : decode cX11_over 200 = .ok (.iastore, 1) := by decide +kernel
theorem dX11_over_201 : decode cX11_over 201 = .ok (.return_, 1) := by decide +kernel
set_option maxRecDepth 20000 in
theorem ggX11_bridge_X11_toWait : GoodIn wsX11_bridge wsX11_toWait := goodIn_r _ [10, 1, 30, 31, 32, 33, 34, 35, 36, 37, 38, 39, 40, 41, 42, 43, 44, 45, 46, 47, 48, 49, 50, 51, 52, 53] (by decide +kernel) (by decide +kernel)
set_option maxRecDepth 20000 in
theorem gX11_bridge_X11_toWait : GoodIn wsX11_bridge (wsV RX11 154 RX11 yX11_toWait wsX11_toWait) := goodIn_app (goodIn_of _ (by decide +kernel)) ggX11_bridge_X11_toWait
set_option maxRecDepth 20000 in
theorem ggX11_bridge_X11_takeCase : GoodIn wsX11_bridge wsX11_takeCase := goodIn_r _ [14, 2, 1, 15, 16, 17, 18, 9, 19, 20, 21, 22, 23, 24, 25, 26, 27, 28, 29, 6, 7, 8, 10, 30, 31, 32, 33, 34, 35, 36, 37, 38, 39, 40, 41, 42, 43, 44, 45, 46, 47, 48, 49, 50, 51, 52, 53] (by decide +kernel) (by decide +kernel)
set_option maxRecDepth 20000 in
theorem gX11_bridge_X11_takeCase : GoodIn wsX11_bridge (wsV RX11 157 RX11 yX11_takeCase wsX11_takeCase) := goodIn_app (goodIn_of _ (by decide +kernel)) ggX11_bridge_X11_takeCase
set_option maxRecDepth 20000 in
theorem ggX11_bridge_X11_in : GoodIn wsX11_bridge wsX11_in := goodIn_r _ [29] (by decide +kernel) (by decide +kernel)
set_option maxRecDepth 20000 in
theorem gX11_bridge_X11_in : GoodIn wsX11_bridge (va_wsS RX11 74 yX11_in wsX11_in) := goodIn_app (goodIn_of _ (by decide +kernel)) ggX11_bridge_X11_in
theorem dX11_bridge_0 : decode cX11_bridge 0 = .ok (.aload_n 0, 1) := by decide +kernel
theorem dX11_bridge_1 : decode cX11_bridge 1 = .ok (.getfield 7, 3) := by decide +kernel
theorem dX11_bridge_4 : decode cX11_bridge 4 = .ok (.sipush 184, 3) := by decide +kernel
theorem dX11_bridge_7 : decode cX11_bridge 7 = .ok (.iaload, 1) := by decide +kernel
theorem dX11_bridge_8 : decode cX11_bridge 8 = .ok (.tableswitch 149 2 4 #[28, 49, 137], 28) := by decide +kernel
theorem dX11_bridge_36 : decode cX11_bridge 36 = .ok (.aload_n 0, 1) := by decide +kernel
theorem dX11_bridge_37 : decode cX11_bridge 37 = .ok (.getfield 7, 3) := by decide +kernel
theorem dX11_bridge_40 : decode cX11_bridge 40 = .ok (.sipush 187, 3) := by decide +kernel
theorem dX11_bridge_43 : decode cX11_bridge 43 = .ok (.aload_n 0, 1) := by decide +kernel
theorem dX11_bridge_44 : decode cX11_bridge 44 = .ok (.getfield 39, 3) := by decide +kernel
theorem dX11_bridge_47 : decode cX11_bridge 47 = .ok (.iconst 3, 1) := by decide +kernel
theorem dX11_bridge_48 : decode cX11_bridge 48 = .ok (.iaload, 1) := by decide +kernel
theorem dX11_bridge_49 : decode cX11_bridge 49 = .ok (.iastore, 1) := by decide +kernel
theorem dX11_bridge_50 : decode cX11_bridge 50 = .ok (.aload_n 0, 1) := by decide +kernel
theorem dX11_bridge_51 : decode cX11_bridge 51 = .ok (.invokevirtual 154, 3) := by decide +kernel
theorem dX11_bridge_54 : decode cX11_bridge 54 = .ok (.goto 179, 3) := by decide +kernel
theorem dX11_bridge_57 : decode cX11_bridge 57 = .ok (.aload_n 0, 1) := by decide +kernel
theorem dX11_bridge_58 : decode cX11_bridge 58 = .ok (.getfield 7, 3) := by decide +kernel
theorem dX11_bridge_61 : decode cX11_bridge 61 = .ok (.sipush 189, 3) := by decide +kernel
theorem dX11_bridge_64 : decode cX11_bridge 64 = .ok (.iaload, 1) := by decide +kernel
theorem dX11_bridge_65 : decode cX11_bridge 65 = .ok (.iconst 1, 1) := by decide +kernel
theorem dX11_bridge_66 : decode cX11_bridge 66 = .ok (.if_icmp .ne 167, 3) := by decide +kernel
theorem dX11_bridge_69 : decode cX11_bridge 69 = .ok (.aload_n 0, 1) := by decide +kernel
theorem dX11_bridge_70 : decode cX11_bridge 70 = .ok (.getfield 7, 3) := by decide +kernel
theorem dX11_bridge_73 : decode cX11_bridge 73 = .ok (.sipush 184, 3) := by decide +kernel
theorem dX11_bridge_76 : decode cX11_bridge 76 = .ok (.aload_n 0, 1) := by decide +kernel
theorem dX11_bridge_77 : decode cX11_bridge 77 = .ok (.getfield 7, 3) := by decide +kernel
theorem dX11_bridge_80 : decode cX11_bridge 80 = .ok (.sipush 190, 3) := by decide +kernel
theorem dX11_bridge_83 : decode cX11_bridge 83 = .ok (.iaload, 1) := by decide +kernel
theorem dX11_bridge_84 : decode cX11_bridge 84 = .ok (.iconst 1, 1) := by decide +kernel
theorem dX11_bridge_85 : decode cX11_bridge 85 = .ok (.if_icmp .ne 7, 3) := by decide +kernel
theorem dX11_bridge_88 : decode cX11_bridge 88 = .ok (.iconst 4, 1) := by decide +kernel
theorem dX11_bridge_89 : decode cX11_bridge 89 = .ok (.goto 5, 3) := by decide +kernel
theorem dX11_bridge_92 : decode cX11_bridge 92 = .ok (.bipush 6, 2) := by decide +kernel
theorem dX11_bridge_94 : decode cX11_bridge 94 = .ok (.iastore, 1) := by decide +kernel
theorem dX11_bridge_95 : decode cX11_bridge 95 = .ok (.aload_n 0, 1) := by decide +kernel
theorem dX11_bridge_96 : decode cX11_bridge 96 = .ok (.getfield 42, 3) := by decide +kernel
theorem dX11_bridge_99 : decode cX11_bridge 99 = .ok (.bipush 6, 2) := by decide +kernel
theorem dX11_bridge_101 : decode cX11_bridge 101 = .ok (.aload_n 0, 1) := by decide +kernel
theorem dX11_bridge_102 : decode cX11_bridge 102 = .ok (.getfield 7, 3) := by decide +kernel
theorem dX11_bridge_105 : decode cX11_bridge 105 = .ok (.sipush 190, 3) := by decide +kernel
theorem dX11_bridge_108 : decode cX11_bridge 108 = .ok (.iaload, 1) := by decide +kernel
theorem dX11_bridge_109 : decode cX11_bridge 109 = .ok (.ifCond .ne 25, 3) := by decide +kernel
theorem dX11_bridge_112 : decode cX11_bridge 112 = .ok (.aload_n 0, 1) := by decide +kernel
theorem dX11_bridge_113 : decode cX11_bridge 113 = .ok (.getfield 7, 3) := by decide +kernel
theorem dX11_bridge_116 : decode cX11_bridge 116 = .ok (.sipush 186, 3) := by decide +kernel
theorem dX11_bridge_119 : decode cX11_bridge 119 = .ok (.iaload, 1) := by decide +kernel
theorem dX11_bridge_120 : decode cX11_bridge 120 = .ok (.ifCond .ne 14, 3) := by decide +kernel
theorem dX11_bridge_123 : decode cX11_bridge 123 = .ok (.aload_n 0, 1) := by decide +kernel
theorem dX11_bridge_124 : decode cX11_bridge 124 = .ok (.getfield 7, 3) := by decide +kernel
theorem dX11_bridge_127 : decode cX11_bridge 127 = .ok (.sipush 191, 3) := by decide +kernel
theorem dX11_bridge_130 : decode cX11_bridge 130 = .ok (.iaload, 1) := by decide +kernel
theorem dX11_bridge_131 : decode cX11_bridge 131 = .ok (.goto 10, 3) := by decide +kernel
theorem dX11_bridge_134 : decode cX11_bridge 134 = .ok (.aload_n 0, 1) := by decide +kernel
theorem dX11_bridge_135 : decode cX11_bridge 135 = .ok (.getfield 42, 3) := by decide +kernel
theorem dX11_bridge_138 : decode cX11_bridge 138 = .ok (.bipush 6, 2) := by decide +kernel
theorem dX11_bridge_140 : decode cX11_bridge 140 = .ok (.iaload, 1) := by decide +kernel
theorem dX11_bridge_141 : decode cX11_bridge 141 = .ok (.iastore, 1) := by decide +kernel
theorem dX11_bridge_142 : decode cX11_bridge 142 = .ok (.goto 91, 3) := by decide +kernel
theorem dX11_bridge_145 : decode cX11_bridge 145 = .ok (.aload_n 0, 1) := by decide +kernel
theorem dX11_bridge_146 : decode cX11_bridge 146 = .ok (.getfield 7, 3) := by decide +kernel
theorem dX11_bridge_149 : decode cX11_bridge 149 = .ok (.sipush 184, 3) := by decide +kernel
theorem dX11_bridge_152 : decode cX11_bridge 152 = .ok (.iconst 5, 1) := by decide +kernel
theorem dX11_bridge_153 : decode cX11_bridge 153 = .ok (.iastore, 1) := by decide +kernel
theorem dX11_bridge_154 : decode cX11_bridge 154 = .ok (.goto 79, 3) := by decide +kernel
theorem dX11_bridge_157 : decode cX11_bridge 157 = .ok (.aload_n 0, 1) := by decide +kernel
theorem dX11_bridge_158 : decode cX11_bridge 158 = .ok (.getfield 7, 3) := by decide +kernel
theorem dX11_bridge_161 : decode cX11_bridge 161 = .ok (.sipush 184, 3) := by decide +kernel
theorem dX11_bridge_164 : decode cX11_bridge 164 = .ok (.iaload, 1) := by decide +kernel
theorem dX11_bridge_165 : decode cX11_bridge 165 = .ok (.iconst 1, 1) := by decide +kernel
theorem dX11_bridge_166 : decode cX11_bridge 166 = .ok (.if_icmp .ne 63, 3) := by decide +kernel
theorem dX11_bridge_169 : decode cX11_bridge 169 = .ok (.aload_n 0, 1) := by decide +kernel
theorem dX11_bridge_170 : decode cX11_bridge 170 = .ok (.getfield 7, 3) := by decide +kernel
theorem dX11_bridge_173 : decode cX11_bridge 173 = .ok (.sipush 193, 3) := by decide +kernel
theorem dX11_bridge_176 : decode cX11_bridge 176 = .ok (.aload_n 0, 1) := by decide +kernel
theorem dX11_bridge_177 : decode cX11_bridge 177 = .ok (.getfield 7, 3) := by decide +kernel
theorem dX11_bridge_180 : decode cX11_bridge 180 = .ok (.sipush 192, 3) := by decide +kernel
theorem dX11_bridge_183 : decode cX11_bridge 183 = .ok (.iaload, 1) := by decide +kernel
theorem dX11_bridge_184 : decode cX11_bridge 184 = .ok (.iadd, 1) := by decide +kernel
theorem dX11_bridge_185 : decode cX11_bridge 185 = .ok (.aload_n 0, 1) := by decide +kernel
theorem dX11_bridge_186 : decode cX11_bridge 186 = .ok (.getfield 7, 3) := by decide +kernel
theorem dX11_bridge_189 : decode cX11_bridge 189 = .ok (.sipush 185, 3) := by decide +kernel
theorem dX11_bridge_192 : decode cX11_bridge 192 = .ok (.iaload, 1) := by decide +kernel
theorem dX11_bridge_193 : decode cX11_bridge 193 = .ok (.iastore, 1) := by decide +kernel
theorem dX11_bridge_194 : decode cX11_bridge 194 = .ok (.aload_n 0, 1) := by decide +kernel
theorem dX11_bridge_195 : decode cX11_bridge 195 = .ok (.getfield 7, 3) := by decide +kernel
theorem dX11_bridge_198 : decode cX11_bridge 198 = .ok (.sipush 197, 3) := by decide +kernel
theorem dX11_bridge_201 : decode cX11_bridge 201 = .ok (.aload_n 0, 1) := by decide +kernel
theorem dX11_bridge_202 : decode cX11_bridge 202 = .ok (.getfield 7, 3) := by decide +kernel
theorem dX11_bridge_205 : decode cX11_bridge 205 = .ok (.sipush 192, 3) := by decide +kernel
theorem dX11_bridge_208 : decode cX11_bridge 208 = .ok (.iaload, 1) := by decide +kernel
theorem dX11_bridge_209 : decode cX11_bridge 209 = .ok (.iadd, 1) := by decide +kernel
theorem dX11_bridge_210 : decode cX11_bridge 210 = .ok (.aload_n 0, 1) := by decide +kernel
theorem dX11_bridge_211 : decode cX11_bridge 211 = .ok (.getfield 39, 3) := by decide +kernel
theorem dX11_bridge_214 : decode cX11_bridge 214 = .ok (.iconst 3, 1) := by decide +kernel
theorem dX11_bridge_215 : decode cX11_bridge 215 = .ok (.iaload, 1) := by decide +kernel
theorem dX11_bridge_216 : decode cX11_bridge 216 = .ok (.iastore, 1) := by decide +kernel
theorem dX11_bridge_217 : decode cX11_bridge 217 = .ok (.aload_n 0, 1) := by decide +kernel
theorem dX11_bridge_218 : decode cX11_bridge 218 = .ok (.getfield 7, 3) := by decide +kernel
theorem dX11_bridge_221 : decode cX11_bridge 221 = .ok (.sipush 192, 3) := by decide +kernel
theorem dX11_bridge_224 : decode cX11_bridge 224 = .ok (.dup2, 1) := by decide +kernel
theorem dX11_bridge_225 : decode cX11_bridge 225 = .ok (.iaload, 1) := by decide +kernel
theorem dX11_bridge_226 : decode cX11_bridge 226 = .ok (.iconst 1, 1) := by decide +kernel
theorem dX11_bridge_227 : decode cX11_bridge 227 = .ok (.iadd, 1) := by decide +kernel
theorem dX11_bridge_228 : decode cX11_bridge 228 = .ok (.iastore, 1) := by decide +kernel
theorem dX11_bridge_229 : decode cX11_bridge 229 = .ok (.aload_n 0, 1) := by decide +kernel
theorem dX11_bridge_230 : decode cX11_bridge 230 = .ok (.invokevirtual 157, 3) := by decide +kernel
theorem dX11_bridge_233 : decode cX11_bridge 233 = .ok (.aload_n 0, 1) := by decide +kernel
theorem dX11_bridge_234 : decode cX11_bridge 234 = .ok (.getfield 7, 3) := by decide +kernel
theorem dX11_bridge_237 : decode cX11_bridge 237 = .ok (.sipush 184, 3) := by decide +kernel
theorem dX11_bridge_240 : decode cX11_bridge 240 = .ok (.iaload, 1) := by decide +kernel
theorem dX11_bridge_241 : decode cX11_bridge 241 = .ok (.i2l, 1) := by decide +kernel
theorem dX11_bridge_242 : decode cX11_bridge 242 = .ok (.ldc2_w 118, 3) := by decide +kernel
theorem dX11_bridge_245 : decode cX11_bridge 245 = .ok (.ldc2_w 109, 3) := by decide +kernel
theorem dX11_bridge_248 : decode cX11_bridge 248 = .ok (.invokestatic 74, 3) := by decide +kernel
theorem dX11_bridge_251 : decode cX11_bridge 251 = .ok (.istore_n 1, 1) := by decide +kernel
theorem dX11_bridge_252 : decode cX11_bridge 252 = .ok (.aload_n 0, 1) := by decide +kernel
theorem dX11_bridge_253 : decode cX11_bridge 253 = .ok (.getfield 42, 3) := by decide +kernel
theorem dX11_bridge_256 : decode cX11_bridge 256 = .ok (.iconst 4, 1) := by decide +kernel
theorem dX11_bridge_257 : decode cX11_bridge 257 = .ok (.iload_n 1, 1) := by decide +kernel
theorem dX11_bridge_258 : decode cX11_bridge 258 = .ok (.ifCond .eq 7, 3) := by decide +kernel
theorem dX11_bridge_261 : decode cX11_bridge 261 = .ok (.iconst 0, 1) := by decide +kernel
theorem dX11_bridge_262 : decode cX11_bridge 262 = .ok (.goto 4, 3) := by decide +kernel
theorem dX11_bridge_265 : decode cX11_bridge 265 = .ok (.iconst 1, 1) := by decide +kernel
theorem dX11_bridge_266 : decode cX11_bridge 266 = .ok (.iastore, 1) := by decide +kernel
theorem dX11_bridge_267 : decode cX11_bridge 267 = .ok (.aload_n 0, 1) := by decide +kernel
theorem dX11_bridge_268 : decode cX11_bridge 268 = .ok (.getfield 42, 3) := by decide +kernel
theorem dX11_bridge_271 : decode cX11_bridge 271 = .ok (.iconst 5, 1) := by decide +kernel
theorem dX11_bridge_272 : decode cX11_bridge 272 = .ok (.aload_n 0, 1) := by decide +kernel
theorem dX11_bridge_273 : decode cX11_bridge 273 = .ok (.getfield 7, 3) := by decide +kernel
theorem dX11_bridge_276 : decode cX11_bridge 276 = .ok (.sipush 184, 3) := by decide +kernel
theorem dX11_bridge_279 : decode cX11_bridge 279 = .ok (.iaload, 1) := by decide +kernel
theorem dX11_bridge_280 : decode cX11_bridge 280 = .ok (.iconst 4, 1) := by decide +kernel
theorem dX11_bridge_281 : decode cX11_bridge 281 = .ok (.if_icmp .eq 15, 3) := by decide +kernel
theorem dX11_bridge_284 : decode cX11_bridge 284 = .ok (.aload_n 0, 1) := by decide +kernel
theorem dX11_bridge_285 : decode cX11_bridge 285 = .ok (.getfield 7, 3) := by decide +kernel
theorem dX11_bridge_288 : decode cX11_bridge 288 = .ok (.sipush 184, 3) := by decide +kernel
theorem dX11_bridge_291 : decode cX11_bridge 291 = .ok (.iaload, 1) := by decide +kernel
theorem dX11_bridge_292 : decode cX11_bridge 292 = .ok (.iconst 5, 1) := by decide +kernel
theorem dX11_bridge_293 : decode cX11_bridge 293 = .ok (.if_icmp .ne 7, 3) := by decide +kernel
theorem dX11_bridge_296 : decode cX11_bridge 296 = .ok (.iconst 1, 1) := by decide +kernel
theorem dX11_bridge_297 : decode cX11_bridge 297 = .ok (.goto 4, 3) := by decide +kernel
theorem dX11_bridge_300 : decode cX11_bridge 300 = .ok (.iconst 0, 1) := by decide +kernel
theorem dX11_bridge_301 : decode cX11_bridge 301 = .ok (.iastore, 1) := by decide +kernel
theorem dX11_bridge_302 : decode cX11_bridge 302 = .ok (.return_, 1) := by decide +kernel
theorem dX11_toWait_0 : decode cX11_toWait 0 = .ok (.aload_n 0, 1) := by decide +kernel
theorem dX11_toWait_1 : decode cX11_toWait 1 = .ok (.getfield 7, 3) := by decide +kernel
theorem dX11_toWait_4 : decode cX11_toWait 4 = .ok (.sipush 184, 3) := by decide +kernel
theorem dX11_toWait_7 : decode cX11_toWait 7 = .ok (.iconst 3, 1) := by decide +kernel
theorem dX11_toWait_8 : decode cX11_toWait 8 = .ok (.iastore, 1) := by decide +kernel
theorem dX11_toWait_9 : decode cX11_toWait 9 = .ok (.aload_n 0, 1) := by decide +kernel
theorem dX11_toWait_10 : decode cX11_toWait 10 = .ok (.getfield 7, 3) := by decide +kernel
theorem dX11_toWait_13 : decode cX11_toWait 13 = .ok (.sipush 188, 3) := by decide +kernel
theorem dX11_toWait_16 : decode cX11_toWait 16 = .ok (.iconst 0, 1) := by decide +kernel
theorem dX11_toWait_17 : decode cX11_toWait 17 = .ok (.iastore, 1) := by decide +kernel
theorem dX11_toWait_18 : decode cX11_toWait 18 = .ok (.aload_n 0, 1) := by decide +kernel
theorem dX11_toWait_19 : decode cX11_toWait 19 = .ok (.getfield 7, 3) := by decide +kernel
theorem dX11_toWait_22 : decode cX11_toWait 22 = .ok (.sipush 189, 3) := by decide +kernel
theorem dX11_toWait_25 : decode cX11_toWait 25 = .ok (.iconst 0, 1) := by decide +kernel
theorem dX11_toWait_26 : decode cX11_toWait 26 = .ok (.iastore, 1) := by decide +kernel
theorem dX11_toWait_27 : decode cX11_toWait 27 = .ok (.return_, 1) := by decide +kernel
set_option maxRecDepth 20000 in
theorem ggX11_takeCase_X11_slaveOf : GoodIn wsX11_takeCase wsX11_slaveOf := goodIn_r _ [8, 9, 10, 11, 12, 7, 13, 14, 15, 16, 17, 18, 23, 24, 25, 26, 27, 28, 29, 30, 31, 32, 33, 34, 35, 36, 37, 38, 39, 40, 41, 42, 43, 44, 45, 46] (by decide +kernel) (by decide +kernel)
set_option maxRecDepth 20000 in
theorem gX11_takeCase_X11_slaveOf : GoodIn wsX11_takeCase (wsV RX11 103 RX11 yX11_slaveOf wsX11_slaveOf) := goodIn_app (goodIn_of _ (by decide +kernel)) ggX11_takeCase_X11_slaveOf
set_option maxRecDepth 20000 in
theorem ggX11_takeCase_X11_toWait : GoodIn wsX11_takeCase wsX11_toWait := goodIn_r _ [22, 2, 23, 24, 25, 26, 27, 28, 29, 30, 31, 32, 33, 34, 35, 36, 37, 38, 39, 40, 41, 42, 43, 44, 45, 46] (by decide +kernel) (by decide +kernel)
set_option maxRecDepth 20000 in
theorem gX11_takeCase_X11_toWait : GoodIn wsX11_takeCase (wsV RX11 154 RX11 yX11_toWait wsX11_toWait) := goodIn_app (goodIn_of _ (by decide +kernel)) ggX11_takeCase_X11_toWait
theorem dX11_takeCase_0 : decode cX11_takeCase 0 = .ok (.aload_n 0, 1) := by decide +kernel
theorem dX11_takeCase_1 : decode cX11_takeCase 1 = .ok (.getfield 39, 3) := by decide +kernel
theorem dX11_takeCase_4 : decode cX11_takeCase 4 = .ok (.iconst 2, 1) := by decide +kernel
theorem dX11_takeCase_5 : decode cX11_takeCase 5 = .ok (.iaload, 1) := by decide +kernel
theorem dX11_takeCase_6 : decode cX11_takeCase 6 = .ok (.iconst 2, 1) := by decide +kernel
theorem dX11_takeCase_7 : decode cX11_takeCase 7 = .ok (.if_icmp .eq 23, 3) := by decide +kernel
theorem dX11_takeCase_10 : decode cX11_takeCase 10 = .ok (.aload_n 0, 1) := by decide +kernel
theorem dX11_takeCase_11 : decode cX11_takeCase 11 = .ok (.getfield 39, 3) := by decide +kernel
theorem dX11_takeCase_14 : decode cX11_takeCase 14 = .ok (.iconst 2, 1) := by decide +kernel
theorem dX11_takeCase_15 : decode cX11_takeCase 15 = .ok (.iaload, 1) := by decide +kernel
theorem dX11_takeCase_16 : decode cX11_takeCase 16 = .ok (.iconst 3, 1) := by decide +kernel
theorem dX11_takeCase_17 : decode cX11_takeCase 17 = .ok (.if_icmp .eq 13, 3) := by decide +kernel
theorem dX11_takeCase_20 : decode cX11_takeCase 20 = .ok (.aload_n 0, 1) := by decide +kernel
theorem dX11_takeCase_21 : decode cX11_takeCase 21 = .ok (.getfield 7, 3) := by decide +kernel
theorem dX11_takeCase_24 : decode cX11_takeCase 24 = .ok (.sipush 184, 3) := by decide +kernel
theorem dX11_takeCase_27 : decode cX11_takeCase 27 = .ok (.iconst 0, 1) := by decide +kernel
theorem dX11_takeCase_28 : decode cX11_takeCase 28 = .ok (.iastore, 1) := by decide +kernel
theorem dX11_takeCase_29 : decode cX11_takeCase 29 = .ok (.return_, 1) := by decide +kernel
theorem dX11_takeCase_30 : decode cX11_takeCase 30 = .ok (.aload_n 0, 1) := by decide +kernel
theorem dX11_takeCase_31 : decode cX11_takeCase 31 = .ok (.getfield 7, 3) := by decide +kernel
theorem dX11_takeCase_34 : decode cX11_takeCase 34 = .ok (.sipush 185, 3) := by decide +kernel
theorem dX11_takeCase_37 : decode cX11_takeCase 37 = .ok (.aload_n 0, 1) := by decide +kernel
theorem dX11_takeCase_38 : decode cX11_takeCase 38 = .ok (.getfield 39, 3) := by decide +kernel
theorem dX11_takeCase_41 : decode cX11_takeCase 41 = .ok (.iconst 0, 1) := by decide +kernel
theorem dX11_takeCase_42 : decode cX11_takeCase 42 = .ok (.iaload, 1) := by decide +kernel
theorem dX11_takeCase_43 : decode cX11_takeCase 43 = .ok (.iastore, 1) := by decide +kernel
theorem dX11_takeCase_44 : decode cX11_takeCase 44 = .ok (.aload_n 0, 1) := by decide +kernel
theorem dX11_takeCase_45 : decode cX11_takeCase 45 = .ok (.getfield 7, 3) := by decide +kernel
theorem dX11_takeCase_48 : decode cX11_takeCase 48 = .ok (.sipush 186, 3) := by decide +kernel
theorem dX11_takeCase_51 : decode cX11_takeCase 51 = .ok (.aload_n 0, 1) := by decide +kernel
theorem dX11_takeCase_52 : decode cX11_takeCase 52 = .ok (.getfield 39, 3) := by decide +kernel
theorem dX11_takeCase_55 : decode cX11_takeCase 55 = .ok (.iconst 1, 1) := by decide +kernel
theorem dX11_takeCase_56 : decode cX11_takeCase 56 = .ok (.iaload, 1) := by decide +kernel
theorem dX11_takeCase_57 : decode cX11_takeCase 57 = .ok (.ifCond .eq 7, 3) := by decide +kernel
theorem dX11_takeCase_60 : decode cX11_takeCase 60 = .ok (.iconst 1, 1) := by decide +kernel
theorem dX11_takeCase_61 : decode cX11_takeCase 61 = .ok (.goto 4, 3) := by decide +kernel
theorem dX11_takeCase_64 : decode cX11_takeCase 64 = .ok (.iconst 0, 1) := by decide +kernel
theorem dX11_takeCase_65 : decode cX11_takeCase 65 = .ok (.iastore, 1) := by decide +kernel
theorem dX11_takeCase_66 : decode cX11_takeCase 66 = .ok (.aload_n 0, 1) := by decide +kernel
theorem dX11_takeCase_67 : decode cX11_takeCase 67 = .ok (.aload_n 0, 1) := by decide +kernel
theorem dX11_takeCase_68 : decode cX11_takeCase 68 = .ok (.getfield 39, 3) := by decide +kernel
theorem dX11_takeCase_71 : decode cX11_takeCase 71 = .ok (.iconst 0, 1) := by decide +kernel
theorem dX11_takeCase_72 : decode cX11_takeCase 72 = .ok (.iaload, 1) := by decide +kernel
theorem dX11_takeCase_73 : decode cX11_takeCase 73 = .ok (.invokevirtual 103, 3) := by decide +kernel
theorem dX11_takeCase_76 : decode cX11_takeCase 76 = .ok (.ifCond .ge 15, 3) := by decide +kernel
theorem dX11_takeCase_79 : decode cX11_takeCase 79 = .ok (.aload_n 0, 1) := by decide +kernel
theorem dX11_takeCase_80 : decode cX11_takeCase 80 = .ok (.getfield 7, 3) := by decide +kernel
theorem dX11_takeCase_83 : decode cX11_takeCase 83 = .ok (.sipush 184, 3) := by decide +kernel
theorem dX11_takeCase_86 : decode cX11_takeCase 86 = .ok (.iconst 4, 1) := by decide +kernel
theorem dX11_takeCase_87 : decode cX11_takeCase 87 = .ok (.iastore, 1) := by decide +kernel
theorem dX11_takeCase_88 : decode cX11_takeCase 88 = .ok (.goto 49, 3) := by decide +kernel
theorem dX11_takeCase_91 : decode cX11_takeCase 91 = .ok (.aload_n 0, 1) := by decide +kernel
theorem dX11_takeCase_92 : decode cX11_takeCase 92 = .ok (.getfield 7, 3) := by decide +kernel
theorem dX11_takeCase_95 : decode cX11_takeCase 95 = .ok (.sipush 186, 3) := by decide +kernel
theorem dX11_takeCase_98 : decode cX11_takeCase 98 = .ok (.iaload, 1) := by decide +kernel
theorem dX11_takeCase_99 : decode cX11_takeCase 99 = .ok (.ifCond .ne 10, 3) := by decide +kernel
theorem dX11_takeCase_102 : decode cX11_takeCase 102 = .ok (.aload_n 0, 1) := by decide +kernel
theorem dX11_takeCase_103 : decode cX11_takeCase 103 = .ok (.invokevirtual 154, 3) := by decide +kernel
theorem dX11_takeCase_106 : decode cX11_takeCase 106 = .ok (.goto 31, 3) := by decide +kernel
theorem dX11_takeCase_109 : decode cX11_takeCase 109 = .ok (.aload_n 0, 1) := by decide +kernel
theorem dX11_takeCase_110 : decode cX11_takeCase 110 = .ok (.getfield 7, 3) := by decide +kernel
theorem dX11_takeCase_113 : decode cX11_takeCase 113 = .ok (.sipush 184, 3) := by decide +kernel
theorem dX11_takeCase_116 : decode cX11_takeCase 116 = .ok (.aload_n 0, 1) := by decide +kernel
theorem dX11_takeCase_117 : decode cX11_takeCase 117 = .ok (.getfield 7, 3) := by decide +kernel
theorem dX11_takeCase_120 : decode cX11_takeCase 120 = .ok (.sipush 192, 3) := by decide +kernel
theorem dX11_takeCase_123 : decode cX11_takeCase 123 = .ok (.iaload, 1) := by decide +kernel
theorem dX11_takeCase_124 : decode cX11_takeCase 124 = .ok (.aload_n 0, 1) := by decide +kernel
theorem dX11_takeCase_125 : decode cX11_takeCase 125 = .ok (.getfield 111, 3) := by decide +kernel
theorem dX11_takeCase_128 : decode cX11_takeCase 128 = .ok (.if_icmp .ge 7, 3) := by decide +kernel
theorem dX11_takeCase_131 : decode cX11_takeCase 131 = .ok (.iconst 1, 1) := by decide +kernel
theorem dX11_takeCase_132 : decode cX11_takeCase 132 = .ok (.goto 4, 3) := by decide +kernel
theorem dX11_takeCase_135 : decode cX11_takeCase 135 = .ok (.iconst 2, 1) := by decide +kernel
theorem dX11_takeCase_136 : decode cX11_takeCase 136 = .ok (.iastore, 1) := by decide +kernel
theorem dX11_takeCase_137 : decode cX11_takeCase 137 = .ok (.return_, 1) := by decide +kernel
set_option maxRecDepth 20000 in
theorem ggX11_act_X11_beginAct : GoodIn wsX11_act wsX11_beginAct := goodIn_r _ [6, 1, 7, 8, 9, 10, 5, 11, 12, 13, 14, 15, 16, 17, 18, 19, 20, 21, 22, 23, 24, 25, 26, 27, 28, 29, 30, 31, 32, 33, 34, 35, 36, 37, 38, 39, 40, 41, 42, 43, 44, 45] (by decide +kernel) (by decide +kernel)
set_option maxRecDepth 20000 in
theorem gX11_act_X11_beginAct : GoodIn wsX11_act (wsV RX11 160 RX11 yX11_beginAct wsX11_beginAct) := goodIn_app (goodIn_of _ (by decide +kernel)) ggX11_act_X11_beginAct
theorem dX11_act_0 : decode cX11_act 0 = .ok (.aload_n 0, 1) := by decide +kernel
theorem dX11_act_1 : decode cX11_act 1 = .ok (.getfield 7, 3) := by decide +kernel
theorem dX11_act_4 : decode cX11_act 4 = .ok (.sipush 201, 3) := by decide +kernel
theorem dX11_act_7 : decode cX11_act 7 = .ok (.iaload, 1) := by decide +kernel
theorem dX11_act_8 : decode cX11_act 8 = .ok (.ifCond .eq 4, 3) := by decide +kernel
theorem dX11_act_11 : decode cX11_act 11 = .ok (.return_, 1) := by decide +kernel
theorem dX11_act_12 : decode cX11_act 12 = .ok (.aload_n 0, 1) := by decide +kernel
theorem dX11_act_13 : decode cX11_act 13 = .ok (.getfield 7, 3) := by decide +kernel
theorem dX11_act_16 : decode cX11_act 16 = .ok (.sipush 192, 3) := by decide +kernel
theorem dX11_act_19 : decode cX11_act 19 = .ok (.iaload, 1) := by decide +kernel
theorem dX11_act_20 : decode cX11_act 20 = .ok (.ifCond .le 108, 3) := by decide +kernel
theorem dX11_act_23 : decode cX11_act 23 = .ok (.aload_n 0, 1) := by decide +kernel
theorem dX11_act_24 : decode cX11_act 24 = .ok (.getfield 7, 3) := by decide +kernel
theorem dX11_act_27 : decode cX11_act 27 = .ok (.sipush 193, 3) := by decide +kernel
theorem dX11_act_30 : decode cX11_act 30 = .ok (.iaload, 1) := by decide +kernel
theorem dX11_act_31 : decode cX11_act 31 = .ok (.istore_n 1, 1) := by decide +kernel
theorem dX11_act_32 : decode cX11_act 32 = .ok (.aload_n 0, 1) := by decide +kernel
theorem dX11_act_33 : decode cX11_act 33 = .ok (.getfield 7, 3) := by decide +kernel
theorem dX11_act_36 : decode cX11_act 36 = .ok (.sipush 197, 3) := by decide +kernel
theorem dX11_act_39 : decode cX11_act 39 = .ok (.iaload, 1) := by decide +kernel
theorem dX11_act_40 : decode cX11_act 40 = .ok (.istore_n 2, 1) := by decide +kernel
theorem dX11_act_41 : decode cX11_act 41 = .ok (.aload_n 0, 1) := by decide +kernel
theorem dX11_act_42 : decode cX11_act 42 = .ok (.getfield 7, 3) := by decide +kernel
theorem dX11_act_45 : decode cX11_act 45 = .ok (.sipush 192, 3) := by decide +kernel
theorem dX11_act_48 : decode cX11_act 48 = .ok (.dup2, 1) := by decide +kernel
theorem dX11_act_49 : decode cX11_act 49 = .ok (.iaload, 1) := by decide +kernel
theorem dX11_act_50 : decode cX11_act 50 = .ok (.iconst 1, 1) := by decide +kernel
theorem dX11_act_51 : decode cX11_act 51 = .ok (.isub, 1) := by decide +kernel
theorem dX11_act_52 : decode cX11_act 52 = .ok (.iastore, 1) := by decide +kernel
theorem dX11_act_53 : decode cX11_act 53 = .ok (.iconst 0, 1) := by decide +kernel
theorem dX11_act_54 : decode cX11_act 54 = .ok (.istore_n 3, 1) := by decide +kernel
theorem dX11_act_55 : decode cX11_act 55 = .ok (.iload_n 3, 1) := by decide +kernel
theorem dX11_act_56 : decode cX11_act 56 = .ok (.aload_n 0, 1) := by decide +kernel
theorem dX11_act_57 : decode cX11_act 57 = .ok (.getfield 7, 3) := by decide +kernel
theorem dX11_act_60 : decode cX11_act 60 = .ok (.sipush 192, 3) := by decide +kernel
theorem dX11_act_63 : decode cX11_act 63 = .ok (.iaload, 1) := by decide +kernel
theorem dX11_act_64 : decode cX11_act 64 = .ok (.if_icmp .ge 53, 3) := by decide +kernel
theorem dX11_act_67 : decode cX11_act 67 = .ok (.aload_n 0, 1) := by decide +kernel
theorem dX11_act_68 : decode cX11_act 68 = .ok (.getfield 7, 3) := by decide +kernel
theorem dX11_act_71 : decode cX11_act 71 = .ok (.sipush 193, 3) := by decide +kernel
theorem dX11_act_74 : decode cX11_act 74 = .ok (.iload_n 3, 1) := by decide +kernel
theorem dX11_act_75 : decode cX11_act 75 = .ok (.iadd, 1) := by decide +kernel
theorem dX11_act_76 : decode cX11_act 76 = .ok (.aload_n 0, 1) := by decide +kernel
theorem dX11_act_77 : decode cX11_act 77 = .ok (.getfield 7, 3) := by decide +kernel
theorem dX11_act_80 : decode cX11_act 80 = .ok (.sipush 193, 3) := by decide +kernel
theorem dX11_act_83 : decode cX11_act 83 = .ok (.iload_n 3, 1) := by decide +kernel
theorem dX11_act_84 : decode cX11_act 84 = .ok (.iadd, 1) := by decide +kernel
theorem dX11_act_85 : decode cX11_act 85 = .ok (.iconst 1, 1) := by decide +kernel
theorem dX11_act_86 : decode cX11_act 86 = .ok (.iadd, 1) := by decide +kernel
theorem dX11_act_87 : decode cX11_act 87 = .ok (.iaload, 1) := by decide +kernel
theorem dX11_act_88 : decode cX11_act 88 = .ok (.iastore, 1) := by decide +kernel
theorem dX11_act_89 : decode cX11_act 89 = .ok (.aload_n 0, 1) := by decide +kernel
theorem dX11_act_90 : decode cX11_act 90 = .ok (.getfield 7, 3) := by decide +kernel
theorem dX11_act_93 : decode cX11_act 93 = .ok (.sipush 197, 3) := by decide +kernel
theorem dX11_act_96 : decode cX11_act 96 = .ok (.iload_n 3, 1) := by decide +kernel
theorem dX11_act_97 : decode cX11_act 97 = .ok (.iadd, 1) := by decide +kernel
theorem dX11_act_98 : decode cX11_act 98 = .ok (.aload_n 0, 1) := by decide +kernel
theorem dX11_act_99 : decode cX11_act 99 = .ok (.getfield 7, 3) := by decide +kernel
theorem dX11_act_102 : decode cX11_act 102 = .ok (.sipush 197, 3) := by decide +kernel
theorem dX11_act_105 : decode cX11_act 105 = .ok (.iload_n 3, 1) := by decide +kernel
theorem dX11_act_106 : decode cX11_act 106 = .ok (.iadd, 1) := by decide +kernel
theorem dX11_act_107 : decode cX11_act 107 = .ok (.iconst 1, 1) := by decide +kernel
theorem dX11_act_108 : decode cX11_act 108 = .ok (.iadd, 1) := by decide +kernel
theorem dX11_act_109 : decode cX11_act 109 = .ok (.iaload, 1) := by decide +kernel
theorem dX11_act_110 : decode cX11_act 110 = .ok (.iastore, 1) := by decide +kernel
theorem dX11_act_111 : decode cX11_act 111 = .ok (.iinc 3 1, 3) := by decide +kernel
theorem dX11_act_114 : decode cX11_act 114 = .ok (.goto (-59), 3) := by decide +kernel
theorem dX11_act_117 : decode cX11_act 117 = .ok (.aload_n 0, 1) := by decide +kernel
theorem dX11_act_118 : decode cX11_act 118 = .ok (.iload_n 1, 1) := by decide +kernel
theorem dX11_act_119 : decode cX11_act 119 = .ok (.iconst 1, 1) := by decide +kernel
theorem dX11_act_120 : decode cX11_act 120 = .ok (.iload_n 2, 1) := by decide +kernel
theorem dX11_act_121 : decode cX11_act 121 = .ok (.iconst 1, 1) := by decide +kernel
theorem dX11_act_122 : decode cX11_act 122 = .ok (.invokevirtual 160, 3) := by decide +kernel
theorem dX11_act_125 : decode cX11_act 125 = .ok (.goto 64, 3) := by decide +kernel
theorem dX11_act_128 : decode cX11_act 128 = .ok (.aload_n 0, 1) := by decide +kernel
theorem dX11_act_129 : decode cX11_act 129 = .ok (.getfield 7, 3) := by decide +kernel
theorem dX11_act_132 : decode cX11_act 132 = .ok (.sipush 184, 3) := by decide +kernel
theorem dX11_act_135 : decode cX11_act 135 = .ok (.iaload, 1) := by decide +kernel
theorem dX11_act_136 : decode cX11_act 136 = .ok (.iconst 3, 1) := by decide +kernel
theorem dX11_act_137 : decode cX11_act 137 = .ok (.if_icmp .ne 52, 3) := by decide +kernel
theorem dX11_act_140 : decode cX11_act 140 = .ok (.aload_n 0, 1) := by decide +kernel
theorem dX11_act_141 : decode cX11_act 141 = .ok (.getfield 7, 3) := by decide +kernel
theorem dX11_act_144 : decode cX11_act 144 = .ok (.sipush 188, 3) := by decide +kernel
theorem dX11_act_147 : decode cX11_act 147 = .ok (.iaload, 1) := by decide +kernel
theorem dX11_act_148 : decode cX11_act 148 = .ok (.ifCond .ne 41, 3) := by decide +kernel
theorem dX11_act_151 : decode cX11_act 151 = .ok (.aload_n 0, 1) := by decide +kernel
theorem dX11_act_152 : decode cX11_act 152 = .ok (.getfield 7, 3) := by decide +kernel
theorem dX11_act_155 : decode cX11_act 155 = .ok (.sipush 188, 3) := by decide +kernel
theorem dX11_act_158 : decode cX11_act 158 = .ok (.iconst 1, 1) := by decide +kernel
theorem dX11_act_159 : decode cX11_act 159 = .ok (.iastore, 1) := by decide +kernel
theorem dX11_act_160 : decode cX11_act 160 = .ok (.aload_n 0, 1) := by decide +kernel
theorem dX11_act_161 : decode cX11_act 161 = .ok (.aload_n 0, 1) := by decide +kernel
theorem dX11_act_162 : decode cX11_act 162 = .ok (.getfield 7, 3) := by decide +kernel
theorem dX11_act_165 : decode cX11_act 165 = .ok (.sipush 185, 3) := by decide +kernel
theorem dX11_act_168 : decode cX11_act 168 = .ok (.iaload, 1) := by decide +kernel
theorem dX11_act_169 : decode cX11_act 169 = .ok (.aload_n 0, 1) := by decide +kernel
theorem dX11_act_170 : decode cX11_act 170 = .ok (.getfield 7, 3) := by decide +kernel
theorem dX11_act_173 : decode cX11_act 173 = .ok (.sipush 186, 3) := by decide +kernel
theorem dX11_act_176 : decode cX11_act 176 = .ok (.iaload, 1) := by decide +kernel
theorem dX11_act_177 : decode cX11_act 177 = .ok (.aload_n 0, 1) := by decide +kernel
theorem dX11_act_178 : decode cX11_act 178 = .ok (.getfield 7, 3) := by decide +kernel
theorem dX11_act_181 : decode cX11_act 181 = .ok (.sipush 187, 3) := by decide +kernel
theorem dX11_act_184 : decode cX11_act 184 = .ok (.iaload, 1) := by decide +kernel
theorem dX11_act_185 : decode cX11_act 185 = .ok (.iconst 0, 1) := by decide +kernel
theorem dX11_act_186 : decode cX11_act 186 = .ok (.invokevirtual 160, 3) := by decide +kernel
theorem dX11_act_189 : decode cX11_act 189 = .ok (.return_, 1) := by decide +kernel
set_option maxRecDepth 20000 in
theorem ggX11_beginAct_X11_slaveOf : GoodIn wsX11_beginAct wsX11_slaveOf := goodIn_r _ [7, 8, 9, 10, 11, 6, 12, 13, 14, 15, 16, 17, 18, 19, 20, 21, 22, 23, 24, 25, 26, 27, 28, 29, 30, 31, 32, 33, 34, 35, 36, 37, 38, 39, 40, 41] (by decide +kernel) (by decide +kernel)
set_option maxRecDepth 20000 in
theorem gX11_beginAct_X11_slaveOf : GoodIn wsX11_beginAct (wsV RX11 103 RX11 yX11_slaveOf wsX11_slaveOf) := goodIn_app (goodIn_of _ (by decide +kernel)) ggX11_beginAct_X11_slaveOf
theorem dX11_beginAct_0 : decode cX11_beginAct 0 = .ok (.aload_n 0, 1) := by decide +kernel
theorem dX11_beginAct_1 : decode cX11_beginAct 1 = .ok (.iload_n 1, 1) := by decide +kernel
theorem dX11_beginAct_2 : decode cX11_beginAct 2 = .ok (.invokevirtual 103, 3) := by decide +kernel
theorem dX11_beginAct_5 : decode cX11_beginAct 5 = .ok (.istore 5, 2) := by decide +kernel
theorem dX11_beginAct_7 : decode cX11_beginAct 7 = .ok (.aload_n 0, 1) := by decide +kernel
theorem dX11_beginAct_8 : decode cX11_beginAct 8 = .ok (.getfield 7, 3) := by decide +kernel
theorem dX11_beginAct_11 : decode cX11_beginAct 11 = .ok (.sipush 201, 3) := by decide +kernel
theorem dX11_beginAct_14 : decode cX11_beginAct 14 = .ok (.iconst 1, 1) := by decide +kernel
theorem dX11_beginAct_15 : decode cX11_beginAct 15 = .ok (.iastore, 1) := by decide +kernel
theorem dX11_beginAct_16 : decode cX11_beginAct 16 = .ok (.aload_n 0, 1) := by decide +kernel
theorem dX11_beginAct_17 : decode cX11_beginAct 17 = .ok (.getfield 7, 3) := by decide +kernel
theorem dX11_beginAct_20 : decode cX11_beginAct 20 = .ok (.sipush 202, 3) := by decide +kernel
theorem dX11_beginAct_23 : decode cX11_beginAct 23 = .ok (.iload 4, 2) := by decide +kernel
theorem dX11_beginAct_25 : decode cX11_beginAct 25 = .ok (.iastore, 1) := by decide +kernel
theorem dX11_beginAct_26 : decode cX11_beginAct 26 = .ok (.aload_n 0, 1) := by decide +kernel
theorem dX11_beginAct_27 : decode cX11_beginAct 27 = .ok (.getfield 7, 3) := by decide +kernel
theorem dX11_beginAct_30 : decode cX11_beginAct 30 = .ok (.sipush 203, 3) := by decide +kernel
theorem dX11_beginAct_33 : decode cX11_beginAct 33 = .ok (.iload_n 2, 1) := by decide +kernel
theorem dX11_beginAct_34 : decode cX11_beginAct 34 = .ok (.iastore, 1) := by decide +kernel
theorem dX11_beginAct_35 : decode cX11_beginAct 35 = .ok (.aload_n 0, 1) := by decide +kernel
theorem dX11_beginAct_36 : decode cX11_beginAct 36 = .ok (.getfield 7, 3) := by decide +kernel
theorem dX11_beginAct_39 : decode cX11_beginAct 39 = .ok (.sipush 204, 3) := by decide +kernel
theorem dX11_beginAct_42 : decode cX11_beginAct 42 = .ok (.aload_n 0, 1) := by decide +kernel
theorem dX11_beginAct_43 : decode cX11_beginAct 43 = .ok (.getfield 7, 3) := by decide +kernel
theorem dX11_beginAct_46 : decode cX11_beginAct 46 = .ok (.sipush 208, 3) := by decide +kernel
theorem dX11_beginAct_49 : decode cX11_beginAct 49 = .ok (.iaload, 1) := by decide +kernel
theorem dX11_beginAct_50 : decode cX11_beginAct 50 = .ok (.iastore, 1) := by decide +kernel
theorem dX11_beginAct_51 : decode cX11_beginAct 51 = .ok (.aload_n 0, 1) := by decide +kernel
theorem dX11_beginAct_52 : decode cX11_beginAct 52 = .ok (.getfield 42, 3) := by decide +kernel
theorem dX11_beginAct_55 : decode cX11_beginAct 55 = .ok (.bipush 7, 2) := by decide +kernel
theorem dX11_beginAct_57 : decode cX11_beginAct 57 = .ok (.iconst 1, 1) := by decide +kernel
theorem dX11_beginAct_58 : decode cX11_beginAct 58 = .ok (.iload 5, 2) := by decide +kernel
theorem dX11_beginAct_60 : decode cX11_beginAct 60 = .ok (.ishl, 1) := by decide +kernel
theorem dX11_beginAct_61 : decode cX11_beginAct 61 = .ok (.iastore, 1) := by decide +kernel
theorem dX11_beginAct_62 : decode cX11_beginAct 62 = .ok (.aload_n 0, 1) := by decide +kernel
theorem dX11_beginAct_63 : decode cX11_beginAct 63 = .ok (.getfield 42, 3) := by decide +kernel
theorem dX11_beginAct_66 : decode cX11_beginAct 66 = .ok (.bipush 8, 2) := by decide +kernel
theorem dX11_beginAct_68 : decode cX11_beginAct 68 = .ok (.iconst 0, 1) := by decide +kernel
theorem dX11_beginAct_69 : decode cX11_beginAct 69 = .ok (.iastore, 1) := by decide +kernel
theorem dX11_beginAct_70 : decode cX11_beginAct 70 = .ok (.aload_n 0, 1) := by decide +kernel
theorem dX11_beginAct_71 : decode cX11_beginAct 71 = .ok (.getfield 42, 3) := by decide +kernel
theorem dX11_beginAct_74 : decode cX11_beginAct 74 = .ok (.bipush 9, 2) := by decide +kernel
theorem dX11_beginAct_76 : decode cX11_beginAct 76 = .ok (.iload_n 1, 1) := by decide +kernel
theorem dX11_beginAct_77 : decode cX11_beginAct 77 = .ok (.iastore, 1) := by decide +kernel
theorem dX11_beginAct_78 : decode cX11_beginAct 78 = .ok (.aload_n 0, 1) := by decide +kernel
theorem dX11_beginAct_79 : decode cX11_beginAct 79 = .ok (.getfield 42, 3) := by decide +kernel
theorem dX11_beginAct_82 : decode cX11_beginAct 82 = .ok (.bipush 10, 2) := by decide +kernel
theorem dX11_beginAct_84 : decode cX11_beginAct 84 = .ok (.iload_n 2, 1) := by decide +kernel
theorem dX11_beginAct_85 : decode cX11_beginAct 85 = .ok (.iastore, 1) := by decide +kernel
theorem dX11_beginAct_86 : decode cX11_beginAct 86 = .ok (.aload_n 0, 1) := by decide +kernel
theorem dX11_beginAct_87 : decode cX11_beginAct 87 = .ok (.getfield 42, 3) := by decide +kernel
theorem dX11_beginAct_90 : decode cX11_beginAct 90 = .ok (.bipush 11, 2) := by decide +kernel
theorem dX11_beginAct_92 : decode cX11_beginAct 92 = .ok (.iload_n 2, 1) := by decide +kernel
theorem dX11_beginAct_93 : decode cX11_beginAct 93 = .ok (.iconst 1, 1) := by decide +kernel
theorem dX11_beginAct_94 : decode cX11_beginAct 94 = .ok (.if_icmp .ne 7, 3) := by decide +kernel
theorem dX11_beginAct_97 : decode cX11_beginAct 97 = .ok (.iload_n 3, 1) := by decide +kernel
theorem dX11_beginAct_98 : decode cX11_beginAct 98 = .ok (.goto 10, 3) := by decide +kernel
theorem dX11_beginAct_101 : decode cX11_beginAct 101 = .ok (.aload_n 0, 1) := by decide +kernel
theorem dX11_beginAct_102 : decode cX11_beginAct 102 = .ok (.getfield 42, 3) := by decide +kernel
theorem dX11_beginAct_105 : decode cX11_beginAct 105 = .ok (.bipush 11, 2) := by decide +kernel
theorem dX11_beginAct_107 : decode cX11_beginAct 107 = .ok (.iaload, 1) := by decide +kernel
theorem dX11_beginAct_108 : decode cX11_beginAct 108 = .ok (.iastore, 1) := by decide +kernel
theorem dX11_beginAct_109 : decode cX11_beginAct 109 = .ok (.sipush 890, 3) := by decide +kernel
theorem dX11_beginAct_112 : decode cX11_beginAct 112 = .ok (.bipush 8, 2) := by decide +kernel
theorem dX11_beginAct_114 : decode cX11_beginAct 114 = .ok (.aload_n 0, 1) := by decide +kernel
theorem dX11_beginAct_115 : decode cX11_beginAct 115 = .ok (.getfield 7, 3) := by decide +kernel
theorem dX11_beginAct_118 : decode cX11_beginAct 118 = .ok (.sipush 208, 3) := by decide +kernel
theorem dX11_beginAct_121 : decode cX11_beginAct 121 = .ok (.iaload, 1) := by decide +kernel
theorem dX11_beginAct_122 : decode cX11_beginAct 122 = .ok (.imul, 1) := by decide +kernel
theorem dX11_beginAct_123 : decode cX11_beginAct 123 = .ok (.iadd, 1) := by decide +kernel
theorem dX11_beginAct_124 : decode cX11_beginAct 124 = .ok (.istore 6, 2) := by decide +kernel
theorem dX11_beginAct_126 : decode cX11_beginAct 126 = .ok (.aload_n 0, 1) := by decide +kernel
theorem dX11_beginAct_127 : decode cX11_beginAct 127 = .ok (.getfield 7, 3) := by decide +kernel
theorem dX11_beginAct_130 : decode cX11_beginAct 130 = .ok (.sipush 208, 3) := by decide +kernel
theorem dX11_beginAct_133 : decode cX11_beginAct 133 = .ok (.iaload, 1) := by decide +kernel
theorem dX11_beginAct_134 : decode cX11_beginAct 134 = .ok (.sipush 200, 3) := by decide +kernel
theorem dX11_beginAct_137 : decode cX11_beginAct 137 = .ok (.if_icmp .ge 104, 3) := by decide +kernel
theorem dX11_beginAct_140 : decode cX11_beginAct 140 = .ok (.aload_n 0, 1) := by decide +kernel
theorem dX11_beginAct_141 : decode cX11_beginAct 141 = .ok (.getfield 7, 3) := by decide +kernel
theorem dX11_beginAct_144 : decode cX11_beginAct 144 = .ok (.iload 6, 2) := by decide +kernel
theorem dX11_beginAct_146 : decode cX11_beginAct 146 = .ok (.iload 5, 2) := by decide +kernel
theorem dX11_beginAct_148 : decode cX11_beginAct 148 = .ok (.iastore, 1) := by decide +kernel
theorem dX11_beginAct_149 : decode cX11_beginAct 149 = .ok (.aload_n 0, 1) := by decide +kernel
theorem dX11_beginAct_150 : decode cX11_beginAct 150 = .ok (.getfield 7, 3) := by decide +kernel
theorem dX11_beginAct_153 : decode cX11_beginAct 153 = .ok (.iload 6, 2) := by decide +kernel
theorem dX11_beginAct_155 : decode cX11_beginAct 155 = .ok (.iconst 1, 1) := by decide +kernel
theorem dX11_beginAct_156 : decode cX11_beginAct 156 = .ok (.iadd, 1) := by decide +kernel
theorem dX11_beginAct_157 : decode cX11_beginAct 157 = .ok (.iload_n 1, 1) := by decide +kernel
theorem dX11_beginAct_158 : decode cX11_beginAct 158 = .ok (.iastore, 1) := by decide +kernel
theorem dX11_beginAct_159 : decode cX11_beginAct 159 = .ok (.aload_n 0, 1) := by decide +kernel
theorem dX11_beginAct_160 : decode cX11_beginAct 160 = .ok (.getfield 7, 3) := by decide +kernel
theorem dX11_beginAct_163 : decode cX11_beginAct 163 = .ok (.iload 6, 2) := by decide +kernel
theorem dX11_beginAct_165 : decode cX11_beginAct 165 = .ok (.iconst 2, 1) := by decide +kernel
theorem dX11_beginAct_166 : decode cX11_beginAct 166 = .ok (.iadd, 1) := by decide +kernel
theorem dX11_beginAct_167 : decode cX11_beginAct 167 = .ok (.iload_n 2, 1) := by decide +kernel
theorem dX11_beginAct_168 : decode cX11_beginAct 168 = .ok (.iastore, 1) := by decide +kernel
theorem dX11_beginAct_169 : decode cX11_beginAct 169 = .ok (.aload_n 0, 1) := by decide +kernel
theorem dX11_beginAct_170 : decode cX11_beginAct 170 = .ok (.getfield 7, 3) := by decide +kernel
theorem dX11_beginAct_173 : decode cX11_beginAct 173 = .ok (.iload 6, 2) := by decide +kernel
theorem dX11_beginAct_175 : decode cX11_beginAct 175 = .ok (.iconst 3, 1) := by decide +kernel
theorem dX11_beginAct_176 : decode cX11_beginAct 176 = .ok (.iadd, 1) := by decide +kernel
theorem dX11_beginAct_177 : decode cX11_beginAct 177 = .ok (.iload_n 2, 1) := by decide +kernel
theorem dX11_beginAct_178 : decode cX11_beginAct 178 = .ok (.iconst 1, 1) := by decide +kernel
theorem dX11_beginAct_179 : decode cX11_beginAct 179 = .ok (.if_icmp .ne 7, 3) := by decide +kernel
theorem dX11_beginAct_182 : decode cX11_beginAct 182 = .ok (.iload_n 3, 1) := by decide +kernel
theorem dX11_beginAct_183 : decode cX11_beginAct 183 = .ok (.goto 4, 3) := by decide +kernel
theorem dX11_beginAct_186 : decode cX11_beginAct 186 = .ok (.iconst 0, 1) := by decide +kernel
theorem dX11_beginAct_187 : decode cX11_beginAct 187 = .ok (.iastore, 1) := by decide +kernel
theorem dX11_beginAct_188 : decode cX11_beginAct 188 = .ok (.aload_n 0, 1) := by decide +kernel
theorem dX11_beginAct_189 : decode cX11_beginAct 189 = .ok (.getfield 7, 3) := by decide +kernel
theorem dX11_beginAct_192 : decode cX11_beginAct 192 = .ok (.iload 6, 2) := by decide +kernel
theorem dX11_beginAct_194 : decode cX11_beginAct 194 = .ok (.iconst 4, 1) := by decide +kernel
theorem dX11_beginAct_195 : decode cX11_beginAct 195 = .ok (.iadd, 1) := by decide +kernel
theorem dX11_beginAct_196 : decode cX11_beginAct 196 = .ok (.aload_n 0, 1) := by decide +kernel
theorem dX11_beginAct_197 : decode cX11_beginAct 197 = .ok (.getfield 7, 3) := by decide +kernel
theorem dX11_beginAct_200 : decode cX11_beginAct 200 = .ok (.sipush 179, 3) := by decide +kernel
theorem dX11_beginAct_203 : decode cX11_beginAct 203 = .ok (.iaload, 1) := by decide +kernel
theorem dX11_beginAct_204 : decode cX11_beginAct 204 = .ok (.iconst 1, 1) := by decide +kernel
theorem dX11_beginAct_205 : decode cX11_beginAct 205 = .ok (.iadd, 1) := by decide +kernel
theorem dX11_beginAct_206 : decode cX11_beginAct 206 = .ok (.iastore, 1) := by decide +kernel
theorem dX11_beginAct_207 : decode cX11_beginAct 207 = .ok (.aload_n 0, 1) := by decide +kernel
theorem dX11_beginAct_208 : decode cX11_beginAct 208 = .ok (.getfield 7, 3) := by decide +kernel
theorem dX11_beginAct_211 : decode cX11_beginAct 211 = .ok (.iload 6, 2) := by decide +kernel
theorem dX11_beginAct_213 : decode cX11_beginAct 213 = .ok (.iconst 5, 1) := by decide +kernel
theorem dX11_beginAct_214 : decode cX11_beginAct 214 = .ok (.iadd, 1) := by decide +kernel
theorem dX11_beginAct_215 : decode cX11_beginAct 215 = .ok (.bipush (-6), 2) := by decide +kernel
theorem dX11_beginAct_217 : decode cX11_beginAct 217 = .ok (.iastore, 1) := by decide +kernel
theorem dX11_beginAct_218 : decode cX11_beginAct 218 = .ok (.aload_n 0, 1) := by decide +kernel
theorem dX11_beginAct_219 : decode cX11_beginAct 219 = .ok (.getfield 7, 3) := by decide +kernel
theorem dX11_beginAct_222 : decode cX11_beginAct 222 = .ok (.iload 6, 2) := by decide +kernel
theorem dX11_beginAct_224 : decode cX11_beginAct 224 = .ok (.bipush 6, 2) := by decide +kernel
theorem dX11_beginAct_226 : decode cX11_beginAct 226 = .ok (.iadd, 1) := by decide +kernel
theorem dX11_beginAct_227 : decode cX11_beginAct 227 = .ok (.iconst 0, 1) := by decide +kernel
theorem dX11_beginAct_228 : decode cX11_beginAct 228 = .ok (.iastore, 1) := by decide +kernel
theorem dX11_beginAct_229 : decode cX11_beginAct 229 = .ok (.aload_n 0, 1) := by decide +kernel
theorem dX11_beginAct_230 : decode cX11_beginAct 230 = .ok (.getfield 7, 3) := by decide +kernel
theorem dX11_beginAct_233 : decode cX11_beginAct 233 = .ok (.iload 6, 2) := by decide +kernel
theorem dX11_beginAct_235 : decode cX11_beginAct 235 = .ok (.bipush 7, 2) := by decide +kernel
theorem dX11_beginAct_237 : decode cX11_beginAct 237 = .ok (.iadd, 1) := by decide +kernel
theorem dX11_beginAct_238 : decode cX11_beginAct 238 = .ok (.iload 4, 2) := by decide +kernel
theorem dX11_beginAct_240 : decode cX11_beginAct 240 = .ok (.iastore, 1) := by decide +kernel
theorem dX11_beginAct_241 : decode cX11_beginAct 241 = .ok (.aload_n 0, 1) := by decide +kernel
theorem dX11_beginAct_242 : decode cX11_beginAct 242 = .ok (.getfield 7, 3) := by decide +kernel
theorem dX11_beginAct_245 : decode cX11_beginAct 245 = .ok (.sipush 208, 3) := by decide +kernel
theorem dX11_beginAct_248 : decode cX11_beginAct 248 = .ok (.dup2, 1) := by decide +kernel
theorem dX11_beginAct_249 : decode cX11_beginAct 249 = .ok (.iaload, 1) := by decide +kernel
theorem dX11_beginAct_250 : decode cX11_beginAct 250 = .ok (.iconst 1, 1) := by decide +kernel
theorem dX11_beginAct_251 : decode cX11_beginAct 251 = .ok (.iadd, 1) := by decide +kernel
theorem dX11_beginAct_252 : decode cX11_beginAct 252 = .ok (.iastore, 1) := by decide +kernel
theorem dX11_beginAct_253 : decode cX11_beginAct 253 = .ok (.return_, 1) := by decide +kernel
set_option maxRecDepth 20000 in
theorem ggX11_does_X11_has : GoodIn wsX11_does wsX11_has := goodIn_r _ [10, 11, 12, 13, 14, 9, 15, 20, 21, 22, 23, 24, 25, 26, 27, 28, 29, 30, 31, 32, 33, 34, 35, 36, 37, 38, 39, 40, 41, 42, 43] (by decide +kernel) (by decide +kernel)
set_option maxRecDepth 20000 in
theorem gX11_does_X11_has : GoodIn wsX11_does (wsV RX11 97 RX11 yX11_has wsX11_has) := goodIn_app (goodIn_of _ (by decide +kernel)) ggX11_does_X11_has
set_option maxRecDepth 20000 in
theorem ggX11_does_X11_registerAt : GoodIn wsX11_does wsX11_registerAt := goodIn_r _ [19, 4, 5, 20, 21, 22, 23, 24, 25, 26, 27, 28, 29, 30, 31, 32, 33, 34, 35, 36, 37, 38, 39, 40, 41, 42, 43] (by decide +kernel) (by decide +kernel)
set_option maxRecDepth 20000 in
theorem gX11_does_X11_registerAt : GoodIn wsX11_does (wsV RX11 106 RX11 yX11_registerAt wsX11_registerAt) := goodIn_app (goodIn_of _ (by decide +kernel)) ggX11_does_X11_registerAt
set_option maxRecDepth 20000 in
theorem ggX11_does_X11_in : GoodIn wsX11_does wsX11_in := goodIn_r _ [15] (by decide +kernel) (by decide +kernel)
set_option maxRecDepth 20000 in
theorem gX11_does_X11_in : GoodIn wsX11_does (va_wsS RX11 74 yX11_in wsX11_in) := goodIn_app (goodIn_of _ (by decide +kernel)) ggX11_does_X11_in
theorem dX11_does_0 : decode cX11_does 0 = .ok (.aload_n 0, 1) := by decide +kernel
theorem dX11_does_1 : decode cX11_does 1 = .ok (.iconst 0, 1) := by decide +kernel
theorem dX11_does_2 : decode cX11_does 2 = .ok (.putfield 164, 3) := by decide +kernel
theorem dX11_does_5 : decode cX11_does 5 = .ok (.aload_n 0, 1) := by decide +kernel
theorem dX11_does_6 : decode cX11_does 6 = .ok (.iconst (-1), 1) := by decide +kernel
theorem dX11_does_7 : decode cX11_does 7 = .ok (.putfield 167, 3) := by decide +kernel
theorem dX11_does_10 : decode cX11_does 10 = .ok (.aload_n 0, 1) := by decide +kernel
theorem dX11_does_11 : decode cX11_does 11 = .ok (.iload 4, 2) := by decide +kernel
theorem dX11_does_13 : decode cX11_does 13 = .ok (.iload 5, 2) := by decide +kernel
theorem dX11_does_15 : decode cX11_does 15 = .ok (.invokevirtual 97, 3) := by decide +kernel
theorem dX11_does_18 : decode cX11_does 18 = .ok (.ifCond .eq 12, 3) := by decide +kernel
theorem dX11_does_21 : decode cX11_does 21 = .ok (.aload_n 0, 1) := by decide +kernel
theorem dX11_does_22 : decode cX11_does 22 = .ok (.iload 5, 2) := by decide +kernel
theorem dX11_does_24 : decode cX11_does 24 = .ok (.invokevirtual 106, 3) := by decide +kernel
theorem dX11_does_27 : decode cX11_does 27 = .ok (.goto 4, 3) := by decide +kernel
theorem dX11_does_30 : decode cX11_does 30 = .ok (.iconst (-1), 1) := by decide +kernel
theorem dX11_does_31 : decode cX11_does 31 = .ok (.istore 8, 2) := by decide +kernel
theorem dX11_does_33 : decode cX11_does 33 = .ok (.iload 6, 2) := by decide +kernel
theorem dX11_does_35 : decode cX11_does 35 = .ok (.ifCond .ne 48, 3) := by decide +kernel
theorem dX11_does_38 : decode cX11_does 38 = .ok (.iload 8, 2) := by decide +kernel
theorem dX11_does_40 : decode cX11_does 40 = .ok (.ifCond .lt 41, 3) := by decide +kernel
theorem dX11_does_43 : decode cX11_does 43 = .ok (.aload_n 0, 1) := by decide +kernel
theorem dX11_does_44 : decode cX11_does 44 = .ok (.aload_n 1, 1) := by decide +kernel
theorem dX11_does_45 : decode cX11_does 45 = .ok (.iload_n 2, 1) := by decide +kernel
theorem dX11_does_46 : decode cX11_does 46 = .ok (.iload 8, 2) := by decide +kernel
theorem dX11_does_48 : decode cX11_does 48 = .ok (.iadd, 1) := by decide +kernel
theorem dX11_does_49 : decode cX11_does 49 = .ok (.iaload, 1) := by decide +kernel
theorem dX11_does_50 : decode cX11_does 50 = .ok (.putfield 164, 3) := by decide +kernel
theorem dX11_does_53 : decode cX11_does 53 = .ok (.aload_n 1, 1) := by decide +kernel
theorem dX11_does_54 : decode cX11_does 54 = .ok (.iload_n 2, 1) := by decide +kernel
theorem dX11_does_55 : decode cX11_does 55 = .ok (.iload 8, 2) := by decide +kernel
theorem dX11_does_57 : decode cX11_does 57 = .ok (.iadd, 1) := by decide +kernel
theorem dX11_does_58 : decode cX11_does 58 = .ok (.aload_n 0, 1) := by decide +kernel
theorem dX11_does_59 : decode cX11_does 59 = .ok (.getfield 29, 3) := by decide +kernel
theorem dX11_does_62 : decode cX11_does 62 = .ok (.iload 8, 2) := by decide +kernel
theorem dX11_does_64 : decode cX11_does 64 = .ok (.iaload, 1) := by decide +kernel
theorem dX11_does_65 : decode cX11_does 65 = .ok (.bipush 6, 2) := by decide +kernel
theorem dX11_does_67 : decode cX11_does 67 = .ok (.if_icmp .ne 7, 3) := by decide +kernel
theorem dX11_does_70 : decode cX11_does 70 = .ok (.iconst 0, 1) := by decide +kernel
theorem dX11_does_71 : decode cX11_does 71 = .ok (.goto 9, 3) := by decide +kernel
theorem dX11_does_74 : decode cX11_does 74 = .ok (.aload_n 1, 1) := by decide +kernel
theorem dX11_does_75 : decode cX11_does 75 = .ok (.iload_n 2, 1) := by decide +kernel
theorem dX11_does_76 : decode cX11_does 76 = .ok (.iload 8, 2) := by decide +kernel
theorem dX11_does_78 : decode cX11_does 78 = .ok (.iadd, 1) := by decide +kernel
theorem dX11_does_79 : decode cX11_does 79 = .ok (.iaload, 1) := by decide +kernel
theorem dX11_does_80 : decode cX11_does 80 = .ok (.iastore, 1) := by decide +kernel
theorem dX11_does_81 : decode cX11_does 81 = .ok (.iconst 0, 1) := by decide +kernel
theorem dX11_does_82 : decode cX11_does 82 = .ok (.ireturn, 1) := by decide +kernel
theorem dX11_does_83 : decode cX11_does 83 = .ok (.iload 8, 2) := by decide +kernel
theorem dX11_does_85 : decode cX11_does 85 = .ok (.ifCond .lt 47, 3) := by decide +kernel
theorem dX11_does_88 : decode cX11_does 88 = .ok (.aload_n 0, 1) := by decide +kernel
theorem dX11_does_89 : decode cX11_does 89 = .ok (.getfield 29, 3) := by decide +kernel
theorem dX11_does_92 : decode cX11_does 92 = .ok (.iload 8, 2) := by decide +kernel
theorem dX11_does_94 : decode cX11_does 94 = .ok (.iaload, 1) := by decide +kernel
theorem dX11_does_95 : decode cX11_does 95 = .ok (.bipush 7, 2) := by decide +kernel
theorem dX11_does_97 : decode cX11_does 97 = .ok (.if_icmp .ne 14, 3) := by decide +kernel
theorem dX11_does_100 : decode cX11_does 100 = .ok (.iload 7, 2) := by decide +kernel
theorem dX11_does_102 : decode cX11_does 102 = .ok (.i2l, 1) := by decide +kernel
theorem dX11_does_103 : decode cX11_does 103 = .ok (.lconst 0, 1) := by decide +kernel
theorem dX11_does_104 : decode cX11_does 104 = .ok (.lconst 1, 1) := by decide +kernel
theorem dX11_does_105 : decode cX11_does 105 = .ok (.invokestatic 74, 3) := by decide +kernel
theorem dX11_does_108 : decode cX11_does 108 = .ok (.ifCond .eq 24, 3) := by decide +kernel
theorem dX11_does_111 : decode cX11_does 111 = .ok (.aload_n 0, 1) := by decide +kernel
theorem dX11_does_112 : decode cX11_does 112 = .ok (.getfield 29, 3) := by decide +kernel
theorem dX11_does_115 : decode cX11_does 115 = .ok (.iload 8, 2) := by decide +kernel
theorem dX11_does_117 : decode cX11_does 117 = .ok (.iaload, 1) := by decide +kernel
theorem dX11_does_118 : decode cX11_does 118 = .ok (.iconst 5, 1) := by decide +kernel
theorem dX11_does_119 : decode cX11_does 119 = .ok (.if_icmp .ne 15, 3) := by decide +kernel
theorem dX11_does_122 : decode cX11_does 122 = .ok (.aload_n 1, 1) := by decide +kernel
theorem dX11_does_123 : decode cX11_does 123 = .ok (.iload_n 3, 1) := by decide +kernel
theorem dX11_does_124 : decode cX11_does 124 = .ok (.iload 8, 2) := by decide +kernel
theorem dX11_does_126 : decode cX11_does 126 = .ok (.iadd, 1) := by decide +kernel
theorem dX11_does_127 : decode cX11_does 127 = .ok (.iaload, 1) := by decide +kernel
theorem dX11_does_128 : decode cX11_does 128 = .ok (.iconst 1, 1) := by decide +kernel
theorem dX11_does_129 : decode cX11_does 129 = .ok (.if_icmp .ne 5, 3) := by decide +kernel
theorem dX11_does_132 : decode cX11_does 132 = .ok (.iconst 1, 1) := by decide +kernel
theorem dX11_does_133 : decode cX11_does 133 = .ok (.ireturn, 1) := by decide +kernel
theorem dX11_does_134 : decode cX11_does 134 = .ok (.iconst 0, 1) := by decide +kernel
theorem dX11_does_135 : decode cX11_does 135 = .ok (.istore 9, 2) := by decide +kernel
theorem dX11_does_137 : decode cX11_does 137 = .ok (.iload 9, 2) := by decide +kernel
theorem dX11_does_139 : decode cX11_does 139 = .ok (.aload_n 0, 1) := by decide +kernel
theorem dX11_does_140 : decode cX11_does 140 = .ok (.getfield 69, 3) := by decide +kernel
theorem dX11_does_143 : decode cX11_does 143 = .ok (.if_icmp .ge 55, 3) := by decide +kernel
theorem dX11_does_146 : decode cX11_does 146 = .ok (.iload 9, 2) := by decide +kernel
theorem dX11_does_148 : decode cX11_does 148 = .ok (.iload 8, 2) := by decide +kernel
theorem dX11_does_150 : decode cX11_does 150 = .ok (.if_icmp .eq 42, 3) := by decide +kernel
theorem dX11_does_153 : decode cX11_does 153 = .ok (.aload_n 0, 1) := by decide +kernel
theorem dX11_does_154 : decode cX11_does 154 = .ok (.getfield 29, 3) := by decide +kernel
theorem dX11_does_157 : decode cX11_does 157 = .ok (.iload 9, 2) := by decide +kernel
theorem dX11_does_159 : decode cX11_does 159 = .ok (.iaload, 1) := by decide +kernel
theorem dX11_does_160 : decode cX11_does 160 = .ok (.bipush 7, 2) := by decide +kernel
theorem dX11_does_162 : decode cX11_does 162 = .ok (.if_icmp .ne 30, 3) := by decide +kernel
theorem dX11_does_165 : decode cX11_does 165 = .ok (.aload_n 0, 1) := by decide +kernel
theorem dX11_does_166 : decode cX11_does 166 = .ok (.iload 4, 2) := by decide +kernel
theorem dX11_does_168 : decode cX11_does 168 = .ok (.aload_n 0, 1) := by decide +kernel
theorem dX11_does_169 : decode cX11_does 169 = .ok (.getfield 26, 3) := by decide +kernel
theorem dX11_does_172 : decode cX11_does 172 = .ok (.iload 9, 2) := by decide +kernel
theorem dX11_does_174 : decode cX11_does 174 = .ok (.iaload, 1) := by decide +kernel
theorem dX11_does_175 : decode cX11_does 175 = .ok (.invokevirtual 97, 3) := by decide +kernel
theorem dX11_does_178 : decode cX11_does 178 = .ok (.ifCond .eq 14, 3) := by decide +kernel
theorem dX11_does_181 : decode cX11_does 181 = .ok (.aload_n 1, 1) := by decide +kernel
theorem dX11_does_182 : decode cX11_does 182 = .ok (.iload_n 2, 1) := by decide +kernel
theorem dX11_does_183 : decode cX11_does 183 = .ok (.iload 9, 2) := by decide +kernel
theorem dX11_does_185 : decode cX11_does 185 = .ok (.iadd, 1) := by decide +kernel
theorem dX11_does_186 : decode cX11_does 186 = .ok (.iaload, 1) := by decide +kernel
theorem dX11_does_187 : decode cX11_does 187 = .ok (.ifCond .eq 5, 3) := by decide +kernel
theorem dX11_does_190 : decode cX11_does 190 = .ok (.iconst 1, 1) := by decide +kernel
theorem dX11_does_191 : decode cX11_does 191 = .ok (.ireturn, 1) := by decide +kernel
theorem dX11_does_192 : decode cX11_does 192 = .ok (.iinc 9 1, 3) := by decide +kernel
theorem dX11_does_195 : decode cX11_does 195 = .ok (.goto (-58), 3) := by decide +kernel
theorem dX11_does_198 : decode cX11_does 198 = .ok (.aload_n 0, 1) := by decide +kernel
theorem dX11_does_199 : decode cX11_does 199 = .ok (.iload 8, 2) := by decide +kernel
theorem dX11_does_201 : decode cX11_does 201 = .ok (.putfield 167, 3) := by decide +kernel
theorem dX11_does_204 : decode cX11_does 204 = .ok (.aload_n 1, 1) := by decide +kernel
theorem dX11_does_205 : decode cX11_does 205 = .ok (.iload_n 2, 1) := by decide +kernel
theorem dX11_does_206 : decode cX11_does 206 = .ok (.iload 8, 2) := by decide +kernel
theorem dX11_does_208 : decode cX11_does 208 = .ok (.iadd, 1) := by decide +kernel
theorem dX11_does_209 : decode cX11_does 209 = .ok (.iaload, 1) := by decide +kernel
theorem dX11_does_210 : decode cX11_does 210 = .ok (.istore 9, 2) := by decide +kernel
theorem dX11_does_212 : decode cX11_does 212 = .ok (.aload_n 1, 1) := by decide +kernel
theorem dX11_does_213 : decode cX11_does 213 = .ok (.iload_n 2, 1) := by decide +kernel
theorem dX11_does_214 : decode cX11_does 214 = .ok (.iload 8, 2) := by decide +kernel
theorem dX11_does_216 : decode cX11_does 216 = .ok (.iadd, 1) := by decide +kernel
theorem dX11_does_217 : decode cX11_does 217 = .ok (.aload_n 0, 1) := by decide +kernel
theorem dX11_does_218 : decode cX11_does 218 = .ok (.getfield 29, 3) := by decide +kernel
theorem dX11_does_221 : decode cX11_does 221 = .ok (.iload 8, 2) := by decide +kernel
theorem dX11_does_223 : decode cX11_does 223 = .ok (.iaload, 1) := by decide +kernel
theorem dX11_does_224 : decode cX11_does 224 = .ok (.iconst 1, 1) := by decide +kernel
theorem dX11_does_225 : decode cX11_does 225 = .ok (.if_icmp .ne 8, 3) := by decide +kernel
theorem dX11_does_228 : decode cX11_does 228 = .ok (.iload 9, 2) := by decide +kernel
theorem dX11_does_230 : decode cX11_does 230 = .ok (.goto 45, 3) := by decide +kernel
theorem dX11_does_233 : decode cX11_does 233 = .ok (.aload_n 0, 1) := by decide +kernel
theorem dX11_does_234 : decode cX11_does 234 = .ok (.getfield 29, 3) := by decide +kernel
theorem dX11_does_237 : decode cX11_does 237 = .ok (.iload 8, 2) := by decide +kernel
theorem dX11_does_239 : decode cX11_does 239 = .ok (.iaload, 1) := by decide +kernel
theorem dX11_does_240 : decode cX11_does 240 = .ok (.iconst 2, 1) := by decide +kernel
theorem dX11_does_241 : decode cX11_does 241 = .ok (.if_icmp .ne 11, 3) := by decide +kernel
theorem dX11_does_244 : decode cX11_does 244 = .ok (.iload 9, 2) := by decide +kernel
theorem dX11_does_246 : decode cX11_does 246 = .ok (.iload 7, 2) := by decide +kernel
theorem dX11_does_248 : decode cX11_does 248 = .ok (.ior, 1) := by decide +kernel
theorem dX11_does_249 : decode cX11_does 249 = .ok (.goto 26, 3) := by decide +kernel
theorem dX11_does_252 : decode cX11_does 252 = .ok (.aload_n 0, 1) := by decide +kernel
theorem dX11_does_253 : decode cX11_does 253 = .ok (.getfield 29, 3) := by decide +kernel
theorem dX11_does_256 : decode cX11_does 256 = .ok (.iload 8, 2) := by decide +kernel
theorem dX11_does_258 : decode cX11_does 258 = .ok (.iaload, 1) := by decide +kernel
theorem dX11_does_259 : decode cX11_does 259 = .ok (.iconst 3, 1) := by decide +kernel
theorem dX11_does_260 : decode cX11_does 260 = .ok (.if_icmp .ne 13, 3) := by decide +kernel
theorem dX11_does_263 : decode cX11_does 263 = .ok (.iload 9, 2) := by decide +kernel
theorem dX11_does_265 : decode cX11_does 265 = .ok (.iload 7, 2) := by decide +kernel
theorem dX11_does_267 : decode cX11_does 267 = .ok (.iconst (-1), 1) := by decide +kernel
theorem dX11_does_268 : decode cX11_does 268 = .ok (.ixor, 1) := by decide +kernel
theorem dX11_does_269 : decode cX11_does 269 = .ok (.iand, 1) := by decide +kernel
theorem dX11_does_270 : decode cX11_does 270 = .ok (.goto 5, 3) := by decide +kernel
theorem dX11_does_273 : decode cX11_does 273 = .ok (.iload 7, 2) := by decide +kernel
theorem dX11_does_275 : decode cX11_does 275 = .ok (.iastore, 1) := by decide +kernel
theorem dX11_does_276 : decode cX11_does 276 = .ok (.aload_n 1, 1) := by decide +kernel
theorem dX11_does_277 : decode cX11_does 277 = .ok (.iload_n 3, 1) := by decide +kernel
theorem dX11_does_278 : decode cX11_does 278 = .ok (.iload 8, 2) := by decide +kernel
theorem dX11_does_280 : decode cX11_does 280 = .ok (.iadd, 1) := by decide +kernel
theorem dX11_does_281 : decode cX11_does 281 = .ok (.iconst 1, 1) := by decide +kernel
theorem dX11_does_282 : decode cX11_does 282 = .ok (.iastore, 1) := by decide +kernel
theorem dX11_does_283 : decode cX11_does 283 = .ok (.iconst 0, 1) := by decide +kernel
theorem dX11_does_284 : decode cX11_does 284 = .ok (.ireturn, 1) := by decide +kernel
set_option maxRecDepth 20000 in
theorem ggX11_slavesGo_X11_slaveGoes : GoodIn wsX11_slavesGo wsX11_slaveGoes := goodIn_r _ [12, 4, 7, 13, 5, 14, 15, 2, 16, 17, 18, 19, 11, 20, 6, 1, 21, 22, 23, 24, 25, 26, 27, 28, 29, 30, 31, 32, 33, 34, 35, 36, 37, 38, 39, 40, 41, 42, 43, 44, 45, 46, 47, 48, 49, 50, 51, 52, 53, 54, 55, 56, 57, 58] (by decide +kernel) (by decide +kernel)
set_option maxRecDepth 20000 in
theorem gX11_slavesGo_X11_slaveGoes : GoodIn wsX11_slavesGo (wsV RX11 170 RX11 yX11_slaveGoes wsX11_slaveGoes) := goodIn_app (goodIn_of _ (by decide +kernel)) ggX11_slavesGo_X11_slaveGoes
theorem dX11_slavesGo_0 : decode cX11_slavesGo 0 = .ok (.iconst 0, 1) := by decide +kernel
theorem dX11_slavesGo_1 : decode cX11_slavesGo 1 = .ok (.istore_n 1, 1) := by decide +kernel
theorem dX11_slavesGo_2 : decode cX11_slavesGo 2 = .ok (.iload_n 1, 1) := by decide +kernel
theorem dX11_slavesGo_3 : decode cX11_slavesGo 3 = .ok (.aload_n 0, 1) := by decide +kernel
theorem dX11_slavesGo_4 : decode cX11_slavesGo 4 = .ok (.getfield 69, 3) := by decide +kernel
theorem dX11_slavesGo_7 : decode cX11_slavesGo 7 = .ok (.if_icmp .ge 16, 3) := by decide +kernel
theorem dX11_slavesGo_10 : decode cX11_slavesGo 10 = .ok (.aload_n 0, 1) := by decide +kernel
theorem dX11_slavesGo_11 : decode cX11_slavesGo 11 = .ok (.getfield 45, 3) := by decide +kernel
theorem dX11_slavesGo_14 : decode cX11_slavesGo 14 = .ok (.iload_n 1, 1) := by decide +kernel
theorem dX11_slavesGo_15 : decode cX11_slavesGo 15 = .ok (.iconst 0, 1) := by decide +kernel
theorem dX11_slavesGo_16 : decode cX11_slavesGo 16 = .ok (.bastore, 1) := by decide +kernel
theorem dX11_slavesGo_17 : decode cX11_slavesGo 17 = .ok (.iinc 1 1, 3) := by decide +kernel
theorem dX11_slavesGo_20 : decode cX11_slavesGo 20 = .ok (.goto (-18), 3) := by decide +kernel
theorem dX11_slavesGo_23 : decode cX11_slavesGo 23 = .ok (.iconst 0, 1) := by decide +kernel
theorem dX11_slavesGo_24 : decode cX11_slavesGo 24 = .ok (.istore_n 1, 1) := by decide +kernel
theorem dX11_slavesGo_25 : decode cX11_slavesGo 25 = .ok (.iconst 0, 1) := by decide +kernel
theorem dX11_slavesGo_26 : decode cX11_slavesGo 26 = .ok (.istore_n 2, 1) := by decide +kernel
theorem dX11_slavesGo_27 : decode cX11_slavesGo 27 = .ok (.iload_n 2, 1) := by decide +kernel
theorem dX11_slavesGo_28 : decode cX11_slavesGo 28 = .ok (.aload_n 0, 1) := by decide +kernel
theorem dX11_slavesGo_29 : decode cX11_slavesGo 29 = .ok (.getfield 88, 3) := by decide +kernel
theorem dX11_slavesGo_32 : decode cX11_slavesGo 32 = .ok (.if_icmp .ge 31, 3) := by decide +kernel
theorem dX11_slavesGo_35 : decode cX11_slavesGo 35 = .ok (.aload_n 0, 1) := by decide +kernel
theorem dX11_slavesGo_36 : decode cX11_slavesGo 36 = .ok (.getfield 39, 3) := by decide +kernel
theorem dX11_slavesGo_39 : decode cX11_slavesGo 39 = .ok (.bipush 7, 2) := by decide +kernel
theorem dX11_slavesGo_41 : decode cX11_slavesGo 41 = .ok (.iaload, 1) := by decide +kernel
theorem dX11_slavesGo_42 : decode cX11_slavesGo 42 = .ok (.iload_n 2, 1) := by decide +kernel
theorem dX11_slavesGo_43 : decode cX11_slavesGo 43 = .ok (.ishr, 1) := by decide +kernel
theorem dX11_slavesGo_44 : decode cX11_slavesGo 44 = .ok (.iconst 1, 1) := by decide +kernel
theorem dX11_slavesGo_45 : decode cX11_slavesGo 45 = .ok (.iand, 1) := by decide +kernel
theorem dX11_slavesGo_46 : decode cX11_slavesGo 46 = .ok (.iconst 1, 1) := by decide +kernel
theorem dX11_slavesGo_47 : decode cX11_slavesGo 47 = .ok (.if_icmp .ne 10, 3) := by decide +kernel
theorem dX11_slavesGo_50 : decode cX11_slavesGo 50 = .ok (.iconst 1, 1) := by decide +kernel
theorem dX11_slavesGo_51 : decode cX11_slavesGo 51 = .ok (.istore_n 1, 1) := by decide +kernel
theorem dX11_slavesGo_52 : decode cX11_slavesGo 52 = .ok (.aload_n 0, 1) := by decide +kernel
theorem dX11_slavesGo_53 : decode cX11_slavesGo 53 = .ok (.iload_n 2, 1) := by decide +kernel
theorem dX11_slavesGo_54 : decode cX11_slavesGo 54 = .ok (.invokevirtual 170, 3) := by decide +kernel
theorem dX11_slavesGo_57 : decode cX11_slavesGo 57 = .ok (.iinc 2 1, 3) := by decide +kernel
theorem dX11_slavesGo_60 : decode cX11_slavesGo 60 = .ok (.goto (-33), 3) := by decide +kernel
theorem dX11_slavesGo_63 : decode cX11_slavesGo 63 = .ok (.iload_n 1, 1) := by decide +kernel
theorem dX11_slavesGo_64 : decode cX11_slavesGo 64 = .ok (.ifCond .ne 19, 3) := by decide +kernel
theorem dX11_slavesGo_67 : decode cX11_slavesGo 67 = .ok (.aload_n 0, 1) := by decide +kernel
theorem dX11_slavesGo_68 : decode cX11_slavesGo 68 = .ok (.getfield 42, 3) := by decide +kernel
theorem dX11_slavesGo_71 : decode cX11_slavesGo 71 = .ok (.bipush 12, 2) := by decide +kernel
theorem dX11_slavesGo_73 : decode cX11_slavesGo 73 = .ok (.iconst 0, 1) := by decide +kernel
theorem dX11_slavesGo_74 : decode cX11_slavesGo 74 = .ok (.iastore, 1) := by decide +kernel
theorem dX11_slavesGo_75 : decode cX11_slavesGo 75 = .ok (.aload_n 0, 1) := by decide +kernel
theorem dX11_slavesGo_76 : decode cX11_slavesGo 76 = .ok (.getfield 42, 3) := by decide +kernel
theorem dX11_slavesGo_79 : decode cX11_slavesGo 79 = .ok (.bipush 13, 2) := by decide +kernel
theorem dX11_slavesGo_81 : decode cX11_slavesGo 81 = .ok (.iconst 0, 1) := by decide +kernel
theorem dX11_slavesGo_82 : decode cX11_slavesGo 82 = .ok (.iastore, 1) := by decide +kernel
theorem dX11_slavesGo_83 : decode cX11_slavesGo 83 = .ok (.iconst 0, 1) := by decide +kernel
theorem dX11_slavesGo_84 : decode cX11_slavesGo 84 = .ok (.istore_n 2, 1) := by decide +kernel
theorem dX11_slavesGo_85 : decode cX11_slavesGo 85 = .ok (.iload_n 2, 1) := by decide +kernel
theorem dX11_slavesGo_86 : decode cX11_slavesGo 86 = .ok (.aload_n 0, 1) := by decide +kernel
theorem dX11_slavesGo_87 : decode cX11_slavesGo 87 = .ok (.getfield 69, 3) := by decide +kernel
theorem dX11_slavesGo_90 : decode cX11_slavesGo 90 = .ok (.if_icmp .ge 41, 3) := by decide +kernel
theorem dX11_slavesGo_93 : decode cX11_slavesGo 93 = .ok (.aload_n 0, 1) := by decide +kernel
theorem dX11_slavesGo_94 : decode cX11_slavesGo 94 = .ok (.getfield 29, 3) := by decide +kernel
theorem dX11_slavesGo_97 : decode cX11_slavesGo 97 = .ok (.iload_n 2, 1) := by decide +kernel
theorem dX11_slavesGo_98 : decode cX11_slavesGo 98 = .ok (.iaload, 1) := by decide +kernel
theorem dX11_slavesGo_99 : decode cX11_slavesGo 99 = .ok (.iconst 4, 1) := by decide +kernel
theorem dX11_slavesGo_100 : decode cX11_slavesGo 100 = .ok (.if_icmp .ne 25, 3) := by decide +kernel
theorem dX11_slavesGo_103 : decode cX11_slavesGo 103 = .ok (.aload_n 0, 1) := by decide +kernel
theorem dX11_slavesGo_104 : decode cX11_slavesGo 104 = .ok (.getfield 45, 3) := by decide +kernel
theorem dX11_slavesGo_107 : decode cX11_slavesGo 107 = .ok (.iload_n 2, 1) := by decide +kernel
theorem dX11_slavesGo_108 : decode cX11_slavesGo 108 = .ok (.baload, 1) := by decide +kernel
theorem dX11_slavesGo_109 : decode cX11_slavesGo 109 = .ok (.ifCond .ne 16, 3) := by decide +kernel
theorem dX11_slavesGo_112 : decode cX11_slavesGo 112 = .ok (.aload_n 0, 1) := by decide +kernel
theorem dX11_slavesGo_113 : decode cX11_slavesGo 113 = .ok (.getfield 7, 3) := by decide +kernel
theorem dX11_slavesGo_116 : decode cX11_slavesGo 116 = .ok (.bipush 75, 2) := by decide +kernel
theorem dX11_slavesGo_118 : decode cX11_slavesGo 118 = .ok (.iload_n 2, 1) := by decide +kernel
theorem dX11_slavesGo_119 : decode cX11_slavesGo 119 = .ok (.iadd, 1) := by decide +kernel
theorem dX11_slavesGo_120 : decode cX11_slavesGo 120 = .ok (.dup2, 1) := by decide +kernel
theorem dX11_slavesGo_121 : decode cX11_slavesGo 121 = .ok (.iaload, 1) := by decide +kernel
theorem dX11_slavesGo_122 : decode cX11_slavesGo 122 = .ok (.iconst 1, 1) := by decide +kernel
theorem dX11_slavesGo_123 : decode cX11_slavesGo 123 = .ok (.iadd, 1) := by decide +kernel
