theorem dX4_beginNext_0 : decode cX4_beginNext 0 = .ok (.aload_n 0, 1) := by decide +kernel
theorem dX4_beginNext_1 : decode cX4_beginNext 1 = .ok (.getfield 30, 3) := by decide +kernel
theorem dX4_beginNext_4 : decode cX4_beginNext 4 = .ok (.aload_n 0, 1) := by decide +kernel
theorem dX4_beginNext_5 : decode cX4_beginNext 5 = .ok (.getfield 16, 3) := by decide +kernel
theorem dX4_beginNext_8 : decode cX4_beginNext 8 = .ok (.getfield 54, 3) := by decide +kernel
theorem dX4_beginNext_11 : decode cX4_beginNext 11 = .ok (.if_icmp .lt 13, 3) := by decide +kernel
theorem dX4_beginNext_14 : decode cX4_beginNext 14 = .ok (.aload_n 1, 1) := by decide +kernel
theorem dX4_beginNext_15 : decode cX4_beginNext 15 = .ok (.getfield 81, 3) := by decide +kernel
theorem dX4_beginNext_18 : decode cX4_beginNext 18 = .ok (.iconst 2, 1) := by decide +kernel
theorem dX4_beginNext_19 : decode cX4_beginNext 19 = .ok (.iconst 0, 1) := by decide +kernel
theorem dX4_beginNext_20 : decode cX4_beginNext 20 = .ok (.iastore, 1) := by decide +kernel
theorem dX4_beginNext_21 : decode cX4_beginNext 21 = .ok (.goto 149, 3) := by decide +kernel
theorem dX4_beginNext_24 : decode cX4_beginNext 24 = .ok (.aload_n 0, 1) := by decide +kernel
theorem dX4_beginNext_25 : decode cX4_beginNext 25 = .ok (.getfield 33, 3) := by decide +kernel
theorem dX4_beginNext_28 : decode cX4_beginNext 28 = .ok (.aload_n 0, 1) := by decide +kernel
theorem dX4_beginNext_29 : decode cX4_beginNext 29 = .ok (.getfield 16, 3) := by decide +kernel
theorem dX4_beginNext_32 : decode cX4_beginNext 32 = .ok (.aload_n 0, 1) := by decide +kernel
theorem dX4_beginNext_33 : decode cX4_beginNext 33 = .ok (.getfield 30, 3) := by decide +kernel
theorem dX4_beginNext_36 : decode cX4_beginNext 36 = .ok (.bipush 8, 2) := by decide +kernel
theorem dX4_beginNext_38 : decode cX4_beginNext 38 = .ok (.invokevirtual 77, 3) := by decide +kernel
theorem dX4_beginNext_41 : decode cX4_beginNext 41 = .ok (.if_icmp .ge 23, 3) := by decide +kernel
theorem dX4_beginNext_44 : decode cX4_beginNext 44 = .ok (.aload_n 0, 1) := by decide +kernel
theorem dX4_beginNext_45 : decode cX4_beginNext 45 = .ok (.dup, 1) := by decide +kernel
theorem dX4_beginNext_46 : decode cX4_beginNext 46 = .ok (.getfield 33, 3) := by decide +kernel
theorem dX4_beginNext_49 : decode cX4_beginNext 49 = .ok (.iconst 1, 1) := by decide +kernel
theorem dX4_beginNext_50 : decode cX4_beginNext 50 = .ok (.iadd, 1) := by decide +kernel
theorem dX4_beginNext_51 : decode cX4_beginNext 51 = .ok (.putfield 33, 3) := by decide +kernel
theorem dX4_beginNext_54 : decode cX4_beginNext 54 = .ok (.aload_n 1, 1) := by decide +kernel
theorem dX4_beginNext_55 : decode cX4_beginNext 55 = .ok (.getfield 81, 3) := by decide +kernel
theorem dX4_beginNext_58 : decode cX4_beginNext 58 = .ok (.iconst 2, 1) := by decide +kernel
theorem dX4_beginNext_59 : decode cX4_beginNext 59 = .ok (.iconst 0, 1) := by decide +kernel
theorem dX4_beginNext_60 : decode cX4_beginNext 60 = .ok (.iastore, 1) := by decide +kernel
theorem dX4_beginNext_61 : decode cX4_beginNext 61 = .ok (.goto 109, 3) := by decide +kernel
theorem dX4_beginNext_64 : decode cX4_beginNext 64 = .ok (.aload_n 0, 1) := by decide +kernel
theorem dX4_beginNext_65 : decode cX4_beginNext 65 = .ok (.aload_n 0, 1) := by decide +kernel
theorem dX4_beginNext_66 : decode cX4_beginNext 66 = .ok (.getfield 30, 3) := by decide +kernel
theorem dX4_beginNext_69 : decode cX4_beginNext 69 = .ok (.putfield 23, 3) := by decide +kernel
theorem dX4_beginNext_72 : decode cX4_beginNext 72 = .ok (.aload_n 0, 1) := by decide +kernel
theorem dX4_beginNext_73 : decode cX4_beginNext 73 = .ok (.dup, 1) := by decide +kernel
theorem dX4_beginNext_74 : decode cX4_beginNext 74 = .ok (.getfield 30, 3) := by decide +kernel
theorem dX4_beginNext_77 : decode cX4_beginNext 77 = .ok (.iconst 1, 1) := by decide +kernel
theorem dX4_beginNext_78 : decode cX4_beginNext 78 = .ok (.iadd, 1) := by decide +kernel
theorem dX4_beginNext_79 : decode cX4_beginNext 79 = .ok (.putfield 30, 3) := by decide +kernel
theorem dX4_beginNext_82 : decode cX4_beginNext 82 = .ok (.aload_n 0, 1) := by decide +kernel
theorem dX4_beginNext_83 : decode cX4_beginNext 83 = .ok (.iconst 0, 1) := by decide +kernel
theorem dX4_beginNext_84 : decode cX4_beginNext 84 = .ok (.putfield 33, 3) := by decide +kernel
theorem dX4_beginNext_87 : decode cX4_beginNext 87 = .ok (.aload_n 0, 1) := by decide +kernel
theorem dX4_beginNext_88 : decode cX4_beginNext 88 = .ok (.getfield 16, 3) := by decide +kernel
theorem dX4_beginNext_91 : decode cX4_beginNext 91 = .ok (.aload_n 0, 1) := by decide +kernel
theorem dX4_beginNext_92 : decode cX4_beginNext 92 = .ok (.getfield 23, 3) := by decide +kernel
theorem dX4_beginNext_95 : decode cX4_beginNext 95 = .ok (.iconst 0, 1) := by decide +kernel
theorem dX4_beginNext_96 : decode cX4_beginNext 96 = .ok (.iconst 1, 1) := by decide +kernel
theorem dX4_beginNext_97 : decode cX4_beginNext 97 = .ok (.invokevirtual 50, 3) := by decide +kernel
theorem dX4_beginNext_100 : decode cX4_beginNext 100 = .ok (.aload_n 0, 1) := by decide +kernel
theorem dX4_beginNext_101 : decode cX4_beginNext 101 = .ok (.getfield 16, 3) := by decide +kernel
theorem dX4_beginNext_104 : decode cX4_beginNext 104 = .ok (.aload_n 0, 1) := by decide +kernel
theorem dX4_beginNext_105 : decode cX4_beginNext 105 = .ok (.getfield 23, 3) := by decide +kernel
theorem dX4_beginNext_108 : decode cX4_beginNext 108 = .ok (.iconst 2, 1) := by decide +kernel
theorem dX4_beginNext_109 : decode cX4_beginNext 109 = .ok (.iload_n 2, 1) := by decide +kernel
theorem dX4_beginNext_110 : decode cX4_beginNext 110 = .ok (.iconst 1, 1) := by decide +kernel
theorem dX4_beginNext_111 : decode cX4_beginNext 111 = .ok (.iadd, 1) := by decide +kernel
theorem dX4_beginNext_112 : decode cX4_beginNext 112 = .ok (.invokevirtual 50, 3) := by decide +kernel
theorem dX4_beginNext_115 : decode cX4_beginNext 115 = .ok (.aload_n 1, 1) := by decide +kernel
theorem dX4_beginNext_116 : decode cX4_beginNext 116 = .ok (.getfield 81, 3) := by decide +kernel
theorem dX4_beginNext_119 : decode cX4_beginNext 119 = .ok (.iconst 0, 1) := by decide +kernel
theorem dX4_beginNext_120 : decode cX4_beginNext 120 = .ok (.aload_n 0, 1) := by decide +kernel
theorem dX4_beginNext_121 : decode cX4_beginNext 121 = .ok (.getfield 16, 3) := by decide +kernel
theorem dX4_beginNext_124 : decode cX4_beginNext 124 = .ok (.aload_n 0, 1) := by decide +kernel
theorem dX4_beginNext_125 : decode cX4_beginNext 125 = .ok (.getfield 23, 3) := by decide +kernel
theorem dX4_beginNext_128 : decode cX4_beginNext 128 = .ok (.iconst 4, 1) := by decide +kernel
theorem dX4_beginNext_129 : decode cX4_beginNext 129 = .ok (.invokevirtual 77, 3) := by decide +kernel
theorem dX4_beginNext_132 : decode cX4_beginNext 132 = .ok (.iastore, 1) := by decide +kernel
theorem dX4_beginNext_133 : decode cX4_beginNext 133 = .ok (.aload_n 1, 1) := by decide +kernel
theorem dX4_beginNext_134 : decode cX4_beginNext 134 = .ok (.getfield 81, 3) := by decide +kernel
theorem dX4_beginNext_137 : decode cX4_beginNext 137 = .ok (.iconst 1, 1) := by decide +kernel
theorem dX4_beginNext_138 : decode cX4_beginNext 138 = .ok (.aload_n 0, 1) := by decide +kernel
theorem dX4_beginNext_139 : decode cX4_beginNext 139 = .ok (.getfield 16, 3) := by decide +kernel
theorem dX4_beginNext_142 : decode cX4_beginNext 142 = .ok (.aload_n 0, 1) := by decide +kernel
theorem dX4_beginNext_143 : decode cX4_beginNext 143 = .ok (.getfield 23, 3) := by decide +kernel
theorem dX4_beginNext_146 : decode cX4_beginNext 146 = .ok (.iconst 5, 1) := by decide +kernel
theorem dX4_beginNext_147 : decode cX4_beginNext 147 = .ok (.invokevirtual 77, 3) := by decide +kernel
theorem dX4_beginNext_150 : decode cX4_beginNext 150 = .ok (.iastore, 1) := by decide +kernel
theorem dX4_beginNext_151 : decode cX4_beginNext 151 = .ok (.aload_n 1, 1) := by decide +kernel
theorem dX4_beginNext_152 : decode cX4_beginNext 152 = .ok (.getfield 81, 3) := by decide +kernel
theorem dX4_beginNext_155 : decode cX4_beginNext 155 = .ok (.iconst 2, 1) := by decide +kernel
theorem dX4_beginNext_156 : decode cX4_beginNext 156 = .ok (.aload_n 0, 1) := by decide +kernel
theorem dX4_beginNext_157 : decode cX4_beginNext 157 = .ok (.getfield 16, 3) := by decide +kernel
theorem dX4_beginNext_160 : decode cX4_beginNext 160 = .ok (.aload_n 0, 1) := by decide +kernel
theorem dX4_beginNext_161 : decode cX4_beginNext 161 = .ok (.getfield 23, 3) := by decide +kernel
theorem dX4_beginNext_164 : decode cX4_beginNext 164 = .ok (.bipush 7, 2) := by decide +kernel
theorem dX4_beginNext_166 : decode cX4_beginNext 166 = .ok (.invokevirtual 77, 3) := by decide +kernel
theorem dX4_beginNext_169 : decode cX4_beginNext 169 = .ok (.iastore, 1) := by decide +kernel
theorem dX4_beginNext_170 : decode cX4_beginNext 170 = .ok (.return_, 1) := by decide +kernel
set_option maxRecDepth 20000 in
theorem ggX4_cancel_X4_strike : GoodIn wsX4_cancel wsX4_strike := goodIn_r _ [10, 4, 11, 12, 13, 14, 15, 16, 17, 18, 19, 20, 21, 22, 23, 24, 25, 26, 27, 32, 33, 34, 35, 36, 37, 38, 45, 46, 47, 48] (by decide +kernel) (by decide +kernel)
set_option maxRecDepth 20000 in
theorem gX4_cancel_X4_strike : GoodIn wsX4_cancel (wsV RX4 84 RX4 yX4_strike wsX4_strike) := goodIn_app (goodIn_of _ (by decide +kernel)) ggX4_cancel_X4_strike
set_option maxRecDepth 20000 in
theorem ggX4_cancel_X8_get : GoodIn wsX4_cancel wsX8_get := goodIn_r _ [31, 17, 18, 19, 20, 21, 15, 22, 23, 24, 25, 26, 27, 45, 46, 47, 48] (by decide +kernel) (by decide +kernel)
set_option maxRecDepth 20000 in
theorem gX4_cancel_X8_get : GoodIn wsX4_cancel (wsV RX4 77 RX8 yX8_get wsX8_get) := goodIn_app (goodIn_of _ (by decide +kernel)) ggX4_cancel_X8_get
theorem dX4_cancel_0 : decode cX4_cancel 0 = .ok (.aload_n 0, 1) := by decide +kernel
theorem dX4_cancel_1 : decode cX4_cancel 1 = .ok (.aload_n 0, 1) := by decide +kernel
theorem dX4_cancel_2 : decode cX4_cancel 2 = .ok (.getfield 23, 3) := by decide +kernel
theorem dX4_cancel_5 : decode cX4_cancel 5 = .ok (.invokevirtual 84, 3) := by decide +kernel
theorem dX4_cancel_8 : decode cX4_cancel 8 = .ok (.aload_n 0, 1) := by decide +kernel
theorem dX4_cancel_9 : decode cX4_cancel 9 = .ok (.iconst (-1), 1) := by decide +kernel
theorem dX4_cancel_10 : decode cX4_cancel 10 = .ok (.putfield 23, 3) := by decide +kernel
theorem dX4_cancel_13 : decode cX4_cancel 13 = .ok (.aload_n 1, 1) := by decide +kernel
theorem dX4_cancel_14 : decode cX4_cancel 14 = .ok (.getfield 81, 3) := by decide +kernel
theorem dX4_cancel_17 : decode cX4_cancel 17 = .ok (.iconst 2, 1) := by decide +kernel
theorem dX4_cancel_18 : decode cX4_cancel 18 = .ok (.iconst 0, 1) := by decide +kernel
theorem dX4_cancel_19 : decode cX4_cancel 19 = .ok (.iastore, 1) := by decide +kernel
theorem dX4_cancel_20 : decode cX4_cancel 20 = .ok (.aload_n 0, 1) := by decide +kernel
theorem dX4_cancel_21 : decode cX4_cancel 21 = .ok (.getfield 30, 3) := by decide +kernel
theorem dX4_cancel_24 : decode cX4_cancel 24 = .ok (.aload_n 0, 1) := by decide +kernel
theorem dX4_cancel_25 : decode cX4_cancel 25 = .ok (.getfield 16, 3) := by decide +kernel
theorem dX4_cancel_28 : decode cX4_cancel 28 = .ok (.getfield 54, 3) := by decide +kernel
theorem dX4_cancel_31 : decode cX4_cancel 31 = .ok (.if_icmp .ge 41, 3) := by decide +kernel
theorem dX4_cancel_34 : decode cX4_cancel 34 = .ok (.aload_n 0, 1) := by decide +kernel
theorem dX4_cancel_35 : decode cX4_cancel 35 = .ok (.getfield 16, 3) := by decide +kernel
theorem dX4_cancel_38 : decode cX4_cancel 38 = .ok (.aload_n 0, 1) := by decide +kernel
theorem dX4_cancel_39 : decode cX4_cancel 39 = .ok (.getfield 30, 3) := by decide +kernel
theorem dX4_cancel_42 : decode cX4_cancel 42 = .ok (.bipush 7, 2) := by decide +kernel
theorem dX4_cancel_44 : decode cX4_cancel 44 = .ok (.invokevirtual 77, 3) := by decide +kernel
theorem dX4_cancel_47 : decode cX4_cancel 47 = .ok (.iconst 3, 1) := by decide +kernel
theorem dX4_cancel_48 : decode cX4_cancel 48 = .ok (.if_icmp .ne 24, 3) := by decide +kernel
theorem dX4_cancel_51 : decode cX4_cancel 51 = .ok (.aload_n 0, 1) := by decide +kernel
theorem dX4_cancel_52 : decode cX4_cancel 52 = .ok (.aload_n 0, 1) := by decide +kernel
theorem dX4_cancel_53 : decode cX4_cancel 53 = .ok (.getfield 30, 3) := by decide +kernel
theorem dX4_cancel_56 : decode cX4_cancel 56 = .ok (.invokevirtual 84, 3) := by decide +kernel
theorem dX4_cancel_59 : decode cX4_cancel 59 = .ok (.aload_n 0, 1) := by decide +kernel
theorem dX4_cancel_60 : decode cX4_cancel 60 = .ok (.dup, 1) := by decide +kernel
theorem dX4_cancel_61 : decode cX4_cancel 61 = .ok (.getfield 30, 3) := by decide +kernel
theorem dX4_cancel_64 : decode cX4_cancel 64 = .ok (.iconst 1, 1) := by decide +kernel
theorem dX4_cancel_65 : decode cX4_cancel 65 = .ok (.iadd, 1) := by decide +kernel
theorem dX4_cancel_66 : decode cX4_cancel 66 = .ok (.putfield 30, 3) := by decide +kernel
theorem dX4_cancel_69 : decode cX4_cancel 69 = .ok (.goto (-49), 3) := by decide +kernel
theorem dX4_cancel_72 : decode cX4_cancel 72 = .ok (.return_, 1) := by decide +kernel
set_option maxRecDepth 20000 in
theorem ggX4_strike_X8_put : GoodIn wsX4_strike wsX8_put := goodIn_r _ [7, 8, 9, 10, 11, 12, 6, 13, 14, 15, 16, 17, 18, 26, 27, 28, 29] (by decide +kernel) (by decide +kernel)
set_option maxRecDepth 20000 in
theorem gX4_strike_X8_put : GoodIn wsX4_strike (wsV RX4 50 RX8 yX8_put wsX8_put) := goodIn_app (goodIn_of _ (by decide +kernel)) ggX4_strike_X8_put
theorem dX4_strike_0 : decode cX4_strike 0 = .ok (.aload_n 0, 1) := by decide +kernel
theorem dX4_strike_1 : decode cX4_strike 1 = .ok (.getfield 16, 3) := by decide +kernel
theorem dX4_strike_4 : decode cX4_strike 4 = .ok (.iload_n 1, 1) := by decide +kernel
theorem dX4_strike_5 : decode cX4_strike 5 = .ok (.iconst 0, 1) := by decide +kernel
theorem dX4_strike_6 : decode cX4_strike 6 = .ok (.iconst 5, 1) := by decide +kernel
theorem dX4_strike_7 : decode cX4_strike 7 = .ok (.invokevirtual 50, 3) := by decide +kernel
theorem dX4_strike_10 : decode cX4_strike 10 = .ok (.aload_n 0, 1) := by decide +kernel
theorem dX4_strike_11 : decode cX4_strike 11 = .ok (.dup, 1) := by decide +kernel
theorem dX4_strike_12 : decode cX4_strike 12 = .ok (.getfield 39, 3) := by decide +kernel
theorem dX4_strike_15 : decode cX4_strike 15 = .ok (.iconst 1, 1) := by decide +kernel
theorem dX4_strike_16 : decode cX4_strike 16 = .ok (.iadd, 1) := by decide +kernel
theorem dX4_strike_17 : decode cX4_strike 17 = .ok (.putfield 39, 3) := by decide +kernel
theorem dX4_strike_20 : decode cX4_strike 20 = .ok (.return_, 1) := by decide +kernel
set_option maxRecDepth 20000 in
theorem ggX5_init_X8_init : GoodIn wsX5_init wsX8_init := goodIn_r _ [12, 13, 2, 3, 14, 15, 16, 17, 18, 19, 4, 20, 26, 27, 28, 29] (by decide +kernel) (by decide +kernel)
set_option maxRecDepth 20000 in
theorem gX5_init_X8_init : GoodIn wsX5_init (wsX8_init) := ggX5_init_X8_init
theorem dX5_init_0 : decode cX5_init 0 = .ok (.aload_n 0, 1) := by decide +kernel
theorem dX5_init_1 : decode cX5_init 1 = .ok (.invokespecial 1, 3) := by decide +kernel
theorem dX5_init_4 : decode cX5_init 4 = .ok (.aload_n 0, 1) := by decide +kernel
theorem dX5_init_5 : decode cX5_init 5 = .ok (.bipush 16, 2) := by decide +kernel
theorem dX5_init_7 : decode cX5_init 7 = .ok (.newarray .int, 2) := by decide +kernel
theorem dX5_init_9 : decode cX5_init 9 = .ok (.putfield 9, 3) := by decide +kernel
theorem dX5_init_12 : decode cX5_init 12 = .ok (.aload_n 0, 1) := by decide +kernel
theorem dX5_init_13 : decode cX5_init 13 = .ok (.new 13, 3) := by decide +kernel
theorem dX5_init_16 : decode cX5_init 16 = .ok (.dup, 1) := by decide +kernel
theorem dX5_init_17 : decode cX5_init 17 = .ok (.bipush 60, 2) := by decide +kernel
theorem dX5_init_19 : decode cX5_init 19 = .ok (.iconst 2, 1) := by decide +kernel
theorem dX5_init_20 : decode cX5_init 20 = .ok (.invokespecial 15, 3) := by decide +kernel
theorem dX5_init_23 : decode cX5_init 23 = .ok (.putfield 18, 3) := by decide +kernel
theorem dX5_init_26 : decode cX5_init 26 = .ok (.return_, 1) := by decide +kernel
set_option maxRecDepth 20000 in
theorem ggX5_clear_J7_fill_53178 : GoodIn wsX5_clear wsJ7_fill_53178 := goodIn_r _ [9] (by decide +kernel) (by decide +kernel)
set_option maxRecDepth 20000 in
theorem gX5_clear_J7_fill_53178 : GoodIn wsX5_clear (va_wsS RX5 22 yJ7_fill_53178 wsJ7_fill_53178) := goodIn_app (goodIn_of _ (by decide +kernel)) ggX5_clear_J7_fill_53178
set_option maxRecDepth 20000 in
theorem ggX5_clear_X8_clear : GoodIn wsX5_clear wsX8_clear := goodIn_r _ [14, 15, 21, 22, 23, 24] (by decide +kernel) (by decide +kernel)
set_option maxRecDepth 20000 in
theorem gX5_clear_X8_clear : GoodIn wsX5_clear (wsV RX5 28 RX8 yX8_clear wsX8_clear) := goodIn_app (goodIn_of _ (by decide +kernel)) ggX5_clear_X8_clear
theorem dX5_clear_0 : decode cX5_clear 0 = .ok (.aload_n 0, 1) := by decide +kernel
theorem dX5_clear_1 : decode cX5_clear 1 = .ok (.getfield 9, 3) := by decide +kernel
theorem dX5_clear_4 : decode cX5_clear 4 = .ok (.iconst 0, 1) := by decide +kernel
theorem dX5_clear_5 : decode cX5_clear 5 = .ok (.invokestatic 22, 3) := by decide +kernel
theorem dX5_clear_8 : decode cX5_clear 8 = .ok (.aload_n 0, 1) := by decide +kernel
theorem dX5_clear_9 : decode cX5_clear 9 = .ok (.getfield 18, 3) := by decide +kernel
theorem dX5_clear_12 : decode cX5_clear 12 = .ok (.invokevirtual 28, 3) := by decide +kernel
theorem dX5_clear_15 : decode cX5_clear 15 = .ok (.aload_n 0, 1) := by decide +kernel
theorem dX5_clear_16 : decode cX5_clear 16 = .ok (.iconst 0, 1) := by decide +kernel
theorem dX5_clear_17 : decode cX5_clear 17 = .ok (.putfield 31, 3) := by decide +kernel
theorem dX5_clear_20 : decode cX5_clear 20 = .ok (.aload_n 0, 1) := by decide +kernel
theorem dX5_clear_21 : decode cX5_clear 21 = .ok (.iconst 0, 1) := by decide +kernel
theorem dX5_clear_22 : decode cX5_clear 22 = .ok (.putfield 35, 3) := by decide +kernel
theorem dX5_clear_25 : decode cX5_clear 25 = .ok (.aload_n 0, 1) := by decide +kernel
theorem dX5_clear_26 : decode cX5_clear 26 = .ok (.iconst 0, 1) := by decide +kernel
theorem dX5_clear_27 : decode cX5_clear 27 = .ok (.putfield 38, 3) := by decide +kernel
theorem dX5_clear_30 : decode cX5_clear 30 = .ok (.return_, 1) := by decide +kernel
set_option maxRecDepth 20000 in
theorem ggX5_copyFrom_X8_copyFrom : GoodIn wsX5_copyFrom wsX8_copyFrom := goodIn_r _ [14, 15, 16, 17, 18, 3, 4, 5, 24, 25, 26, 27] (by decide +kernel) (by decide +kernel)
set_option maxRecDepth 20000 in
theorem gX5_copyFrom_X8_copyFrom : GoodIn wsX5_copyFrom (wsV RX5 48 RX8 yX8_copyFrom wsX8_copyFrom) := goodIn_app (goodIn_of _ (by decide +kernel)) ggX5_copyFrom_X8_copyFrom
theorem dX5_copyFrom_0 : decode cX5_copyFrom 0 = .ok (.aload_n 1, 1) := by decide +kernel
theorem dX5_copyFrom_1 : decode cX5_copyFrom 1 = .ok (.getfield 9, 3) := by decide +kernel
theorem dX5_copyFrom_4 : decode cX5_copyFrom 4 = .ok (.iconst 0, 1) := by decide +kernel
theorem dX5_copyFrom_5 : decode cX5_copyFrom 5 = .ok (.aload_n 0, 1) := by decide +kernel
theorem dX5_copyFrom_6 : decode cX5_copyFrom 6 = .ok (.getfield 9, 3) := by decide +kernel
theorem dX5_copyFrom_9 : decode cX5_copyFrom 9 = .ok (.iconst 0, 1) := by decide +kernel
theorem dX5_copyFrom_10 : decode cX5_copyFrom 10 = .ok (.aload_n 0, 1) := by decide +kernel
theorem dX5_copyFrom_11 : decode cX5_copyFrom 11 = .ok (.getfield 9, 3) := by decide +kernel
theorem dX5_copyFrom_14 : decode cX5_copyFrom 14 = .ok (.arraylength, 1) := by decide +kernel
theorem dX5_copyFrom_15 : decode cX5_copyFrom 15 = .ok (.invokestatic 42, 3) := by decide +kernel
theorem dX5_copyFrom_18 : decode cX5_copyFrom 18 = .ok (.aload_n 0, 1) := by decide +kernel
theorem dX5_copyFrom_19 : decode cX5_copyFrom 19 = .ok (.getfield 18, 3) := by decide +kernel
theorem dX5_copyFrom_22 : decode cX5_copyFrom 22 = .ok (.aload_n 1, 1) := by decide +kernel
theorem dX5_copyFrom_23 : decode cX5_copyFrom 23 = .ok (.getfield 18, 3) := by decide +kernel
theorem dX5_copyFrom_26 : decode cX5_copyFrom 26 = .ok (.invokevirtual 48, 3) := by decide +kernel
theorem dX5_copyFrom_29 : decode cX5_copyFrom 29 = .ok (.aload_n 0, 1) := by decide +kernel
theorem dX5_copyFrom_30 : decode cX5_copyFrom 30 = .ok (.aload_n 1, 1) := by decide +kernel
theorem dX5_copyFrom_31 : decode cX5_copyFrom 31 = .ok (.getfield 31, 3) := by decide +kernel
theorem dX5_copyFrom_34 : decode cX5_copyFrom 34 = .ok (.putfield 31, 3) := by decide +kernel
theorem dX5_copyFrom_37 : decode cX5_copyFrom 37 = .ok (.aload_n 0, 1) := by decide +kernel
theorem dX5_copyFrom_38 : decode cX5_copyFrom 38 = .ok (.aload_n 1, 1) := by decide +kernel
theorem dX5_copyFrom_39 : decode cX5_copyFrom 39 = .ok (.getfield 35, 3) := by decide +kernel
theorem dX5_copyFrom_42 : decode cX5_copyFrom 42 = .ok (.putfield 35, 3) := by decide +kernel
theorem dX5_copyFrom_45 : decode cX5_copyFrom 45 = .ok (.aload_n 0, 1) := by decide +kernel
theorem dX5_copyFrom_46 : decode cX5_copyFrom 46 = .ok (.aload_n 1, 1) := by decide +kernel
theorem dX5_copyFrom_47 : decode cX5_copyFrom 47 = .ok (.getfield 38, 3) := by decide +kernel
theorem dX5_copyFrom_50 : decode cX5_copyFrom 50 = .ok (.putfield 38, 3) := by decide +kernel
theorem dX5_copyFrom_53 : decode cX5_copyFrom 53 = .ok (.return_, 1) := by decide +kernel
set_option maxRecDepth 20000 in
theorem ggX5_judge_X9_isTransfer : GoodIn wsX5_judge wsX9_isTransfer := goodIn_r _ [9] (by decide +kernel) (by decide +kernel)
set_option maxRecDepth 20000 in
theorem gX5_judge_X9_isTransfer : GoodIn wsX5_judge (va_wsS RX5 60 yX9_isTransfer wsX9_isTransfer) := goodIn_app (goodIn_of _ (by decide +kernel)) ggX5_judge_X9_isTransfer
set_option maxRecDepth 20000 in
theorem ggX5_judge_X5_breaksAbove : GoodIn wsX5_judge wsX5_breaksAbove := goodIn_r _ [14, 3, 4, 5, 15, 16, 13, 17, 6, 7, 8, 9, 18, 19, 20, 21, 22, 23, 24, 25, 26, 27, 28, 29, 103, 104, 105, 106, 107] (by decide +kernel) (by decide +kernel)
set_option maxRecDepth 20000 in
theorem gX5_judge_X5_breaksAbove : GoodIn wsX5_judge (wsV RX5 64 RX5 yX5_breaksAbove wsX5_breaksAbove) := goodIn_app (goodIn_of _ (by decide +kernel)) ggX5_judge_X5_breaksAbove
set_option maxRecDepth 20000 in
theorem ggX5_judge_X5_breaksBelow : GoodIn wsX5_judge wsX5_breaksBelow := goodIn_r _ [33, 34, 35, 13, 36, 37, 38, 39, 40, 41, 42, 43, 44, 18, 19, 20, 45, 46, 47, 48, 49, 50, 51, 52, 53, 54, 55, 56, 57, 58, 59, 60, 61, 62, 63, 64, 65, 108, 109, 110, 111, 112, 113, 114, 115, 116, 117, 118, 119, 120] (by decide +kernel) (by decide +kernel)
set_option maxRecDepth 20000 in
theorem gX5_judge_X5_breaksBelow : GoodIn wsX5_judge (wsV RX5 68 RX5 yX5_breaksBelow wsX5_breaksBelow) := goodIn_app (goodIn_of _ (by decide +kernel)) ggX5_judge_X5_breaksBelow
set_option maxRecDepth 20000 in
theorem ggX5_judge_X5_note : GoodIn wsX5_judge wsX5_note := goodIn_r _ [69, 70, 71, 72, 73, 74, 75, 76, 77, 78, 79, 80, 81, 82, 83, 84, 85, 86, 87, 88, 89, 90, 91, 92, 93, 94, 95, 96, 103, 104, 105, 106, 107, 121, 122, 123, 124] (by decide +kernel) (by decide +kernel)
set_option maxRecDepth 20000 in
theorem gX5_judge_X5_note : GoodIn wsX5_judge (wsV RX5 72 RX5 yX5_note wsX5_note) := goodIn_app (goodIn_of _ (by decide +kernel)) ggX5_judge_X5_note
theorem dX5_judge_0 : decode cX5_judge 0 = .ok (.iload_n 3, 1) := by decide +kernel
theorem dX5_judge_1 : decode cX5_judge 1 = .ok (.ifCond .ne 4, 3) := by decide +kernel
theorem dX5_judge_4 : decode cX5_judge 4 = .ok (.return_, 1) := by decide +kernel
theorem dX5_judge_5 : decode cX5_judge 5 = .ok (.aload_n 2, 1) := by decide +kernel
theorem dX5_judge_6 : decode cX5_judge 6 = .ok (.getfield 52, 3) := by decide +kernel
theorem dX5_judge_9 : decode cX5_judge 9 = .ok (.astore 4, 2) := by decide +kernel
theorem dX5_judge_11 : decode cX5_judge 11 = .ok (.aload_n 2, 1) := by decide +kernel
theorem dX5_judge_12 : decode cX5_judge 12 = .ok (.getfield 57, 3) := by decide +kernel
theorem dX5_judge_15 : decode cX5_judge 15 = .ok (.astore 5, 2) := by decide +kernel
theorem dX5_judge_17 : decode cX5_judge 17 = .ok (.aload 5, 2) := by decide +kernel
theorem dX5_judge_19 : decode cX5_judge 19 = .ok (.iconst 4, 1) := by decide +kernel
theorem dX5_judge_20 : decode cX5_judge 20 = .ok (.iaload, 1) := by decide +kernel
theorem dX5_judge_21 : decode cX5_judge 21 = .ok (.ifCond .eq 37, 3) := by decide +kernel
theorem dX5_judge_24 : decode cX5_judge 24 = .ok (.aload_n 0, 1) := by decide +kernel
theorem dX5_judge_25 : decode cX5_judge 25 = .ok (.aload 5, 2) := by decide +kernel
theorem dX5_judge_27 : decode cX5_judge 27 = .ok (.iconst 2, 1) := by decide +kernel
theorem dX5_judge_28 : decode cX5_judge 28 = .ok (.iaload, 1) := by decide +kernel
theorem dX5_judge_29 : decode cX5_judge 29 = .ok (.invokestatic 60, 3) := by decide +kernel
theorem dX5_judge_32 : decode cX5_judge 32 = .ok (.putfield 31, 3) := by decide +kernel
theorem dX5_judge_35 : decode cX5_judge 35 = .ok (.aload_n 0, 1) := by decide +kernel
theorem dX5_judge_36 : decode cX5_judge 36 = .ok (.aload_n 0, 1) := by decide +kernel
theorem dX5_judge_37 : decode cX5_judge 37 = .ok (.getfield 31, 3) := by decide +kernel
theorem dX5_judge_40 : decode cX5_judge 40 = .ok (.ifCond .eq 14, 3) := by decide +kernel
theorem dX5_judge_43 : decode cX5_judge 43 = .ok (.aload 5, 2) := by decide +kernel
theorem dX5_judge_45 : decode cX5_judge 45 = .ok (.iconst 1, 1) := by decide +kernel
theorem dX5_judge_46 : decode cX5_judge 46 = .ok (.iaload, 1) := by decide +kernel
theorem dX5_judge_47 : decode cX5_judge 47 = .ok (.ifCond .eq 7, 3) := by decide +kernel
theorem dX5_judge_50 : decode cX5_judge 50 = .ok (.iconst 1, 1) := by decide +kernel
theorem dX5_judge_51 : decode cX5_judge 51 = .ok (.goto 4, 3) := by decide +kernel
theorem dX5_judge_54 : decode cX5_judge 54 = .ok (.iconst 0, 1) := by decide +kernel
theorem dX5_judge_55 : decode cX5_judge 55 = .ok (.putfield 35, 3) := by decide +kernel
theorem dX5_judge_58 : decode cX5_judge 58 = .ok (.aload_n 0, 1) := by decide +kernel
theorem dX5_judge_59 : decode cX5_judge 59 = .ok (.aload 4, 2) := by decide +kernel
theorem dX5_judge_61 : decode cX5_judge 61 = .ok (.iconst 4, 1) := by decide +kernel
theorem dX5_judge_62 : decode cX5_judge 62 = .ok (.iaload, 1) := by decide +kernel
theorem dX5_judge_63 : decode cX5_judge 63 = .ok (.ifCond .ne 12, 3) := by decide +kernel
theorem dX5_judge_66 : decode cX5_judge 66 = .ok (.aload_n 0, 1) := by decide +kernel
theorem dX5_judge_67 : decode cX5_judge 67 = .ok (.getfield 38, 3) := by decide +kernel
theorem dX5_judge_70 : decode cX5_judge 70 = .ok (.iconst 1, 1) := by decide +kernel
theorem dX5_judge_71 : decode cX5_judge 71 = .ok (.iadd, 1) := by decide +kernel
theorem dX5_judge_72 : decode cX5_judge 72 = .ok (.goto 4, 3) := by decide +kernel
theorem dX5_judge_75 : decode cX5_judge 75 = .ok (.iconst 0, 1) := by decide +kernel
theorem dX5_judge_76 : decode cX5_judge 76 = .ok (.putfield 38, 3) := by decide +kernel
theorem dX5_judge_79 : decode cX5_judge 79 = .ok (.iconst 1, 1) := by decide +kernel
theorem dX5_judge_80 : decode cX5_judge 80 = .ok (.istore 6, 2) := by decide +kernel
theorem dX5_judge_82 : decode cX5_judge 82 = .ok (.iload 6, 2) := by decide +kernel
theorem dX5_judge_84 : decode cX5_judge 84 = .ok (.bipush 15, 2) := by decide +kernel
theorem dX5_judge_86 : decode cX5_judge 86 = .ok (.if_icmp .gt 54, 3) := by decide +kernel
theorem dX5_judge_89 : decode cX5_judge 89 = .ok (.iload 6, 2) := by decide +kernel
theorem dX5_judge_91 : decode cX5_judge 91 = .ok (.bipush 8, 2) := by decide +kernel
theorem dX5_judge_93 : decode cX5_judge 93 = .ok (.if_icmp .ge 16, 3) := by decide +kernel
theorem dX5_judge_96 : decode cX5_judge 96 = .ok (.aload_n 0, 1) := by decide +kernel
theorem dX5_judge_97 : decode cX5_judge 97 = .ok (.iload 6, 2) := by decide +kernel
theorem dX5_judge_99 : decode cX5_judge 99 = .ok (.aload 4, 2) := by decide +kernel
theorem dX5_judge_101 : decode cX5_judge 101 = .ok (.aload 5, 2) := by decide +kernel
theorem dX5_judge_103 : decode cX5_judge 103 = .ok (.invokevirtual 64, 3) := by decide +kernel
theorem dX5_judge_106 : decode cX5_judge 106 = .ok (.goto 14, 3) := by decide +kernel
theorem dX5_judge_109 : decode cX5_judge 109 = .ok (.aload_n 0, 1) := by decide +kernel
theorem dX5_judge_110 : decode cX5_judge 110 = .ok (.iload 6, 2) := by decide +kernel
theorem dX5_judge_112 : decode cX5_judge 112 = .ok (.aload_n 1, 1) := by decide +kernel
theorem dX5_judge_113 : decode cX5_judge 113 = .ok (.aload 4, 2) := by decide +kernel
theorem dX5_judge_115 : decode cX5_judge 115 = .ok (.aload 5, 2) := by decide +kernel
theorem dX5_judge_117 : decode cX5_judge 117 = .ok (.invokevirtual 68, 3) := by decide +kernel
theorem dX5_judge_120 : decode cX5_judge 120 = .ok (.istore 7, 2) := by decide +kernel
theorem dX5_judge_122 : decode cX5_judge 122 = .ok (.iload 7, 2) := by decide +kernel
theorem dX5_judge_124 : decode cX5_judge 124 = .ok (.ifCond .eq 10, 3) := by decide +kernel
theorem dX5_judge_127 : decode cX5_judge 127 = .ok (.aload_n 0, 1) := by decide +kernel
theorem dX5_judge_128 : decode cX5_judge 128 = .ok (.iload_n 3, 1) := by decide +kernel
theorem dX5_judge_129 : decode cX5_judge 129 = .ok (.iload 6, 2) := by decide +kernel
theorem dX5_judge_131 : decode cX5_judge 131 = .ok (.invokevirtual 72, 3) := by decide +kernel
theorem dX5_judge_134 : decode cX5_judge 134 = .ok (.iinc 6 1, 3) := by decide +kernel
theorem dX5_judge_137 : decode cX5_judge 137 = .ok (.goto (-55), 3) := by decide +kernel
theorem dX5_judge_140 : decode cX5_judge 140 = .ok (.return_, 1) := by decide +kernel
set_option maxRecDepth 20000 in
theorem ggX5_note_X8_add : GoodIn wsX5_note wsX8_add := goodIn_r _ [7, 8, 9, 10, 11, 12, 13, 6, 14, 15, 33, 34, 35, 36] (by decide +kernel) (by decide +kernel)
set_option maxRecDepth 20000 in
theorem gX5_note_X8_add : GoodIn wsX5_note (wsV RX5 75 RX8 yX8_add wsX8_add) := goodIn_app (goodIn_of _ (by decide +kernel)) ggX5_note_X8_add
set_option maxRecDepth 20000 in
theorem ggX5_note_X8_put : GoodIn wsX5_note wsX8_put := goodIn_r _ [19, 10, 9, 20, 21, 22, 6, 23, 8, 24, 25, 26, 27, 33, 34, 35, 36] (by decide +kernel) (by decide +kernel)
set_option maxRecDepth 20000 in
theorem gX5_note_X8_put : GoodIn wsX5_note (wsV RX5 79 RX8 yX8_put wsX8_put) := goodIn_app (goodIn_of _ (by decide +kernel)) ggX5_note_X8_put
theorem dX5_note_0 : decode cX5_note 0 = .ok (.aload_n 0, 1) := by decide +kernel
theorem dX5_note_1 : decode cX5_note 1 = .ok (.getfield 9, 3) := by decide +kernel
theorem dX5_note_4 : decode cX5_note 4 = .ok (.iconst 0, 1) := by decide +kernel
theorem dX5_note_5 : decode cX5_note 5 = .ok (.dup2, 1) := by decide +kernel
theorem dX5_note_6 : decode cX5_note 6 = .ok (.iaload, 1) := by decide +kernel
theorem dX5_note_7 : decode cX5_note 7 = .ok (.iconst 1, 1) := by decide +kernel
theorem dX5_note_8 : decode cX5_note 8 = .ok (.iadd, 1) := by decide +kernel
theorem dX5_note_9 : decode cX5_note 9 = .ok (.iastore, 1) := by decide +kernel
theorem dX5_note_10 : decode cX5_note 10 = .ok (.aload_n 0, 1) := by decide +kernel
theorem dX5_note_11 : decode cX5_note 11 = .ok (.getfield 9, 3) := by decide +kernel
theorem dX5_note_14 : decode cX5_note 14 = .ok (.iload_n 2, 1) := by decide +kernel
theorem dX5_note_15 : decode cX5_note 15 = .ok (.dup2, 1) := by decide +kernel
theorem dX5_note_16 : decode cX5_note 16 = .ok (.iaload, 1) := by decide +kernel
theorem dX5_note_17 : decode cX5_note 17 = .ok (.iconst 1, 1) := by decide +kernel
theorem dX5_note_18 : decode cX5_note 18 = .ok (.iadd, 1) := by decide +kernel
theorem dX5_note_19 : decode cX5_note 19 = .ok (.iastore, 1) := by decide +kernel
theorem dX5_note_20 : decode cX5_note 20 = .ok (.aload_n 0, 1) := by decide +kernel
theorem dX5_note_21 : decode cX5_note 21 = .ok (.getfield 18, 3) := by decide +kernel
theorem dX5_note_24 : decode cX5_note 24 = .ok (.invokevirtual 75, 3) := by decide +kernel
theorem dX5_note_27 : decode cX5_note 27 = .ok (.istore_n 3, 1) := by decide +kernel
theorem dX5_note_28 : decode cX5_note 28 = .ok (.aload_n 0, 1) := by decide +kernel
theorem dX5_note_29 : decode cX5_note 29 = .ok (.getfield 18, 3) := by decide +kernel
theorem dX5_note_32 : decode cX5_note 32 = .ok (.iload_n 3, 1) := by decide +kernel
theorem dX5_note_33 : decode cX5_note 33 = .ok (.iconst 0, 1) := by decide +kernel
theorem dX5_note_34 : decode cX5_note 34 = .ok (.iload_n 1, 1) := by decide +kernel
theorem dX5_note_35 : decode cX5_note 35 = .ok (.invokevirtual 79, 3) := by decide +kernel
theorem dX5_note_38 : decode cX5_note 38 = .ok (.aload_n 0, 1) := by decide +kernel
theorem dX5_note_39 : decode cX5_note 39 = .ok (.getfield 18, 3) := by decide +kernel
theorem dX5_note_42 : decode cX5_note 42 = .ok (.iload_n 3, 1) := by decide +kernel
theorem dX5_note_43 : decode cX5_note 43 = .ok (.iconst 1, 1) := by decide +kernel
theorem dX5_note_44 : decode cX5_note 44 = .ok (.iload_n 2, 1) := by decide +kernel
theorem dX5_note_45 : decode cX5_note 45 = .ok (.invokevirtual 79, 3) := by decide +kernel
theorem dX5_note_48 : decode cX5_note 48 = .ok (.return_, 1) := by decide +kernel
set_option maxRecDepth 20000 in
theorem ggX5_breaksAbove_X5_leavesAddress : GoodIn wsX5_breaksAbove wsX5_leavesAddress := goodIn_r _ [7, 8, 9, 10, 11, 12, 13, 6, 14] (by decide +kernel) (by decide +kernel)
set_option maxRecDepth 20000 in
theorem gX5_breaksAbove_X5_leavesAddress : GoodIn wsX5_breaksAbove (va_wsS RX5 83 yX5_leavesAddress wsX5_leavesAddress) := goodIn_app (goodIn_of _ (by decide +kernel)) ggX5_breaksAbove_X5_leavesAddress
set_option maxRecDepth 20000 in
theorem ggX5_breaksAbove_X5_followsBadly : GoodIn wsX5_breaksAbove wsX5_followsBadly := goodIn_r _ [17, 8, 9, 10, 11, 12, 13, 6, 14] (by decide +kernel) (by decide +kernel)
set_option maxRecDepth 20000 in
theorem gX5_breaksAbove_X5_followsBadly : GoodIn wsX5_breaksAbove (va_wsS RX5 87 yX5_followsBadly wsX5_followsBadly) := goodIn_app (goodIn_of _ (by decide +kernel)) ggX5_breaksAbove_X5_followsBadly
set_option maxRecDepth 20000 in
theorem ggX5_breaksAbove_X5_changed : GoodIn wsX5_breaksAbove wsX5_changed := goodIn_r _ [14] (by decide +kernel) (by decide +kernel)
set_option maxRecDepth 20000 in
theorem gX5_breaksAbove_X5_changed : GoodIn wsX5_breaksAbove (va_wsS RX5 90 yX5_changed wsX5_changed) := goodIn_app (goodIn_of _ (by decide +kernel)) ggX5_breaksAbove_X5_changed
set_option maxRecDepth 20000 in
theorem ggX5_breaksAbove_X5_isSecondOfTwo : GoodIn wsX5_breaksAbove wsX5_isSecondOfTwo := goodIn_r _ [20] (by decide +kernel) (by decide +kernel)
set_option maxRecDepth 20000 in
theorem gX5_breaksAbove_X5_isSecondOfTwo : GoodIn wsX5_breaksAbove (va_wsS RX5 93 yX5_isSecondOfTwo wsX5_isSecondOfTwo) := goodIn_app (goodIn_of _ (by decide +kernel)) ggX5_breaksAbove_X5_isSecondOfTwo
set_option maxRecDepth 20000 in
theorem ggX5_breaksAbove_X5_isFirstOfTwo : GoodIn wsX5_breaksAbove wsX5_isFirstOfTwo := goodIn_r _ [23] (by decide +kernel) (by decide +kernel)
set_option maxRecDepth 20000 in
theorem gX5_breaksAbove_X5_isFirstOfTwo : GoodIn wsX5_breaksAbove (va_wsS RX5 97 yX5_isFirstOfTwo wsX5_isFirstOfTwo) := goodIn_app (goodIn_of _ (by decide +kernel)) ggX5_breaksAbove_X5_isFirstOfTwo
theorem dX5_breaksAbove_0 : decode cX5_breaksAbove 0 = .ok (.iload_n 1, 1) := by decide +kernel
theorem dX5_breaksAbove_1 : decode cX5_breaksAbove 1 = .ok (.tableswitch 160 1 7 #[43, 49, 55, 90, 107, 126, 145], 43) := by decide +kernel
theorem dX5_breaksAbove_44 : decode cX5_breaksAbove 44 = .ok (.aload_n 2, 1) := by decide +kernel
theorem dX5_breaksAbove_45 : decode cX5_breaksAbove 45 = .ok (.aload_n 3, 1) := by decide +kernel
theorem dX5_breaksAbove_46 : decode cX5_breaksAbove 46 = .ok (.invokestatic 83, 3) := by decide +kernel
theorem dX5_breaksAbove_49 : decode cX5_breaksAbove 49 = .ok (.ireturn, 1) := by decide +kernel
theorem dX5_breaksAbove_50 : decode cX5_breaksAbove 50 = .ok (.aload_n 2, 1) := by decide +kernel
theorem dX5_breaksAbove_51 : decode cX5_breaksAbove 51 = .ok (.aload_n 3, 1) := by decide +kernel
theorem dX5_breaksAbove_52 : decode cX5_breaksAbove 52 = .ok (.invokestatic 87, 3) := by decide +kernel
theorem dX5_breaksAbove_55 : decode cX5_breaksAbove 55 = .ok (.ireturn, 1) := by decide +kernel
theorem dX5_breaksAbove_56 : decode cX5_breaksAbove 56 = .ok (.aload_n 0, 1) := by decide +kernel
theorem dX5_breaksAbove_57 : decode cX5_breaksAbove 57 = .ok (.getfield 31, 3) := by decide +kernel
theorem dX5_breaksAbove_60 : decode cX5_breaksAbove 60 = .ok (.ifCond .eq 29, 3) := by decide +kernel
theorem dX5_breaksAbove_63 : decode cX5_breaksAbove 63 = .ok (.aload_n 0, 1) := by decide +kernel
theorem dX5_breaksAbove_64 : decode cX5_breaksAbove 64 = .ok (.getfield 35, 3) := by decide +kernel
theorem dX5_breaksAbove_67 : decode cX5_breaksAbove 67 = .ok (.ifCond .eq 22, 3) := by decide +kernel
theorem dX5_breaksAbove_70 : decode cX5_breaksAbove 70 = .ok (.aload_n 3, 1) := by decide +kernel
theorem dX5_breaksAbove_71 : decode cX5_breaksAbove 71 = .ok (.iconst 4, 1) := by decide +kernel
theorem dX5_breaksAbove_72 : decode cX5_breaksAbove 72 = .ok (.iaload, 1) := by decide +kernel
theorem dX5_breaksAbove_73 : decode cX5_breaksAbove 73 = .ok (.ifCond .ne 16, 3) := by decide +kernel
theorem dX5_breaksAbove_76 : decode cX5_breaksAbove 76 = .ok (.iconst 3, 1) := by decide +kernel
theorem dX5_breaksAbove_77 : decode cX5_breaksAbove 77 = .ok (.aload_n 2, 1) := by decide +kernel
theorem dX5_breaksAbove_78 : decode cX5_breaksAbove 78 = .ok (.aload_n 3, 1) := by decide +kernel
theorem dX5_breaksAbove_79 : decode cX5_breaksAbove 79 = .ok (.invokestatic 90, 3) := by decide +kernel
theorem dX5_breaksAbove_82 : decode cX5_breaksAbove 82 = .ok (.ifCond .eq 7, 3) := by decide +kernel
theorem dX5_breaksAbove_85 : decode cX5_breaksAbove 85 = .ok (.iconst 1, 1) := by decide +kernel
theorem dX5_breaksAbove_86 : decode cX5_breaksAbove 86 = .ok (.goto 4, 3) := by decide +kernel
theorem dX5_breaksAbove_89 : decode cX5_breaksAbove 89 = .ok (.iconst 0, 1) := by decide +kernel
theorem dX5_breaksAbove_90 : decode cX5_breaksAbove 90 = .ok (.ireturn, 1) := by decide +kernel
theorem dX5_breaksAbove_91 : decode cX5_breaksAbove 91 = .ok (.aload_n 2, 1) := by decide +kernel
theorem dX5_breaksAbove_92 : decode cX5_breaksAbove 92 = .ok (.invokestatic 93, 3) := by decide +kernel
theorem dX5_breaksAbove_95 : decode cX5_breaksAbove 95 = .ok (.aload_n 3, 1) := by decide +kernel
theorem dX5_breaksAbove_96 : decode cX5_breaksAbove 96 = .ok (.invokestatic 97, 3) := by decide +kernel
theorem dX5_breaksAbove_99 : decode cX5_breaksAbove 99 = .ok (.if_icmp .eq 7, 3) := by decide +kernel
theorem dX5_breaksAbove_102 : decode cX5_breaksAbove 102 = .ok (.iconst 1, 1) := by decide +kernel
theorem dX5_breaksAbove_103 : decode cX5_breaksAbove 103 = .ok (.goto 4, 3) := by decide +kernel
theorem dX5_breaksAbove_106 : decode cX5_breaksAbove 106 = .ok (.iconst 0, 1) := by decide +kernel
theorem dX5_breaksAbove_107 : decode cX5_breaksAbove 107 = .ok (.ireturn, 1) := by decide +kernel
theorem dX5_breaksAbove_108 : decode cX5_breaksAbove 108 = .ok (.aload_n 2, 1) := by decide +kernel
theorem dX5_breaksAbove_109 : decode cX5_breaksAbove 109 = .ok (.iconst 5, 1) := by decide +kernel
theorem dX5_breaksAbove_110 : decode cX5_breaksAbove 110 = .ok (.iaload, 1) := by decide +kernel
theorem dX5_breaksAbove_111 : decode cX5_breaksAbove 111 = .ok (.ifCond .eq 14, 3) := by decide +kernel
theorem dX5_breaksAbove_114 : decode cX5_breaksAbove 114 = .ok (.aload_n 0, 1) := by decide +kernel
theorem dX5_breaksAbove_115 : decode cX5_breaksAbove 115 = .ok (.getfield 31, 3) := by decide +kernel
theorem dX5_breaksAbove_118 : decode cX5_breaksAbove 118 = .ok (.ifCond .ne 7, 3) := by decide +kernel
theorem dX5_breaksAbove_121 : decode cX5_breaksAbove 121 = .ok (.iconst 1, 1) := by decide +kernel
theorem dX5_breaksAbove_122 : decode cX5_breaksAbove 122 = .ok (.goto 4, 3) := by decide +kernel
theorem dX5_breaksAbove_125 : decode cX5_breaksAbove 125 = .ok (.iconst 0, 1) := by decide +kernel
theorem dX5_breaksAbove_126 : decode cX5_breaksAbove 126 = .ok (.ireturn, 1) := by decide +kernel
theorem dX5_breaksAbove_127 : decode cX5_breaksAbove 127 = .ok (.aload_n 2, 1) := by decide +kernel
theorem dX5_breaksAbove_128 : decode cX5_breaksAbove 128 = .ok (.iconst 4, 1) := by decide +kernel
theorem dX5_breaksAbove_129 : decode cX5_breaksAbove 129 = .ok (.iaload, 1) := by decide +kernel
theorem dX5_breaksAbove_130 : decode cX5_breaksAbove 130 = .ok (.ifCond .ne 14, 3) := by decide +kernel
theorem dX5_breaksAbove_133 : decode cX5_breaksAbove 133 = .ok (.aload_n 0, 1) := by decide +kernel
theorem dX5_breaksAbove_134 : decode cX5_breaksAbove 134 = .ok (.getfield 31, 3) := by decide +kernel
theorem dX5_breaksAbove_137 : decode cX5_breaksAbove 137 = .ok (.ifCond .ne 7, 3) := by decide +kernel
theorem dX5_breaksAbove_140 : decode cX5_breaksAbove 140 = .ok (.iconst 1, 1) := by decide +kernel
theorem dX5_breaksAbove_141 : decode cX5_breaksAbove 141 = .ok (.goto 4, 3) := by decide +kernel
theorem dX5_breaksAbove_144 : decode cX5_breaksAbove 144 = .ok (.iconst 0, 1) := by decide +kernel
theorem dX5_breaksAbove_145 : decode cX5_breaksAbove 145 = .ok (.ireturn, 1) := by decide +kernel
theorem dX5_breaksAbove_146 : decode cX5_breaksAbove 146 = .ok (.aload_n 0, 1) := by decide +kernel
theorem dX5_breaksAbove_147 : decode cX5_breaksAbove 147 = .ok (.getfield 38, 3) := by decide +kernel
theorem dX5_breaksAbove_150 : decode cX5_breaksAbove 150 = .ok (.bipush 100, 2) := by decide +kernel
theorem dX5_breaksAbove_152 : decode cX5_breaksAbove 152 = .ok (.if_icmp .ne 7, 3) := by decide +kernel
theorem dX5_breaksAbove_155 : decode cX5_breaksAbove 155 = .ok (.iconst 1, 1) := by decide +kernel
theorem dX5_breaksAbove_156 : decode cX5_breaksAbove 156 = .ok (.goto 4, 3) := by decide +kernel
theorem dX5_breaksAbove_159 : decode cX5_breaksAbove 159 = .ok (.iconst 0, 1) := by decide +kernel
theorem dX5_breaksAbove_160 : decode cX5_breaksAbove 160 = .ok (.ireturn, 1) := by decide +kernel
theorem dX5_breaksAbove_161 : decode cX5_breaksAbove 161 = .ok (.iconst 0, 1) := by decide +kernel
theorem dX5_breaksAbove_162 : decode cX5_breaksAbove 162 = .ok (.ireturn, 1) := by decide +kernel
set_option maxRecDepth 20000 in
theorem ggX5_breaksBelow_X5_selectsBadly : GoodIn wsX5_breaksBelow wsX5_selectsBadly := goodIn_r _ [4, 5, 6, 7, 8, 9, 10, 11, 12, 37, 38, 39, 40, 41, 42, 43, 44, 45, 46, 47, 48, 49] (by decide +kernel) (by decide +kernel)
set_option maxRecDepth 20000 in
theorem gX5_breaksBelow_X5_selectsBadly : GoodIn wsX5_breaksBelow (va_wsS RX5 100 yX5_selectsBadly wsX5_selectsBadly) := goodIn_app (goodIn_of _ (by decide +kernel)) ggX5_breaksBelow_X5_selectsBadly
set_option maxRecDepth 20000 in
theorem ggX5_breaksBelow_X5_changed : GoodIn wsX5_breaksBelow wsX5_changed := goodIn_r _ [15] (by decide +kernel) (by decide +kernel)
set_option maxRecDepth 20000 in
theorem gX5_breaksBelow_X5_changed : GoodIn wsX5_breaksBelow (va_wsS RX5 90 yX5_changed wsX5_changed) := goodIn_app (goodIn_of _ (by decide +kernel)) ggX5_breaksBelow_X5_changed
set_option maxRecDepth 20000 in
theorem ggX5_breaksBelow_X5_breaksOff : GoodIn wsX5_breaksBelow wsX5_breaksOff := goodIn_r _ [18, 13, 14, 3, 15] (by decide +kernel) (by decide +kernel)
set_option maxRecDepth 20000 in
theorem gX5_breaksBelow_X5_breaksOff : GoodIn wsX5_breaksBelow (va_wsS RX5 104 yX5_breaksOff wsX5_breaksOff) := goodIn_app (goodIn_of _ (by decide +kernel)) ggX5_breaksBelow_X5_breaksOff
set_option maxRecDepth 20000 in
theorem ggX5_breaksBelow_X5_changesAct : GoodIn wsX5_breaksBelow wsX5_changesAct := goodIn_r _ [21, 13, 14, 3, 15] (by decide +kernel) (by decide +kernel)
set_option maxRecDepth 20000 in
theorem gX5_breaksBelow_X5_changesAct : GoodIn wsX5_breaksBelow (va_wsS RX5 107 yX5_changesAct wsX5_changesAct) := goodIn_app (goodIn_of _ (by decide +kernel)) ggX5_breaksBelow_X5_changesAct
set_option maxRecDepth 20000 in
theorem ggX5_breaksBelow_X5_isAimed : GoodIn wsX5_breaksBelow wsX5_isAimed := goodIn_r _ [24, 25, 26, 27, 28, 29, 30, 31, 32, 33, 34, 35, 36, 37, 38, 39, 40, 41, 42, 43, 44, 45, 46, 47, 48, 49] (by decide +kernel) (by decide +kernel)
set_option maxRecDepth 20000 in
theorem gX5_breaksBelow_X5_isAimed : GoodIn wsX5_breaksBelow (va_wsS RX5 110 yX5_isAimed wsX5_isAimed) := goodIn_app (goodIn_of _ (by decide +kernel)) ggX5_breaksBelow_X5_isAimed
theorem dX5_breaksBelow_0 : decode cX5_breaksBelow 0 = .ok (.aload_n 3, 1) := by decide +kernel
theorem dX5_breaksBelow_1 : decode cX5_breaksBelow 1 = .ok (.bipush 8, 2) := by decide +kernel
theorem dX5_breaksBelow_3 : decode cX5_breaksBelow 3 = .ok (.iaload, 1) := by decide +kernel
theorem dX5_breaksBelow_4 : decode cX5_breaksBelow 4 = .ok (.ifCond .eq 7, 3) := by decide +kernel
theorem dX5_breaksBelow_7 : decode cX5_breaksBelow 7 = .ok (.iconst 1, 1) := by decide +kernel
theorem dX5_breaksBelow_8 : decode cX5_breaksBelow 8 = .ok (.goto 4, 3) := by decide +kernel
theorem dX5_breaksBelow_11 : decode cX5_breaksBelow 11 = .ok (.iconst 0, 1) := by decide +kernel
theorem dX5_breaksBelow_12 : decode cX5_breaksBelow 12 = .ok (.istore 5, 2) := by decide +kernel
theorem dX5_breaksBelow_14 : decode cX5_breaksBelow 14 = .ok (.iload_n 1, 1) := by decide +kernel
theorem dX5_breaksBelow_15 : decode cX5_breaksBelow 15 = .ok (.tableswitch 240 8 15 #[45, 54, 72, 94, 125, 156, 194, 221], 45) := by decide +kernel
theorem dX5_breaksBelow_60 : decode cX5_breaksBelow 60 = .ok (.aload_n 2, 1) := by decide +kernel
theorem dX5_breaksBelow_61 : decode cX5_breaksBelow 61 = .ok (.aload_n 3, 1) := by decide +kernel
theorem dX5_breaksBelow_62 : decode cX5_breaksBelow 62 = .ok (.bipush 7, 2) := by decide +kernel
theorem dX5_breaksBelow_64 : decode cX5_breaksBelow 64 = .ok (.iaload, 1) := by decide +kernel
theorem dX5_breaksBelow_65 : decode cX5_breaksBelow 65 = .ok (.invokestatic 100, 3) := by decide +kernel
theorem dX5_breaksBelow_68 : decode cX5_breaksBelow 68 = .ok (.ireturn, 1) := by decide +kernel
theorem dX5_breaksBelow_69 : decode cX5_breaksBelow 69 = .ok (.iload 5, 2) := by decide +kernel
theorem dX5_breaksBelow_71 : decode cX5_breaksBelow 71 = .ok (.ifCond .eq 14, 3) := by decide +kernel
theorem dX5_breaksBelow_74 : decode cX5_breaksBelow 74 = .ok (.aload_n 3, 1) := by decide +kernel
theorem dX5_breaksBelow_75 : decode cX5_breaksBelow 75 = .ok (.bipush 7, 2) := by decide +kernel
theorem dX5_breaksBelow_77 : decode cX5_breaksBelow 77 = .ok (.iaload, 1) := by decide +kernel
theorem dX5_breaksBelow_78 : decode cX5_breaksBelow 78 = .ok (.ifCond .ne 7, 3) := by decide +kernel
theorem dX5_breaksBelow_81 : decode cX5_breaksBelow 81 = .ok (.iconst 1, 1) := by decide +kernel
theorem dX5_breaksBelow_82 : decode cX5_breaksBelow 82 = .ok (.goto 4, 3) := by decide +kernel
theorem dX5_breaksBelow_85 : decode cX5_breaksBelow 85 = .ok (.iconst 0, 1) := by decide +kernel
theorem dX5_breaksBelow_86 : decode cX5_breaksBelow 86 = .ok (.ireturn, 1) := by decide +kernel
theorem dX5_breaksBelow_87 : decode cX5_breaksBelow 87 = .ok (.iload 5, 2) := by decide +kernel
theorem dX5_breaksBelow_89 : decode cX5_breaksBelow 89 = .ok (.ifCond .eq 18, 3) := by decide +kernel
theorem dX5_breaksBelow_92 : decode cX5_breaksBelow 92 = .ok (.bipush 7, 2) := by decide +kernel
theorem dX5_breaksBelow_94 : decode cX5_breaksBelow 94 = .ok (.aload_n 3, 1) := by decide +kernel
theorem dX5_breaksBelow_95 : decode cX5_breaksBelow 95 = .ok (.aload 4, 2) := by decide +kernel
theorem dX5_breaksBelow_97 : decode cX5_breaksBelow 97 = .ok (.invokestatic 90, 3) := by decide +kernel
theorem dX5_breaksBelow_100 : decode cX5_breaksBelow 100 = .ok (.ifCond .eq 7, 3) := by decide +kernel
theorem dX5_breaksBelow_103 : decode cX5_breaksBelow 103 = .ok (.iconst 1, 1) := by decide +kernel
theorem dX5_breaksBelow_104 : decode cX5_breaksBelow 104 = .ok (.goto 4, 3) := by decide +kernel
theorem dX5_breaksBelow_107 : decode cX5_breaksBelow 107 = .ok (.iconst 0, 1) := by decide +kernel
theorem dX5_breaksBelow_108 : decode cX5_breaksBelow 108 = .ok (.ireturn, 1) := by decide +kernel
theorem dX5_breaksBelow_109 : decode cX5_breaksBelow 109 = .ok (.aload 4, 2) := by decide +kernel
theorem dX5_breaksBelow_111 : decode cX5_breaksBelow 111 = .ok (.bipush 7, 2) := by decide +kernel
theorem dX5_breaksBelow_113 : decode cX5_breaksBelow 113 = .ok (.iaload, 1) := by decide +kernel
theorem dX5_breaksBelow_114 : decode cX5_breaksBelow 114 = .ok (.ifCond .eq 24, 3) := by decide +kernel
theorem dX5_breaksBelow_117 : decode cX5_breaksBelow 117 = .ok (.aload 4, 2) := by decide +kernel
theorem dX5_breaksBelow_119 : decode cX5_breaksBelow 119 = .ok (.bipush 8, 2) := by decide +kernel
theorem dX5_breaksBelow_121 : decode cX5_breaksBelow 121 = .ok (.iaload, 1) := by decide +kernel
theorem dX5_breaksBelow_122 : decode cX5_breaksBelow 122 = .ok (.ifCond .ne 16, 3) := by decide +kernel
theorem dX5_breaksBelow_125 : decode cX5_breaksBelow 125 = .ok (.aload_n 3, 1) := by decide +kernel
theorem dX5_breaksBelow_126 : decode cX5_breaksBelow 126 = .ok (.aload 4, 2) := by decide +kernel
theorem dX5_breaksBelow_128 : decode cX5_breaksBelow 128 = .ok (.invokestatic 104, 3) := by decide +kernel
theorem dX5_breaksBelow_131 : decode cX5_breaksBelow 131 = .ok (.ifCond .eq 7, 3) := by decide +kernel
theorem dX5_breaksBelow_134 : decode cX5_breaksBelow 134 = .ok (.iconst 1, 1) := by decide +kernel
theorem dX5_breaksBelow_135 : decode cX5_breaksBelow 135 = .ok (.goto 4, 3) := by decide +kernel
theorem dX5_breaksBelow_138 : decode cX5_breaksBelow 138 = .ok (.iconst 0, 1) := by decide +kernel
theorem dX5_breaksBelow_139 : decode cX5_breaksBelow 139 = .ok (.ireturn, 1) := by decide +kernel
theorem dX5_breaksBelow_140 : decode cX5_breaksBelow 140 = .ok (.aload 4, 2) := by decide +kernel
theorem dX5_breaksBelow_142 : decode cX5_breaksBelow 142 = .ok (.bipush 8, 2) := by decide +kernel
theorem dX5_breaksBelow_144 : decode cX5_breaksBelow 144 = .ok (.iaload, 1) := by decide +kernel
theorem dX5_breaksBelow_145 : decode cX5_breaksBelow 145 = .ok (.ifCond .eq 24, 3) := by decide +kernel
theorem dX5_breaksBelow_148 : decode cX5_breaksBelow 148 = .ok (.aload 4, 2) := by decide +kernel
theorem dX5_breaksBelow_150 : decode cX5_breaksBelow 150 = .ok (.bipush 12, 2) := by decide +kernel
theorem dX5_breaksBelow_152 : decode cX5_breaksBelow 152 = .ok (.iaload, 1) := by decide +kernel
theorem dX5_breaksBelow_153 : decode cX5_breaksBelow 153 = .ok (.ifCond .ne 16, 3) := by decide +kernel
theorem dX5_breaksBelow_156 : decode cX5_breaksBelow 156 = .ok (.aload_n 3, 1) := by decide +kernel
theorem dX5_breaksBelow_157 : decode cX5_breaksBelow 157 = .ok (.aload 4, 2) := by decide +kernel
theorem dX5_breaksBelow_159 : decode cX5_breaksBelow 159 = .ok (.invokestatic 104, 3) := by decide +kernel
theorem dX5_breaksBelow_162 : decode cX5_breaksBelow 162 = .ok (.ifCond .eq 7, 3) := by decide +kernel
theorem dX5_breaksBelow_165 : decode cX5_breaksBelow 165 = .ok (.iconst 1, 1) := by decide +kernel
theorem dX5_breaksBelow_166 : decode cX5_breaksBelow 166 = .ok (.goto 4, 3) := by decide +kernel
theorem dX5_breaksBelow_169 : decode cX5_breaksBelow 169 = .ok (.iconst 0, 1) := by decide +kernel
theorem dX5_breaksBelow_170 : decode cX5_breaksBelow 170 = .ok (.ireturn, 1) := by decide +kernel
theorem dX5_breaksBelow_171 : decode cX5_breaksBelow 171 = .ok (.iload 5, 2) := by decide +kernel
theorem dX5_breaksBelow_173 : decode cX5_breaksBelow 173 = .ok (.ifCond .eq 34, 3) := by decide +kernel
theorem dX5_breaksBelow_176 : decode cX5_breaksBelow 176 = .ok (.aload_n 3, 1) := by decide +kernel
theorem dX5_breaksBelow_177 : decode cX5_breaksBelow 177 = .ok (.bipush 7, 2) := by decide +kernel
theorem dX5_breaksBelow_179 : decode cX5_breaksBelow 179 = .ok (.iaload, 1) := by decide +kernel
theorem dX5_breaksBelow_180 : decode cX5_breaksBelow 180 = .ok (.ifCond .eq 27, 3) := by decide +kernel
theorem dX5_breaksBelow_183 : decode cX5_breaksBelow 183 = .ok (.bipush 7, 2) := by decide +kernel
theorem dX5_breaksBelow_185 : decode cX5_breaksBelow 185 = .ok (.aload_n 3, 1) := by decide +kernel
theorem dX5_breaksBelow_186 : decode cX5_breaksBelow 186 = .ok (.aload 4, 2) := by decide +kernel
theorem dX5_breaksBelow_188 : decode cX5_breaksBelow 188 = .ok (.invokestatic 90, 3) := by decide +kernel
theorem dX5_breaksBelow_191 : decode cX5_breaksBelow 191 = .ok (.ifCond .ne 16, 3) := by decide +kernel
theorem dX5_breaksBelow_194 : decode cX5_breaksBelow 194 = .ok (.aload_n 3, 1) := by decide +kernel
theorem dX5_breaksBelow_195 : decode cX5_breaksBelow 195 = .ok (.aload 4, 2) := by decide +kernel
theorem dX5_breaksBelow_197 : decode cX5_breaksBelow 197 = .ok (.invokestatic 107, 3) := by decide +kernel
theorem dX5_breaksBelow_200 : decode cX5_breaksBelow 200 = .ok (.ifCond .eq 7, 3) := by decide +kernel
theorem dX5_breaksBelow_203 : decode cX5_breaksBelow 203 = .ok (.iconst 1, 1) := by decide +kernel
theorem dX5_breaksBelow_204 : decode cX5_breaksBelow 204 = .ok (.goto 4, 3) := by decide +kernel
theorem dX5_breaksBelow_207 : decode cX5_breaksBelow 207 = .ok (.iconst 0, 1) := by decide +kernel
theorem dX5_breaksBelow_208 : decode cX5_breaksBelow 208 = .ok (.ireturn, 1) := by decide +kernel
theorem dX5_breaksBelow_209 : decode cX5_breaksBelow 209 = .ok (.aload 4, 2) := by decide +kernel
theorem dX5_breaksBelow_211 : decode cX5_breaksBelow 211 = .ok (.bipush 8, 2) := by decide +kernel
theorem dX5_breaksBelow_213 : decode cX5_breaksBelow 213 = .ok (.iaload, 1) := by decide +kernel
theorem dX5_breaksBelow_214 : decode cX5_breaksBelow 214 = .ok (.ifCond .eq 20, 3) := by decide +kernel
theorem dX5_breaksBelow_217 : decode cX5_breaksBelow 217 = .ok (.aload 4, 2) := by decide +kernel
theorem dX5_breaksBelow_219 : decode cX5_breaksBelow 219 = .ok (.bipush 12, 2) := by decide +kernel
theorem dX5_breaksBelow_221 : decode cX5_breaksBelow 221 = .ok (.iaload, 1) := by decide +kernel
theorem dX5_breaksBelow_222 : decode cX5_breaksBelow 222 = .ok (.ifCond .eq 12, 3) := by decide +kernel
theorem dX5_breaksBelow_225 : decode cX5_breaksBelow 225 = .ok (.iload 5, 2) := by decide +kernel
theorem dX5_breaksBelow_227 : decode cX5_breaksBelow 227 = .ok (.ifCond .eq 7, 3) := by decide +kernel
theorem dX5_breaksBelow_230 : decode cX5_breaksBelow 230 = .ok (.iconst 1, 1) := by decide +kernel
theorem dX5_breaksBelow_231 : decode cX5_breaksBelow 231 = .ok (.goto 4, 3) := by decide +kernel
theorem dX5_breaksBelow_234 : decode cX5_breaksBelow 234 = .ok (.iconst 0, 1) := by decide +kernel
theorem dX5_breaksBelow_235 : decode cX5_breaksBelow 235 = .ok (.ireturn, 1) := by decide +kernel
theorem dX5_breaksBelow_236 : decode cX5_breaksBelow 236 = .ok (.iload 5, 2) := by decide +kernel
theorem dX5_breaksBelow_238 : decode cX5_breaksBelow 238 = .ok (.ifCond .eq 15, 3) := by decide +kernel
theorem dX5_breaksBelow_241 : decode cX5_breaksBelow 241 = .ok (.aload_n 2, 1) := by decide +kernel
theorem dX5_breaksBelow_242 : decode cX5_breaksBelow 242 = .ok (.aload_n 3, 1) := by decide +kernel
theorem dX5_breaksBelow_243 : decode cX5_breaksBelow 243 = .ok (.invokestatic 110, 3) := by decide +kernel
theorem dX5_breaksBelow_246 : decode cX5_breaksBelow 246 = .ok (.ifCond .ne 7, 3) := by decide +kernel
theorem dX5_breaksBelow_249 : decode cX5_breaksBelow 249 = .ok (.iconst 1, 1) := by decide +kernel
theorem dX5_breaksBelow_250 : decode cX5_breaksBelow 250 = .ok (.goto 4, 3) := by decide +kernel
theorem dX5_breaksBelow_253 : decode cX5_breaksBelow 253 = .ok (.iconst 0, 1) := by decide +kernel
theorem dX5_breaksBelow_254 : decode cX5_breaksBelow 254 = .ok (.ireturn, 1) := by decide +kernel
theorem dX5_breaksBelow_255 : decode cX5_breaksBelow 255 = .ok (.iconst 0, 1) := by decide +kernel
theorem dX5_breaksBelow_256 : decode cX5_breaksBelow 256 = .ok (.ireturn, 1) := by decide +kernel
theorem dX5_changed_0 : decode cX5_changed 0 = .ok (.aload_n 1, 1) := by decide +kernel
theorem dX5_changed_1 : decode cX5_changed 1 = .ok (.iload_n 0, 1) := by decide +kernel
theorem dX5_changed_2 : decode cX5_changed 2 = .ok (.iaload, 1) := by decide +kernel
theorem dX5_changed_3 : decode cX5_changed 3 = .ok (.aload_n 2, 1) := by decide +kernel
theorem dX5_changed_4 : decode cX5_changed 4 = .ok (.iload_n 0, 1) := by decide +kernel
theorem dX5_changed_5 : decode cX5_changed 5 = .ok (.iaload, 1) := by decide +kernel
theorem dX5_changed_6 : decode cX5_changed 6 = .ok (.if_icmp .eq 7, 3) := by decide +kernel
theorem dX5_changed_9 : decode cX5_changed 9 = .ok (.iconst 1, 1) := by decide +kernel
theorem dX5_changed_10 : decode cX5_changed 10 = .ok (.goto 4, 3) := by decide +kernel
theorem dX5_changed_13 : decode cX5_changed 13 = .ok (.iconst 0, 1) := by decide +kernel
theorem dX5_changed_14 : decode cX5_changed 14 = .ok (.ireturn, 1) := by decide +kernel
set_option maxRecDepth 20000 in
theorem ggX5_leavesAddress_X9_isTransfer : GoodIn wsX5_leavesAddress wsX9_isTransfer := goodIn_r _ [4] (by decide +kernel) (by decide +kernel)
set_option maxRecDepth 20000 in
theorem gX5_leavesAddress_X9_isTransfer : GoodIn wsX5_leavesAddress (va_wsS RX5 60 yX9_isTransfer wsX9_isTransfer) := goodIn_app (goodIn_of _ (by decide +kernel)) ggX5_leavesAddress_X9_isTransfer
set_option maxRecDepth 20000 in
theorem ggX5_leavesAddress_X5_changed : GoodIn wsX5_leavesAddress wsX5_changed := goodIn_r _ [8] (by decide +kernel) (by decide +kernel)
set_option maxRecDepth 20000 in
theorem gX5_leavesAddress_X5_changed : GoodIn wsX5_leavesAddress (va_wsS RX5 90 yX5_changed wsX5_changed) := goodIn_app (goodIn_of _ (by decide +kernel)) ggX5_leavesAddress_X5_changed
theorem dX5_leavesAddress_0 : decode cX5_leavesAddress 0 = .ok (.aload_n 1, 1) := by decide +kernel
theorem dX5_leavesAddress_1 : decode cX5_leavesAddress 1 = .ok (.iconst 4, 1) := by decide +kernel
theorem dX5_leavesAddress_2 : decode cX5_leavesAddress 2 = .ok (.iaload, 1) := by decide +kernel
theorem dX5_leavesAddress_3 : decode cX5_leavesAddress 3 = .ok (.ifCond .ne 49, 3) := by decide +kernel
theorem dX5_leavesAddress_6 : decode cX5_leavesAddress 6 = .ok (.aload_n 1, 1) := by decide +kernel
theorem dX5_leavesAddress_7 : decode cX5_leavesAddress 7 = .ok (.iconst 5, 1) := by decide +kernel
theorem dX5_leavesAddress_8 : decode cX5_leavesAddress 8 = .ok (.iaload, 1) := by decide +kernel
theorem dX5_leavesAddress_9 : decode cX5_leavesAddress 9 = .ok (.ifCond .ne 43, 3) := by decide +kernel
theorem dX5_leavesAddress_12 : decode cX5_leavesAddress 12 = .ok (.aload_n 1, 1) := by decide +kernel
theorem dX5_leavesAddress_13 : decode cX5_leavesAddress 13 = .ok (.iconst 2, 1) := by decide +kernel
theorem dX5_leavesAddress_14 : decode cX5_leavesAddress 14 = .ok (.iaload, 1) := by decide +kernel
theorem dX5_leavesAddress_15 : decode cX5_leavesAddress 15 = .ok (.invokestatic 60, 3) := by decide +kernel
theorem dX5_leavesAddress_18 : decode cX5_leavesAddress 18 = .ok (.ifCond .eq 34, 3) := by decide +kernel
theorem dX5_leavesAddress_21 : decode cX5_leavesAddress 21 = .ok (.iconst 0, 1) := by decide +kernel
theorem dX5_leavesAddress_22 : decode cX5_leavesAddress 22 = .ok (.aload_n 0, 1) := by decide +kernel
theorem dX5_leavesAddress_23 : decode cX5_leavesAddress 23 = .ok (.aload_n 1, 1) := by decide +kernel
theorem dX5_leavesAddress_24 : decode cX5_leavesAddress 24 = .ok (.invokestatic 90, 3) := by decide +kernel
theorem dX5_leavesAddress_27 : decode cX5_leavesAddress 27 = .ok (.ifCond .ne 21, 3) := by decide +kernel
theorem dX5_leavesAddress_30 : decode cX5_leavesAddress 30 = .ok (.iconst 1, 1) := by decide +kernel
theorem dX5_leavesAddress_31 : decode cX5_leavesAddress 31 = .ok (.aload_n 0, 1) := by decide +kernel
theorem dX5_leavesAddress_32 : decode cX5_leavesAddress 32 = .ok (.aload_n 1, 1) := by decide +kernel
theorem dX5_leavesAddress_33 : decode cX5_leavesAddress 33 = .ok (.invokestatic 90, 3) := by decide +kernel
theorem dX5_leavesAddress_36 : decode cX5_leavesAddress 36 = .ok (.ifCond .ne 12, 3) := by decide +kernel
theorem dX5_leavesAddress_39 : decode cX5_leavesAddress 39 = .ok (.iconst 2, 1) := by decide +kernel
theorem dX5_leavesAddress_40 : decode cX5_leavesAddress 40 = .ok (.aload_n 0, 1) := by decide +kernel
theorem dX5_leavesAddress_41 : decode cX5_leavesAddress 41 = .ok (.aload_n 1, 1) := by decide +kernel
theorem dX5_leavesAddress_42 : decode cX5_leavesAddress 42 = .ok (.invokestatic 90, 3) := by decide +kernel
theorem dX5_leavesAddress_45 : decode cX5_leavesAddress 45 = .ok (.ifCond .eq 7, 3) := by decide +kernel
theorem dX5_leavesAddress_48 : decode cX5_leavesAddress 48 = .ok (.iconst 1, 1) := by decide +kernel
theorem dX5_leavesAddress_49 : decode cX5_leavesAddress 49 = .ok (.goto 4, 3) := by decide +kernel
theorem dX5_leavesAddress_52 : decode cX5_leavesAddress 52 = .ok (.iconst 0, 1) := by decide +kernel
theorem dX5_leavesAddress_53 : decode cX5_leavesAddress 53 = .ok (.ireturn, 1) := by decide +kernel
set_option maxRecDepth 20000 in
theorem ggX5_followsBadly_X9_isTransfer : GoodIn wsX5_followsBadly wsX9_isTransfer := goodIn_r _ [4] (by decide +kernel) (by decide +kernel)
set_option maxRecDepth 20000 in
theorem gX5_followsBadly_X9_isTransfer : GoodIn wsX5_followsBadly (va_wsS RX5 60 yX9_isTransfer wsX9_isTransfer) := goodIn_app (goodIn_of _ (by decide +kernel)) ggX5_followsBadly_X9_isTransfer
set_option maxRecDepth 20000 in
theorem ggX5_followsBadly_X5_changed : GoodIn wsX5_followsBadly wsX5_changed := goodIn_r _ [8] (by decide +kernel) (by decide +kernel)
set_option maxRecDepth 20000 in
theorem gX5_followsBadly_X5_changed : GoodIn wsX5_followsBadly (va_wsS RX5 90 yX5_changed wsX5_changed) := goodIn_app (goodIn_of _ (by decide +kernel)) ggX5_followsBadly_X5_changed
theorem dX5_followsBadly_0 : decode cX5_followsBadly 0 = .ok (.aload_n 0, 1) := by decide +kernel
theorem dX5_followsBadly_1 : decode cX5_followsBadly 1 = .ok (.iconst 2, 1) := by decide +kernel
theorem dX5_followsBadly_2 : decode cX5_followsBadly 2 = .ok (.iaload, 1) := by decide +kernel
theorem dX5_followsBadly_3 : decode cX5_followsBadly 3 = .ok (.iconst 3, 1) := by decide +kernel
theorem dX5_followsBadly_4 : decode cX5_followsBadly 4 = .ok (.if_icmp .ne 42, 3) := by decide +kernel
theorem dX5_followsBadly_7 : decode cX5_followsBadly 7 = .ok (.aload_n 1, 1) := by decide +kernel
theorem dX5_followsBadly_8 : decode cX5_followsBadly 8 = .ok (.iconst 4, 1) := by decide +kernel
theorem dX5_followsBadly_9 : decode cX5_followsBadly 9 = .ok (.iaload, 1) := by decide +kernel
theorem dX5_followsBadly_10 : decode cX5_followsBadly 10 = .ok (.ifCond .eq 36, 3) := by decide +kernel
theorem dX5_followsBadly_13 : decode cX5_followsBadly 13 = .ok (.aload_n 1, 1) := by decide +kernel
theorem dX5_followsBadly_14 : decode cX5_followsBadly 14 = .ok (.iconst 2, 1) := by decide +kernel
theorem dX5_followsBadly_15 : decode cX5_followsBadly 15 = .ok (.iaload, 1) := by decide +kernel
theorem dX5_followsBadly_16 : decode cX5_followsBadly 16 = .ok (.invokestatic 60, 3) := by decide +kernel
theorem dX5_followsBadly_19 : decode cX5_followsBadly 19 = .ok (.ifCond .eq 23, 3) := by decide +kernel
theorem dX5_followsBadly_22 : decode cX5_followsBadly 22 = .ok (.aload_n 0, 1) := by decide +kernel
theorem dX5_followsBadly_23 : decode cX5_followsBadly 23 = .ok (.iconst 0, 1) := by decide +kernel
theorem dX5_followsBadly_24 : decode cX5_followsBadly 24 = .ok (.iaload, 1) := by decide +kernel
theorem dX5_followsBadly_25 : decode cX5_followsBadly 25 = .ok (.aload_n 1, 1) := by decide +kernel
theorem dX5_followsBadly_26 : decode cX5_followsBadly 26 = .ok (.iconst 0, 1) := by decide +kernel
theorem dX5_followsBadly_27 : decode cX5_followsBadly 27 = .ok (.iaload, 1) := by decide +kernel
theorem dX5_followsBadly_28 : decode cX5_followsBadly 28 = .ok (.iconst 4, 1) := by decide +kernel
theorem dX5_followsBadly_29 : decode cX5_followsBadly 29 = .ok (.iadd, 1) := by decide +kernel
theorem dX5_followsBadly_30 : decode cX5_followsBadly 30 = .ok (.if_icmp .ne 12, 3) := by decide +kernel
theorem dX5_followsBadly_33 : decode cX5_followsBadly 33 = .ok (.iconst 1, 1) := by decide +kernel
theorem dX5_followsBadly_34 : decode cX5_followsBadly 34 = .ok (.aload_n 0, 1) := by decide +kernel
theorem dX5_followsBadly_35 : decode cX5_followsBadly 35 = .ok (.aload_n 1, 1) := by decide +kernel
theorem dX5_followsBadly_36 : decode cX5_followsBadly 36 = .ok (.invokestatic 90, 3) := by decide +kernel
theorem dX5_followsBadly_39 : decode cX5_followsBadly 39 = .ok (.ifCond .eq 7, 3) := by decide +kernel
theorem dX5_followsBadly_42 : decode cX5_followsBadly 42 = .ok (.iconst 1, 1) := by decide +kernel
theorem dX5_followsBadly_43 : decode cX5_followsBadly 43 = .ok (.goto 4, 3) := by decide +kernel
theorem dX5_followsBadly_46 : decode cX5_followsBadly 46 = .ok (.iconst 0, 1) := by decide +kernel
theorem dX5_followsBadly_47 : decode cX5_followsBadly 47 = .ok (.ireturn, 1) := by decide +kernel
theorem dX5_isFirstOfTwo_0 : decode cX5_isFirstOfTwo 0 = .ok (.aload_n 0, 1) := by decide +kernel
theorem dX5_isFirstOfTwo_1 : decode cX5_isFirstOfTwo 1 = .ok (.iconst 5, 1) := by decide +kernel
theorem dX5_isFirstOfTwo_2 : decode cX5_isFirstOfTwo 2 = .ok (.iaload, 1) := by decide +kernel
theorem dX5_isFirstOfTwo_3 : decode cX5_isFirstOfTwo 3 = .ok (.ifCond .eq 13, 3) := by decide +kernel
theorem dX5_isFirstOfTwo_6 : decode cX5_isFirstOfTwo 6 = .ok (.aload_n 0, 1) := by decide +kernel
theorem dX5_isFirstOfTwo_7 : decode cX5_isFirstOfTwo 7 = .ok (.iconst 4, 1) := by decide +kernel
theorem dX5_isFirstOfTwo_8 : decode cX5_isFirstOfTwo 8 = .ok (.iaload, 1) := by decide +kernel
theorem dX5_isFirstOfTwo_9 : decode cX5_isFirstOfTwo 9 = .ok (.ifCond .ne 7, 3) := by decide +kernel
theorem dX5_isFirstOfTwo_12 : decode cX5_isFirstOfTwo 12 = .ok (.iconst 1, 1) := by decide +kernel
theorem dX5_isFirstOfTwo_13 : decode cX5_isFirstOfTwo 13 = .ok (.goto 4, 3) := by decide +kernel
theorem dX5_isFirstOfTwo_16 : decode cX5_isFirstOfTwo 16 = .ok (.iconst 0, 1) := by decide +kernel
theorem dX5_isFirstOfTwo_17 : decode cX5_isFirstOfTwo 17 = .ok (.ireturn, 1) := by decide +kernel
theorem dX5_isSecondOfTwo_0 : decode cX5_isSecondOfTwo 0 = .ok (.aload_n 0, 1) := by decide +kernel
theorem dX5_isSecondOfTwo_1 : decode cX5_isSecondOfTwo 1 = .ok (.iconst 5, 1) := by decide +kernel
theorem dX5_isSecondOfTwo_2 : decode cX5_isSecondOfTwo 2 = .ok (.iaload, 1) := by decide +kernel
theorem dX5_isSecondOfTwo_3 : decode cX5_isSecondOfTwo 3 = .ok (.ifCond .eq 13, 3) := by decide +kernel
theorem dX5_isSecondOfTwo_6 : decode cX5_isSecondOfTwo 6 = .ok (.aload_n 0, 1) := by decide +kernel
theorem dX5_isSecondOfTwo_7 : decode cX5_isSecondOfTwo 7 = .ok (.iconst 4, 1) := by decide +kernel
theorem dX5_isSecondOfTwo_8 : decode cX5_isSecondOfTwo 8 = .ok (.iaload, 1) := by decide +kernel
theorem dX5_isSecondOfTwo_9 : decode cX5_isSecondOfTwo 9 = .ok (.ifCond .eq 7, 3) := by decide +kernel
theorem dX5_isSecondOfTwo_12 : decode cX5_isSecondOfTwo 12 = .ok (.iconst 1, 1) := by decide +kernel
theorem dX5_isSecondOfTwo_13 : decode cX5_isSecondOfTwo 13 = .ok (.goto 4, 3) := by decide +kernel
theorem dX5_isSecondOfTwo_16 : decode cX5_isSecondOfTwo 16 = .ok (.iconst 0, 1) := by decide +kernel
theorem dX5_isSecondOfTwo_17 : decode cX5_isSecondOfTwo 17 = .ok (.ireturn, 1) := by decide +kernel
set_option maxRecDepth 20000 in
theorem ggX5_selectsBadly_J6_bitCount_0f7a4 : GoodIn wsX5_selectsBadly wsJ6_bitCount_0f7a4 := goodIn_r _ [5, 6, 7, 8] (by decide +kernel) (by decide +kernel)
set_option maxRecDepth 20000 in
theorem gX5_selectsBadly_J6_bitCount_0f7a4 : GoodIn wsX5_selectsBadly (va_wsS RX5 116 yJ6_bitCount_0f7a4 wsJ6_bitCount_0f7a4) := goodIn_app (goodIn_of _ (by decide +kernel)) ggX5_selectsBadly_J6_bitCount_0f7a4
theorem dX5_selectsBadly_0 : decode cX5_selectsBadly 0 = .ok (.iload_n 1, 1) := by decide +kernel
theorem dX5_selectsBadly_1 : decode cX5_selectsBadly 1 = .ok (.invokestatic 116, 3) := by decide +kernel
theorem dX5_selectsBadly_4 : decode cX5_selectsBadly 4 = .ok (.iconst 1, 1) := by decide +kernel
theorem dX5_selectsBadly_5 : decode cX5_selectsBadly 5 = .ok (.if_icmp .gt 12, 3) := by decide +kernel
theorem dX5_selectsBadly_8 : decode cX5_selectsBadly 8 = .ok (.iload_n 1, 1) := by decide +kernel
theorem dX5_selectsBadly_9 : decode cX5_selectsBadly 9 = .ok (.aload_n 0, 1) := by decide +kernel
theorem dX5_selectsBadly_10 : decode cX5_selectsBadly 10 = .ok (.getfield 122, 3) := by decide +kernel
theorem dX5_selectsBadly_13 : decode cX5_selectsBadly 13 = .ok (.iushr, 1) := by decide +kernel
theorem dX5_selectsBadly_14 : decode cX5_selectsBadly 14 = .ok (.ifCond .eq 7, 3) := by decide +kernel
theorem dX5_selectsBadly_17 : decode cX5_selectsBadly 17 = .ok (.iconst 1, 1) := by decide +kernel
theorem dX5_selectsBadly_18 : decode cX5_selectsBadly 18 = .ok (.goto 4, 3) := by decide +kernel
theorem dX5_selectsBadly_21 : decode cX5_selectsBadly 21 = .ok (.iconst 0, 1) := by decide +kernel
theorem dX5_selectsBadly_22 : decode cX5_selectsBadly 22 = .ok (.ireturn, 1) := by decide +kernel
set_option maxRecDepth 20000 in
theorem ggX5_breaksOff_X5_changed : GoodIn wsX5_breaksOff wsX5_changed := goodIn_r _ [4] (by decide +kernel) (by decide +kernel)
set_option maxRecDepth 20000 in
theorem gX5_breaksOff_X5_changed : GoodIn wsX5_breaksOff (va_wsS RX5 90 yX5_changed wsX5_changed) := goodIn_app (goodIn_of _ (by decide +kernel)) ggX5_breaksOff_X5_changed
theorem dX5_breaksOff_0 : decode cX5_breaksOff 0 = .ok (.bipush 7, 2) := by decide +kernel
theorem dX5_breaksOff_2 : decode cX5_breaksOff 2 = .ok (.aload_n 0, 1) := by decide +kernel
theorem dX5_breaksOff_3 : decode cX5_breaksOff 3 = .ok (.aload_n 1, 1) := by decide +kernel
theorem dX5_breaksOff_4 : decode cX5_breaksOff 4 = .ok (.invokestatic 90, 3) := by decide +kernel
theorem dX5_breaksOff_7 : decode cX5_breaksOff 7 = .ok (.ifCond .ne 10, 3) := by decide +kernel
theorem dX5_breaksOff_10 : decode cX5_breaksOff 10 = .ok (.aload_n 0, 1) := by decide +kernel
theorem dX5_breaksOff_11 : decode cX5_breaksOff 11 = .ok (.bipush 8, 2) := by decide +kernel
theorem dX5_breaksOff_13 : decode cX5_breaksOff 13 = .ok (.iaload, 1) := by decide +kernel
theorem dX5_breaksOff_14 : decode cX5_breaksOff 14 = .ok (.ifCond .ne 7, 3) := by decide +kernel
theorem dX5_breaksOff_17 : decode cX5_breaksOff 17 = .ok (.iconst 1, 1) := by decide +kernel
theorem dX5_breaksOff_18 : decode cX5_breaksOff 18 = .ok (.goto 4, 3) := by decide +kernel
theorem dX5_breaksOff_21 : decode cX5_breaksOff 21 = .ok (.iconst 0, 1) := by decide +kernel
theorem dX5_breaksOff_22 : decode cX5_breaksOff 22 = .ok (.ireturn, 1) := by decide +kernel
set_option maxRecDepth 20000 in
theorem ggX5_changesAct_X5_changed : GoodIn wsX5_changesAct wsX5_changed := goodIn_r _ [4] (by decide +kernel) (by decide +kernel)
set_option maxRecDepth 20000 in
theorem gX5_changesAct_X5_changed : GoodIn wsX5_changesAct (va_wsS RX5 90 yX5_changed wsX5_changed) := goodIn_app (goodIn_of _ (by decide +kernel)) ggX5_changesAct_X5_changed
theorem dX5_changesAct_0 : decode cX5_changesAct 0 = .ok (.bipush 9, 2) := by decide +kernel
theorem dX5_changesAct_2 : decode cX5_changesAct 2 = .ok (.aload_n 0, 1) := by decide +kernel
theorem dX5_changesAct_3 : decode cX5_changesAct 3 = .ok (.aload_n 1, 1) := by decide +kernel
theorem dX5_changesAct_4 : decode cX5_changesAct 4 = .ok (.invokestatic 90, 3) := by decide +kernel
theorem dX5_changesAct_7 : decode cX5_changesAct 7 = .ok (.ifCond .ne 30, 3) := by decide +kernel
theorem dX5_changesAct_10 : decode cX5_changesAct 10 = .ok (.bipush 10, 2) := by decide +kernel
theorem dX5_changesAct_12 : decode cX5_changesAct 12 = .ok (.aload_n 0, 1) := by decide +kernel
theorem dX5_changesAct_13 : decode cX5_changesAct 13 = .ok (.aload_n 1, 1) := by decide +kernel
theorem dX5_changesAct_14 : decode cX5_changesAct 14 = .ok (.invokestatic 90, 3) := by decide +kernel
theorem dX5_changesAct_17 : decode cX5_changesAct 17 = .ok (.ifCond .ne 20, 3) := by decide +kernel
theorem dX5_changesAct_20 : decode cX5_changesAct 20 = .ok (.aload_n 0, 1) := by decide +kernel
theorem dX5_changesAct_21 : decode cX5_changesAct 21 = .ok (.bipush 10, 2) := by decide +kernel
theorem dX5_changesAct_23 : decode cX5_changesAct 23 = .ok (.iaload, 1) := by decide +kernel
theorem dX5_changesAct_24 : decode cX5_changesAct 24 = .ok (.ifCond .eq 17, 3) := by decide +kernel
theorem dX5_changesAct_27 : decode cX5_changesAct 27 = .ok (.bipush 11, 2) := by decide +kernel
theorem dX5_changesAct_29 : decode cX5_changesAct 29 = .ok (.aload_n 0, 1) := by decide +kernel
theorem dX5_changesAct_30 : decode cX5_changesAct 30 = .ok (.aload_n 1, 1) := by decide +kernel
theorem dX5_changesAct_31 : decode cX5_changesAct 31 = .ok (.invokestatic 90, 3) := by decide +kernel
theorem dX5_changesAct_34 : decode cX5_changesAct 34 = .ok (.ifCond .eq 7, 3) := by decide +kernel
theorem dX5_changesAct_37 : decode cX5_changesAct 37 = .ok (.iconst 1, 1) := by decide +kernel
theorem dX5_changesAct_38 : decode cX5_changesAct 38 = .ok (.goto 4, 3) := by decide +kernel
theorem dX5_changesAct_41 : decode cX5_changesAct 41 = .ok (.iconst 0, 1) := by decide +kernel
theorem dX5_changesAct_42 : decode cX5_changesAct 42 = .ok (.ireturn, 1) := by decide +kernel
set_option maxRecDepth 20000 in
theorem ggX5_isAimed_X6_slaveAt : GoodIn wsX5_isAimed wsX6_slaveAt := goodIn_r _ [5, 6, 7, 8, 9, 4, 10, 11, 12, 13, 14, 15, 16, 17, 18, 19, 20, 21, 22, 23, 24, 25] (by decide +kernel) (by decide +kernel)
set_option maxRecDepth 20000 in
theorem gX5_isAimed_X6_slaveAt : GoodIn wsX5_isAimed (wsV RX5 125 RX6 yX6_slaveAt wsX6_slaveAt) := goodIn_app (goodIn_of _ (by decide +kernel)) ggX5_isAimed_X6_slaveAt
theorem dX5_isAimed_0 : decode cX5_isAimed 0 = .ok (.aload_n 0, 1) := by decide +kernel
theorem dX5_isAimed_1 : decode cX5_isAimed 1 = .ok (.aload_n 1, 1) := by decide +kernel
theorem dX5_isAimed_2 : decode cX5_isAimed 2 = .ok (.bipush 9, 2) := by decide +kernel
theorem dX5_isAimed_4 : decode cX5_isAimed 4 = .ok (.iaload, 1) := by decide +kernel
theorem dX5_isAimed_5 : decode cX5_isAimed 5 = .ok (.invokevirtual 125, 3) := by decide +kernel
theorem dX5_isAimed_8 : decode cX5_isAimed 8 = .ok (.istore_n 2, 1) := by decide +kernel
theorem dX5_isAimed_9 : decode cX5_isAimed 9 = .ok (.iload_n 2, 1) := by decide +kernel
theorem dX5_isAimed_10 : decode cX5_isAimed 10 = .ok (.ifCond .lt 18, 3) := by decide +kernel
theorem dX5_isAimed_13 : decode cX5_isAimed 13 = .ok (.aload_n 1, 1) := by decide +kernel
theorem dX5_isAimed_14 : decode cX5_isAimed 14 = .ok (.bipush 7, 2) := by decide +kernel
theorem dX5_isAimed_16 : decode cX5_isAimed 16 = .ok (.iaload, 1) := by decide +kernel
theorem dX5_isAimed_17 : decode cX5_isAimed 17 = .ok (.iload_n 2, 1) := by decide +kernel
theorem dX5_isAimed_18 : decode cX5_isAimed 18 = .ok (.ishr, 1) := by decide +kernel
theorem dX5_isAimed_19 : decode cX5_isAimed 19 = .ok (.iconst 1, 1) := by decide +kernel
theorem dX5_isAimed_20 : decode cX5_isAimed 20 = .ok (.iand, 1) := by decide +kernel
theorem dX5_isAimed_21 : decode cX5_isAimed 21 = .ok (.ifCond .eq 7, 3) := by decide +kernel
theorem dX5_isAimed_24 : decode cX5_isAimed 24 = .ok (.iconst 1, 1) := by decide +kernel
theorem dX5_isAimed_25 : decode cX5_isAimed 25 = .ok (.goto 4, 3) := by decide +kernel
theorem dX5_isAimed_28 : decode cX5_isAimed 28 = .ok (.iconst 0, 1) := by decide +kernel
theorem dX5_isAimed_29 : decode cX5_isAimed 29 = .ok (.ireturn, 1) := by decide +kernel
theorem dX6_init_0 : decode cX6_init 0 = .ok (.aload_n 0, 1) := by decide +kernel
theorem dX6_init_1 : decode cX6_init 1 = .ok (.invokespecial 3, 3) := by decide +kernel
theorem dX6_init_4 : decode cX6_init 4 = .ok (.aload_n 0, 1) := by decide +kernel
theorem dX6_init_5 : decode cX6_init 5 = .ok (.bipush 8, 2) := by decide +kernel
theorem dX6_init_7 : decode cX6_init 7 = .ok (.newarray .int, 2) := by decide +kernel
theorem dX6_init_9 : decode cX6_init 9 = .ok (.putfield 11, 3) := by decide +kernel
theorem dX6_init_12 : decode cX6_init 12 = .ok (.aload_n 0, 1) := by decide +kernel
theorem dX6_init_13 : decode cX6_init 13 = .ok (.bipush 8, 2) := by decide +kernel
theorem dX6_init_15 : decode cX6_init 15 = .ok (.newarray .int, 2) := by decide +kernel
theorem dX6_init_17 : decode cX6_init 17 = .ok (.putfield 15, 3) := by decide +kernel
theorem dX6_init_20 : decode cX6_init 20 = .ok (.aload_n 0, 1) := by decide +kernel
theorem dX6_init_21 : decode cX6_init 21 = .ok (.bipush 8, 2) := by decide +kernel
theorem dX6_init_23 : decode cX6_init 23 = .ok (.newarray .int, 2) := by decide +kernel
theorem dX6_init_25 : decode cX6_init 25 = .ok (.putfield 18, 3) := by decide +kernel
theorem dX6_init_28 : decode cX6_init 28 = .ok (.aload_n 0, 1) := by decide +kernel
theorem dX6_init_29 : decode cX6_init 29 = .ok (.bipush 8, 2) := by decide +kernel
theorem dX6_init_31 : decode cX6_init 31 = .ok (.newarray .boolean, 2) := by decide +kernel
theorem dX6_init_33 : decode cX6_init 33 = .ok (.putfield 21, 3) := by decide +kernel
theorem dX6_init_36 : decode cX6_init 36 = .ok (.aload_n 0, 1) := by decide +kernel
theorem dX6_init_37 : decode cX6_init 37 = .ok (.bipush 48, 2) := by decide +kernel
theorem dX6_init_39 : decode cX6_init 39 = .ok (.newarray .int, 2) := by decide +kernel
theorem dX6_init_41 : decode cX6_init 41 = .ok (.putfield 25, 3) := by decide +kernel
theorem dX6_init_44 : decode cX6_init 44 = .ok (.aload_n 0, 1) := by decide +kernel
theorem dX6_init_45 : decode cX6_init 45 = .ok (.bipush 48, 2) := by decide +kernel
theorem dX6_init_47 : decode cX6_init 47 = .ok (.newarray .int, 2) := by decide +kernel
theorem dX6_init_49 : decode cX6_init 49 = .ok (.putfield 28, 3) := by decide +kernel
theorem dX6_init_52 : decode cX6_init 52 = .ok (.aload_n 0, 1) := by decide +kernel
theorem dX6_init_53 : decode cX6_init 53 = .ok (.bipush 48, 2) := by decide +kernel
theorem dX6_init_55 : decode cX6_init 55 = .ok (.newarray .int, 2) := by decide +kernel
theorem dX6_init_57 : decode cX6_init 57 = .ok (.putfield 31, 3) := by decide +kernel
theorem dX6_init_60 : decode cX6_init 60 = .ok (.aload_n 0, 1) := by decide +kernel
theorem dX6_init_61 : decode cX6_init 61 = .ok (.bipush 48, 2) := by decide +kernel
theorem dX6_init_63 : decode cX6_init 63 = .ok (.newarray .int, 2) := by decide +kernel
theorem dX6_init_65 : decode cX6_init 65 = .ok (.putfield 34, 3) := by decide +kernel
theorem dX6_init_68 : decode cX6_init 68 = .ok (.aload_n 0, 1) := by decide +kernel
theorem dX6_init_69 : decode cX6_init 69 = .ok (.bipush 32, 2) := by decide +kernel
theorem dX6_init_71 : decode cX6_init 71 = .ok (.putfield 37, 3) := by decide +kernel
theorem dX6_init_74 : decode cX6_init 74 = .ok (.return_, 1) := by decide +kernel
theorem dX6_isWord_0 : decode cX6_isWord 0 = .ok (.iload_n 0, 1) := by decide +kernel
theorem dX6_isWord_1 : decode cX6_isWord 1 = .ok (.ifCond .lt 19, 3) := by decide +kernel
theorem dX6_isWord_4 : decode cX6_isWord 4 = .ok (.iload_n 0, 1) := by decide +kernel
theorem dX6_isWord_5 : decode cX6_isWord 5 = .ok (.ldc 41, 2) := by decide +kernel
theorem dX6_isWord_7 : decode cX6_isWord 7 = .ok (.if_icmp .gt 13, 3) := by decide +kernel
theorem dX6_isWord_10 : decode cX6_isWord 10 = .ok (.iload_n 0, 1) := by decide +kernel
theorem dX6_isWord_11 : decode cX6_isWord 11 = .ok (.iconst 4, 1) := by decide +kernel
theorem dX6_isWord_12 : decode cX6_isWord 12 = .ok (.irem, 1) := by decide +kernel
theorem dX6_isWord_13 : decode cX6_isWord 13 = .ok (.ifCond .ne 7, 3) := by decide +kernel
theorem dX6_isWord_16 : decode cX6_isWord 16 = .ok (.iconst 1, 1) := by decide +kernel
theorem dX6_isWord_17 : decode cX6_isWord 17 = .ok (.goto 4, 3) := by decide +kernel
theorem dX6_isWord_20 : decode cX6_isWord 20 = .ok (.iconst 0, 1) := by decide +kernel
theorem dX6_isWord_21 : decode cX6_isWord 21 = .ok (.ireturn, 1) := by decide +kernel
theorem dX6_isGuardValue_0 : decode cX6_isGuardValue 0 = .ok (.iload_n 0, 1) := by decide +kernel
theorem dX6_isGuardValue_1 : decode cX6_isGuardValue 1 = .ok (.ifCond .eq 8, 3) := by decide +kernel
theorem dX6_isGuardValue_4 : decode cX6_isGuardValue 4 = .ok (.iload_n 0, 1) := by decide +kernel
theorem dX6_isGuardValue_5 : decode cX6_isGuardValue 5 = .ok (.iconst 1, 1) := by decide +kernel
theorem dX6_isGuardValue_6 : decode cX6_isGuardValue 6 = .ok (.if_icmp .ne 7, 3) := by decide +kernel
theorem dX6_isGuardValue_9 : decode cX6_isGuardValue 9 = .ok (.iconst 1, 1) := by decide +kernel
theorem dX6_isGuardValue_10 : decode cX6_isGuardValue 10 = .ok (.goto 4, 3) := by decide +kernel
theorem dX6_isGuardValue_13 : decode cX6_isGuardValue 13 = .ok (.iconst 0, 1) := by decide +kernel
theorem dX6_isGuardValue_14 : decode cX6_isGuardValue 14 = .ok (.ireturn, 1) := by decide +kernel
theorem dX6_meets_0 : decode cX6_meets 0 = .ok (.iconst 0, 1) := by decide +kernel
theorem dX6_meets_1 : decode cX6_meets 1 = .ok (.istore_n 3, 1) := by decide +kernel
theorem dX6_meets_2 : decode cX6_meets 2 = .ok (.iload_n 3, 1) := by decide +kernel
theorem dX6_meets_3 : decode cX6_meets 3 = .ok (.aload_n 0, 1) := by decide +kernel
theorem dX6_meets_4 : decode cX6_meets 4 = .ok (.getfield 42, 3) := by decide +kernel
theorem dX6_meets_7 : decode cX6_meets 7 = .ok (.if_icmp .ge 31, 3) := by decide +kernel
theorem dX6_meets_10 : decode cX6_meets 10 = .ok (.iload_n 1, 1) := by decide +kernel
theorem dX6_meets_11 : decode cX6_meets 11 = .ok (.aload_n 0, 1) := by decide +kernel
theorem dX6_meets_12 : decode cX6_meets 12 = .ok (.getfield 15, 3) := by decide +kernel
theorem dX6_meets_15 : decode cX6_meets 15 = .ok (.iload_n 3, 1) := by decide +kernel
theorem dX6_meets_16 : decode cX6_meets 16 = .ok (.iaload, 1) := by decide +kernel
theorem dX6_meets_17 : decode cX6_meets 17 = .ok (.if_icmp .gt 15, 3) := by decide +kernel
theorem dX6_meets_20 : decode cX6_meets 20 = .ok (.aload_n 0, 1) := by decide +kernel
theorem dX6_meets_21 : decode cX6_meets 21 = .ok (.getfield 11, 3) := by decide +kernel
theorem dX6_meets_24 : decode cX6_meets 24 = .ok (.iload_n 3, 1) := by decide +kernel
theorem dX6_meets_25 : decode cX6_meets 25 = .ok (.iaload, 1) := by decide +kernel
theorem dX6_meets_26 : decode cX6_meets 26 = .ok (.iload_n 2, 1) := by decide +kernel
theorem dX6_meets_27 : decode cX6_meets 27 = .ok (.if_icmp .gt 5, 3) := by decide +kernel
theorem dX6_meets_30 : decode cX6_meets 30 = .ok (.iconst 1, 1) := by decide +kernel
theorem dX6_meets_31 : decode cX6_meets 31 = .ok (.ireturn, 1) := by decide +kernel
theorem dX6_meets_32 : decode cX6_meets 32 = .ok (.iinc 3 1, 3) := by decide +kernel
theorem dX6_meets_35 : decode cX6_meets 35 = .ok (.goto (-33), 3) := by decide +kernel
theorem dX6_meets_38 : decode cX6_meets 38 = .ok (.iconst 0, 1) := by decide +kernel
theorem dX6_meets_39 : decode cX6_meets 39 = .ok (.ireturn, 1) := by decide +kernel
theorem dX6_addSlave_0 : decode cX6_addSlave 0 = .ok (.aload_n 0, 1) := by decide +kernel
theorem dX6_addSlave_1 : decode cX6_addSlave 1 = .ok (.getfield 42, 3) := by decide +kernel
theorem dX6_addSlave_4 : decode cX6_addSlave 4 = .ok (.bipush 8, 2) := by decide +kernel
theorem dX6_addSlave_6 : decode cX6_addSlave 6 = .ok (.if_icmp .lt 6, 3) := by decide +kernel
theorem dX6_addSlave_9 : decode cX6_addSlave 9 = .ok (.bipush (-4), 2) := by decide +kernel
theorem dX6_addSlave_11 : decode cX6_addSlave 11 = .ok (.ireturn, 1) := by decide +kernel
theorem dX6_addSlave_12 : decode cX6_addSlave 12 = .ok (.aload_n 0, 1) := by decide +kernel
theorem dX6_addSlave_13 : decode cX6_addSlave 13 = .ok (.getfield 11, 3) := by decide +kernel
theorem dX6_addSlave_16 : decode cX6_addSlave 16 = .ok (.aload_n 0, 1) := by decide +kernel
theorem dX6_addSlave_17 : decode cX6_addSlave 17 = .ok (.getfield 42, 3) := by decide +kernel
theorem dX6_addSlave_20 : decode cX6_addSlave 20 = .ok (.iload_n 1, 1) := by decide +kernel
theorem dX6_addSlave_21 : decode cX6_addSlave 21 = .ok (.iastore, 1) := by decide +kernel
theorem dX6_addSlave_22 : decode cX6_addSlave 22 = .ok (.aload_n 0, 1) := by decide +kernel
theorem dX6_addSlave_23 : decode cX6_addSlave 23 = .ok (.getfield 15, 3) := by decide +kernel
theorem dX6_addSlave_26 : decode cX6_addSlave 26 = .ok (.aload_n 0, 1) := by decide +kernel
theorem dX6_addSlave_27 : decode cX6_addSlave 27 = .ok (.getfield 42, 3) := by decide +kernel
theorem dX6_addSlave_30 : decode cX6_addSlave 30 = .ok (.iload_n 2, 1) := by decide +kernel
theorem dX6_addSlave_31 : decode cX6_addSlave 31 = .ok (.iastore, 1) := by decide +kernel
theorem dX6_addSlave_32 : decode cX6_addSlave 32 = .ok (.aload_n 0, 1) := by decide +kernel
theorem dX6_addSlave_33 : decode cX6_addSlave 33 = .ok (.getfield 18, 3) := by decide +kernel
theorem dX6_addSlave_36 : decode cX6_addSlave 36 = .ok (.aload_n 0, 1) := by decide +kernel
theorem dX6_addSlave_37 : decode cX6_addSlave 37 = .ok (.getfield 42, 3) := by decide +kernel
theorem dX6_addSlave_40 : decode cX6_addSlave 40 = .ok (.iload_n 3, 1) := by decide +kernel
theorem dX6_addSlave_41 : decode cX6_addSlave 41 = .ok (.iastore, 1) := by decide +kernel
theorem dX6_addSlave_42 : decode cX6_addSlave 42 = .ok (.aload_n 0, 1) := by decide +kernel
theorem dX6_addSlave_43 : decode cX6_addSlave 43 = .ok (.getfield 21, 3) := by decide +kernel
theorem dX6_addSlave_46 : decode cX6_addSlave 46 = .ok (.aload_n 0, 1) := by decide +kernel
theorem dX6_addSlave_47 : decode cX6_addSlave 47 = .ok (.getfield 42, 3) := by decide +kernel
theorem dX6_addSlave_50 : decode cX6_addSlave 50 = .ok (.iload 4, 2) := by decide +kernel
theorem dX6_addSlave_52 : decode cX6_addSlave 52 = .ok (.bastore, 1) := by decide +kernel
theorem dX6_addSlave_53 : decode cX6_addSlave 53 = .ok (.aload_n 0, 1) := by decide +kernel
theorem dX6_addSlave_54 : decode cX6_addSlave 54 = .ok (.dup, 1) := by decide +kernel
theorem dX6_addSlave_55 : decode cX6_addSlave 55 = .ok (.getfield 42, 3) := by decide +kernel
theorem dX6_addSlave_58 : decode cX6_addSlave 58 = .ok (.iconst 1, 1) := by decide +kernel
theorem dX6_addSlave_59 : decode cX6_addSlave 59 = .ok (.iadd, 1) := by decide +kernel
theorem dX6_addSlave_60 : decode cX6_addSlave 60 = .ok (.putfield 42, 3) := by decide +kernel
theorem dX6_addSlave_63 : decode cX6_addSlave 63 = .ok (.aload_n 0, 1) := by decide +kernel
theorem dX6_addSlave_64 : decode cX6_addSlave 64 = .ok (.dup, 1) := by decide +kernel
theorem dX6_addSlave_65 : decode cX6_addSlave 65 = .ok (.getfield 45, 3) := by decide +kernel
theorem dX6_addSlave_68 : decode cX6_addSlave 68 = .ok (.iconst 1, 1) := by decide +kernel
theorem dX6_addSlave_69 : decode cX6_addSlave 69 = .ok (.iadd, 1) := by decide +kernel
theorem dX6_addSlave_70 : decode cX6_addSlave 70 = .ok (.putfield 45, 3) := by decide +kernel
theorem dX6_addSlave_73 : decode cX6_addSlave 73 = .ok (.aload_n 0, 1) := by decide +kernel
theorem dX6_addSlave_74 : decode cX6_addSlave 74 = .ok (.getfield 42, 3) := by decide +kernel
theorem dX6_addSlave_77 : decode cX6_addSlave 77 = .ok (.iconst 1, 1) := by decide +kernel
theorem dX6_addSlave_78 : decode cX6_addSlave 78 = .ok (.isub, 1) := by decide +kernel
theorem dX6_addSlave_79 : decode cX6_addSlave 79 = .ok (.ireturn, 1) := by decide +kernel
theorem dX6_addRegister_0 : decode cX6_addRegister 0 = .ok (.aload_n 0, 1) := by decide +kernel
theorem dX6_addRegister_1 : decode cX6_addRegister 1 = .ok (.getfield 48, 3) := by decide +kernel
theorem dX6_addRegister_4 : decode cX6_addRegister 4 = .ok (.bipush 48, 2) := by decide +kernel
theorem dX6_addRegister_6 : decode cX6_addRegister 6 = .ok (.if_icmp .lt 4, 3) := by decide +kernel
theorem dX6_addRegister_9 : decode cX6_addRegister 9 = .ok (.return_, 1) := by decide +kernel
theorem dX6_addRegister_10 : decode cX6_addRegister 10 = .ok (.aload_n 0, 1) := by decide +kernel
theorem dX6_addRegister_11 : decode cX6_addRegister 11 = .ok (.getfield 25, 3) := by decide +kernel
theorem dX6_addRegister_14 : decode cX6_addRegister 14 = .ok (.aload_n 0, 1) := by decide +kernel
theorem dX6_addRegister_15 : decode cX6_addRegister 15 = .ok (.getfield 48, 3) := by decide +kernel
theorem dX6_addRegister_18 : decode cX6_addRegister 18 = .ok (.iload_n 1, 1) := by decide +kernel
theorem dX6_addRegister_19 : decode cX6_addRegister 19 = .ok (.iastore, 1) := by decide +kernel
theorem dX6_addRegister_20 : decode cX6_addRegister 20 = .ok (.aload_n 0, 1) := by decide +kernel
theorem dX6_addRegister_21 : decode cX6_addRegister 21 = .ok (.getfield 28, 3) := by decide +kernel
theorem dX6_addRegister_24 : decode cX6_addRegister 24 = .ok (.aload_n 0, 1) := by decide +kernel
theorem dX6_addRegister_25 : decode cX6_addRegister 25 = .ok (.getfield 48, 3) := by decide +kernel
theorem dX6_addRegister_28 : decode cX6_addRegister 28 = .ok (.iload_n 2, 1) := by decide +kernel
theorem dX6_addRegister_29 : decode cX6_addRegister 29 = .ok (.iastore, 1) := by decide +kernel
theorem dX6_addRegister_30 : decode cX6_addRegister 30 = .ok (.aload_n 0, 1) := by decide +kernel
theorem dX6_addRegister_31 : decode cX6_addRegister 31 = .ok (.getfield 31, 3) := by decide +kernel
theorem dX6_addRegister_34 : decode cX6_addRegister 34 = .ok (.aload_n 0, 1) := by decide +kernel
theorem dX6_addRegister_35 : decode cX6_addRegister 35 = .ok (.getfield 48, 3) := by decide +kernel
theorem dX6_addRegister_38 : decode cX6_addRegister 38 = .ok (.iload_n 3, 1) := by decide +kernel
theorem dX6_addRegister_39 : decode cX6_addRegister 39 = .ok (.iastore, 1) := by decide +kernel
theorem dX6_addRegister_40 : decode cX6_addRegister 40 = .ok (.aload_n 0, 1) := by decide +kernel
theorem dX6_addRegister_41 : decode cX6_addRegister 41 = .ok (.getfield 34, 3) := by decide +kernel
theorem dX6_addRegister_44 : decode cX6_addRegister 44 = .ok (.aload_n 0, 1) := by decide +kernel
theorem dX6_addRegister_45 : decode cX6_addRegister 45 = .ok (.getfield 48, 3) := by decide +kernel
theorem dX6_addRegister_48 : decode cX6_addRegister 48 = .ok (.iload 4, 2) := by decide +kernel
theorem dX6_addRegister_50 : decode cX6_addRegister 50 = .ok (.iastore, 1) := by decide +kernel
theorem dX6_addRegister_51 : decode cX6_addRegister 51 = .ok (.aload_n 0, 1) := by decide +kernel
theorem dX6_addRegister_52 : decode cX6_addRegister 52 = .ok (.dup, 1) := by decide +kernel
theorem dX6_addRegister_53 : decode cX6_addRegister 53 = .ok (.getfield 48, 3) := by decide +kernel
theorem dX6_addRegister_56 : decode cX6_addRegister 56 = .ok (.iconst 1, 1) := by decide +kernel
theorem dX6_addRegister_57 : decode cX6_addRegister 57 = .ok (.iadd, 1) := by decide +kernel
theorem dX6_addRegister_58 : decode cX6_addRegister 58 = .ok (.putfield 48, 3) := by decide +kernel
theorem dX6_addRegister_61 : decode cX6_addRegister 61 = .ok (.aload_n 0, 1) := by decide +kernel
theorem dX6_addRegister_62 : decode cX6_addRegister 62 = .ok (.dup, 1) := by decide +kernel
theorem dX6_addRegister_63 : decode cX6_addRegister 63 = .ok (.getfield 45, 3) := by decide +kernel
theorem dX6_addRegister_66 : decode cX6_addRegister 66 = .ok (.iconst 1, 1) := by decide +kernel
theorem dX6_addRegister_67 : decode cX6_addRegister 67 = .ok (.iadd, 1) := by decide +kernel
theorem dX6_addRegister_68 : decode cX6_addRegister 68 = .ok (.putfield 45, 3) := by decide +kernel
theorem dX6_addRegister_71 : decode cX6_addRegister 71 = .ok (.return_, 1) := by decide +kernel
theorem dX6_changeDepth_0 : decode cX6_changeDepth 0 = .ok (.aload_n 0, 1) := by decide +kernel
theorem dX6_changeDepth_1 : decode cX6_changeDepth 1 = .ok (.getfield 51, 3) := by decide +kernel
theorem dX6_changeDepth_4 : decode cX6_changeDepth 4 = .ok (.istore_n 2, 1) := by decide +kernel
theorem dX6_changeDepth_5 : decode cX6_changeDepth 5 = .ok (.iload_n 1, 1) := by decide +kernel
theorem dX6_changeDepth_6 : decode cX6_changeDepth 6 = .ok (.iload_n 2, 1) := by decide +kernel
theorem dX6_changeDepth_7 : decode cX6_changeDepth 7 = .ok (.if_icmp .eq 18, 3) := by decide +kernel
theorem dX6_changeDepth_10 : decode cX6_changeDepth 10 = .ok (.aload_n 0, 1) := by decide +kernel
theorem dX6_changeDepth_11 : decode cX6_changeDepth 11 = .ok (.iload_n 1, 1) := by decide +kernel
theorem dX6_changeDepth_12 : decode cX6_changeDepth 12 = .ok (.putfield 51, 3) := by decide +kernel
theorem dX6_changeDepth_15 : decode cX6_changeDepth 15 = .ok (.aload_n 0, 1) := by decide +kernel
theorem dX6_changeDepth_16 : decode cX6_changeDepth 16 = .ok (.dup, 1) := by decide +kernel
theorem dX6_changeDepth_17 : decode cX6_changeDepth 17 = .ok (.getfield 45, 3) := by decide +kernel
theorem dX6_changeDepth_20 : decode cX6_changeDepth 20 = .ok (.iconst 1, 1) := by decide +kernel
theorem dX6_changeDepth_21 : decode cX6_changeDepth 21 = .ok (.iadd, 1) := by decide +kernel
theorem dX6_changeDepth_22 : decode cX6_changeDepth 22 = .ok (.putfield 45, 3) := by decide +kernel
theorem dX6_changeDepth_25 : decode cX6_changeDepth 25 = .ok (.iload_n 2, 1) := by decide +kernel
theorem dX6_changeDepth_26 : decode cX6_changeDepth 26 = .ok (.ireturn, 1) := by decide +kernel
theorem dX6_changeLimit_0 : decode cX6_changeLimit 0 = .ok (.aload_n 0, 1) := by decide +kernel
theorem dX6_changeLimit_1 : decode cX6_changeLimit 1 = .ok (.getfield 37, 3) := by decide +kernel
theorem dX6_changeLimit_4 : decode cX6_changeLimit 4 = .ok (.istore_n 2, 1) := by decide +kernel
theorem dX6_changeLimit_5 : decode cX6_changeLimit 5 = .ok (.iload_n 1, 1) := by decide +kernel
theorem dX6_changeLimit_6 : decode cX6_changeLimit 6 = .ok (.iload_n 2, 1) := by decide +kernel
theorem dX6_changeLimit_7 : decode cX6_changeLimit 7 = .ok (.if_icmp .eq 18, 3) := by decide +kernel
theorem dX6_changeLimit_10 : decode cX6_changeLimit 10 = .ok (.aload_n 0, 1) := by decide +kernel
theorem dX6_changeLimit_11 : decode cX6_changeLimit 11 = .ok (.iload_n 1, 1) := by decide +kernel
theorem dX6_changeLimit_12 : decode cX6_changeLimit 12 = .ok (.putfield 37, 3) := by decide +kernel
theorem dX6_changeLimit_15 : decode cX6_changeLimit 15 = .ok (.aload_n 0, 1) := by decide +kernel
theorem dX6_changeLimit_16 : decode cX6_changeLimit 16 = .ok (.dup, 1) := by decide +kernel
theorem dX6_changeLimit_17 : decode cX6_changeLimit 17 = .ok (.getfield 45, 3) := by decide +kernel
theorem dX6_changeLimit_20 : decode cX6_changeLimit 20 = .ok (.iconst 1, 1) := by decide +kernel
theorem dX6_changeLimit_21 : decode cX6_changeLimit 21 = .ok (.iadd, 1) := by decide +kernel
theorem dX6_changeLimit_22 : decode cX6_changeLimit 22 = .ok (.putfield 45, 3) := by decide +kernel
theorem dX6_changeLimit_25 : decode cX6_changeLimit 25 = .ok (.iload_n 2, 1) := by decide +kernel
theorem dX6_changeLimit_26 : decode cX6_changeLimit 26 = .ok (.ireturn, 1) := by decide +kernel
theorem dX6_isInRange_0 : decode cX6_isInRange 0 = .ok (.iload_n 1, 1) := by decide +kernel
theorem dX6_isInRange_1 : decode cX6_isInRange 1 = .ok (.ifCond .lt 37, 3) := by decide +kernel
theorem dX6_isInRange_4 : decode cX6_isInRange 4 = .ok (.iload_n 1, 1) := by decide +kernel
theorem dX6_isInRange_5 : decode cX6_isInRange 5 = .ok (.aload_n 0, 1) := by decide +kernel
theorem dX6_isInRange_6 : decode cX6_isInRange 6 = .ok (.getfield 42, 3) := by decide +kernel
theorem dX6_isInRange_9 : decode cX6_isInRange 9 = .ok (.if_icmp .ge 29, 3) := by decide +kernel
theorem dX6_isInRange_12 : decode cX6_isInRange 12 = .ok (.iload_n 2, 1) := by decide +kernel
theorem dX6_isInRange_13 : decode cX6_isInRange 13 = .ok (.aload_n 0, 1) := by decide +kernel
theorem dX6_isInRange_14 : decode cX6_isInRange 14 = .ok (.getfield 11, 3) := by decide +kernel
theorem dX6_isInRange_17 : decode cX6_isInRange 17 = .ok (.iload_n 1, 1) := by decide +kernel
theorem dX6_isInRange_18 : decode cX6_isInRange 18 = .ok (.iaload, 1) := by decide +kernel
theorem dX6_isInRange_19 : decode cX6_isInRange 19 = .ok (.if_icmp .lt 19, 3) := by decide +kernel
theorem dX6_isInRange_22 : decode cX6_isInRange 22 = .ok (.iload_n 2, 1) := by decide +kernel
theorem dX6_isInRange_23 : decode cX6_isInRange 23 = .ok (.aload_n 0, 1) := by decide +kernel
theorem dX6_isInRange_24 : decode cX6_isInRange 24 = .ok (.getfield 15, 3) := by decide +kernel
theorem dX6_isInRange_27 : decode cX6_isInRange 27 = .ok (.iload_n 1, 1) := by decide +kernel
theorem dX6_isInRange_28 : decode cX6_isInRange 28 = .ok (.iaload, 1) := by decide +kernel
theorem dX6_isInRange_29 : decode cX6_isInRange 29 = .ok (.iconst 4, 1) := by decide +kernel
theorem dX6_isInRange_30 : decode cX6_isInRange 30 = .ok (.iadd, 1) := by decide +kernel
theorem dX6_isInRange_31 : decode cX6_isInRange 31 = .ok (.if_icmp .ge 7, 3) := by decide +kernel
theorem dX6_isInRange_34 : decode cX6_isInRange 34 = .ok (.iconst 1, 1) := by decide +kernel
theorem dX6_isInRange_35 : decode cX6_isInRange 35 = .ok (.goto 4, 3) := by decide +kernel
theorem dX6_isInRange_38 : decode cX6_isInRange 38 = .ok (.iconst 0, 1) := by decide +kernel
theorem dX6_isInRange_39 : decode cX6_isInRange 39 = .ok (.ireturn, 1) := by decide +kernel
set_option maxRecDepth 20000 in
theorem ggX6_slaveAt_X6_isInRange : GoodIn wsX6_slaveAt wsX6_isInRange := goodIn_r _ [6, 1, 7, 8, 9, 10, 11, 12, 13, 14, 15, 16, 17, 18, 19, 20, 21] (by decide +kernel) (by decide +kernel)
set_option maxRecDepth 20000 in
theorem gX6_slaveAt_X6_isInRange : GoodIn wsX6_slaveAt (wsV RX6 54 RX6 yX6_isInRange wsX6_isInRange) := goodIn_app (goodIn_of _ (by decide +kernel)) ggX6_slaveAt_X6_isInRange
theorem dX6_slaveAt_0 : decode cX6_slaveAt 0 = .ok (.iconst 0, 1) := by decide +kernel
theorem dX6_slaveAt_1 : decode cX6_slaveAt 1 = .ok (.istore_n 2, 1) := by decide +kernel
theorem dX6_slaveAt_2 : decode cX6_slaveAt 2 = .ok (.iload_n 2, 1) := by decide +kernel
theorem dX6_slaveAt_3 : decode cX6_slaveAt 3 = .ok (.aload_n 0, 1) := by decide +kernel
theorem dX6_slaveAt_4 : decode cX6_slaveAt 4 = .ok (.getfield 42, 3) := by decide +kernel
theorem dX6_slaveAt_7 : decode cX6_slaveAt 7 = .ok (.if_icmp .ge 20, 3) := by decide +kernel
theorem dX6_slaveAt_10 : decode cX6_slaveAt 10 = .ok (.aload_n 0, 1) := by decide +kernel
theorem dX6_slaveAt_11 : decode cX6_slaveAt 11 = .ok (.iload_n 2, 1) := by decide +kernel
theorem dX6_slaveAt_12 : decode cX6_slaveAt 12 = .ok (.iload_n 1, 1) := by decide +kernel
theorem dX6_slaveAt_13 : decode cX6_slaveAt 13 = .ok (.invokevirtual 54, 3) := by decide +kernel
theorem dX6_slaveAt_16 : decode cX6_slaveAt 16 = .ok (.ifCond .eq 5, 3) := by decide +kernel
theorem dX6_slaveAt_19 : decode cX6_slaveAt 19 = .ok (.iload_n 2, 1) := by decide +kernel
theorem dX6_slaveAt_20 : decode cX6_slaveAt 20 = .ok (.ireturn, 1) := by decide +kernel
theorem dX6_slaveAt_21 : decode cX6_slaveAt 21 = .ok (.iinc 2 1, 3) := by decide +kernel
theorem dX6_slaveAt_24 : decode cX6_slaveAt 24 = .ok (.goto (-22), 3) := by decide +kernel
theorem dX6_slaveAt_27 : decode cX6_slaveAt 27 = .ok (.iconst (-1), 1) := by decide +kernel
theorem dX6_slaveAt_28 : decode cX6_slaveAt 28 = .ok (.ireturn, 1) := by decide +kernel
theorem dX6_registerOf_0 : decode cX6_registerOf 0 = .ok (.iconst 0, 1) := by decide +kernel
theorem dX6_registerOf_1 : decode cX6_registerOf 1 = .ok (.istore_n 3, 1) := by decide +kernel
theorem dX6_registerOf_2 : decode cX6_registerOf 2 = .ok (.iload_n 3, 1) := by decide +kernel
theorem dX6_registerOf_3 : decode cX6_registerOf 3 = .ok (.aload_n 0, 1) := by decide +kernel
theorem dX6_registerOf_4 : decode cX6_registerOf 4 = .ok (.getfield 48, 3) := by decide +kernel
theorem dX6_registerOf_7 : decode cX6_registerOf 7 = .ok (.if_icmp .ge 31, 3) := by decide +kernel
theorem dX6_registerOf_10 : decode cX6_registerOf 10 = .ok (.aload_n 0, 1) := by decide +kernel
theorem dX6_registerOf_11 : decode cX6_registerOf 11 = .ok (.getfield 25, 3) := by decide +kernel
theorem dX6_registerOf_14 : decode cX6_registerOf 14 = .ok (.iload_n 3, 1) := by decide +kernel
theorem dX6_registerOf_15 : decode cX6_registerOf 15 = .ok (.iaload, 1) := by decide +kernel
theorem dX6_registerOf_16 : decode cX6_registerOf 16 = .ok (.iload_n 2, 1) := by decide +kernel
theorem dX6_registerOf_17 : decode cX6_registerOf 17 = .ok (.if_icmp .ne 15, 3) := by decide +kernel
theorem dX6_registerOf_20 : decode cX6_registerOf 20 = .ok (.aload_n 0, 1) := by decide +kernel
theorem dX6_registerOf_21 : decode cX6_registerOf 21 = .ok (.getfield 34, 3) := by decide +kernel
theorem dX6_registerOf_24 : decode cX6_registerOf 24 = .ok (.iload_n 3, 1) := by decide +kernel
theorem dX6_registerOf_25 : decode cX6_registerOf 25 = .ok (.iaload, 1) := by decide +kernel
theorem dX6_registerOf_26 : decode cX6_registerOf 26 = .ok (.iload_n 1, 1) := by decide +kernel
theorem dX6_registerOf_27 : decode cX6_registerOf 27 = .ok (.if_icmp .ne 5, 3) := by decide +kernel
theorem dX6_registerOf_30 : decode cX6_registerOf 30 = .ok (.iload_n 3, 1) := by decide +kernel
theorem dX6_registerOf_31 : decode cX6_registerOf 31 = .ok (.ireturn, 1) := by decide +kernel
theorem dX6_registerOf_32 : decode cX6_registerOf 32 = .ok (.iinc 3 1, 3) := by decide +kernel
theorem dX6_registerOf_35 : decode cX6_registerOf 35 = .ok (.goto (-33), 3) := by decide +kernel
theorem dX6_registerOf_38 : decode cX6_registerOf 38 = .ok (.iconst (-1), 1) := by decide +kernel
theorem dX6_registerOf_39 : decode cX6_registerOf 39 = .ok (.ireturn, 1) := by decide +kernel
theorem dX7_init_0 : decode cX7_init 0 = .ok (.aload_n 0, 1) := by decide +kernel
theorem dX7_init_1 : decode cX7_init 1 = .ok (.invokespecial 1, 3) := by decide +kernel
theorem dX7_init_4 : decode cX7_init 4 = .ok (.aload_n 0, 1) := by decide +kernel
theorem dX7_init_5 : decode cX7_init 5 = .ok (.bipush 8, 2) := by decide +kernel
theorem dX7_init_7 : decode cX7_init 7 = .ok (.newarray .int, 2) := by decide +kernel
theorem dX7_init_9 : decode cX7_init 9 = .ok (.putfield 9, 3) := by decide +kernel
theorem dX7_init_12 : decode cX7_init 12 = .ok (.return_, 1) := by decide +kernel
set_option maxRecDepth 20000 in
theorem ggX7_clear_J7_fill_53178 : GoodIn wsX7_clear wsJ7_fill_53178 := goodIn_r _ [5] (by decide +kernel) (by decide +kernel)
set_option maxRecDepth 20000 in
theorem gX7_clear_J7_fill_53178 : GoodIn wsX7_clear (va_wsS RX7 15 yJ7_fill_53178 wsJ7_fill_53178) := goodIn_app (goodIn_of _ (by decide +kernel)) ggX7_clear_J7_fill_53178
theorem dX7_clear_0 : decode cX7_clear 0 = .ok (.aload_n 0, 1) := by decide +kernel
theorem dX7_clear_1 : decode cX7_clear 1 = .ok (.getfield 9, 3) := by decide +kernel
theorem dX7_clear_4 : decode cX7_clear 4 = .ok (.iconst 0, 1) := by decide +kernel
theorem dX7_clear_5 : decode cX7_clear 5 = .ok (.invokestatic 15, 3) := by decide +kernel
theorem dX7_clear_8 : decode cX7_clear 8 = .ok (.return_, 1) := by decide +kernel
theorem dX7_copyFrom_0 : decode cX7_copyFrom 0 = .ok (.aload_n 1, 1) := by decide +kernel
theorem dX7_copyFrom_1 : decode cX7_copyFrom 1 = .ok (.getfield 9, 3) := by decide +kernel
theorem dX7_copyFrom_4 : decode cX7_copyFrom 4 = .ok (.iconst 0, 1) := by decide +kernel
theorem dX7_copyFrom_5 : decode cX7_copyFrom 5 = .ok (.aload_n 0, 1) := by decide +kernel
theorem dX7_copyFrom_6 : decode cX7_copyFrom 6 = .ok (.getfield 9, 3) := by decide +kernel
theorem dX7_copyFrom_9 : decode cX7_copyFrom 9 = .ok (.iconst 0, 1) := by decide +kernel
theorem dX7_copyFrom_10 : decode cX7_copyFrom 10 = .ok (.aload_n 0, 1) := by decide +kernel
theorem dX7_copyFrom_11 : decode cX7_copyFrom 11 = .ok (.getfield 9, 3) := by decide +kernel
theorem dX7_copyFrom_14 : decode cX7_copyFrom 14 = .ok (.arraylength, 1) := by decide +kernel
theorem dX7_copyFrom_15 : decode cX7_copyFrom 15 = .ok (.invokestatic 21, 3) := by decide +kernel
theorem dX7_copyFrom_18 : decode cX7_copyFrom 18 = .ok (.return_, 1) := by decide +kernel
set_option maxRecDepth 20000 in
theorem ggX7_pass_X7_attend_c : GoodIn wsX7_pass [.code yX7_attend cX7_attend 7 none] := goodIn_r _ [11] (by decide +kernel) (by decide +kernel)
set_option maxRecDepth 20000 in
theorem ggX7_pass_X7_attend_1 : GoodIn wsX7_pass wsX7_attend_r1 := goodIn_r _ [12, 13, 14, 15, 16, 17, 10, 18, 3, 4, 5, 19, 20, 21, 22, 23, 24, 25, 26, 27, 28, 29, 30, 31] (by decide +kernel) (by decide +kernel)
set_option maxRecDepth 20000 in
theorem ggX7_pass_X7_attend_2 : GoodIn wsX7_pass wsX7_attend_r2 := goodIn_r _ [32, 33, 34, 35, 36, 37, 38, 39, 40, 41, 42, 43, 44, 45, 46, 47, 48] (by decide +kernel) (by decide +kernel)
set_option maxRecDepth 20000 in
theorem ggX7_pass_X7_attend_3 : GoodIn wsX7_pass wsX70 := goodIn_r _ [55, 56, 57, 58] (by decide +kernel) (by decide +kernel)
set_option maxRecDepth 20000 in
theorem ggX7_pass_X7_attend_4 : GoodIn wsX7_pass wsX60 := goodIn_r _ [59, 60, 61, 62, 63, 64, 65, 66, 67, 68, 69, 70, 71] (by decide +kernel) (by decide +kernel)
set_option maxRecDepth 20000 in
theorem ggX7_pass_X7_attend_5 : GoodIn wsX7_pass wsX10 := goodIn_r _ [72, 73, 74] (by decide +kernel) (by decide +kernel)
theorem ggX7_pass_X7_attend : GoodIn wsX7_pass wsX7_attend := (goodIn_app (a := [.code yX7_attend cX7_attend 7 none]) ggX7_pass_X7_attend_c (goodIn_app (goodIn_app (goodIn_app (goodIn_app ggX7_pass_X7_attend_1 ggX7_pass_X7_attend_2) ggX7_pass_X7_attend_3) ggX7_pass_X7_attend_4) ggX7_pass_X7_attend_5))
set_option maxRecDepth 20000 in
theorem gX7_pass_X7_attend : GoodIn wsX7_pass (wsV RX7 48 RX7 yX7_attend wsX7_attend) := goodIn_app (goodIn_of _ (by decide +kernel)) ggX7_pass_X7_attend
theorem dX7_pass_0 : decode cX7_pass 0 = .ok (.aload_n 3, 1) := by decide +kernel
theorem dX7_pass_1 : decode cX7_pass 1 = .ok (.getfield 27, 3) := by decide +kernel
theorem dX7_pass_4 : decode cX7_pass 4 = .ok (.bipush 14, 2) := by decide +kernel
theorem dX7_pass_6 : decode cX7_pass 6 = .ok (.iaload, 1) := by decide +kernel
theorem dX7_pass_7 : decode cX7_pass 7 = .ok (.istore 4, 2) := by decide +kernel
theorem dX7_pass_9 : decode cX7_pass 9 = .ok (.aload_n 3, 1) := by decide +kernel
theorem dX7_pass_10 : decode cX7_pass 10 = .ok (.getfield 32, 3) := by decide +kernel
theorem dX7_pass_13 : decode cX7_pass 13 = .ok (.bipush 7, 2) := by decide +kernel
theorem dX7_pass_15 : decode cX7_pass 15 = .ok (.iaload, 1) := by decide +kernel
theorem dX7_pass_16 : decode cX7_pass 16 = .ok (.istore 5, 2) := by decide +kernel
theorem dX7_pass_18 : decode cX7_pass 18 = .ok (.aload_n 0, 1) := by decide +kernel
theorem dX7_pass_19 : decode cX7_pass 19 = .ok (.iconst 0, 1) := by decide +kernel
theorem dX7_pass_20 : decode cX7_pass 20 = .ok (.putfield 35, 3) := by decide +kernel
theorem dX7_pass_23 : decode cX7_pass 23 = .ok (.aload_n 0, 1) := by decide +kernel
theorem dX7_pass_24 : decode cX7_pass 24 = .ok (.iconst 0, 1) := by decide +kernel
theorem dX7_pass_25 : decode cX7_pass 25 = .ok (.putfield 39, 3) := by decide +kernel
theorem dX7_pass_28 : decode cX7_pass 28 = .ok (.aload_n 0, 1) := by decide +kernel
theorem dX7_pass_29 : decode cX7_pass 29 = .ok (.iload 4, 2) := by decide +kernel
theorem dX7_pass_31 : decode cX7_pass 31 = .ok (.putfield 42, 3) := by decide +kernel
theorem dX7_pass_34 : decode cX7_pass 34 = .ok (.iconst 0, 1) := by decide +kernel
theorem dX7_pass_35 : decode cX7_pass 35 = .ok (.istore 6, 2) := by decide +kernel
theorem dX7_pass_37 : decode cX7_pass 37 = .ok (.iload 6, 2) := by decide +kernel
theorem dX7_pass_39 : decode cX7_pass 39 = .ok (.aload_n 1, 1) := by decide +kernel
theorem dX7_pass_40 : decode cX7_pass 40 = .ok (.getfield 45, 3) := by decide +kernel
theorem dX7_pass_43 : decode cX7_pass 43 = .ok (.if_icmp .ge 47, 3) := by decide +kernel
theorem dX7_pass_46 : decode cX7_pass 46 = .ok (.iload 5, 2) := by decide +kernel
theorem dX7_pass_48 : decode cX7_pass 48 = .ok (.iload 6, 2) := by decide +kernel
theorem dX7_pass_50 : decode cX7_pass 50 = .ok (.ishr, 1) := by decide +kernel
theorem dX7_pass_51 : decode cX7_pass 51 = .ok (.iconst 1, 1) := by decide +kernel
theorem dX7_pass_52 : decode cX7_pass 52 = .ok (.iand, 1) := by decide +kernel
theorem dX7_pass_53 : decode cX7_pass 53 = .ok (.ifCond .eq 31, 3) := by decide +kernel
theorem dX7_pass_56 : decode cX7_pass 56 = .ok (.aload_n 0, 1) := by decide +kernel
theorem dX7_pass_57 : decode cX7_pass 57 = .ok (.iconst 0, 1) := by decide +kernel
theorem dX7_pass_58 : decode cX7_pass 58 = .ok (.putfield 35, 3) := by decide +kernel
theorem dX7_pass_61 : decode cX7_pass 61 = .ok (.aload_n 0, 1) := by decide +kernel
theorem dX7_pass_62 : decode cX7_pass 62 = .ok (.iconst 0, 1) := by decide +kernel
theorem dX7_pass_63 : decode cX7_pass 63 = .ok (.putfield 39, 3) := by decide +kernel
theorem dX7_pass_66 : decode cX7_pass 66 = .ok (.aload_n 0, 1) := by decide +kernel
theorem dX7_pass_67 : decode cX7_pass 67 = .ok (.iload 4, 2) := by decide +kernel
theorem dX7_pass_69 : decode cX7_pass 69 = .ok (.putfield 42, 3) := by decide +kernel
theorem dX7_pass_72 : decode cX7_pass 72 = .ok (.aload_n 0, 1) := by decide +kernel
theorem dX7_pass_73 : decode cX7_pass 73 = .ok (.iload 6, 2) := by decide +kernel
theorem dX7_pass_75 : decode cX7_pass 75 = .ok (.aload_n 1, 1) := by decide +kernel
theorem dX7_pass_76 : decode cX7_pass 76 = .ok (.aload_n 2, 1) := by decide +kernel
theorem dX7_pass_77 : decode cX7_pass 77 = .ok (.aload_n 3, 1) := by decide +kernel
theorem dX7_pass_78 : decode cX7_pass 78 = .ok (.getfield 32, 3) := by decide +kernel
theorem dX7_pass_81 : decode cX7_pass 81 = .ok (.invokevirtual 48, 3) := by decide +kernel
theorem dX7_pass_84 : decode cX7_pass 84 = .ok (.iinc 6 1, 3) := by decide +kernel
theorem dX7_pass_87 : decode cX7_pass 87 = .ok (.goto (-50), 3) := by decide +kernel
theorem dX7_pass_90 : decode cX7_pass 90 = .ok (.aload_n 3, 1) := by decide +kernel
theorem dX7_pass_91 : decode cX7_pass 91 = .ok (.getfield 27, 3) := by decide +kernel
theorem dX7_pass_94 : decode cX7_pass 94 = .ok (.bipush 12, 2) := by decide +kernel
theorem dX7_pass_96 : decode cX7_pass 96 = .ok (.aload_n 0, 1) := by decide +kernel
theorem dX7_pass_97 : decode cX7_pass 97 = .ok (.getfield 35, 3) := by decide +kernel
theorem dX7_pass_100 : decode cX7_pass 100 = .ok (.iastore, 1) := by decide +kernel
theorem dX7_pass_101 : decode cX7_pass 101 = .ok (.aload_n 3, 1) := by decide +kernel
theorem dX7_pass_102 : decode cX7_pass 102 = .ok (.getfield 27, 3) := by decide +kernel
theorem dX7_pass_105 : decode cX7_pass 105 = .ok (.bipush 13, 2) := by decide +kernel
theorem dX7_pass_107 : decode cX7_pass 107 = .ok (.aload_n 0, 1) := by decide +kernel
theorem dX7_pass_108 : decode cX7_pass 108 = .ok (.getfield 39, 3) := by decide +kernel
theorem dX7_pass_111 : decode cX7_pass 111 = .ok (.iastore, 1) := by decide +kernel
theorem dX7_pass_112 : decode cX7_pass 112 = .ok (.aload_n 3, 1) := by decide +kernel
theorem dX7_pass_113 : decode cX7_pass 113 = .ok (.getfield 27, 3) := by decide +kernel
theorem dX7_pass_116 : decode cX7_pass 116 = .ok (.bipush 14, 2) := by decide +kernel
theorem dX7_pass_118 : decode cX7_pass 118 = .ok (.aload_n 0, 1) := by decide +kernel
theorem dX7_pass_119 : decode cX7_pass 119 = .ok (.getfield 42, 3) := by decide +kernel
theorem dX7_pass_122 : decode cX7_pass 122 = .ok (.iastore, 1) := by decide +kernel
theorem dX7_pass_123 : decode cX7_pass 123 = .ok (.return_, 1) := by decide +kernel
set_option maxRecDepth 20000 in
theorem ggX7_attend_X7_act : GoodIn wsX7_attend wsX7_act := goodIn_r _ [8, 9, 10, 11, 12, 13, 14, 15, 16, 17, 18, 19, 20, 21, 22, 23, 24, 25, 26, 27, 28, 29, 30, 31, 32, 33, 34, 35, 36, 37, 38, 39, 40, 41, 42, 43, 44, 45, 46, 47, 48, 49, 50, 51, 52, 53, 54, 55, 56, 57, 58, 59, 60, 61] (by decide +kernel) (by decide +kernel)
set_option maxRecDepth 20000 in
theorem gX7_attend_X7_act : GoodIn wsX7_attend (wsV RX7 59 RX7 yX7_act wsX7_act) := goodIn_app (goodIn_of _ (by decide +kernel)) ggX7_attend_X7_act
theorem dX7_attend_0 : decode cX7_attend 0 = .ok (.aload 4, 2) := by decide +kernel
theorem dX7_attend_2 : decode cX7_attend 2 = .ok (.bipush 8, 2) := by decide +kernel
theorem dX7_attend_4 : decode cX7_attend 4 = .ok (.iaload, 1) := by decide +kernel
theorem dX7_attend_5 : decode cX7_attend 5 = .ok (.ifCond .eq 7, 3) := by decide +kernel
theorem dX7_attend_8 : decode cX7_attend 8 = .ok (.iconst 1, 1) := by decide +kernel
theorem dX7_attend_9 : decode cX7_attend 9 = .ok (.goto 4, 3) := by decide +kernel
theorem dX7_attend_12 : decode cX7_attend 12 = .ok (.iconst 0, 1) := by decide +kernel
theorem dX7_attend_13 : decode cX7_attend 13 = .ok (.istore 5, 2) := by decide +kernel
theorem dX7_attend_15 : decode cX7_attend 15 = .ok (.iload 5, 2) := by decide +kernel
theorem dX7_attend_17 : decode cX7_attend 17 = .ok (.ifCond .eq 15, 3) := by decide +kernel
theorem dX7_attend_20 : decode cX7_attend 20 = .ok (.aload 4, 2) := by decide +kernel
theorem dX7_attend_22 : decode cX7_attend 22 = .ok (.bipush 12, 2) := by decide +kernel
theorem dX7_attend_24 : decode cX7_attend 24 = .ok (.iaload, 1) := by decide +kernel
theorem dX7_attend_25 : decode cX7_attend 25 = .ok (.ifCond .eq 7, 3) := by decide +kernel
theorem dX7_attend_28 : decode cX7_attend 28 = .ok (.iconst 1, 1) := by decide +kernel
theorem dX7_attend_29 : decode cX7_attend 29 = .ok (.goto 4, 3) := by decide +kernel
theorem dX7_attend_32 : decode cX7_attend 32 = .ok (.iconst 0, 1) := by decide +kernel
theorem dX7_attend_33 : decode cX7_attend 33 = .ok (.istore 6, 2) := by decide +kernel
theorem dX7_attend_35 : decode cX7_attend 35 = .ok (.iload 5, 2) := by decide +kernel
theorem dX7_attend_37 : decode cX7_attend 37 = .ok (.ifCond .ne 18, 3) := by decide +kernel
theorem dX7_attend_40 : decode cX7_attend 40 = .ok (.aload_n 0, 1) := by decide +kernel
theorem dX7_attend_41 : decode cX7_attend 41 = .ok (.getfield 9, 3) := by decide +kernel
theorem dX7_attend_44 : decode cX7_attend 44 = .ok (.iload_n 1, 1) := by decide +kernel
theorem dX7_attend_45 : decode cX7_attend 45 = .ok (.aload_n 2, 1) := by decide +kernel
theorem dX7_attend_46 : decode cX7_attend 46 = .ok (.getfield 52, 3) := by decide +kernel
theorem dX7_attend_49 : decode cX7_attend 49 = .ok (.iload_n 1, 1) := by decide +kernel
theorem dX7_attend_50 : decode cX7_attend 50 = .ok (.iaload, 1) := by decide +kernel
theorem dX7_attend_51 : decode cX7_attend 51 = .ok (.iastore, 1) := by decide +kernel
theorem dX7_attend_52 : decode cX7_attend 52 = .ok (.goto 27, 3) := by decide +kernel
theorem dX7_attend_55 : decode cX7_attend 55 = .ok (.iload 6, 2) := by decide +kernel
theorem dX7_attend_57 : decode cX7_attend 57 = .ok (.ifCond .ne 22, 3) := by decide +kernel
theorem dX7_attend_60 : decode cX7_attend 60 = .ok (.aload_n 0, 1) := by decide +kernel
theorem dX7_attend_61 : decode cX7_attend 61 = .ok (.getfield 9, 3) := by decide +kernel
theorem dX7_attend_64 : decode cX7_attend 64 = .ok (.iload_n 1, 1) := by decide +kernel
theorem dX7_attend_65 : decode cX7_attend 65 = .ok (.iaload, 1) := by decide +kernel
theorem dX7_attend_66 : decode cX7_attend 66 = .ok (.ifCond .le 13, 3) := by decide +kernel
theorem dX7_attend_69 : decode cX7_attend 69 = .ok (.aload_n 0, 1) := by decide +kernel
theorem dX7_attend_70 : decode cX7_attend 70 = .ok (.getfield 9, 3) := by decide +kernel
theorem dX7_attend_73 : decode cX7_attend 73 = .ok (.iload_n 1, 1) := by decide +kernel
theorem dX7_attend_74 : decode cX7_attend 74 = .ok (.dup2, 1) := by decide +kernel
theorem dX7_attend_75 : decode cX7_attend 75 = .ok (.iaload, 1) := by decide +kernel
theorem dX7_attend_76 : decode cX7_attend 76 = .ok (.iconst 1, 1) := by decide +kernel
theorem dX7_attend_77 : decode cX7_attend 77 = .ok (.isub, 1) := by decide +kernel
theorem dX7_attend_78 : decode cX7_attend 78 = .ok (.iastore, 1) := by decide +kernel
theorem dX7_attend_79 : decode cX7_attend 79 = .ok (.iload 6, 2) := by decide +kernel
theorem dX7_attend_81 : decode cX7_attend 81 = .ok (.ifCond .ne 30, 3) := by decide +kernel
theorem dX7_attend_84 : decode cX7_attend 84 = .ok (.aload_n 0, 1) := by decide +kernel
theorem dX7_attend_85 : decode cX7_attend 85 = .ok (.getfield 9, 3) := by decide +kernel
theorem dX7_attend_88 : decode cX7_attend 88 = .ok (.iload_n 1, 1) := by decide +kernel
theorem dX7_attend_89 : decode cX7_attend 89 = .ok (.iaload, 1) := by decide +kernel
theorem dX7_attend_90 : decode cX7_attend 90 = .ok (.ifCond .ne 21, 3) := by decide +kernel
theorem dX7_attend_93 : decode cX7_attend 93 = .ok (.aload_n 2, 1) := by decide +kernel
theorem dX7_attend_94 : decode cX7_attend 94 = .ok (.getfield 55, 3) := by decide +kernel
theorem dX7_attend_97 : decode cX7_attend 97 = .ok (.iload_n 1, 1) := by decide +kernel
theorem dX7_attend_98 : decode cX7_attend 98 = .ok (.baload, 1) := by decide +kernel
theorem dX7_attend_99 : decode cX7_attend 99 = .ok (.ifCond .ne 12, 3) := by decide +kernel
theorem dX7_attend_102 : decode cX7_attend 102 = .ok (.aload_n 0, 1) := by decide +kernel
theorem dX7_attend_103 : decode cX7_attend 103 = .ok (.iload_n 1, 1) := by decide +kernel
theorem dX7_attend_104 : decode cX7_attend 104 = .ok (.aload_n 2, 1) := by decide +kernel
theorem dX7_attend_105 : decode cX7_attend 105 = .ok (.aload_n 3, 1) := by decide +kernel
theorem dX7_attend_106 : decode cX7_attend 106 = .ok (.aload 4, 2) := by decide +kernel
theorem dX7_attend_108 : decode cX7_attend 108 = .ok (.invokevirtual 59, 3) := by decide +kernel
theorem dX7_attend_111 : decode cX7_attend 111 = .ok (.return_, 1) := by decide +kernel
set_option maxRecDepth 20000 in
theorem ggX7_act_X1_write : GoodIn wsX7_act wsX1_write := goodIn_r _ [8, 9, 10, 11, 12, 13, 14, 15, 16, 17, 18, 19, 20, 21, 22, 23, 7, 24, 25, 26, 27, 28, 29, 38, 39, 40, 41, 42, 43, 44, 45, 46, 47, 48, 49, 50, 51, 52, 53] (by decide +kernel) (by decide +kernel)
set_option maxRecDepth 20000 in
theorem gX7_act_X1_write : GoodIn wsX7_act (wsV RX7 62 RX1 yX1_write wsX1_write) := goodIn_app (goodIn_of _ (by decide +kernel)) ggX7_act_X1_write
set_option maxRecDepth 20000 in
theorem ggX7_act_X1_read : GoodIn wsX7_act wsX1_read := goodIn_r _ [33, 10, 9, 13, 14, 15, 16, 17, 18, 19, 20, 51, 52, 53, 38, 39, 40, 41, 42, 43, 44, 45, 46, 47, 48, 49, 50] (by decide +kernel) (by decide +kernel)
set_option maxRecDepth 20000 in
theorem gX7_act_X1_read : GoodIn wsX7_act (wsV RX7 68 RX1 yX1_read wsX1_read) := goodIn_app (goodIn_of _ (by decide +kernel)) ggX7_act_X1_read
theorem dX7_act_0 : decode cX7_act 0 = .ok (.aload_n 0, 1) := by decide +kernel
theorem dX7_act_1 : decode cX7_act 1 = .ok (.iconst 1, 1) := by decide +kernel
theorem dX7_act_2 : decode cX7_act 2 = .ok (.putfield 35, 3) := by decide +kernel
theorem dX7_act_5 : decode cX7_act 5 = .ok (.aload 4, 2) := by decide +kernel
theorem dX7_act_7 : decode cX7_act 7 = .ok (.bipush 10, 2) := by decide +kernel
theorem dX7_act_9 : decode cX7_act 9 = .ok (.iaload, 1) := by decide +kernel
theorem dX7_act_10 : decode cX7_act 10 = .ok (.ifCond .eq 39, 3) := by decide +kernel
theorem dX7_act_13 : decode cX7_act 13 = .ok (.aload_n 0, 1) := by decide +kernel
theorem dX7_act_14 : decode cX7_act 14 = .ok (.aload_n 3, 1) := by decide +kernel
theorem dX7_act_15 : decode cX7_act 15 = .ok (.aload_n 2, 1) := by decide +kernel
theorem dX7_act_16 : decode cX7_act 16 = .ok (.iload_n 1, 1) := by decide +kernel
theorem dX7_act_17 : decode cX7_act 17 = .ok (.aload 4, 2) := by decide +kernel
theorem dX7_act_19 : decode cX7_act 19 = .ok (.bipush 9, 2) := by decide +kernel
theorem dX7_act_21 : decode cX7_act 21 = .ok (.iaload, 1) := by decide +kernel
theorem dX7_act_22 : decode cX7_act 22 = .ok (.aload 4, 2) := by decide +kernel
theorem dX7_act_24 : decode cX7_act 24 = .ok (.bipush 11, 2) := by decide +kernel
theorem dX7_act_26 : decode cX7_act 26 = .ok (.iaload, 1) := by decide +kernel
theorem dX7_act_27 : decode cX7_act 27 = .ok (.invokevirtual 62, 3) := by decide +kernel
theorem dX7_act_30 : decode cX7_act 30 = .ok (.ifCond .eq 7, 3) := by decide +kernel
theorem dX7_act_33 : decode cX7_act 33 = .ok (.iconst 0, 1) := by decide +kernel
theorem dX7_act_34 : decode cX7_act 34 = .ok (.goto 4, 3) := by decide +kernel
theorem dX7_act_37 : decode cX7_act 37 = .ok (.iconst 1, 1) := by decide +kernel
theorem dX7_act_38 : decode cX7_act 38 = .ok (.putfield 39, 3) := by decide +kernel
theorem dX7_act_41 : decode cX7_act 41 = .ok (.aload_n 0, 1) := by decide +kernel
theorem dX7_act_42 : decode cX7_act 42 = .ok (.iconst 0, 1) := by decide +kernel
theorem dX7_act_43 : decode cX7_act 43 = .ok (.putfield 42, 3) := by decide +kernel
theorem dX7_act_46 : decode cX7_act 46 = .ok (.goto 18, 3) := by decide +kernel
theorem dX7_act_49 : decode cX7_act 49 = .ok (.aload_n 0, 1) := by decide +kernel
theorem dX7_act_50 : decode cX7_act 50 = .ok (.aload_n 3, 1) := by decide +kernel
theorem dX7_act_51 : decode cX7_act 51 = .ok (.aload_n 2, 1) := by decide +kernel
theorem dX7_act_52 : decode cX7_act 52 = .ok (.iload_n 1, 1) := by decide +kernel
theorem dX7_act_53 : decode cX7_act 53 = .ok (.aload 4, 2) := by decide +kernel
theorem dX7_act_55 : decode cX7_act 55 = .ok (.bipush 9, 2) := by decide +kernel
theorem dX7_act_57 : decode cX7_act 57 = .ok (.iaload, 1) := by decide +kernel
theorem dX7_act_58 : decode cX7_act 58 = .ok (.invokevirtual 68, 3) := by decide +kernel
theorem dX7_act_61 : decode cX7_act 61 = .ok (.putfield 42, 3) := by decide +kernel
theorem dX7_act_64 : decode cX7_act 64 = .ok (.return_, 1) := by decide +kernel
theorem dX8_init_0 : decode cX8_init 0 = .ok (.aload_n 0, 1) := by decide +kernel
theorem dX8_init_1 : decode cX8_init 1 = .ok (.invokespecial 1, 3) := by decide +kernel
theorem dX8_init_4 : decode cX8_init 4 = .ok (.aload_n 0, 1) := by decide +kernel
theorem dX8_init_5 : decode cX8_init 5 = .ok (.iload_n 1, 1) := by decide +kernel
theorem dX8_init_6 : decode cX8_init 6 = .ok (.putfield 7, 3) := by decide +kernel
theorem dX8_init_9 : decode cX8_init 9 = .ok (.aload_n 0, 1) := by decide +kernel
theorem dX8_init_10 : decode cX8_init 10 = .ok (.iload_n 2, 1) := by decide +kernel
theorem dX8_init_11 : decode cX8_init 11 = .ok (.putfield 13, 3) := by decide +kernel
theorem dX8_init_14 : decode cX8_init 14 = .ok (.aload_n 0, 1) := by decide +kernel
theorem dX8_init_15 : decode cX8_init 15 = .ok (.iconst 0, 1) := by decide +kernel
theorem dX8_init_16 : decode cX8_init 16 = .ok (.iload_n 1, 1) := by decide +kernel
theorem dX8_init_17 : decode cX8_init 17 = .ok (.iload_n 2, 1) := by decide +kernel
theorem dX8_init_18 : decode cX8_init 18 = .ok (.imul, 1) := by decide +kernel
theorem dX8_init_19 : decode cX8_init 19 = .ok (.invokestatic 16, 3) := by decide +kernel
theorem dX8_init_22 : decode cX8_init 22 = .ok (.newarray .int, 2) := by decide +kernel
theorem dX8_init_24 : decode cX8_init 24 = .ok (.putfield 22, 3) := by decide +kernel
theorem dX8_init_27 : decode cX8_init 27 = .ok (.return_, 1) := by decide +kernel
theorem dX8_isFull_0 : decode cX8_isFull 0 = .ok (.aload_n 0, 1) := by decide +kernel
theorem dX8_isFull_1 : decode cX8_isFull 1 = .ok (.getfield 26, 3) := by decide +kernel
theorem dX8_isFull_4 : decode cX8_isFull 4 = .ok (.aload_n 0, 1) := by decide +kernel
theorem dX8_isFull_5 : decode cX8_isFull 5 = .ok (.getfield 7, 3) := by decide +kernel
theorem dX8_isFull_8 : decode cX8_isFull 8 = .ok (.if_icmp .lt 7, 3) := by decide +kernel
theorem dX8_isFull_11 : decode cX8_isFull 11 = .ok (.iconst 1, 1) := by decide +kernel
theorem dX8_isFull_12 : decode cX8_isFull 12 = .ok (.goto 4, 3) := by decide +kernel
theorem dX8_isFull_15 : decode cX8_isFull 15 = .ok (.iconst 0, 1) := by decide +kernel
theorem dX8_isFull_16 : decode cX8_isFull 16 = .ok (.ireturn, 1) := by decide +kernel
theorem dX8_hasRow_0 : decode cX8_hasRow 0 = .ok (.iload_n 1, 1) := by decide +kernel
theorem dX8_hasRow_1 : decode cX8_hasRow 1 = .ok (.ifCond .lt 15, 3) := by decide +kernel
theorem dX8_hasRow_4 : decode cX8_hasRow 4 = .ok (.iload_n 1, 1) := by decide +kernel
theorem dX8_hasRow_5 : decode cX8_hasRow 5 = .ok (.aload_n 0, 1) := by decide +kernel
theorem dX8_hasRow_6 : decode cX8_hasRow 6 = .ok (.getfield 26, 3) := by decide +kernel
theorem dX8_hasRow_9 : decode cX8_hasRow 9 = .ok (.if_icmp .ge 7, 3) := by decide +kernel
theorem dX8_hasRow_12 : decode cX8_hasRow 12 = .ok (.iconst 1, 1) := by decide +kernel
theorem dX8_hasRow_13 : decode cX8_hasRow 13 = .ok (.goto 4, 3) := by decide +kernel
theorem dX8_hasRow_16 : decode cX8_hasRow 16 = .ok (.iconst 0, 1) := by decide +kernel
theorem dX8_hasRow_17 : decode cX8_hasRow 17 = .ok (.ireturn, 1) := by decide +kernel
theorem dX8_hasColumn_0 : decode cX8_hasColumn 0 = .ok (.iload_n 1, 1) := by decide +kernel
theorem dX8_hasColumn_1 : decode cX8_hasColumn 1 = .ok (.ifCond .lt 15, 3) := by decide +kernel
theorem dX8_hasColumn_4 : decode cX8_hasColumn 4 = .ok (.iload_n 1, 1) := by decide +kernel
theorem dX8_hasColumn_5 : decode cX8_hasColumn 5 = .ok (.aload_n 0, 1) := by decide +kernel
theorem dX8_hasColumn_6 : decode cX8_hasColumn 6 = .ok (.getfield 13, 3) := by decide +kernel
theorem dX8_hasColumn_9 : decode cX8_hasColumn 9 = .ok (.if_icmp .ge 7, 3) := by decide +kernel
theorem dX8_hasColumn_12 : decode cX8_hasColumn 12 = .ok (.iconst 1, 1) := by decide +kernel
theorem dX8_hasColumn_13 : decode cX8_hasColumn 13 = .ok (.goto 4, 3) := by decide +kernel
theorem dX8_hasColumn_16 : decode cX8_hasColumn 16 = .ok (.iconst 0, 1) := by decide +kernel
theorem dX8_hasColumn_17 : decode cX8_hasColumn 17 = .ok (.ireturn, 1) := by decide +kernel
set_option maxRecDepth 20000 in
theorem ggX8_add_X8_isFull : GoodIn wsX8_add wsX8_isFull := goodIn_r _ [8, 1, 9, 10, 11, 12, 13] (by decide +kernel) (by decide +kernel)
set_option maxRecDepth 20000 in
theorem gX8_add_X8_isFull : GoodIn wsX8_add (wsV RX8 29 RX8 yX8_isFull wsX8_isFull) := goodIn_app (goodIn_of _ (by decide +kernel)) ggX8_add_X8_isFull
theorem dX8_add_0 : decode cX8_add 0 = .ok (.aload_n 0, 1) := by decide +kernel
theorem dX8_add_1 : decode cX8_add 1 = .ok (.invokevirtual 29, 3) := by decide +kernel
theorem dX8_add_4 : decode cX8_add 4 = .ok (.ifCond .eq 5, 3) := by decide +kernel
theorem dX8_add_7 : decode cX8_add 7 = .ok (.iconst (-1), 1) := by decide +kernel
theorem dX8_add_8 : decode cX8_add 8 = .ok (.ireturn, 1) := by decide +kernel
theorem dX8_add_9 : decode cX8_add 9 = .ok (.aload_n 0, 1) := by decide +kernel
theorem dX8_add_10 : decode cX8_add 10 = .ok (.getfield 26, 3) := by decide +kernel
theorem dX8_add_13 : decode cX8_add 13 = .ok (.aload_n 0, 1) := by decide +kernel
theorem dX8_add_14 : decode cX8_add 14 = .ok (.getfield 13, 3) := by decide +kernel
theorem dX8_add_17 : decode cX8_add 17 = .ok (.imul, 1) := by decide +kernel
theorem dX8_add_18 : decode cX8_add 18 = .ok (.istore_n 1, 1) := by decide +kernel
theorem dX8_add_19 : decode cX8_add 19 = .ok (.iload_n 1, 1) := by decide +kernel
theorem dX8_add_20 : decode cX8_add 20 = .ok (.aload_n 0, 1) := by decide +kernel
theorem dX8_add_21 : decode cX8_add 21 = .ok (.getfield 26, 3) := by decide +kernel
theorem dX8_add_24 : decode cX8_add 24 = .ok (.iconst 1, 1) := by decide +kernel
theorem dX8_add_25 : decode cX8_add 25 = .ok (.iadd, 1) := by decide +kernel
theorem dX8_add_26 : decode cX8_add 26 = .ok (.aload_n 0, 1) := by decide +kernel
theorem dX8_add_27 : decode cX8_add 27 = .ok (.getfield 13, 3) := by decide +kernel
theorem dX8_add_30 : decode cX8_add 30 = .ok (.imul, 1) := by decide +kernel
theorem dX8_add_31 : decode cX8_add 31 = .ok (.if_icmp .ge 16, 3) := by decide +kernel
theorem dX8_add_34 : decode cX8_add 34 = .ok (.aload_n 0, 1) := by decide +kernel
theorem dX8_add_35 : decode cX8_add 35 = .ok (.getfield 22, 3) := by decide +kernel
theorem dX8_add_38 : decode cX8_add 38 = .ok (.iload_n 1, 1) := by decide +kernel
theorem dX8_add_39 : decode cX8_add 39 = .ok (.iconst 0, 1) := by decide +kernel
theorem dX8_add_40 : decode cX8_add 40 = .ok (.iastore, 1) := by decide +kernel
theorem dX8_add_41 : decode cX8_add 41 = .ok (.iinc 1 1, 3) := by decide +kernel
theorem dX8_add_44 : decode cX8_add 44 = .ok (.goto (-25), 3) := by decide +kernel
theorem dX8_add_47 : decode cX8_add 47 = .ok (.aload_n 0, 1) := by decide +kernel
theorem dX8_add_48 : decode cX8_add 48 = .ok (.dup, 1) := by decide +kernel
theorem dX8_add_49 : decode cX8_add 49 = .ok (.getfield 26, 3) := by decide +kernel
theorem dX8_add_52 : decode cX8_add 52 = .ok (.iconst 1, 1) := by decide +kernel
theorem dX8_add_53 : decode cX8_add 53 = .ok (.iadd, 1) := by decide +kernel
theorem dX8_add_54 : decode cX8_add 54 = .ok (.putfield 26, 3) := by decide +kernel
theorem dX8_add_57 : decode cX8_add 57 = .ok (.aload_n 0, 1) := by decide +kernel
theorem dX8_add_58 : decode cX8_add 58 = .ok (.getfield 26, 3) := by decide +kernel
theorem dX8_add_61 : decode cX8_add 61 = .ok (.iconst 1, 1) := by decide +kernel
theorem dX8_add_62 : decode cX8_add 62 = .ok (.isub, 1) := by decide +kernel
theorem dX8_add_63 : decode cX8_add 63 = .ok (.ireturn, 1) := by decide +kernel
set_option maxRecDepth 20000 in
theorem ggX8_get_X8_hasRow : GoodIn wsX8_get wsX8_hasRow := goodIn_r _ [7, 8, 13, 14, 15, 16] (by decide +kernel) (by decide +kernel)
set_option maxRecDepth 20000 in
theorem gX8_get_X8_hasRow : GoodIn wsX8_get (wsV RX8 33 RX8 yX8_hasRow wsX8_hasRow) := goodIn_app (goodIn_of _ (by decide +kernel)) ggX8_get_X8_hasRow
set_option maxRecDepth 20000 in
theorem ggX8_get_X8_hasColumn : GoodIn wsX8_get wsX8_hasColumn := goodIn_r _ [12, 2, 13, 14, 15, 16] (by decide +kernel) (by decide +kernel)
set_option maxRecDepth 20000 in
theorem gX8_get_X8_hasColumn : GoodIn wsX8_get (wsV RX8 37 RX8 yX8_hasColumn wsX8_hasColumn) := goodIn_app (goodIn_of _ (by decide +kernel)) ggX8_get_X8_hasColumn
theorem dX8_get_0 : decode cX8_get 0 = .ok (.aload_n 0, 1) := by decide +kernel
theorem dX8_get_1 : decode cX8_get 1 = .ok (.iload_n 1, 1) := by decide +kernel
theorem dX8_get_2 : decode cX8_get 2 = .ok (.invokevirtual 33, 3) := by decide +kernel
theorem dX8_get_5 : decode cX8_get 5 = .ok (.ifCond .eq 27, 3) := by decide +kernel
theorem dX8_get_8 : decode cX8_get 8 = .ok (.aload_n 0, 1) := by decide +kernel
theorem dX8_get_9 : decode cX8_get 9 = .ok (.iload_n 2, 1) := by decide +kernel
theorem dX8_get_10 : decode cX8_get 10 = .ok (.invokevirtual 37, 3) := by decide +kernel
theorem dX8_get_13 : decode cX8_get 13 = .ok (.ifCond .eq 19, 3) := by decide +kernel
theorem dX8_get_16 : decode cX8_get 16 = .ok (.aload_n 0, 1) := by decide +kernel
theorem dX8_get_17 : decode cX8_get 17 = .ok (.getfield 22, 3) := by decide +kernel
theorem dX8_get_20 : decode cX8_get 20 = .ok (.iload_n 1, 1) := by decide +kernel
theorem dX8_get_21 : decode cX8_get 21 = .ok (.aload_n 0, 1) := by decide +kernel
theorem dX8_get_22 : decode cX8_get 22 = .ok (.getfield 13, 3) := by decide +kernel
theorem dX8_get_25 : decode cX8_get 25 = .ok (.imul, 1) := by decide +kernel
theorem dX8_get_26 : decode cX8_get 26 = .ok (.iload_n 2, 1) := by decide +kernel
theorem dX8_get_27 : decode cX8_get 27 = .ok (.iadd, 1) := by decide +kernel
theorem dX8_get_28 : decode cX8_get 28 = .ok (.iaload, 1) := by decide +kernel
theorem dX8_get_29 : decode cX8_get 29 = .ok (.goto 4, 3) := by decide +kernel
theorem dX8_get_32 : decode cX8_get 32 = .ok (.iconst 0, 1) := by decide +kernel
theorem dX8_get_33 : decode cX8_get 33 = .ok (.ireturn, 1) := by decide +kernel
set_option maxRecDepth 20000 in
theorem ggX8_put_X8_hasRow : GoodIn wsX8_put wsX8_hasRow := goodIn_r _ [7, 8, 13, 14, 15, 16] (by decide +kernel) (by decide +kernel)
set_option maxRecDepth 20000 in
theorem gX8_put_X8_hasRow : GoodIn wsX8_put (wsV RX8 33 RX8 yX8_hasRow wsX8_hasRow) := goodIn_app (goodIn_of _ (by decide +kernel)) ggX8_put_X8_hasRow
set_option maxRecDepth 20000 in
theorem ggX8_put_X8_hasColumn : GoodIn wsX8_put wsX8_hasColumn := goodIn_r _ [12, 2, 13, 14, 15, 16] (by decide +kernel) (by decide +kernel)
set_option maxRecDepth 20000 in
theorem gX8_put_X8_hasColumn : GoodIn wsX8_put (wsV RX8 37 RX8 yX8_hasColumn wsX8_hasColumn) := goodIn_app (goodIn_of _ (by decide +kernel)) ggX8_put_X8_hasColumn
theorem dX8_put_0 : decode cX8_put 0 = .ok (.aload_n 0, 1) := by decide +kernel
theorem dX8_put_1 : decode cX8_put 1 = .ok (.iload_n 1, 1) := by decide +kernel
theorem dX8_put_2 : decode cX8_put 2 = .ok (.invokevirtual 33, 3) := by decide +kernel
theorem dX8_put_5 : decode cX8_put 5 = .ok (.ifCond .eq 25, 3) := by decide +kernel
theorem dX8_put_8 : decode cX8_put 8 = .ok (.aload_n 0, 1) := by decide +kernel
theorem dX8_put_9 : decode cX8_put 9 = .ok (.iload_n 2, 1) := by decide +kernel
theorem dX8_put_10 : decode cX8_put 10 = .ok (.invokevirtual 37, 3) := by decide +kernel
theorem dX8_put_13 : decode cX8_put 13 = .ok (.ifCond .eq 17, 3) := by decide +kernel
theorem dX8_put_16 : decode cX8_put 16 = .ok (.aload_n 0, 1) := by decide +kernel
theorem dX8_put_17 : decode cX8_put 17 = .ok (.getfield 22, 3) := by decide +kernel
theorem dX8_put_20 : decode cX8_put 20 = .ok (.iload_n 1, 1) := by decide +kernel
theorem dX8_put_21 : decode cX8_put 21 = .ok (.aload_n 0, 1) := by decide +kernel
theorem dX8_put_22 : decode cX8_put 22 = .ok (.getfield 13, 3) := by decide +kernel
theorem dX8_put_25 : decode cX8_put 25 = .ok (.imul, 1) := by decide +kernel
theorem dX8_put_26 : decode cX8_put 26 = .ok (.iload_n 2, 1) := by decide +kernel
theorem dX8_put_27 : decode cX8_put 27 = .ok (.iadd, 1) := by decide +kernel
theorem dX8_put_28 : decode cX8_put 28 = .ok (.iload_n 3, 1) := by decide +kernel
theorem dX8_put_29 : decode cX8_put 29 = .ok (.iastore, 1) := by decide +kernel
theorem dX8_put_30 : decode cX8_put 30 = .ok (.return_, 1) := by decide +kernel
theorem dX8_clear_0 : decode cX8_clear 0 = .ok (.aload_n 0, 1) := by decide +kernel
theorem dX8_clear_1 : decode cX8_clear 1 = .ok (.iconst 0, 1) := by decide +kernel
theorem dX8_clear_2 : decode cX8_clear 2 = .ok (.putfield 26, 3) := by decide +kernel
theorem dX8_clear_5 : decode cX8_clear 5 = .ok (.return_, 1) := by decide +kernel
theorem dX8_copyFrom_0 : decode cX8_copyFrom 0 = .ok (.aload_n 1, 1) := by decide +kernel
theorem dX8_copyFrom_1 : decode cX8_copyFrom 1 = .ok (.getfield 22, 3) := by decide +kernel
theorem dX8_copyFrom_4 : decode cX8_copyFrom 4 = .ok (.arraylength, 1) := by decide +kernel
theorem dX8_copyFrom_5 : decode cX8_copyFrom 5 = .ok (.aload_n 0, 1) := by decide +kernel
theorem dX8_copyFrom_6 : decode cX8_copyFrom 6 = .ok (.getfield 22, 3) := by decide +kernel
theorem dX8_copyFrom_9 : decode cX8_copyFrom 9 = .ok (.arraylength, 1) := by decide +kernel
theorem dX8_copyFrom_10 : decode cX8_copyFrom 10 = .ok (.if_icmp .eq 4, 3) := by decide +kernel
theorem dX8_copyFrom_13 : decode cX8_copyFrom 13 = .ok (.return_, 1) := by decide +kernel
theorem dX8_copyFrom_14 : decode cX8_copyFrom 14 = .ok (.aload_n 1, 1) := by decide +kernel
theorem dX8_copyFrom_15 : decode cX8_copyFrom 15 = .ok (.getfield 22, 3) := by decide +kernel
theorem dX8_copyFrom_18 : decode cX8_copyFrom 18 = .ok (.iconst 0, 1) := by decide +kernel
theorem dX8_copyFrom_19 : decode cX8_copyFrom 19 = .ok (.aload_n 0, 1) := by decide +kernel
theorem dX8_copyFrom_20 : decode cX8_copyFrom 20 = .ok (.getfield 22, 3) := by decide +kernel
theorem dX8_copyFrom_23 : decode cX8_copyFrom 23 = .ok (.iconst 0, 1) := by decide +kernel
theorem dX8_copyFrom_24 : decode cX8_copyFrom 24 = .ok (.aload_n 1, 1) := by decide +kernel
theorem dX8_copyFrom_25 : decode cX8_copyFrom 25 = .ok (.getfield 26, 3) := by decide +kernel
theorem dX8_copyFrom_28 : decode cX8_copyFrom 28 = .ok (.aload_n 0, 1) := by decide +kernel
theorem dX8_copyFrom_29 : decode cX8_copyFrom 29 = .ok (.getfield 13, 3) := by decide +kernel
theorem dX8_copyFrom_32 : decode cX8_copyFrom 32 = .ok (.imul, 1) := by decide +kernel
theorem dX8_copyFrom_33 : decode cX8_copyFrom 33 = .ok (.invokestatic 40, 3) := by decide +kernel
theorem dX8_copyFrom_36 : decode cX8_copyFrom 36 = .ok (.aload_n 0, 1) := by decide +kernel
theorem dX8_copyFrom_37 : decode cX8_copyFrom 37 = .ok (.aload_n 1, 1) := by decide +kernel
theorem dX8_copyFrom_38 : decode cX8_copyFrom 38 = .ok (.getfield 26, 3) := by decide +kernel
theorem dX8_copyFrom_41 : decode cX8_copyFrom 41 = .ok (.putfield 26, 3) := by decide +kernel
theorem dX8_copyFrom_44 : decode cX8_copyFrom 44 = .ok (.return_, 1) := by decide +kernel
theorem dX9_init_0 : decode cX9_init 0 = .ok (.aload_n 0, 1) := by decide +kernel
theorem dX9_init_1 : decode cX9_init 1 = .ok (.invokespecial 1, 3) := by decide +kernel
theorem dX9_init_4 : decode cX9_init 4 = .ok (.aload_n 0, 1) := by decide +kernel
theorem dX9_init_5 : decode cX9_init 5 = .ok (.bipush 15, 2) := by decide +kernel
theorem dX9_init_7 : decode cX9_init 7 = .ok (.newarray .int, 2) := by decide +kernel
theorem dX9_init_9 : decode cX9_init 9 = .ok (.putfield 9, 3) := by decide +kernel
theorem dX9_init_12 : decode cX9_init 12 = .ok (.aload_n 0, 1) := by decide +kernel
theorem dX9_init_13 : decode cX9_init 13 = .ok (.bipush 15, 2) := by decide +kernel
theorem dX9_init_15 : decode cX9_init 15 = .ok (.newarray .int, 2) := by decide +kernel
theorem dX9_init_17 : decode cX9_init 17 = .ok (.putfield 13, 3) := by decide +kernel
theorem dX9_init_20 : decode cX9_init 20 = .ok (.aload_n 0, 1) := by decide +kernel
theorem dX9_init_21 : decode cX9_init 21 = .ok (.bipush 15, 2) := by decide +kernel
theorem dX9_init_23 : decode cX9_init 23 = .ok (.newarray .int, 2) := by decide +kernel
theorem dX9_init_25 : decode cX9_init 25 = .ok (.putfield 16, 3) := by decide +kernel
theorem dX9_init_28 : decode cX9_init 28 = .ok (.aload_n 0, 1) := by decide +kernel
theorem dX9_init_29 : decode cX9_init 29 = .ok (.bipush 15, 2) := by decide +kernel
theorem dX9_init_31 : decode cX9_init 31 = .ok (.newarray .int, 2) := by decide +kernel
theorem dX9_init_33 : decode cX9_init 33 = .ok (.putfield 19, 3) := by decide +kernel
theorem dX9_init_36 : decode cX9_init 36 = .ok (.aload_n 0, 1) := by decide +kernel
theorem dX9_init_37 : decode cX9_init 37 = .ok (.bipush 15, 2) := by decide +kernel
theorem dX9_init_39 : decode cX9_init 39 = .ok (.newarray .int, 2) := by decide +kernel
theorem dX9_init_41 : decode cX9_init 41 = .ok (.putfield 22, 3) := by decide +kernel
theorem dX9_init_44 : decode cX9_init 44 = .ok (.aload_n 0, 1) := by decide +kernel
theorem dX9_init_45 : decode cX9_init 45 = .ok (.bipush 15, 2) := by decide +kernel
theorem dX9_init_47 : decode cX9_init 47 = .ok (.newarray .int, 2) := by decide +kernel
theorem dX9_init_49 : decode cX9_init 49 = .ok (.putfield 25, 3) := by decide +kernel
theorem dX9_init_52 : decode cX9_init 52 = .ok (.return_, 1) := by decide +kernel
theorem dX9_isWire_0 : decode cX9_isWire 0 = .ok (.iload_n 0, 1) := by decide +kernel
theorem dX9_isWire_1 : decode cX9_isWire 1 = .ok (.ifCond .lt 13, 3) := by decide +kernel
theorem dX9_isWire_4 : decode cX9_isWire 4 = .ok (.iload_n 0, 1) := by decide +kernel
theorem dX9_isWire_5 : decode cX9_isWire 5 = .ok (.bipush 15, 2) := by decide +kernel
theorem dX9_isWire_7 : decode cX9_isWire 7 = .ok (.if_icmp .ge 7, 3) := by decide +kernel
theorem dX9_isWire_10 : decode cX9_isWire 10 = .ok (.iconst 1, 1) := by decide +kernel
theorem dX9_isWire_11 : decode cX9_isWire 11 = .ok (.goto 4, 3) := by decide +kernel
theorem dX9_isWire_14 : decode cX9_isWire 14 = .ok (.iconst 0, 1) := by decide +kernel
theorem dX9_isWire_15 : decode cX9_isWire 15 = .ok (.ireturn, 1) := by decide +kernel
theorem dX9_isTransfer_0 : decode cX9_isTransfer 0 = .ok (.iload_n 0, 1) := by decide +kernel
theorem dX9_isTransfer_1 : decode cX9_isTransfer 1 = .ok (.iconst 2, 1) := by decide +kernel
theorem dX9_isTransfer_2 : decode cX9_isTransfer 2 = .ok (.if_icmp .eq 8, 3) := by decide +kernel
theorem dX9_isTransfer_5 : decode cX9_isTransfer 5 = .ok (.iload_n 0, 1) := by decide +kernel
theorem dX9_isTransfer_6 : decode cX9_isTransfer 6 = .ok (.iconst 3, 1) := by decide +kernel
theorem dX9_isTransfer_7 : decode cX9_isTransfer 7 = .ok (.if_icmp .ne 7, 3) := by decide +kernel
theorem dX9_isTransfer_10 : decode cX9_isTransfer 10 = .ok (.iconst 1, 1) := by decide +kernel
theorem dX9_isTransfer_11 : decode cX9_isTransfer 11 = .ok (.goto 4, 3) := by decide +kernel
theorem dX9_isTransfer_14 : decode cX9_isTransfer 14 = .ok (.iconst 0, 1) := by decide +kernel
theorem dX9_isTransfer_15 : decode cX9_isTransfer 15 = .ok (.ireturn, 1) := by decide +kernel
set_option maxRecDepth 20000 in
theorem ggX9_clear_J7_fill_53178 : GoodIn wsX9_clear wsJ7_fill_53178 := goodIn_r _ [8] (by decide +kernel) (by decide +kernel)
set_option maxRecDepth 20000 in
theorem gX9_clear_J7_fill_53178 : GoodIn wsX9_clear (va_wsS RX9 28 yJ7_fill_53178 wsJ7_fill_53178) := goodIn_app (goodIn_of _ (by decide +kernel)) ggX9_clear_J7_fill_53178
theorem dX9_clear_0 : decode cX9_clear 0 = .ok (.aload_n 0, 1) := by decide +kernel
theorem dX9_clear_1 : decode cX9_clear 1 = .ok (.getfield 9, 3) := by decide +kernel
theorem dX9_clear_4 : decode cX9_clear 4 = .ok (.iconst 0, 1) := by decide +kernel
theorem dX9_clear_5 : decode cX9_clear 5 = .ok (.invokestatic 28, 3) := by decide +kernel
theorem dX9_clear_8 : decode cX9_clear 8 = .ok (.aload_n 0, 1) := by decide +kernel
theorem dX9_clear_9 : decode cX9_clear 9 = .ok (.getfield 9, 3) := by decide +kernel
theorem dX9_clear_12 : decode cX9_clear 12 = .ok (.iconst 4, 1) := by decide +kernel
theorem dX9_clear_13 : decode cX9_clear 13 = .ok (.iconst 1, 1) := by decide +kernel
theorem dX9_clear_14 : decode cX9_clear 14 = .ok (.iastore, 1) := by decide +kernel
theorem dX9_clear_15 : decode cX9_clear 15 = .ok (.aload_n 0, 1) := by decide +kernel
theorem dX9_clear_16 : decode cX9_clear 16 = .ok (.getfield 13, 3) := by decide +kernel
theorem dX9_clear_19 : decode cX9_clear 19 = .ok (.iconst 0, 1) := by decide +kernel
theorem dX9_clear_20 : decode cX9_clear 20 = .ok (.invokestatic 28, 3) := by decide +kernel
theorem dX9_clear_23 : decode cX9_clear 23 = .ok (.aload_n 0, 1) := by decide +kernel
theorem dX9_clear_24 : decode cX9_clear 24 = .ok (.getfield 16, 3) := by decide +kernel
theorem dX9_clear_27 : decode cX9_clear 27 = .ok (.iconst 0, 1) := by decide +kernel
theorem dX9_clear_28 : decode cX9_clear 28 = .ok (.invokestatic 28, 3) := by decide +kernel
theorem dX9_clear_31 : decode cX9_clear 31 = .ok (.aload_n 0, 1) := by decide +kernel
theorem dX9_clear_32 : decode cX9_clear 32 = .ok (.getfield 19, 3) := by decide +kernel
theorem dX9_clear_35 : decode cX9_clear 35 = .ok (.iconst 0, 1) := by decide +kernel
theorem dX9_clear_36 : decode cX9_clear 36 = .ok (.invokestatic 28, 3) := by decide +kernel
theorem dX9_clear_39 : decode cX9_clear 39 = .ok (.return_, 1) := by decide +kernel
theorem dX9_copyFrom_0 : decode cX9_copyFrom 0 = .ok (.aload_n 1, 1) := by decide +kernel
theorem dX9_copyFrom_1 : decode cX9_copyFrom 1 = .ok (.getfield 9, 3) := by decide +kernel
theorem dX9_copyFrom_4 : decode cX9_copyFrom 4 = .ok (.iconst 0, 1) := by decide +kernel
theorem dX9_copyFrom_5 : decode cX9_copyFrom 5 = .ok (.aload_n 0, 1) := by decide +kernel
theorem dX9_copyFrom_6 : decode cX9_copyFrom 6 = .ok (.getfield 9, 3) := by decide +kernel
theorem dX9_copyFrom_9 : decode cX9_copyFrom 9 = .ok (.iconst 0, 1) := by decide +kernel
theorem dX9_copyFrom_10 : decode cX9_copyFrom 10 = .ok (.bipush 15, 2) := by decide +kernel
theorem dX9_copyFrom_12 : decode cX9_copyFrom 12 = .ok (.invokestatic 34, 3) := by decide +kernel
theorem dX9_copyFrom_15 : decode cX9_copyFrom 15 = .ok (.aload_n 1, 1) := by decide +kernel
theorem dX9_copyFrom_16 : decode cX9_copyFrom 16 = .ok (.getfield 16, 3) := by decide +kernel
theorem dX9_copyFrom_19 : decode cX9_copyFrom 19 = .ok (.iconst 0, 1) := by decide +kernel
theorem dX9_copyFrom_20 : decode cX9_copyFrom 20 = .ok (.aload_n 0, 1) := by decide +kernel
theorem dX9_copyFrom_21 : decode cX9_copyFrom 21 = .ok (.getfield 16, 3) := by decide +kernel
theorem dX9_copyFrom_24 : decode cX9_copyFrom 24 = .ok (.iconst 0, 1) := by decide +kernel
theorem dX9_copyFrom_25 : decode cX9_copyFrom 25 = .ok (.bipush 15, 2) := by decide +kernel
theorem dX9_copyFrom_27 : decode cX9_copyFrom 27 = .ok (.invokestatic 34, 3) := by decide +kernel
theorem dX9_copyFrom_30 : decode cX9_copyFrom 30 = .ok (.aload_n 1, 1) := by decide +kernel
theorem dX9_copyFrom_31 : decode cX9_copyFrom 31 = .ok (.getfield 19, 3) := by decide +kernel
theorem dX9_copyFrom_34 : decode cX9_copyFrom 34 = .ok (.iconst 0, 1) := by decide +kernel
theorem dX9_copyFrom_35 : decode cX9_copyFrom 35 = .ok (.aload_n 0, 1) := by decide +kernel
theorem dX9_copyFrom_36 : decode cX9_copyFrom 36 = .ok (.getfield 19, 3) := by decide +kernel
theorem dX9_copyFrom_39 : decode cX9_copyFrom 39 = .ok (.iconst 0, 1) := by decide +kernel
theorem dX9_copyFrom_40 : decode cX9_copyFrom 40 = .ok (.bipush 15, 2) := by decide +kernel
theorem dX9_copyFrom_42 : decode cX9_copyFrom 42 = .ok (.invokestatic 34, 3) := by decide +kernel
theorem dX9_copyFrom_45 : decode cX9_copyFrom 45 = .ok (.aload_n 1, 1) := by decide +kernel
theorem dX9_copyFrom_46 : decode cX9_copyFrom 46 = .ok (.getfield 22, 3) := by decide +kernel
theorem dX9_copyFrom_49 : decode cX9_copyFrom 49 = .ok (.iconst 0, 1) := by decide +kernel
theorem dX9_copyFrom_50 : decode cX9_copyFrom 50 = .ok (.aload_n 0, 1) := by decide +kernel
theorem dX9_copyFrom_51 : decode cX9_copyFrom 51 = .ok (.getfield 22, 3) := by decide +kernel
theorem dX9_copyFrom_54 : decode cX9_copyFrom 54 = .ok (.iconst 0, 1) := by decide +kernel
theorem dX9_copyFrom_55 : decode cX9_copyFrom 55 = .ok (.bipush 15, 2) := by decide +kernel
theorem dX9_copyFrom_57 : decode cX9_copyFrom 57 = .ok (.invokestatic 34, 3) := by decide +kernel
theorem dX9_copyFrom_60 : decode cX9_copyFrom 60 = .ok (.aload_n 1, 1) := by decide +kernel
theorem dX9_copyFrom_61 : decode cX9_copyFrom 61 = .ok (.getfield 25, 3) := by decide +kernel
theorem dX9_copyFrom_64 : decode cX9_copyFrom 64 = .ok (.iconst 0, 1) := by decide +kernel
theorem dX9_copyFrom_65 : decode cX9_copyFrom 65 = .ok (.aload_n 0, 1) := by decide +kernel
theorem dX9_copyFrom_66 : decode cX9_copyFrom 66 = .ok (.getfield 25, 3) := by decide +kernel
theorem dX9_copyFrom_69 : decode cX9_copyFrom 69 = .ok (.iconst 0, 1) := by decide +kernel
theorem dX9_copyFrom_70 : decode cX9_copyFrom 70 = .ok (.bipush 15, 2) := by decide +kernel
theorem dX9_copyFrom_72 : decode cX9_copyFrom 72 = .ok (.invokestatic 34, 3) := by decide +kernel
theorem dX9_copyFrom_75 : decode cX9_copyFrom 75 = .ok (.return_, 1) := by decide +kernel
theorem dX9_exchange_0 : decode cX9_exchange 0 = .ok (.aload_n 0, 1) := by decide +kernel
theorem dX9_exchange_1 : decode cX9_exchange 1 = .ok (.getfield 19, 3) := by decide +kernel
theorem dX9_exchange_4 : decode cX9_exchange 4 = .ok (.iload_n 1, 1) := by decide +kernel
theorem dX9_exchange_5 : decode cX9_exchange 5 = .ok (.iload_n 2, 1) := by decide +kernel
theorem dX9_exchange_6 : decode cX9_exchange 6 = .ok (.iastore, 1) := by decide +kernel
theorem dX9_exchange_7 : decode cX9_exchange 7 = .ok (.aload_n 0, 1) := by decide +kernel
theorem dX9_exchange_8 : decode cX9_exchange 8 = .ok (.getfield 22, 3) := by decide +kernel
theorem dX9_exchange_11 : decode cX9_exchange 11 = .ok (.iload_n 1, 1) := by decide +kernel
theorem dX9_exchange_12 : decode cX9_exchange 12 = .ok (.iload_n 3, 1) := by decide +kernel
theorem dX9_exchange_13 : decode cX9_exchange 13 = .ok (.iconst 1, 1) := by decide +kernel
theorem dX9_exchange_14 : decode cX9_exchange 14 = .ok (.iadd, 1) := by decide +kernel
theorem dX9_exchange_15 : decode cX9_exchange 15 = .ok (.iastore, 1) := by decide +kernel
theorem dX9_exchange_16 : decode cX9_exchange 16 = .ok (.aload_n 0, 1) := by decide +kernel
theorem dX9_exchange_17 : decode cX9_exchange 17 = .ok (.getfield 25, 3) := by decide +kernel
theorem dX9_exchange_20 : decode cX9_exchange 20 = .ok (.iload_n 1, 1) := by decide +kernel
theorem dX9_exchange_21 : decode cX9_exchange 21 = .ok (.iload_n 3, 1) := by decide +kernel
theorem dX9_exchange_22 : decode cX9_exchange 22 = .ok (.iload 4, 2) := by decide +kernel
theorem dX9_exchange_24 : decode cX9_exchange 24 = .ok (.iadd, 1) := by decide +kernel
theorem dX9_exchange_25 : decode cX9_exchange 25 = .ok (.iastore, 1) := by decide +kernel
theorem dX9_exchange_26 : decode cX9_exchange 26 = .ok (.return_, 1) := by decide +kernel
theorem dX9_shown_0 : decode cX9_shown 0 = .ok (.iload_n 2, 1) := by decide +kernel
theorem dX9_shown_1 : decode cX9_shown 1 = .ok (.aload_n 0, 1) := by decide +kernel
theorem dX9_shown_2 : decode cX9_shown 2 = .ok (.getfield 22, 3) := by decide +kernel
theorem dX9_shown_5 : decode cX9_shown 5 = .ok (.iload_n 1, 1) := by decide +kernel
theorem dX9_shown_6 : decode cX9_shown 6 = .ok (.iaload, 1) := by decide +kernel
theorem dX9_shown_7 : decode cX9_shown 7 = .ok (.if_icmp .lt 17, 3) := by decide +kernel
theorem dX9_shown_10 : decode cX9_shown 10 = .ok (.iload_n 2, 1) := by decide +kernel
theorem dX9_shown_11 : decode cX9_shown 11 = .ok (.aload_n 0, 1) := by decide +kernel
theorem dX9_shown_12 : decode cX9_shown 12 = .ok (.getfield 25, 3) := by decide +kernel
theorem dX9_shown_15 : decode cX9_shown 15 = .ok (.iload_n 1, 1) := by decide +kernel
theorem dX9_shown_16 : decode cX9_shown 16 = .ok (.iaload, 1) := by decide +kernel
theorem dX9_shown_17 : decode cX9_shown 17 = .ok (.if_icmp .gt 7, 3) := by decide +kernel
theorem dX9_shown_20 : decode cX9_shown 20 = .ok (.iconst 1, 1) := by decide +kernel
theorem dX9_shown_21 : decode cX9_shown 21 = .ok (.goto 4, 3) := by decide +kernel
theorem dX9_shown_24 : decode cX9_shown 24 = .ok (.iconst 0, 1) := by decide +kernel
theorem dX9_shown_25 : decode cX9_shown 25 = .ok (.istore_n 3, 1) := by decide +kernel
theorem dX9_shown_26 : decode cX9_shown 26 = .ok (.iload_n 3, 1) := by decide +kernel
theorem dX9_shown_27 : decode cX9_shown 27 = .ok (.ifCond .eq 19, 3) := by decide +kernel
theorem dX9_shown_30 : decode cX9_shown 30 = .ok (.aload_n 0, 1) := by decide +kernel
theorem dX9_shown_31 : decode cX9_shown 31 = .ok (.getfield 9, 3) := by decide +kernel
theorem dX9_shown_34 : decode cX9_shown 34 = .ok (.iload_n 1, 1) := by decide +kernel
theorem dX9_shown_35 : decode cX9_shown 35 = .ok (.iaload, 1) := by decide +kernel
theorem dX9_shown_36 : decode cX9_shown 36 = .ok (.aload_n 0, 1) := by decide +kernel
theorem dX9_shown_37 : decode cX9_shown 37 = .ok (.getfield 19, 3) := by decide +kernel
theorem dX9_shown_40 : decode cX9_shown 40 = .ok (.iload_n 1, 1) := by decide +kernel
theorem dX9_shown_41 : decode cX9_shown 41 = .ok (.iaload, 1) := by decide +kernel
theorem dX9_shown_42 : decode cX9_shown 42 = .ok (.ixor, 1) := by decide +kernel
theorem dX9_shown_43 : decode cX9_shown 43 = .ok (.goto 9, 3) := by decide +kernel
theorem dX9_shown_46 : decode cX9_shown 46 = .ok (.aload_n 0, 1) := by decide +kernel
theorem dX9_shown_47 : decode cX9_shown 47 = .ok (.getfield 9, 3) := by decide +kernel
theorem dX9_shown_50 : decode cX9_shown 50 = .ok (.iload_n 1, 1) := by decide +kernel
theorem dX9_shown_51 : decode cX9_shown 51 = .ok (.iaload, 1) := by decide +kernel
theorem dX9_shown_52 : decode cX9_shown 52 = .ok (.ireturn, 1) := by decide +kernel
set_option maxRecDepth 20000 in
theorem ggX9_look_X9_shown : GoodIn wsX9_look wsX9_shown := goodIn_r _ [6, 7, 8, 9, 10, 11, 12, 13, 14, 15, 16] (by decide +kernel) (by decide +kernel)
set_option maxRecDepth 20000 in
theorem gX9_look_X9_shown : GoodIn wsX9_look (wsV RX9 40 RX9 yX9_shown wsX9_shown) := goodIn_app (goodIn_of _ (by decide +kernel)) ggX9_look_X9_shown
theorem dX9_look_0 : decode cX9_look 0 = .ok (.iconst 0, 1) := by decide +kernel
theorem dX9_look_1 : decode cX9_look 1 = .ok (.istore_n 2, 1) := by decide +kernel
theorem dX9_look_2 : decode cX9_look 2 = .ok (.iload_n 2, 1) := by decide +kernel
theorem dX9_look_3 : decode cX9_look 3 = .ok (.bipush 15, 2) := by decide +kernel
theorem dX9_look_5 : decode cX9_look 5 = .ok (.if_icmp .ge 21, 3) := by decide +kernel
theorem dX9_look_8 : decode cX9_look 8 = .ok (.aload_n 0, 1) := by decide +kernel
theorem dX9_look_9 : decode cX9_look 9 = .ok (.getfield 13, 3) := by decide +kernel
theorem dX9_look_12 : decode cX9_look 12 = .ok (.iload_n 2, 1) := by decide +kernel
theorem dX9_look_13 : decode cX9_look 13 = .ok (.aload_n 0, 1) := by decide +kernel
theorem dX9_look_14 : decode cX9_look 14 = .ok (.iload_n 2, 1) := by decide +kernel
theorem dX9_look_15 : decode cX9_look 15 = .ok (.iload_n 1, 1) := by decide +kernel
theorem dX9_look_16 : decode cX9_look 16 = .ok (.invokevirtual 40, 3) := by decide +kernel
theorem dX9_look_19 : decode cX9_look 19 = .ok (.iastore, 1) := by decide +kernel
theorem dX9_look_20 : decode cX9_look 20 = .ok (.iinc 2 1, 3) := by decide +kernel
theorem dX9_look_23 : decode cX9_look 23 = .ok (.goto (-21), 3) := by decide +kernel
theorem dX9_look_26 : decode cX9_look 26 = .ok (.return_, 1) := by decide +kernel
theorem dX9_remember_0 : decode cX9_remember 0 = .ok (.aload_n 0, 1) := by decide +kernel
theorem dX9_remember_1 : decode cX9_remember 1 = .ok (.getfield 13, 3) := by decide +kernel
theorem dX9_remember_4 : decode cX9_remember 4 = .ok (.iconst 0, 1) := by decide +kernel
theorem dX9_remember_5 : decode cX9_remember 5 = .ok (.aload_n 0, 1) := by decide +kernel
theorem dX9_remember_6 : decode cX9_remember 6 = .ok (.getfield 16, 3) := by decide +kernel
theorem dX9_remember_9 : decode cX9_remember 9 = .ok (.iconst 0, 1) := by decide +kernel
theorem dX9_remember_10 : decode cX9_remember 10 = .ok (.bipush 15, 2) := by decide +kernel
theorem dX9_remember_12 : decode cX9_remember 12 = .ok (.invokestatic 34, 3) := by decide +kernel
theorem dX9_remember_15 : decode cX9_remember 15 = .ok (.return_, 1) := by decide +kernel
theorem dX9_firstDifference_0 : decode cX9_firstDifference 0 = .ok (.iconst 0, 1) := by decide +kernel
theorem dX9_firstDifference_1 : decode cX9_firstDifference 1 = .ok (.istore_n 2, 1) := by decide +kernel
theorem dX9_firstDifference_2 : decode cX9_firstDifference 2 = .ok (.iload_n 2, 1) := by decide +kernel
theorem dX9_firstDifference_3 : decode cX9_firstDifference 3 = .ok (.bipush 15, 2) := by decide +kernel
theorem dX9_firstDifference_5 : decode cX9_firstDifference 5 = .ok (.if_icmp .ge 24, 3) := by decide +kernel
theorem dX9_firstDifference_8 : decode cX9_firstDifference 8 = .ok (.aload_n 0, 1) := by decide +kernel
theorem dX9_firstDifference_9 : decode cX9_firstDifference 9 = .ok (.getfield 9, 3) := by decide +kernel
theorem dX9_firstDifference_12 : decode cX9_firstDifference 12 = .ok (.iload_n 2, 1) := by decide +kernel
theorem dX9_firstDifference_13 : decode cX9_firstDifference 13 = .ok (.iaload, 1) := by decide +kernel
theorem dX9_firstDifference_14 : decode cX9_firstDifference 14 = .ok (.aload_n 1, 1) := by decide +kernel
theorem dX9_firstDifference_15 : decode cX9_firstDifference 15 = .ok (.getfield 9, 3) := by decide +kernel
theorem dX9_firstDifference_18 : decode cX9_firstDifference 18 = .ok (.iload_n 2, 1) := by decide +kernel
theorem dX9_firstDifference_19 : decode cX9_firstDifference 19 = .ok (.iaload, 1) := by decide +kernel
theorem dX9_firstDifference_20 : decode cX9_firstDifference 20 = .ok (.if_icmp .ne 9, 3) := by decide +kernel
theorem dX9_firstDifference_23 : decode cX9_firstDifference 23 = .ok (.iinc 2 1, 3) := by decide +kernel
theorem dX9_firstDifference_26 : decode cX9_firstDifference 26 = .ok (.goto (-24), 3) := by decide +kernel
theorem dX9_firstDifference_29 : decode cX9_firstDifference 29 = .ok (.iload_n 2, 1) := by decide +kernel
theorem dX9_firstDifference_30 : decode cX9_firstDifference 30 = .ok (.ireturn, 1) := by decide +kernel
set_option maxRecDepth 20000 in
theorem ggX10_init_X6_init : GoodIn wsX10_init wsX6_init := goodIn_r _ [21, 22, 2, 3, 13, 23, 24, 25, 26, 27, 28, 29, 30, 31, 32, 201, 202, 203, 204, 205, 206, 207, 208, 209, 210, 211, 212, 213] (by decide +kernel) (by decide +kernel)
set_option maxRecDepth 20000 in
theorem gX10_init_X6_init_n9 : GoodIn wsX10_init (wsX6_init) := ggX10_init_X6_init
set_option maxRecDepth 20000 in
theorem ggX10_init_X3_init_c : GoodIn wsX10_init [.code yX3_init cX3_init 1 none] := goodIn_r _ [34] (by decide +kernel) (by decide +kernel)
set_option maxRecDepth 20000 in
theorem ggX10_init_X3_init_1 : GoodIn wsX10_init wsX3_init_r1 := goodIn_r _ [35, 2, 3, 36, 37, 38, 39, 40, 16, 17, 41, 42, 43, 44, 45, 46, 47, 48, 49, 50, 51, 52, 53, 54] (by decide +kernel) (by decide +kernel)
set_option maxRecDepth 20000 in
theorem ggX10_init_X3_init_2 : GoodIn wsX10_init wsX3_init_r2 := goodIn_r _ [55, 56, 57, 58, 59, 60, 13, 61, 62, 63, 64, 65, 66, 67, 68, 69, 70, 71, 72, 73, 74, 75, 76, 77] (by decide +kernel) (by decide +kernel)
set_option maxRecDepth 20000 in
theorem ggX10_init_X3_init_3 : GoodIn wsX10_init wsX3_init_r3 := goodIn_r _ [78, 79, 80, 81, 82, 83, 84, 85, 86, 87, 88, 89, 90, 91, 92, 93, 94, 95, 96, 97, 98, 99, 100, 101] (by decide +kernel) (by decide +kernel)
set_option maxRecDepth 20000 in
theorem ggX10_init_X3_init_4 : GoodIn wsX10_init wsX3_init_r4 := goodIn_r _ [102, 103, 104, 105, 106, 107, 108, 109, 110, 111, 112, 113, 114, 115, 116] (by decide +kernel) (by decide +kernel)
set_option maxRecDepth 20000 in
theorem ggX10_init_X3_init_5 : GoodIn wsX10_init wsX90 := goodIn_r _ [230, 231, 232, 233, 234, 235] (by decide +kernel) (by decide +kernel)
set_option maxRecDepth 20000 in
theorem ggX10_init_X3_init_6 : GoodIn wsX10_init wsX30 := goodIn_r _ [220, 221, 222, 223, 224, 225, 226] (by decide +kernel) (by decide +kernel)
set_option maxRecDepth 20000 in
theorem ggX10_init_X3_init_7 : GoodIn wsX10_init wsX10 := goodIn_r _ [227, 228, 229] (by decide +kernel) (by decide +kernel)
set_option maxRecDepth 20000 in
theorem ggX10_init_X3_init_8 : GoodIn wsX10_init wsX40 := goodIn_r _ [236, 237, 238, 239, 240, 241, 242] (by decide +kernel) (by decide +kernel)
set_option maxRecDepth 20000 in
theorem ggX10_init_X3_init_9 : GoodIn wsX10_init wsX00 := goodIn_r _ [243, 244, 245, 246, 247, 248, 249, 250, 251] (by decide +kernel) (by decide +kernel)
set_option maxRecDepth 20000 in
theorem ggX10_init_X3_init_10 : GoodIn wsX10_init wsX70 := goodIn_r _ [252, 253, 254, 255] (by decide +kernel) (by decide +kernel)
set_option maxRecDepth 20000 in
theorem ggX10_init_X3_init_11 : GoodIn wsX10_init wsX50 := goodIn_r _ [256, 257, 258, 259, 260] (by decide +kernel) (by decide +kernel)
set_option maxRecDepth 20000 in
theorem ggX10_init_X3_init_12 : GoodIn wsX10_init wsX80 := goodIn_r _ [261, 262, 263, 264] (by decide +kernel) (by decide +kernel)
set_option maxRecDepth 20000 in
theorem ggX10_init_X3_init_13 : GoodIn wsX10_init wsX20 := goodIn_r _ [265, 266, 267, 268, 269, 270, 271, 272, 273, 274, 275, 276, 277, 278] (by decide +kernel) (by decide +kernel)
theorem ggX10_init_X3_init : GoodIn wsX10_init wsX3_init := (goodIn_app (a := [.code yX3_init cX3_init 1 none]) ggX10_init_X3_init_c (goodIn_app (goodIn_app (goodIn_app (goodIn_app (goodIn_app (goodIn_app (goodIn_app (goodIn_app (goodIn_app (goodIn_app ggX10_init_X3_init_1 (goodIn_app ggX10_init_X3_init_2 (goodIn_app ggX10_init_X3_init_3 ggX10_init_X3_init_4))) ggX10_init_X3_init_5) ggX10_init_X3_init_6) ggX10_init_X3_init_7) ggX10_init_X3_init_8) ggX10_init_X3_init_9) ggX10_init_X3_init_10) ggX10_init_X3_init_11) ggX10_init_X3_init_12) ggX10_init_X3_init_13))
set_option maxRecDepth 20000 in
theorem gX10_init_X3_init_n18 : GoodIn wsX10_init (wsX3_init) := ggX10_init_X3_init
set_option maxRecDepth 20000 in
theorem ggX10_init_X1_init : GoodIn wsX10_init wsX1_init := goodIn_r _ [68, 69, 2, 3, 13, 70, 71, 72, 227, 228, 229] (by decide +kernel) (by decide +kernel)
set_option maxRecDepth 20000 in
theorem gX10_init_X1_init_n33 : GoodIn wsX10_init (wsX1_init) := ggX10_init_X1_init
set_option maxRecDepth 20000 in
theorem ggX10_init_X3_clear_c : GoodIn wsX10_init [.code yX3_clear cX3_clear 2 none] := goodIn_r _ [120] (by decide +kernel) (by decide +kernel)
set_option maxRecDepth 20000 in
theorem ggX10_init_X3_clear_1 : GoodIn wsX10_init wsX3_clear_r1 := goodIn_r _ [39, 41, 45, 49, 53, 57, 121, 122, 123, 124, 38, 125, 61, 62, 63, 64, 126, 127, 128, 129, 130, 131, 132, 17] (by decide +kernel) (by decide +kernel)
set_option maxRecDepth 20000 in
theorem ggX10_init_X3_clear_2 : GoodIn wsX10_init wsX3_clear_r2 := goodIn_r _ [133, 134, 70, 135, 136, 137, 138, 71, 72, 139, 140, 141, 142, 44, 143, 79, 144, 145, 146, 147, 148, 149, 150, 151] (by decide +kernel) (by decide +kernel)
set_option maxRecDepth 20000 in
theorem ggX10_init_X3_clear_3 : GoodIn wsX10_init wsX3_clear_r3 := goodIn_r _ [152, 78, 153, 154, 155, 156, 157, 48, 158, 97, 159, 160, 161, 162, 163, 164, 165, 166, 167, 96, 168, 104, 169, 170] (by decide +kernel) (by decide +kernel)
set_option maxRecDepth 20000 in
theorem ggX10_init_X3_clear_4 : GoodIn wsX10_init wsX3_clear_r4 := goodIn_r _ [171, 172, 173, 174, 175, 176, 177, 178, 179, 180, 181, 182, 183, 184, 185, 186, 187, 188, 189, 52, 190, 109, 191, 192] (by decide +kernel) (by decide +kernel)
set_option maxRecDepth 20000 in
theorem ggX10_init_X3_clear_5 : GoodIn wsX10_init wsX3_clear_r5 := goodIn_r _ [193, 194, 56, 195, 113, 115, 196, 197, 198, 199, 200] (by decide +kernel) (by decide +kernel)
set_option maxRecDepth 20000 in
theorem ggX10_init_X3_clear_6 : GoodIn wsX10_init wsX30 := goodIn_r _ [220, 221, 222, 223, 224, 225, 226] (by decide +kernel) (by decide +kernel)
set_option maxRecDepth 20000 in
theorem ggX10_init_X3_clear_7 : GoodIn wsX10_init wsX90 := goodIn_r _ [230, 231, 232, 233, 234, 235] (by decide +kernel) (by decide +kernel)
set_option maxRecDepth 20000 in
theorem ggX10_init_X3_clear_8 : GoodIn wsX10_init wsX60 := goodIn_r _ [201, 202, 203, 204, 205, 206, 207, 208, 209, 210, 211, 212, 213] (by decide +kernel) (by decide +kernel)
set_option maxRecDepth 20000 in
theorem ggX10_init_X3_clear_9 : GoodIn wsX10_init wsX10 := goodIn_r _ [227, 228, 229] (by decide +kernel) (by decide +kernel)
set_option maxRecDepth 20000 in
theorem ggX10_init_X3_clear_10 : GoodIn wsX10_init wsX40 := goodIn_r _ [236, 237, 238, 239, 240, 241, 242] (by decide +kernel) (by decide +kernel)
set_option maxRecDepth 20000 in
theorem ggX10_init_X3_clear_11 : GoodIn wsX10_init wsX80 := goodIn_r _ [261, 262, 263, 264] (by decide +kernel) (by decide +kernel)
set_option maxRecDepth 20000 in
theorem ggX10_init_X3_clear_12 : GoodIn wsX10_init wsX00 := goodIn_r _ [243, 244, 245, 246, 247, 248, 249, 250, 251] (by decide +kernel) (by decide +kernel)
set_option maxRecDepth 20000 in
theorem ggX10_init_X3_clear_13 : GoodIn wsX10_init wsX20 := goodIn_r _ [265, 266, 267, 268, 269, 270, 271, 272, 273, 274, 275, 276, 277, 278] (by decide +kernel) (by decide +kernel)
set_option maxRecDepth 20000 in
theorem ggX10_init_X3_clear_14 : GoodIn wsX10_init wsX70 := goodIn_r _ [252, 253, 254, 255] (by decide +kernel) (by decide +kernel)
set_option maxRecDepth 20000 in
theorem ggX10_init_X3_clear_15 : GoodIn wsX10_init wsX50 := goodIn_r _ [256, 257, 258, 259, 260] (by decide +kernel) (by decide +kernel)
theorem ggX10_init_X3_clear : GoodIn wsX10_init wsX3_clear := (goodIn_app (a := [.code yX3_clear cX3_clear 2 none]) ggX10_init_X3_clear_c (goodIn_app (goodIn_app (goodIn_app (goodIn_app (goodIn_app (goodIn_app (goodIn_app (goodIn_app (goodIn_app (goodIn_app (goodIn_app ggX10_init_X3_clear_1 (goodIn_app ggX10_init_X3_clear_2 (goodIn_app ggX10_init_X3_clear_3 (goodIn_app ggX10_init_X3_clear_4 ggX10_init_X3_clear_5)))) ggX10_init_X3_clear_6) ggX10_init_X3_clear_7) ggX10_init_X3_clear_8) ggX10_init_X3_clear_9) ggX10_init_X3_clear_10) ggX10_init_X3_clear_11) ggX10_init_X3_clear_12) ggX10_init_X3_clear_13) ggX10_init_X3_clear_14) ggX10_init_X3_clear_15))
set_option maxRecDepth 20000 in
theorem gX10_init_X3_clear : GoodIn wsX10_init (wsV RX10 42 RX3 yX3_clear wsX3_clear) := goodIn_app (goodIn_of _ (by decide +kernel)) ggX10_init_X3_clear
theorem dX10_init_0 : decode cX10_init 0 = .ok (.aload_n 0, 1) := by decide +kernel
theorem dX10_init_1 : decode cX10_init 1 = .ok (.invokespecial 1, 3) := by decide +kernel
theorem dX10_init_4 : decode cX10_init 4 = .ok (.aload_n 0, 1) := by decide +kernel
theorem dX10_init_5 : decode cX10_init 5 = .ok (.new 7, 3) := by decide +kernel
theorem dX10_init_8 : decode cX10_init 8 = .ok (.dup, 1) := by decide +kernel
theorem dX10_init_9 : decode cX10_init 9 = .ok (.invokespecial 9, 3) := by decide +kernel
theorem dX10_init_12 : decode cX10_init 12 = .ok (.putfield 10, 3) := by decide +kernel
theorem dX10_init_15 : decode cX10_init 15 = .ok (.aload_n 0, 1) := by decide +kernel
theorem dX10_init_16 : decode cX10_init 16 = .ok (.new 16, 3) := by decide +kernel
theorem dX10_init_19 : decode cX10_init 19 = .ok (.dup, 1) := by decide +kernel
theorem dX10_init_20 : decode cX10_init 20 = .ok (.invokespecial 18, 3) := by decide +kernel
theorem dX10_init_23 : decode cX10_init 23 = .ok (.putfield 19, 3) := by decide +kernel
theorem dX10_init_26 : decode cX10_init 26 = .ok (.aload_n 0, 1) := by decide +kernel
theorem dX10_init_27 : decode cX10_init 27 = .ok (.iconst 3, 1) := by decide +kernel
theorem dX10_init_28 : decode cX10_init 28 = .ok (.anewarray 16, 3) := by decide +kernel
theorem dX10_init_31 : decode cX10_init 31 = .ok (.putfield 23, 3) := by decide +kernel
theorem dX10_init_34 : decode cX10_init 34 = .ok (.aload_n 0, 1) := by decide +kernel
theorem dX10_init_35 : decode cX10_init 35 = .ok (.iconst 3, 1) := by decide +kernel
theorem dX10_init_36 : decode cX10_init 36 = .ok (.newarray .int, 2) := by decide +kernel
theorem dX10_init_38 : decode cX10_init 38 = .ok (.putfield 27, 3) := by decide +kernel
theorem dX10_init_41 : decode cX10_init 41 = .ok (.aload_n 0, 1) := by decide +kernel
theorem dX10_init_42 : decode cX10_init 42 = .ok (.new 31, 3) := by decide +kernel
theorem dX10_init_45 : decode cX10_init 45 = .ok (.dup, 1) := by decide +kernel
theorem dX10_init_46 : decode cX10_init 46 = .ok (.invokespecial 33, 3) := by decide +kernel
theorem dX10_init_49 : decode cX10_init 49 = .ok (.putfield 34, 3) := by decide +kernel
theorem dX10_init_52 : decode cX10_init 52 = .ok (.aload_n 0, 1) := by decide +kernel
theorem dX10_init_53 : decode cX10_init 53 = .ok (.iconst 0, 1) := by decide +kernel
