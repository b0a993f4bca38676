theorem dX10_init_54 : decode cX10_init 54 = .ok (.putfield 38, 3) := by decide +kernel
theorem dX10_init_57 : decode cX10_init 57 = .ok (.aload_n 0, 1) := by decide +kernel
theorem dX10_init_58 : decode cX10_init 58 = .ok (.getfield 19, 3) := by decide +kernel
theorem dX10_init_61 : decode cX10_init 61 = .ok (.aload_n 0, 1) := by decide +kernel
theorem dX10_init_62 : decode cX10_init 62 = .ok (.getfield 10, 3) := by decide +kernel
theorem dX10_init_65 : decode cX10_init 65 = .ok (.invokevirtual 42, 3) := by decide +kernel
theorem dX10_init_68 : decode cX10_init 68 = .ok (.return_, 1) := by decide +kernel
set_option maxRecDepth 20000 in
theorem ggX10_slave_X6_isWord : GoodIn wsX10_slave wsX6_isWord := goodIn_r _ [8, 9] (by decide +kernel) (by decide +kernel)
set_option maxRecDepth 20000 in
theorem gX10_slave_X6_isWord : GoodIn wsX10_slave (va_wsS RX10 46 yX6_isWord wsX6_isWord) := goodIn_app (goodIn_of _ (by decide +kernel)) ggX10_slave_X6_isWord
set_option maxRecDepth 20000 in
theorem ggX10_slave_X10_refuse : GoodIn wsX10_slave wsX10_refuse := goodIn_r _ [14, 15, 34, 35, 36, 37, 38, 39] (by decide +kernel) (by decide +kernel)
set_option maxRecDepth 20000 in
theorem gX10_slave_X10_refuse : GoodIn wsX10_slave (wsV RX10 50 RX10 yX10_refuse wsX10_refuse) := goodIn_app (goodIn_of _ (by decide +kernel)) ggX10_slave_X10_refuse
set_option maxRecDepth 20000 in
theorem ggX10_slave_X6_meets : GoodIn wsX10_slave wsX6_meets := goodIn_r _ [19, 20, 21, 22, 47, 48, 49, 50, 51, 52, 53, 54, 55, 56, 57, 58, 59] (by decide +kernel) (by decide +kernel)
set_option maxRecDepth 20000 in
theorem gX10_slave_X6_meets : GoodIn wsX10_slave (wsV RX10 60 RX6 yX6_meets wsX6_meets) := goodIn_app (goodIn_of _ (by decide +kernel)) ggX10_slave_X6_meets
set_option maxRecDepth 20000 in
theorem ggX10_slave_X6_addSlave : GoodIn wsX10_slave wsX6_addSlave := goodIn_r _ [26, 20, 22, 21, 27, 28, 29, 47, 48, 49, 50, 51, 52, 53, 54, 55, 56, 57, 58, 59] (by decide +kernel) (by decide +kernel)
set_option maxRecDepth 20000 in
theorem gX10_slave_X6_addSlave : GoodIn wsX10_slave (wsV RX10 64 RX6 yX6_addSlave wsX6_addSlave) := goodIn_app (goodIn_of _ (by decide +kernel)) ggX10_slave_X6_addSlave
set_option maxRecDepth 20000 in
theorem ggX10_slave_X10_allow : GoodIn wsX10_slave wsX10_allow := goodIn_r _ [33, 15, 34, 35, 36, 37, 38, 39] (by decide +kernel) (by decide +kernel)
set_option maxRecDepth 20000 in
theorem gX10_slave_X10_allow : GoodIn wsX10_slave (wsV RX10 68 RX10 yX10_allow wsX10_allow) := goodIn_app (goodIn_of _ (by decide +kernel)) ggX10_slave_X10_allow
theorem dX10_slave_0 : decode cX10_slave 0 = .ok (.iload_n 1, 1) := by decide +kernel
theorem dX10_slave_1 : decode cX10_slave 1 = .ok (.invokestatic 46, 3) := by decide +kernel
theorem dX10_slave_4 : decode cX10_slave 4 = .ok (.ifCond .eq 15, 3) := by decide +kernel
theorem dX10_slave_7 : decode cX10_slave 7 = .ok (.iload_n 2, 1) := by decide +kernel
theorem dX10_slave_8 : decode cX10_slave 8 = .ok (.invokestatic 46, 3) := by decide +kernel
theorem dX10_slave_11 : decode cX10_slave 11 = .ok (.ifCond .eq 8, 3) := by decide +kernel
theorem dX10_slave_14 : decode cX10_slave 14 = .ok (.iload_n 2, 1) := by decide +kernel
theorem dX10_slave_15 : decode cX10_slave 15 = .ok (.iload_n 1, 1) := by decide +kernel
theorem dX10_slave_16 : decode cX10_slave 16 = .ok (.if_icmp .ge 10, 3) := by decide +kernel
theorem dX10_slave_19 : decode cX10_slave 19 = .ok (.aload_n 0, 1) := by decide +kernel
theorem dX10_slave_20 : decode cX10_slave 20 = .ok (.bipush (-2), 2) := by decide +kernel
theorem dX10_slave_22 : decode cX10_slave 22 = .ok (.invokevirtual 50, 3) := by decide +kernel
theorem dX10_slave_25 : decode cX10_slave 25 = .ok (.ireturn, 1) := by decide +kernel
theorem dX10_slave_26 : decode cX10_slave 26 = .ok (.iload_n 3, 1) := by decide +kernel
theorem dX10_slave_27 : decode cX10_slave 27 = .ok (.ifCond .lt 9, 3) := by decide +kernel
theorem dX10_slave_30 : decode cX10_slave 30 = .ok (.iload_n 3, 1) := by decide +kernel
theorem dX10_slave_31 : decode cX10_slave 31 = .ok (.bipush 15, 2) := by decide +kernel
theorem dX10_slave_33 : decode cX10_slave 33 = .ok (.if_icmp .le 10, 3) := by decide +kernel
theorem dX10_slave_36 : decode cX10_slave 36 = .ok (.aload_n 0, 1) := by decide +kernel
theorem dX10_slave_37 : decode cX10_slave 37 = .ok (.bipush (-2), 2) := by decide +kernel
theorem dX10_slave_39 : decode cX10_slave 39 = .ok (.invokevirtual 50, 3) := by decide +kernel
theorem dX10_slave_42 : decode cX10_slave 42 = .ok (.ireturn, 1) := by decide +kernel
theorem dX10_slave_43 : decode cX10_slave 43 = .ok (.aload_n 0, 1) := by decide +kernel
theorem dX10_slave_44 : decode cX10_slave 44 = .ok (.getfield 19, 3) := by decide +kernel
theorem dX10_slave_47 : decode cX10_slave 47 = .ok (.getfield 54, 3) := by decide +kernel
theorem dX10_slave_50 : decode cX10_slave 50 = .ok (.ifCond .eq 10, 3) := by decide +kernel
theorem dX10_slave_53 : decode cX10_slave 53 = .ok (.aload_n 0, 1) := by decide +kernel
theorem dX10_slave_54 : decode cX10_slave 54 = .ok (.bipush (-3), 2) := by decide +kernel
theorem dX10_slave_56 : decode cX10_slave 56 = .ok (.invokevirtual 50, 3) := by decide +kernel
theorem dX10_slave_59 : decode cX10_slave 59 = .ok (.ireturn, 1) := by decide +kernel
theorem dX10_slave_60 : decode cX10_slave 60 = .ok (.aload_n 0, 1) := by decide +kernel
theorem dX10_slave_61 : decode cX10_slave 61 = .ok (.getfield 10, 3) := by decide +kernel
theorem dX10_slave_64 : decode cX10_slave 64 = .ok (.getfield 57, 3) := by decide +kernel
theorem dX10_slave_67 : decode cX10_slave 67 = .ok (.bipush 8, 2) := by decide +kernel
theorem dX10_slave_69 : decode cX10_slave 69 = .ok (.if_icmp .lt 10, 3) := by decide +kernel
theorem dX10_slave_72 : decode cX10_slave 72 = .ok (.aload_n 0, 1) := by decide +kernel
theorem dX10_slave_73 : decode cX10_slave 73 = .ok (.bipush (-4), 2) := by decide +kernel
theorem dX10_slave_75 : decode cX10_slave 75 = .ok (.invokevirtual 50, 3) := by decide +kernel
theorem dX10_slave_78 : decode cX10_slave 78 = .ok (.ireturn, 1) := by decide +kernel
theorem dX10_slave_79 : decode cX10_slave 79 = .ok (.aload_n 0, 1) := by decide +kernel
theorem dX10_slave_80 : decode cX10_slave 80 = .ok (.getfield 10, 3) := by decide +kernel
theorem dX10_slave_83 : decode cX10_slave 83 = .ok (.iload_n 1, 1) := by decide +kernel
theorem dX10_slave_84 : decode cX10_slave 84 = .ok (.iload_n 2, 1) := by decide +kernel
theorem dX10_slave_85 : decode cX10_slave 85 = .ok (.invokevirtual 60, 3) := by decide +kernel
theorem dX10_slave_88 : decode cX10_slave 88 = .ok (.ifCond .eq 10, 3) := by decide +kernel
theorem dX10_slave_91 : decode cX10_slave 91 = .ok (.aload_n 0, 1) := by decide +kernel
theorem dX10_slave_92 : decode cX10_slave 92 = .ok (.bipush (-5), 2) := by decide +kernel
theorem dX10_slave_94 : decode cX10_slave 94 = .ok (.invokevirtual 50, 3) := by decide +kernel
theorem dX10_slave_97 : decode cX10_slave 97 = .ok (.ireturn, 1) := by decide +kernel
theorem dX10_slave_98 : decode cX10_slave 98 = .ok (.aload_n 0, 1) := by decide +kernel
theorem dX10_slave_99 : decode cX10_slave 99 = .ok (.aload_n 0, 1) := by decide +kernel
theorem dX10_slave_100 : decode cX10_slave 100 = .ok (.getfield 10, 3) := by decide +kernel
theorem dX10_slave_103 : decode cX10_slave 103 = .ok (.iload_n 1, 1) := by decide +kernel
theorem dX10_slave_104 : decode cX10_slave 104 = .ok (.iload_n 2, 1) := by decide +kernel
theorem dX10_slave_105 : decode cX10_slave 105 = .ok (.iload_n 3, 1) := by decide +kernel
theorem dX10_slave_106 : decode cX10_slave 106 = .ok (.iload 4, 2) := by decide +kernel
theorem dX10_slave_108 : decode cX10_slave 108 = .ok (.invokevirtual 64, 3) := by decide +kernel
theorem dX10_slave_111 : decode cX10_slave 111 = .ok (.invokevirtual 68, 3) := by decide +kernel
theorem dX10_slave_114 : decode cX10_slave 114 = .ok (.ireturn, 1) := by decide +kernel
set_option maxRecDepth 20000 in
theorem ggX10_register_X6_isWord : GoodIn wsX10_register wsX6_isWord := goodIn_r _ [9, 10] (by decide +kernel) (by decide +kernel)
set_option maxRecDepth 20000 in
theorem gX10_register_X6_isWord : GoodIn wsX10_register (va_wsS RX10 46 yX6_isWord wsX6_isWord) := goodIn_app (goodIn_of _ (by decide +kernel)) ggX10_register_X6_isWord
set_option maxRecDepth 20000 in
theorem ggX10_register_X10_refuse : GoodIn wsX10_register wsX10_refuse := goodIn_r _ [15, 16, 66, 67, 68, 69, 70, 71] (by decide +kernel) (by decide +kernel)
set_option maxRecDepth 20000 in
theorem gX10_register_X10_refuse : GoodIn wsX10_register (wsV RX10 50 RX10 yX10_refuse wsX10_refuse) := goodIn_app (goodIn_of _ (by decide +kernel)) ggX10_register_X10_refuse
set_option maxRecDepth 20000 in
theorem ggX10_register_X6_isGuardValue : GoodIn wsX10_register wsX6_isGuardValue := goodIn_r _ [19] (by decide +kernel) (by decide +kernel)
set_option maxRecDepth 20000 in
theorem gX10_register_X6_isGuardValue : GoodIn wsX10_register (va_wsS RX10 71 yX6_isGuardValue wsX6_isGuardValue) := goodIn_app (goodIn_of _ (by decide +kernel)) ggX10_register_X6_isGuardValue
set_option maxRecDepth 20000 in
theorem ggX10_register_X6_slaveAt : GoodIn wsX10_register wsX6_slaveAt := goodIn_r _ [23, 24, 25, 26, 27, 8, 28, 29, 30, 79, 80, 81, 82, 83, 84, 85, 86, 87, 88, 89, 90, 91] (by decide +kernel) (by decide +kernel)
set_option maxRecDepth 20000 in
theorem gX10_register_X6_slaveAt : GoodIn wsX10_register (wsV RX10 77 RX6 yX6_slaveAt wsX6_slaveAt) := goodIn_app (goodIn_of _ (by decide +kernel)) ggX10_register_X6_slaveAt
set_option maxRecDepth 20000 in
theorem ggX10_register_X6_registerOf : GoodIn wsX10_register wsX6_registerOf := goodIn_r _ [34, 35, 36, 37, 79, 80, 81, 82, 83, 84, 85, 86, 87, 88, 89, 90, 91] (by decide +kernel) (by decide +kernel)
set_option maxRecDepth 20000 in
theorem gX10_register_X6_registerOf : GoodIn wsX10_register (wsV RX10 80 RX6 yX6_registerOf wsX6_registerOf) := goodIn_app (goodIn_of _ (by decide +kernel)) ggX10_register_X6_registerOf
set_option maxRecDepth 20000 in
theorem ggX10_register_X6_addRegister : GoodIn wsX10_register wsX6_addRegister := goodIn_r _ [41, 35, 36, 42, 43, 37, 44, 79, 80, 81, 82, 83, 84, 85, 86, 87, 88, 89, 90, 91] (by decide +kernel) (by decide +kernel)
set_option maxRecDepth 20000 in
theorem gX10_register_X6_addRegister : GoodIn wsX10_register (wsV RX10 84 RX6 yX6_addRegister wsX6_addRegister) := goodIn_app (goodIn_of _ (by decide +kernel)) ggX10_register_X6_addRegister
set_option maxRecDepth 20000 in
theorem ggX10_register_X1_clear : GoodIn wsX10_register wsX1_clear := goodIn_r _ [49, 50, 51, 52, 53, 54, 55, 56, 57, 58, 59, 60, 61, 79, 80, 81, 82, 83, 84, 85, 86, 87, 88, 89, 90, 91, 92, 93, 94] (by decide +kernel) (by decide +kernel)
set_option maxRecDepth 20000 in
theorem gX10_register_X1_clear : GoodIn wsX10_register (wsV RX10 91 RX1 yX1_clear wsX1_clear) := goodIn_app (goodIn_of _ (by decide +kernel)) ggX10_register_X1_clear
set_option maxRecDepth 20000 in
theorem ggX10_register_X10_allow : GoodIn wsX10_register wsX10_allow := goodIn_r _ [65, 16, 66, 67, 68, 69, 70, 71] (by decide +kernel) (by decide +kernel)
set_option maxRecDepth 20000 in
theorem gX10_register_X10_allow : GoodIn wsX10_register (wsV RX10 68 RX10 yX10_allow wsX10_allow) := goodIn_app (goodIn_of _ (by decide +kernel)) ggX10_register_X10_allow
theorem dX10_register_0 : decode cX10_register 0 = .ok (.iload_n 1, 1) := by decide +kernel
theorem dX10_register_1 : decode cX10_register 1 = .ok (.invokestatic 46, 3) := by decide +kernel
theorem dX10_register_4 : decode cX10_register 4 = .ok (.ifCond .eq 13, 3) := by decide +kernel
theorem dX10_register_7 : decode cX10_register 7 = .ok (.iload_n 2, 1) := by decide +kernel
theorem dX10_register_8 : decode cX10_register 8 = .ok (.ifCond .lt 9, 3) := by decide +kernel
theorem dX10_register_11 : decode cX10_register 11 = .ok (.iload_n 2, 1) := by decide +kernel
theorem dX10_register_12 : decode cX10_register 12 = .ok (.bipush 7, 2) := by decide +kernel
theorem dX10_register_14 : decode cX10_register 14 = .ok (.if_icmp .le 10, 3) := by decide +kernel
theorem dX10_register_17 : decode cX10_register 17 = .ok (.aload_n 0, 1) := by decide +kernel
theorem dX10_register_18 : decode cX10_register 18 = .ok (.bipush (-2), 2) := by decide +kernel
theorem dX10_register_20 : decode cX10_register 20 = .ok (.invokevirtual 50, 3) := by decide +kernel
theorem dX10_register_23 : decode cX10_register 23 = .ok (.ireturn, 1) := by decide +kernel
theorem dX10_register_24 : decode cX10_register 24 = .ok (.iload_n 2, 1) := by decide +kernel
theorem dX10_register_25 : decode cX10_register 25 = .ok (.bipush 7, 2) := by decide +kernel
theorem dX10_register_27 : decode cX10_register 27 = .ok (.if_icmp .ne 17, 3) := by decide +kernel
theorem dX10_register_30 : decode cX10_register 30 = .ok (.iload_n 3, 1) := by decide +kernel
theorem dX10_register_31 : decode cX10_register 31 = .ok (.invokestatic 71, 3) := by decide +kernel
theorem dX10_register_34 : decode cX10_register 34 = .ok (.ifCond .ne 10, 3) := by decide +kernel
theorem dX10_register_37 : decode cX10_register 37 = .ok (.aload_n 0, 1) := by decide +kernel
theorem dX10_register_38 : decode cX10_register 38 = .ok (.bipush (-2), 2) := by decide +kernel
theorem dX10_register_40 : decode cX10_register 40 = .ok (.invokevirtual 50, 3) := by decide +kernel
theorem dX10_register_43 : decode cX10_register 43 = .ok (.ireturn, 1) := by decide +kernel
theorem dX10_register_44 : decode cX10_register 44 = .ok (.aload_n 0, 1) := by decide +kernel
theorem dX10_register_45 : decode cX10_register 45 = .ok (.getfield 19, 3) := by decide +kernel
theorem dX10_register_48 : decode cX10_register 48 = .ok (.getfield 54, 3) := by decide +kernel
theorem dX10_register_51 : decode cX10_register 51 = .ok (.ifCond .eq 10, 3) := by decide +kernel
theorem dX10_register_54 : decode cX10_register 54 = .ok (.aload_n 0, 1) := by decide +kernel
theorem dX10_register_55 : decode cX10_register 55 = .ok (.bipush (-3), 2) := by decide +kernel
theorem dX10_register_57 : decode cX10_register 57 = .ok (.invokevirtual 50, 3) := by decide +kernel
theorem dX10_register_60 : decode cX10_register 60 = .ok (.ireturn, 1) := by decide +kernel
theorem dX10_register_61 : decode cX10_register 61 = .ok (.aload_n 0, 1) := by decide +kernel
theorem dX10_register_62 : decode cX10_register 62 = .ok (.getfield 10, 3) := by decide +kernel
theorem dX10_register_65 : decode cX10_register 65 = .ok (.getfield 74, 3) := by decide +kernel
theorem dX10_register_68 : decode cX10_register 68 = .ok (.bipush 48, 2) := by decide +kernel
theorem dX10_register_70 : decode cX10_register 70 = .ok (.if_icmp .lt 10, 3) := by decide +kernel
theorem dX10_register_73 : decode cX10_register 73 = .ok (.aload_n 0, 1) := by decide +kernel
theorem dX10_register_74 : decode cX10_register 74 = .ok (.bipush (-4), 2) := by decide +kernel
theorem dX10_register_76 : decode cX10_register 76 = .ok (.invokevirtual 50, 3) := by decide +kernel
theorem dX10_register_79 : decode cX10_register 79 = .ok (.ireturn, 1) := by decide +kernel
theorem dX10_register_80 : decode cX10_register 80 = .ok (.aload_n 0, 1) := by decide +kernel
theorem dX10_register_81 : decode cX10_register 81 = .ok (.getfield 10, 3) := by decide +kernel
theorem dX10_register_84 : decode cX10_register 84 = .ok (.iload_n 1, 1) := by decide +kernel
theorem dX10_register_85 : decode cX10_register 85 = .ok (.invokevirtual 77, 3) := by decide +kernel
theorem dX10_register_88 : decode cX10_register 88 = .ok (.istore 4, 2) := by decide +kernel
theorem dX10_register_90 : decode cX10_register 90 = .ok (.iload 4, 2) := by decide +kernel
theorem dX10_register_92 : decode cX10_register 92 = .ok (.ifCond .lt 16, 3) := by decide +kernel
theorem dX10_register_95 : decode cX10_register 95 = .ok (.aload_n 0, 1) := by decide +kernel
theorem dX10_register_96 : decode cX10_register 96 = .ok (.getfield 10, 3) := by decide +kernel
theorem dX10_register_99 : decode cX10_register 99 = .ok (.iload 4, 2) := by decide +kernel
theorem dX10_register_101 : decode cX10_register 101 = .ok (.iload_n 1, 1) := by decide +kernel
theorem dX10_register_102 : decode cX10_register 102 = .ok (.invokevirtual 80, 3) := by decide +kernel
theorem dX10_register_105 : decode cX10_register 105 = .ok (.ifCond .lt 10, 3) := by decide +kernel
theorem dX10_register_108 : decode cX10_register 108 = .ok (.aload_n 0, 1) := by decide +kernel
theorem dX10_register_109 : decode cX10_register 109 = .ok (.bipush (-5), 2) := by decide +kernel
theorem dX10_register_111 : decode cX10_register 111 = .ok (.invokevirtual 50, 3) := by decide +kernel
theorem dX10_register_114 : decode cX10_register 114 = .ok (.ireturn, 1) := by decide +kernel
theorem dX10_register_115 : decode cX10_register 115 = .ok (.aload_n 0, 1) := by decide +kernel
theorem dX10_register_116 : decode cX10_register 116 = .ok (.getfield 10, 3) := by decide +kernel
theorem dX10_register_119 : decode cX10_register 119 = .ok (.iload_n 1, 1) := by decide +kernel
theorem dX10_register_120 : decode cX10_register 120 = .ok (.iload_n 2, 1) := by decide +kernel
theorem dX10_register_121 : decode cX10_register 121 = .ok (.iload_n 3, 1) := by decide +kernel
theorem dX10_register_122 : decode cX10_register 122 = .ok (.iload 4, 2) := by decide +kernel
theorem dX10_register_124 : decode cX10_register 124 = .ok (.invokevirtual 84, 3) := by decide +kernel
theorem dX10_register_127 : decode cX10_register 127 = .ok (.aload_n 0, 1) := by decide +kernel
theorem dX10_register_128 : decode cX10_register 128 = .ok (.getfield 19, 3) := by decide +kernel
theorem dX10_register_131 : decode cX10_register 131 = .ok (.getfield 88, 3) := by decide +kernel
theorem dX10_register_134 : decode cX10_register 134 = .ok (.aload_n 0, 1) := by decide +kernel
theorem dX10_register_135 : decode cX10_register 135 = .ok (.getfield 10, 3) := by decide +kernel
theorem dX10_register_138 : decode cX10_register 138 = .ok (.invokevirtual 91, 3) := by decide +kernel
theorem dX10_register_141 : decode cX10_register 141 = .ok (.aload_n 0, 1) := by decide +kernel
theorem dX10_register_142 : decode cX10_register 142 = .ok (.aload_n 0, 1) := by decide +kernel
theorem dX10_register_143 : decode cX10_register 143 = .ok (.getfield 10, 3) := by decide +kernel
theorem dX10_register_146 : decode cX10_register 146 = .ok (.getfield 74, 3) := by decide +kernel
theorem dX10_register_149 : decode cX10_register 149 = .ok (.invokevirtual 68, 3) := by decide +kernel
theorem dX10_register_152 : decode cX10_register 152 = .ok (.ireturn, 1) := by decide +kernel
set_option maxRecDepth 20000 in
theorem ggX10_depth_X10_refuse : GoodIn wsX10_depth wsX10_refuse := goodIn_r _ [8, 9, 21, 22, 23, 24, 25, 26] (by decide +kernel) (by decide +kernel)
set_option maxRecDepth 20000 in
theorem gX10_depth_X10_refuse : GoodIn wsX10_depth (wsV RX10 50 RX10 yX10_refuse wsX10_refuse) := goodIn_app (goodIn_of _ (by decide +kernel)) ggX10_depth_X10_refuse
set_option maxRecDepth 20000 in
theorem ggX10_depth_X6_changeDepth : GoodIn wsX10_depth wsX6_changeDepth := goodIn_r _ [14, 15, 16, 34, 35, 36, 37, 38, 39, 40, 41, 42, 43, 44, 45, 46] (by decide +kernel) (by decide +kernel)
set_option maxRecDepth 20000 in
theorem gX10_depth_X6_changeDepth : GoodIn wsX10_depth (wsV RX10 92 RX6 yX6_changeDepth wsX6_changeDepth) := goodIn_app (goodIn_of _ (by decide +kernel)) ggX10_depth_X6_changeDepth
set_option maxRecDepth 20000 in
theorem ggX10_depth_X10_allow : GoodIn wsX10_depth wsX10_allow := goodIn_r _ [20, 9, 21, 22, 23, 24, 25, 26] (by decide +kernel) (by decide +kernel)
set_option maxRecDepth 20000 in
theorem gX10_depth_X10_allow : GoodIn wsX10_depth (wsV RX10 68 RX10 yX10_allow wsX10_allow) := goodIn_app (goodIn_of _ (by decide +kernel)) ggX10_depth_X10_allow
theorem dX10_depth_0 : decode cX10_depth 0 = .ok (.iload_n 1, 1) := by decide +kernel
theorem dX10_depth_1 : decode cX10_depth 1 = .ok (.ifCond .lt 8, 3) := by decide +kernel
theorem dX10_depth_4 : decode cX10_depth 4 = .ok (.iload_n 1, 1) := by decide +kernel
theorem dX10_depth_5 : decode cX10_depth 5 = .ok (.iconst 4, 1) := by decide +kernel
theorem dX10_depth_6 : decode cX10_depth 6 = .ok (.if_icmp .le 10, 3) := by decide +kernel
theorem dX10_depth_9 : decode cX10_depth 9 = .ok (.aload_n 0, 1) := by decide +kernel
theorem dX10_depth_10 : decode cX10_depth 10 = .ok (.bipush (-2), 2) := by decide +kernel
theorem dX10_depth_12 : decode cX10_depth 12 = .ok (.invokevirtual 50, 3) := by decide +kernel
theorem dX10_depth_15 : decode cX10_depth 15 = .ok (.ireturn, 1) := by decide +kernel
theorem dX10_depth_16 : decode cX10_depth 16 = .ok (.aload_n 0, 1) := by decide +kernel
theorem dX10_depth_17 : decode cX10_depth 17 = .ok (.getfield 19, 3) := by decide +kernel
theorem dX10_depth_20 : decode cX10_depth 20 = .ok (.getfield 54, 3) := by decide +kernel
theorem dX10_depth_23 : decode cX10_depth 23 = .ok (.ifCond .eq 10, 3) := by decide +kernel
theorem dX10_depth_26 : decode cX10_depth 26 = .ok (.aload_n 0, 1) := by decide +kernel
theorem dX10_depth_27 : decode cX10_depth 27 = .ok (.bipush (-3), 2) := by decide +kernel
theorem dX10_depth_29 : decode cX10_depth 29 = .ok (.invokevirtual 50, 3) := by decide +kernel
theorem dX10_depth_32 : decode cX10_depth 32 = .ok (.ireturn, 1) := by decide +kernel
theorem dX10_depth_33 : decode cX10_depth 33 = .ok (.aload_n 0, 1) := by decide +kernel
theorem dX10_depth_34 : decode cX10_depth 34 = .ok (.aload_n 0, 1) := by decide +kernel
theorem dX10_depth_35 : decode cX10_depth 35 = .ok (.getfield 10, 3) := by decide +kernel
theorem dX10_depth_38 : decode cX10_depth 38 = .ok (.iload_n 1, 1) := by decide +kernel
theorem dX10_depth_39 : decode cX10_depth 39 = .ok (.invokevirtual 92, 3) := by decide +kernel
theorem dX10_depth_42 : decode cX10_depth 42 = .ok (.invokevirtual 68, 3) := by decide +kernel
theorem dX10_depth_45 : decode cX10_depth 45 = .ok (.ireturn, 1) := by decide +kernel
set_option maxRecDepth 20000 in
theorem ggX10_limit_X10_refuse : GoodIn wsX10_limit wsX10_refuse := goodIn_r _ [8, 9, 21, 22, 23, 24, 25, 26] (by decide +kernel) (by decide +kernel)
set_option maxRecDepth 20000 in
theorem gX10_limit_X10_refuse : GoodIn wsX10_limit (wsV RX10 50 RX10 yX10_refuse wsX10_refuse) := goodIn_app (goodIn_of _ (by decide +kernel)) ggX10_limit_X10_refuse
set_option maxRecDepth 20000 in
theorem ggX10_limit_X6_changeLimit : GoodIn wsX10_limit wsX6_changeLimit := goodIn_r _ [14, 15, 16, 34, 35, 36, 37, 38, 39, 40, 41, 42, 43, 44, 45, 46] (by decide +kernel) (by decide +kernel)
set_option maxRecDepth 20000 in
theorem gX10_limit_X6_changeLimit : GoodIn wsX10_limit (wsV RX10 95 RX6 yX6_changeLimit wsX6_changeLimit) := goodIn_app (goodIn_of _ (by decide +kernel)) ggX10_limit_X6_changeLimit
set_option maxRecDepth 20000 in
theorem ggX10_limit_X10_allow : GoodIn wsX10_limit wsX10_allow := goodIn_r _ [20, 9, 21, 22, 23, 24, 25, 26] (by decide +kernel) (by decide +kernel)
set_option maxRecDepth 20000 in
theorem gX10_limit_X10_allow : GoodIn wsX10_limit (wsV RX10 68 RX10 yX10_allow wsX10_allow) := goodIn_app (goodIn_of _ (by decide +kernel)) ggX10_limit_X10_allow
theorem dX10_limit_0 : decode cX10_limit 0 = .ok (.iload_n 1, 1) := by decide +kernel
theorem dX10_limit_1 : decode cX10_limit 1 = .ok (.iconst 4, 1) := by decide +kernel
theorem dX10_limit_2 : decode cX10_limit 2 = .ok (.if_icmp .lt 9, 3) := by decide +kernel
theorem dX10_limit_5 : decode cX10_limit 5 = .ok (.iload_n 1, 1) := by decide +kernel
theorem dX10_limit_6 : decode cX10_limit 6 = .ok (.bipush 60, 2) := by decide +kernel
theorem dX10_limit_8 : decode cX10_limit 8 = .ok (.if_icmp .le 10, 3) := by decide +kernel
theorem dX10_limit_11 : decode cX10_limit 11 = .ok (.aload_n 0, 1) := by decide +kernel
theorem dX10_limit_12 : decode cX10_limit 12 = .ok (.bipush (-2), 2) := by decide +kernel
theorem dX10_limit_14 : decode cX10_limit 14 = .ok (.invokevirtual 50, 3) := by decide +kernel
theorem dX10_limit_17 : decode cX10_limit 17 = .ok (.ireturn, 1) := by decide +kernel
theorem dX10_limit_18 : decode cX10_limit 18 = .ok (.aload_n 0, 1) := by decide +kernel
theorem dX10_limit_19 : decode cX10_limit 19 = .ok (.getfield 19, 3) := by decide +kernel
theorem dX10_limit_22 : decode cX10_limit 22 = .ok (.getfield 54, 3) := by decide +kernel
theorem dX10_limit_25 : decode cX10_limit 25 = .ok (.ifCond .eq 10, 3) := by decide +kernel
theorem dX10_limit_28 : decode cX10_limit 28 = .ok (.aload_n 0, 1) := by decide +kernel
theorem dX10_limit_29 : decode cX10_limit 29 = .ok (.bipush (-3), 2) := by decide +kernel
theorem dX10_limit_31 : decode cX10_limit 31 = .ok (.invokevirtual 50, 3) := by decide +kernel
theorem dX10_limit_34 : decode cX10_limit 34 = .ok (.ireturn, 1) := by decide +kernel
theorem dX10_limit_35 : decode cX10_limit 35 = .ok (.aload_n 0, 1) := by decide +kernel
theorem dX10_limit_36 : decode cX10_limit 36 = .ok (.aload_n 0, 1) := by decide +kernel
theorem dX10_limit_37 : decode cX10_limit 37 = .ok (.getfield 10, 3) := by decide +kernel
theorem dX10_limit_40 : decode cX10_limit 40 = .ok (.iload_n 1, 1) := by decide +kernel
theorem dX10_limit_41 : decode cX10_limit 41 = .ok (.invokevirtual 95, 3) := by decide +kernel
theorem dX10_limit_44 : decode cX10_limit 44 = .ok (.invokevirtual 68, 3) := by decide +kernel
theorem dX10_limit_47 : decode cX10_limit 47 = .ok (.ireturn, 1) := by decide +kernel
set_option maxRecDepth 20000 in
theorem ggX10_reset_X3_clear_c : GoodIn wsX10_reset [.code yX3_clear cX3_clear 2 none] := goodIn_r _ [8] (by decide +kernel) (by decide +kernel)
set_option maxRecDepth 20000 in
theorem ggX10_reset_X3_clear_1 : GoodIn wsX10_reset wsX3_clear_r1 := goodIn_r _ [9, 10, 11, 12, 13, 14, 15, 16, 17, 18, 19, 20, 21, 22, 23, 24, 25, 26, 27, 28, 29, 30, 31, 32] (by decide +kernel) (by decide +kernel)
set_option maxRecDepth 20000 in
theorem ggX10_reset_X3_clear_2 : GoodIn wsX10_reset wsX3_clear_r2 := goodIn_r _ [33, 34, 35, 36, 37, 38, 39, 40, 41, 42, 43, 44, 45, 46, 47, 48, 49, 50, 51, 52, 53, 54, 55, 56] (by decide +kernel) (by decide +kernel)
set_option maxRecDepth 20000 in
theorem ggX10_reset_X3_clear_3 : GoodIn wsX10_reset wsX3_clear_r3 := goodIn_r _ [57, 58, 59, 60, 61, 62, 63, 64, 65, 66, 67, 68, 69, 70, 71, 72, 73, 74, 75, 76, 77, 78, 79, 80] (by decide +kernel) (by decide +kernel)
set_option maxRecDepth 20000 in
theorem ggX10_reset_X3_clear_4 : GoodIn wsX10_reset wsX3_clear_r4 := goodIn_r _ [81, 82, 83, 84, 85, 86, 87, 88, 89, 90, 91, 92, 93, 94, 95, 96, 97, 98, 99, 100, 101, 102, 103, 104] (by decide +kernel) (by decide +kernel)
set_option maxRecDepth 20000 in
theorem ggX10_reset_X3_clear_5 : GoodIn wsX10_reset wsX3_clear_r5 := goodIn_r _ [105, 106, 107, 108, 109, 110, 111, 112, 113, 114, 115] (by decide +kernel) (by decide +kernel)
set_option maxRecDepth 20000 in
theorem ggX10_reset_X3_clear_6 : GoodIn wsX10_reset wsX30 := goodIn_r _ [128, 129, 130, 131, 132, 133, 134] (by decide +kernel) (by decide +kernel)
set_option maxRecDepth 20000 in
theorem ggX10_reset_X3_clear_7 : GoodIn wsX10_reset wsX90 := goodIn_r _ [135, 136, 137, 138, 139, 140] (by decide +kernel) (by decide +kernel)
set_option maxRecDepth 20000 in
theorem ggX10_reset_X3_clear_8 : GoodIn wsX10_reset wsX60 := goodIn_r _ [141, 142, 143, 144, 145, 146, 147, 148, 149, 150, 151, 152, 153] (by decide +kernel) (by decide +kernel)
set_option maxRecDepth 20000 in
theorem ggX10_reset_X3_clear_9 : GoodIn wsX10_reset wsX10 := goodIn_r _ [154, 155, 156] (by decide +kernel) (by decide +kernel)
set_option maxRecDepth 20000 in
theorem ggX10_reset_X3_clear_10 : GoodIn wsX10_reset wsX40 := goodIn_r _ [157, 158, 159, 160, 161, 162, 163] (by decide +kernel) (by decide +kernel)
set_option maxRecDepth 20000 in
theorem ggX10_reset_X3_clear_11 : GoodIn wsX10_reset wsX80 := goodIn_r _ [164, 165, 166, 167] (by decide +kernel) (by decide +kernel)
set_option maxRecDepth 20000 in
theorem ggX10_reset_X3_clear_12 : GoodIn wsX10_reset wsX00 := goodIn_r _ [168, 169, 170, 171, 172, 173, 174, 175, 176] (by decide +kernel) (by decide +kernel)
set_option maxRecDepth 20000 in
theorem ggX10_reset_X3_clear_13 : GoodIn wsX10_reset wsX20 := goodIn_r _ [177, 178, 179, 180, 181, 182, 183, 184, 185, 186, 187, 188, 189, 190] (by decide +kernel) (by decide +kernel)
set_option maxRecDepth 20000 in
theorem ggX10_reset_X3_clear_14 : GoodIn wsX10_reset wsX70 := goodIn_r _ [191, 192, 193, 194] (by decide +kernel) (by decide +kernel)
set_option maxRecDepth 20000 in
theorem ggX10_reset_X3_clear_15 : GoodIn wsX10_reset wsX50 := goodIn_r _ [195, 196, 197, 198, 199] (by decide +kernel) (by decide +kernel)
theorem ggX10_reset_X3_clear : GoodIn wsX10_reset wsX3_clear := (goodIn_app (a := [.code yX3_clear cX3_clear 2 none]) ggX10_reset_X3_clear_c (goodIn_app (goodIn_app (goodIn_app (goodIn_app (goodIn_app (goodIn_app (goodIn_app (goodIn_app (goodIn_app (goodIn_app (goodIn_app ggX10_reset_X3_clear_1 (goodIn_app ggX10_reset_X3_clear_2 (goodIn_app ggX10_reset_X3_clear_3 (goodIn_app ggX10_reset_X3_clear_4 ggX10_reset_X3_clear_5)))) ggX10_reset_X3_clear_6) ggX10_reset_X3_clear_7) ggX10_reset_X3_clear_8) ggX10_reset_X3_clear_9) ggX10_reset_X3_clear_10) ggX10_reset_X3_clear_11) ggX10_reset_X3_clear_12) ggX10_reset_X3_clear_13) ggX10_reset_X3_clear_14) ggX10_reset_X3_clear_15))
set_option maxRecDepth 20000 in
theorem gX10_reset_X3_clear : GoodIn wsX10_reset (wsV RX10 42 RX3 yX3_clear wsX3_clear) := goodIn_app (goodIn_of _ (by decide +kernel)) ggX10_reset_X3_clear
set_option maxRecDepth 20000 in
theorem ggX10_reset_X10_allow : GoodIn wsX10_reset wsX10_allow := goodIn_r _ [120, 121, 122, 123, 124, 125, 126, 127] (by decide +kernel) (by decide +kernel)
set_option maxRecDepth 20000 in
theorem gX10_reset_X10_allow : GoodIn wsX10_reset (wsV RX10 68 RX10 yX10_allow wsX10_allow) := goodIn_app (goodIn_of _ (by decide +kernel)) ggX10_reset_X10_allow
theorem dX10_reset_0 : decode cX10_reset 0 = .ok (.aload_n 0, 1) := by decide +kernel
theorem dX10_reset_1 : decode cX10_reset 1 = .ok (.getfield 19, 3) := by decide +kernel
theorem dX10_reset_4 : decode cX10_reset 4 = .ok (.getfield 54, 3) := by decide +kernel
theorem dX10_reset_7 : decode cX10_reset 7 = .ok (.istore_n 1, 1) := by decide +kernel
theorem dX10_reset_8 : decode cX10_reset 8 = .ok (.aload_n 0, 1) := by decide +kernel
theorem dX10_reset_9 : decode cX10_reset 9 = .ok (.getfield 19, 3) := by decide +kernel
theorem dX10_reset_12 : decode cX10_reset 12 = .ok (.aload_n 0, 1) := by decide +kernel
theorem dX10_reset_13 : decode cX10_reset 13 = .ok (.getfield 10, 3) := by decide +kernel
theorem dX10_reset_16 : decode cX10_reset 16 = .ok (.invokevirtual 42, 3) := by decide +kernel
theorem dX10_reset_19 : decode cX10_reset 19 = .ok (.aload_n 0, 1) := by decide +kernel
theorem dX10_reset_20 : decode cX10_reset 20 = .ok (.iload_n 1, 1) := by decide +kernel
theorem dX10_reset_21 : decode cX10_reset 21 = .ok (.invokevirtual 68, 3) := by decide +kernel
theorem dX10_reset_24 : decode cX10_reset 24 = .ok (.ireturn, 1) := by decide +kernel
set_option maxRecDepth 20000 in
theorem ggX10_transfer_X10_refuse : GoodIn wsX10_transfer wsX10_refuse := goodIn_r _ [9, 10, 51, 52, 53, 54, 55, 56] (by decide +kernel) (by decide +kernel)
set_option maxRecDepth 20000 in
theorem gX10_transfer_X10_refuse : GoodIn wsX10_transfer (wsV RX10 50 RX10 yX10_refuse wsX10_refuse) := goodIn_app (goodIn_of _ (by decide +kernel)) ggX10_transfer_X10_refuse
set_option maxRecDepth 20000 in
theorem ggX10_transfer_X9_isTransfer : GoodIn wsX10_transfer wsX9_isTransfer := goodIn_r _ [14] (by decide +kernel) (by decide +kernel)
set_option maxRecDepth 20000 in
theorem gX10_transfer_X9_isTransfer : GoodIn wsX10_transfer (va_wsS RX10 99 yX9_isTransfer wsX9_isTransfer) := goodIn_app (goodIn_of _ (by decide +kernel)) ggX10_transfer_X9_isTransfer
set_option maxRecDepth 20000 in
theorem ggX10_transfer_X8_isFull : GoodIn wsX10_transfer wsX8_isFull := goodIn_r _ [19, 20, 21, 71, 72, 73, 74] (by decide +kernel) (by decide +kernel)
set_option maxRecDepth 20000 in
theorem gX10_transfer_X8_isFull : GoodIn wsX10_transfer (wsV RX10 114 RX8 yX8_isFull wsX8_isFull) := goodIn_app (goodIn_of _ (by decide +kernel)) ggX10_transfer_X8_isFull
set_option maxRecDepth 20000 in
theorem ggX10_transfer_X4_addTransfer : GoodIn wsX10_transfer wsX4_addTransfer := goodIn_r _ [26, 27, 28, 29, 30, 18, 31, 20, 32, 33, 34, 16, 17, 19, 21, 35, 36, 37, 38, 39, 40, 41, 42, 43, 44, 45, 46, 64, 65, 66, 67, 68, 69, 70, 71, 72, 73, 74] (by decide +kernel) (by decide +kernel)
set_option maxRecDepth 20000 in
theorem gX10_transfer_X4_addTransfer : GoodIn wsX10_transfer (wsV RX10 120 RX4 yX4_addTransfer wsX4_addTransfer) := goodIn_app (goodIn_of _ (by decide +kernel)) ggX10_transfer_X4_addTransfer
set_option maxRecDepth 20000 in
theorem ggX10_transfer_X10_allow : GoodIn wsX10_transfer wsX10_allow := goodIn_r _ [50, 10, 51, 52, 53, 54, 55, 56] (by decide +kernel) (by decide +kernel)
set_option maxRecDepth 20000 in
theorem gX10_transfer_X10_allow : GoodIn wsX10_transfer (wsV RX10 68 RX10 yX10_allow wsX10_allow) := goodIn_app (goodIn_of _ (by decide +kernel)) ggX10_transfer_X10_allow
theorem dX10_transfer_0 : decode cX10_transfer 0 = .ok (.iload_n 1, 1) := by decide +kernel
theorem dX10_transfer_1 : decode cX10_transfer 1 = .ok (.ifCond .lt 9, 3) := by decide +kernel
theorem dX10_transfer_4 : decode cX10_transfer 4 = .ok (.iload_n 1, 1) := by decide +kernel
theorem dX10_transfer_5 : decode cX10_transfer 5 = .ok (.ldc 98, 2) := by decide +kernel
theorem dX10_transfer_7 : decode cX10_transfer 7 = .ok (.if_icmp .le 10, 3) := by decide +kernel
theorem dX10_transfer_10 : decode cX10_transfer 10 = .ok (.aload_n 0, 1) := by decide +kernel
theorem dX10_transfer_11 : decode cX10_transfer 11 = .ok (.bipush (-2), 2) := by decide +kernel
theorem dX10_transfer_13 : decode cX10_transfer 13 = .ok (.invokevirtual 50, 3) := by decide +kernel
theorem dX10_transfer_16 : decode cX10_transfer 16 = .ok (.ireturn, 1) := by decide +kernel
theorem dX10_transfer_17 : decode cX10_transfer 17 = .ok (.iload 4, 2) := by decide +kernel
theorem dX10_transfer_19 : decode cX10_transfer 19 = .ok (.invokestatic 99, 3) := by decide +kernel
theorem dX10_transfer_22 : decode cX10_transfer 22 = .ok (.ifCond .eq 15, 3) := by decide +kernel
theorem dX10_transfer_25 : decode cX10_transfer 25 = .ok (.iload 5, 2) := by decide +kernel
theorem dX10_transfer_27 : decode cX10_transfer 27 = .ok (.ifCond .lt 10, 3) := by decide +kernel
theorem dX10_transfer_30 : decode cX10_transfer 30 = .ok (.iload 5, 2) := by decide +kernel
theorem dX10_transfer_32 : decode cX10_transfer 32 = .ok (.bipush 7, 2) := by decide +kernel
theorem dX10_transfer_34 : decode cX10_transfer 34 = .ok (.if_icmp .le 10, 3) := by decide +kernel
theorem dX10_transfer_37 : decode cX10_transfer 37 = .ok (.aload_n 0, 1) := by decide +kernel
theorem dX10_transfer_38 : decode cX10_transfer 38 = .ok (.bipush (-2), 2) := by decide +kernel
theorem dX10_transfer_40 : decode cX10_transfer 40 = .ok (.invokevirtual 50, 3) := by decide +kernel
theorem dX10_transfer_43 : decode cX10_transfer 43 = .ok (.ireturn, 1) := by decide +kernel
theorem dX10_transfer_44 : decode cX10_transfer 44 = .ok (.aload_n 0, 1) := by decide +kernel
theorem dX10_transfer_45 : decode cX10_transfer 45 = .ok (.getfield 19, 3) := by decide +kernel
theorem dX10_transfer_48 : decode cX10_transfer 48 = .ok (.getfield 106, 3) := by decide +kernel
theorem dX10_transfer_51 : decode cX10_transfer 51 = .ok (.getfield 110, 3) := by decide +kernel
theorem dX10_transfer_54 : decode cX10_transfer 54 = .ok (.invokevirtual 114, 3) := by decide +kernel
theorem dX10_transfer_57 : decode cX10_transfer 57 = .ok (.ifCond .eq 10, 3) := by decide +kernel
theorem dX10_transfer_60 : decode cX10_transfer 60 = .ok (.aload_n 0, 1) := by decide +kernel
theorem dX10_transfer_61 : decode cX10_transfer 61 = .ok (.bipush (-4), 2) := by decide +kernel
theorem dX10_transfer_63 : decode cX10_transfer 63 = .ok (.invokevirtual 50, 3) := by decide +kernel
theorem dX10_transfer_66 : decode cX10_transfer 66 = .ok (.ireturn, 1) := by decide +kernel
theorem dX10_transfer_67 : decode cX10_transfer 67 = .ok (.aload_n 0, 1) := by decide +kernel
theorem dX10_transfer_68 : decode cX10_transfer 68 = .ok (.aload_n 0, 1) := by decide +kernel
theorem dX10_transfer_69 : decode cX10_transfer 69 = .ok (.getfield 19, 3) := by decide +kernel
theorem dX10_transfer_72 : decode cX10_transfer 72 = .ok (.getfield 106, 3) := by decide +kernel
theorem dX10_transfer_75 : decode cX10_transfer 75 = .ok (.iload_n 1, 1) := by decide +kernel
theorem dX10_transfer_76 : decode cX10_transfer 76 = .ok (.iload_n 2, 1) := by decide +kernel
theorem dX10_transfer_77 : decode cX10_transfer 77 = .ok (.ifCond .eq 7, 3) := by decide +kernel
theorem dX10_transfer_80 : decode cX10_transfer 80 = .ok (.iconst 1, 1) := by decide +kernel
theorem dX10_transfer_81 : decode cX10_transfer 81 = .ok (.goto 4, 3) := by decide +kernel
theorem dX10_transfer_84 : decode cX10_transfer 84 = .ok (.iconst 0, 1) := by decide +kernel
theorem dX10_transfer_85 : decode cX10_transfer 85 = .ok (.iload_n 3, 1) := by decide +kernel
theorem dX10_transfer_86 : decode cX10_transfer 86 = .ok (.iload 4, 2) := by decide +kernel
theorem dX10_transfer_88 : decode cX10_transfer 88 = .ok (.iload 5, 2) := by decide +kernel
theorem dX10_transfer_90 : decode cX10_transfer 90 = .ok (.invokevirtual 120, 3) := by decide +kernel
theorem dX10_transfer_93 : decode cX10_transfer 93 = .ok (.invokevirtual 68, 3) := by decide +kernel
theorem dX10_transfer_96 : decode cX10_transfer 96 = .ok (.ireturn, 1) := by decide +kernel
set_option maxRecDepth 20000 in
theorem ggX10_clock_X10_refuse : GoodIn wsX10_clock wsX10_refuse := goodIn_r _ [8, 9, 325, 326, 327, 328, 329, 330] (by decide +kernel) (by decide +kernel)
set_option maxRecDepth 20000 in
theorem gX10_clock_X10_refuse : GoodIn wsX10_clock (wsV RX10 50 RX10 yX10_refuse wsX10_refuse) := goodIn_app (goodIn_of _ (by decide +kernel)) ggX10_clock_X10_refuse
set_option maxRecDepth 20000 in
theorem ggX10_clock_X3_tick_c : GoodIn wsX10_clock [.code yX3_tick cX3_tick 2 none] := goodIn_r _ [14] (by decide +kernel) (by decide +kernel)
set_option maxRecDepth 20000 in
theorem ggX10_clock_X3_tick_1 : GoodIn wsX10_clock wsX3_tick_r1 := goodIn_r _ [15, 16, 17, 18, 19, 20, 21, 22, 23, 24, 25, 26, 27, 28, 29, 30, 31, 32, 33, 34, 35, 36, 37, 38] (by decide +kernel) (by decide +kernel)
set_option maxRecDepth 20000 in
theorem ggX10_clock_X3_tick_2 : GoodIn wsX10_clock wsX3_tick_r2 := goodIn_r _ [39, 40, 41, 42, 43, 44, 45, 46, 47, 48, 49, 50, 51, 52, 53, 54, 55, 56, 57, 58, 59, 60, 61, 62] (by decide +kernel) (by decide +kernel)
set_option maxRecDepth 20000 in
theorem ggX10_clock_X3_tick_3 : GoodIn wsX10_clock wsX3_tick_r3 := goodIn_r _ [63, 64, 65, 66, 67, 68, 69, 70, 71, 72, 73, 74, 75, 76, 77, 78, 79, 80, 81, 82, 83, 84, 85, 86] (by decide +kernel) (by decide +kernel)
set_option maxRecDepth 20000 in
theorem ggX10_clock_X3_tick_4 : GoodIn wsX10_clock wsX3_tick_r4 := goodIn_r _ [87, 88, 89, 90, 91, 92, 93, 94, 95, 96, 97, 98, 99, 100, 101, 102, 103, 104, 105, 106, 107, 108, 109, 110] (by decide +kernel) (by decide +kernel)
set_option maxRecDepth 20000 in
theorem ggX10_clock_X3_tick_5 : GoodIn wsX10_clock wsX3_tick_r5 := goodIn_r _ [111, 112, 113, 114, 115, 116, 117, 118, 119, 120, 121, 122, 123, 124, 125, 126, 127, 128, 129, 130, 131, 132, 133, 134] (by decide +kernel) (by decide +kernel)
set_option maxRecDepth 20000 in
theorem ggX10_clock_X3_tick_6 : GoodIn wsX10_clock wsX3_tick_r6 := goodIn_r _ [135, 136, 137, 138, 139, 140, 141, 142, 143, 144, 145, 146, 147, 148, 149, 150, 151, 152, 153, 154, 155, 156, 157, 158] (by decide +kernel) (by decide +kernel)
set_option maxRecDepth 20000 in
theorem ggX10_clock_X3_tick_7 : GoodIn wsX10_clock wsX3_tick_r7 := goodIn_r _ [159, 160, 161, 162, 163, 164, 165, 166, 167, 168, 169, 170, 171, 172, 173, 174, 175, 176, 177, 178, 179, 180, 181, 182] (by decide +kernel) (by decide +kernel)
set_option maxRecDepth 20000 in
theorem ggX10_clock_X3_tick_8 : GoodIn wsX10_clock wsX3_tick_r8 := goodIn_r _ [183, 184, 185, 186, 187, 188, 189, 190, 191, 192, 193, 194, 195, 196, 197, 198, 199, 200, 201, 202, 203, 204, 205, 206] (by decide +kernel) (by decide +kernel)
set_option maxRecDepth 20000 in
theorem ggX10_clock_X3_tick_9 : GoodIn wsX10_clock wsX3_tick_r9 := goodIn_r _ [207, 208, 209, 210, 211, 212, 213, 214, 215, 216, 217, 218, 219, 220, 221, 222, 223, 224, 225, 226, 227, 228, 229, 230] (by decide +kernel) (by decide +kernel)
set_option maxRecDepth 20000 in
theorem ggX10_clock_X3_tick_10 : GoodIn wsX10_clock wsX3_tick_r10 := goodIn_r _ [231, 232, 233, 234, 235, 236, 237, 238, 239, 240, 241, 242, 243, 244, 245, 246, 247, 248, 249, 250, 251, 252, 253, 254] (by decide +kernel) (by decide +kernel)
set_option maxRecDepth 20000 in
theorem ggX10_clock_X3_tick_11 : GoodIn wsX10_clock wsX3_tick_r11 := goodIn_r _ [255, 256, 257, 258, 259, 260, 261, 262, 263, 264, 265, 266, 267, 268, 269, 270, 271, 272, 273, 274, 275, 276, 277, 278] (by decide +kernel) (by decide +kernel)
set_option maxRecDepth 20000 in
theorem ggX10_clock_X3_tick_12 : GoodIn wsX10_clock wsX3_tick_r12 := goodIn_r _ [279, 280, 281, 282, 283, 284, 285, 286, 287, 288, 289, 290, 291, 292, 293, 294, 295, 296, 297, 298, 299, 300, 301, 302] (by decide +kernel) (by decide +kernel)
set_option maxRecDepth 20000 in
theorem ggX10_clock_X3_tick_13 : GoodIn wsX10_clock wsX3_tick_r13 := goodIn_r _ [303, 304, 305, 306, 307, 308, 309, 310, 311, 312, 313, 314, 315, 316, 317, 318, 319, 320] (by decide +kernel) (by decide +kernel)
set_option maxRecDepth 20000 in
theorem ggX10_clock_X3_tick_14 : GoodIn wsX10_clock wsX30 := goodIn_r _ [331, 332, 333, 334, 335, 336, 337] (by decide +kernel) (by decide +kernel)
set_option maxRecDepth 20000 in
theorem ggX10_clock_X3_tick_15 : GoodIn wsX10_clock wsX90 := goodIn_r _ [338, 339, 340, 341, 342, 343] (by decide +kernel) (by decide +kernel)
set_option maxRecDepth 20000 in
theorem ggX10_clock_X3_tick_16 : GoodIn wsX10_clock wsX50 := goodIn_r _ [344, 345, 346, 347, 348] (by decide +kernel) (by decide +kernel)
set_option maxRecDepth 20000 in
theorem ggX10_clock_X3_tick_17 : GoodIn wsX10_clock wsX60 := goodIn_r _ [349, 350, 351, 352, 353, 354, 355, 356, 357, 358, 359, 360, 361] (by decide +kernel) (by decide +kernel)
set_option maxRecDepth 20000 in
theorem ggX10_clock_X3_tick_18 : GoodIn wsX10_clock wsX80 := goodIn_r _ [362, 363, 364, 365] (by decide +kernel) (by decide +kernel)
set_option maxRecDepth 20000 in
theorem ggX10_clock_X3_tick_19 : GoodIn wsX10_clock wsX40 := goodIn_r _ [366, 367, 368, 369, 370, 371, 372] (by decide +kernel) (by decide +kernel)
set_option maxRecDepth 20000 in
theorem ggX10_clock_X3_tick_20 : GoodIn wsX10_clock wsX00 := goodIn_r _ [373, 374, 375, 376, 377, 378, 379, 380, 381] (by decide +kernel) (by decide +kernel)
set_option maxRecDepth 20000 in
theorem ggX10_clock_X3_tick_21 : GoodIn wsX10_clock wsX20 := goodIn_r _ [382, 383, 384, 385, 386, 387, 388, 389, 390, 391, 392, 393, 394, 395] (by decide +kernel) (by decide +kernel)
set_option maxRecDepth 20000 in
theorem ggX10_clock_X3_tick_22 : GoodIn wsX10_clock wsX70 := goodIn_r _ [396, 397, 398, 399] (by decide +kernel) (by decide +kernel)
set_option maxRecDepth 20000 in
theorem ggX10_clock_X3_tick_23 : GoodIn wsX10_clock wsX10 := goodIn_r _ [400, 401, 402] (by decide +kernel) (by decide +kernel)
theorem ggX10_clock_X3_tick : GoodIn wsX10_clock wsX3_tick := (goodIn_app (a := [.code yX3_tick cX3_tick 2 none]) ggX10_clock_X3_tick_c (goodIn_app (goodIn_app (goodIn_app (goodIn_app (goodIn_app (goodIn_app (goodIn_app (goodIn_app (goodIn_app (goodIn_app (goodIn_app ggX10_clock_X3_tick_1 (goodIn_app ggX10_clock_X3_tick_2 (goodIn_app ggX10_clock_X3_tick_3 (goodIn_app ggX10_clock_X3_tick_4 (goodIn_app ggX10_clock_X3_tick_5 (goodIn_app ggX10_clock_X3_tick_6 (goodIn_app ggX10_clock_X3_tick_7 (goodIn_app ggX10_clock_X3_tick_8 (goodIn_app ggX10_clock_X3_tick_9 (goodIn_app ggX10_clock_X3_tick_10 (goodIn_app ggX10_clock_X3_tick_11 (goodIn_app ggX10_clock_X3_tick_12 ggX10_clock_X3_tick_13)))))))))))) ggX10_clock_X3_tick_14) ggX10_clock_X3_tick_15) ggX10_clock_X3_tick_16) ggX10_clock_X3_tick_17) ggX10_clock_X3_tick_18) ggX10_clock_X3_tick_19) ggX10_clock_X3_tick_20) ggX10_clock_X3_tick_21) ggX10_clock_X3_tick_22) ggX10_clock_X3_tick_23))
set_option maxRecDepth 20000 in
theorem gX10_clock_X3_tick : GoodIn wsX10_clock (wsV RX10 124 RX3 yX3_tick wsX3_tick) := goodIn_app (goodIn_of _ (by decide +kernel)) ggX10_clock_X3_tick
set_option maxRecDepth 20000 in
theorem ggX10_clock_X10_allow : GoodIn wsX10_clock wsX10_allow := goodIn_r _ [324, 9, 325, 326, 327, 328, 329, 330] (by decide +kernel) (by decide +kernel)
set_option maxRecDepth 20000 in
theorem gX10_clock_X10_allow : GoodIn wsX10_clock (wsV RX10 68 RX10 yX10_allow wsX10_allow) := goodIn_app (goodIn_of _ (by decide +kernel)) ggX10_clock_X10_allow
theorem dX10_clock_0 : decode cX10_clock 0 = .ok (.iload_n 1, 1) := by decide +kernel
theorem dX10_clock_1 : decode cX10_clock 1 = .ok (.ifCond .lt 10, 3) := by decide +kernel
theorem dX10_clock_4 : decode cX10_clock 4 = .ok (.iload_n 1, 1) := by decide +kernel
theorem dX10_clock_5 : decode cX10_clock 5 = .ok (.sipush 500, 3) := by decide +kernel
theorem dX10_clock_8 : decode cX10_clock 8 = .ok (.if_icmp .le 10, 3) := by decide +kernel
theorem dX10_clock_11 : decode cX10_clock 11 = .ok (.aload_n 0, 1) := by decide +kernel
theorem dX10_clock_12 : decode cX10_clock 12 = .ok (.bipush (-2), 2) := by decide +kernel
theorem dX10_clock_14 : decode cX10_clock 14 = .ok (.invokevirtual 50, 3) := by decide +kernel
theorem dX10_clock_17 : decode cX10_clock 17 = .ok (.ireturn, 1) := by decide +kernel
theorem dX10_clock_18 : decode cX10_clock 18 = .ok (.iconst 0, 1) := by decide +kernel
theorem dX10_clock_19 : decode cX10_clock 19 = .ok (.istore_n 2, 1) := by decide +kernel
theorem dX10_clock_20 : decode cX10_clock 20 = .ok (.iload_n 2, 1) := by decide +kernel
theorem dX10_clock_21 : decode cX10_clock 21 = .ok (.iload_n 1, 1) := by decide +kernel
theorem dX10_clock_22 : decode cX10_clock 22 = .ok (.if_icmp .ge 20, 3) := by decide +kernel
theorem dX10_clock_25 : decode cX10_clock 25 = .ok (.aload_n 0, 1) := by decide +kernel
theorem dX10_clock_26 : decode cX10_clock 26 = .ok (.getfield 19, 3) := by decide +kernel
theorem dX10_clock_29 : decode cX10_clock 29 = .ok (.aload_n 0, 1) := by decide +kernel
theorem dX10_clock_30 : decode cX10_clock 30 = .ok (.getfield 10, 3) := by decide +kernel
theorem dX10_clock_33 : decode cX10_clock 33 = .ok (.invokevirtual 124, 3) := by decide +kernel
theorem dX10_clock_36 : decode cX10_clock 36 = .ok (.iinc 2 1, 3) := by decide +kernel
theorem dX10_clock_39 : decode cX10_clock 39 = .ok (.goto (-19), 3) := by decide +kernel
theorem dX10_clock_42 : decode cX10_clock 42 = .ok (.aload_n 0, 1) := by decide +kernel
theorem dX10_clock_43 : decode cX10_clock 43 = .ok (.aload_n 0, 1) := by decide +kernel
theorem dX10_clock_44 : decode cX10_clock 44 = .ok (.getfield 19, 3) := by decide +kernel
theorem dX10_clock_47 : decode cX10_clock 47 = .ok (.getfield 54, 3) := by decide +kernel
theorem dX10_clock_50 : decode cX10_clock 50 = .ok (.invokevirtual 68, 3) := by decide +kernel
theorem dX10_clock_53 : decode cX10_clock 53 = .ok (.ireturn, 1) := by decide +kernel
set_option maxRecDepth 20000 in
theorem ggX10_finish_X10_refuse : GoodIn wsX10_finish wsX10_refuse := goodIn_r _ [7, 8, 336, 337, 338, 339, 340, 341] (by decide +kernel) (by decide +kernel)
set_option maxRecDepth 20000 in
theorem gX10_finish_X10_refuse : GoodIn wsX10_finish (wsV RX10 50 RX10 yX10_refuse wsX10_refuse) := goodIn_app (goodIn_of _ (by decide +kernel)) ggX10_finish_X10_refuse
set_option maxRecDepth 20000 in
theorem ggX10_finish_X3_isAtRest_c : GoodIn wsX10_finish [.code yX3_isAtRest cX3_isAtRest 1 (some .boolean)] := goodIn_r _ [13] (by decide +kernel) (by decide +kernel)
set_option maxRecDepth 20000 in
theorem ggX10_finish_X3_isAtRest_1 : GoodIn wsX10_finish ([.fieldLink RX3 28 "BusBridge$Machine" "master" "LBusBridge$Master;", .fieldLink RX3 35 "BusBridge$Machine" "bridge" "LBusBridge$Bridge;", .methodLink RX3 86 yX4_isIdle, .instanceMethod yX4_isIdle, .selects RX4 yX4_isIdle yX4_isIdle, .initialized RX4, .code yX4_isIdle cX4_isIdle 1 (some .boolean), .fieldLink RX4 36 "BusBridge$Master" "done" "I", .fieldLink RX4 39 "BusBridge$Master" "cancelled" "I", .fieldLink RX4 16 "BusBridge$Master" "rows" "LBusBridge$Table;", .fieldLink RX4 54 "BusBridge$Table" "count" "I", .methodLink RX3 90 yX0_isIdle, .instanceMethod yX0_isIdle, .selects RX0 yX0_isIdle yX0_isIdle, .initialized RX0, .code yX0_isIdle cX0_isIdle 1 (some .boolean), .fieldLink RX0 28 "BusBridge$Bridge" "posted" "I", .fieldLink RX0 10 "BusBridge$Bridge" "lower" "LBusBridge$Lower;", .fieldLink RX0 58 "BusBridge$Lower" "phase" "I", .fieldLink RX0 32 "BusBridge$Bridge" "state" "I"] : List Cond) := goodIn_r _ [14, 15, 16, 17, 18, 19, 20, 21, 22, 23, 24, 25, 26, 27, 28, 29, 30, 31, 32, 33] (by decide +kernel) (by decide +kernel)
set_option maxRecDepth 20000 in
theorem ggX10_finish_X3_isAtRest_2 : GoodIn wsX10_finish wsX30 := goodIn_r _ [342, 343, 344, 345, 346, 347, 348] (by decide +kernel) (by decide +kernel)
set_option maxRecDepth 20000 in
theorem ggX10_finish_X3_isAtRest_3 : GoodIn wsX10_finish wsX40 := goodIn_r _ [349, 350, 351, 352, 353, 354, 355] (by decide +kernel) (by decide +kernel)
set_option maxRecDepth 20000 in
theorem ggX10_finish_X3_isAtRest_4 : GoodIn wsX10_finish wsX80 := goodIn_r _ [356, 357, 358, 359] (by decide +kernel) (by decide +kernel)
set_option maxRecDepth 20000 in
theorem ggX10_finish_X3_isAtRest_5 : GoodIn wsX10_finish wsX00 := goodIn_r _ [360, 361, 362, 363, 364, 365, 366, 367, 368] (by decide +kernel) (by decide +kernel)
set_option maxRecDepth 20000 in
theorem ggX10_finish_X3_isAtRest_6 : GoodIn wsX10_finish wsX20 := goodIn_r _ [369, 370, 371, 372, 373, 374, 375, 376, 377, 378, 379, 380, 381, 382] (by decide +kernel) (by decide +kernel)
theorem ggX10_finish_X3_isAtRest : GoodIn wsX10_finish wsX3_isAtRest := (goodIn_app (a := [.code yX3_isAtRest cX3_isAtRest 1 (some .boolean)]) ggX10_finish_X3_isAtRest_c (goodIn_app (goodIn_app (goodIn_app (goodIn_app (goodIn_app ggX10_finish_X3_isAtRest_1 ggX10_finish_X3_isAtRest_2) ggX10_finish_X3_isAtRest_3) ggX10_finish_X3_isAtRest_4) ggX10_finish_X3_isAtRest_5) ggX10_finish_X3_isAtRest_6))
set_option maxRecDepth 20000 in
theorem gX10_finish_X3_isAtRest : GoodIn wsX10_finish (wsV RX10 127 RX3 yX3_isAtRest wsX3_isAtRest) := goodIn_app (goodIn_of _ (by decide +kernel)) ggX10_finish_X3_isAtRest
set_option maxRecDepth 20000 in
theorem ggX10_finish_X3_tick_c : GoodIn wsX10_finish [.code yX3_tick cX3_tick 2 none] := goodIn_r _ [37] (by decide +kernel) (by decide +kernel)
set_option maxRecDepth 20000 in
theorem ggX10_finish_X3_tick_1 : GoodIn wsX10_finish wsX3_tick_r1 := goodIn_r _ [38, 39, 40, 14, 15, 41, 42, 43, 44, 45, 46, 47, 48, 49, 50, 51, 52, 53, 54, 55, 56, 57, 58, 59] (by decide +kernel) (by decide +kernel)
set_option maxRecDepth 20000 in
theorem ggX10_finish_X3_tick_2 : GoodIn wsX10_finish wsX3_tick_r2 := goodIn_r _ [60, 61, 62, 63, 64, 65, 66, 67, 68, 69, 70, 71, 72, 73, 74, 75, 76, 77, 78, 79, 80, 81, 82, 83] (by decide +kernel) (by decide +kernel)
set_option maxRecDepth 20000 in
theorem ggX10_finish_X3_tick_3 : GoodIn wsX10_finish wsX3_tick_r3 := goodIn_r _ [84, 85, 86, 87, 88, 89, 90, 91, 92, 93, 94, 95, 96, 97, 98, 99, 100, 101, 102, 103, 104, 105, 106, 107] (by decide +kernel) (by decide +kernel)
set_option maxRecDepth 20000 in
theorem ggX10_finish_X3_tick_4 : GoodIn wsX10_finish wsX3_tick_r4 := goodIn_r _ [108, 109, 110, 111, 112, 113, 114, 115, 116, 117, 118, 119, 120, 121, 122, 123, 124, 125, 126, 127, 128, 129, 130, 131] (by decide +kernel) (by decide +kernel)
set_option maxRecDepth 20000 in
theorem ggX10_finish_X3_tick_5 : GoodIn wsX10_finish wsX3_tick_r5 := goodIn_r _ [132, 133, 134, 135, 136, 137, 138, 139, 140, 141, 142, 143, 144, 145, 146, 147, 148, 149, 150, 151, 152, 153, 154, 155] (by decide +kernel) (by decide +kernel)
set_option maxRecDepth 20000 in
theorem ggX10_finish_X3_tick_6 : GoodIn wsX10_finish wsX3_tick_r6 := goodIn_r _ [156, 157, 158, 19, 159, 160, 161, 162, 163, 164, 165, 166, 23, 21, 167, 168, 169, 170, 171, 172, 173, 174, 175, 176] (by decide +kernel) (by decide +kernel)
set_option maxRecDepth 20000 in
theorem ggX10_finish_X3_tick_7 : GoodIn wsX10_finish wsX3_tick_r7 := goodIn_r _ [177, 178, 179, 180, 181, 24, 182, 183, 184, 185, 186, 187, 188, 189, 190, 22, 191, 192, 193, 28, 194, 31, 32, 33] (by decide +kernel) (by decide +kernel)
set_option maxRecDepth 20000 in
theorem ggX10_finish_X3_tick_8 : GoodIn wsX10_finish wsX3_tick_r8 := goodIn_r _ [195, 196, 197, 198, 199, 200, 201, 202, 203, 204, 205, 206, 207, 208, 209, 210, 211, 212, 213, 214, 215, 216, 217, 218] (by decide +kernel) (by decide +kernel)
set_option maxRecDepth 20000 in
theorem ggX10_finish_X3_tick_9 : GoodIn wsX10_finish wsX3_tick_r9 := goodIn_r _ [219, 220, 221, 222, 223, 224, 225, 226, 227, 228, 30, 229, 230, 231, 232, 233, 234, 235, 236, 237, 238, 239, 240, 241] (by decide +kernel) (by decide +kernel)
set_option maxRecDepth 20000 in
theorem ggX10_finish_X3_tick_10 : GoodIn wsX10_finish wsX3_tick_r10 := goodIn_r _ [242, 243, 244, 245, 246, 247, 248, 249, 250, 251, 252, 253, 254, 255, 256, 257, 258, 259, 260, 261, 262, 263, 264, 265] (by decide +kernel) (by decide +kernel)
set_option maxRecDepth 20000 in
theorem ggX10_finish_X3_tick_11 : GoodIn wsX10_finish wsX3_tick_r11 := goodIn_r _ [266, 267, 268, 269, 270, 271, 272, 273, 274, 275, 276, 277, 278, 279, 280, 281, 282, 283, 284, 285, 286, 287, 288, 289] (by decide +kernel) (by decide +kernel)
set_option maxRecDepth 20000 in
theorem ggX10_finish_X3_tick_12 : GoodIn wsX10_finish wsX3_tick_r12 := goodIn_r _ [290, 291, 292, 293, 294, 295, 296, 297, 298, 299, 300, 301, 302, 303, 304, 305, 306, 307, 308, 309, 310, 311, 312, 313] (by decide +kernel) (by decide +kernel)
set_option maxRecDepth 20000 in
theorem ggX10_finish_X3_tick_13 : GoodIn wsX10_finish wsX3_tick_r13 := goodIn_r _ [314, 315, 316, 317, 318, 319, 320, 321, 322, 323, 324, 325, 326, 327, 328, 329, 330, 331] (by decide +kernel) (by decide +kernel)
set_option maxRecDepth 20000 in
theorem ggX10_finish_X3_tick_14 : GoodIn wsX10_finish wsX30 := goodIn_r _ [342, 343, 344, 345, 346, 347, 348] (by decide +kernel) (by decide +kernel)
set_option maxRecDepth 20000 in
theorem ggX10_finish_X3_tick_15 : GoodIn wsX10_finish wsX90 := goodIn_r _ [383, 384, 385, 386, 387, 388] (by decide +kernel) (by decide +kernel)
set_option maxRecDepth 20000 in
theorem ggX10_finish_X3_tick_16 : GoodIn wsX10_finish wsX50 := goodIn_r _ [389, 390, 391, 392, 393] (by decide +kernel) (by decide +kernel)
set_option maxRecDepth 20000 in
theorem ggX10_finish_X3_tick_17 : GoodIn wsX10_finish wsX60 := goodIn_r _ [394, 395, 396, 397, 398, 399, 400, 401, 402, 403, 404, 405, 406] (by decide +kernel) (by decide +kernel)
set_option maxRecDepth 20000 in
theorem ggX10_finish_X3_tick_18 : GoodIn wsX10_finish wsX80 := goodIn_r _ [356, 357, 358, 359] (by decide +kernel) (by decide +kernel)
set_option maxRecDepth 20000 in
theorem ggX10_finish_X3_tick_19 : GoodIn wsX10_finish wsX40 := goodIn_r _ [349, 350, 351, 352, 353, 354, 355] (by decide +kernel) (by decide +kernel)
set_option maxRecDepth 20000 in
theorem ggX10_finish_X3_tick_20 : GoodIn wsX10_finish wsX00 := goodIn_r _ [360, 361, 362, 363, 364, 365, 366, 367, 368] (by decide +kernel) (by decide +kernel)
set_option maxRecDepth 20000 in
theorem ggX10_finish_X3_tick_21 : GoodIn wsX10_finish wsX20 := goodIn_r _ [369, 370, 371, 372, 373, 374, 375, 376, 377, 378, 379, 380, 381, 382] (by decide +kernel) (by decide +kernel)
set_option maxRecDepth 20000 in
theorem ggX10_finish_X3_tick_22 : GoodIn wsX10_finish wsX70 := goodIn_r _ [407, 408, 409, 410] (by decide +kernel) (by decide +kernel)
set_option maxRecDepth 20000 in
theorem ggX10_finish_X3_tick_23 : GoodIn wsX10_finish wsX10 := goodIn_r _ [411, 412, 413] (by decide +kernel) (by decide +kernel)
theorem ggX10_finish_X3_tick : GoodIn wsX10_finish wsX3_tick := (goodIn_app (a := [.code yX3_tick cX3_tick 2 none]) ggX10_finish_X3_tick_c (goodIn_app (goodIn_app (goodIn_app (goodIn_app (goodIn_app (goodIn_app (goodIn_app (goodIn_app (goodIn_app (goodIn_app (goodIn_app ggX10_finish_X3_tick_1 (goodIn_app ggX10_finish_X3_tick_2 (goodIn_app ggX10_finish_X3_tick_3 (goodIn_app ggX10_finish_X3_tick_4 (goodIn_app ggX10_finish_X3_tick_5 (goodIn_app ggX10_finish_X3_tick_6 (goodIn_app ggX10_finish_X3_tick_7 (goodIn_app ggX10_finish_X3_tick_8 (goodIn_app ggX10_finish_X3_tick_9 (goodIn_app ggX10_finish_X3_tick_10 (goodIn_app ggX10_finish_X3_tick_11 (goodIn_app ggX10_finish_X3_tick_12 ggX10_finish_X3_tick_13)))))))))))) ggX10_finish_X3_tick_14) ggX10_finish_X3_tick_15) ggX10_finish_X3_tick_16) ggX10_finish_X3_tick_17) ggX10_finish_X3_tick_18) ggX10_finish_X3_tick_19) ggX10_finish_X3_tick_20) ggX10_finish_X3_tick_21) ggX10_finish_X3_tick_22) ggX10_finish_X3_tick_23))
set_option maxRecDepth 20000 in
theorem gX10_finish_X3_tick : GoodIn wsX10_finish (wsV RX10 124 RX3 yX3_tick wsX3_tick) := goodIn_app (goodIn_of _ (by decide +kernel)) ggX10_finish_X3_tick
set_option maxRecDepth 20000 in
theorem ggX10_finish_X10_allow : GoodIn wsX10_finish wsX10_allow := goodIn_r _ [335, 8, 336, 337, 338, 339, 340, 341] (by decide +kernel) (by decide +kernel)
set_option maxRecDepth 20000 in
theorem gX10_finish_X10_allow : GoodIn wsX10_finish (wsV RX10 68 RX10 yX10_allow wsX10_allow) := goodIn_app (goodIn_of _ (by decide +kernel)) ggX10_finish_X10_allow
theorem dX10_finish_0 : decode cX10_finish 0 = .ok (.iload_n 1, 1) := by decide +kernel
theorem dX10_finish_1 : decode cX10_finish 1 = .ok (.ifCond .lt 10, 3) := by decide +kernel
theorem dX10_finish_4 : decode cX10_finish 4 = .ok (.iload_n 1, 1) := by decide +kernel
theorem dX10_finish_5 : decode cX10_finish 5 = .ok (.sipush 2000, 3) := by decide +kernel
theorem dX10_finish_8 : decode cX10_finish 8 = .ok (.if_icmp .le 10, 3) := by decide +kernel
theorem dX10_finish_11 : decode cX10_finish 11 = .ok (.aload_n 0, 1) := by decide +kernel
theorem dX10_finish_12 : decode cX10_finish 12 = .ok (.bipush (-2), 2) := by decide +kernel
theorem dX10_finish_14 : decode cX10_finish 14 = .ok (.invokevirtual 50, 3) := by decide +kernel
theorem dX10_finish_17 : decode cX10_finish 17 = .ok (.ireturn, 1) := by decide +kernel
theorem dX10_finish_18 : decode cX10_finish 18 = .ok (.iconst 0, 1) := by decide +kernel
theorem dX10_finish_19 : decode cX10_finish 19 = .ok (.istore_n 2, 1) := by decide +kernel
theorem dX10_finish_20 : decode cX10_finish 20 = .ok (.iload_n 2, 1) := by decide +kernel
theorem dX10_finish_21 : decode cX10_finish 21 = .ok (.iload_n 1, 1) := by decide +kernel
theorem dX10_finish_22 : decode cX10_finish 22 = .ok (.if_icmp .ge 30, 3) := by decide +kernel
theorem dX10_finish_25 : decode cX10_finish 25 = .ok (.aload_n 0, 1) := by decide +kernel
theorem dX10_finish_26 : decode cX10_finish 26 = .ok (.getfield 19, 3) := by decide +kernel
theorem dX10_finish_29 : decode cX10_finish 29 = .ok (.invokevirtual 127, 3) := by decide +kernel
theorem dX10_finish_32 : decode cX10_finish 32 = .ok (.ifCond .ne 20, 3) := by decide +kernel
theorem dX10_finish_35 : decode cX10_finish 35 = .ok (.aload_n 0, 1) := by decide +kernel
theorem dX10_finish_36 : decode cX10_finish 36 = .ok (.getfield 19, 3) := by decide +kernel
theorem dX10_finish_39 : decode cX10_finish 39 = .ok (.aload_n 0, 1) := by decide +kernel
theorem dX10_finish_40 : decode cX10_finish 40 = .ok (.getfield 10, 3) := by decide +kernel
theorem dX10_finish_43 : decode cX10_finish 43 = .ok (.invokevirtual 124, 3) := by decide +kernel
theorem dX10_finish_46 : decode cX10_finish 46 = .ok (.iinc 2 1, 3) := by decide +kernel
theorem dX10_finish_49 : decode cX10_finish 49 = .ok (.goto (-29), 3) := by decide +kernel
theorem dX10_finish_52 : decode cX10_finish 52 = .ok (.aload_n 0, 1) := by decide +kernel
theorem dX10_finish_53 : decode cX10_finish 53 = .ok (.iload_n 2, 1) := by decide +kernel
theorem dX10_finish_54 : decode cX10_finish 54 = .ok (.invokevirtual 68, 3) := by decide +kernel
theorem dX10_finish_57 : decode cX10_finish 57 = .ok (.ireturn, 1) := by decide +kernel
set_option maxRecDepth 20000 in
theorem ggX10_turn_X9_isWire : GoodIn wsX10_turn wsX9_isWire := goodIn_r _ [7] (by decide +kernel) (by decide +kernel)
set_option maxRecDepth 20000 in
theorem gX10_turn_X9_isWire : GoodIn wsX10_turn (va_wsS RX10 130 yX9_isWire wsX9_isWire) := goodIn_app (goodIn_of _ (by decide +kernel)) ggX10_turn_X9_isWire
set_option maxRecDepth 20000 in
theorem ggX10_turn_X10_refuse : GoodIn wsX10_turn wsX10_refuse := goodIn_r _ [12, 13, 25, 26, 27, 28, 29, 30] (by decide +kernel) (by decide +kernel)
set_option maxRecDepth 20000 in
theorem gX10_turn_X10_refuse : GoodIn wsX10_turn (wsV RX10 50 RX10 yX10_refuse wsX10_refuse) := goodIn_app (goodIn_of _ (by decide +kernel)) ggX10_turn_X10_refuse
set_option maxRecDepth 20000 in
theorem ggX10_turn_X9_exchange : GoodIn wsX10_turn wsX9_exchange := goodIn_r _ [17, 18, 19, 20, 38, 39, 40, 41, 42, 43] (by decide +kernel) (by decide +kernel)
set_option maxRecDepth 20000 in
theorem gX10_turn_X9_exchange : GoodIn wsX10_turn (wsV RX10 137 RX9 yX9_exchange wsX9_exchange) := goodIn_app (goodIn_of _ (by decide +kernel)) ggX10_turn_X9_exchange
set_option maxRecDepth 20000 in
theorem ggX10_turn_X10_allow : GoodIn wsX10_turn wsX10_allow := goodIn_r _ [24, 13, 25, 26, 27, 28, 29, 30] (by decide +kernel) (by decide +kernel)
set_option maxRecDepth 20000 in
theorem gX10_turn_X10_allow : GoodIn wsX10_turn (wsV RX10 68 RX10 yX10_allow wsX10_allow) := goodIn_app (goodIn_of _ (by decide +kernel)) ggX10_turn_X10_allow
theorem dX10_turn_0 : decode cX10_turn 0 = .ok (.iload_n 1, 1) := by decide +kernel
theorem dX10_turn_1 : decode cX10_turn 1 = .ok (.invokestatic 130, 3) := by decide +kernel
theorem dX10_turn_4 : decode cX10_turn 4 = .ok (.ifCond .ne 9, 3) := by decide +kernel
theorem dX10_turn_7 : decode cX10_turn 7 = .ok (.aload_n 0, 1) := by decide +kernel
theorem dX10_turn_8 : decode cX10_turn 8 = .ok (.iconst (-1), 1) := by decide +kernel
theorem dX10_turn_9 : decode cX10_turn 9 = .ok (.invokevirtual 50, 3) := by decide +kernel
theorem dX10_turn_12 : decode cX10_turn 12 = .ok (.ireturn, 1) := by decide +kernel
theorem dX10_turn_13 : decode cX10_turn 13 = .ok (.iload_n 3, 1) := by decide +kernel
theorem dX10_turn_14 : decode cX10_turn 14 = .ok (.iconst 1, 1) := by decide +kernel
theorem dX10_turn_15 : decode cX10_turn 15 = .ok (.if_icmp .lt 9, 3) := by decide +kernel
theorem dX10_turn_18 : decode cX10_turn 18 = .ok (.iload_n 3, 1) := by decide +kernel
theorem dX10_turn_19 : decode cX10_turn 19 = .ok (.bipush 100, 2) := by decide +kernel
theorem dX10_turn_21 : decode cX10_turn 21 = .ok (.if_icmp .le 10, 3) := by decide +kernel
theorem dX10_turn_24 : decode cX10_turn 24 = .ok (.aload_n 0, 1) := by decide +kernel
theorem dX10_turn_25 : decode cX10_turn 25 = .ok (.bipush (-2), 2) := by decide +kernel
theorem dX10_turn_27 : decode cX10_turn 27 = .ok (.invokevirtual 50, 3) := by decide +kernel
theorem dX10_turn_30 : decode cX10_turn 30 = .ok (.ireturn, 1) := by decide +kernel
theorem dX10_turn_31 : decode cX10_turn 31 = .ok (.aload_n 0, 1) := by decide +kernel
theorem dX10_turn_32 : decode cX10_turn 32 = .ok (.getfield 19, 3) := by decide +kernel
theorem dX10_turn_35 : decode cX10_turn 35 = .ok (.getfield 133, 3) := by decide +kernel
theorem dX10_turn_38 : decode cX10_turn 38 = .ok (.iload_n 1, 1) := by decide +kernel
theorem dX10_turn_39 : decode cX10_turn 39 = .ok (.iload_n 2, 1) := by decide +kernel
theorem dX10_turn_40 : decode cX10_turn 40 = .ok (.aload_n 0, 1) := by decide +kernel
theorem dX10_turn_41 : decode cX10_turn 41 = .ok (.getfield 19, 3) := by decide +kernel
theorem dX10_turn_44 : decode cX10_turn 44 = .ok (.getfield 54, 3) := by decide +kernel
theorem dX10_turn_47 : decode cX10_turn 47 = .ok (.iload_n 3, 1) := by decide +kernel
theorem dX10_turn_48 : decode cX10_turn 48 = .ok (.invokevirtual 137, 3) := by decide +kernel
theorem dX10_turn_51 : decode cX10_turn 51 = .ok (.aload_n 0, 1) := by decide +kernel
theorem dX10_turn_52 : decode cX10_turn 52 = .ok (.iconst 1, 1) := by decide +kernel
theorem dX10_turn_53 : decode cX10_turn 53 = .ok (.invokevirtual 68, 3) := by decide +kernel
theorem dX10_turn_56 : decode cX10_turn 56 = .ok (.ireturn, 1) := by decide +kernel
set_option maxRecDepth 20000 in
theorem ggX10_wire_X9_isWire : GoodIn wsX10_wire wsX9_isWire := goodIn_r _ [7] (by decide +kernel) (by decide +kernel)
set_option maxRecDepth 20000 in
theorem gX10_wire_X9_isWire : GoodIn wsX10_wire (va_wsS RX10 130 yX9_isWire wsX9_isWire) := goodIn_app (goodIn_of _ (by decide +kernel)) ggX10_wire_X9_isWire
set_option maxRecDepth 20000 in
theorem ggX10_wire_X10_refuseWithZero : GoodIn wsX10_wire wsX10_refuseWithZero := goodIn_r _ [12, 13, 26, 27, 28, 29, 30, 31] (by decide +kernel) (by decide +kernel)
set_option maxRecDepth 20000 in
theorem gX10_wire_X10_refuseWithZero : GoodIn wsX10_wire (wsV RX10 140 RX10 yX10_refuseWithZero wsX10_refuseWithZero) := goodIn_app (goodIn_of _ (by decide +kernel)) ggX10_wire_X10_refuseWithZero
set_option maxRecDepth 20000 in
theorem ggX10_wire_X9_shown : GoodIn wsX10_wire wsX9_shown := goodIn_r _ [17, 18, 19, 20, 21, 39, 40, 41, 42, 43, 44] (by decide +kernel) (by decide +kernel)
set_option maxRecDepth 20000 in
theorem gX10_wire_X9_shown : GoodIn wsX10_wire (wsV RX10 143 RX9 yX9_shown wsX9_shown) := goodIn_app (goodIn_of _ (by decide +kernel)) ggX10_wire_X9_shown
set_option maxRecDepth 20000 in
theorem ggX10_wire_X10_allow : GoodIn wsX10_wire wsX10_allow := goodIn_r _ [25, 13, 26, 27, 28, 29, 30, 31] (by decide +kernel) (by decide +kernel)
set_option maxRecDepth 20000 in
theorem gX10_wire_X10_allow : GoodIn wsX10_wire (wsV RX10 68 RX10 yX10_allow wsX10_allow) := goodIn_app (goodIn_of _ (by decide +kernel)) ggX10_wire_X10_allow
theorem dX10_wire_0 : decode cX10_wire 0 = .ok (.iload_n 1, 1) := by decide +kernel
theorem dX10_wire_1 : decode cX10_wire 1 = .ok (.invokestatic 130, 3) := by decide +kernel
theorem dX10_wire_4 : decode cX10_wire 4 = .ok (.ifCond .ne 9, 3) := by decide +kernel
theorem dX10_wire_7 : decode cX10_wire 7 = .ok (.aload_n 0, 1) := by decide +kernel
theorem dX10_wire_8 : decode cX10_wire 8 = .ok (.iconst (-1), 1) := by decide +kernel
theorem dX10_wire_9 : decode cX10_wire 9 = .ok (.invokevirtual 140, 3) := by decide +kernel
theorem dX10_wire_12 : decode cX10_wire 12 = .ok (.ireturn, 1) := by decide +kernel
theorem dX10_wire_13 : decode cX10_wire 13 = .ok (.aload_n 0, 1) := by decide +kernel
theorem dX10_wire_14 : decode cX10_wire 14 = .ok (.aload_n 0, 1) := by decide +kernel
theorem dX10_wire_15 : decode cX10_wire 15 = .ok (.getfield 19, 3) := by decide +kernel
theorem dX10_wire_18 : decode cX10_wire 18 = .ok (.getfield 133, 3) := by decide +kernel
theorem dX10_wire_21 : decode cX10_wire 21 = .ok (.iload_n 1, 1) := by decide +kernel
theorem dX10_wire_22 : decode cX10_wire 22 = .ok (.aload_n 0, 1) := by decide +kernel
theorem dX10_wire_23 : decode cX10_wire 23 = .ok (.getfield 19, 3) := by decide +kernel
theorem dX10_wire_26 : decode cX10_wire 26 = .ok (.getfield 54, 3) := by decide +kernel
theorem dX10_wire_29 : decode cX10_wire 29 = .ok (.invokevirtual 143, 3) := by decide +kernel
theorem dX10_wire_32 : decode cX10_wire 32 = .ok (.invokevirtual 68, 3) := by decide +kernel
theorem dX10_wire_35 : decode cX10_wire 35 = .ok (.ireturn, 1) := by decide +kernel
set_option maxRecDepth 20000 in
theorem ggX10_under_X9_isWire : GoodIn wsX10_under wsX9_isWire := goodIn_r _ [7] (by decide +kernel) (by decide +kernel)
set_option maxRecDepth 20000 in
theorem gX10_under_X9_isWire : GoodIn wsX10_under (va_wsS RX10 130 yX9_isWire wsX9_isWire) := goodIn_app (goodIn_of _ (by decide +kernel)) ggX10_under_X9_isWire
set_option maxRecDepth 20000 in
theorem ggX10_under_X10_refuseWithZero : GoodIn wsX10_under wsX10_refuseWithZero := goodIn_r _ [12, 13, 18, 19, 20, 21, 22, 23] (by decide +kernel) (by decide +kernel)
set_option maxRecDepth 20000 in
theorem gX10_under_X10_refuseWithZero : GoodIn wsX10_under (wsV RX10 140 RX10 yX10_refuseWithZero wsX10_refuseWithZero) := goodIn_app (goodIn_of _ (by decide +kernel)) ggX10_under_X10_refuseWithZero
set_option maxRecDepth 20000 in
theorem ggX10_under_X10_allow : GoodIn wsX10_under wsX10_allow := goodIn_r _ [17, 13, 18, 19, 20, 21, 22, 23] (by decide +kernel) (by decide +kernel)
set_option maxRecDepth 20000 in
theorem gX10_under_X10_allow : GoodIn wsX10_under (wsV RX10 68 RX10 yX10_allow wsX10_allow) := goodIn_app (goodIn_of _ (by decide +kernel)) ggX10_under_X10_allow
theorem dX10_under_0 : decode cX10_under 0 = .ok (.iload_n 1, 1) := by decide +kernel
theorem dX10_under_1 : decode cX10_under 1 = .ok (.invokestatic 130, 3) := by decide +kernel
theorem dX10_under_4 : decode cX10_under 4 = .ok (.ifCond .ne 9, 3) := by decide +kernel
theorem dX10_under_7 : decode cX10_under 7 = .ok (.aload_n 0, 1) := by decide +kernel
theorem dX10_under_8 : decode cX10_under 8 = .ok (.iconst (-1), 1) := by decide +kernel
theorem dX10_under_9 : decode cX10_under 9 = .ok (.invokevirtual 140, 3) := by decide +kernel
theorem dX10_under_12 : decode cX10_under 12 = .ok (.ireturn, 1) := by decide +kernel
theorem dX10_under_13 : decode cX10_under 13 = .ok (.aload_n 0, 1) := by decide +kernel
theorem dX10_under_14 : decode cX10_under 14 = .ok (.aload_n 0, 1) := by decide +kernel
theorem dX10_under_15 : decode cX10_under 15 = .ok (.getfield 19, 3) := by decide +kernel
theorem dX10_under_18 : decode cX10_under 18 = .ok (.getfield 133, 3) := by decide +kernel
theorem dX10_under_21 : decode cX10_under 21 = .ok (.getfield 146, 3) := by decide +kernel
theorem dX10_under_24 : decode cX10_under 24 = .ok (.iload_n 1, 1) := by decide +kernel
theorem dX10_under_25 : decode cX10_under 25 = .ok (.iaload, 1) := by decide +kernel
theorem dX10_under_26 : decode cX10_under 26 = .ok (.invokevirtual 68, 3) := by decide +kernel
theorem dX10_under_29 : decode cX10_under 29 = .ok (.ireturn, 1) := by decide +kernel
set_option maxRecDepth 20000 in
theorem ggX10_result_X8_hasRow : GoodIn wsX10_result wsX8_hasRow := goodIn_r _ [8, 9, 51, 52, 53, 54] (by decide +kernel) (by decide +kernel)
set_option maxRecDepth 20000 in
theorem gX10_result_X8_hasRow : GoodIn wsX10_result (wsV RX10 149 RX8 yX8_hasRow wsX8_hasRow) := goodIn_app (goodIn_of _ (by decide +kernel)) ggX10_result_X8_hasRow
set_option maxRecDepth 20000 in
theorem ggX10_result_X10_refuseWithZero : GoodIn wsX10_result wsX10_refuseWithZero := goodIn_r _ [14, 15, 31, 32, 33, 34, 35, 36] (by decide +kernel) (by decide +kernel)
set_option maxRecDepth 20000 in
theorem gX10_result_X10_refuseWithZero : GoodIn wsX10_result (wsV RX10 140 RX10 yX10_refuseWithZero wsX10_refuseWithZero) := goodIn_app (goodIn_of _ (by decide +kernel)) ggX10_result_X10_refuseWithZero
set_option maxRecDepth 20000 in
theorem ggX10_result_X8_get : GoodIn wsX10_result wsX8_get := goodIn_r _ [19, 20, 21, 22, 5, 6, 7, 8, 9, 23, 24, 25, 26, 51, 52, 53, 54] (by decide +kernel) (by decide +kernel)
set_option maxRecDepth 20000 in
theorem gX10_result_X8_get : GoodIn wsX10_result (wsV RX10 152 RX8 yX8_get wsX8_get) := goodIn_app (goodIn_of _ (by decide +kernel)) ggX10_result_X8_get
set_option maxRecDepth 20000 in
theorem ggX10_result_X10_allow : GoodIn wsX10_result wsX10_allow := goodIn_r _ [30, 15, 31, 32, 33, 34, 35, 36] (by decide +kernel) (by decide +kernel)
set_option maxRecDepth 20000 in
theorem gX10_result_X10_allow : GoodIn wsX10_result (wsV RX10 68 RX10 yX10_allow wsX10_allow) := goodIn_app (goodIn_of _ (by decide +kernel)) ggX10_result_X10_allow
theorem dX10_result_0 : decode cX10_result 0 = .ok (.aload_n 0, 1) := by decide +kernel
theorem dX10_result_1 : decode cX10_result 1 = .ok (.getfield 19, 3) := by decide +kernel
theorem dX10_result_4 : decode cX10_result 4 = .ok (.getfield 106, 3) := by decide +kernel
theorem dX10_result_7 : decode cX10_result 7 = .ok (.getfield 110, 3) := by decide +kernel
theorem dX10_result_10 : decode cX10_result 10 = .ok (.astore_n 3, 1) := by decide +kernel
theorem dX10_result_11 : decode cX10_result 11 = .ok (.aload_n 3, 1) := by decide +kernel
theorem dX10_result_12 : decode cX10_result 12 = .ok (.iload_n 1, 1) := by decide +kernel
theorem dX10_result_13 : decode cX10_result 13 = .ok (.invokevirtual 149, 3) := by decide +kernel
theorem dX10_result_16 : decode cX10_result 16 = .ok (.ifCond .ne 9, 3) := by decide +kernel
theorem dX10_result_19 : decode cX10_result 19 = .ok (.aload_n 0, 1) := by decide +kernel
theorem dX10_result_20 : decode cX10_result 20 = .ok (.iconst (-1), 1) := by decide +kernel
theorem dX10_result_21 : decode cX10_result 21 = .ok (.invokevirtual 140, 3) := by decide +kernel
theorem dX10_result_24 : decode cX10_result 24 = .ok (.ireturn, 1) := by decide +kernel
theorem dX10_result_25 : decode cX10_result 25 = .ok (.iload_n 2, 1) := by decide +kernel
theorem dX10_result_26 : decode cX10_result 26 = .ok (.ifCond .lt 8, 3) := by decide +kernel
theorem dX10_result_29 : decode cX10_result 29 = .ok (.iload_n 2, 1) := by decide +kernel
theorem dX10_result_30 : decode cX10_result 30 = .ok (.iconst 4, 1) := by decide +kernel
theorem dX10_result_31 : decode cX10_result 31 = .ok (.if_icmp .lt 10, 3) := by decide +kernel
theorem dX10_result_34 : decode cX10_result 34 = .ok (.aload_n 0, 1) := by decide +kernel
theorem dX10_result_35 : decode cX10_result 35 = .ok (.bipush (-2), 2) := by decide +kernel
theorem dX10_result_37 : decode cX10_result 37 = .ok (.invokevirtual 140, 3) := by decide +kernel
theorem dX10_result_40 : decode cX10_result 40 = .ok (.ireturn, 1) := by decide +kernel
theorem dX10_result_41 : decode cX10_result 41 = .ok (.aload_n 0, 1) := by decide +kernel
theorem dX10_result_42 : decode cX10_result 42 = .ok (.aload_n 3, 1) := by decide +kernel
theorem dX10_result_43 : decode cX10_result 43 = .ok (.iload_n 1, 1) := by decide +kernel
theorem dX10_result_44 : decode cX10_result 44 = .ok (.iload_n 2, 1) := by decide +kernel
theorem dX10_result_45 : decode cX10_result 45 = .ok (.invokevirtual 152, 3) := by decide +kernel
theorem dX10_result_48 : decode cX10_result 48 = .ok (.invokevirtual 68, 3) := by decide +kernel
theorem dX10_result_51 : decode cX10_result 51 = .ok (.ireturn, 1) := by decide +kernel
set_option maxRecDepth 20000 in
theorem ggX10_log_X8_hasRow : GoodIn wsX10_log wsX8_hasRow := goodIn_r _ [9, 10, 69, 70, 71, 72] (by decide +kernel) (by decide +kernel)
set_option maxRecDepth 20000 in
theorem gX10_log_X8_hasRow : GoodIn wsX10_log (wsV RX10 149 RX8 yX8_hasRow wsX8_hasRow) := goodIn_app (goodIn_of _ (by decide +kernel)) ggX10_log_X8_hasRow
set_option maxRecDepth 20000 in
theorem ggX10_log_X10_refuseWithZero : GoodIn wsX10_log wsX10_refuseWithZero := goodIn_r _ [15, 16, 33, 34, 35, 36, 37, 38] (by decide +kernel) (by decide +kernel)
set_option maxRecDepth 20000 in
theorem gX10_log_X10_refuseWithZero : GoodIn wsX10_log (wsV RX10 140 RX10 yX10_refuseWithZero wsX10_refuseWithZero) := goodIn_app (goodIn_of _ (by decide +kernel)) ggX10_log_X10_refuseWithZero
set_option maxRecDepth 20000 in
theorem ggX10_log_X8_hasColumn : GoodIn wsX10_log wsX8_hasColumn := goodIn_r _ [20, 21, 69, 70, 71, 72] (by decide +kernel) (by decide +kernel)
set_option maxRecDepth 20000 in
theorem gX10_log_X8_hasColumn : GoodIn wsX10_log (wsV RX10 170 RX8 yX8_hasColumn wsX8_hasColumn) := goodIn_app (goodIn_of _ (by decide +kernel)) ggX10_log_X8_hasColumn
set_option maxRecDepth 20000 in
theorem ggX10_log_X8_get : GoodIn wsX10_log wsX8_get := goodIn_r _ [25, 26, 21, 27, 6, 7, 8, 9, 10, 28, 18, 19, 20, 69, 70, 71, 72] (by decide +kernel) (by decide +kernel)
set_option maxRecDepth 20000 in
theorem gX10_log_X8_get : GoodIn wsX10_log (wsV RX10 152 RX8 yX8_get wsX8_get) := goodIn_app (goodIn_of _ (by decide +kernel)) ggX10_log_X8_get
set_option maxRecDepth 20000 in
theorem ggX10_log_X10_allow : GoodIn wsX10_log wsX10_allow := goodIn_r _ [32, 16, 33, 34, 35, 36, 37, 38] (by decide +kernel) (by decide +kernel)
set_option maxRecDepth 20000 in
theorem gX10_log_X10_allow : GoodIn wsX10_log (wsV RX10 68 RX10 yX10_allow wsX10_allow) := goodIn_app (goodIn_of _ (by decide +kernel)) ggX10_log_X10_allow
theorem dX10_log_0 : decode cX10_log 0 = .ok (.aload_n 0, 1) := by decide +kernel
theorem dX10_log_1 : decode cX10_log 1 = .ok (.getfield 19, 3) := by decide +kernel
theorem dX10_log_4 : decode cX10_log 4 = .ok (.getfield 155, 3) := by decide +kernel
theorem dX10_log_7 : decode cX10_log 7 = .ok (.getfield 159, 3) := by decide +kernel
theorem dX10_log_10 : decode cX10_log 10 = .ok (.getfield 165, 3) := by decide +kernel
theorem dX10_log_13 : decode cX10_log 13 = .ok (.astore_n 3, 1) := by decide +kernel
theorem dX10_log_14 : decode cX10_log 14 = .ok (.aload_n 3, 1) := by decide +kernel
theorem dX10_log_15 : decode cX10_log 15 = .ok (.iload_n 1, 1) := by decide +kernel
theorem dX10_log_16 : decode cX10_log 16 = .ok (.invokevirtual 149, 3) := by decide +kernel
theorem dX10_log_19 : decode cX10_log 19 = .ok (.ifCond .ne 9, 3) := by decide +kernel
theorem dX10_log_22 : decode cX10_log 22 = .ok (.aload_n 0, 1) := by decide +kernel
theorem dX10_log_23 : decode cX10_log 23 = .ok (.iconst (-1), 1) := by decide +kernel
theorem dX10_log_24 : decode cX10_log 24 = .ok (.invokevirtual 140, 3) := by decide +kernel
theorem dX10_log_27 : decode cX10_log 27 = .ok (.ireturn, 1) := by decide +kernel
theorem dX10_log_28 : decode cX10_log 28 = .ok (.aload_n 3, 1) := by decide +kernel
theorem dX10_log_29 : decode cX10_log 29 = .ok (.iload_n 2, 1) := by decide +kernel
theorem dX10_log_30 : decode cX10_log 30 = .ok (.invokevirtual 170, 3) := by decide +kernel
theorem dX10_log_33 : decode cX10_log 33 = .ok (.ifCond .ne 10, 3) := by decide +kernel
theorem dX10_log_36 : decode cX10_log 36 = .ok (.aload_n 0, 1) := by decide +kernel
theorem dX10_log_37 : decode cX10_log 37 = .ok (.bipush (-2), 2) := by decide +kernel
theorem dX10_log_39 : decode cX10_log 39 = .ok (.invokevirtual 140, 3) := by decide +kernel
theorem dX10_log_42 : decode cX10_log 42 = .ok (.ireturn, 1) := by decide +kernel
theorem dX10_log_43 : decode cX10_log 43 = .ok (.aload_n 0, 1) := by decide +kernel
theorem dX10_log_44 : decode cX10_log 44 = .ok (.aload_n 3, 1) := by decide +kernel
theorem dX10_log_45 : decode cX10_log 45 = .ok (.iload_n 1, 1) := by decide +kernel
theorem dX10_log_46 : decode cX10_log 46 = .ok (.iload_n 2, 1) := by decide +kernel
theorem dX10_log_47 : decode cX10_log 47 = .ok (.invokevirtual 152, 3) := by decide +kernel
theorem dX10_log_50 : decode cX10_log 50 = .ok (.invokevirtual 68, 3) := by decide +kernel
theorem dX10_log_53 : decode cX10_log 53 = .ok (.ireturn, 1) := by decide +kernel
set_option maxRecDepth 20000 in
theorem ggX10_findings_X10_refuse : GoodIn wsX10_findings wsX10_refuse := goodIn_r _ [8, 9, 14, 15, 16, 17, 18, 19] (by decide +kernel) (by decide +kernel)
set_option maxRecDepth 20000 in
theorem gX10_findings_X10_refuse : GoodIn wsX10_findings (wsV RX10 50 RX10 yX10_refuse wsX10_refuse) := goodIn_app (goodIn_of _ (by decide +kernel)) ggX10_findings_X10_refuse
set_option maxRecDepth 20000 in
theorem ggX10_findings_X10_allow : GoodIn wsX10_findings wsX10_allow := goodIn_r _ [13, 9, 14, 15, 16, 17, 18, 19] (by decide +kernel) (by decide +kernel)
set_option maxRecDepth 20000 in
theorem gX10_findings_X10_allow : GoodIn wsX10_findings (wsV RX10 68 RX10 yX10_allow wsX10_allow) := goodIn_app (goodIn_of _ (by decide +kernel)) ggX10_findings_X10_allow
theorem dX10_findings_0 : decode cX10_findings 0 = .ok (.iload_n 1, 1) := by decide +kernel
theorem dX10_findings_1 : decode cX10_findings 1 = .ok (.ifCond .lt 9, 3) := by decide +kernel
theorem dX10_findings_4 : decode cX10_findings 4 = .ok (.iload_n 1, 1) := by decide +kernel
theorem dX10_findings_5 : decode cX10_findings 5 = .ok (.bipush 15, 2) := by decide +kernel
theorem dX10_findings_7 : decode cX10_findings 7 = .ok (.if_icmp .le 10, 3) := by decide +kernel
theorem dX10_findings_10 : decode cX10_findings 10 = .ok (.aload_n 0, 1) := by decide +kernel
theorem dX10_findings_11 : decode cX10_findings 11 = .ok (.bipush (-2), 2) := by decide +kernel
theorem dX10_findings_13 : decode cX10_findings 13 = .ok (.invokevirtual 50, 3) := by decide +kernel
theorem dX10_findings_16 : decode cX10_findings 16 = .ok (.ireturn, 1) := by decide +kernel
theorem dX10_findings_17 : decode cX10_findings 17 = .ok (.aload_n 0, 1) := by decide +kernel
theorem dX10_findings_18 : decode cX10_findings 18 = .ok (.aload_n 0, 1) := by decide +kernel
theorem dX10_findings_19 : decode cX10_findings 19 = .ok (.getfield 19, 3) := by decide +kernel
theorem dX10_findings_22 : decode cX10_findings 22 = .ok (.getfield 175, 3) := by decide +kernel
theorem dX10_findings_25 : decode cX10_findings 25 = .ok (.getfield 179, 3) := by decide +kernel
theorem dX10_findings_28 : decode cX10_findings 28 = .ok (.iload_n 1, 1) := by decide +kernel
theorem dX10_findings_29 : decode cX10_findings 29 = .ok (.iaload, 1) := by decide +kernel
theorem dX10_findings_30 : decode cX10_findings 30 = .ok (.invokevirtual 68, 3) := by decide +kernel
theorem dX10_findings_33 : decode cX10_findings 33 = .ok (.ireturn, 1) := by decide +kernel
set_option maxRecDepth 20000 in
theorem ggX10_finding_X8_hasRow : GoodIn wsX10_finding wsX8_hasRow := goodIn_r _ [8, 9, 50, 51, 52, 53] (by decide +kernel) (by decide +kernel)
set_option maxRecDepth 20000 in
theorem gX10_finding_X8_hasRow : GoodIn wsX10_finding (wsV RX10 149 RX8 yX8_hasRow wsX8_hasRow) := goodIn_app (goodIn_of _ (by decide +kernel)) ggX10_finding_X8_hasRow
set_option maxRecDepth 20000 in
theorem ggX10_finding_X10_refuse : GoodIn wsX10_finding wsX10_refuse := goodIn_r _ [14, 15, 32, 33, 34, 35, 36, 37] (by decide +kernel) (by decide +kernel)
set_option maxRecDepth 20000 in
theorem gX10_finding_X10_refuse : GoodIn wsX10_finding (wsV RX10 50 RX10 yX10_refuse wsX10_refuse) := goodIn_app (goodIn_of _ (by decide +kernel)) ggX10_finding_X10_refuse
set_option maxRecDepth 20000 in
theorem ggX10_finding_X8_hasColumn : GoodIn wsX10_finding wsX8_hasColumn := goodIn_r _ [19, 20, 50, 51, 52, 53] (by decide +kernel) (by decide +kernel)
set_option maxRecDepth 20000 in
theorem gX10_finding_X8_hasColumn : GoodIn wsX10_finding (wsV RX10 170 RX8 yX8_hasColumn wsX8_hasColumn) := goodIn_app (goodIn_of _ (by decide +kernel)) ggX10_finding_X8_hasColumn
set_option maxRecDepth 20000 in
theorem ggX10_finding_X8_get : GoodIn wsX10_finding wsX8_get := goodIn_r _ [24, 25, 20, 26, 5, 6, 7, 8, 9, 27, 17, 18, 19, 50, 51, 52, 53] (by decide +kernel) (by decide +kernel)
set_option maxRecDepth 20000 in
theorem gX10_finding_X8_get : GoodIn wsX10_finding (wsV RX10 152 RX8 yX8_get wsX8_get) := goodIn_app (goodIn_of _ (by decide +kernel)) ggX10_finding_X8_get
set_option maxRecDepth 20000 in
theorem ggX10_finding_X10_allow : GoodIn wsX10_finding wsX10_allow := goodIn_r _ [31, 15, 32, 33, 34, 35, 36, 37] (by decide +kernel) (by decide +kernel)
set_option maxRecDepth 20000 in
theorem gX10_finding_X10_allow : GoodIn wsX10_finding (wsV RX10 68 RX10 yX10_allow wsX10_allow) := goodIn_app (goodIn_of _ (by decide +kernel)) ggX10_finding_X10_allow
theorem dX10_finding_0 : decode cX10_finding 0 = .ok (.aload_n 0, 1) := by decide +kernel
theorem dX10_finding_1 : decode cX10_finding 1 = .ok (.getfield 19, 3) := by decide +kernel
theorem dX10_finding_4 : decode cX10_finding 4 = .ok (.getfield 175, 3) := by decide +kernel
theorem dX10_finding_7 : decode cX10_finding 7 = .ok (.getfield 182, 3) := by decide +kernel
theorem dX10_finding_10 : decode cX10_finding 10 = .ok (.astore_n 3, 1) := by decide +kernel
theorem dX10_finding_11 : decode cX10_finding 11 = .ok (.aload_n 3, 1) := by decide +kernel
theorem dX10_finding_12 : decode cX10_finding 12 = .ok (.iload_n 1, 1) := by decide +kernel
theorem dX10_finding_13 : decode cX10_finding 13 = .ok (.invokevirtual 149, 3) := by decide +kernel
theorem dX10_finding_16 : decode cX10_finding 16 = .ok (.ifCond .ne 9, 3) := by decide +kernel
theorem dX10_finding_19 : decode cX10_finding 19 = .ok (.aload_n 0, 1) := by decide +kernel
theorem dX10_finding_20 : decode cX10_finding 20 = .ok (.iconst (-1), 1) := by decide +kernel
theorem dX10_finding_21 : decode cX10_finding 21 = .ok (.invokevirtual 50, 3) := by decide +kernel
theorem dX10_finding_24 : decode cX10_finding 24 = .ok (.ireturn, 1) := by decide +kernel
theorem dX10_finding_25 : decode cX10_finding 25 = .ok (.aload_n 3, 1) := by decide +kernel
theorem dX10_finding_26 : decode cX10_finding 26 = .ok (.iload_n 2, 1) := by decide +kernel
theorem dX10_finding_27 : decode cX10_finding 27 = .ok (.invokevirtual 170, 3) := by decide +kernel
theorem dX10_finding_30 : decode cX10_finding 30 = .ok (.ifCond .ne 10, 3) := by decide +kernel
theorem dX10_finding_33 : decode cX10_finding 33 = .ok (.aload_n 0, 1) := by decide +kernel
theorem dX10_finding_34 : decode cX10_finding 34 = .ok (.bipush (-2), 2) := by decide +kernel
theorem dX10_finding_36 : decode cX10_finding 36 = .ok (.invokevirtual 50, 3) := by decide +kernel
theorem dX10_finding_39 : decode cX10_finding 39 = .ok (.ireturn, 1) := by decide +kernel
theorem dX10_finding_40 : decode cX10_finding 40 = .ok (.aload_n 0, 1) := by decide +kernel
theorem dX10_finding_41 : decode cX10_finding 41 = .ok (.aload_n 3, 1) := by decide +kernel
theorem dX10_finding_42 : decode cX10_finding 42 = .ok (.iload_n 1, 1) := by decide +kernel
theorem dX10_finding_43 : decode cX10_finding 43 = .ok (.iload_n 2, 1) := by decide +kernel
theorem dX10_finding_44 : decode cX10_finding 44 = .ok (.invokevirtual 152, 3) := by decide +kernel
theorem dX10_finding_47 : decode cX10_finding 47 = .ok (.invokevirtual 68, 3) := by decide +kernel
theorem dX10_finding_50 : decode cX10_finding 50 = .ok (.ireturn, 1) := by decide +kernel
set_option maxRecDepth 20000 in
theorem ggX10_value_X6_slaveAt : GoodIn wsX10_value wsX6_slaveAt := goodIn_r _ [9, 10, 11, 12, 13, 8, 14, 15, 16, 50, 51, 52, 53, 54, 55, 56, 57, 58, 59, 60, 61, 62] (by decide +kernel) (by decide +kernel)
set_option maxRecDepth 20000 in
theorem gX10_value_X6_slaveAt : GoodIn wsX10_value (wsV RX10 77 RX6 yX6_slaveAt wsX6_slaveAt) := goodIn_app (goodIn_of _ (by decide +kernel)) ggX10_value_X6_slaveAt
set_option maxRecDepth 20000 in
theorem ggX10_value_X6_registerOf : GoodIn wsX10_value wsX6_registerOf := goodIn_r _ [20, 21, 22, 23, 50, 51, 52, 53, 54, 55, 56, 57, 58, 59, 60, 61, 62] (by decide +kernel) (by decide +kernel)
set_option maxRecDepth 20000 in
theorem gX10_value_X6_registerOf : GoodIn wsX10_value (wsV RX10 80 RX6 yX6_registerOf wsX6_registerOf) := goodIn_app (goodIn_of _ (by decide +kernel)) ggX10_value_X6_registerOf
set_option maxRecDepth 20000 in
theorem ggX10_value_X10_refuseWithZero : GoodIn wsX10_value wsX10_refuseWithZero := goodIn_r _ [28, 29, 34, 35, 36, 37, 38, 39] (by decide +kernel) (by decide +kernel)
set_option maxRecDepth 20000 in
theorem gX10_value_X10_refuseWithZero : GoodIn wsX10_value (wsV RX10 140 RX10 yX10_refuseWithZero wsX10_refuseWithZero) := goodIn_app (goodIn_of _ (by decide +kernel)) ggX10_value_X10_refuseWithZero
set_option maxRecDepth 20000 in
theorem ggX10_value_X10_allow : GoodIn wsX10_value wsX10_allow := goodIn_r _ [33, 29, 34, 35, 36, 37, 38, 39] (by decide +kernel) (by decide +kernel)
set_option maxRecDepth 20000 in
theorem gX10_value_X10_allow : GoodIn wsX10_value (wsV RX10 68 RX10 yX10_allow wsX10_allow) := goodIn_app (goodIn_of _ (by decide +kernel)) ggX10_value_X10_allow
theorem dX10_value_0 : decode cX10_value 0 = .ok (.aload_n 0, 1) := by decide +kernel
theorem dX10_value_1 : decode cX10_value 1 = .ok (.getfield 10, 3) := by decide +kernel
theorem dX10_value_4 : decode cX10_value 4 = .ok (.iload_n 1, 1) := by decide +kernel
theorem dX10_value_5 : decode cX10_value 5 = .ok (.invokevirtual 77, 3) := by decide +kernel
theorem dX10_value_8 : decode cX10_value 8 = .ok (.istore_n 2, 1) := by decide +kernel
theorem dX10_value_9 : decode cX10_value 9 = .ok (.aload_n 0, 1) := by decide +kernel
theorem dX10_value_10 : decode cX10_value 10 = .ok (.getfield 10, 3) := by decide +kernel
theorem dX10_value_13 : decode cX10_value 13 = .ok (.iload_n 2, 1) := by decide +kernel
theorem dX10_value_14 : decode cX10_value 14 = .ok (.iload_n 1, 1) := by decide +kernel
theorem dX10_value_15 : decode cX10_value 15 = .ok (.invokevirtual 80, 3) := by decide +kernel
theorem dX10_value_18 : decode cX10_value 18 = .ok (.istore_n 3, 1) := by decide +kernel
theorem dX10_value_19 : decode cX10_value 19 = .ok (.iload_n 3, 1) := by decide +kernel
theorem dX10_value_20 : decode cX10_value 20 = .ok (.ifCond .ge 9, 3) := by decide +kernel
theorem dX10_value_23 : decode cX10_value 23 = .ok (.aload_n 0, 1) := by decide +kernel
theorem dX10_value_24 : decode cX10_value 24 = .ok (.iconst (-1), 1) := by decide +kernel
theorem dX10_value_25 : decode cX10_value 25 = .ok (.invokevirtual 140, 3) := by decide +kernel
theorem dX10_value_28 : decode cX10_value 28 = .ok (.ireturn, 1) := by decide +kernel
theorem dX10_value_29 : decode cX10_value 29 = .ok (.aload_n 0, 1) := by decide +kernel
theorem dX10_value_30 : decode cX10_value 30 = .ok (.aload_n 0, 1) := by decide +kernel
theorem dX10_value_31 : decode cX10_value 31 = .ok (.getfield 19, 3) := by decide +kernel
theorem dX10_value_34 : decode cX10_value 34 = .ok (.getfield 88, 3) := by decide +kernel
theorem dX10_value_37 : decode cX10_value 37 = .ok (.getfield 183, 3) := by decide +kernel
theorem dX10_value_40 : decode cX10_value 40 = .ok (.iload_n 3, 1) := by decide +kernel
theorem dX10_value_41 : decode cX10_value 41 = .ok (.iaload, 1) := by decide +kernel
theorem dX10_value_42 : decode cX10_value 42 = .ok (.invokevirtual 68, 3) := by decide +kernel
theorem dX10_value_45 : decode cX10_value 45 = .ok (.ireturn, 1) := by decide +kernel
set_option maxRecDepth 20000 in
theorem ggX10_decode_X6_slaveAt : GoodIn wsX10_decode wsX6_slaveAt := goodIn_r _ [6, 7, 8, 9, 10, 5, 11, 12, 13, 26, 27, 28, 29, 30, 31, 32, 33, 34, 35, 36, 37, 38] (by decide +kernel) (by decide +kernel)
set_option maxRecDepth 20000 in
theorem gX10_decode_X6_slaveAt : GoodIn wsX10_decode (wsV RX10 77 RX6 yX6_slaveAt wsX6_slaveAt) := goodIn_app (goodIn_of _ (by decide +kernel)) ggX10_decode_X6_slaveAt
set_option maxRecDepth 20000 in
theorem ggX10_decode_X10_allow : GoodIn wsX10_decode wsX10_allow := goodIn_r _ [18, 19, 20, 21, 22, 23, 24, 25] (by decide +kernel) (by decide +kernel)
set_option maxRecDepth 20000 in
theorem gX10_decode_X10_allow : GoodIn wsX10_decode (wsV RX10 68 RX10 yX10_allow wsX10_allow) := goodIn_app (goodIn_of _ (by decide +kernel)) ggX10_decode_X10_allow
theorem dX10_decode_0 : decode cX10_decode 0 = .ok (.aload_n 0, 1) := by decide +kernel
theorem dX10_decode_1 : decode cX10_decode 1 = .ok (.getfield 10, 3) := by decide +kernel
theorem dX10_decode_4 : decode cX10_decode 4 = .ok (.iload_n 1, 1) := by decide +kernel
theorem dX10_decode_5 : decode cX10_decode 5 = .ok (.invokevirtual 77, 3) := by decide +kernel
theorem dX10_decode_8 : decode cX10_decode 8 = .ok (.istore_n 2, 1) := by decide +kernel
theorem dX10_decode_9 : decode cX10_decode 9 = .ok (.aload_n 0, 1) := by decide +kernel
theorem dX10_decode_10 : decode cX10_decode 10 = .ok (.iload_n 2, 1) := by decide +kernel
theorem dX10_decode_11 : decode cX10_decode 11 = .ok (.ifCond .ge 8, 3) := by decide +kernel
theorem dX10_decode_14 : decode cX10_decode 14 = .ok (.bipush (-6), 2) := by decide +kernel
theorem dX10_decode_16 : decode cX10_decode 16 = .ok (.goto 4, 3) := by decide +kernel
theorem dX10_decode_19 : decode cX10_decode 19 = .ok (.iload_n 2, 1) := by decide +kernel
theorem dX10_decode_20 : decode cX10_decode 20 = .ok (.invokevirtual 68, 3) := by decide +kernel
theorem dX10_decode_23 : decode cX10_decode 23 = .ok (.ireturn, 1) := by decide +kernel
set_option maxRecDepth 20000 in
theorem ggX10_bridge_X10_allow : GoodIn wsX10_bridge wsX10_allow := goodIn_r _ [14, 15, 20, 21, 22, 23, 24, 25] (by decide +kernel) (by decide +kernel)
set_option maxRecDepth 20000 in
theorem gX10_bridge_X10_allow : GoodIn wsX10_bridge (wsV RX10 68 RX10 yX10_allow wsX10_allow) := goodIn_app (goodIn_of _ (by decide +kernel)) ggX10_bridge_X10_allow
set_option maxRecDepth 20000 in
theorem ggX10_bridge_X10_refuse : GoodIn wsX10_bridge wsX10_refuse := goodIn_r _ [19, 15, 20, 21, 22, 23, 24, 25] (by decide +kernel) (by decide +kernel)
set_option maxRecDepth 20000 in
theorem gX10_bridge_X10_refuse : GoodIn wsX10_bridge (wsV RX10 50 RX10 yX10_refuse wsX10_refuse) := goodIn_app (goodIn_of _ (by decide +kernel)) ggX10_bridge_X10_refuse
theorem dX10_bridge_0 : decode cX10_bridge 0 = .ok (.aload_n 0, 1) := by decide +kernel
theorem dX10_bridge_1 : decode cX10_bridge 1 = .ok (.getfield 19, 3) := by decide +kernel
theorem dX10_bridge_4 : decode cX10_bridge 4 = .ok (.getfield 155, 3) := by decide +kernel
theorem dX10_bridge_7 : decode cX10_bridge 7 = .ok (.astore_n 2, 1) := by decide +kernel
theorem dX10_bridge_8 : decode cX10_bridge 8 = .ok (.iload_n 1, 1) := by decide +kernel
theorem dX10_bridge_9 : decode cX10_bridge 9 = .ok (.tableswitch 105 0 5 #[39, 48, 60, 69, 81, 93], 39) := by decide +kernel
theorem dX10_bridge_48 : decode cX10_bridge 48 = .ok (.aload_n 0, 1) := by decide +kernel
theorem dX10_bridge_49 : decode cX10_bridge 49 = .ok (.aload_n 2, 1) := by decide +kernel
theorem dX10_bridge_50 : decode cX10_bridge 50 = .ok (.getfield 186, 3) := by decide +kernel
theorem dX10_bridge_53 : decode cX10_bridge 53 = .ok (.invokevirtual 68, 3) := by decide +kernel
theorem dX10_bridge_56 : decode cX10_bridge 56 = .ok (.ireturn, 1) := by decide +kernel
theorem dX10_bridge_57 : decode cX10_bridge 57 = .ok (.aload_n 0, 1) := by decide +kernel
theorem dX10_bridge_58 : decode cX10_bridge 58 = .ok (.aload_n 2, 1) := by decide +kernel
theorem dX10_bridge_59 : decode cX10_bridge 59 = .ok (.getfield 159, 3) := by decide +kernel
theorem dX10_bridge_62 : decode cX10_bridge 62 = .ok (.getfield 189, 3) := by decide +kernel
theorem dX10_bridge_65 : decode cX10_bridge 65 = .ok (.invokevirtual 68, 3) := by decide +kernel
theorem dX10_bridge_68 : decode cX10_bridge 68 = .ok (.ireturn, 1) := by decide +kernel
theorem dX10_bridge_69 : decode cX10_bridge 69 = .ok (.aload_n 0, 1) := by decide +kernel
theorem dX10_bridge_70 : decode cX10_bridge 70 = .ok (.aload_n 2, 1) := by decide +kernel
theorem dX10_bridge_71 : decode cX10_bridge 71 = .ok (.getfield 192, 3) := by decide +kernel
theorem dX10_bridge_74 : decode cX10_bridge 74 = .ok (.invokevirtual 68, 3) := by decide +kernel
theorem dX10_bridge_77 : decode cX10_bridge 77 = .ok (.ireturn, 1) := by decide +kernel
theorem dX10_bridge_78 : decode cX10_bridge 78 = .ok (.aload_n 0, 1) := by decide +kernel
theorem dX10_bridge_79 : decode cX10_bridge 79 = .ok (.aload_n 2, 1) := by decide +kernel
theorem dX10_bridge_80 : decode cX10_bridge 80 = .ok (.getfield 159, 3) := by decide +kernel
theorem dX10_bridge_83 : decode cX10_bridge 83 = .ok (.getfield 195, 3) := by decide +kernel
theorem dX10_bridge_86 : decode cX10_bridge 86 = .ok (.invokevirtual 68, 3) := by decide +kernel
theorem dX10_bridge_89 : decode cX10_bridge 89 = .ok (.ireturn, 1) := by decide +kernel
theorem dX10_bridge_90 : decode cX10_bridge 90 = .ok (.aload_n 0, 1) := by decide +kernel
theorem dX10_bridge_91 : decode cX10_bridge 91 = .ok (.aload_n 2, 1) := by decide +kernel
theorem dX10_bridge_92 : decode cX10_bridge 92 = .ok (.getfield 159, 3) := by decide +kernel
theorem dX10_bridge_95 : decode cX10_bridge 95 = .ok (.getfield 198, 3) := by decide +kernel
theorem dX10_bridge_98 : decode cX10_bridge 98 = .ok (.invokevirtual 68, 3) := by decide +kernel
theorem dX10_bridge_101 : decode cX10_bridge 101 = .ok (.ireturn, 1) := by decide +kernel
theorem dX10_bridge_102 : decode cX10_bridge 102 = .ok (.aload_n 0, 1) := by decide +kernel
theorem dX10_bridge_103 : decode cX10_bridge 103 = .ok (.aload_n 2, 1) := by decide +kernel
theorem dX10_bridge_104 : decode cX10_bridge 104 = .ok (.getfield 159, 3) := by decide +kernel
theorem dX10_bridge_107 : decode cX10_bridge 107 = .ok (.getfield 201, 3) := by decide +kernel
theorem dX10_bridge_110 : decode cX10_bridge 110 = .ok (.invokevirtual 68, 3) := by decide +kernel
theorem dX10_bridge_113 : decode cX10_bridge 113 = .ok (.ireturn, 1) := by decide +kernel
theorem dX10_bridge_114 : decode cX10_bridge 114 = .ok (.aload_n 0, 1) := by decide +kernel
theorem dX10_bridge_115 : decode cX10_bridge 115 = .ok (.bipush (-2), 2) := by decide +kernel
theorem dX10_bridge_117 : decode cX10_bridge 117 = .ok (.invokevirtual 50, 3) := by decide +kernel
theorem dX10_bridge_120 : decode cX10_bridge 120 = .ok (.ireturn, 1) := by decide +kernel
set_option maxRecDepth 20000 in
theorem ggX10_again_X10_refuse : GoodIn wsX10_again wsX10_refuse := goodIn_r _ [13, 14, 86, 87, 88, 89, 90, 91] (by decide +kernel) (by decide +kernel)
set_option maxRecDepth 20000 in
theorem gX10_again_X10_refuse : GoodIn wsX10_again (wsV RX10 50 RX10 yX10_refuse wsX10_refuse) := goodIn_app (goodIn_of _ (by decide +kernel)) ggX10_again_X10_refuse
set_option maxRecDepth 20000 in
theorem ggX10_again_X1_clear : GoodIn wsX10_again wsX1_clear := goodIn_r _ [19, 20, 21, 22, 23, 24, 25, 26, 27, 28, 29, 30, 31, 126, 127, 128, 129, 130, 131, 132, 133, 134, 135, 136, 137, 138, 139, 140, 141] (by decide +kernel) (by decide +kernel)
set_option maxRecDepth 20000 in
theorem gX10_again_X1_clear : GoodIn wsX10_again (wsV RX10 91 RX1 yX1_clear wsX1_clear) := goodIn_app (goodIn_of _ (by decide +kernel)) ggX10_again_X1_clear
set_option maxRecDepth 20000 in
theorem ggX10_again_X8_get : GoodIn wsX10_again wsX8_get := goodIn_r _ [36, 37, 38, 39, 40, 41, 35, 42, 43, 44, 45, 46, 47, 122, 123, 124, 125] (by decide +kernel) (by decide +kernel)
set_option maxRecDepth 20000 in
theorem gX10_again_X8_get : GoodIn wsX10_again (wsV RX10 152 RX8 yX8_get wsX8_get) := goodIn_app (goodIn_of _ (by decide +kernel)) ggX10_again_X8_get
set_option maxRecDepth 20000 in
theorem ggX10_again_X1_countUp : GoodIn wsX10_again wsX1_countUp := goodIn_r _ [51, 52, 53, 21, 27, 126, 127, 128, 129, 130, 131, 132, 133, 134, 135, 136, 137, 138, 139, 140, 141] (by decide +kernel) (by decide +kernel)
set_option maxRecDepth 20000 in
theorem gX10_again_X1_countUp : GoodIn wsX10_again (wsV RX10 207 RX1 yX1_countUp wsX1_countUp) := goodIn_app (goodIn_of _ (by decide +kernel)) ggX10_again_X1_countUp
set_option maxRecDepth 20000 in
theorem ggX10_again_X10_playsOtherwise_c : GoodIn wsX10_again [.code yX10_playsOtherwise cX10_playsOtherwise 7 (some .boolean)] := goodIn_r _ [57] (by decide +kernel) (by decide +kernel)
set_option maxRecDepth 20000 in
theorem ggX10_again_X10_playsOtherwise_1 : GoodIn wsX10_again wsX10_playsOtherwise_r1 := goodIn_r _ [6, 7, 32, 33, 34, 35, 36, 37, 38, 39, 40, 41, 42, 43, 44, 45, 46, 47, 58, 59, 60, 18, 61, 53] (by decide +kernel) (by decide +kernel)
set_option maxRecDepth 20000 in
theorem ggX10_again_X10_playsOtherwise_2 : GoodIn wsX10_again wsX10_playsOtherwise_r2 := goodIn_r _ [21, 27, 26, 62, 63, 64, 65, 66, 67, 68, 69, 70, 71, 72, 73, 52, 74, 75, 76, 77, 78, 79, 80, 81] (by decide +kernel) (by decide +kernel)
set_option maxRecDepth 20000 in
theorem ggX10_again_X10_playsOtherwise_3 : GoodIn wsX10_again wsX100 := goodIn_r _ [86, 87, 88, 89, 90, 91] (by decide +kernel) (by decide +kernel)
set_option maxRecDepth 20000 in
theorem ggX10_again_X10_playsOtherwise_4 : GoodIn wsX10_again wsX80 := goodIn_r _ [122, 123, 124, 125] (by decide +kernel) (by decide +kernel)
set_option maxRecDepth 20000 in
theorem ggX10_again_X10_playsOtherwise_5 : GoodIn wsX10_again wsX60 := goodIn_r _ [126, 127, 128, 129, 130, 131, 132, 133, 134, 135, 136, 137, 138] (by decide +kernel) (by decide +kernel)
set_option maxRecDepth 20000 in
theorem ggX10_again_X10_playsOtherwise_6 : GoodIn wsX10_again wsX10 := goodIn_r _ [139, 140, 141] (by decide +kernel) (by decide +kernel)
theorem ggX10_again_X10_playsOtherwise : GoodIn wsX10_again wsX10_playsOtherwise := (goodIn_app (a := [.code yX10_playsOtherwise cX10_playsOtherwise 7 (some .boolean)]) ggX10_again_X10_playsOtherwise_c (goodIn_app (goodIn_app (goodIn_app (goodIn_app (goodIn_app ggX10_again_X10_playsOtherwise_1 ggX10_again_X10_playsOtherwise_2) ggX10_again_X10_playsOtherwise_3) ggX10_again_X10_playsOtherwise_4) ggX10_again_X10_playsOtherwise_5) ggX10_again_X10_playsOtherwise_6))
set_option maxRecDepth 20000 in
theorem gX10_again_X10_playsOtherwise : GoodIn wsX10_again (wsV RX10 211 RX10 yX10_playsOtherwise wsX10_playsOtherwise) := goodIn_app (goodIn_of _ (by decide +kernel)) ggX10_again_X10_playsOtherwise
set_option maxRecDepth 20000 in
theorem ggX10_again_X10_allow : GoodIn wsX10_again wsX10_allow := goodIn_r _ [85, 14, 86, 87, 88, 89, 90, 91] (by decide +kernel) (by decide +kernel)
set_option maxRecDepth 20000 in
theorem gX10_again_X10_allow : GoodIn wsX10_again (wsV RX10 68 RX10 yX10_allow wsX10_allow) := goodIn_app (goodIn_of _ (by decide +kernel)) ggX10_again_X10_allow
theorem dX10_again_0 : decode cX10_again 0 = .ok (.aload_n 0, 1) := by decide +kernel
theorem dX10_again_1 : decode cX10_again 1 = .ok (.getfield 19, 3) := by decide +kernel
theorem dX10_again_4 : decode cX10_again 4 = .ok (.getfield 155, 3) := by decide +kernel
theorem dX10_again_7 : decode cX10_again 7 = .ok (.getfield 159, 3) := by decide +kernel
theorem dX10_again_10 : decode cX10_again 10 = .ok (.getfield 165, 3) := by decide +kernel
theorem dX10_again_13 : decode cX10_again 13 = .ok (.astore_n 1, 1) := by decide +kernel
theorem dX10_again_14 : decode cX10_again 14 = .ok (.aload_n 0, 1) := by decide +kernel
theorem dX10_again_15 : decode cX10_again 15 = .ok (.getfield 19, 3) := by decide +kernel
theorem dX10_again_18 : decode cX10_again 18 = .ok (.getfield 155, 3) := by decide +kernel
theorem dX10_again_21 : decode cX10_again 21 = .ok (.getfield 159, 3) := by decide +kernel
theorem dX10_again_24 : decode cX10_again 24 = .ok (.getfield 201, 3) := by decide +kernel
theorem dX10_again_27 : decode cX10_again 27 = .ok (.sipush 200, 3) := by decide +kernel
theorem dX10_again_30 : decode cX10_again 30 = .ok (.if_icmp .le 10, 3) := by decide +kernel
theorem dX10_again_33 : decode cX10_again 33 = .ok (.aload_n 0, 1) := by decide +kernel
theorem dX10_again_34 : decode cX10_again 34 = .ok (.bipush (-4), 2) := by decide +kernel
theorem dX10_again_36 : decode cX10_again 36 = .ok (.invokevirtual 50, 3) := by decide +kernel
theorem dX10_again_39 : decode cX10_again 39 = .ok (.ireturn, 1) := by decide +kernel
theorem dX10_again_40 : decode cX10_again 40 = .ok (.aload_n 0, 1) := by decide +kernel
theorem dX10_again_41 : decode cX10_again 41 = .ok (.getfield 34, 3) := by decide +kernel
theorem dX10_again_44 : decode cX10_again 44 = .ok (.aload_n 0, 1) := by decide +kernel
theorem dX10_again_45 : decode cX10_again 45 = .ok (.getfield 10, 3) := by decide +kernel
theorem dX10_again_48 : decode cX10_again 48 = .ok (.invokevirtual 91, 3) := by decide +kernel
theorem dX10_again_51 : decode cX10_again 51 = .ok (.iconst 0, 1) := by decide +kernel
theorem dX10_again_52 : decode cX10_again 52 = .ok (.istore_n 2, 1) := by decide +kernel
theorem dX10_again_53 : decode cX10_again 53 = .ok (.iconst 0, 1) := by decide +kernel
theorem dX10_again_54 : decode cX10_again 54 = .ok (.istore_n 3, 1) := by decide +kernel
theorem dX10_again_55 : decode cX10_again 55 = .ok (.iload_n 3, 1) := by decide +kernel
theorem dX10_again_56 : decode cX10_again 56 = .ok (.aload_n 1, 1) := by decide +kernel
theorem dX10_again_57 : decode cX10_again 57 = .ok (.getfield 204, 3) := by decide +kernel
theorem dX10_again_60 : decode cX10_again 60 = .ok (.if_icmp .ge 73, 3) := by decide +kernel
theorem dX10_again_63 : decode cX10_again 63 = .ok (.aload_n 1, 1) := by decide +kernel
theorem dX10_again_64 : decode cX10_again 64 = .ok (.iload_n 3, 1) := by decide +kernel
theorem dX10_again_65 : decode cX10_again 65 = .ok (.bipush 6, 2) := by decide +kernel
theorem dX10_again_67 : decode cX10_again 67 = .ok (.invokevirtual 152, 3) := by decide +kernel
theorem dX10_again_70 : decode cX10_again 70 = .ok (.istore 4, 2) := by decide +kernel
theorem dX10_again_72 : decode cX10_again 72 = .ok (.iload 4, 2) := by decide +kernel
theorem dX10_again_74 : decode cX10_again 74 = .ok (.iconst 1, 1) := by decide +kernel
theorem dX10_again_75 : decode cX10_again 75 = .ok (.if_icmp .eq 9, 3) := by decide +kernel
theorem dX10_again_78 : decode cX10_again 78 = .ok (.iload 4, 2) := by decide +kernel
theorem dX10_again_80 : decode cX10_again 80 = .ok (.iconst 2, 1) := by decide +kernel
theorem dX10_again_81 : decode cX10_again 81 = .ok (.if_icmp .ne 46, 3) := by decide +kernel
theorem dX10_again_84 : decode cX10_again 84 = .ok (.aload_n 1, 1) := by decide +kernel
theorem dX10_again_85 : decode cX10_again 85 = .ok (.iload_n 3, 1) := by decide +kernel
theorem dX10_again_86 : decode cX10_again 86 = .ok (.iconst 5, 1) := by decide +kernel
theorem dX10_again_87 : decode cX10_again 87 = .ok (.invokevirtual 152, 3) := by decide +kernel
theorem dX10_again_90 : decode cX10_again 90 = .ok (.iconst 1, 1) := by decide +kernel
theorem dX10_again_91 : decode cX10_again 91 = .ok (.isub, 1) := by decide +kernel
theorem dX10_again_92 : decode cX10_again 92 = .ok (.istore 5, 2) := by decide +kernel
theorem dX10_again_94 : decode cX10_again 94 = .ok (.aload_n 0, 1) := by decide +kernel
theorem dX10_again_95 : decode cX10_again 95 = .ok (.getfield 34, 3) := by decide +kernel
theorem dX10_again_98 : decode cX10_again 98 = .ok (.aload_n 0, 1) := by decide +kernel
theorem dX10_again_99 : decode cX10_again 99 = .ok (.getfield 10, 3) := by decide +kernel
theorem dX10_again_102 : decode cX10_again 102 = .ok (.iload 5, 2) := by decide +kernel
theorem dX10_again_104 : decode cX10_again 104 = .ok (.iload_n 2, 1) := by decide +kernel
theorem dX10_again_105 : decode cX10_again 105 = .ok (.isub, 1) := by decide +kernel
theorem dX10_again_106 : decode cX10_again 106 = .ok (.invokevirtual 207, 3) := by decide +kernel
theorem dX10_again_109 : decode cX10_again 109 = .ok (.iload 5, 2) := by decide +kernel
theorem dX10_again_111 : decode cX10_again 111 = .ok (.istore_n 2, 1) := by decide +kernel
theorem dX10_again_112 : decode cX10_again 112 = .ok (.aload_n 0, 1) := by decide +kernel
theorem dX10_again_113 : decode cX10_again 113 = .ok (.aload_n 1, 1) := by decide +kernel
theorem dX10_again_114 : decode cX10_again 114 = .ok (.iload_n 3, 1) := by decide +kernel
theorem dX10_again_115 : decode cX10_again 115 = .ok (.invokevirtual 211, 3) := by decide +kernel
theorem dX10_again_118 : decode cX10_again 118 = .ok (.ifCond .eq 9, 3) := by decide +kernel
theorem dX10_again_121 : decode cX10_again 121 = .ok (.aload_n 0, 1) := by decide +kernel
theorem dX10_again_122 : decode cX10_again 122 = .ok (.iload_n 3, 1) := by decide +kernel
theorem dX10_again_123 : decode cX10_again 123 = .ok (.invokevirtual 68, 3) := by decide +kernel
theorem dX10_again_126 : decode cX10_again 126 = .ok (.ireturn, 1) := by decide +kernel
theorem dX10_again_127 : decode cX10_again 127 = .ok (.iinc 3 1, 3) := by decide +kernel
theorem dX10_again_130 : decode cX10_again 130 = .ok (.goto (-75), 3) := by decide +kernel
theorem dX10_again_133 : decode cX10_again 133 = .ok (.aload_n 0, 1) := by decide +kernel
theorem dX10_again_134 : decode cX10_again 134 = .ok (.bipush (-6), 2) := by decide +kernel
theorem dX10_again_136 : decode cX10_again 136 = .ok (.invokevirtual 68, 3) := by decide +kernel
theorem dX10_again_139 : decode cX10_again 139 = .ok (.ireturn, 1) := by decide +kernel
set_option maxRecDepth 20000 in
theorem ggX10_keep_X10_isPlace : GoodIn wsX10_keep wsX10_isPlace := goodIn_r _ [12] (by decide +kernel) (by decide +kernel)
set_option maxRecDepth 20000 in
theorem gX10_keep_X10_isPlace : GoodIn wsX10_keep (va_wsS RX10 215 yX10_isPlace wsX10_isPlace) := goodIn_app (goodIn_of _ (by decide +kernel)) ggX10_keep_X10_isPlace
set_option maxRecDepth 20000 in
theorem ggX10_keep_X10_refuse : GoodIn wsX10_keep wsX10_refuse := goodIn_r _ [16, 17, 192, 193, 194, 195, 196, 197] (by decide +kernel) (by decide +kernel)
set_option maxRecDepth 20000 in
theorem gX10_keep_X10_refuse : GoodIn wsX10_keep (wsV RX10 50 RX10 yX10_refuse wsX10_refuse) := goodIn_app (goodIn_of _ (by decide +kernel)) ggX10_keep_X10_refuse
set_option maxRecDepth 20000 in
theorem ggX10_keep_X3_init_c : GoodIn wsX10_keep [.code yX3_init cX3_init 1 none] := goodIn_r _ [19] (by decide +kernel) (by decide +kernel)
set_option maxRecDepth 20000 in
theorem ggX10_keep_X3_init_1 : GoodIn wsX10_keep wsX3_init_r1 := goodIn_r _ [20, 21, 22, 23, 24, 25, 26, 27, 28, 29, 30, 31, 32, 33, 34, 35, 36, 37, 38, 39, 40, 41, 42, 43] (by decide +kernel) (by decide +kernel)
set_option maxRecDepth 20000 in
theorem ggX10_keep_X3_init_2 : GoodIn wsX10_keep wsX3_init_r2 := goodIn_r _ [44, 45, 46, 47, 48, 49, 50, 51, 52, 53, 54, 55, 56, 57, 58, 59, 60, 61, 62, 63, 64, 65, 66, 67] (by decide +kernel) (by decide +kernel)
set_option maxRecDepth 20000 in
theorem ggX10_keep_X3_init_3 : GoodIn wsX10_keep wsX3_init_r3 := goodIn_r _ [68, 69, 70, 71, 72, 73, 74, 75, 76, 77, 78, 79, 80, 81, 82, 83, 84, 85, 86, 87, 88, 89, 90, 91] (by decide +kernel) (by decide +kernel)
set_option maxRecDepth 20000 in
theorem ggX10_keep_X3_init_4 : GoodIn wsX10_keep wsX3_init_r4 := goodIn_r _ [92, 93, 94, 95, 96, 97, 98, 99, 100, 101, 102, 103, 104, 105, 106] (by decide +kernel) (by decide +kernel)
set_option maxRecDepth 20000 in
theorem ggX10_keep_X3_init_5 : GoodIn wsX10_keep wsX90 := goodIn_r _ [218, 219, 220, 221, 222, 223] (by decide +kernel) (by decide +kernel)
set_option maxRecDepth 20000 in
theorem ggX10_keep_X3_init_6 : GoodIn wsX10_keep wsX30 := goodIn_r _ [198, 199, 200, 201, 202, 203, 204] (by decide +kernel) (by decide +kernel)
set_option maxRecDepth 20000 in
theorem ggX10_keep_X3_init_7 : GoodIn wsX10_keep wsX10 := goodIn_r _ [224, 225, 226] (by decide +kernel) (by decide +kernel)
set_option maxRecDepth 20000 in
theorem ggX10_keep_X3_init_8 : GoodIn wsX10_keep wsX40 := goodIn_r _ [227, 228, 229, 230, 231, 232, 233] (by decide +kernel) (by decide +kernel)
set_option maxRecDepth 20000 in
theorem ggX10_keep_X3_init_9 : GoodIn wsX10_keep wsX00 := goodIn_r _ [234, 235, 236, 237, 238, 239, 240, 241, 242] (by decide +kernel) (by decide +kernel)
set_option maxRecDepth 20000 in
theorem ggX10_keep_X3_init_10 : GoodIn wsX10_keep wsX70 := goodIn_r _ [243, 244, 245, 246] (by decide +kernel) (by decide +kernel)
set_option maxRecDepth 20000 in
theorem ggX10_keep_X3_init_11 : GoodIn wsX10_keep wsX50 := goodIn_r _ [247, 248, 249, 250, 251] (by decide +kernel) (by decide +kernel)
set_option maxRecDepth 20000 in
theorem ggX10_keep_X3_init_12 : GoodIn wsX10_keep wsX80 := goodIn_r _ [252, 253, 254, 255] (by decide +kernel) (by decide +kernel)
set_option maxRecDepth 20000 in
theorem ggX10_keep_X3_init_13 : GoodIn wsX10_keep wsX20 := goodIn_r _ [256, 257, 258, 259, 260, 261, 262, 263, 264, 265, 266, 267, 268, 269] (by decide +kernel) (by decide +kernel)
theorem ggX10_keep_X3_init : GoodIn wsX10_keep wsX3_init := (goodIn_app (a := [.code yX3_init cX3_init 1 none]) ggX10_keep_X3_init_c (goodIn_app (goodIn_app (goodIn_app (goodIn_app (goodIn_app (goodIn_app (goodIn_app (goodIn_app (goodIn_app (goodIn_app ggX10_keep_X3_init_1 (goodIn_app ggX10_keep_X3_init_2 (goodIn_app ggX10_keep_X3_init_3 ggX10_keep_X3_init_4))) ggX10_keep_X3_init_5) ggX10_keep_X3_init_6) ggX10_keep_X3_init_7) ggX10_keep_X3_init_8) ggX10_keep_X3_init_9) ggX10_keep_X3_init_10) ggX10_keep_X3_init_11) ggX10_keep_X3_init_12) ggX10_keep_X3_init_13))
set_option maxRecDepth 20000 in
theorem gX10_keep_X3_init_n18 : GoodIn wsX10_keep (wsX3_init) := ggX10_keep_X3_init
set_option maxRecDepth 20000 in
theorem ggX10_keep_X3_copyFrom_c : GoodIn wsX10_keep [.code yX3_copyFrom cX3_copyFrom 2 none] := goodIn_r _ [110] (by decide +kernel) (by decide +kernel)
set_option maxRecDepth 20000 in
theorem ggX10_keep_X3_copyFrom_1 : GoodIn wsX10_keep wsX3_copyFrom_r1 := goodIn_r _ [26, 30, 34, 38, 42, 46, 111, 112, 113, 114, 25, 115, 51, 116, 117, 118, 119, 53, 54, 55, 56, 120, 121, 122] (by decide +kernel) (by decide +kernel)
set_option maxRecDepth 20000 in
theorem ggX10_keep_X3_copyFrom_2 : GoodIn wsX10_keep wsX3_copyFrom_r2 := goodIn_r _ [29, 123, 60, 124, 61, 62, 125, 126, 127, 33, 128, 69, 129, 130, 131, 132, 133, 134, 135, 136, 137, 68, 138, 80] (by decide +kernel) (by decide +kernel)
set_option maxRecDepth 20000 in
theorem ggX10_keep_X3_copyFrom_3 : GoodIn wsX10_keep wsX3_copyFrom_r3 := goodIn_r _ [139, 75, 140, 141, 142, 143, 37, 144, 87, 88, 145, 89, 146, 147, 148, 149, 150, 151, 152, 153, 154, 86, 155, 94] (by decide +kernel) (by decide +kernel)
set_option maxRecDepth 20000 in
theorem ggX10_keep_X3_copyFrom_4 : GoodIn wsX10_keep wsX3_copyFrom_r4 := goodIn_r _ [156, 157, 158, 159, 160, 161, 162, 163, 164, 165, 166, 167, 168, 169, 170, 171, 172, 173, 174, 175, 176, 41, 177, 99] (by decide +kernel) (by decide +kernel)
set_option maxRecDepth 20000 in
theorem ggX10_keep_X3_copyFrom_5 : GoodIn wsX10_keep wsX3_copyFrom_r5 := goodIn_r _ [178, 179, 180, 181, 45, 182, 103, 183, 105, 184, 185, 186, 187] (by decide +kernel) (by decide +kernel)
set_option maxRecDepth 20000 in
theorem ggX10_keep_X3_copyFrom_6 : GoodIn wsX10_keep wsX30 := goodIn_r _ [198, 199, 200, 201, 202, 203, 204] (by decide +kernel) (by decide +kernel)
set_option maxRecDepth 20000 in
theorem ggX10_keep_X3_copyFrom_7 : GoodIn wsX10_keep wsX90 := goodIn_r _ [218, 219, 220, 221, 222, 223] (by decide +kernel) (by decide +kernel)
set_option maxRecDepth 20000 in
theorem ggX10_keep_X3_copyFrom_8 : GoodIn wsX10_keep wsX10 := goodIn_r _ [224, 225, 226] (by decide +kernel) (by decide +kernel)
set_option maxRecDepth 20000 in
theorem ggX10_keep_X3_copyFrom_9 : GoodIn wsX10_keep wsX40 := goodIn_r _ [227, 228, 229, 230, 231, 232, 233] (by decide +kernel) (by decide +kernel)
set_option maxRecDepth 20000 in
theorem ggX10_keep_X3_copyFrom_10 : GoodIn wsX10_keep wsX80 := goodIn_r _ [252, 253, 254, 255] (by decide +kernel) (by decide +kernel)
set_option maxRecDepth 20000 in
theorem ggX10_keep_X3_copyFrom_11 : GoodIn wsX10_keep wsX00 := goodIn_r _ [234, 235, 236, 237, 238, 239, 240, 241, 242] (by decide +kernel) (by decide +kernel)
set_option maxRecDepth 20000 in
theorem ggX10_keep_X3_copyFrom_12 : GoodIn wsX10_keep wsX20 := goodIn_r _ [256, 257, 258, 259, 260, 261, 262, 263, 264, 265, 266, 267, 268, 269] (by decide +kernel) (by decide +kernel)
set_option maxRecDepth 20000 in
theorem ggX10_keep_X3_copyFrom_13 : GoodIn wsX10_keep wsX70 := goodIn_r _ [243, 244, 245, 246] (by decide +kernel) (by decide +kernel)
set_option maxRecDepth 20000 in
theorem ggX10_keep_X3_copyFrom_14 : GoodIn wsX10_keep wsX50 := goodIn_r _ [247, 248, 249, 250, 251] (by decide +kernel) (by decide +kernel)
theorem ggX10_keep_X3_copyFrom : GoodIn wsX10_keep wsX3_copyFrom := (goodIn_app (a := [.code yX3_copyFrom cX3_copyFrom 2 none]) ggX10_keep_X3_copyFrom_c (goodIn_app (goodIn_app (goodIn_app (goodIn_app (goodIn_app (goodIn_app (goodIn_app (goodIn_app (goodIn_app (goodIn_app ggX10_keep_X3_copyFrom_1 (goodIn_app ggX10_keep_X3_copyFrom_2 (goodIn_app ggX10_keep_X3_copyFrom_3 (goodIn_app ggX10_keep_X3_copyFrom_4 ggX10_keep_X3_copyFrom_5)))) ggX10_keep_X3_copyFrom_6) ggX10_keep_X3_copyFrom_7) ggX10_keep_X3_copyFrom_8) ggX10_keep_X3_copyFrom_9) ggX10_keep_X3_copyFrom_10) ggX10_keep_X3_copyFrom_11) ggX10_keep_X3_copyFrom_12) ggX10_keep_X3_copyFrom_13) ggX10_keep_X3_copyFrom_14))
set_option maxRecDepth 20000 in
theorem gX10_keep_X3_copyFrom : GoodIn wsX10_keep (wsV RX10 218 RX3 yX3_copyFrom wsX3_copyFrom) := goodIn_app (goodIn_of _ (by decide +kernel)) ggX10_keep_X3_copyFrom
set_option maxRecDepth 20000 in
theorem ggX10_keep_X10_allow : GoodIn wsX10_keep wsX10_allow := goodIn_r _ [191, 17, 192, 193, 194, 195, 196, 197] (by decide +kernel) (by decide +kernel)
set_option maxRecDepth 20000 in
theorem gX10_keep_X10_allow : GoodIn wsX10_keep (wsV RX10 68 RX10 yX10_allow wsX10_allow) := goodIn_app (goodIn_of _ (by decide +kernel)) ggX10_keep_X10_allow
theorem dX10_keep_0 : decode cX10_keep 0 = .ok (.iload_n 1, 1) := by decide +kernel
theorem dX10_keep_1 : decode cX10_keep 1 = .ok (.invokestatic 215, 3) := by decide +kernel
theorem dX10_keep_4 : decode cX10_keep 4 = .ok (.ifCond .ne 9, 3) := by decide +kernel
theorem dX10_keep_7 : decode cX10_keep 7 = .ok (.aload_n 0, 1) := by decide +kernel
theorem dX10_keep_8 : decode cX10_keep 8 = .ok (.iconst (-1), 1) := by decide +kernel
theorem dX10_keep_9 : decode cX10_keep 9 = .ok (.invokevirtual 50, 3) := by decide +kernel
theorem dX10_keep_12 : decode cX10_keep 12 = .ok (.ireturn, 1) := by decide +kernel
theorem dX10_keep_13 : decode cX10_keep 13 = .ok (.aload_n 0, 1) := by decide +kernel
theorem dX10_keep_14 : decode cX10_keep 14 = .ok (.getfield 23, 3) := by decide +kernel
theorem dX10_keep_17 : decode cX10_keep 17 = .ok (.iload_n 1, 1) := by decide +kernel
theorem dX10_keep_18 : decode cX10_keep 18 = .ok (.aaload, 1) := by decide +kernel
theorem dX10_keep_19 : decode cX10_keep 19 = .ok (.ifnonnull 16, 3) := by decide +kernel
theorem dX10_keep_22 : decode cX10_keep 22 = .ok (.aload_n 0, 1) := by decide +kernel
theorem dX10_keep_23 : decode cX10_keep 23 = .ok (.getfield 23, 3) := by decide +kernel
theorem dX10_keep_26 : decode cX10_keep 26 = .ok (.iload_n 1, 1) := by decide +kernel
theorem dX10_keep_27 : decode cX10_keep 27 = .ok (.new 16, 3) := by decide +kernel
theorem dX10_keep_30 : decode cX10_keep 30 = .ok (.dup, 1) := by decide +kernel
theorem dX10_keep_31 : decode cX10_keep 31 = .ok (.invokespecial 18, 3) := by decide +kernel
theorem dX10_keep_34 : decode cX10_keep 34 = .ok (.aastore, 1) := by decide +kernel
theorem dX10_keep_35 : decode cX10_keep 35 = .ok (.aload_n 0, 1) := by decide +kernel
theorem dX10_keep_36 : decode cX10_keep 36 = .ok (.getfield 23, 3) := by decide +kernel
theorem dX10_keep_39 : decode cX10_keep 39 = .ok (.iload_n 1, 1) := by decide +kernel
theorem dX10_keep_40 : decode cX10_keep 40 = .ok (.aaload, 1) := by decide +kernel
theorem dX10_keep_41 : decode cX10_keep 41 = .ok (.aload_n 0, 1) := by decide +kernel
theorem dX10_keep_42 : decode cX10_keep 42 = .ok (.getfield 19, 3) := by decide +kernel
theorem dX10_keep_45 : decode cX10_keep 45 = .ok (.invokevirtual 218, 3) := by decide +kernel
theorem dX10_keep_48 : decode cX10_keep 48 = .ok (.aload_n 0, 1) := by decide +kernel
theorem dX10_keep_49 : decode cX10_keep 49 = .ok (.getfield 27, 3) := by decide +kernel
theorem dX10_keep_52 : decode cX10_keep 52 = .ok (.iload_n 1, 1) := by decide +kernel
theorem dX10_keep_53 : decode cX10_keep 53 = .ok (.aload_n 0, 1) := by decide +kernel
theorem dX10_keep_54 : decode cX10_keep 54 = .ok (.getfield 10, 3) := by decide +kernel
theorem dX10_keep_57 : decode cX10_keep 57 = .ok (.getfield 222, 3) := by decide +kernel
theorem dX10_keep_60 : decode cX10_keep 60 = .ok (.iastore, 1) := by decide +kernel
theorem dX10_keep_61 : decode cX10_keep 61 = .ok (.aload_n 0, 1) := by decide +kernel
theorem dX10_keep_62 : decode cX10_keep 62 = .ok (.iconst 1, 1) := by decide +kernel
theorem dX10_keep_63 : decode cX10_keep 63 = .ok (.invokevirtual 68, 3) := by decide +kernel
theorem dX10_keep_66 : decode cX10_keep 66 = .ok (.ireturn, 1) := by decide +kernel
set_option maxRecDepth 20000 in
theorem ggX10_back_X10_whyNotComparable : GoodIn wsX10_back wsX10_whyNotComparable := goodIn_r _ [8, 2, 9, 10, 11, 12, 13, 7, 14, 138, 139, 140, 141, 142, 143, 151, 152, 153, 154, 155, 156, 157, 158, 159, 160, 161, 162, 163] (by decide +kernel) (by decide +kernel)
set_option maxRecDepth 20000 in
theorem gX10_back_X10_whyNotComparable : GoodIn wsX10_back (wsV RX10 225 RX10 yX10_whyNotComparable wsX10_whyNotComparable) := goodIn_app (goodIn_of _ (by decide +kernel)) ggX10_back_X10_whyNotComparable
set_option maxRecDepth 20000 in
theorem ggX10_back_X10_refuse : GoodIn wsX10_back wsX10_refuse := goodIn_r _ [18, 19, 138, 139, 140, 141, 142, 143] (by decide +kernel) (by decide +kernel)
set_option maxRecDepth 20000 in
theorem gX10_back_X10_refuse : GoodIn wsX10_back (wsV RX10 50 RX10 yX10_refuse wsX10_refuse) := goodIn_app (goodIn_of _ (by decide +kernel)) ggX10_back_X10_refuse
set_option maxRecDepth 20000 in
theorem ggX10_back_X3_copyFrom_c : GoodIn wsX10_back [.code yX3_copyFrom cX3_copyFrom 2 none] := goodIn_r _ [24] (by decide +kernel) (by decide +kernel)
set_option maxRecDepth 20000 in
theorem ggX10_back_X3_copyFrom_1 : GoodIn wsX10_back wsX3_copyFrom_r1 := goodIn_r _ [25, 26, 27, 28, 29, 30, 31, 32, 33, 34, 35, 36, 37, 38, 39, 40, 41, 42, 43, 44, 45, 46, 47, 48] (by decide +kernel) (by decide +kernel)
set_option maxRecDepth 20000 in
theorem ggX10_back_X3_copyFrom_2 : GoodIn wsX10_back wsX3_copyFrom_r2 := goodIn_r _ [49, 50, 51, 52, 53, 54, 55, 56, 57, 58, 59, 60, 61, 62, 63, 64, 65, 66, 67, 68, 69, 70, 71, 72] (by decide +kernel) (by decide +kernel)
set_option maxRecDepth 20000 in
theorem ggX10_back_X3_copyFrom_3 : GoodIn wsX10_back wsX3_copyFrom_r3 := goodIn_r _ [73, 74, 75, 76, 77, 78, 79, 80, 81, 82, 83, 84, 85, 86, 87, 88, 89, 90, 91, 92, 93, 94, 95, 96] (by decide +kernel) (by decide +kernel)
set_option maxRecDepth 20000 in
theorem ggX10_back_X3_copyFrom_4 : GoodIn wsX10_back wsX3_copyFrom_r4 := goodIn_r _ [97, 98, 99, 100, 101, 102, 103, 104, 105, 106, 107, 108, 109, 110, 111, 112, 113, 114, 115, 116, 117, 118, 119, 120] (by decide +kernel) (by decide +kernel)
set_option maxRecDepth 20000 in
theorem ggX10_back_X3_copyFrom_5 : GoodIn wsX10_back wsX3_copyFrom_r5 := goodIn_r _ [121, 122, 123, 124, 125, 126, 127, 128, 129, 130, 131, 132, 133] (by decide +kernel) (by decide +kernel)
set_option maxRecDepth 20000 in
theorem ggX10_back_X3_copyFrom_6 : GoodIn wsX10_back wsX30 := goodIn_r _ [144, 145, 146, 147, 148, 149, 150] (by decide +kernel) (by decide +kernel)
set_option maxRecDepth 20000 in
theorem ggX10_back_X3_copyFrom_7 : GoodIn wsX10_back wsX90 := goodIn_r _ [164, 165, 166, 167, 168, 169] (by decide +kernel) (by decide +kernel)
set_option maxRecDepth 20000 in
theorem ggX10_back_X3_copyFrom_8 : GoodIn wsX10_back wsX10 := goodIn_r _ [170, 171, 172] (by decide +kernel) (by decide +kernel)
set_option maxRecDepth 20000 in
theorem ggX10_back_X3_copyFrom_9 : GoodIn wsX10_back wsX40 := goodIn_r _ [173, 174, 175, 176, 177, 178, 179] (by decide +kernel) (by decide +kernel)
set_option maxRecDepth 20000 in
theorem ggX10_back_X3_copyFrom_10 : GoodIn wsX10_back wsX80 := goodIn_r _ [180, 181, 182, 183] (by decide +kernel) (by decide +kernel)
set_option maxRecDepth 20000 in
theorem ggX10_back_X3_copyFrom_11 : GoodIn wsX10_back wsX00 := goodIn_r _ [184, 185, 186, 187, 188, 189, 190, 191, 192] (by decide +kernel) (by decide +kernel)
set_option maxRecDepth 20000 in
theorem ggX10_back_X3_copyFrom_12 : GoodIn wsX10_back wsX20 := goodIn_r _ [193, 194, 195, 196, 197, 198, 199, 200, 201, 202, 203, 204, 205, 206] (by decide +kernel) (by decide +kernel)
set_option maxRecDepth 20000 in
theorem ggX10_back_X3_copyFrom_13 : GoodIn wsX10_back wsX70 := goodIn_r _ [207, 208, 209, 210] (by decide +kernel) (by decide +kernel)
set_option maxRecDepth 20000 in
theorem ggX10_back_X3_copyFrom_14 : GoodIn wsX10_back wsX50 := goodIn_r _ [211, 212, 213, 214, 215] (by decide +kernel) (by decide +kernel)
theorem ggX10_back_X3_copyFrom : GoodIn wsX10_back wsX3_copyFrom := (goodIn_app (a := [.code yX3_copyFrom cX3_copyFrom 2 none]) ggX10_back_X3_copyFrom_c (goodIn_app (goodIn_app (goodIn_app (goodIn_app (goodIn_app (goodIn_app (goodIn_app (goodIn_app (goodIn_app (goodIn_app ggX10_back_X3_copyFrom_1 (goodIn_app ggX10_back_X3_copyFrom_2 (goodIn_app ggX10_back_X3_copyFrom_3 (goodIn_app ggX10_back_X3_copyFrom_4 ggX10_back_X3_copyFrom_5)))) ggX10_back_X3_copyFrom_6) ggX10_back_X3_copyFrom_7) ggX10_back_X3_copyFrom_8) ggX10_back_X3_copyFrom_9) ggX10_back_X3_copyFrom_10) ggX10_back_X3_copyFrom_11) ggX10_back_X3_copyFrom_12) ggX10_back_X3_copyFrom_13) ggX10_back_X3_copyFrom_14))
set_option maxRecDepth 20000 in
theorem gX10_back_X3_copyFrom : GoodIn wsX10_back (wsV RX10 218 RX3 yX3_copyFrom wsX3_copyFrom) := goodIn_app (goodIn_of _ (by decide +kernel)) ggX10_back_X3_copyFrom
set_option maxRecDepth 20000 in
theorem ggX10_back_X10_allow : GoodIn wsX10_back wsX10_allow := goodIn_r _ [137, 19, 138, 139, 140, 141, 142, 143] (by decide +kernel) (by decide +kernel)
set_option maxRecDepth 20000 in
theorem gX10_back_X10_allow : GoodIn wsX10_back (wsV RX10 68 RX10 yX10_allow wsX10_allow) := goodIn_app (goodIn_of _ (by decide +kernel)) ggX10_back_X10_allow
theorem dX10_back_0 : decode cX10_back 0 = .ok (.aload_n 0, 1) := by decide +kernel
theorem dX10_back_1 : decode cX10_back 1 = .ok (.iload_n 1, 1) := by decide +kernel
theorem dX10_back_2 : decode cX10_back 2 = .ok (.invokevirtual 225, 3) := by decide +kernel
theorem dX10_back_5 : decode cX10_back 5 = .ok (.istore_n 2, 1) := by decide +kernel
theorem dX10_back_6 : decode cX10_back 6 = .ok (.iload_n 2, 1) := by decide +kernel
theorem dX10_back_7 : decode cX10_back 7 = .ok (.ifCond .eq 9, 3) := by decide +kernel
theorem dX10_back_10 : decode cX10_back 10 = .ok (.aload_n 0, 1) := by decide +kernel
theorem dX10_back_11 : decode cX10_back 11 = .ok (.iload_n 2, 1) := by decide +kernel
theorem dX10_back_12 : decode cX10_back 12 = .ok (.invokevirtual 50, 3) := by decide +kernel
theorem dX10_back_15 : decode cX10_back 15 = .ok (.ireturn, 1) := by decide +kernel
theorem dX10_back_16 : decode cX10_back 16 = .ok (.aload_n 0, 1) := by decide +kernel
theorem dX10_back_17 : decode cX10_back 17 = .ok (.getfield 19, 3) := by decide +kernel
theorem dX10_back_20 : decode cX10_back 20 = .ok (.aload_n 0, 1) := by decide +kernel
theorem dX10_back_21 : decode cX10_back 21 = .ok (.getfield 23, 3) := by decide +kernel
theorem dX10_back_24 : decode cX10_back 24 = .ok (.iload_n 1, 1) := by decide +kernel
theorem dX10_back_25 : decode cX10_back 25 = .ok (.aaload, 1) := by decide +kernel
theorem dX10_back_26 : decode cX10_back 26 = .ok (.invokevirtual 218, 3) := by decide +kernel
theorem dX10_back_29 : decode cX10_back 29 = .ok (.aload_n 0, 1) := by decide +kernel
theorem dX10_back_30 : decode cX10_back 30 = .ok (.aload_n 0, 1) := by decide +kernel
theorem dX10_back_31 : decode cX10_back 31 = .ok (.getfield 19, 3) := by decide +kernel
theorem dX10_back_34 : decode cX10_back 34 = .ok (.getfield 54, 3) := by decide +kernel
theorem dX10_back_37 : decode cX10_back 37 = .ok (.invokevirtual 68, 3) := by decide +kernel
theorem dX10_back_40 : decode cX10_back 40 = .ok (.ireturn, 1) := by decide +kernel
set_option maxRecDepth 20000 in
theorem ggX10_differs_X10_whyNotComparable : GoodIn wsX10_differs wsX10_whyNotComparable := goodIn_r _ [9, 2, 10, 3, 11, 12, 13, 8, 14, 39, 40, 41, 42, 43, 44, 45, 46, 47, 48, 49, 50, 51, 52, 53, 54, 55, 56, 57] (by decide +kernel) (by decide +kernel)
set_option maxRecDepth 20000 in
theorem gX10_differs_X10_whyNotComparable : GoodIn wsX10_differs (wsV RX10 225 RX10 yX10_whyNotComparable wsX10_whyNotComparable) := goodIn_app (goodIn_of _ (by decide +kernel)) ggX10_differs_X10_whyNotComparable
set_option maxRecDepth 20000 in
theorem ggX10_differs_X10_refuse : GoodIn wsX10_differs wsX10_refuse := goodIn_r _ [18, 19, 39, 40, 41, 42, 43, 44] (by decide +kernel) (by decide +kernel)
set_option maxRecDepth 20000 in
theorem gX10_differs_X10_refuse : GoodIn wsX10_differs (wsV RX10 50 RX10 yX10_refuse wsX10_refuse) := goodIn_app (goodIn_of _ (by decide +kernel)) ggX10_differs_X10_refuse
set_option maxRecDepth 20000 in
theorem ggX10_differs_X3_firstDifference : GoodIn wsX10_differs wsX3_firstDifference := goodIn_r _ [24, 25, 26, 27, 28, 29, 30, 31, 32, 33, 34, 58, 59, 60, 61, 62, 63, 64, 65, 66, 67, 68, 69, 70, 71, 72, 73] (by decide +kernel) (by decide +kernel)
set_option maxRecDepth 20000 in
theorem gX10_differs_X3_firstDifference : GoodIn wsX10_differs (wsV RX10 228 RX3 yX3_firstDifference wsX3_firstDifference) := goodIn_app (goodIn_of _ (by decide +kernel)) ggX10_differs_X3_firstDifference
set_option maxRecDepth 20000 in
theorem ggX10_differs_X10_allow : GoodIn wsX10_differs wsX10_allow := goodIn_r _ [38, 19, 39, 40, 41, 42, 43, 44] (by decide +kernel) (by decide +kernel)
set_option maxRecDepth 20000 in
theorem gX10_differs_X10_allow : GoodIn wsX10_differs (wsV RX10 68 RX10 yX10_allow wsX10_allow) := goodIn_app (goodIn_of _ (by decide +kernel)) ggX10_differs_X10_allow
theorem dX10_differs_0 : decode cX10_differs 0 = .ok (.aload_n 0, 1) := by decide +kernel
theorem dX10_differs_1 : decode cX10_differs 1 = .ok (.iload_n 1, 1) := by decide +kernel
theorem dX10_differs_2 : decode cX10_differs 2 = .ok (.invokevirtual 225, 3) := by decide +kernel
theorem dX10_differs_5 : decode cX10_differs 5 = .ok (.istore_n 2, 1) := by decide +kernel
theorem dX10_differs_6 : decode cX10_differs 6 = .ok (.iload_n 2, 1) := by decide +kernel
theorem dX10_differs_7 : decode cX10_differs 7 = .ok (.ifCond .eq 9, 3) := by decide +kernel
theorem dX10_differs_10 : decode cX10_differs 10 = .ok (.aload_n 0, 1) := by decide +kernel
theorem dX10_differs_11 : decode cX10_differs 11 = .ok (.iload_n 2, 1) := by decide +kernel
theorem dX10_differs_12 : decode cX10_differs 12 = .ok (.invokevirtual 50, 3) := by decide +kernel
theorem dX10_differs_15 : decode cX10_differs 15 = .ok (.ireturn, 1) := by decide +kernel
theorem dX10_differs_16 : decode cX10_differs 16 = .ok (.aload_n 0, 1) := by decide +kernel
theorem dX10_differs_17 : decode cX10_differs 17 = .ok (.aload_n 0, 1) := by decide +kernel
theorem dX10_differs_18 : decode cX10_differs 18 = .ok (.getfield 19, 3) := by decide +kernel
theorem dX10_differs_21 : decode cX10_differs 21 = .ok (.aload_n 0, 1) := by decide +kernel
theorem dX10_differs_22 : decode cX10_differs 22 = .ok (.getfield 23, 3) := by decide +kernel
theorem dX10_differs_25 : decode cX10_differs 25 = .ok (.iload_n 1, 1) := by decide +kernel
theorem dX10_differs_26 : decode cX10_differs 26 = .ok (.aaload, 1) := by decide +kernel
theorem dX10_differs_27 : decode cX10_differs 27 = .ok (.aload_n 0, 1) := by decide +kernel
theorem dX10_differs_28 : decode cX10_differs 28 = .ok (.getfield 10, 3) := by decide +kernel
theorem dX10_differs_31 : decode cX10_differs 31 = .ok (.getfield 74, 3) := by decide +kernel
theorem dX10_differs_34 : decode cX10_differs 34 = .ok (.invokevirtual 228, 3) := by decide +kernel
theorem dX10_differs_37 : decode cX10_differs 37 = .ok (.invokevirtual 68, 3) := by decide +kernel
theorem dX10_differs_40 : decode cX10_differs 40 = .ok (.ireturn, 1) := by decide +kernel
set_option maxRecDepth 20000 in
theorem ggX10_told_X10_allow : GoodIn wsX10_told wsX10_allow := goodIn_r _ [20, 21, 26, 27, 28, 29, 30, 31] (by decide +kernel) (by decide +kernel)
set_option maxRecDepth 20000 in
theorem gX10_told_X10_allow : GoodIn wsX10_told (wsV RX10 68 RX10 yX10_allow wsX10_allow) := goodIn_app (goodIn_of _ (by decide +kernel)) ggX10_told_X10_allow
set_option maxRecDepth 20000 in
theorem ggX10_told_X10_refuse : GoodIn wsX10_told wsX10_refuse := goodIn_r _ [25, 21, 26, 27, 28, 29, 30, 31] (by decide +kernel) (by decide +kernel)
set_option maxRecDepth 20000 in
theorem gX10_told_X10_refuse : GoodIn wsX10_told (wsV RX10 50 RX10 yX10_refuse wsX10_refuse) := goodIn_app (goodIn_of _ (by decide +kernel)) ggX10_told_X10_refuse
theorem dX10_told_0 : decode cX10_told 0 = .ok (.iload_n 1, 1) := by decide +kernel
theorem dX10_told_1 : decode cX10_told 1 = .ok (.tableswitch 170 0 7 #[47, 59, 71, 89, 104, 119, 140, 158], 47) := by decide +kernel
theorem dX10_told_48 : decode cX10_told 48 = .ok (.aload_n 0, 1) := by decide +kernel
theorem dX10_told_49 : decode cX10_told 49 = .ok (.aload_n 0, 1) := by decide +kernel
theorem dX10_told_50 : decode cX10_told 50 = .ok (.getfield 10, 3) := by decide +kernel
theorem dX10_told_53 : decode cX10_told 53 = .ok (.getfield 57, 3) := by decide +kernel
theorem dX10_told_56 : decode cX10_told 56 = .ok (.invokevirtual 68, 3) := by decide +kernel
theorem dX10_told_59 : decode cX10_told 59 = .ok (.ireturn, 1) := by decide +kernel
theorem dX10_told_60 : decode cX10_told 60 = .ok (.aload_n 0, 1) := by decide +kernel
theorem dX10_told_61 : decode cX10_told 61 = .ok (.aload_n 0, 1) := by decide +kernel
theorem dX10_told_62 : decode cX10_told 62 = .ok (.getfield 10, 3) := by decide +kernel
theorem dX10_told_65 : decode cX10_told 65 = .ok (.getfield 74, 3) := by decide +kernel
theorem dX10_told_68 : decode cX10_told 68 = .ok (.invokevirtual 68, 3) := by decide +kernel
theorem dX10_told_71 : decode cX10_told 71 = .ok (.ireturn, 1) := by decide +kernel
theorem dX10_told_72 : decode cX10_told 72 = .ok (.aload_n 0, 1) := by decide +kernel
theorem dX10_told_73 : decode cX10_told 73 = .ok (.aload_n 0, 1) := by decide +kernel
theorem dX10_told_74 : decode cX10_told 74 = .ok (.getfield 19, 3) := by decide +kernel
theorem dX10_told_77 : decode cX10_told 77 = .ok (.getfield 106, 3) := by decide +kernel
theorem dX10_told_80 : decode cX10_told 80 = .ok (.getfield 110, 3) := by decide +kernel
theorem dX10_told_83 : decode cX10_told 83 = .ok (.getfield 204, 3) := by decide +kernel
theorem dX10_told_86 : decode cX10_told 86 = .ok (.invokevirtual 68, 3) := by decide +kernel
theorem dX10_told_89 : decode cX10_told 89 = .ok (.ireturn, 1) := by decide +kernel
theorem dX10_told_90 : decode cX10_told 90 = .ok (.aload_n 0, 1) := by decide +kernel
theorem dX10_told_91 : decode cX10_told 91 = .ok (.aload_n 0, 1) := by decide +kernel
theorem dX10_told_92 : decode cX10_told 92 = .ok (.getfield 19, 3) := by decide +kernel
theorem dX10_told_95 : decode cX10_told 95 = .ok (.getfield 106, 3) := by decide +kernel
theorem dX10_told_98 : decode cX10_told 98 = .ok (.getfield 232, 3) := by decide +kernel
theorem dX10_told_101 : decode cX10_told 101 = .ok (.invokevirtual 68, 3) := by decide +kernel
theorem dX10_told_104 : decode cX10_told 104 = .ok (.ireturn, 1) := by decide +kernel
theorem dX10_told_105 : decode cX10_told 105 = .ok (.aload_n 0, 1) := by decide +kernel
theorem dX10_told_106 : decode cX10_told 106 = .ok (.aload_n 0, 1) := by decide +kernel
theorem dX10_told_107 : decode cX10_told 107 = .ok (.getfield 19, 3) := by decide +kernel
theorem dX10_told_110 : decode cX10_told 110 = .ok (.getfield 106, 3) := by decide +kernel
theorem dX10_told_113 : decode cX10_told 113 = .ok (.getfield 235, 3) := by decide +kernel
theorem dX10_told_116 : decode cX10_told 116 = .ok (.invokevirtual 68, 3) := by decide +kernel
theorem dX10_told_119 : decode cX10_told 119 = .ok (.ireturn, 1) := by decide +kernel
theorem dX10_told_120 : decode cX10_told 120 = .ok (.aload_n 0, 1) := by decide +kernel
theorem dX10_told_121 : decode cX10_told 121 = .ok (.aload_n 0, 1) := by decide +kernel
theorem dX10_told_122 : decode cX10_told 122 = .ok (.getfield 19, 3) := by decide +kernel
theorem dX10_told_125 : decode cX10_told 125 = .ok (.getfield 155, 3) := by decide +kernel
theorem dX10_told_128 : decode cX10_told 128 = .ok (.getfield 159, 3) := by decide +kernel
theorem dX10_told_131 : decode cX10_told 131 = .ok (.getfield 165, 3) := by decide +kernel
theorem dX10_told_134 : decode cX10_told 134 = .ok (.getfield 204, 3) := by decide +kernel
theorem dX10_told_137 : decode cX10_told 137 = .ok (.invokevirtual 68, 3) := by decide +kernel
theorem dX10_told_140 : decode cX10_told 140 = .ok (.ireturn, 1) := by decide +kernel
theorem dX10_told_141 : decode cX10_told 141 = .ok (.aload_n 0, 1) := by decide +kernel
theorem dX10_told_142 : decode cX10_told 142 = .ok (.aload_n 0, 1) := by decide +kernel
theorem dX10_told_143 : decode cX10_told 143 = .ok (.getfield 19, 3) := by decide +kernel
theorem dX10_told_146 : decode cX10_told 146 = .ok (.getfield 175, 3) := by decide +kernel
theorem dX10_told_149 : decode cX10_told 149 = .ok (.getfield 182, 3) := by decide +kernel
theorem dX10_told_152 : decode cX10_told 152 = .ok (.getfield 204, 3) := by decide +kernel
theorem dX10_told_155 : decode cX10_told 155 = .ok (.invokevirtual 68, 3) := by decide +kernel
theorem dX10_told_158 : decode cX10_told 158 = .ok (.ireturn, 1) := by decide +kernel
theorem dX10_told_159 : decode cX10_told 159 = .ok (.aload_n 0, 1) := by decide +kernel
theorem dX10_told_160 : decode cX10_told 160 = .ok (.aload_n 0, 1) := by decide +kernel
theorem dX10_told_161 : decode cX10_told 161 = .ok (.getfield 19, 3) := by decide +kernel
theorem dX10_told_164 : decode cX10_told 164 = .ok (.getfield 54, 3) := by decide +kernel
theorem dX10_told_167 : decode cX10_told 167 = .ok (.invokevirtual 68, 3) := by decide +kernel
theorem dX10_told_170 : decode cX10_told 170 = .ok (.ireturn, 1) := by decide +kernel
theorem dX10_told_171 : decode cX10_told 171 = .ok (.aload_n 0, 1) := by decide +kernel
theorem dX10_told_172 : decode cX10_told 172 = .ok (.bipush (-2), 2) := by decide +kernel
theorem dX10_told_174 : decode cX10_told 174 = .ok (.invokevirtual 50, 3) := by decide +kernel
theorem dX10_told_177 : decode cX10_told 177 = .ok (.ireturn, 1) := by decide +kernel
theorem dX10_status_0 : decode cX10_status 0 = .ok (.aload_n 0, 1) := by decide +kernel
theorem dX10_status_1 : decode cX10_status 1 = .ok (.getfield 38, 3) := by decide +kernel
theorem dX10_status_4 : decode cX10_status 4 = .ok (.ireturn, 1) := by decide +kernel
theorem dX10_allow_0 : decode cX10_allow 0 = .ok (.aload_n 0, 1) := by decide +kernel
theorem dX10_allow_1 : decode cX10_allow 1 = .ok (.iconst 0, 1) := by decide +kernel
theorem dX10_allow_2 : decode cX10_allow 2 = .ok (.putfield 38, 3) := by decide +kernel
theorem dX10_allow_5 : decode cX10_allow 5 = .ok (.iload_n 1, 1) := by decide +kernel
theorem dX10_allow_6 : decode cX10_allow 6 = .ok (.ireturn, 1) := by decide +kernel
theorem dX10_refuse_0 : decode cX10_refuse 0 = .ok (.aload_n 0, 1) := by decide +kernel
theorem dX10_refuse_1 : decode cX10_refuse 1 = .ok (.iload_n 1, 1) := by decide +kernel
theorem dX10_refuse_2 : decode cX10_refuse 2 = .ok (.putfield 38, 3) := by decide +kernel
theorem dX10_refuse_5 : decode cX10_refuse 5 = .ok (.iload_n 1, 1) := by decide +kernel
theorem dX10_refuse_6 : decode cX10_refuse 6 = .ok (.ireturn, 1) := by decide +kernel
theorem dX10_refuseWithZero_0 : decode cX10_refuseWithZero 0 = .ok (.aload_n 0, 1) := by decide +kernel
theorem dX10_refuseWithZero_1 : decode cX10_refuseWithZero 1 = .ok (.iload_n 1, 1) := by decide +kernel
theorem dX10_refuseWithZero_2 : decode cX10_refuseWithZero 2 = .ok (.putfield 38, 3) := by decide +kernel
theorem dX10_refuseWithZero_5 : decode cX10_refuseWithZero 5 = .ok (.iconst 0, 1) := by decide +kernel
theorem dX10_refuseWithZero_6 : decode cX10_refuseWithZero 6 = .ok (.ireturn, 1) := by decide +kernel
theorem dX10_isPlace_0 : decode cX10_isPlace 0 = .ok (.iload_n 0, 1) := by decide +kernel
theorem dX10_isPlace_1 : decode cX10_isPlace 1 = .ok (.ifCond .lt 12, 3) := by decide +kernel
theorem dX10_isPlace_4 : decode cX10_isPlace 4 = .ok (.iload_n 0, 1) := by decide +kernel
theorem dX10_isPlace_5 : decode cX10_isPlace 5 = .ok (.iconst 3, 1) := by decide +kernel
theorem dX10_isPlace_6 : decode cX10_isPlace 6 = .ok (.if_icmp .ge 7, 3) := by decide +kernel
theorem dX10_isPlace_9 : decode cX10_isPlace 9 = .ok (.iconst 1, 1) := by decide +kernel
theorem dX10_isPlace_10 : decode cX10_isPlace 10 = .ok (.goto 4, 3) := by decide +kernel
theorem dX10_isPlace_13 : decode cX10_isPlace 13 = .ok (.iconst 0, 1) := by decide +kernel
theorem dX10_isPlace_14 : decode cX10_isPlace 14 = .ok (.ireturn, 1) := by decide +kernel
set_option maxRecDepth 20000 in
theorem ggX10_whyNotComparable_X10_isPlace : GoodIn wsX10_whyNotComparable wsX10_isPlace := goodIn_r _ [8] (by decide +kernel) (by decide +kernel)
set_option maxRecDepth 20000 in
theorem gX10_whyNotComparable_X10_isPlace : GoodIn wsX10_whyNotComparable (va_wsS RX10 215 yX10_isPlace wsX10_isPlace) := goodIn_app (goodIn_of _ (by decide +kernel)) ggX10_whyNotComparable_X10_isPlace
theorem dX10_whyNotComparable_0 : decode cX10_whyNotComparable 0 = .ok (.iload_n 1, 1) := by decide +kernel
theorem dX10_whyNotComparable_1 : decode cX10_whyNotComparable 1 = .ok (.invokestatic 215, 3) := by decide +kernel
theorem dX10_whyNotComparable_4 : decode cX10_whyNotComparable 4 = .ok (.ifCond .eq 12, 3) := by decide +kernel
theorem dX10_whyNotComparable_7 : decode cX10_whyNotComparable 7 = .ok (.aload_n 0, 1) := by decide +kernel
theorem dX10_whyNotComparable_8 : decode cX10_whyNotComparable 8 = .ok (.getfield 23, 3) := by decide +kernel
theorem dX10_whyNotComparable_11 : decode cX10_whyNotComparable 11 = .ok (.iload_n 1, 1) := by decide +kernel
theorem dX10_whyNotComparable_12 : decode cX10_whyNotComparable 12 = .ok (.aaload, 1) := by decide +kernel
theorem dX10_whyNotComparable_13 : decode cX10_whyNotComparable 13 = .ok (.ifnonnull 5, 3) := by decide +kernel
theorem dX10_whyNotComparable_16 : decode cX10_whyNotComparable 16 = .ok (.iconst (-1), 1) := by decide +kernel
theorem dX10_whyNotComparable_17 : decode cX10_whyNotComparable 17 = .ok (.ireturn, 1) := by decide +kernel
theorem dX10_whyNotComparable_18 : decode cX10_whyNotComparable 18 = .ok (.aload_n 0, 1) := by decide +kernel
theorem dX10_whyNotComparable_19 : decode cX10_whyNotComparable 19 = .ok (.getfield 27, 3) := by decide +kernel
theorem dX10_whyNotComparable_22 : decode cX10_whyNotComparable 22 = .ok (.iload_n 1, 1) := by decide +kernel
theorem dX10_whyNotComparable_23 : decode cX10_whyNotComparable 23 = .ok (.iaload, 1) := by decide +kernel
theorem dX10_whyNotComparable_24 : decode cX10_whyNotComparable 24 = .ok (.aload_n 0, 1) := by decide +kernel
theorem dX10_whyNotComparable_25 : decode cX10_whyNotComparable 25 = .ok (.getfield 10, 3) := by decide +kernel
theorem dX10_whyNotComparable_28 : decode cX10_whyNotComparable 28 = .ok (.getfield 222, 3) := by decide +kernel
theorem dX10_whyNotComparable_31 : decode cX10_whyNotComparable 31 = .ok (.if_icmp .ne 7, 3) := by decide +kernel
theorem dX10_whyNotComparable_34 : decode cX10_whyNotComparable 34 = .ok (.iconst 0, 1) := by decide +kernel
theorem dX10_whyNotComparable_35 : decode cX10_whyNotComparable 35 = .ok (.goto 5, 3) := by decide +kernel
theorem dX10_whyNotComparable_38 : decode cX10_whyNotComparable 38 = .ok (.bipush (-3), 2) := by decide +kernel
theorem dX10_whyNotComparable_40 : decode cX10_whyNotComparable 40 = .ok (.ireturn, 1) := by decide +kernel
set_option maxRecDepth 20000 in
theorem ggX10_playsOtherwise_X8_get : GoodIn wsX10_playsOtherwise wsX8_get := goodIn_r _ [7, 8, 9, 10, 11, 12, 6, 13, 14, 15, 16, 17, 18, 55, 56, 57, 58] (by decide +kernel) (by decide +kernel)
set_option maxRecDepth 20000 in
theorem gX10_playsOtherwise_X8_get : GoodIn wsX10_playsOtherwise (wsV RX10 152 RX8 yX8_get wsX8_get) := goodIn_app (goodIn_of _ (by decide +kernel)) ggX10_playsOtherwise_X8_get
set_option maxRecDepth 20000 in
theorem ggX10_playsOtherwise_X1_write : GoodIn wsX10_playsOtherwise wsX1_write := goodIn_r _ [23, 24, 25, 26, 27, 28, 29, 30, 31, 32, 33, 34, 35, 36, 37, 38, 22, 39, 40, 41, 42, 43, 44, 59, 60, 61, 62, 63, 64, 65, 66, 67, 68, 69, 70, 71, 72, 73, 74] (by decide +kernel) (by decide +kernel)
set_option maxRecDepth 20000 in
theorem gX10_playsOtherwise_X1_write : GoodIn wsX10_playsOtherwise (wsV RX10 238 RX1 yX1_write wsX1_write) := goodIn_app (goodIn_of _ (by decide +kernel)) ggX10_playsOtherwise_X1_write
set_option maxRecDepth 20000 in
theorem ggX10_playsOtherwise_X1_read : GoodIn wsX10_playsOtherwise wsX1_read := goodIn_r _ [48, 25, 24, 28, 29, 30, 31, 32, 33, 34, 35, 72, 73, 74, 59, 60, 61, 62, 63, 64, 65, 66, 67, 68, 69, 70, 71] (by decide +kernel) (by decide +kernel)
set_option maxRecDepth 20000 in
theorem gX10_playsOtherwise_X1_read : GoodIn wsX10_playsOtherwise (wsV RX10 242 RX1 yX1_read wsX1_read) := goodIn_app (goodIn_of _ (by decide +kernel)) ggX10_playsOtherwise_X1_read
theorem dX10_playsOtherwise_0 : decode cX10_playsOtherwise 0 = .ok (.aload_n 1, 1) := by decide +kernel
theorem dX10_playsOtherwise_1 : decode cX10_playsOtherwise 1 = .ok (.iload_n 2, 1) := by decide +kernel
theorem dX10_playsOtherwise_2 : decode cX10_playsOtherwise 2 = .ok (.iconst 0, 1) := by decide +kernel
theorem dX10_playsOtherwise_3 : decode cX10_playsOtherwise 3 = .ok (.invokevirtual 152, 3) := by decide +kernel
theorem dX10_playsOtherwise_6 : decode cX10_playsOtherwise 6 = .ok (.istore_n 3, 1) := by decide +kernel
theorem dX10_playsOtherwise_7 : decode cX10_playsOtherwise 7 = .ok (.aload_n 1, 1) := by decide +kernel
theorem dX10_playsOtherwise_8 : decode cX10_playsOtherwise 8 = .ok (.iload_n 2, 1) := by decide +kernel
theorem dX10_playsOtherwise_9 : decode cX10_playsOtherwise 9 = .ok (.iconst 1, 1) := by decide +kernel
theorem dX10_playsOtherwise_10 : decode cX10_playsOtherwise 10 = .ok (.invokevirtual 152, 3) := by decide +kernel
theorem dX10_playsOtherwise_13 : decode cX10_playsOtherwise 13 = .ok (.istore 4, 2) := by decide +kernel
theorem dX10_playsOtherwise_15 : decode cX10_playsOtherwise 15 = .ok (.aload_n 1, 1) := by decide +kernel
theorem dX10_playsOtherwise_16 : decode cX10_playsOtherwise 16 = .ok (.iload_n 2, 1) := by decide +kernel
theorem dX10_playsOtherwise_17 : decode cX10_playsOtherwise 17 = .ok (.bipush 6, 2) := by decide +kernel
theorem dX10_playsOtherwise_19 : decode cX10_playsOtherwise 19 = .ok (.invokevirtual 152, 3) := by decide +kernel
theorem dX10_playsOtherwise_22 : decode cX10_playsOtherwise 22 = .ok (.iconst 1, 1) := by decide +kernel
theorem dX10_playsOtherwise_23 : decode cX10_playsOtherwise 23 = .ok (.if_icmp .ne 7, 3) := by decide +kernel
theorem dX10_playsOtherwise_26 : decode cX10_playsOtherwise 26 = .ok (.iconst 1, 1) := by decide +kernel
theorem dX10_playsOtherwise_27 : decode cX10_playsOtherwise 27 = .ok (.goto 4, 3) := by decide +kernel
theorem dX10_playsOtherwise_30 : decode cX10_playsOtherwise 30 = .ok (.iconst 0, 1) := by decide +kernel
theorem dX10_playsOtherwise_31 : decode cX10_playsOtherwise 31 = .ok (.istore 5, 2) := by decide +kernel
theorem dX10_playsOtherwise_33 : decode cX10_playsOtherwise 33 = .ok (.aload_n 1, 1) := by decide +kernel
theorem dX10_playsOtherwise_34 : decode cX10_playsOtherwise 34 = .ok (.iload_n 2, 1) := by decide +kernel
theorem dX10_playsOtherwise_35 : decode cX10_playsOtherwise 35 = .ok (.iconst 2, 1) := by decide +kernel
theorem dX10_playsOtherwise_36 : decode cX10_playsOtherwise 36 = .ok (.invokevirtual 152, 3) := by decide +kernel
theorem dX10_playsOtherwise_39 : decode cX10_playsOtherwise 39 = .ok (.ifCond .eq 34, 3) := by decide +kernel
theorem dX10_playsOtherwise_42 : decode cX10_playsOtherwise 42 = .ok (.aload_n 0, 1) := by decide +kernel
theorem dX10_playsOtherwise_43 : decode cX10_playsOtherwise 43 = .ok (.getfield 34, 3) := by decide +kernel
theorem dX10_playsOtherwise_46 : decode cX10_playsOtherwise 46 = .ok (.aload_n 0, 1) := by decide +kernel
theorem dX10_playsOtherwise_47 : decode cX10_playsOtherwise 47 = .ok (.getfield 10, 3) := by decide +kernel
theorem dX10_playsOtherwise_50 : decode cX10_playsOtherwise 50 = .ok (.iload_n 3, 1) := by decide +kernel
theorem dX10_playsOtherwise_51 : decode cX10_playsOtherwise 51 = .ok (.iload 4, 2) := by decide +kernel
theorem dX10_playsOtherwise_53 : decode cX10_playsOtherwise 53 = .ok (.aload_n 1, 1) := by decide +kernel
theorem dX10_playsOtherwise_54 : decode cX10_playsOtherwise 54 = .ok (.iload_n 2, 1) := by decide +kernel
theorem dX10_playsOtherwise_55 : decode cX10_playsOtherwise 55 = .ok (.iconst 3, 1) := by decide +kernel
theorem dX10_playsOtherwise_56 : decode cX10_playsOtherwise 56 = .ok (.invokevirtual 152, 3) := by decide +kernel
theorem dX10_playsOtherwise_59 : decode cX10_playsOtherwise 59 = .ok (.invokevirtual 238, 3) := by decide +kernel
theorem dX10_playsOtherwise_62 : decode cX10_playsOtherwise 62 = .ok (.iload 5, 2) := by decide +kernel
theorem dX10_playsOtherwise_64 : decode cX10_playsOtherwise 64 = .ok (.if_icmp .eq 7, 3) := by decide +kernel
theorem dX10_playsOtherwise_67 : decode cX10_playsOtherwise 67 = .ok (.iconst 1, 1) := by decide +kernel
theorem dX10_playsOtherwise_68 : decode cX10_playsOtherwise 68 = .ok (.goto 4, 3) := by decide +kernel
theorem dX10_playsOtherwise_71 : decode cX10_playsOtherwise 71 = .ok (.iconst 0, 1) := by decide +kernel
theorem dX10_playsOtherwise_72 : decode cX10_playsOtherwise 72 = .ok (.ireturn, 1) := by decide +kernel
theorem dX10_playsOtherwise_73 : decode cX10_playsOtherwise 73 = .ok (.aload_n 0, 1) := by decide +kernel
theorem dX10_playsOtherwise_74 : decode cX10_playsOtherwise 74 = .ok (.getfield 34, 3) := by decide +kernel
theorem dX10_playsOtherwise_77 : decode cX10_playsOtherwise 77 = .ok (.aload_n 0, 1) := by decide +kernel
theorem dX10_playsOtherwise_78 : decode cX10_playsOtherwise 78 = .ok (.getfield 10, 3) := by decide +kernel
theorem dX10_playsOtherwise_81 : decode cX10_playsOtherwise 81 = .ok (.iload_n 3, 1) := by decide +kernel
theorem dX10_playsOtherwise_82 : decode cX10_playsOtherwise 82 = .ok (.iload 4, 2) := by decide +kernel
theorem dX10_playsOtherwise_84 : decode cX10_playsOtherwise 84 = .ok (.invokevirtual 242, 3) := by decide +kernel
theorem dX10_playsOtherwise_87 : decode cX10_playsOtherwise 87 = .ok (.istore 6, 2) := by decide +kernel
theorem dX10_playsOtherwise_89 : decode cX10_playsOtherwise 89 = .ok (.iload 5, 2) := by decide +kernel
theorem dX10_playsOtherwise_91 : decode cX10_playsOtherwise 91 = .ok (.ifCond .eq 14, 3) := by decide +kernel
theorem dX10_playsOtherwise_94 : decode cX10_playsOtherwise 94 = .ok (.iload 6, 2) := by decide +kernel
theorem dX10_playsOtherwise_96 : decode cX10_playsOtherwise 96 = .ok (.aload_n 1, 1) := by decide +kernel
theorem dX10_playsOtherwise_97 : decode cX10_playsOtherwise 97 = .ok (.iload_n 2, 1) := by decide +kernel
theorem dX10_playsOtherwise_98 : decode cX10_playsOtherwise 98 = .ok (.iconst 3, 1) := by decide +kernel
theorem dX10_playsOtherwise_99 : decode cX10_playsOtherwise 99 = .ok (.invokevirtual 152, 3) := by decide +kernel
theorem dX10_playsOtherwise_102 : decode cX10_playsOtherwise 102 = .ok (.if_icmp .eq 7, 3) := by decide +kernel
theorem dX10_playsOtherwise_105 : decode cX10_playsOtherwise 105 = .ok (.iconst 1, 1) := by decide +kernel
theorem dX10_playsOtherwise_106 : decode cX10_playsOtherwise 106 = .ok (.goto 4, 3) := by decide +kernel
theorem dX10_playsOtherwise_109 : decode cX10_playsOtherwise 109 = .ok (.iconst 0, 1) := by decide +kernel
theorem dX10_playsOtherwise_110 : decode cX10_playsOtherwise 110 = .ok (.ireturn, 1) := by decide +kernel
set_option maxRecDepth 20000 in
theorem ggX11_init_X11_begin : GoodIn wsX11_init wsX11_begin := goodIn_r _ [27, 5, 28, 13, 29, 30, 31, 32, 33, 34, 35, 36, 37, 38, 39, 40, 41, 42, 43, 44, 45, 46, 47, 48, 49, 50, 51, 52] (by decide +kernel) (by decide +kernel)
set_option maxRecDepth 20000 in
theorem gX11_init_X11_begin : GoodIn wsX11_init (wsV RX11 63 RX11 yX11_begin wsX11_begin) := goodIn_app (goodIn_of _ (by decide +kernel)) ggX11_init_X11_begin
theorem dX11_init_0 : decode cX11_init 0 = .ok (.aload_n 0, 1) := by decide +kernel
theorem dX11_init_1 : decode cX11_init 1 = .ok (.invokespecial 1, 3) := by decide +kernel
theorem dX11_init_4 : decode cX11_init 4 = .ok (.aload_n 0, 1) := by decide +kernel
theorem dX11_init_5 : decode cX11_init 5 = .ok (.sipush 2490, 3) := by decide +kernel
theorem dX11_init_8 : decode cX11_init 8 = .ok (.newarray .int, 2) := by decide +kernel
theorem dX11_init_10 : decode cX11_init 10 = .ok (.putfield 7, 3) := by decide +kernel
theorem dX11_init_13 : decode cX11_init 13 = .ok (.aload_n 0, 1) := by decide +kernel
theorem dX11_init_14 : decode cX11_init 14 = .ok (.bipush 8, 2) := by decide +kernel
theorem dX11_init_16 : decode cX11_init 16 = .ok (.newarray .int, 2) := by decide +kernel
theorem dX11_init_18 : decode cX11_init 18 = .ok (.putfield 13, 3) := by decide +kernel
theorem dX11_init_21 : decode cX11_init 21 = .ok (.aload_n 0, 1) := by decide +kernel
theorem dX11_init_22 : decode cX11_init 22 = .ok (.bipush 8, 2) := by decide +kernel
theorem dX11_init_24 : decode cX11_init 24 = .ok (.newarray .int, 2) := by decide +kernel
theorem dX11_init_26 : decode cX11_init 26 = .ok (.putfield 16, 3) := by decide +kernel
theorem dX11_init_29 : decode cX11_init 29 = .ok (.aload_n 0, 1) := by decide +kernel
theorem dX11_init_30 : decode cX11_init 30 = .ok (.bipush 8, 2) := by decide +kernel
theorem dX11_init_32 : decode cX11_init 32 = .ok (.newarray .int, 2) := by decide +kernel
theorem dX11_init_34 : decode cX11_init 34 = .ok (.putfield 19, 3) := by decide +kernel
theorem dX11_init_37 : decode cX11_init 37 = .ok (.aload_n 0, 1) := by decide +kernel
theorem dX11_init_38 : decode cX11_init 38 = .ok (.bipush 8, 2) := by decide +kernel
theorem dX11_init_40 : decode cX11_init 40 = .ok (.newarray .boolean, 2) := by decide +kernel
theorem dX11_init_42 : decode cX11_init 42 = .ok (.putfield 22, 3) := by decide +kernel
theorem dX11_init_45 : decode cX11_init 45 = .ok (.aload_n 0, 1) := by decide +kernel
theorem dX11_init_46 : decode cX11_init 46 = .ok (.bipush 48, 2) := by decide +kernel
theorem dX11_init_48 : decode cX11_init 48 = .ok (.newarray .int, 2) := by decide +kernel
theorem dX11_init_50 : decode cX11_init 50 = .ok (.putfield 26, 3) := by decide +kernel
theorem dX11_init_53 : decode cX11_init 53 = .ok (.aload_n 0, 1) := by decide +kernel
theorem dX11_init_54 : decode cX11_init 54 = .ok (.bipush 48, 2) := by decide +kernel
theorem dX11_init_56 : decode cX11_init 56 = .ok (.newarray .int, 2) := by decide +kernel
theorem dX11_init_58 : decode cX11_init 58 = .ok (.putfield 29, 3) := by decide +kernel
theorem dX11_init_61 : decode cX11_init 61 = .ok (.aload_n 0, 1) := by decide +kernel
theorem dX11_init_62 : decode cX11_init 62 = .ok (.bipush 48, 2) := by decide +kernel
theorem dX11_init_64 : decode cX11_init 64 = .ok (.newarray .int, 2) := by decide +kernel
theorem dX11_init_66 : decode cX11_init 66 = .ok (.putfield 32, 3) := by decide +kernel
theorem dX11_init_69 : decode cX11_init 69 = .ok (.aload_n 0, 1) := by decide +kernel
theorem dX11_init_70 : decode cX11_init 70 = .ok (.bipush 32, 2) := by decide +kernel
theorem dX11_init_72 : decode cX11_init 72 = .ok (.putfield 35, 3) := by decide +kernel
theorem dX11_init_75 : decode cX11_init 75 = .ok (.aload_n 0, 1) := by decide +kernel
theorem dX11_init_76 : decode cX11_init 76 = .ok (.bipush 15, 2) := by decide +kernel
theorem dX11_init_78 : decode cX11_init 78 = .ok (.newarray .int, 2) := by decide +kernel
theorem dX11_init_80 : decode cX11_init 80 = .ok (.putfield 39, 3) := by decide +kernel
theorem dX11_init_83 : decode cX11_init 83 = .ok (.aload_n 0, 1) := by decide +kernel
theorem dX11_init_84 : decode cX11_init 84 = .ok (.bipush 15, 2) := by decide +kernel
theorem dX11_init_86 : decode cX11_init 86 = .ok (.newarray .int, 2) := by decide +kernel
theorem dX11_init_88 : decode cX11_init 88 = .ok (.putfield 42, 3) := by decide +kernel
theorem dX11_init_91 : decode cX11_init 91 = .ok (.aload_n 0, 1) := by decide +kernel
theorem dX11_init_92 : decode cX11_init 92 = .ok (.bipush 48, 2) := by decide +kernel
theorem dX11_init_94 : decode cX11_init 94 = .ok (.newarray .boolean, 2) := by decide +kernel
theorem dX11_init_96 : decode cX11_init 96 = .ok (.putfield 45, 3) := by decide +kernel
theorem dX11_init_99 : decode cX11_init 99 = .ok (.aload_n 0, 1) := by decide +kernel
theorem dX11_init_100 : decode cX11_init 100 = .ok (.bipush 96, 2) := by decide +kernel
theorem dX11_init_102 : decode cX11_init 102 = .ok (.newarray .int, 2) := by decide +kernel
theorem dX11_init_104 : decode cX11_init 104 = .ok (.putfield 48, 3) := by decide +kernel
theorem dX11_init_107 : decode cX11_init 107 = .ok (.aload_n 0, 1) := by decide +kernel
theorem dX11_init_108 : decode cX11_init 108 = .ok (.bipush 48, 2) := by decide +kernel
theorem dX11_init_110 : decode cX11_init 110 = .ok (.newarray .int, 2) := by decide +kernel
theorem dX11_init_112 : decode cX11_init 112 = .ok (.putfield 51, 3) := by decide +kernel
theorem dX11_init_115 : decode cX11_init 115 = .ok (.aload_n 0, 1) := by decide +kernel
theorem dX11_init_116 : decode cX11_init 116 = .ok (.sipush 7470, 3) := by decide +kernel
theorem dX11_init_119 : decode cX11_init 119 = .ok (.newarray .int, 2) := by decide +kernel
theorem dX11_init_121 : decode cX11_init 121 = .ok (.putfield 54, 3) := by decide +kernel
theorem dX11_init_124 : decode cX11_init 124 = .ok (.aload_n 0, 1) := by decide +kernel
theorem dX11_init_125 : decode cX11_init 125 = .ok (.iconst 3, 1) := by decide +kernel
theorem dX11_init_126 : decode cX11_init 126 = .ok (.newarray .int, 2) := by decide +kernel
theorem dX11_init_128 : decode cX11_init 128 = .ok (.putfield 57, 3) := by decide +kernel
theorem dX11_init_131 : decode cX11_init 131 = .ok (.aload_n 0, 1) := by decide +kernel
theorem dX11_init_132 : decode cX11_init 132 = .ok (.iconst 3, 1) := by decide +kernel
theorem dX11_init_133 : decode cX11_init 133 = .ok (.newarray .boolean, 2) := by decide +kernel
theorem dX11_init_135 : decode cX11_init 135 = .ok (.putfield 60, 3) := by decide +kernel
theorem dX11_init_138 : decode cX11_init 138 = .ok (.aload_n 0, 1) := by decide +kernel
theorem dX11_init_139 : decode cX11_init 139 = .ok (.invokevirtual 63, 3) := by decide +kernel
theorem dX11_init_142 : decode cX11_init 142 = .ok (.return_, 1) := by decide +kernel
theorem dX11_in_0 : decode cX11_in 0 = .ok (.lload_n 0, 1) := by decide +kernel
theorem dX11_in_1 : decode cX11_in 1 = .ok (.lload_n 2, 1) := by decide +kernel
theorem dX11_in_2 : decode cX11_in 2 = .ok (.lcmp, 1) := by decide +kernel
theorem dX11_in_3 : decode cX11_in 3 = .ok (.ifCond .lt 14, 3) := by decide +kernel
theorem dX11_in_6 : decode cX11_in 6 = .ok (.lload_n 0, 1) := by decide +kernel
theorem dX11_in_7 : decode cX11_in 7 = .ok (.lload 4, 2) := by decide +kernel
theorem dX11_in_9 : decode cX11_in 9 = .ok (.lcmp, 1) := by decide +kernel
theorem dX11_in_10 : decode cX11_in 10 = .ok (.ifCond .gt 7, 3) := by decide +kernel
theorem dX11_in_13 : decode cX11_in 13 = .ok (.iconst 1, 1) := by decide +kernel
theorem dX11_in_14 : decode cX11_in 14 = .ok (.goto 4, 3) := by decide +kernel
theorem dX11_in_17 : decode cX11_in 17 = .ok (.iconst 0, 1) := by decide +kernel
theorem dX11_in_18 : decode cX11_in 18 = .ok (.ireturn, 1) := by decide +kernel
theorem dX11_refused_0 : decode cX11_refused 0 = .ok (.aload_n 0, 1) := by decide +kernel
theorem dX11_refused_1 : decode cX11_refused 1 = .ok (.iload_n 1, 1) := by decide +kernel
theorem dX11_refused_2 : decode cX11_refused 2 = .ok (.putfield 66, 3) := by decide +kernel
theorem dX11_refused_5 : decode cX11_refused 5 = .ok (.iload_n 1, 1) := by decide +kernel
theorem dX11_refused_6 : decode cX11_refused 6 = .ok (.ireturn, 1) := by decide +kernel
theorem dX11_done_0 : decode cX11_done 0 = .ok (.aload_n 0, 1) := by decide +kernel
theorem dX11_done_1 : decode cX11_done 1 = .ok (.iconst 0, 1) := by decide +kernel
theorem dX11_done_2 : decode cX11_done 2 = .ok (.putfield 66, 3) := by decide +kernel
theorem dX11_done_5 : decode cX11_done 5 = .ok (.iload_n 1, 1) := by decide +kernel
theorem dX11_done_6 : decode cX11_done 6 = .ok (.ireturn, 1) := by decide +kernel
theorem dX11_none_0 : decode cX11_none 0 = .ok (.aload_n 0, 1) := by decide +kernel
theorem dX11_none_1 : decode cX11_none 1 = .ok (.iload_n 1, 1) := by decide +kernel
theorem dX11_none_2 : decode cX11_none 2 = .ok (.putfield 66, 3) := by decide +kernel
theorem dX11_none_5 : decode cX11_none 5 = .ok (.iconst 0, 1) := by decide +kernel
theorem dX11_none_6 : decode cX11_none 6 = .ok (.ireturn, 1) := by decide +kernel
theorem dX11_begin_0 : decode cX11_begin 0 = .ok (.iconst 0, 1) := by decide +kernel
theorem dX11_begin_1 : decode cX11_begin 1 = .ok (.istore_n 1, 1) := by decide +kernel
theorem dX11_begin_2 : decode cX11_begin 2 = .ok (.iload_n 1, 1) := by decide +kernel
theorem dX11_begin_3 : decode cX11_begin 3 = .ok (.sipush 2490, 3) := by decide +kernel
theorem dX11_begin_6 : decode cX11_begin 6 = .ok (.if_icmp .ge 16, 3) := by decide +kernel
theorem dX11_begin_9 : decode cX11_begin 9 = .ok (.aload_n 0, 1) := by decide +kernel
theorem dX11_begin_10 : decode cX11_begin 10 = .ok (.getfield 7, 3) := by decide +kernel
theorem dX11_begin_13 : decode cX11_begin 13 = .ok (.iload_n 1, 1) := by decide +kernel
theorem dX11_begin_14 : decode cX11_begin 14 = .ok (.iconst 0, 1) := by decide +kernel
theorem dX11_begin_15 : decode cX11_begin 15 = .ok (.iastore, 1) := by decide +kernel
theorem dX11_begin_16 : decode cX11_begin 16 = .ok (.iinc 1 1, 3) := by decide +kernel
theorem dX11_begin_19 : decode cX11_begin 19 = .ok (.goto (-17), 3) := by decide +kernel
theorem dX11_begin_22 : decode cX11_begin 22 = .ok (.aload_n 0, 1) := by decide +kernel
theorem dX11_begin_23 : decode cX11_begin 23 = .ok (.getfield 7, 3) := by decide +kernel
theorem dX11_begin_26 : decode cX11_begin 26 = .ok (.iconst 4, 1) := by decide +kernel
theorem dX11_begin_27 : decode cX11_begin 27 = .ok (.iconst 1, 1) := by decide +kernel
theorem dX11_begin_28 : decode cX11_begin 28 = .ok (.iastore, 1) := by decide +kernel
theorem dX11_begin_29 : decode cX11_begin 29 = .ok (.iconst 0, 1) := by decide +kernel
theorem dX11_begin_30 : decode cX11_begin 30 = .ok (.istore_n 1, 1) := by decide +kernel
theorem dX11_begin_31 : decode cX11_begin 31 = .ok (.iload_n 1, 1) := by decide +kernel
theorem dX11_begin_32 : decode cX11_begin 32 = .ok (.bipush 15, 2) := by decide +kernel
theorem dX11_begin_34 : decode cX11_begin 34 = .ok (.if_icmp .ge 19, 3) := by decide +kernel
theorem dX11_begin_37 : decode cX11_begin 37 = .ok (.aload_n 0, 1) := by decide +kernel
theorem dX11_begin_38 : decode cX11_begin 38 = .ok (.getfield 7, 3) := by decide +kernel
theorem dX11_begin_41 : decode cX11_begin 41 = .ok (.bipush 45, 2) := by decide +kernel
theorem dX11_begin_43 : decode cX11_begin 43 = .ok (.iload_n 1, 1) := by decide +kernel
theorem dX11_begin_44 : decode cX11_begin 44 = .ok (.iadd, 1) := by decide +kernel
theorem dX11_begin_45 : decode cX11_begin 45 = .ok (.iconst 1, 1) := by decide +kernel
theorem dX11_begin_46 : decode cX11_begin 46 = .ok (.iastore, 1) := by decide +kernel
theorem dX11_begin_47 : decode cX11_begin 47 = .ok (.iinc 1 1, 3) := by decide +kernel
theorem dX11_begin_50 : decode cX11_begin 50 = .ok (.goto (-19), 3) := by decide +kernel
theorem dX11_begin_53 : decode cX11_begin 53 = .ok (.iconst 0, 1) := by decide +kernel
theorem dX11_begin_54 : decode cX11_begin 54 = .ok (.istore_n 1, 1) := by decide +kernel
theorem dX11_begin_55 : decode cX11_begin 55 = .ok (.iload_n 1, 1) := by decide +kernel
theorem dX11_begin_56 : decode cX11_begin 56 = .ok (.aload_n 0, 1) := by decide +kernel
theorem dX11_begin_57 : decode cX11_begin 57 = .ok (.getfield 69, 3) := by decide +kernel
theorem dX11_begin_60 : decode cX11_begin 60 = .ok (.if_icmp .ge 24, 3) := by decide +kernel
theorem dX11_begin_63 : decode cX11_begin 63 = .ok (.aload_n 0, 1) := by decide +kernel
theorem dX11_begin_64 : decode cX11_begin 64 = .ok (.getfield 7, 3) := by decide +kernel
theorem dX11_begin_67 : decode cX11_begin 67 = .ok (.bipush 75, 2) := by decide +kernel
theorem dX11_begin_69 : decode cX11_begin 69 = .ok (.iload_n 1, 1) := by decide +kernel
theorem dX11_begin_70 : decode cX11_begin 70 = .ok (.iadd, 1) := by decide +kernel
theorem dX11_begin_71 : decode cX11_begin 71 = .ok (.aload_n 0, 1) := by decide +kernel
theorem dX11_begin_72 : decode cX11_begin 72 = .ok (.getfield 32, 3) := by decide +kernel
theorem dX11_begin_75 : decode cX11_begin 75 = .ok (.iload_n 1, 1) := by decide +kernel
theorem dX11_begin_76 : decode cX11_begin 76 = .ok (.iaload, 1) := by decide +kernel
theorem dX11_begin_77 : decode cX11_begin 77 = .ok (.iastore, 1) := by decide +kernel
theorem dX11_begin_78 : decode cX11_begin 78 = .ok (.iinc 1 1, 3) := by decide +kernel
theorem dX11_begin_81 : decode cX11_begin 81 = .ok (.goto (-26), 3) := by decide +kernel
theorem dX11_begin_84 : decode cX11_begin 84 = .ok (.aload_n 0, 1) := by decide +kernel
theorem dX11_begin_85 : decode cX11_begin 85 = .ok (.getfield 7, 3) := by decide +kernel
theorem dX11_begin_88 : decode cX11_begin 88 = .ok (.sipush 180, 3) := by decide +kernel
theorem dX11_begin_91 : decode cX11_begin 91 = .ok (.iconst (-1), 1) := by decide +kernel
theorem dX11_begin_92 : decode cX11_begin 92 = .ok (.iastore, 1) := by decide +kernel
theorem dX11_begin_93 : decode cX11_begin 93 = .ok (.aload_n 0, 1) := by decide +kernel
theorem dX11_begin_94 : decode cX11_begin 94 = .ok (.getfield 7, 3) := by decide +kernel
theorem dX11_begin_97 : decode cX11_begin 97 = .ok (.sipush 181, 3) := by decide +kernel
theorem dX11_begin_100 : decode cX11_begin 100 = .ok (.iconst (-1), 1) := by decide +kernel
theorem dX11_begin_101 : decode cX11_begin 101 = .ok (.iastore, 1) := by decide +kernel
theorem dX11_begin_102 : decode cX11_begin 102 = .ok (.return_, 1) := by decide +kernel
set_option maxRecDepth 20000 in
theorem ggX11_isWord_X11_in : GoodIn wsX11_isWord wsX11_in := goodIn_r _ [5] (by decide +kernel) (by decide +kernel)
set_option maxRecDepth 20000 in
theorem gX11_isWord_X11_in : GoodIn wsX11_isWord (va_wsS RX11 74 yX11_in wsX11_in) := goodIn_app (goodIn_of _ (by decide +kernel)) ggX11_isWord_X11_in
theorem dX11_isWord_0 : decode cX11_isWord 0 = .ok (.iload_n 0, 1) := by decide +kernel
theorem dX11_isWord_1 : decode cX11_isWord 1 = .ok (.i2l, 1) := by decide +kernel
theorem dX11_isWord_2 : decode cX11_isWord 2 = .ok (.lconst 0, 1) := by decide +kernel
theorem dX11_isWord_3 : decode cX11_isWord 3 = .ok (.ldc2_w 72, 3) := by decide +kernel
theorem dX11_isWord_6 : decode cX11_isWord 6 = .ok (.invokestatic 74, 3) := by decide +kernel
theorem dX11_isWord_9 : decode cX11_isWord 9 = .ok (.ifCond .eq 13, 3) := by decide +kernel
theorem dX11_isWord_12 : decode cX11_isWord 12 = .ok (.iload_n 0, 1) := by decide +kernel
theorem dX11_isWord_13 : decode cX11_isWord 13 = .ok (.iconst 4, 1) := by decide +kernel
theorem dX11_isWord_14 : decode cX11_isWord 14 = .ok (.irem, 1) := by decide +kernel
theorem dX11_isWord_15 : decode cX11_isWord 15 = .ok (.ifCond .ne 7, 3) := by decide +kernel
theorem dX11_isWord_18 : decode cX11_isWord 18 = .ok (.iconst 1, 1) := by decide +kernel
theorem dX11_isWord_19 : decode cX11_isWord 19 = .ok (.goto 4, 3) := by decide +kernel
theorem dX11_isWord_22 : decode cX11_isWord 22 = .ok (.iconst 0, 1) := by decide +kernel
theorem dX11_isWord_23 : decode cX11_isWord 23 = .ok (.ireturn, 1) := by decide +kernel
set_option maxRecDepth 20000 in
theorem ggX11_slave_X11_isWord : GoodIn wsX11_slave wsX11_isWord := goodIn_r _ [12, 13, 14, 15, 11, 16] (by decide +kernel) (by decide +kernel)
set_option maxRecDepth 20000 in
theorem gX11_slave_X11_isWord : GoodIn wsX11_slave (va_wsS RX11 78 yX11_isWord wsX11_isWord) := goodIn_app (goodIn_of _ (by decide +kernel)) ggX11_slave_X11_isWord
set_option maxRecDepth 20000 in
theorem ggX11_slave_X11_in : GoodIn wsX11_slave wsX11_in := goodIn_r _ [16] (by decide +kernel) (by decide +kernel)
set_option maxRecDepth 20000 in
theorem gX11_slave_X11_in : GoodIn wsX11_slave (va_wsS RX11 74 yX11_in wsX11_in) := goodIn_app (goodIn_of _ (by decide +kernel)) ggX11_slave_X11_in
set_option maxRecDepth 20000 in
theorem ggX11_slave_X11_refused : GoodIn wsX11_slave wsX11_refused := goodIn_r _ [20, 21, 26, 27, 28, 29, 30, 31, 32, 33, 34, 35, 36, 37, 38, 39, 40, 41, 42, 43, 44, 45, 46, 47, 48, 49] (by decide +kernel) (by decide +kernel)
set_option maxRecDepth 20000 in
theorem gX11_slave_X11_refused : GoodIn wsX11_slave (wsV RX11 84 RX11 yX11_refused wsX11_refused) := goodIn_app (goodIn_of _ (by decide +kernel)) ggX11_slave_X11_refused
set_option maxRecDepth 20000 in
theorem ggX11_slave_X11_done : GoodIn wsX11_slave wsX11_done := goodIn_r _ [25, 21, 26, 27, 28, 29, 30, 31, 32, 33, 34, 35, 36, 37, 38, 39, 40, 41, 42, 43, 44, 45, 46, 47, 48, 49] (by decide +kernel) (by decide +kernel)
set_option maxRecDepth 20000 in
theorem gX11_slave_X11_done : GoodIn wsX11_slave (wsV RX11 94 RX11 yX11_done wsX11_done) := goodIn_app (goodIn_of _ (by decide +kernel)) ggX11_slave_X11_done
theorem dX11_slave_0 : decode cX11_slave 0 = .ok (.iload_n 1, 1) := by decide +kernel
theorem dX11_slave_1 : decode cX11_slave 1 = .ok (.invokestatic 78, 3) := by decide +kernel
theorem dX11_slave_4 : decode cX11_slave 4 = .ok (.ifCond .eq 27, 3) := by decide +kernel
theorem dX11_slave_7 : decode cX11_slave 7 = .ok (.iload_n 2, 1) := by decide +kernel
theorem dX11_slave_8 : decode cX11_slave 8 = .ok (.invokestatic 78, 3) := by decide +kernel
theorem dX11_slave_11 : decode cX11_slave 11 = .ok (.ifCond .eq 20, 3) := by decide +kernel
theorem dX11_slave_14 : decode cX11_slave 14 = .ok (.iload_n 2, 1) := by decide +kernel
theorem dX11_slave_15 : decode cX11_slave 15 = .ok (.iload_n 1, 1) := by decide +kernel
theorem dX11_slave_16 : decode cX11_slave 16 = .ok (.if_icmp .lt 15, 3) := by decide +kernel
theorem dX11_slave_19 : decode cX11_slave 19 = .ok (.iload_n 3, 1) := by decide +kernel
theorem dX11_slave_20 : decode cX11_slave 20 = .ok (.i2l, 1) := by decide +kernel
theorem dX11_slave_21 : decode cX11_slave 21 = .ok (.lconst 0, 1) := by decide +kernel
theorem dX11_slave_22 : decode cX11_slave 22 = .ok (.ldc2_w 82, 3) := by decide +kernel
theorem dX11_slave_25 : decode cX11_slave 25 = .ok (.invokestatic 74, 3) := by decide +kernel
theorem dX11_slave_28 : decode cX11_slave 28 = .ok (.ifCond .ne 10, 3) := by decide +kernel
theorem dX11_slave_31 : decode cX11_slave 31 = .ok (.aload_n 0, 1) := by decide +kernel
theorem dX11_slave_32 : decode cX11_slave 32 = .ok (.bipush (-2), 2) := by decide +kernel
theorem dX11_slave_34 : decode cX11_slave 34 = .ok (.invokevirtual 84, 3) := by decide +kernel
theorem dX11_slave_37 : decode cX11_slave 37 = .ok (.ireturn, 1) := by decide +kernel
theorem dX11_slave_38 : decode cX11_slave 38 = .ok (.aload_n 0, 1) := by decide +kernel
theorem dX11_slave_39 : decode cX11_slave 39 = .ok (.getfield 7, 3) := by decide +kernel
theorem dX11_slave_42 : decode cX11_slave 42 = .ok (.sipush 179, 3) := by decide +kernel
theorem dX11_slave_45 : decode cX11_slave 45 = .ok (.iaload, 1) := by decide +kernel
theorem dX11_slave_46 : decode cX11_slave 46 = .ok (.ifCond .eq 10, 3) := by decide +kernel
theorem dX11_slave_49 : decode cX11_slave 49 = .ok (.aload_n 0, 1) := by decide +kernel
theorem dX11_slave_50 : decode cX11_slave 50 = .ok (.bipush (-3), 2) := by decide +kernel
theorem dX11_slave_52 : decode cX11_slave 52 = .ok (.invokevirtual 84, 3) := by decide +kernel
theorem dX11_slave_55 : decode cX11_slave 55 = .ok (.ireturn, 1) := by decide +kernel
theorem dX11_slave_56 : decode cX11_slave 56 = .ok (.aload_n 0, 1) := by decide +kernel
theorem dX11_slave_57 : decode cX11_slave 57 = .ok (.getfield 88, 3) := by decide +kernel
theorem dX11_slave_60 : decode cX11_slave 60 = .ok (.bipush 8, 2) := by decide +kernel
theorem dX11_slave_62 : decode cX11_slave 62 = .ok (.if_icmp .ne 10, 3) := by decide +kernel
theorem dX11_slave_65 : decode cX11_slave 65 = .ok (.aload_n 0, 1) := by decide +kernel
theorem dX11_slave_66 : decode cX11_slave 66 = .ok (.bipush (-4), 2) := by decide +kernel
theorem dX11_slave_68 : decode cX11_slave 68 = .ok (.invokevirtual 84, 3) := by decide +kernel
theorem dX11_slave_71 : decode cX11_slave 71 = .ok (.ireturn, 1) := by decide +kernel
theorem dX11_slave_72 : decode cX11_slave 72 = .ok (.iconst 0, 1) := by decide +kernel
theorem dX11_slave_73 : decode cX11_slave 73 = .ok (.istore 5, 2) := by decide +kernel
theorem dX11_slave_75 : decode cX11_slave 75 = .ok (.iload 5, 2) := by decide +kernel
theorem dX11_slave_77 : decode cX11_slave 77 = .ok (.aload_n 0, 1) := by decide +kernel
theorem dX11_slave_78 : decode cX11_slave 78 = .ok (.getfield 88, 3) := by decide +kernel
theorem dX11_slave_81 : decode cX11_slave 81 = .ok (.if_icmp .ge 38, 3) := by decide +kernel
theorem dX11_slave_84 : decode cX11_slave 84 = .ok (.iload_n 1, 1) := by decide +kernel
theorem dX11_slave_85 : decode cX11_slave 85 = .ok (.aload_n 0, 1) := by decide +kernel
theorem dX11_slave_86 : decode cX11_slave 86 = .ok (.getfield 16, 3) := by decide +kernel
theorem dX11_slave_89 : decode cX11_slave 89 = .ok (.iload 5, 2) := by decide +kernel
theorem dX11_slave_91 : decode cX11_slave 91 = .ok (.iaload, 1) := by decide +kernel
theorem dX11_slave_92 : decode cX11_slave 92 = .ok (.if_icmp .gt 21, 3) := by decide +kernel
theorem dX11_slave_95 : decode cX11_slave 95 = .ok (.aload_n 0, 1) := by decide +kernel
theorem dX11_slave_96 : decode cX11_slave 96 = .ok (.getfield 13, 3) := by decide +kernel
theorem dX11_slave_99 : decode cX11_slave 99 = .ok (.iload 5, 2) := by decide +kernel
theorem dX11_slave_101 : decode cX11_slave 101 = .ok (.iaload, 1) := by decide +kernel
theorem dX11_slave_102 : decode cX11_slave 102 = .ok (.iload_n 2, 1) := by decide +kernel
theorem dX11_slave_103 : decode cX11_slave 103 = .ok (.if_icmp .gt 10, 3) := by decide +kernel
theorem dX11_slave_106 : decode cX11_slave 106 = .ok (.aload_n 0, 1) := by decide +kernel
theorem dX11_slave_107 : decode cX11_slave 107 = .ok (.bipush (-5), 2) := by decide +kernel
theorem dX11_slave_109 : decode cX11_slave 109 = .ok (.invokevirtual 84, 3) := by decide +kernel
theorem dX11_slave_112 : decode cX11_slave 112 = .ok (.ireturn, 1) := by decide +kernel
theorem dX11_slave_113 : decode cX11_slave 113 = .ok (.iinc 5 1, 3) := by decide +kernel
theorem dX11_slave_116 : decode cX11_slave 116 = .ok (.goto (-41), 3) := by decide +kernel
theorem dX11_slave_119 : decode cX11_slave 119 = .ok (.aload_n 0, 1) := by decide +kernel
theorem dX11_slave_120 : decode cX11_slave 120 = .ok (.getfield 13, 3) := by decide +kernel
theorem dX11_slave_123 : decode cX11_slave 123 = .ok (.aload_n 0, 1) := by decide +kernel
theorem dX11_slave_124 : decode cX11_slave 124 = .ok (.getfield 88, 3) := by decide +kernel
theorem dX11_slave_127 : decode cX11_slave 127 = .ok (.iload_n 1, 1) := by decide +kernel
theorem dX11_slave_128 : decode cX11_slave 128 = .ok (.iastore, 1) := by decide +kernel
theorem dX11_slave_129 : decode cX11_slave 129 = .ok (.aload_n 0, 1) := by decide +kernel
theorem dX11_slave_130 : decode cX11_slave 130 = .ok (.getfield 16, 3) := by decide +kernel
theorem dX11_slave_133 : decode cX11_slave 133 = .ok (.aload_n 0, 1) := by decide +kernel
theorem dX11_slave_134 : decode cX11_slave 134 = .ok (.getfield 88, 3) := by decide +kernel
theorem dX11_slave_137 : decode cX11_slave 137 = .ok (.iload_n 2, 1) := by decide +kernel
theorem dX11_slave_138 : decode cX11_slave 138 = .ok (.iastore, 1) := by decide +kernel
theorem dX11_slave_139 : decode cX11_slave 139 = .ok (.aload_n 0, 1) := by decide +kernel
theorem dX11_slave_140 : decode cX11_slave 140 = .ok (.getfield 19, 3) := by decide +kernel
theorem dX11_slave_143 : decode cX11_slave 143 = .ok (.aload_n 0, 1) := by decide +kernel
theorem dX11_slave_144 : decode cX11_slave 144 = .ok (.getfield 88, 3) := by decide +kernel
theorem dX11_slave_147 : decode cX11_slave 147 = .ok (.iload_n 3, 1) := by decide +kernel
theorem dX11_slave_148 : decode cX11_slave 148 = .ok (.iastore, 1) := by decide +kernel
theorem dX11_slave_149 : decode cX11_slave 149 = .ok (.aload_n 0, 1) := by decide +kernel
theorem dX11_slave_150 : decode cX11_slave 150 = .ok (.getfield 22, 3) := by decide +kernel
theorem dX11_slave_153 : decode cX11_slave 153 = .ok (.aload_n 0, 1) := by decide +kernel
theorem dX11_slave_154 : decode cX11_slave 154 = .ok (.getfield 88, 3) := by decide +kernel
theorem dX11_slave_157 : decode cX11_slave 157 = .ok (.iload 4, 2) := by decide +kernel
theorem dX11_slave_159 : decode cX11_slave 159 = .ok (.bastore, 1) := by decide +kernel
theorem dX11_slave_160 : decode cX11_slave 160 = .ok (.aload_n 0, 1) := by decide +kernel
theorem dX11_slave_161 : decode cX11_slave 161 = .ok (.dup, 1) := by decide +kernel
theorem dX11_slave_162 : decode cX11_slave 162 = .ok (.getfield 88, 3) := by decide +kernel
theorem dX11_slave_165 : decode cX11_slave 165 = .ok (.iconst 1, 1) := by decide +kernel
theorem dX11_slave_166 : decode cX11_slave 166 = .ok (.iadd, 1) := by decide +kernel
theorem dX11_slave_167 : decode cX11_slave 167 = .ok (.putfield 88, 3) := by decide +kernel
theorem dX11_slave_170 : decode cX11_slave 170 = .ok (.aload_n 0, 1) := by decide +kernel
theorem dX11_slave_171 : decode cX11_slave 171 = .ok (.dup, 1) := by decide +kernel
theorem dX11_slave_172 : decode cX11_slave 172 = .ok (.getfield 91, 3) := by decide +kernel
theorem dX11_slave_175 : decode cX11_slave 175 = .ok (.iconst 1, 1) := by decide +kernel
theorem dX11_slave_176 : decode cX11_slave 176 = .ok (.iadd, 1) := by decide +kernel
theorem dX11_slave_177 : decode cX11_slave 177 = .ok (.putfield 91, 3) := by decide +kernel
theorem dX11_slave_180 : decode cX11_slave 180 = .ok (.aload_n 0, 1) := by decide +kernel
theorem dX11_slave_181 : decode cX11_slave 181 = .ok (.aload_n 0, 1) := by decide +kernel
theorem dX11_slave_182 : decode cX11_slave 182 = .ok (.getfield 88, 3) := by decide +kernel
theorem dX11_slave_185 : decode cX11_slave 185 = .ok (.iconst 1, 1) := by decide +kernel
theorem dX11_slave_186 : decode cX11_slave 186 = .ok (.isub, 1) := by decide +kernel
theorem dX11_slave_187 : decode cX11_slave 187 = .ok (.invokevirtual 94, 3) := by decide +kernel
theorem dX11_slave_190 : decode cX11_slave 190 = .ok (.ireturn, 1) := by decide +kernel
set_option maxRecDepth 20000 in
theorem ggX11_has_X11_in : GoodIn wsX11_has wsX11_in := goodIn_r _ [6] (by decide +kernel) (by decide +kernel)
set_option maxRecDepth 20000 in
theorem gX11_has_X11_in : GoodIn wsX11_has (va_wsS RX11 74 yX11_in wsX11_in) := goodIn_app (goodIn_of _ (by decide +kernel)) ggX11_has_X11_in
theorem dX11_has_0 : decode cX11_has 0 = .ok (.iload_n 2, 1) := by decide +kernel
theorem dX11_has_1 : decode cX11_has 1 = .ok (.i2l, 1) := by decide +kernel
theorem dX11_has_2 : decode cX11_has 2 = .ok (.aload_n 0, 1) := by decide +kernel
theorem dX11_has_3 : decode cX11_has 3 = .ok (.getfield 13, 3) := by decide +kernel
theorem dX11_has_6 : decode cX11_has 6 = .ok (.iload_n 1, 1) := by decide +kernel
theorem dX11_has_7 : decode cX11_has 7 = .ok (.iaload, 1) := by decide +kernel
theorem dX11_has_8 : decode cX11_has 8 = .ok (.i2l, 1) := by decide +kernel
theorem dX11_has_9 : decode cX11_has 9 = .ok (.aload_n 0, 1) := by decide +kernel
theorem dX11_has_10 : decode cX11_has 10 = .ok (.getfield 16, 3) := by decide +kernel
theorem dX11_has_13 : decode cX11_has 13 = .ok (.iload_n 1, 1) := by decide +kernel
theorem dX11_has_14 : decode cX11_has 14 = .ok (.iaload, 1) := by decide +kernel
theorem dX11_has_15 : decode cX11_has 15 = .ok (.iconst 3, 1) := by decide +kernel
theorem dX11_has_16 : decode cX11_has 16 = .ok (.iadd, 1) := by decide +kernel
theorem dX11_has_17 : decode cX11_has 17 = .ok (.i2l, 1) := by decide +kernel
theorem dX11_has_18 : decode cX11_has 18 = .ok (.invokestatic 74, 3) := by decide +kernel
theorem dX11_has_21 : decode cX11_has 21 = .ok (.ireturn, 1) := by decide +kernel
set_option maxRecDepth 20000 in
theorem ggX11_slaveOf_X11_has : GoodIn wsX11_slaveOf wsX11_has := goodIn_r _ [6, 7, 8, 9, 10, 5, 11, 12, 13, 14, 15, 16, 17, 18, 19, 20, 21, 22, 23, 24, 25, 26, 27, 28, 29, 30, 31, 32, 33, 34, 35] (by decide +kernel) (by decide +kernel)
set_option maxRecDepth 20000 in
theorem gX11_slaveOf_X11_has : GoodIn wsX11_slaveOf (wsV RX11 97 RX11 yX11_has wsX11_has) := goodIn_app (goodIn_of _ (by decide +kernel)) ggX11_slaveOf_X11_has
theorem dX11_slaveOf_0 : decode cX11_slaveOf 0 = .ok (.iconst 0, 1) := by decide +kernel
theorem dX11_slaveOf_1 : decode cX11_slaveOf 1 = .ok (.istore_n 2, 1) := by decide +kernel
theorem dX11_slaveOf_2 : decode cX11_slaveOf 2 = .ok (.iload_n 2, 1) := by decide +kernel
theorem dX11_slaveOf_3 : decode cX11_slaveOf 3 = .ok (.aload_n 0, 1) := by decide +kernel
theorem dX11_slaveOf_4 : decode cX11_slaveOf 4 = .ok (.getfield 88, 3) := by decide +kernel
theorem dX11_slaveOf_7 : decode cX11_slaveOf 7 = .ok (.if_icmp .ge 20, 3) := by decide +kernel
theorem dX11_slaveOf_10 : decode cX11_slaveOf 10 = .ok (.aload_n 0, 1) := by decide +kernel
theorem dX11_slaveOf_11 : decode cX11_slaveOf 11 = .ok (.iload_n 2, 1) := by decide +kernel
theorem dX11_slaveOf_12 : decode cX11_slaveOf 12 = .ok (.iload_n 1, 1) := by decide +kernel
theorem dX11_slaveOf_13 : decode cX11_slaveOf 13 = .ok (.invokevirtual 97, 3) := by decide +kernel
theorem dX11_slaveOf_16 : decode cX11_slaveOf 16 = .ok (.ifCond .eq 5, 3) := by decide +kernel
theorem dX11_slaveOf_19 : decode cX11_slaveOf 19 = .ok (.iload_n 2, 1) := by decide +kernel
theorem dX11_slaveOf_20 : decode cX11_slaveOf 20 = .ok (.ireturn, 1) := by decide +kernel
theorem dX11_slaveOf_21 : decode cX11_slaveOf 21 = .ok (.iinc 2 1, 3) := by decide +kernel
theorem dX11_slaveOf_24 : decode cX11_slaveOf 24 = .ok (.goto (-22), 3) := by decide +kernel
theorem dX11_slaveOf_27 : decode cX11_slaveOf 27 = .ok (.bipush (-6), 2) := by decide +kernel
theorem dX11_slaveOf_29 : decode cX11_slaveOf 29 = .ok (.ireturn, 1) := by decide +kernel
theorem dX11_registerAt_0 : decode cX11_registerAt 0 = .ok (.iconst 0, 1) := by decide +kernel
theorem dX11_registerAt_1 : decode cX11_registerAt 1 = .ok (.istore_n 2, 1) := by decide +kernel
theorem dX11_registerAt_2 : decode cX11_registerAt 2 = .ok (.iload_n 2, 1) := by decide +kernel
theorem dX11_registerAt_3 : decode cX11_registerAt 3 = .ok (.aload_n 0, 1) := by decide +kernel
theorem dX11_registerAt_4 : decode cX11_registerAt 4 = .ok (.getfield 69, 3) := by decide +kernel
theorem dX11_registerAt_7 : decode cX11_registerAt 7 = .ok (.if_icmp .ge 21, 3) := by decide +kernel
theorem dX11_registerAt_10 : decode cX11_registerAt 10 = .ok (.aload_n 0, 1) := by decide +kernel
theorem dX11_registerAt_11 : decode cX11_registerAt 11 = .ok (.getfield 26, 3) := by decide +kernel
theorem dX11_registerAt_14 : decode cX11_registerAt 14 = .ok (.iload_n 2, 1) := by decide +kernel
theorem dX11_registerAt_15 : decode cX11_registerAt 15 = .ok (.iaload, 1) := by decide +kernel
theorem dX11_registerAt_16 : decode cX11_registerAt 16 = .ok (.iload_n 1, 1) := by decide +kernel
theorem dX11_registerAt_17 : decode cX11_registerAt 17 = .ok (.if_icmp .ne 5, 3) := by decide +kernel
theorem dX11_registerAt_20 : decode cX11_registerAt 20 = .ok (.iload_n 2, 1) := by decide +kernel
theorem dX11_registerAt_21 : decode cX11_registerAt 21 = .ok (.ireturn, 1) := by decide +kernel
theorem dX11_registerAt_22 : decode cX11_registerAt 22 = .ok (.iinc 2 1, 3) := by decide +kernel
theorem dX11_registerAt_25 : decode cX11_registerAt 25 = .ok (.goto (-23), 3) := by decide +kernel
theorem dX11_registerAt_28 : decode cX11_registerAt 28 = .ok (.iconst (-1), 1) := by decide +kernel
theorem dX11_registerAt_29 : decode cX11_registerAt 29 = .ok (.ireturn, 1) := by decide +kernel
set_option maxRecDepth 20000 in
theorem ggX11_register_X11_isWord : GoodIn wsX11_register wsX11_isWord := goodIn_r _ [11, 12, 13, 14, 10, 15] (by decide +kernel) (by decide +kernel)
set_option maxRecDepth 20000 in
theorem gX11_register_X11_isWord : GoodIn wsX11_register (va_wsS RX11 78 yX11_isWord wsX11_isWord) := goodIn_app (goodIn_of _ (by decide +kernel)) ggX11_register_X11_isWord
set_option maxRecDepth 20000 in
theorem ggX11_register_X11_in : GoodIn wsX11_register wsX11_in := goodIn_r _ [15] (by decide +kernel) (by decide +kernel)
set_option maxRecDepth 20000 in
theorem gX11_register_X11_in : GoodIn wsX11_register (va_wsS RX11 74 yX11_in wsX11_in) := goodIn_app (goodIn_of _ (by decide +kernel)) ggX11_register_X11_in
set_option maxRecDepth 20000 in
theorem ggX11_register_X11_refused : GoodIn wsX11_register wsX11_refused := goodIn_r _ [19, 20, 40, 41, 42, 43, 44, 45, 46, 47, 48, 49, 50, 51, 52, 53, 54, 55, 56, 57, 58, 59, 60, 61, 62, 63] (by decide +kernel) (by decide +kernel)
set_option maxRecDepth 20000 in
theorem gX11_register_X11_refused : GoodIn wsX11_register (wsV RX11 84 RX11 yX11_refused wsX11_refused) := goodIn_app (goodIn_of _ (by decide +kernel)) ggX11_register_X11_refused
set_option maxRecDepth 20000 in
theorem ggX11_register_X11_slaveOf : GoodIn wsX11_register wsX11_slaveOf := goodIn_r _ [24, 25, 26, 27, 28, 10, 29, 30, 31, 13, 14, 15, 40, 41, 42, 43, 44, 45, 46, 47, 48, 49, 50, 51, 52, 53, 54, 55, 56, 57, 58, 59, 60, 61, 62, 63] (by decide +kernel) (by decide +kernel)
set_option maxRecDepth 20000 in
theorem gX11_register_X11_slaveOf : GoodIn wsX11_register (wsV RX11 103 RX11 yX11_slaveOf wsX11_slaveOf) := goodIn_app (goodIn_of _ (by decide +kernel)) ggX11_register_X11_slaveOf
set_option maxRecDepth 20000 in
theorem ggX11_register_X11_registerAt : GoodIn wsX11_register wsX11_registerAt := goodIn_r _ [35, 3, 4, 40, 41, 42, 43, 44, 45, 46, 47, 48, 49, 50, 51, 52, 53, 54, 55, 56, 57, 58, 59, 60, 61, 62, 63] (by decide +kernel) (by decide +kernel)
set_option maxRecDepth 20000 in
theorem gX11_register_X11_registerAt : GoodIn wsX11_register (wsV RX11 106 RX11 yX11_registerAt wsX11_registerAt) := goodIn_app (goodIn_of _ (by decide +kernel)) ggX11_register_X11_registerAt
set_option maxRecDepth 20000 in
theorem ggX11_register_X11_done : GoodIn wsX11_register wsX11_done := goodIn_r _ [39, 20, 40, 41, 42, 43, 44, 45, 46, 47, 48, 49, 50, 51, 52, 53, 54, 55, 56, 57, 58, 59, 60, 61, 62, 63] (by decide +kernel) (by decide +kernel)
set_option maxRecDepth 20000 in
theorem gX11_register_X11_done : GoodIn wsX11_register (wsV RX11 94 RX11 yX11_done wsX11_done) := goodIn_app (goodIn_of _ (by decide +kernel)) ggX11_register_X11_done
theorem dX11_register_0 : decode cX11_register 0 = .ok (.iload_n 1, 1) := by decide +kernel
theorem dX11_register_1 : decode cX11_register 1 = .ok (.invokestatic 78, 3) := by decide +kernel
theorem dX11_register_4 : decode cX11_register 4 = .ok (.ifCond .eq 31, 3) := by decide +kernel
theorem dX11_register_7 : decode cX11_register 7 = .ok (.iload_n 2, 1) := by decide +kernel
theorem dX11_register_8 : decode cX11_register 8 = .ok (.i2l, 1) := by decide +kernel
theorem dX11_register_9 : decode cX11_register 9 = .ok (.lconst 0, 1) := by decide +kernel
theorem dX11_register_10 : decode cX11_register 10 = .ok (.ldc2_w 101, 3) := by decide +kernel
theorem dX11_register_13 : decode cX11_register 13 = .ok (.invokestatic 74, 3) := by decide +kernel
theorem dX11_register_16 : decode cX11_register 16 = .ok (.ifCond .eq 19, 3) := by decide +kernel
theorem dX11_register_19 : decode cX11_register 19 = .ok (.iload_n 2, 1) := by decide +kernel
theorem dX11_register_20 : decode cX11_register 20 = .ok (.bipush 7, 2) := by decide +kernel
theorem dX11_register_22 : decode cX11_register 22 = .ok (.if_icmp .ne 20, 3) := by decide +kernel
theorem dX11_register_25 : decode cX11_register 25 = .ok (.iload_n 3, 1) := by decide +kernel
theorem dX11_register_26 : decode cX11_register 26 = .ok (.i2l, 1) := by decide +kernel
theorem dX11_register_27 : decode cX11_register 27 = .ok (.lconst 0, 1) := by decide +kernel
theorem dX11_register_28 : decode cX11_register 28 = .ok (.lconst 1, 1) := by decide +kernel
theorem dX11_register_29 : decode cX11_register 29 = .ok (.invokestatic 74, 3) := by decide +kernel
theorem dX11_register_32 : decode cX11_register 32 = .ok (.ifCond .ne 10, 3) := by decide +kernel
theorem dX11_register_35 : decode cX11_register 35 = .ok (.aload_n 0, 1) := by decide +kernel
theorem dX11_register_36 : decode cX11_register 36 = .ok (.bipush (-2), 2) := by decide +kernel
theorem dX11_register_38 : decode cX11_register 38 = .ok (.invokevirtual 84, 3) := by decide +kernel
theorem dX11_register_41 : decode cX11_register 41 = .ok (.ireturn, 1) := by decide +kernel
theorem dX11_register_42 : decode cX11_register 42 = .ok (.aload_n 0, 1) := by decide +kernel
theorem dX11_register_43 : decode cX11_register 43 = .ok (.getfield 7, 3) := by decide +kernel
theorem dX11_register_46 : decode cX11_register 46 = .ok (.sipush 179, 3) := by decide +kernel
theorem dX11_register_49 : decode cX11_register 49 = .ok (.iaload, 1) := by decide +kernel
theorem dX11_register_50 : decode cX11_register 50 = .ok (.ifCond .eq 10, 3) := by decide +kernel
theorem dX11_register_53 : decode cX11_register 53 = .ok (.aload_n 0, 1) := by decide +kernel
theorem dX11_register_54 : decode cX11_register 54 = .ok (.bipush (-3), 2) := by decide +kernel
theorem dX11_register_56 : decode cX11_register 56 = .ok (.invokevirtual 84, 3) := by decide +kernel
theorem dX11_register_59 : decode cX11_register 59 = .ok (.ireturn, 1) := by decide +kernel
theorem dX11_register_60 : decode cX11_register 60 = .ok (.aload_n 0, 1) := by decide +kernel
theorem dX11_register_61 : decode cX11_register 61 = .ok (.getfield 69, 3) := by decide +kernel
theorem dX11_register_64 : decode cX11_register 64 = .ok (.bipush 48, 2) := by decide +kernel
theorem dX11_register_66 : decode cX11_register 66 = .ok (.if_icmp .ne 10, 3) := by decide +kernel
theorem dX11_register_69 : decode cX11_register 69 = .ok (.aload_n 0, 1) := by decide +kernel
theorem dX11_register_70 : decode cX11_register 70 = .ok (.bipush (-4), 2) := by decide +kernel
theorem dX11_register_72 : decode cX11_register 72 = .ok (.invokevirtual 84, 3) := by decide +kernel
theorem dX11_register_75 : decode cX11_register 75 = .ok (.ireturn, 1) := by decide +kernel
theorem dX11_register_76 : decode cX11_register 76 = .ok (.aload_n 0, 1) := by decide +kernel
theorem dX11_register_77 : decode cX11_register 77 = .ok (.iload_n 1, 1) := by decide +kernel
theorem dX11_register_78 : decode cX11_register 78 = .ok (.invokevirtual 103, 3) := by decide +kernel
theorem dX11_register_81 : decode cX11_register 81 = .ok (.ifCond .lt 11, 3) := by decide +kernel
theorem dX11_register_84 : decode cX11_register 84 = .ok (.aload_n 0, 1) := by decide +kernel
theorem dX11_register_85 : decode cX11_register 85 = .ok (.iload_n 1, 1) := by decide +kernel
theorem dX11_register_86 : decode cX11_register 86 = .ok (.invokevirtual 106, 3) := by decide +kernel
theorem dX11_register_89 : decode cX11_register 89 = .ok (.ifCond .lt 10, 3) := by decide +kernel
theorem dX11_register_92 : decode cX11_register 92 = .ok (.aload_n 0, 1) := by decide +kernel
theorem dX11_register_93 : decode cX11_register 93 = .ok (.bipush (-5), 2) := by decide +kernel
theorem dX11_register_95 : decode cX11_register 95 = .ok (.invokevirtual 84, 3) := by decide +kernel
theorem dX11_register_98 : decode cX11_register 98 = .ok (.ireturn, 1) := by decide +kernel
theorem dX11_register_99 : decode cX11_register 99 = .ok (.aload_n 0, 1) := by decide +kernel
theorem dX11_register_100 : decode cX11_register 100 = .ok (.getfield 26, 3) := by decide +kernel
theorem dX11_register_103 : decode cX11_register 103 = .ok (.aload_n 0, 1) := by decide +kernel
theorem dX11_register_104 : decode cX11_register 104 = .ok (.getfield 69, 3) := by decide +kernel
theorem dX11_register_107 : decode cX11_register 107 = .ok (.iload_n 1, 1) := by decide +kernel
theorem dX11_register_108 : decode cX11_register 108 = .ok (.iastore, 1) := by decide +kernel
