theorem dX11_slavesGo_124 : decode cX11_slavesGo 124 = .ok (.iastore, 1) := by decide +kernel
theorem dX11_slavesGo_125 : decode cX11_slavesGo 125 = .ok (.iinc 2 1, 3) := by decide +kernel
theorem dX11_slavesGo_128 : decode cX11_slavesGo 128 = .ok (.goto (-43), 3) := by decide +kernel
theorem dX11_slavesGo_131 : decode cX11_slavesGo 131 = .ok (.return_, 1) := by decide +kernel
set_option maxRecDepth 20000 in
theorem ggX11_slaveGoes_X11_does : GoodIn wsX11_slaveGoes wsX11_does := goodIn_r _ [13, 8, 6, 14, 15, 16, 17, 18, 19, 12, 20, 21, 22, 23, 24, 25, 26, 27, 28, 29, 30, 31, 32, 33, 34, 35, 36, 37, 38, 39, 40, 41, 42, 43, 44, 45, 46, 47, 48, 49, 50, 51, 52, 53] (by decide +kernel) (by decide +kernel)
set_option maxRecDepth 20000 in
theorem gX11_slaveGoes_X11_does : GoodIn wsX11_slaveGoes (wsV RX11 173 RX11 yX11_does wsX11_does) := goodIn_app (goodIn_of _ (by decide +kernel)) ggX11_slaveGoes_X11_does
theorem dX11_slaveGoes_0 : decode cX11_slaveGoes 0 = .ok (.aload_n 0, 1) := by decide +kernel
theorem dX11_slaveGoes_1 : decode cX11_slaveGoes 1 = .ok (.getfield 39, 3) := by decide +kernel
theorem dX11_slaveGoes_4 : decode cX11_slaveGoes 4 = .ok (.bipush 8, 2) := by decide +kernel
theorem dX11_slaveGoes_6 : decode cX11_slaveGoes 6 = .ok (.iaload, 1) := by decide +kernel
theorem dX11_slaveGoes_7 : decode cX11_slaveGoes 7 = .ok (.ifCond .ne 22, 3) := by decide +kernel
theorem dX11_slaveGoes_10 : decode cX11_slaveGoes 10 = .ok (.aload_n 0, 1) := by decide +kernel
theorem dX11_slaveGoes_11 : decode cX11_slaveGoes 11 = .ok (.getfield 7, 3) := by decide +kernel
theorem dX11_slaveGoes_14 : decode cX11_slaveGoes 14 = .ok (.sipush 171, 3) := by decide +kernel
theorem dX11_slaveGoes_17 : decode cX11_slaveGoes 17 = .ok (.iload_n 1, 1) := by decide +kernel
theorem dX11_slaveGoes_18 : decode cX11_slaveGoes 18 = .ok (.iadd, 1) := by decide +kernel
theorem dX11_slaveGoes_19 : decode cX11_slaveGoes 19 = .ok (.aload_n 0, 1) := by decide +kernel
theorem dX11_slaveGoes_20 : decode cX11_slaveGoes 20 = .ok (.getfield 19, 3) := by decide +kernel
theorem dX11_slaveGoes_23 : decode cX11_slaveGoes 23 = .ok (.iload_n 1, 1) := by decide +kernel
theorem dX11_slaveGoes_24 : decode cX11_slaveGoes 24 = .ok (.iaload, 1) := by decide +kernel
theorem dX11_slaveGoes_25 : decode cX11_slaveGoes 25 = .ok (.iastore, 1) := by decide +kernel
theorem dX11_slaveGoes_26 : decode cX11_slaveGoes 26 = .ok (.goto 40, 3) := by decide +kernel
theorem dX11_slaveGoes_29 : decode cX11_slaveGoes 29 = .ok (.aload_n 0, 1) := by decide +kernel
theorem dX11_slaveGoes_30 : decode cX11_slaveGoes 30 = .ok (.getfield 39, 3) := by decide +kernel
theorem dX11_slaveGoes_33 : decode cX11_slaveGoes 33 = .ok (.bipush 12, 2) := by decide +kernel
theorem dX11_slaveGoes_35 : decode cX11_slaveGoes 35 = .ok (.iaload, 1) := by decide +kernel
theorem dX11_slaveGoes_36 : decode cX11_slaveGoes 36 = .ok (.ifCond .ne 30, 3) := by decide +kernel
theorem dX11_slaveGoes_39 : decode cX11_slaveGoes 39 = .ok (.aload_n 0, 1) := by decide +kernel
theorem dX11_slaveGoes_40 : decode cX11_slaveGoes 40 = .ok (.getfield 7, 3) := by decide +kernel
theorem dX11_slaveGoes_43 : decode cX11_slaveGoes 43 = .ok (.sipush 171, 3) := by decide +kernel
theorem dX11_slaveGoes_46 : decode cX11_slaveGoes 46 = .ok (.iload_n 1, 1) := by decide +kernel
theorem dX11_slaveGoes_47 : decode cX11_slaveGoes 47 = .ok (.iadd, 1) := by decide +kernel
theorem dX11_slaveGoes_48 : decode cX11_slaveGoes 48 = .ok (.iaload, 1) := by decide +kernel
theorem dX11_slaveGoes_49 : decode cX11_slaveGoes 49 = .ok (.ifCond .le 17, 3) := by decide +kernel
theorem dX11_slaveGoes_52 : decode cX11_slaveGoes 52 = .ok (.aload_n 0, 1) := by decide +kernel
theorem dX11_slaveGoes_53 : decode cX11_slaveGoes 53 = .ok (.getfield 7, 3) := by decide +kernel
theorem dX11_slaveGoes_56 : decode cX11_slaveGoes 56 = .ok (.sipush 171, 3) := by decide +kernel
theorem dX11_slaveGoes_59 : decode cX11_slaveGoes 59 = .ok (.iload_n 1, 1) := by decide +kernel
theorem dX11_slaveGoes_60 : decode cX11_slaveGoes 60 = .ok (.iadd, 1) := by decide +kernel
theorem dX11_slaveGoes_61 : decode cX11_slaveGoes 61 = .ok (.dup2, 1) := by decide +kernel
theorem dX11_slaveGoes_62 : decode cX11_slaveGoes 62 = .ok (.iaload, 1) := by decide +kernel
theorem dX11_slaveGoes_63 : decode cX11_slaveGoes 63 = .ok (.iconst 1, 1) := by decide +kernel
theorem dX11_slaveGoes_64 : decode cX11_slaveGoes 64 = .ok (.isub, 1) := by decide +kernel
theorem dX11_slaveGoes_65 : decode cX11_slaveGoes 65 = .ok (.iastore, 1) := by decide +kernel
theorem dX11_slaveGoes_66 : decode cX11_slaveGoes 66 = .ok (.aload_n 0, 1) := by decide +kernel
theorem dX11_slaveGoes_67 : decode cX11_slaveGoes 67 = .ok (.getfield 39, 3) := by decide +kernel
theorem dX11_slaveGoes_70 : decode cX11_slaveGoes 70 = .ok (.bipush 8, 2) := by decide +kernel
theorem dX11_slaveGoes_72 : decode cX11_slaveGoes 72 = .ok (.iaload, 1) := by decide +kernel
theorem dX11_slaveGoes_73 : decode cX11_slaveGoes 73 = .ok (.ifCond .eq 13, 3) := by decide +kernel
theorem dX11_slaveGoes_76 : decode cX11_slaveGoes 76 = .ok (.aload_n 0, 1) := by decide +kernel
theorem dX11_slaveGoes_77 : decode cX11_slaveGoes 77 = .ok (.getfield 39, 3) := by decide +kernel
theorem dX11_slaveGoes_80 : decode cX11_slaveGoes 80 = .ok (.bipush 12, 2) := by decide +kernel
theorem dX11_slaveGoes_82 : decode cX11_slaveGoes 82 = .ok (.iaload, 1) := by decide +kernel
theorem dX11_slaveGoes_83 : decode cX11_slaveGoes 83 = .ok (.ifCond .ne 7, 3) := by decide +kernel
theorem dX11_slaveGoes_86 : decode cX11_slaveGoes 86 = .ok (.iconst 1, 1) := by decide +kernel
theorem dX11_slaveGoes_87 : decode cX11_slaveGoes 87 = .ok (.goto 4, 3) := by decide +kernel
theorem dX11_slaveGoes_90 : decode cX11_slaveGoes 90 = .ok (.iconst 0, 1) := by decide +kernel
theorem dX11_slaveGoes_91 : decode cX11_slaveGoes 91 = .ok (.istore_n 2, 1) := by decide +kernel
theorem dX11_slaveGoes_92 : decode cX11_slaveGoes 92 = .ok (.aload_n 0, 1) := by decide +kernel
theorem dX11_slaveGoes_93 : decode cX11_slaveGoes 93 = .ok (.getfield 42, 3) := by decide +kernel
theorem dX11_slaveGoes_96 : decode cX11_slaveGoes 96 = .ok (.bipush 14, 2) := by decide +kernel
theorem dX11_slaveGoes_98 : decode cX11_slaveGoes 98 = .ok (.aload_n 0, 1) := by decide +kernel
theorem dX11_slaveGoes_99 : decode cX11_slaveGoes 99 = .ok (.getfield 7, 3) := by decide +kernel
theorem dX11_slaveGoes_102 : decode cX11_slaveGoes 102 = .ok (.bipush 14, 2) := by decide +kernel
theorem dX11_slaveGoes_104 : decode cX11_slaveGoes 104 = .ok (.iaload, 1) := by decide +kernel
theorem dX11_slaveGoes_105 : decode cX11_slaveGoes 105 = .ok (.iastore, 1) := by decide +kernel
theorem dX11_slaveGoes_106 : decode cX11_slaveGoes 106 = .ok (.iload_n 2, 1) := by decide +kernel
theorem dX11_slaveGoes_107 : decode cX11_slaveGoes 107 = .ok (.ifCond .eq 123, 3) := by decide +kernel
theorem dX11_slaveGoes_110 : decode cX11_slaveGoes 110 = .ok (.aload_n 0, 1) := by decide +kernel
theorem dX11_slaveGoes_111 : decode cX11_slaveGoes 111 = .ok (.getfield 7, 3) := by decide +kernel
theorem dX11_slaveGoes_114 : decode cX11_slaveGoes 114 = .ok (.sipush 171, 3) := by decide +kernel
theorem dX11_slaveGoes_117 : decode cX11_slaveGoes 117 = .ok (.iload_n 1, 1) := by decide +kernel
theorem dX11_slaveGoes_118 : decode cX11_slaveGoes 118 = .ok (.iadd, 1) := by decide +kernel
theorem dX11_slaveGoes_119 : decode cX11_slaveGoes 119 = .ok (.iaload, 1) := by decide +kernel
theorem dX11_slaveGoes_120 : decode cX11_slaveGoes 120 = .ok (.ifCond .ne 110, 3) := by decide +kernel
theorem dX11_slaveGoes_123 : decode cX11_slaveGoes 123 = .ok (.aload_n 0, 1) := by decide +kernel
theorem dX11_slaveGoes_124 : decode cX11_slaveGoes 124 = .ok (.getfield 22, 3) := by decide +kernel
theorem dX11_slaveGoes_127 : decode cX11_slaveGoes 127 = .ok (.iload_n 1, 1) := by decide +kernel
theorem dX11_slaveGoes_128 : decode cX11_slaveGoes 128 = .ok (.baload, 1) := by decide +kernel
theorem dX11_slaveGoes_129 : decode cX11_slaveGoes 129 = .ok (.ifCond .ne 101, 3) := by decide +kernel
theorem dX11_slaveGoes_132 : decode cX11_slaveGoes 132 = .ok (.aload_n 0, 1) := by decide +kernel
theorem dX11_slaveGoes_133 : decode cX11_slaveGoes 133 = .ok (.aload_n 0, 1) := by decide +kernel
theorem dX11_slaveGoes_134 : decode cX11_slaveGoes 134 = .ok (.getfield 7, 3) := by decide +kernel
theorem dX11_slaveGoes_137 : decode cX11_slaveGoes 137 = .ok (.bipush 75, 2) := by decide +kernel
theorem dX11_slaveGoes_139 : decode cX11_slaveGoes 139 = .ok (.bipush 123, 2) := by decide +kernel
theorem dX11_slaveGoes_141 : decode cX11_slaveGoes 141 = .ok (.iload_n 1, 1) := by decide +kernel
theorem dX11_slaveGoes_142 : decode cX11_slaveGoes 142 = .ok (.aload_n 0, 1) := by decide +kernel
theorem dX11_slaveGoes_143 : decode cX11_slaveGoes 143 = .ok (.getfield 39, 3) := by decide +kernel
theorem dX11_slaveGoes_146 : decode cX11_slaveGoes 146 = .ok (.bipush 9, 2) := by decide +kernel
theorem dX11_slaveGoes_148 : decode cX11_slaveGoes 148 = .ok (.iaload, 1) := by decide +kernel
theorem dX11_slaveGoes_149 : decode cX11_slaveGoes 149 = .ok (.aload_n 0, 1) := by decide +kernel
theorem dX11_slaveGoes_150 : decode cX11_slaveGoes 150 = .ok (.getfield 39, 3) := by decide +kernel
theorem dX11_slaveGoes_153 : decode cX11_slaveGoes 153 = .ok (.bipush 10, 2) := by decide +kernel
theorem dX11_slaveGoes_155 : decode cX11_slaveGoes 155 = .ok (.iaload, 1) := by decide +kernel
theorem dX11_slaveGoes_156 : decode cX11_slaveGoes 156 = .ok (.ifCond .eq 7, 3) := by decide +kernel
theorem dX11_slaveGoes_159 : decode cX11_slaveGoes 159 = .ok (.iconst 1, 1) := by decide +kernel
theorem dX11_slaveGoes_160 : decode cX11_slaveGoes 160 = .ok (.goto 4, 3) := by decide +kernel
theorem dX11_slaveGoes_163 : decode cX11_slaveGoes 163 = .ok (.iconst 0, 1) := by decide +kernel
theorem dX11_slaveGoes_164 : decode cX11_slaveGoes 164 = .ok (.aload_n 0, 1) := by decide +kernel
theorem dX11_slaveGoes_165 : decode cX11_slaveGoes 165 = .ok (.getfield 39, 3) := by decide +kernel
theorem dX11_slaveGoes_168 : decode cX11_slaveGoes 168 = .ok (.bipush 11, 2) := by decide +kernel
theorem dX11_slaveGoes_170 : decode cX11_slaveGoes 170 = .ok (.iaload, 1) := by decide +kernel
theorem dX11_slaveGoes_171 : decode cX11_slaveGoes 171 = .ok (.invokevirtual 173, 3) := by decide +kernel
theorem dX11_slaveGoes_174 : decode cX11_slaveGoes 174 = .ok (.istore_n 3, 1) := by decide +kernel
theorem dX11_slaveGoes_175 : decode cX11_slaveGoes 175 = .ok (.aload_n 0, 1) := by decide +kernel
theorem dX11_slaveGoes_176 : decode cX11_slaveGoes 176 = .ok (.getfield 167, 3) := by decide +kernel
theorem dX11_slaveGoes_179 : decode cX11_slaveGoes 179 = .ok (.ifCond .lt 13, 3) := by decide +kernel
theorem dX11_slaveGoes_182 : decode cX11_slaveGoes 182 = .ok (.aload_n 0, 1) := by decide +kernel
theorem dX11_slaveGoes_183 : decode cX11_slaveGoes 183 = .ok (.getfield 45, 3) := by decide +kernel
theorem dX11_slaveGoes_186 : decode cX11_slaveGoes 186 = .ok (.aload_n 0, 1) := by decide +kernel
theorem dX11_slaveGoes_187 : decode cX11_slaveGoes 187 = .ok (.getfield 167, 3) := by decide +kernel
theorem dX11_slaveGoes_190 : decode cX11_slaveGoes 190 = .ok (.iconst 1, 1) := by decide +kernel
theorem dX11_slaveGoes_191 : decode cX11_slaveGoes 191 = .ok (.bastore, 1) := by decide +kernel
theorem dX11_slaveGoes_192 : decode cX11_slaveGoes 192 = .ok (.aload_n 0, 1) := by decide +kernel
theorem dX11_slaveGoes_193 : decode cX11_slaveGoes 193 = .ok (.getfield 42, 3) := by decide +kernel
theorem dX11_slaveGoes_196 : decode cX11_slaveGoes 196 = .ok (.bipush 12, 2) := by decide +kernel
theorem dX11_slaveGoes_198 : decode cX11_slaveGoes 198 = .ok (.iconst 1, 1) := by decide +kernel
theorem dX11_slaveGoes_199 : decode cX11_slaveGoes 199 = .ok (.iastore, 1) := by decide +kernel
theorem dX11_slaveGoes_200 : decode cX11_slaveGoes 200 = .ok (.aload_n 0, 1) := by decide +kernel
theorem dX11_slaveGoes_201 : decode cX11_slaveGoes 201 = .ok (.getfield 42, 3) := by decide +kernel
theorem dX11_slaveGoes_204 : decode cX11_slaveGoes 204 = .ok (.bipush 13, 2) := by decide +kernel
theorem dX11_slaveGoes_206 : decode cX11_slaveGoes 206 = .ok (.iload_n 3, 1) := by decide +kernel
theorem dX11_slaveGoes_207 : decode cX11_slaveGoes 207 = .ok (.ifCond .eq 7, 3) := by decide +kernel
theorem dX11_slaveGoes_210 : decode cX11_slaveGoes 210 = .ok (.iconst 1, 1) := by decide +kernel
theorem dX11_slaveGoes_211 : decode cX11_slaveGoes 211 = .ok (.goto 4, 3) := by decide +kernel
theorem dX11_slaveGoes_214 : decode cX11_slaveGoes 214 = .ok (.iconst 0, 1) := by decide +kernel
theorem dX11_slaveGoes_215 : decode cX11_slaveGoes 215 = .ok (.iastore, 1) := by decide +kernel
theorem dX11_slaveGoes_216 : decode cX11_slaveGoes 216 = .ok (.aload_n 0, 1) := by decide +kernel
theorem dX11_slaveGoes_217 : decode cX11_slaveGoes 217 = .ok (.getfield 42, 3) := by decide +kernel
theorem dX11_slaveGoes_220 : decode cX11_slaveGoes 220 = .ok (.bipush 14, 2) := by decide +kernel
theorem dX11_slaveGoes_222 : decode cX11_slaveGoes 222 = .ok (.aload_n 0, 1) := by decide +kernel
theorem dX11_slaveGoes_223 : decode cX11_slaveGoes 223 = .ok (.getfield 164, 3) := by decide +kernel
theorem dX11_slaveGoes_226 : decode cX11_slaveGoes 226 = .ok (.iastore, 1) := by decide +kernel
theorem dX11_slaveGoes_227 : decode cX11_slaveGoes 227 = .ok (.goto 19, 3) := by decide +kernel
theorem dX11_slaveGoes_230 : decode cX11_slaveGoes 230 = .ok (.aload_n 0, 1) := by decide +kernel
theorem dX11_slaveGoes_231 : decode cX11_slaveGoes 231 = .ok (.getfield 42, 3) := by decide +kernel
theorem dX11_slaveGoes_234 : decode cX11_slaveGoes 234 = .ok (.bipush 12, 2) := by decide +kernel
theorem dX11_slaveGoes_236 : decode cX11_slaveGoes 236 = .ok (.iconst 0, 1) := by decide +kernel
theorem dX11_slaveGoes_237 : decode cX11_slaveGoes 237 = .ok (.iastore, 1) := by decide +kernel
theorem dX11_slaveGoes_238 : decode cX11_slaveGoes 238 = .ok (.aload_n 0, 1) := by decide +kernel
theorem dX11_slaveGoes_239 : decode cX11_slaveGoes 239 = .ok (.getfield 42, 3) := by decide +kernel
theorem dX11_slaveGoes_242 : decode cX11_slaveGoes 242 = .ok (.bipush 13, 2) := by decide +kernel
theorem dX11_slaveGoes_244 : decode cX11_slaveGoes 244 = .ok (.iconst 0, 1) := by decide +kernel
theorem dX11_slaveGoes_245 : decode cX11_slaveGoes 245 = .ok (.iastore, 1) := by decide +kernel
theorem dX11_slaveGoes_246 : decode cX11_slaveGoes 246 = .ok (.return_, 1) := by decide +kernel
theorem dX11_find_0 : decode cX11_find 0 = .ok (.iload_n 2, 1) := by decide +kernel
theorem dX11_find_1 : decode cX11_find 1 = .ok (.ifCond .ne 4, 3) := by decide +kernel
theorem dX11_find_4 : decode cX11_find 4 = .ok (.return_, 1) := by decide +kernel
theorem dX11_find_5 : decode cX11_find 5 = .ok (.aload_n 0, 1) := by decide +kernel
theorem dX11_find_6 : decode cX11_find 6 = .ok (.getfield 7, 3) := by decide +kernel
theorem dX11_find_9 : decode cX11_find 9 = .ok (.sipush 213, 3) := by decide +kernel
theorem dX11_find_12 : decode cX11_find 12 = .ok (.iaload, 1) := by decide +kernel
theorem dX11_find_13 : decode cX11_find 13 = .ok (.bipush 60, 2) := by decide +kernel
theorem dX11_find_15 : decode cX11_find 15 = .ok (.if_icmp .ge 46, 3) := by decide +kernel
theorem dX11_find_18 : decode cX11_find 18 = .ok (.aload_n 0, 1) := by decide +kernel
theorem dX11_find_19 : decode cX11_find 19 = .ok (.getfield 7, 3) := by decide +kernel
theorem dX11_find_22 : decode cX11_find 22 = .ok (.sipush 230, 3) := by decide +kernel
theorem dX11_find_25 : decode cX11_find 25 = .ok (.aload_n 0, 1) := by decide +kernel
theorem dX11_find_26 : decode cX11_find 26 = .ok (.getfield 7, 3) := by decide +kernel
theorem dX11_find_29 : decode cX11_find 29 = .ok (.sipush 213, 3) := by decide +kernel
theorem dX11_find_32 : decode cX11_find 32 = .ok (.iaload, 1) := by decide +kernel
theorem dX11_find_33 : decode cX11_find 33 = .ok (.iadd, 1) := by decide +kernel
theorem dX11_find_34 : decode cX11_find 34 = .ok (.aload_n 0, 1) := by decide +kernel
theorem dX11_find_35 : decode cX11_find 35 = .ok (.getfield 7, 3) := by decide +kernel
theorem dX11_find_38 : decode cX11_find 38 = .ok (.sipush 179, 3) := by decide +kernel
theorem dX11_find_41 : decode cX11_find 41 = .ok (.iaload, 1) := by decide +kernel
theorem dX11_find_42 : decode cX11_find 42 = .ok (.iastore, 1) := by decide +kernel
theorem dX11_find_43 : decode cX11_find 43 = .ok (.aload_n 0, 1) := by decide +kernel
theorem dX11_find_44 : decode cX11_find 44 = .ok (.getfield 7, 3) := by decide +kernel
theorem dX11_find_47 : decode cX11_find 47 = .ok (.sipush 290, 3) := by decide +kernel
theorem dX11_find_50 : decode cX11_find 50 = .ok (.aload_n 0, 1) := by decide +kernel
theorem dX11_find_51 : decode cX11_find 51 = .ok (.getfield 7, 3) := by decide +kernel
theorem dX11_find_54 : decode cX11_find 54 = .ok (.sipush 213, 3) := by decide +kernel
theorem dX11_find_57 : decode cX11_find 57 = .ok (.iaload, 1) := by decide +kernel
theorem dX11_find_58 : decode cX11_find 58 = .ok (.iadd, 1) := by decide +kernel
theorem dX11_find_59 : decode cX11_find 59 = .ok (.iload_n 1, 1) := by decide +kernel
theorem dX11_find_60 : decode cX11_find 60 = .ok (.iastore, 1) := by decide +kernel
theorem dX11_find_61 : decode cX11_find 61 = .ok (.aload_n 0, 1) := by decide +kernel
theorem dX11_find_62 : decode cX11_find 62 = .ok (.getfield 7, 3) := by decide +kernel
theorem dX11_find_65 : decode cX11_find 65 = .ok (.sipush 213, 3) := by decide +kernel
theorem dX11_find_68 : decode cX11_find 68 = .ok (.dup2, 1) := by decide +kernel
theorem dX11_find_69 : decode cX11_find 69 = .ok (.iaload, 1) := by decide +kernel
theorem dX11_find_70 : decode cX11_find 70 = .ok (.iconst 1, 1) := by decide +kernel
theorem dX11_find_71 : decode cX11_find 71 = .ok (.iadd, 1) := by decide +kernel
theorem dX11_find_72 : decode cX11_find 72 = .ok (.iastore, 1) := by decide +kernel
theorem dX11_find_73 : decode cX11_find 73 = .ok (.aload_n 0, 1) := by decide +kernel
theorem dX11_find_74 : decode cX11_find 74 = .ok (.getfield 7, 3) := by decide +kernel
theorem dX11_find_77 : decode cX11_find 77 = .ok (.sipush 214, 3) := by decide +kernel
theorem dX11_find_80 : decode cX11_find 80 = .ok (.iload_n 1, 1) := by decide +kernel
theorem dX11_find_81 : decode cX11_find 81 = .ok (.iadd, 1) := by decide +kernel
theorem dX11_find_82 : decode cX11_find 82 = .ok (.dup2, 1) := by decide +kernel
theorem dX11_find_83 : decode cX11_find 83 = .ok (.iaload, 1) := by decide +kernel
theorem dX11_find_84 : decode cX11_find 84 = .ok (.iconst 1, 1) := by decide +kernel
theorem dX11_find_85 : decode cX11_find 85 = .ok (.iadd, 1) := by decide +kernel
theorem dX11_find_86 : decode cX11_find 86 = .ok (.iastore, 1) := by decide +kernel
theorem dX11_find_87 : decode cX11_find 87 = .ok (.return_, 1) := by decide +kernel
theorem dX11_isActive_0 : decode cX11_isActive 0 = .ok (.iload_n 0, 1) := by decide +kernel
theorem dX11_isActive_1 : decode cX11_isActive 1 = .ok (.iconst 2, 1) := by decide +kernel
theorem dX11_isActive_2 : decode cX11_isActive 2 = .ok (.if_icmp .eq 8, 3) := by decide +kernel
theorem dX11_isActive_5 : decode cX11_isActive 5 = .ok (.iload_n 0, 1) := by decide +kernel
theorem dX11_isActive_6 : decode cX11_isActive 6 = .ok (.iconst 3, 1) := by decide +kernel
theorem dX11_isActive_7 : decode cX11_isActive 7 = .ok (.if_icmp .ne 7, 3) := by decide +kernel
theorem dX11_isActive_10 : decode cX11_isActive 10 = .ok (.iconst 1, 1) := by decide +kernel
theorem dX11_isActive_11 : decode cX11_isActive 11 = .ok (.goto 4, 3) := by decide +kernel
theorem dX11_isActive_14 : decode cX11_isActive 14 = .ok (.iconst 0, 1) := by decide +kernel
theorem dX11_isActive_15 : decode cX11_isActive 15 = .ok (.ireturn, 1) := by decide +kernel
theorem dX11_other_0 : decode cX11_other 0 = .ok (.aload_n 0, 1) := by decide +kernel
theorem dX11_other_1 : decode cX11_other 1 = .ok (.getfield 39, 3) := by decide +kernel
theorem dX11_other_4 : decode cX11_other 4 = .ok (.iload_n 1, 1) := by decide +kernel
theorem dX11_other_5 : decode cX11_other 5 = .ok (.iaload, 1) := by decide +kernel
theorem dX11_other_6 : decode cX11_other 6 = .ok (.aload_n 0, 1) := by decide +kernel
theorem dX11_other_7 : decode cX11_other 7 = .ok (.getfield 7, 3) := by decide +kernel
theorem dX11_other_10 : decode cX11_other 10 = .ok (.bipush 15, 2) := by decide +kernel
theorem dX11_other_12 : decode cX11_other 12 = .ok (.iload_n 1, 1) := by decide +kernel
theorem dX11_other_13 : decode cX11_other 13 = .ok (.iadd, 1) := by decide +kernel
theorem dX11_other_14 : decode cX11_other 14 = .ok (.iaload, 1) := by decide +kernel
theorem dX11_other_15 : decode cX11_other 15 = .ok (.if_icmp .eq 7, 3) := by decide +kernel
theorem dX11_other_18 : decode cX11_other 18 = .ok (.iconst 1, 1) := by decide +kernel
theorem dX11_other_19 : decode cX11_other 19 = .ok (.goto 4, 3) := by decide +kernel
theorem dX11_other_22 : decode cX11_other 22 = .ok (.iconst 0, 1) := by decide +kernel
theorem dX11_other_23 : decode cX11_other 23 = .ok (.ireturn, 1) := by decide +kernel
theorem dX11_was_0 : decode cX11_was 0 = .ok (.aload_n 0, 1) := by decide +kernel
theorem dX11_was_1 : decode cX11_was 1 = .ok (.getfield 7, 3) := by decide +kernel
theorem dX11_was_4 : decode cX11_was 4 = .ok (.bipush 15, 2) := by decide +kernel
theorem dX11_was_6 : decode cX11_was 6 = .ok (.iload_n 1, 1) := by decide +kernel
theorem dX11_was_7 : decode cX11_was 7 = .ok (.iadd, 1) := by decide +kernel
theorem dX11_was_8 : decode cX11_was 8 = .ok (.iaload, 1) := by decide +kernel
theorem dX11_was_9 : decode cX11_was 9 = .ok (.ireturn, 1) := by decide +kernel
set_option maxRecDepth 20000 in
theorem ggX11_judge_X11_was : GoodIn wsX11_judge wsX11_was := goodIn_r _ [7, 1, 33, 34, 35, 36, 37, 38, 39, 40, 41, 42, 43, 44, 45, 46, 47, 48, 49, 50, 51, 52, 53, 54, 55, 56] (by decide +kernel) (by decide +kernel)
set_option maxRecDepth 20000 in
theorem gX11_judge_X11_was : GoodIn wsX11_judge (wsV RX11 177 RX11 yX11_was wsX11_was) := goodIn_app (goodIn_of _ (by decide +kernel)) ggX11_judge_X11_was
set_option maxRecDepth 20000 in
theorem ggX11_judge_X11_isActive : GoodIn wsX11_judge wsX11_isActive := goodIn_r _ [10] (by decide +kernel) (by decide +kernel)
set_option maxRecDepth 20000 in
theorem gX11_judge_X11_isActive : GoodIn wsX11_judge (va_wsS RX11 180 yX11_isActive wsX11_isActive) := goodIn_app (goodIn_of _ (by decide +kernel)) ggX11_judge_X11_isActive
set_option maxRecDepth 20000 in
theorem ggX11_judge_X11_other : GoodIn wsX11_judge wsX11_other := goodIn_r _ [14, 2, 1, 33, 34, 35, 36, 37, 38, 39, 40, 41, 42, 43, 44, 45, 46, 47, 48, 49, 50, 51, 52, 53, 54, 55, 56] (by decide +kernel) (by decide +kernel)
set_option maxRecDepth 20000 in
theorem gX11_judge_X11_other : GoodIn wsX11_judge (wsV RX11 183 RX11 yX11_other wsX11_other) := goodIn_app (goodIn_of _ (by decide +kernel)) ggX11_judge_X11_other
set_option maxRecDepth 20000 in
theorem ggX11_judge_X11_find : GoodIn wsX11_judge wsX11_find := goodIn_r _ [18, 1, 33, 34, 35, 36, 37, 38, 39, 40, 41, 42, 43, 44, 45, 46, 47, 48, 49, 50, 51, 52, 53, 54, 55, 56] (by decide +kernel) (by decide +kernel)
set_option maxRecDepth 20000 in
theorem gX11_judge_X11_find : GoodIn wsX11_judge (wsV RX11 186 RX11 yX11_find wsX11_find) := goodIn_app (goodIn_of _ (by decide +kernel)) ggX11_judge_X11_find
set_option maxRecDepth 20000 in
theorem ggX11_judge_X11_judgeLower : GoodIn wsX11_judge wsX11_judgeLower := goodIn_r _ [22, 2, 23, 24, 25, 6, 26, 15, 16, 17, 18, 1, 11, 12, 13, 14, 3, 4, 5, 7, 27, 28, 29, 30, 31, 32, 33, 34, 35, 36, 37, 38, 39, 40, 41, 42, 43, 44, 45, 46, 47, 48, 49, 50, 51, 52, 53, 54, 55, 56] (by decide +kernel) (by decide +kernel)
set_option maxRecDepth 20000 in
theorem gX11_judge_X11_judgeLower : GoodIn wsX11_judge (wsV RX11 190 RX11 yX11_judgeLower wsX11_judgeLower) := goodIn_app (goodIn_of _ (by decide +kernel)) ggX11_judge_X11_judgeLower
theorem dX11_judge_0 : decode cX11_judge 0 = .ok (.aload_n 0, 1) := by decide +kernel
theorem dX11_judge_1 : decode cX11_judge 1 = .ok (.getfield 7, 3) := by decide +kernel
theorem dX11_judge_4 : decode cX11_judge 4 = .ok (.sipush 179, 3) := by decide +kernel
theorem dX11_judge_7 : decode cX11_judge 7 = .ok (.iaload, 1) := by decide +kernel
theorem dX11_judge_8 : decode cX11_judge 8 = .ok (.ifCond .le 7, 3) := by decide +kernel
theorem dX11_judge_11 : decode cX11_judge 11 = .ok (.iconst 1, 1) := by decide +kernel
theorem dX11_judge_12 : decode cX11_judge 12 = .ok (.goto 4, 3) := by decide +kernel
theorem dX11_judge_15 : decode cX11_judge 15 = .ok (.iconst 0, 1) := by decide +kernel
theorem dX11_judge_16 : decode cX11_judge 16 = .ok (.istore_n 1, 1) := by decide +kernel
theorem dX11_judge_17 : decode cX11_judge 17 = .ok (.iload_n 1, 1) := by decide +kernel
theorem dX11_judge_18 : decode cX11_judge 18 = .ok (.ifCond .eq 67, 3) := by decide +kernel
theorem dX11_judge_21 : decode cX11_judge 21 = .ok (.aload_n 0, 1) := by decide +kernel
theorem dX11_judge_22 : decode cX11_judge 22 = .ok (.iconst 4, 1) := by decide +kernel
theorem dX11_judge_23 : decode cX11_judge 23 = .ok (.invokevirtual 177, 3) := by decide +kernel
theorem dX11_judge_26 : decode cX11_judge 26 = .ok (.ifCond .eq 59, 3) := by decide +kernel
theorem dX11_judge_29 : decode cX11_judge 29 = .ok (.aload_n 0, 1) := by decide +kernel
theorem dX11_judge_30 : decode cX11_judge 30 = .ok (.getfield 7, 3) := by decide +kernel
theorem dX11_judge_33 : decode cX11_judge 33 = .ok (.sipush 209, 3) := by decide +kernel
theorem dX11_judge_36 : decode cX11_judge 36 = .ok (.aload_n 0, 1) := by decide +kernel
theorem dX11_judge_37 : decode cX11_judge 37 = .ok (.iconst 2, 1) := by decide +kernel
theorem dX11_judge_38 : decode cX11_judge 38 = .ok (.invokevirtual 177, 3) := by decide +kernel
theorem dX11_judge_41 : decode cX11_judge 41 = .ok (.invokestatic 180, 3) := by decide +kernel
theorem dX11_judge_44 : decode cX11_judge 44 = .ok (.ifCond .eq 7, 3) := by decide +kernel
theorem dX11_judge_47 : decode cX11_judge 47 = .ok (.iconst 1, 1) := by decide +kernel
theorem dX11_judge_48 : decode cX11_judge 48 = .ok (.goto 4, 3) := by decide +kernel
theorem dX11_judge_51 : decode cX11_judge 51 = .ok (.iconst 0, 1) := by decide +kernel
theorem dX11_judge_52 : decode cX11_judge 52 = .ok (.iastore, 1) := by decide +kernel
theorem dX11_judge_53 : decode cX11_judge 53 = .ok (.aload_n 0, 1) := by decide +kernel
theorem dX11_judge_54 : decode cX11_judge 54 = .ok (.getfield 7, 3) := by decide +kernel
theorem dX11_judge_57 : decode cX11_judge 57 = .ok (.sipush 210, 3) := by decide +kernel
theorem dX11_judge_60 : decode cX11_judge 60 = .ok (.aload_n 0, 1) := by decide +kernel
theorem dX11_judge_61 : decode cX11_judge 61 = .ok (.iconst 2, 1) := by decide +kernel
theorem dX11_judge_62 : decode cX11_judge 62 = .ok (.invokevirtual 177, 3) := by decide +kernel
theorem dX11_judge_65 : decode cX11_judge 65 = .ok (.invokestatic 180, 3) := by decide +kernel
theorem dX11_judge_68 : decode cX11_judge 68 = .ok (.ifCond .eq 15, 3) := by decide +kernel
theorem dX11_judge_71 : decode cX11_judge 71 = .ok (.aload_n 0, 1) := by decide +kernel
theorem dX11_judge_72 : decode cX11_judge 72 = .ok (.iconst 1, 1) := by decide +kernel
theorem dX11_judge_73 : decode cX11_judge 73 = .ok (.invokevirtual 177, 3) := by decide +kernel
theorem dX11_judge_76 : decode cX11_judge 76 = .ok (.ifCond .eq 7, 3) := by decide +kernel
theorem dX11_judge_79 : decode cX11_judge 79 = .ok (.iconst 1, 1) := by decide +kernel
theorem dX11_judge_80 : decode cX11_judge 80 = .ok (.goto 4, 3) := by decide +kernel
theorem dX11_judge_83 : decode cX11_judge 83 = .ok (.iconst 0, 1) := by decide +kernel
theorem dX11_judge_84 : decode cX11_judge 84 = .ok (.iastore, 1) := by decide +kernel
theorem dX11_judge_85 : decode cX11_judge 85 = .ok (.aload_n 0, 1) := by decide +kernel
theorem dX11_judge_86 : decode cX11_judge 86 = .ok (.getfield 7, 3) := by decide +kernel
theorem dX11_judge_89 : decode cX11_judge 89 = .ok (.sipush 209, 3) := by decide +kernel
theorem dX11_judge_92 : decode cX11_judge 92 = .ok (.iaload, 1) := by decide +kernel
theorem dX11_judge_93 : decode cX11_judge 93 = .ok (.iconst 1, 1) := by decide +kernel
theorem dX11_judge_94 : decode cX11_judge 94 = .ok (.if_icmp .ne 7, 3) := by decide +kernel
theorem dX11_judge_97 : decode cX11_judge 97 = .ok (.iconst 1, 1) := by decide +kernel
theorem dX11_judge_98 : decode cX11_judge 98 = .ok (.goto 4, 3) := by decide +kernel
theorem dX11_judge_101 : decode cX11_judge 101 = .ok (.iconst 0, 1) := by decide +kernel
theorem dX11_judge_102 : decode cX11_judge 102 = .ok (.istore_n 2, 1) := by decide +kernel
theorem dX11_judge_103 : decode cX11_judge 103 = .ok (.aload_n 0, 1) := by decide +kernel
theorem dX11_judge_104 : decode cX11_judge 104 = .ok (.iconst 1, 1) := by decide +kernel
theorem dX11_judge_105 : decode cX11_judge 105 = .ok (.iload_n 1, 1) := by decide +kernel
theorem dX11_judge_106 : decode cX11_judge 106 = .ok (.ifCond .eq 58, 3) := by decide +kernel
theorem dX11_judge_109 : decode cX11_judge 109 = .ok (.aload_n 0, 1) := by decide +kernel
theorem dX11_judge_110 : decode cX11_judge 110 = .ok (.iconst 4, 1) := by decide +kernel
theorem dX11_judge_111 : decode cX11_judge 111 = .ok (.invokevirtual 177, 3) := by decide +kernel
theorem dX11_judge_114 : decode cX11_judge 114 = .ok (.ifCond .ne 50, 3) := by decide +kernel
theorem dX11_judge_117 : decode cX11_judge 117 = .ok (.aload_n 0, 1) := by decide +kernel
theorem dX11_judge_118 : decode cX11_judge 118 = .ok (.iconst 5, 1) := by decide +kernel
theorem dX11_judge_119 : decode cX11_judge 119 = .ok (.invokevirtual 177, 3) := by decide +kernel
theorem dX11_judge_122 : decode cX11_judge 122 = .ok (.ifCond .ne 42, 3) := by decide +kernel
theorem dX11_judge_125 : decode cX11_judge 125 = .ok (.aload_n 0, 1) := by decide +kernel
theorem dX11_judge_126 : decode cX11_judge 126 = .ok (.iconst 2, 1) := by decide +kernel
theorem dX11_judge_127 : decode cX11_judge 127 = .ok (.invokevirtual 177, 3) := by decide +kernel
theorem dX11_judge_130 : decode cX11_judge 130 = .ok (.invokestatic 180, 3) := by decide +kernel
theorem dX11_judge_133 : decode cX11_judge 133 = .ok (.ifCond .eq 31, 3) := by decide +kernel
theorem dX11_judge_136 : decode cX11_judge 136 = .ok (.aload_n 0, 1) := by decide +kernel
theorem dX11_judge_137 : decode cX11_judge 137 = .ok (.iconst 0, 1) := by decide +kernel
theorem dX11_judge_138 : decode cX11_judge 138 = .ok (.invokevirtual 183, 3) := by decide +kernel
theorem dX11_judge_141 : decode cX11_judge 141 = .ok (.ifCond .ne 19, 3) := by decide +kernel
theorem dX11_judge_144 : decode cX11_judge 144 = .ok (.aload_n 0, 1) := by decide +kernel
theorem dX11_judge_145 : decode cX11_judge 145 = .ok (.iconst 1, 1) := by decide +kernel
theorem dX11_judge_146 : decode cX11_judge 146 = .ok (.invokevirtual 183, 3) := by decide +kernel
theorem dX11_judge_149 : decode cX11_judge 149 = .ok (.ifCond .ne 11, 3) := by decide +kernel
theorem dX11_judge_152 : decode cX11_judge 152 = .ok (.aload_n 0, 1) := by decide +kernel
theorem dX11_judge_153 : decode cX11_judge 153 = .ok (.iconst 2, 1) := by decide +kernel
theorem dX11_judge_154 : decode cX11_judge 154 = .ok (.invokevirtual 183, 3) := by decide +kernel
theorem dX11_judge_157 : decode cX11_judge 157 = .ok (.ifCond .eq 7, 3) := by decide +kernel
theorem dX11_judge_160 : decode cX11_judge 160 = .ok (.iconst 1, 1) := by decide +kernel
theorem dX11_judge_161 : decode cX11_judge 161 = .ok (.goto 4, 3) := by decide +kernel
theorem dX11_judge_164 : decode cX11_judge 164 = .ok (.iconst 0, 1) := by decide +kernel
theorem dX11_judge_165 : decode cX11_judge 165 = .ok (.invokevirtual 186, 3) := by decide +kernel
theorem dX11_judge_168 : decode cX11_judge 168 = .ok (.aload_n 0, 1) := by decide +kernel
theorem dX11_judge_169 : decode cX11_judge 169 = .ok (.iconst 2, 1) := by decide +kernel
theorem dX11_judge_170 : decode cX11_judge 170 = .ok (.iload_n 1, 1) := by decide +kernel
theorem dX11_judge_171 : decode cX11_judge 171 = .ok (.ifCond .eq 60, 3) := by decide +kernel
theorem dX11_judge_174 : decode cX11_judge 174 = .ok (.aload_n 0, 1) := by decide +kernel
theorem dX11_judge_175 : decode cX11_judge 175 = .ok (.getfield 39, 3) := by decide +kernel
theorem dX11_judge_178 : decode cX11_judge 178 = .ok (.iconst 2, 1) := by decide +kernel
theorem dX11_judge_179 : decode cX11_judge 179 = .ok (.iaload, 1) := by decide +kernel
theorem dX11_judge_180 : decode cX11_judge 180 = .ok (.iconst 3, 1) := by decide +kernel
theorem dX11_judge_181 : decode cX11_judge 181 = .ok (.if_icmp .ne 50, 3) := by decide +kernel
theorem dX11_judge_184 : decode cX11_judge 184 = .ok (.aload_n 0, 1) := by decide +kernel
theorem dX11_judge_185 : decode cX11_judge 185 = .ok (.iconst 4, 1) := by decide +kernel
theorem dX11_judge_186 : decode cX11_judge 186 = .ok (.invokevirtual 177, 3) := by decide +kernel
theorem dX11_judge_189 : decode cX11_judge 189 = .ok (.ifCond .eq 42, 3) := by decide +kernel
theorem dX11_judge_192 : decode cX11_judge 192 = .ok (.aload_n 0, 1) := by decide +kernel
theorem dX11_judge_193 : decode cX11_judge 193 = .ok (.iconst 2, 1) := by decide +kernel
theorem dX11_judge_194 : decode cX11_judge 194 = .ok (.invokevirtual 177, 3) := by decide +kernel
theorem dX11_judge_197 : decode cX11_judge 197 = .ok (.invokestatic 180, 3) := by decide +kernel
theorem dX11_judge_200 : decode cX11_judge 200 = .ok (.ifCond .eq 27, 3) := by decide +kernel
theorem dX11_judge_203 : decode cX11_judge 203 = .ok (.aload_n 0, 1) := by decide +kernel
theorem dX11_judge_204 : decode cX11_judge 204 = .ok (.getfield 39, 3) := by decide +kernel
theorem dX11_judge_207 : decode cX11_judge 207 = .ok (.iconst 0, 1) := by decide +kernel
theorem dX11_judge_208 : decode cX11_judge 208 = .ok (.iaload, 1) := by decide +kernel
theorem dX11_judge_209 : decode cX11_judge 209 = .ok (.aload_n 0, 1) := by decide +kernel
theorem dX11_judge_210 : decode cX11_judge 210 = .ok (.iconst 0, 1) := by decide +kernel
theorem dX11_judge_211 : decode cX11_judge 211 = .ok (.invokevirtual 177, 3) := by decide +kernel
theorem dX11_judge_214 : decode cX11_judge 214 = .ok (.iconst 4, 1) := by decide +kernel
theorem dX11_judge_215 : decode cX11_judge 215 = .ok (.iadd, 1) := by decide +kernel
theorem dX11_judge_216 : decode cX11_judge 216 = .ok (.if_icmp .ne 11, 3) := by decide +kernel
theorem dX11_judge_219 : decode cX11_judge 219 = .ok (.aload_n 0, 1) := by decide +kernel
theorem dX11_judge_220 : decode cX11_judge 220 = .ok (.iconst 1, 1) := by decide +kernel
theorem dX11_judge_221 : decode cX11_judge 221 = .ok (.invokevirtual 183, 3) := by decide +kernel
theorem dX11_judge_224 : decode cX11_judge 224 = .ok (.ifCond .eq 7, 3) := by decide +kernel
theorem dX11_judge_227 : decode cX11_judge 227 = .ok (.iconst 1, 1) := by decide +kernel
theorem dX11_judge_228 : decode cX11_judge 228 = .ok (.goto 4, 3) := by decide +kernel
theorem dX11_judge_231 : decode cX11_judge 231 = .ok (.iconst 0, 1) := by decide +kernel
theorem dX11_judge_232 : decode cX11_judge 232 = .ok (.invokevirtual 186, 3) := by decide +kernel
theorem dX11_judge_235 : decode cX11_judge 235 = .ok (.aload_n 0, 1) := by decide +kernel
theorem dX11_judge_236 : decode cX11_judge 236 = .ok (.iconst 3, 1) := by decide +kernel
theorem dX11_judge_237 : decode cX11_judge 237 = .ok (.iload_n 1, 1) := by decide +kernel
theorem dX11_judge_238 : decode cX11_judge 238 = .ok (.ifCond .eq 39, 3) := by decide +kernel
theorem dX11_judge_241 : decode cX11_judge 241 = .ok (.iload_n 2, 1) := by decide +kernel
theorem dX11_judge_242 : decode cX11_judge 242 = .ok (.ifCond .eq 35, 3) := by decide +kernel
theorem dX11_judge_245 : decode cX11_judge 245 = .ok (.aload_n 0, 1) := by decide +kernel
theorem dX11_judge_246 : decode cX11_judge 246 = .ok (.getfield 7, 3) := by decide +kernel
theorem dX11_judge_249 : decode cX11_judge 249 = .ok (.sipush 210, 3) := by decide +kernel
theorem dX11_judge_252 : decode cX11_judge 252 = .ok (.iaload, 1) := by decide +kernel
theorem dX11_judge_253 : decode cX11_judge 253 = .ok (.iconst 1, 1) := by decide +kernel
theorem dX11_judge_254 : decode cX11_judge 254 = .ok (.if_icmp .ne 23, 3) := by decide +kernel
theorem dX11_judge_257 : decode cX11_judge 257 = .ok (.aload_n 0, 1) := by decide +kernel
theorem dX11_judge_258 : decode cX11_judge 258 = .ok (.iconst 4, 1) := by decide +kernel
theorem dX11_judge_259 : decode cX11_judge 259 = .ok (.invokevirtual 177, 3) := by decide +kernel
theorem dX11_judge_262 : decode cX11_judge 262 = .ok (.ifCond .ne 15, 3) := by decide +kernel
theorem dX11_judge_265 : decode cX11_judge 265 = .ok (.aload_n 0, 1) := by decide +kernel
theorem dX11_judge_266 : decode cX11_judge 266 = .ok (.iconst 3, 1) := by decide +kernel
theorem dX11_judge_267 : decode cX11_judge 267 = .ok (.invokevirtual 183, 3) := by decide +kernel
theorem dX11_judge_270 : decode cX11_judge 270 = .ok (.ifCond .eq 7, 3) := by decide +kernel
theorem dX11_judge_273 : decode cX11_judge 273 = .ok (.iconst 1, 1) := by decide +kernel
theorem dX11_judge_274 : decode cX11_judge 274 = .ok (.goto 4, 3) := by decide +kernel
theorem dX11_judge_277 : decode cX11_judge 277 = .ok (.iconst 0, 1) := by decide +kernel
theorem dX11_judge_278 : decode cX11_judge 278 = .ok (.invokevirtual 186, 3) := by decide +kernel
theorem dX11_judge_281 : decode cX11_judge 281 = .ok (.aload_n 0, 1) := by decide +kernel
theorem dX11_judge_282 : decode cX11_judge 282 = .ok (.getfield 39, 3) := by decide +kernel
theorem dX11_judge_285 : decode cX11_judge 285 = .ok (.iconst 5, 1) := by decide +kernel
theorem dX11_judge_286 : decode cX11_judge 286 = .ok (.iaload, 1) := by decide +kernel
theorem dX11_judge_287 : decode cX11_judge 287 = .ok (.ifCond .eq 16, 3) := by decide +kernel
theorem dX11_judge_290 : decode cX11_judge 290 = .ok (.aload_n 0, 1) := by decide +kernel
theorem dX11_judge_291 : decode cX11_judge 291 = .ok (.getfield 39, 3) := by decide +kernel
theorem dX11_judge_294 : decode cX11_judge 294 = .ok (.iconst 4, 1) := by decide +kernel
theorem dX11_judge_295 : decode cX11_judge 295 = .ok (.iaload, 1) := by decide +kernel
theorem dX11_judge_296 : decode cX11_judge 296 = .ok (.ifCond .eq 7, 3) := by decide +kernel
theorem dX11_judge_299 : decode cX11_judge 299 = .ok (.iconst 1, 1) := by decide +kernel
theorem dX11_judge_300 : decode cX11_judge 300 = .ok (.goto 4, 3) := by decide +kernel
theorem dX11_judge_303 : decode cX11_judge 303 = .ok (.iconst 0, 1) := by decide +kernel
theorem dX11_judge_304 : decode cX11_judge 304 = .ok (.istore_n 3, 1) := by decide +kernel
theorem dX11_judge_305 : decode cX11_judge 305 = .ok (.aload_n 0, 1) := by decide +kernel
theorem dX11_judge_306 : decode cX11_judge 306 = .ok (.iconst 5, 1) := by decide +kernel
theorem dX11_judge_307 : decode cX11_judge 307 = .ok (.invokevirtual 177, 3) := by decide +kernel
theorem dX11_judge_310 : decode cX11_judge 310 = .ok (.ifCond .eq 15, 3) := by decide +kernel
theorem dX11_judge_313 : decode cX11_judge 313 = .ok (.aload_n 0, 1) := by decide +kernel
theorem dX11_judge_314 : decode cX11_judge 314 = .ok (.iconst 4, 1) := by decide +kernel
theorem dX11_judge_315 : decode cX11_judge 315 = .ok (.invokevirtual 177, 3) := by decide +kernel
theorem dX11_judge_318 : decode cX11_judge 318 = .ok (.ifCond .ne 7, 3) := by decide +kernel
theorem dX11_judge_321 : decode cX11_judge 321 = .ok (.iconst 1, 1) := by decide +kernel
theorem dX11_judge_322 : decode cX11_judge 322 = .ok (.goto 4, 3) := by decide +kernel
theorem dX11_judge_325 : decode cX11_judge 325 = .ok (.iconst 0, 1) := by decide +kernel
theorem dX11_judge_326 : decode cX11_judge 326 = .ok (.istore 4, 2) := by decide +kernel
theorem dX11_judge_328 : decode cX11_judge 328 = .ok (.aload_n 0, 1) := by decide +kernel
theorem dX11_judge_329 : decode cX11_judge 329 = .ok (.iconst 4, 1) := by decide +kernel
theorem dX11_judge_330 : decode cX11_judge 330 = .ok (.iload_n 1, 1) := by decide +kernel
theorem dX11_judge_331 : decode cX11_judge 331 = .ok (.ifCond .eq 13, 3) := by decide +kernel
theorem dX11_judge_334 : decode cX11_judge 334 = .ok (.iload_n 3, 1) := by decide +kernel
theorem dX11_judge_335 : decode cX11_judge 335 = .ok (.iload 4, 2) := by decide +kernel
theorem dX11_judge_337 : decode cX11_judge 337 = .ok (.if_icmp .eq 7, 3) := by decide +kernel
theorem dX11_judge_340 : decode cX11_judge 340 = .ok (.iconst 1, 1) := by decide +kernel
theorem dX11_judge_341 : decode cX11_judge 341 = .ok (.goto 4, 3) := by decide +kernel
theorem dX11_judge_344 : decode cX11_judge 344 = .ok (.iconst 0, 1) := by decide +kernel
theorem dX11_judge_345 : decode cX11_judge 345 = .ok (.invokevirtual 186, 3) := by decide +kernel
theorem dX11_judge_348 : decode cX11_judge 348 = .ok (.aload_n 0, 1) := by decide +kernel
theorem dX11_judge_349 : decode cX11_judge 349 = .ok (.iconst 5, 1) := by decide +kernel
theorem dX11_judge_350 : decode cX11_judge 350 = .ok (.aload_n 0, 1) := by decide +kernel
theorem dX11_judge_351 : decode cX11_judge 351 = .ok (.getfield 39, 3) := by decide +kernel
theorem dX11_judge_354 : decode cX11_judge 354 = .ok (.iconst 5, 1) := by decide +kernel
theorem dX11_judge_355 : decode cX11_judge 355 = .ok (.iaload, 1) := by decide +kernel
theorem dX11_judge_356 : decode cX11_judge 356 = .ok (.ifCond .eq 11, 3) := by decide +kernel
theorem dX11_judge_359 : decode cX11_judge 359 = .ok (.iload_n 2, 1) := by decide +kernel
theorem dX11_judge_360 : decode cX11_judge 360 = .ok (.ifCond .ne 7, 3) := by decide +kernel
theorem dX11_judge_363 : decode cX11_judge 363 = .ok (.iconst 1, 1) := by decide +kernel
theorem dX11_judge_364 : decode cX11_judge 364 = .ok (.goto 4, 3) := by decide +kernel
theorem dX11_judge_367 : decode cX11_judge 367 = .ok (.iconst 0, 1) := by decide +kernel
theorem dX11_judge_368 : decode cX11_judge 368 = .ok (.invokevirtual 186, 3) := by decide +kernel
theorem dX11_judge_371 : decode cX11_judge 371 = .ok (.aload_n 0, 1) := by decide +kernel
theorem dX11_judge_372 : decode cX11_judge 372 = .ok (.bipush 6, 2) := by decide +kernel
theorem dX11_judge_374 : decode cX11_judge 374 = .ok (.aload_n 0, 1) := by decide +kernel
theorem dX11_judge_375 : decode cX11_judge 375 = .ok (.getfield 39, 3) := by decide +kernel
theorem dX11_judge_378 : decode cX11_judge 378 = .ok (.iconst 4, 1) := by decide +kernel
theorem dX11_judge_379 : decode cX11_judge 379 = .ok (.iaload, 1) := by decide +kernel
theorem dX11_judge_380 : decode cX11_judge 380 = .ok (.ifCond .ne 11, 3) := by decide +kernel
theorem dX11_judge_383 : decode cX11_judge 383 = .ok (.iload_n 2, 1) := by decide +kernel
theorem dX11_judge_384 : decode cX11_judge 384 = .ok (.ifCond .ne 7, 3) := by decide +kernel
theorem dX11_judge_387 : decode cX11_judge 387 = .ok (.iconst 1, 1) := by decide +kernel
theorem dX11_judge_388 : decode cX11_judge 388 = .ok (.goto 4, 3) := by decide +kernel
theorem dX11_judge_391 : decode cX11_judge 391 = .ok (.iconst 0, 1) := by decide +kernel
theorem dX11_judge_392 : decode cX11_judge 392 = .ok (.invokevirtual 186, 3) := by decide +kernel
theorem dX11_judge_395 : decode cX11_judge 395 = .ok (.aload_n 0, 1) := by decide +kernel
theorem dX11_judge_396 : decode cX11_judge 396 = .ok (.getfield 7, 3) := by decide +kernel
theorem dX11_judge_399 : decode cX11_judge 399 = .ok (.sipush 211, 3) := by decide +kernel
theorem dX11_judge_402 : decode cX11_judge 402 = .ok (.aload_n 0, 1) := by decide +kernel
theorem dX11_judge_403 : decode cX11_judge 403 = .ok (.getfield 39, 3) := by decide +kernel
theorem dX11_judge_406 : decode cX11_judge 406 = .ok (.iconst 4, 1) := by decide +kernel
theorem dX11_judge_407 : decode cX11_judge 407 = .ok (.iaload, 1) := by decide +kernel
theorem dX11_judge_408 : decode cX11_judge 408 = .ok (.ifCond .ne 16, 3) := by decide +kernel
theorem dX11_judge_411 : decode cX11_judge 411 = .ok (.aload_n 0, 1) := by decide +kernel
theorem dX11_judge_412 : decode cX11_judge 412 = .ok (.getfield 7, 3) := by decide +kernel
theorem dX11_judge_415 : decode cX11_judge 415 = .ok (.sipush 211, 3) := by decide +kernel
theorem dX11_judge_418 : decode cX11_judge 418 = .ok (.iaload, 1) := by decide +kernel
theorem dX11_judge_419 : decode cX11_judge 419 = .ok (.iconst 1, 1) := by decide +kernel
theorem dX11_judge_420 : decode cX11_judge 420 = .ok (.iadd, 1) := by decide +kernel
theorem dX11_judge_421 : decode cX11_judge 421 = .ok (.goto 4, 3) := by decide +kernel
theorem dX11_judge_424 : decode cX11_judge 424 = .ok (.iconst 0, 1) := by decide +kernel
theorem dX11_judge_425 : decode cX11_judge 425 = .ok (.iastore, 1) := by decide +kernel
theorem dX11_judge_426 : decode cX11_judge 426 = .ok (.aload_n 0, 1) := by decide +kernel
theorem dX11_judge_427 : decode cX11_judge 427 = .ok (.bipush 7, 2) := by decide +kernel
theorem dX11_judge_429 : decode cX11_judge 429 = .ok (.aload_n 0, 1) := by decide +kernel
theorem dX11_judge_430 : decode cX11_judge 430 = .ok (.getfield 7, 3) := by decide +kernel
theorem dX11_judge_433 : decode cX11_judge 433 = .ok (.sipush 211, 3) := by decide +kernel
theorem dX11_judge_436 : decode cX11_judge 436 = .ok (.iaload, 1) := by decide +kernel
theorem dX11_judge_437 : decode cX11_judge 437 = .ok (.bipush 100, 2) := by decide +kernel
theorem dX11_judge_439 : decode cX11_judge 439 = .ok (.if_icmp .ne 7, 3) := by decide +kernel
theorem dX11_judge_442 : decode cX11_judge 442 = .ok (.iconst 1, 1) := by decide +kernel
theorem dX11_judge_443 : decode cX11_judge 443 = .ok (.goto 4, 3) := by decide +kernel
theorem dX11_judge_446 : decode cX11_judge 446 = .ok (.iconst 0, 1) := by decide +kernel
theorem dX11_judge_447 : decode cX11_judge 447 = .ok (.invokevirtual 186, 3) := by decide +kernel
theorem dX11_judge_450 : decode cX11_judge 450 = .ok (.aload_n 0, 1) := by decide +kernel
theorem dX11_judge_451 : decode cX11_judge 451 = .ok (.iload_n 1, 1) := by decide +kernel
theorem dX11_judge_452 : decode cX11_judge 452 = .ok (.invokevirtual 190, 3) := by decide +kernel
theorem dX11_judge_455 : decode cX11_judge 455 = .ok (.return_, 1) := by decide +kernel
set_option maxRecDepth 20000 in
theorem ggX11_judgeLower_X11_in : GoodIn wsX11_judgeLower wsX11_in := goodIn_r _ [6] (by decide +kernel) (by decide +kernel)
set_option maxRecDepth 20000 in
theorem gX11_judgeLower_X11_in : GoodIn wsX11_judgeLower (va_wsS RX11 74 yX11_in wsX11_in) := goodIn_app (goodIn_of _ (by decide +kernel)) ggX11_judgeLower_X11_in
set_option maxRecDepth 20000 in
theorem ggX11_judgeLower_X11_find : GoodIn wsX11_judgeLower wsX11_find := goodIn_r _ [10, 11, 26, 27, 28, 29, 30, 31, 32, 33, 34, 35, 36, 37, 38, 39, 40, 41, 42, 43, 44, 45, 46, 47, 48, 49] (by decide +kernel) (by decide +kernel)
set_option maxRecDepth 20000 in
theorem gX11_judgeLower_X11_find : GoodIn wsX11_judgeLower (wsV RX11 186 RX11 yX11_find wsX11_find) := goodIn_app (goodIn_of _ (by decide +kernel)) ggX11_judgeLower_X11_find
set_option maxRecDepth 20000 in
theorem ggX11_judgeLower_X11_other : GoodIn wsX11_judgeLower wsX11_other := goodIn_r _ [15, 1, 11, 26, 27, 28, 29, 30, 31, 32, 33, 34, 35, 36, 37, 38, 39, 40, 41, 42, 43, 44, 45, 46, 47, 48, 49] (by decide +kernel) (by decide +kernel)
set_option maxRecDepth 20000 in
theorem gX11_judgeLower_X11_other : GoodIn wsX11_judgeLower (wsV RX11 183 RX11 yX11_other wsX11_other) := goodIn_app (goodIn_of _ (by decide +kernel)) ggX11_judgeLower_X11_other
set_option maxRecDepth 20000 in
theorem ggX11_judgeLower_X11_was : GoodIn wsX11_judgeLower wsX11_was := goodIn_r _ [19, 11, 26, 27, 28, 29, 30, 31, 32, 33, 34, 35, 36, 37, 38, 39, 40, 41, 42, 43, 44, 45, 46, 47, 48, 49] (by decide +kernel) (by decide +kernel)
set_option maxRecDepth 20000 in
theorem gX11_judgeLower_X11_was : GoodIn wsX11_judgeLower (wsV RX11 177 RX11 yX11_was wsX11_was) := goodIn_app (goodIn_of _ (by decide +kernel)) ggX11_judgeLower_X11_was
set_option maxRecDepth 20000 in
theorem ggX11_judgeLower_X11_has : GoodIn wsX11_judgeLower wsX11_has := goodIn_r _ [23, 24, 25, 3, 4, 5, 6, 26, 27, 28, 29, 30, 31, 32, 33, 34, 35, 36, 37, 38, 39, 40, 41, 42, 43, 44, 45, 46, 47, 48, 49] (by decide +kernel) (by decide +kernel)
set_option maxRecDepth 20000 in
theorem gX11_judgeLower_X11_has : GoodIn wsX11_judgeLower (wsV RX11 97 RX11 yX11_has wsX11_has) := goodIn_app (goodIn_of _ (by decide +kernel)) ggX11_judgeLower_X11_has
theorem dX11_judgeLower_0 : decode cX11_judgeLower 0 = .ok (.aload_n 0, 1) := by decide +kernel
theorem dX11_judgeLower_1 : decode cX11_judgeLower 1 = .ok (.getfield 39, 3) := by decide +kernel
theorem dX11_judgeLower_4 : decode cX11_judgeLower 4 = .ok (.bipush 7, 2) := by decide +kernel
theorem dX11_judgeLower_6 : decode cX11_judgeLower 6 = .ok (.iaload, 1) := by decide +kernel
theorem dX11_judgeLower_7 : decode cX11_judgeLower 7 = .ok (.istore_n 2, 1) := by decide +kernel
theorem dX11_judgeLower_8 : decode cX11_judgeLower 8 = .ok (.aload_n 0, 1) := by decide +kernel
theorem dX11_judgeLower_9 : decode cX11_judgeLower 9 = .ok (.getfield 39, 3) := by decide +kernel
theorem dX11_judgeLower_12 : decode cX11_judgeLower 12 = .ok (.bipush 8, 2) := by decide +kernel
theorem dX11_judgeLower_14 : decode cX11_judgeLower 14 = .ok (.iaload, 1) := by decide +kernel
theorem dX11_judgeLower_15 : decode cX11_judgeLower 15 = .ok (.ifCond .eq 7, 3) := by decide +kernel
theorem dX11_judgeLower_18 : decode cX11_judgeLower 18 = .ok (.iconst 1, 1) := by decide +kernel
theorem dX11_judgeLower_19 : decode cX11_judgeLower 19 = .ok (.goto 4, 3) := by decide +kernel
theorem dX11_judgeLower_22 : decode cX11_judgeLower 22 = .ok (.iconst 0, 1) := by decide +kernel
theorem dX11_judgeLower_23 : decode cX11_judgeLower 23 = .ok (.istore_n 3, 1) := by decide +kernel
theorem dX11_judgeLower_24 : decode cX11_judgeLower 24 = .ok (.aload_n 0, 1) := by decide +kernel
theorem dX11_judgeLower_25 : decode cX11_judgeLower 25 = .ok (.bipush 8, 2) := by decide +kernel
theorem dX11_judgeLower_27 : decode cX11_judgeLower 27 = .ok (.iload_n 2, 1) := by decide +kernel
theorem dX11_judgeLower_28 : decode cX11_judgeLower 28 = .ok (.ifCond .eq 33, 3) := by decide +kernel
theorem dX11_judgeLower_31 : decode cX11_judgeLower 31 = .ok (.iload_n 2, 1) := by decide +kernel
theorem dX11_judgeLower_32 : decode cX11_judgeLower 32 = .ok (.iload_n 2, 1) := by decide +kernel
theorem dX11_judgeLower_33 : decode cX11_judgeLower 33 = .ok (.iconst 1, 1) := by decide +kernel
theorem dX11_judgeLower_34 : decode cX11_judgeLower 34 = .ok (.isub, 1) := by decide +kernel
theorem dX11_judgeLower_35 : decode cX11_judgeLower 35 = .ok (.iand, 1) := by decide +kernel
theorem dX11_judgeLower_36 : decode cX11_judgeLower 36 = .ok (.ifCond .ne 21, 3) := by decide +kernel
theorem dX11_judgeLower_39 : decode cX11_judgeLower 39 = .ok (.iload_n 2, 1) := by decide +kernel
theorem dX11_judgeLower_40 : decode cX11_judgeLower 40 = .ok (.i2l, 1) := by decide +kernel
theorem dX11_judgeLower_41 : decode cX11_judgeLower 41 = .ok (.lconst 1, 1) := by decide +kernel
theorem dX11_judgeLower_42 : decode cX11_judgeLower 42 = .ok (.iconst 1, 1) := by decide +kernel
theorem dX11_judgeLower_43 : decode cX11_judgeLower 43 = .ok (.aload_n 0, 1) := by decide +kernel
theorem dX11_judgeLower_44 : decode cX11_judgeLower 44 = .ok (.getfield 88, 3) := by decide +kernel
theorem dX11_judgeLower_47 : decode cX11_judgeLower 47 = .ok (.ishl, 1) := by decide +kernel
theorem dX11_judgeLower_48 : decode cX11_judgeLower 48 = .ok (.iconst 1, 1) := by decide +kernel
theorem dX11_judgeLower_49 : decode cX11_judgeLower 49 = .ok (.isub, 1) := by decide +kernel
theorem dX11_judgeLower_50 : decode cX11_judgeLower 50 = .ok (.i2l, 1) := by decide +kernel
theorem dX11_judgeLower_51 : decode cX11_judgeLower 51 = .ok (.invokestatic 74, 3) := by decide +kernel
theorem dX11_judgeLower_54 : decode cX11_judgeLower 54 = .ok (.ifCond .ne 7, 3) := by decide +kernel
theorem dX11_judgeLower_57 : decode cX11_judgeLower 57 = .ok (.iconst 1, 1) := by decide +kernel
theorem dX11_judgeLower_58 : decode cX11_judgeLower 58 = .ok (.goto 4, 3) := by decide +kernel
theorem dX11_judgeLower_61 : decode cX11_judgeLower 61 = .ok (.iconst 0, 1) := by decide +kernel
theorem dX11_judgeLower_62 : decode cX11_judgeLower 62 = .ok (.invokevirtual 186, 3) := by decide +kernel
theorem dX11_judgeLower_65 : decode cX11_judgeLower 65 = .ok (.aload_n 0, 1) := by decide +kernel
theorem dX11_judgeLower_66 : decode cX11_judgeLower 66 = .ok (.bipush 9, 2) := by decide +kernel
theorem dX11_judgeLower_68 : decode cX11_judgeLower 68 = .ok (.iload_n 3, 1) := by decide +kernel
theorem dX11_judgeLower_69 : decode cX11_judgeLower 69 = .ok (.ifCond .eq 11, 3) := by decide +kernel
theorem dX11_judgeLower_72 : decode cX11_judgeLower 72 = .ok (.iload_n 2, 1) := by decide +kernel
theorem dX11_judgeLower_73 : decode cX11_judgeLower 73 = .ok (.ifCond .ne 7, 3) := by decide +kernel
theorem dX11_judgeLower_76 : decode cX11_judgeLower 76 = .ok (.iconst 1, 1) := by decide +kernel
theorem dX11_judgeLower_77 : decode cX11_judgeLower 77 = .ok (.goto 4, 3) := by decide +kernel
theorem dX11_judgeLower_80 : decode cX11_judgeLower 80 = .ok (.iconst 0, 1) := by decide +kernel
theorem dX11_judgeLower_81 : decode cX11_judgeLower 81 = .ok (.invokevirtual 186, 3) := by decide +kernel
theorem dX11_judgeLower_84 : decode cX11_judgeLower 84 = .ok (.aload_n 0, 1) := by decide +kernel
theorem dX11_judgeLower_85 : decode cX11_judgeLower 85 = .ok (.bipush 10, 2) := by decide +kernel
theorem dX11_judgeLower_87 : decode cX11_judgeLower 87 = .ok (.iload_n 1, 1) := by decide +kernel
theorem dX11_judgeLower_88 : decode cX11_judgeLower 88 = .ok (.ifCond .eq 20, 3) := by decide +kernel
theorem dX11_judgeLower_91 : decode cX11_judgeLower 91 = .ok (.iload_n 3, 1) := by decide +kernel
theorem dX11_judgeLower_92 : decode cX11_judgeLower 92 = .ok (.ifCond .eq 16, 3) := by decide +kernel
theorem dX11_judgeLower_95 : decode cX11_judgeLower 95 = .ok (.aload_n 0, 1) := by decide +kernel
theorem dX11_judgeLower_96 : decode cX11_judgeLower 96 = .ok (.bipush 7, 2) := by decide +kernel
theorem dX11_judgeLower_98 : decode cX11_judgeLower 98 = .ok (.invokevirtual 183, 3) := by decide +kernel
theorem dX11_judgeLower_101 : decode cX11_judgeLower 101 = .ok (.ifCond .eq 7, 3) := by decide +kernel
theorem dX11_judgeLower_104 : decode cX11_judgeLower 104 = .ok (.iconst 1, 1) := by decide +kernel
theorem dX11_judgeLower_105 : decode cX11_judgeLower 105 = .ok (.goto 4, 3) := by decide +kernel
theorem dX11_judgeLower_108 : decode cX11_judgeLower 108 = .ok (.iconst 0, 1) := by decide +kernel
theorem dX11_judgeLower_109 : decode cX11_judgeLower 109 = .ok (.invokevirtual 186, 3) := by decide +kernel
theorem dX11_judgeLower_112 : decode cX11_judgeLower 112 = .ok (.aload_n 0, 1) := by decide +kernel
theorem dX11_judgeLower_113 : decode cX11_judgeLower 113 = .ok (.bipush 11, 2) := by decide +kernel
theorem dX11_judgeLower_115 : decode cX11_judgeLower 115 = .ok (.iload_n 1, 1) := by decide +kernel
theorem dX11_judgeLower_116 : decode cX11_judgeLower 116 = .ok (.ifCond .eq 38, 3) := by decide +kernel
theorem dX11_judgeLower_119 : decode cX11_judgeLower 119 = .ok (.aload_n 0, 1) := by decide +kernel
theorem dX11_judgeLower_120 : decode cX11_judgeLower 120 = .ok (.bipush 7, 2) := by decide +kernel
theorem dX11_judgeLower_122 : decode cX11_judgeLower 122 = .ok (.invokevirtual 177, 3) := by decide +kernel
theorem dX11_judgeLower_125 : decode cX11_judgeLower 125 = .ok (.ifCond .eq 29, 3) := by decide +kernel
theorem dX11_judgeLower_128 : decode cX11_judgeLower 128 = .ok (.aload_n 0, 1) := by decide +kernel
theorem dX11_judgeLower_129 : decode cX11_judgeLower 129 = .ok (.bipush 8, 2) := by decide +kernel
theorem dX11_judgeLower_131 : decode cX11_judgeLower 131 = .ok (.invokevirtual 177, 3) := by decide +kernel
theorem dX11_judgeLower_134 : decode cX11_judgeLower 134 = .ok (.ifCond .ne 20, 3) := by decide +kernel
theorem dX11_judgeLower_137 : decode cX11_judgeLower 137 = .ok (.aload_n 0, 1) := by decide +kernel
theorem dX11_judgeLower_138 : decode cX11_judgeLower 138 = .ok (.bipush 7, 2) := by decide +kernel
theorem dX11_judgeLower_140 : decode cX11_judgeLower 140 = .ok (.invokevirtual 183, 3) := by decide +kernel
theorem dX11_judgeLower_143 : decode cX11_judgeLower 143 = .ok (.ifCond .ne 7, 3) := by decide +kernel
theorem dX11_judgeLower_146 : decode cX11_judgeLower 146 = .ok (.iload_n 3, 1) := by decide +kernel
theorem dX11_judgeLower_147 : decode cX11_judgeLower 147 = .ok (.ifCond .ne 7, 3) := by decide +kernel
theorem dX11_judgeLower_150 : decode cX11_judgeLower 150 = .ok (.iconst 1, 1) := by decide +kernel
theorem dX11_judgeLower_151 : decode cX11_judgeLower 151 = .ok (.goto 4, 3) := by decide +kernel
theorem dX11_judgeLower_154 : decode cX11_judgeLower 154 = .ok (.iconst 0, 1) := by decide +kernel
theorem dX11_judgeLower_155 : decode cX11_judgeLower 155 = .ok (.invokevirtual 186, 3) := by decide +kernel
theorem dX11_judgeLower_158 : decode cX11_judgeLower 158 = .ok (.aload_n 0, 1) := by decide +kernel
theorem dX11_judgeLower_159 : decode cX11_judgeLower 159 = .ok (.bipush 12, 2) := by decide +kernel
theorem dX11_judgeLower_161 : decode cX11_judgeLower 161 = .ok (.iload_n 1, 1) := by decide +kernel
theorem dX11_judgeLower_162 : decode cX11_judgeLower 162 = .ok (.ifCond .eq 38, 3) := by decide +kernel
theorem dX11_judgeLower_165 : decode cX11_judgeLower 165 = .ok (.aload_n 0, 1) := by decide +kernel
theorem dX11_judgeLower_166 : decode cX11_judgeLower 166 = .ok (.bipush 8, 2) := by decide +kernel
theorem dX11_judgeLower_168 : decode cX11_judgeLower 168 = .ok (.invokevirtual 177, 3) := by decide +kernel
theorem dX11_judgeLower_171 : decode cX11_judgeLower 171 = .ok (.ifCond .eq 29, 3) := by decide +kernel
theorem dX11_judgeLower_174 : decode cX11_judgeLower 174 = .ok (.aload_n 0, 1) := by decide +kernel
theorem dX11_judgeLower_175 : decode cX11_judgeLower 175 = .ok (.bipush 12, 2) := by decide +kernel
theorem dX11_judgeLower_177 : decode cX11_judgeLower 177 = .ok (.invokevirtual 177, 3) := by decide +kernel
theorem dX11_judgeLower_180 : decode cX11_judgeLower 180 = .ok (.ifCond .ne 20, 3) := by decide +kernel
theorem dX11_judgeLower_183 : decode cX11_judgeLower 183 = .ok (.aload_n 0, 1) := by decide +kernel
theorem dX11_judgeLower_184 : decode cX11_judgeLower 184 = .ok (.bipush 7, 2) := by decide +kernel
theorem dX11_judgeLower_186 : decode cX11_judgeLower 186 = .ok (.invokevirtual 183, 3) := by decide +kernel
theorem dX11_judgeLower_189 : decode cX11_judgeLower 189 = .ok (.ifCond .ne 7, 3) := by decide +kernel
theorem dX11_judgeLower_192 : decode cX11_judgeLower 192 = .ok (.iload_n 3, 1) := by decide +kernel
theorem dX11_judgeLower_193 : decode cX11_judgeLower 193 = .ok (.ifCond .ne 7, 3) := by decide +kernel
theorem dX11_judgeLower_196 : decode cX11_judgeLower 196 = .ok (.iconst 1, 1) := by decide +kernel
theorem dX11_judgeLower_197 : decode cX11_judgeLower 197 = .ok (.goto 4, 3) := by decide +kernel
theorem dX11_judgeLower_200 : decode cX11_judgeLower 200 = .ok (.iconst 0, 1) := by decide +kernel
theorem dX11_judgeLower_201 : decode cX11_judgeLower 201 = .ok (.invokevirtual 186, 3) := by decide +kernel
theorem dX11_judgeLower_204 : decode cX11_judgeLower 204 = .ok (.aload_n 0, 1) := by decide +kernel
theorem dX11_judgeLower_205 : decode cX11_judgeLower 205 = .ok (.bipush 13, 2) := by decide +kernel
theorem dX11_judgeLower_207 : decode cX11_judgeLower 207 = .ok (.iload_n 1, 1) := by decide +kernel
theorem dX11_judgeLower_208 : decode cX11_judgeLower 208 = .ok (.ifCond .eq 61, 3) := by decide +kernel
theorem dX11_judgeLower_211 : decode cX11_judgeLower 211 = .ok (.iload_n 3, 1) := by decide +kernel
theorem dX11_judgeLower_212 : decode cX11_judgeLower 212 = .ok (.ifCond .eq 57, 3) := by decide +kernel
theorem dX11_judgeLower_215 : decode cX11_judgeLower 215 = .ok (.iload_n 2, 1) := by decide +kernel
theorem dX11_judgeLower_216 : decode cX11_judgeLower 216 = .ok (.ifCond .eq 53, 3) := by decide +kernel
theorem dX11_judgeLower_219 : decode cX11_judgeLower 219 = .ok (.aload_n 0, 1) := by decide +kernel
theorem dX11_judgeLower_220 : decode cX11_judgeLower 220 = .ok (.bipush 7, 2) := by decide +kernel
theorem dX11_judgeLower_222 : decode cX11_judgeLower 222 = .ok (.invokevirtual 183, 3) := by decide +kernel
theorem dX11_judgeLower_225 : decode cX11_judgeLower 225 = .ok (.ifCond .ne 44, 3) := by decide +kernel
theorem dX11_judgeLower_228 : decode cX11_judgeLower 228 = .ok (.aload_n 0, 1) := by decide +kernel
theorem dX11_judgeLower_229 : decode cX11_judgeLower 229 = .ok (.bipush 9, 2) := by decide +kernel
theorem dX11_judgeLower_231 : decode cX11_judgeLower 231 = .ok (.invokevirtual 183, 3) := by decide +kernel
theorem dX11_judgeLower_234 : decode cX11_judgeLower 234 = .ok (.ifCond .ne 31, 3) := by decide +kernel
theorem dX11_judgeLower_237 : decode cX11_judgeLower 237 = .ok (.aload_n 0, 1) := by decide +kernel
theorem dX11_judgeLower_238 : decode cX11_judgeLower 238 = .ok (.bipush 10, 2) := by decide +kernel
theorem dX11_judgeLower_240 : decode cX11_judgeLower 240 = .ok (.invokevirtual 183, 3) := by decide +kernel
theorem dX11_judgeLower_243 : decode cX11_judgeLower 243 = .ok (.ifCond .ne 22, 3) := by decide +kernel
theorem dX11_judgeLower_246 : decode cX11_judgeLower 246 = .ok (.aload_n 0, 1) := by decide +kernel
theorem dX11_judgeLower_247 : decode cX11_judgeLower 247 = .ok (.getfield 39, 3) := by decide +kernel
theorem dX11_judgeLower_250 : decode cX11_judgeLower 250 = .ok (.bipush 10, 2) := by decide +kernel
theorem dX11_judgeLower_252 : decode cX11_judgeLower 252 = .ok (.iaload, 1) := by decide +kernel
theorem dX11_judgeLower_253 : decode cX11_judgeLower 253 = .ok (.ifCond .eq 16, 3) := by decide +kernel
theorem dX11_judgeLower_256 : decode cX11_judgeLower 256 = .ok (.aload_n 0, 1) := by decide +kernel
theorem dX11_judgeLower_257 : decode cX11_judgeLower 257 = .ok (.bipush 11, 2) := by decide +kernel
theorem dX11_judgeLower_259 : decode cX11_judgeLower 259 = .ok (.invokevirtual 183, 3) := by decide +kernel
theorem dX11_judgeLower_262 : decode cX11_judgeLower 262 = .ok (.ifCond .eq 7, 3) := by decide +kernel
theorem dX11_judgeLower_265 : decode cX11_judgeLower 265 = .ok (.iconst 1, 1) := by decide +kernel
theorem dX11_judgeLower_266 : decode cX11_judgeLower 266 = .ok (.goto 4, 3) := by decide +kernel
theorem dX11_judgeLower_269 : decode cX11_judgeLower 269 = .ok (.iconst 0, 1) := by decide +kernel
theorem dX11_judgeLower_270 : decode cX11_judgeLower 270 = .ok (.invokevirtual 186, 3) := by decide +kernel
theorem dX11_judgeLower_273 : decode cX11_judgeLower 273 = .ok (.aload_n 0, 1) := by decide +kernel
theorem dX11_judgeLower_274 : decode cX11_judgeLower 274 = .ok (.bipush 14, 2) := by decide +kernel
theorem dX11_judgeLower_276 : decode cX11_judgeLower 276 = .ok (.iload_n 1, 1) := by decide +kernel
theorem dX11_judgeLower_277 : decode cX11_judgeLower 277 = .ok (.ifCond .eq 29, 3) := by decide +kernel
theorem dX11_judgeLower_280 : decode cX11_judgeLower 280 = .ok (.aload_n 0, 1) := by decide +kernel
theorem dX11_judgeLower_281 : decode cX11_judgeLower 281 = .ok (.bipush 8, 2) := by decide +kernel
theorem dX11_judgeLower_283 : decode cX11_judgeLower 283 = .ok (.invokevirtual 177, 3) := by decide +kernel
theorem dX11_judgeLower_286 : decode cX11_judgeLower 286 = .ok (.ifCond .eq 20, 3) := by decide +kernel
theorem dX11_judgeLower_289 : decode cX11_judgeLower 289 = .ok (.aload_n 0, 1) := by decide +kernel
theorem dX11_judgeLower_290 : decode cX11_judgeLower 290 = .ok (.bipush 12, 2) := by decide +kernel
theorem dX11_judgeLower_292 : decode cX11_judgeLower 292 = .ok (.invokevirtual 177, 3) := by decide +kernel
theorem dX11_judgeLower_295 : decode cX11_judgeLower 295 = .ok (.ifCond .eq 11, 3) := by decide +kernel
theorem dX11_judgeLower_298 : decode cX11_judgeLower 298 = .ok (.iload_n 3, 1) := by decide +kernel
theorem dX11_judgeLower_299 : decode cX11_judgeLower 299 = .ok (.ifCond .eq 7, 3) := by decide +kernel
theorem dX11_judgeLower_302 : decode cX11_judgeLower 302 = .ok (.iconst 1, 1) := by decide +kernel
theorem dX11_judgeLower_303 : decode cX11_judgeLower 303 = .ok (.goto 4, 3) := by decide +kernel
theorem dX11_judgeLower_306 : decode cX11_judgeLower 306 = .ok (.iconst 0, 1) := by decide +kernel
theorem dX11_judgeLower_307 : decode cX11_judgeLower 307 = .ok (.invokevirtual 186, 3) := by decide +kernel
theorem dX11_judgeLower_310 : decode cX11_judgeLower 310 = .ok (.iconst 0, 1) := by decide +kernel
theorem dX11_judgeLower_311 : decode cX11_judgeLower 311 = .ok (.istore 4, 2) := by decide +kernel
theorem dX11_judgeLower_313 : decode cX11_judgeLower 313 = .ok (.iconst 0, 1) := by decide +kernel
theorem dX11_judgeLower_314 : decode cX11_judgeLower 314 = .ok (.istore 5, 2) := by decide +kernel
theorem dX11_judgeLower_316 : decode cX11_judgeLower 316 = .ok (.iload 5, 2) := by decide +kernel
theorem dX11_judgeLower_318 : decode cX11_judgeLower 318 = .ok (.aload_n 0, 1) := by decide +kernel
theorem dX11_judgeLower_319 : decode cX11_judgeLower 319 = .ok (.getfield 88, 3) := by decide +kernel
theorem dX11_judgeLower_322 : decode cX11_judgeLower 322 = .ok (.if_icmp .ge 47, 3) := by decide +kernel
theorem dX11_judgeLower_325 : decode cX11_judgeLower 325 = .ok (.iload 4, 2) := by decide +kernel
theorem dX11_judgeLower_327 : decode cX11_judgeLower 327 = .ok (.ifCond .ne 29, 3) := by decide +kernel
theorem dX11_judgeLower_330 : decode cX11_judgeLower 330 = .ok (.iload_n 2, 1) := by decide +kernel
theorem dX11_judgeLower_331 : decode cX11_judgeLower 331 = .ok (.iload 5, 2) := by decide +kernel
theorem dX11_judgeLower_333 : decode cX11_judgeLower 333 = .ok (.ishr, 1) := by decide +kernel
theorem dX11_judgeLower_334 : decode cX11_judgeLower 334 = .ok (.iconst 1, 1) := by decide +kernel
theorem dX11_judgeLower_335 : decode cX11_judgeLower 335 = .ok (.iand, 1) := by decide +kernel
theorem dX11_judgeLower_336 : decode cX11_judgeLower 336 = .ok (.iconst 1, 1) := by decide +kernel
theorem dX11_judgeLower_337 : decode cX11_judgeLower 337 = .ok (.if_icmp .ne 23, 3) := by decide +kernel
theorem dX11_judgeLower_340 : decode cX11_judgeLower 340 = .ok (.aload_n 0, 1) := by decide +kernel
theorem dX11_judgeLower_341 : decode cX11_judgeLower 341 = .ok (.iload 5, 2) := by decide +kernel
theorem dX11_judgeLower_343 : decode cX11_judgeLower 343 = .ok (.aload_n 0, 1) := by decide +kernel
theorem dX11_judgeLower_344 : decode cX11_judgeLower 344 = .ok (.getfield 39, 3) := by decide +kernel
theorem dX11_judgeLower_347 : decode cX11_judgeLower 347 = .ok (.bipush 9, 2) := by decide +kernel
theorem dX11_judgeLower_349 : decode cX11_judgeLower 349 = .ok (.iaload, 1) := by decide +kernel
theorem dX11_judgeLower_350 : decode cX11_judgeLower 350 = .ok (.invokevirtual 97, 3) := by decide +kernel
theorem dX11_judgeLower_353 : decode cX11_judgeLower 353 = .ok (.ifCond .eq 7, 3) := by decide +kernel
theorem dX11_judgeLower_356 : decode cX11_judgeLower 356 = .ok (.iconst 1, 1) := by decide +kernel
theorem dX11_judgeLower_357 : decode cX11_judgeLower 357 = .ok (.goto 4, 3) := by decide +kernel
theorem dX11_judgeLower_360 : decode cX11_judgeLower 360 = .ok (.iconst 0, 1) := by decide +kernel
theorem dX11_judgeLower_361 : decode cX11_judgeLower 361 = .ok (.istore 4, 2) := by decide +kernel
theorem dX11_judgeLower_363 : decode cX11_judgeLower 363 = .ok (.iinc 5 1, 3) := by decide +kernel
theorem dX11_judgeLower_366 : decode cX11_judgeLower 366 = .ok (.goto (-50), 3) := by decide +kernel
theorem dX11_judgeLower_369 : decode cX11_judgeLower 369 = .ok (.aload_n 0, 1) := by decide +kernel
theorem dX11_judgeLower_370 : decode cX11_judgeLower 370 = .ok (.bipush 15, 2) := by decide +kernel
theorem dX11_judgeLower_372 : decode cX11_judgeLower 372 = .ok (.iload_n 3, 1) := by decide +kernel
theorem dX11_judgeLower_373 : decode cX11_judgeLower 373 = .ok (.ifCond .eq 12, 3) := by decide +kernel
theorem dX11_judgeLower_376 : decode cX11_judgeLower 376 = .ok (.iload 4, 2) := by decide +kernel
theorem dX11_judgeLower_378 : decode cX11_judgeLower 378 = .ok (.ifCond .ne 7, 3) := by decide +kernel
theorem dX11_judgeLower_381 : decode cX11_judgeLower 381 = .ok (.iconst 1, 1) := by decide +kernel
theorem dX11_judgeLower_382 : decode cX11_judgeLower 382 = .ok (.goto 4, 3) := by decide +kernel
theorem dX11_judgeLower_385 : decode cX11_judgeLower 385 = .ok (.iconst 0, 1) := by decide +kernel
theorem dX11_judgeLower_386 : decode cX11_judgeLower 386 = .ok (.invokevirtual 186, 3) := by decide +kernel
theorem dX11_judgeLower_389 : decode cX11_judgeLower 389 = .ok (.return_, 1) := by decide +kernel
set_option maxRecDepth 20000 in
theorem ggX11_clock_X11_in : GoodIn wsX11_clock wsX11_in := goodIn_r _ [6] (by decide +kernel) (by decide +kernel)
set_option maxRecDepth 20000 in
theorem gX11_clock_X11_in : GoodIn wsX11_clock (va_wsS RX11 74 yX11_in wsX11_in) := goodIn_app (goodIn_of _ (by decide +kernel)) ggX11_clock_X11_in
set_option maxRecDepth 20000 in
theorem ggX11_clock_X11_refused : GoodIn wsX11_clock wsX11_refused := goodIn_r _ [10, 11, 128, 129, 130, 131, 132, 133, 134, 135, 136, 137, 138, 139, 140, 141, 142, 143, 144, 145, 146, 147, 148, 149, 150, 151] (by decide +kernel) (by decide +kernel)
set_option maxRecDepth 20000 in
theorem gX11_clock_X11_refused : GoodIn wsX11_clock (wsV RX11 84 RX11 yX11_refused wsX11_refused) := goodIn_app (goodIn_of _ (by decide +kernel)) ggX11_clock_X11_refused
set_option maxRecDepth 20000 in
theorem ggX11_clock_X11_goOn_c : GoodIn wsX11_clock [.code yX11_goOn cX11_goOn 2 none] := goodIn_r _ [15] (by decide +kernel) (by decide +kernel)
set_option maxRecDepth 20000 in
theorem ggX11_clock_X11_goOn_1 : GoodIn wsX11_clock wsX11_goOn_r1 := goodIn_r _ [16, 17, 2, 18, 19, 20, 5, 21, 3, 4, 6, 22, 23, 24, 25, 26, 27, 28, 29, 30, 31, 32, 33, 34] (by decide +kernel) (by decide +kernel)
set_option maxRecDepth 20000 in
theorem ggX11_clock_X11_goOn_2 : GoodIn wsX11_clock wsX11_goOn_r2 := goodIn_r _ [35, 36, 37, 38, 39, 40, 41, 42, 43, 44, 45, 46, 47, 48, 49, 50, 51, 52, 53, 54, 55, 56, 57, 58] (by decide +kernel) (by decide +kernel)
set_option maxRecDepth 20000 in
theorem ggX11_clock_X11_goOn_3 : GoodIn wsX11_clock wsX11_goOn_r3 := goodIn_r _ [59, 60, 61, 62, 63, 64, 65, 66, 67, 68, 69, 70, 71, 72, 73, 74, 75, 76, 77, 78, 79, 80, 81, 82] (by decide +kernel) (by decide +kernel)
set_option maxRecDepth 20000 in
theorem ggX11_clock_X11_goOn_4 : GoodIn wsX11_clock wsX11_goOn_r4 := goodIn_r _ [83, 84, 85, 86, 87, 88, 89, 90, 91, 92, 93, 94, 95, 96, 97, 98, 99, 100, 101, 102, 103, 104, 105, 106] (by decide +kernel) (by decide +kernel)
set_option maxRecDepth 20000 in
theorem ggX11_clock_X11_goOn_5 : GoodIn wsX11_clock wsX11_goOn_r5 := goodIn_r _ [107, 108, 109, 110, 111, 112, 113, 114, 115, 116, 117, 118, 119, 120, 121, 122, 123] (by decide +kernel) (by decide +kernel)
set_option maxRecDepth 20000 in
theorem ggX11_clock_X11_goOn_6 : GoodIn wsX11_clock wsX110 := goodIn_r _ [128, 129, 130, 131, 132, 133, 134, 135, 136, 137, 138, 139, 140, 141, 142, 143, 144, 145, 146, 147, 148, 149, 150, 151] (by decide +kernel) (by decide +kernel)
theorem ggX11_clock_X11_goOn : GoodIn wsX11_clock wsX11_goOn := (goodIn_app (a := [.code yX11_goOn cX11_goOn 2 none]) ggX11_clock_X11_goOn_c (goodIn_app (goodIn_app ggX11_clock_X11_goOn_1 (goodIn_app ggX11_clock_X11_goOn_2 (goodIn_app ggX11_clock_X11_goOn_3 (goodIn_app ggX11_clock_X11_goOn_4 ggX11_clock_X11_goOn_5)))) ggX11_clock_X11_goOn_6))
set_option maxRecDepth 20000 in
theorem gX11_clock_X11_goOn : GoodIn wsX11_clock (wsV RX11 196 RX11 yX11_goOn wsX11_goOn) := goodIn_app (goodIn_of _ (by decide +kernel)) ggX11_clock_X11_goOn
set_option maxRecDepth 20000 in
theorem ggX11_clock_X11_done : GoodIn wsX11_clock wsX11_done := goodIn_r _ [127, 11, 128, 129, 130, 131, 132, 133, 134, 135, 136, 137, 138, 139, 140, 141, 142, 143, 144, 145, 146, 147, 148, 149, 150, 151] (by decide +kernel) (by decide +kernel)
set_option maxRecDepth 20000 in
theorem gX11_clock_X11_done : GoodIn wsX11_clock (wsV RX11 94 RX11 yX11_done wsX11_done) := goodIn_app (goodIn_of _ (by decide +kernel)) ggX11_clock_X11_done
theorem dX11_clock_0 : decode cX11_clock 0 = .ok (.iload_n 1, 1) := by decide +kernel
theorem dX11_clock_1 : decode cX11_clock 1 = .ok (.i2l, 1) := by decide +kernel
theorem dX11_clock_2 : decode cX11_clock 2 = .ok (.lconst 0, 1) := by decide +kernel
theorem dX11_clock_3 : decode cX11_clock 3 = .ok (.ldc2_w 194, 3) := by decide +kernel
theorem dX11_clock_6 : decode cX11_clock 6 = .ok (.invokestatic 74, 3) := by decide +kernel
theorem dX11_clock_9 : decode cX11_clock 9 = .ok (.ifCond .ne 10, 3) := by decide +kernel
theorem dX11_clock_12 : decode cX11_clock 12 = .ok (.aload_n 0, 1) := by decide +kernel
theorem dX11_clock_13 : decode cX11_clock 13 = .ok (.bipush (-2), 2) := by decide +kernel
theorem dX11_clock_15 : decode cX11_clock 15 = .ok (.invokevirtual 84, 3) := by decide +kernel
theorem dX11_clock_18 : decode cX11_clock 18 = .ok (.ireturn, 1) := by decide +kernel
theorem dX11_clock_19 : decode cX11_clock 19 = .ok (.iconst 0, 1) := by decide +kernel
theorem dX11_clock_20 : decode cX11_clock 20 = .ok (.istore_n 2, 1) := by decide +kernel
theorem dX11_clock_21 : decode cX11_clock 21 = .ok (.iload_n 2, 1) := by decide +kernel
theorem dX11_clock_22 : decode cX11_clock 22 = .ok (.iload_n 1, 1) := by decide +kernel
theorem dX11_clock_23 : decode cX11_clock 23 = .ok (.if_icmp .ge 13, 3) := by decide +kernel
theorem dX11_clock_26 : decode cX11_clock 26 = .ok (.aload_n 0, 1) := by decide +kernel
theorem dX11_clock_27 : decode cX11_clock 27 = .ok (.invokevirtual 196, 3) := by decide +kernel
theorem dX11_clock_30 : decode cX11_clock 30 = .ok (.iinc 2 1, 3) := by decide +kernel
theorem dX11_clock_33 : decode cX11_clock 33 = .ok (.goto (-12), 3) := by decide +kernel
theorem dX11_clock_36 : decode cX11_clock 36 = .ok (.aload_n 0, 1) := by decide +kernel
theorem dX11_clock_37 : decode cX11_clock 37 = .ok (.aload_n 0, 1) := by decide +kernel
theorem dX11_clock_38 : decode cX11_clock 38 = .ok (.getfield 7, 3) := by decide +kernel
theorem dX11_clock_41 : decode cX11_clock 41 = .ok (.sipush 179, 3) := by decide +kernel
theorem dX11_clock_44 : decode cX11_clock 44 = .ok (.iaload, 1) := by decide +kernel
theorem dX11_clock_45 : decode cX11_clock 45 = .ok (.invokevirtual 94, 3) := by decide +kernel
theorem dX11_clock_48 : decode cX11_clock 48 = .ok (.ireturn, 1) := by decide +kernel
set_option maxRecDepth 20000 in
theorem ggX11_isFinished_X11_ofTransfer : GoodIn wsX11_isFinished wsX11_ofTransfer := goodIn_r _ [6] (by decide +kernel) (by decide +kernel)
set_option maxRecDepth 20000 in
theorem gX11_isFinished_X11_ofTransfer : GoodIn wsX11_isFinished (wsV RX11 143 RX11 yX11_ofTransfer wsX11_ofTransfer) := goodIn_app (goodIn_of _ (by decide +kernel)) ggX11_isFinished_X11_ofTransfer
theorem dX11_isFinished_0 : decode cX11_isFinished 0 = .ok (.aload_n 0, 1) := by decide +kernel
theorem dX11_isFinished_1 : decode cX11_isFinished 1 = .ok (.getfield 7, 3) := by decide +kernel
theorem dX11_isFinished_4 : decode cX11_isFinished 4 = .ok (.sipush 192, 3) := by decide +kernel
theorem dX11_isFinished_7 : decode cX11_isFinished 7 = .ok (.iaload, 1) := by decide +kernel
theorem dX11_isFinished_8 : decode cX11_isFinished 8 = .ok (.ifCond .ne 29, 3) := by decide +kernel
theorem dX11_isFinished_11 : decode cX11_isFinished 11 = .ok (.aload_n 0, 1) := by decide +kernel
theorem dX11_isFinished_12 : decode cX11_isFinished 12 = .ok (.getfield 7, 3) := by decide +kernel
theorem dX11_isFinished_15 : decode cX11_isFinished 15 = .ok (.sipush 201, 3) := by decide +kernel
theorem dX11_isFinished_18 : decode cX11_isFinished 18 = .ok (.iaload, 1) := by decide +kernel
theorem dX11_isFinished_19 : decode cX11_isFinished 19 = .ok (.ifCond .ne 18, 3) := by decide +kernel
theorem dX11_isFinished_22 : decode cX11_isFinished 22 = .ok (.aload_n 0, 1) := by decide +kernel
theorem dX11_isFinished_23 : decode cX11_isFinished 23 = .ok (.getfield 7, 3) := by decide +kernel
theorem dX11_isFinished_26 : decode cX11_isFinished 26 = .ok (.sipush 184, 3) := by decide +kernel
theorem dX11_isFinished_29 : decode cX11_isFinished 29 = .ok (.iaload, 1) := by decide +kernel
theorem dX11_isFinished_30 : decode cX11_isFinished 30 = .ok (.ifCond .ne 7, 3) := by decide +kernel
theorem dX11_isFinished_33 : decode cX11_isFinished 33 = .ok (.iconst 1, 1) := by decide +kernel
theorem dX11_isFinished_34 : decode cX11_isFinished 34 = .ok (.goto 4, 3) := by decide +kernel
theorem dX11_isFinished_37 : decode cX11_isFinished 37 = .ok (.iconst 0, 1) := by decide +kernel
theorem dX11_isFinished_38 : decode cX11_isFinished 38 = .ok (.istore_n 1, 1) := by decide +kernel
theorem dX11_isFinished_39 : decode cX11_isFinished 39 = .ok (.iconst 0, 1) := by decide +kernel
theorem dX11_isFinished_40 : decode cX11_isFinished 40 = .ok (.istore_n 2, 1) := by decide +kernel
theorem dX11_isFinished_41 : decode cX11_isFinished 41 = .ok (.iload_n 2, 1) := by decide +kernel
theorem dX11_isFinished_42 : decode cX11_isFinished 42 = .ok (.aload_n 0, 1) := by decide +kernel
theorem dX11_isFinished_43 : decode cX11_isFinished 43 = .ok (.getfield 7, 3) := by decide +kernel
theorem dX11_isFinished_46 : decode cX11_isFinished 46 = .ok (.sipush 212, 3) := by decide +kernel
theorem dX11_isFinished_49 : decode cX11_isFinished 49 = .ok (.iaload, 1) := by decide +kernel
theorem dX11_isFinished_50 : decode cX11_isFinished 50 = .ok (.if_icmp .ge 34, 3) := by decide +kernel
theorem dX11_isFinished_53 : decode cX11_isFinished 53 = .ok (.iload_n 1, 1) := by decide +kernel
theorem dX11_isFinished_54 : decode cX11_isFinished 54 = .ok (.ifCond .eq 30, 3) := by decide +kernel
theorem dX11_isFinished_57 : decode cX11_isFinished 57 = .ok (.aload_n 0, 1) := by decide +kernel
theorem dX11_isFinished_58 : decode cX11_isFinished 58 = .ok (.getfield 7, 3) := by decide +kernel
theorem dX11_isFinished_61 : decode cX11_isFinished 61 = .ok (.aload_n 0, 1) := by decide +kernel
theorem dX11_isFinished_62 : decode cX11_isFinished 62 = .ok (.iload_n 2, 1) := by decide +kernel
theorem dX11_isFinished_63 : decode cX11_isFinished 63 = .ok (.iconst 5, 1) := by decide +kernel
theorem dX11_isFinished_64 : decode cX11_isFinished 64 = .ok (.invokevirtual 143, 3) := by decide +kernel
theorem dX11_isFinished_67 : decode cX11_isFinished 67 = .ok (.iaload, 1) := by decide +kernel
theorem dX11_isFinished_68 : decode cX11_isFinished 68 = .ok (.iconst 2, 1) := by decide +kernel
theorem dX11_isFinished_69 : decode cX11_isFinished 69 = .ok (.if_icmp .le 7, 3) := by decide +kernel
theorem dX11_isFinished_72 : decode cX11_isFinished 72 = .ok (.iconst 1, 1) := by decide +kernel
theorem dX11_isFinished_73 : decode cX11_isFinished 73 = .ok (.goto 4, 3) := by decide +kernel
theorem dX11_isFinished_76 : decode cX11_isFinished 76 = .ok (.iconst 0, 1) := by decide +kernel
theorem dX11_isFinished_77 : decode cX11_isFinished 77 = .ok (.istore_n 1, 1) := by decide +kernel
theorem dX11_isFinished_78 : decode cX11_isFinished 78 = .ok (.iinc 2 1, 3) := by decide +kernel
theorem dX11_isFinished_81 : decode cX11_isFinished 81 = .ok (.goto (-40), 3) := by decide +kernel
theorem dX11_isFinished_84 : decode cX11_isFinished 84 = .ok (.iload_n 1, 1) := by decide +kernel
theorem dX11_isFinished_85 : decode cX11_isFinished 85 = .ok (.ireturn, 1) := by decide +kernel
set_option maxRecDepth 20000 in
theorem ggX11_finish_X11_in : GoodIn wsX11_finish wsX11_in := goodIn_r _ [5] (by decide +kernel) (by decide +kernel)
set_option maxRecDepth 20000 in
theorem gX11_finish_X11_in : GoodIn wsX11_finish (va_wsS RX11 74 yX11_in wsX11_in) := goodIn_app (goodIn_of _ (by decide +kernel)) ggX11_finish_X11_in
set_option maxRecDepth 20000 in
theorem ggX11_finish_X11_refused : GoodIn wsX11_finish wsX11_refused := goodIn_r _ [9, 10, 132, 133, 134, 135, 136, 137, 138, 139, 140, 141, 142, 143, 144, 145, 146, 147, 148, 149, 150, 151, 152, 153, 154, 155] (by decide +kernel) (by decide +kernel)
set_option maxRecDepth 20000 in
theorem gX11_finish_X11_refused : GoodIn wsX11_finish (wsV RX11 84 RX11 yX11_refused wsX11_refused) := goodIn_app (goodIn_of _ (by decide +kernel)) ggX11_finish_X11_refused
set_option maxRecDepth 20000 in
theorem ggX11_finish_X11_isFinished : GoodIn wsX11_finish wsX11_isFinished := goodIn_r _ [14, 15, 16, 17, 18, 4, 19, 132, 133, 134, 135, 136, 137, 138, 139, 140, 141, 142, 143, 144, 145, 146, 147, 148, 149, 150, 151, 152, 153, 154, 155] (by decide +kernel) (by decide +kernel)
set_option maxRecDepth 20000 in
theorem gX11_finish_X11_isFinished : GoodIn wsX11_finish (wsV RX11 201 RX11 yX11_isFinished wsX11_isFinished) := goodIn_app (goodIn_of _ (by decide +kernel)) ggX11_finish_X11_isFinished
set_option maxRecDepth 20000 in
theorem ggX11_finish_X11_goOn_c : GoodIn wsX11_finish [.code yX11_goOn cX11_goOn 2 none] := goodIn_r _ [23] (by decide +kernel) (by decide +kernel)
set_option maxRecDepth 20000 in
theorem ggX11_finish_X11_goOn_1 : GoodIn wsX11_finish wsX11_goOn_r1 := goodIn_r _ [24, 25, 15, 26, 27, 28, 4, 29, 2, 3, 5, 30, 31, 32, 33, 34, 35, 36, 37, 38, 39, 40, 41, 42] (by decide +kernel) (by decide +kernel)
set_option maxRecDepth 20000 in
theorem ggX11_finish_X11_goOn_2 : GoodIn wsX11_finish wsX11_goOn_r2 := goodIn_r _ [43, 44, 45, 46, 47, 48, 49, 50, 51, 52, 53, 54, 55, 56, 57, 58, 59, 60, 61, 62, 63, 16, 17, 18] (by decide +kernel) (by decide +kernel)
set_option maxRecDepth 20000 in
theorem ggX11_finish_X11_goOn_3 : GoodIn wsX11_finish wsX11_goOn_r3 := goodIn_r _ [19, 64, 65, 66, 67, 68, 69, 70, 71, 72, 73, 74, 75, 76, 77, 78, 79, 80, 81, 82, 83, 84, 85, 86] (by decide +kernel) (by decide +kernel)
set_option maxRecDepth 20000 in
theorem ggX11_finish_X11_goOn_4 : GoodIn wsX11_finish wsX11_goOn_r4 := goodIn_r _ [87, 88, 89, 90, 91, 92, 93, 94, 95, 96, 97, 98, 99, 100, 101, 102, 103, 104, 105, 106, 107, 108, 109, 110] (by decide +kernel) (by decide +kernel)
set_option maxRecDepth 20000 in
theorem ggX11_finish_X11_goOn_5 : GoodIn wsX11_finish wsX11_goOn_r5 := goodIn_r _ [111, 112, 113, 114, 115, 116, 117, 118, 119, 120, 121, 122, 123, 124, 125, 126, 127] (by decide +kernel) (by decide +kernel)
set_option maxRecDepth 20000 in
theorem ggX11_finish_X11_goOn_6 : GoodIn wsX11_finish wsX110 := goodIn_r _ [132, 133, 134, 135, 136, 137, 138, 139, 140, 141, 142, 143, 144, 145, 146, 147, 148, 149, 150, 151, 152, 153, 154, 155] (by decide +kernel) (by decide +kernel)
theorem ggX11_finish_X11_goOn : GoodIn wsX11_finish wsX11_goOn := (goodIn_app (a := [.code yX11_goOn cX11_goOn 2 none]) ggX11_finish_X11_goOn_c (goodIn_app (goodIn_app ggX11_finish_X11_goOn_1 (goodIn_app ggX11_finish_X11_goOn_2 (goodIn_app ggX11_finish_X11_goOn_3 (goodIn_app ggX11_finish_X11_goOn_4 ggX11_finish_X11_goOn_5)))) ggX11_finish_X11_goOn_6))
set_option maxRecDepth 20000 in
theorem gX11_finish_X11_goOn : GoodIn wsX11_finish (wsV RX11 196 RX11 yX11_goOn wsX11_goOn) := goodIn_app (goodIn_of _ (by decide +kernel)) ggX11_finish_X11_goOn
set_option maxRecDepth 20000 in
theorem ggX11_finish_X11_done : GoodIn wsX11_finish wsX11_done := goodIn_r _ [131, 10, 132, 133, 134, 135, 136, 137, 138, 139, 140, 141, 142, 143, 144, 145, 146, 147, 148, 149, 150, 151, 152, 153, 154, 155] (by decide +kernel) (by decide +kernel)
set_option maxRecDepth 20000 in
theorem gX11_finish_X11_done : GoodIn wsX11_finish (wsV RX11 94 RX11 yX11_done wsX11_done) := goodIn_app (goodIn_of _ (by decide +kernel)) ggX11_finish_X11_done
theorem dX11_finish_0 : decode cX11_finish 0 = .ok (.iload_n 1, 1) := by decide +kernel
theorem dX11_finish_1 : decode cX11_finish 1 = .ok (.i2l, 1) := by decide +kernel
theorem dX11_finish_2 : decode cX11_finish 2 = .ok (.lconst 0, 1) := by decide +kernel
theorem dX11_finish_3 : decode cX11_finish 3 = .ok (.ldc2_w 199, 3) := by decide +kernel
theorem dX11_finish_6 : decode cX11_finish 6 = .ok (.invokestatic 74, 3) := by decide +kernel
theorem dX11_finish_9 : decode cX11_finish 9 = .ok (.ifCond .ne 10, 3) := by decide +kernel
theorem dX11_finish_12 : decode cX11_finish 12 = .ok (.aload_n 0, 1) := by decide +kernel
theorem dX11_finish_13 : decode cX11_finish 13 = .ok (.bipush (-2), 2) := by decide +kernel
theorem dX11_finish_15 : decode cX11_finish 15 = .ok (.invokevirtual 84, 3) := by decide +kernel
theorem dX11_finish_18 : decode cX11_finish 18 = .ok (.ireturn, 1) := by decide +kernel
theorem dX11_finish_19 : decode cX11_finish 19 = .ok (.iconst 0, 1) := by decide +kernel
theorem dX11_finish_20 : decode cX11_finish 20 = .ok (.istore_n 2, 1) := by decide +kernel
theorem dX11_finish_21 : decode cX11_finish 21 = .ok (.iload_n 2, 1) := by decide +kernel
theorem dX11_finish_22 : decode cX11_finish 22 = .ok (.iload_n 1, 1) := by decide +kernel
theorem dX11_finish_23 : decode cX11_finish 23 = .ok (.if_icmp .ge 20, 3) := by decide +kernel
theorem dX11_finish_26 : decode cX11_finish 26 = .ok (.aload_n 0, 1) := by decide +kernel
theorem dX11_finish_27 : decode cX11_finish 27 = .ok (.invokevirtual 201, 3) := by decide +kernel
theorem dX11_finish_30 : decode cX11_finish 30 = .ok (.ifCond .ne 13, 3) := by decide +kernel
theorem dX11_finish_33 : decode cX11_finish 33 = .ok (.aload_n 0, 1) := by decide +kernel
theorem dX11_finish_34 : decode cX11_finish 34 = .ok (.invokevirtual 196, 3) := by decide +kernel
theorem dX11_finish_37 : decode cX11_finish 37 = .ok (.iinc 2 1, 3) := by decide +kernel
theorem dX11_finish_40 : decode cX11_finish 40 = .ok (.goto (-19), 3) := by decide +kernel
theorem dX11_finish_43 : decode cX11_finish 43 = .ok (.aload_n 0, 1) := by decide +kernel
theorem dX11_finish_44 : decode cX11_finish 44 = .ok (.iload_n 2, 1) := by decide +kernel
theorem dX11_finish_45 : decode cX11_finish 45 = .ok (.invokevirtual 94, 3) := by decide +kernel
theorem dX11_finish_48 : decode cX11_finish 48 = .ok (.ireturn, 1) := by decide +kernel
set_option maxRecDepth 20000 in
theorem ggX11_turn_X11_in : GoodIn wsX11_turn wsX11_in := goodIn_r _ [7] (by decide +kernel) (by decide +kernel)
set_option maxRecDepth 20000 in
theorem gX11_turn_X11_in : GoodIn wsX11_turn (va_wsS RX11 74 yX11_in wsX11_in) := goodIn_app (goodIn_of _ (by decide +kernel)) ggX11_turn_X11_in
set_option maxRecDepth 20000 in
theorem ggX11_turn_X11_refused : GoodIn wsX11_turn wsX11_refused := goodIn_r _ [11, 12, 17, 18, 19, 20, 21, 22, 23, 24, 25, 26, 27, 28, 29, 30, 31, 32, 33, 34, 35, 36, 37, 38, 39, 40] (by decide +kernel) (by decide +kernel)
set_option maxRecDepth 20000 in
theorem gX11_turn_X11_refused : GoodIn wsX11_turn (wsV RX11 84 RX11 yX11_refused wsX11_refused) := goodIn_app (goodIn_of _ (by decide +kernel)) ggX11_turn_X11_refused
set_option maxRecDepth 20000 in
theorem ggX11_turn_X11_done : GoodIn wsX11_turn wsX11_done := goodIn_r _ [16, 12, 17, 18, 19, 20, 21, 22, 23, 24, 25, 26, 27, 28, 29, 30, 31, 32, 33, 34, 35, 36, 37, 38, 39, 40] (by decide +kernel) (by decide +kernel)
set_option maxRecDepth 20000 in
theorem gX11_turn_X11_done : GoodIn wsX11_turn (wsV RX11 94 RX11 yX11_done wsX11_done) := goodIn_app (goodIn_of _ (by decide +kernel)) ggX11_turn_X11_done
theorem dX11_turn_0 : decode cX11_turn 0 = .ok (.iload_n 1, 1) := by decide +kernel
theorem dX11_turn_1 : decode cX11_turn 1 = .ok (.i2l, 1) := by decide +kernel
theorem dX11_turn_2 : decode cX11_turn 2 = .ok (.lconst 0, 1) := by decide +kernel
theorem dX11_turn_3 : decode cX11_turn 3 = .ok (.ldc2_w 205, 3) := by decide +kernel
theorem dX11_turn_6 : decode cX11_turn 6 = .ok (.invokestatic 74, 3) := by decide +kernel
theorem dX11_turn_9 : decode cX11_turn 9 = .ok (.ifCond .ne 9, 3) := by decide +kernel
theorem dX11_turn_12 : decode cX11_turn 12 = .ok (.aload_n 0, 1) := by decide +kernel
theorem dX11_turn_13 : decode cX11_turn 13 = .ok (.iconst (-1), 1) := by decide +kernel
theorem dX11_turn_14 : decode cX11_turn 14 = .ok (.invokevirtual 84, 3) := by decide +kernel
theorem dX11_turn_17 : decode cX11_turn 17 = .ok (.ireturn, 1) := by decide +kernel
theorem dX11_turn_18 : decode cX11_turn 18 = .ok (.iload_n 3, 1) := by decide +kernel
theorem dX11_turn_19 : decode cX11_turn 19 = .ok (.i2l, 1) := by decide +kernel
theorem dX11_turn_20 : decode cX11_turn 20 = .ok (.lconst 1, 1) := by decide +kernel
theorem dX11_turn_21 : decode cX11_turn 21 = .ok (.ldc2_w 207, 3) := by decide +kernel
theorem dX11_turn_24 : decode cX11_turn 24 = .ok (.invokestatic 74, 3) := by decide +kernel
theorem dX11_turn_27 : decode cX11_turn 27 = .ok (.ifCond .ne 10, 3) := by decide +kernel
theorem dX11_turn_30 : decode cX11_turn 30 = .ok (.aload_n 0, 1) := by decide +kernel
theorem dX11_turn_31 : decode cX11_turn 31 = .ok (.bipush (-2), 2) := by decide +kernel
theorem dX11_turn_33 : decode cX11_turn 33 = .ok (.invokevirtual 84, 3) := by decide +kernel
theorem dX11_turn_36 : decode cX11_turn 36 = .ok (.ireturn, 1) := by decide +kernel
theorem dX11_turn_37 : decode cX11_turn 37 = .ok (.aload_n 0, 1) := by decide +kernel
theorem dX11_turn_38 : decode cX11_turn 38 = .ok (.getfield 7, 3) := by decide +kernel
theorem dX11_turn_41 : decode cX11_turn 41 = .ok (.bipush 30, 2) := by decide +kernel
theorem dX11_turn_43 : decode cX11_turn 43 = .ok (.iload_n 1, 1) := by decide +kernel
theorem dX11_turn_44 : decode cX11_turn 44 = .ok (.iadd, 1) := by decide +kernel
theorem dX11_turn_45 : decode cX11_turn 45 = .ok (.iload_n 2, 1) := by decide +kernel
theorem dX11_turn_46 : decode cX11_turn 46 = .ok (.iastore, 1) := by decide +kernel
theorem dX11_turn_47 : decode cX11_turn 47 = .ok (.aload_n 0, 1) := by decide +kernel
theorem dX11_turn_48 : decode cX11_turn 48 = .ok (.getfield 7, 3) := by decide +kernel
theorem dX11_turn_51 : decode cX11_turn 51 = .ok (.bipush 45, 2) := by decide +kernel
theorem dX11_turn_53 : decode cX11_turn 53 = .ok (.iload_n 1, 1) := by decide +kernel
theorem dX11_turn_54 : decode cX11_turn 54 = .ok (.iadd, 1) := by decide +kernel
theorem dX11_turn_55 : decode cX11_turn 55 = .ok (.aload_n 0, 1) := by decide +kernel
theorem dX11_turn_56 : decode cX11_turn 56 = .ok (.getfield 7, 3) := by decide +kernel
theorem dX11_turn_59 : decode cX11_turn 59 = .ok (.sipush 179, 3) := by decide +kernel
theorem dX11_turn_62 : decode cX11_turn 62 = .ok (.iaload, 1) := by decide +kernel
theorem dX11_turn_63 : decode cX11_turn 63 = .ok (.iconst 1, 1) := by decide +kernel
theorem dX11_turn_64 : decode cX11_turn 64 = .ok (.iadd, 1) := by decide +kernel
theorem dX11_turn_65 : decode cX11_turn 65 = .ok (.iastore, 1) := by decide +kernel
theorem dX11_turn_66 : decode cX11_turn 66 = .ok (.aload_n 0, 1) := by decide +kernel
theorem dX11_turn_67 : decode cX11_turn 67 = .ok (.getfield 7, 3) := by decide +kernel
theorem dX11_turn_70 : decode cX11_turn 70 = .ok (.bipush 60, 2) := by decide +kernel
theorem dX11_turn_72 : decode cX11_turn 72 = .ok (.iload_n 1, 1) := by decide +kernel
theorem dX11_turn_73 : decode cX11_turn 73 = .ok (.iadd, 1) := by decide +kernel
theorem dX11_turn_74 : decode cX11_turn 74 = .ok (.aload_n 0, 1) := by decide +kernel
theorem dX11_turn_75 : decode cX11_turn 75 = .ok (.getfield 7, 3) := by decide +kernel
theorem dX11_turn_78 : decode cX11_turn 78 = .ok (.sipush 179, 3) := by decide +kernel
theorem dX11_turn_81 : decode cX11_turn 81 = .ok (.iaload, 1) := by decide +kernel
theorem dX11_turn_82 : decode cX11_turn 82 = .ok (.iload_n 3, 1) := by decide +kernel
theorem dX11_turn_83 : decode cX11_turn 83 = .ok (.iadd, 1) := by decide +kernel
theorem dX11_turn_84 : decode cX11_turn 84 = .ok (.iastore, 1) := by decide +kernel
theorem dX11_turn_85 : decode cX11_turn 85 = .ok (.aload_n 0, 1) := by decide +kernel
theorem dX11_turn_86 : decode cX11_turn 86 = .ok (.iconst 1, 1) := by decide +kernel
theorem dX11_turn_87 : decode cX11_turn 87 = .ok (.invokevirtual 94, 3) := by decide +kernel
theorem dX11_turn_90 : decode cX11_turn 90 = .ok (.ireturn, 1) := by decide +kernel
set_option maxRecDepth 20000 in
theorem ggX11_wire_X11_in : GoodIn wsX11_wire wsX11_in := goodIn_r _ [5] (by decide +kernel) (by decide +kernel)
set_option maxRecDepth 20000 in
theorem gX11_wire_X11_in : GoodIn wsX11_wire (va_wsS RX11 74 yX11_in wsX11_in) := goodIn_app (goodIn_of _ (by decide +kernel)) ggX11_wire_X11_in
set_option maxRecDepth 20000 in
theorem ggX11_wire_X11_seen : GoodIn wsX11_wire wsX11_seen := goodIn_r _ [9, 10, 2, 3, 4, 5, 20, 21, 22, 23, 24, 25, 26, 27, 28, 29, 30, 31, 32, 33, 34, 35, 36, 37, 38, 39, 40, 41, 42, 43] (by decide +kernel) (by decide +kernel)
set_option maxRecDepth 20000 in
theorem gX11_wire_X11_seen : GoodIn wsX11_wire (wsV RX11 122 RX11 yX11_seen wsX11_seen) := goodIn_app (goodIn_of _ (by decide +kernel)) ggX11_wire_X11_seen
set_option maxRecDepth 20000 in
theorem ggX11_wire_X11_done : GoodIn wsX11_wire wsX11_done := goodIn_r _ [14, 15, 20, 21, 22, 23, 24, 25, 26, 27, 28, 29, 30, 31, 32, 33, 34, 35, 36, 37, 38, 39, 40, 41, 42, 43] (by decide +kernel) (by decide +kernel)
set_option maxRecDepth 20000 in
theorem gX11_wire_X11_done : GoodIn wsX11_wire (wsV RX11 94 RX11 yX11_done wsX11_done) := goodIn_app (goodIn_of _ (by decide +kernel)) ggX11_wire_X11_done
set_option maxRecDepth 20000 in
theorem ggX11_wire_X11_none : GoodIn wsX11_wire wsX11_none := goodIn_r _ [19, 15, 20, 21, 22, 23, 24, 25, 26, 27, 28, 29, 30, 31, 32, 33, 34, 35, 36, 37, 38, 39, 40, 41, 42, 43] (by decide +kernel) (by decide +kernel)
set_option maxRecDepth 20000 in
theorem gX11_wire_X11_none : GoodIn wsX11_wire (wsV RX11 209 RX11 yX11_none wsX11_none) := goodIn_app (goodIn_of _ (by decide +kernel)) ggX11_wire_X11_none
theorem dX11_wire_0 : decode cX11_wire 0 = .ok (.iload_n 1, 1) := by decide +kernel
theorem dX11_wire_1 : decode cX11_wire 1 = .ok (.i2l, 1) := by decide +kernel
theorem dX11_wire_2 : decode cX11_wire 2 = .ok (.lconst 0, 1) := by decide +kernel
theorem dX11_wire_3 : decode cX11_wire 3 = .ok (.ldc2_w 205, 3) := by decide +kernel
theorem dX11_wire_6 : decode cX11_wire 6 = .ok (.invokestatic 74, 3) := by decide +kernel
theorem dX11_wire_9 : decode cX11_wire 9 = .ok (.ifCond .eq 15, 3) := by decide +kernel
theorem dX11_wire_12 : decode cX11_wire 12 = .ok (.aload_n 0, 1) := by decide +kernel
theorem dX11_wire_13 : decode cX11_wire 13 = .ok (.aload_n 0, 1) := by decide +kernel
theorem dX11_wire_14 : decode cX11_wire 14 = .ok (.iload_n 1, 1) := by decide +kernel
theorem dX11_wire_15 : decode cX11_wire 15 = .ok (.invokevirtual 122, 3) := by decide +kernel
theorem dX11_wire_18 : decode cX11_wire 18 = .ok (.invokevirtual 94, 3) := by decide +kernel
theorem dX11_wire_21 : decode cX11_wire 21 = .ok (.goto 8, 3) := by decide +kernel
theorem dX11_wire_24 : decode cX11_wire 24 = .ok (.aload_n 0, 1) := by decide +kernel
theorem dX11_wire_25 : decode cX11_wire 25 = .ok (.iconst (-1), 1) := by decide +kernel
theorem dX11_wire_26 : decode cX11_wire 26 = .ok (.invokevirtual 209, 3) := by decide +kernel
theorem dX11_wire_29 : decode cX11_wire 29 = .ok (.ireturn, 1) := by decide +kernel
set_option maxRecDepth 20000 in
theorem ggX11_under_X11_in : GoodIn wsX11_under wsX11_in := goodIn_r _ [6] (by decide +kernel) (by decide +kernel)
set_option maxRecDepth 20000 in
theorem gX11_under_X11_in : GoodIn wsX11_under (va_wsS RX11 74 yX11_in wsX11_in) := goodIn_app (goodIn_of _ (by decide +kernel)) ggX11_under_X11_in
set_option maxRecDepth 20000 in
theorem ggX11_under_X11_done : GoodIn wsX11_under wsX11_done := goodIn_r _ [10, 11, 16, 17, 18, 19, 20, 21, 22, 23, 24, 25, 26, 27, 28, 29, 30, 31, 32, 33, 34, 35, 36, 37, 38, 39] (by decide +kernel) (by decide +kernel)
set_option maxRecDepth 20000 in
theorem gX11_under_X11_done : GoodIn wsX11_under (wsV RX11 94 RX11 yX11_done wsX11_done) := goodIn_app (goodIn_of _ (by decide +kernel)) ggX11_under_X11_done
set_option maxRecDepth 20000 in
theorem ggX11_under_X11_none : GoodIn wsX11_under wsX11_none := goodIn_r _ [15, 11, 16, 17, 18, 19, 20, 21, 22, 23, 24, 25, 26, 27, 28, 29, 30, 31, 32, 33, 34, 35, 36, 37, 38, 39] (by decide +kernel) (by decide +kernel)
set_option maxRecDepth 20000 in
theorem gX11_under_X11_none : GoodIn wsX11_under (wsV RX11 209 RX11 yX11_none wsX11_none) := goodIn_app (goodIn_of _ (by decide +kernel)) ggX11_under_X11_none
theorem dX11_under_0 : decode cX11_under 0 = .ok (.iload_n 1, 1) := by decide +kernel
theorem dX11_under_1 : decode cX11_under 1 = .ok (.i2l, 1) := by decide +kernel
theorem dX11_under_2 : decode cX11_under 2 = .ok (.lconst 0, 1) := by decide +kernel
theorem dX11_under_3 : decode cX11_under 3 = .ok (.ldc2_w 205, 3) := by decide +kernel
theorem dX11_under_6 : decode cX11_under 6 = .ok (.invokestatic 74, 3) := by decide +kernel
theorem dX11_under_9 : decode cX11_under 9 = .ok (.ifCond .eq 16, 3) := by decide +kernel
theorem dX11_under_12 : decode cX11_under 12 = .ok (.aload_n 0, 1) := by decide +kernel
theorem dX11_under_13 : decode cX11_under 13 = .ok (.aload_n 0, 1) := by decide +kernel
theorem dX11_under_14 : decode cX11_under 14 = .ok (.getfield 7, 3) := by decide +kernel
theorem dX11_under_17 : decode cX11_under 17 = .ok (.iload_n 1, 1) := by decide +kernel
theorem dX11_under_18 : decode cX11_under 18 = .ok (.iaload, 1) := by decide +kernel
theorem dX11_under_19 : decode cX11_under 19 = .ok (.invokevirtual 94, 3) := by decide +kernel
theorem dX11_under_22 : decode cX11_under 22 = .ok (.goto 8, 3) := by decide +kernel
theorem dX11_under_25 : decode cX11_under 25 = .ok (.aload_n 0, 1) := by decide +kernel
theorem dX11_under_26 : decode cX11_under 26 = .ok (.iconst (-1), 1) := by decide +kernel
theorem dX11_under_27 : decode cX11_under 27 = .ok (.invokevirtual 209, 3) := by decide +kernel
theorem dX11_under_30 : decode cX11_under 30 = .ok (.ireturn, 1) := by decide +kernel
set_option maxRecDepth 20000 in
theorem ggX11_result_X11_in : GoodIn wsX11_result wsX11_in := goodIn_r _ [6] (by decide +kernel) (by decide +kernel)
set_option maxRecDepth 20000 in
theorem gX11_result_X11_in : GoodIn wsX11_result (va_wsS RX11 74 yX11_in wsX11_in) := goodIn_app (goodIn_of _ (by decide +kernel)) ggX11_result_X11_in
set_option maxRecDepth 20000 in
theorem ggX11_result_X11_none : GoodIn wsX11_result wsX11_none := goodIn_r _ [10, 11, 20, 21, 22, 23, 24, 25, 26, 27, 28, 29, 30, 31, 32, 33, 34, 35, 36, 37, 38, 39, 40, 41, 42, 43] (by decide +kernel) (by decide +kernel)
set_option maxRecDepth 20000 in
theorem gX11_result_X11_none : GoodIn wsX11_result (wsV RX11 209 RX11 yX11_none wsX11_none) := goodIn_app (goodIn_of _ (by decide +kernel)) ggX11_result_X11_none
set_option maxRecDepth 20000 in
theorem ggX11_result_X11_ofTransfer : GoodIn wsX11_result wsX11_ofTransfer := goodIn_r _ [15] (by decide +kernel) (by decide +kernel)
set_option maxRecDepth 20000 in
theorem gX11_result_X11_ofTransfer : GoodIn wsX11_result (wsV RX11 143 RX11 yX11_ofTransfer wsX11_ofTransfer) := goodIn_app (goodIn_of _ (by decide +kernel)) ggX11_result_X11_ofTransfer
set_option maxRecDepth 20000 in
theorem ggX11_result_X11_done : GoodIn wsX11_result wsX11_done := goodIn_r _ [19, 11, 20, 21, 22, 23, 24, 25, 26, 27, 28, 29, 30, 31, 32, 33, 34, 35, 36, 37, 38, 39, 40, 41, 42, 43] (by decide +kernel) (by decide +kernel)
set_option maxRecDepth 20000 in
theorem gX11_result_X11_done : GoodIn wsX11_result (wsV RX11 94 RX11 yX11_done wsX11_done) := goodIn_app (goodIn_of _ (by decide +kernel)) ggX11_result_X11_done
theorem dX11_result_0 : decode cX11_result 0 = .ok (.iload_n 1, 1) := by decide +kernel
theorem dX11_result_1 : decode cX11_result 1 = .ok (.i2l, 1) := by decide +kernel
theorem dX11_result_2 : decode cX11_result 2 = .ok (.lconst 0, 1) := by decide +kernel
theorem dX11_result_3 : decode cX11_result 3 = .ok (.aload_n 0, 1) := by decide +kernel
theorem dX11_result_4 : decode cX11_result 4 = .ok (.getfield 7, 3) := by decide +kernel
theorem dX11_result_7 : decode cX11_result 7 = .ok (.sipush 212, 3) := by decide +kernel
theorem dX11_result_10 : decode cX11_result 10 = .ok (.iaload, 1) := by decide +kernel
theorem dX11_result_11 : decode cX11_result 11 = .ok (.iconst 1, 1) := by decide +kernel
theorem dX11_result_12 : decode cX11_result 12 = .ok (.isub, 1) := by decide +kernel
theorem dX11_result_13 : decode cX11_result 13 = .ok (.i2l, 1) := by decide +kernel
theorem dX11_result_14 : decode cX11_result 14 = .ok (.invokestatic 74, 3) := by decide +kernel
theorem dX11_result_17 : decode cX11_result 17 = .ok (.ifCond .ne 9, 3) := by decide +kernel
theorem dX11_result_20 : decode cX11_result 20 = .ok (.aload_n 0, 1) := by decide +kernel
theorem dX11_result_21 : decode cX11_result 21 = .ok (.iconst (-1), 1) := by decide +kernel
theorem dX11_result_22 : decode cX11_result 22 = .ok (.invokevirtual 209, 3) := by decide +kernel
theorem dX11_result_25 : decode cX11_result 25 = .ok (.ireturn, 1) := by decide +kernel
theorem dX11_result_26 : decode cX11_result 26 = .ok (.iload_n 2, 1) := by decide +kernel
theorem dX11_result_27 : decode cX11_result 27 = .ok (.i2l, 1) := by decide +kernel
theorem dX11_result_28 : decode cX11_result 28 = .ok (.lconst 0, 1) := by decide +kernel
theorem dX11_result_29 : decode cX11_result 29 = .ok (.ldc2_w 120, 3) := by decide +kernel
theorem dX11_result_32 : decode cX11_result 32 = .ok (.invokestatic 74, 3) := by decide +kernel
theorem dX11_result_35 : decode cX11_result 35 = .ok (.ifCond .eq 23, 3) := by decide +kernel
theorem dX11_result_38 : decode cX11_result 38 = .ok (.aload_n 0, 1) := by decide +kernel
theorem dX11_result_39 : decode cX11_result 39 = .ok (.aload_n 0, 1) := by decide +kernel
theorem dX11_result_40 : decode cX11_result 40 = .ok (.getfield 7, 3) := by decide +kernel
theorem dX11_result_43 : decode cX11_result 43 = .ok (.aload_n 0, 1) := by decide +kernel
theorem dX11_result_44 : decode cX11_result 44 = .ok (.iload_n 1, 1) := by decide +kernel
theorem dX11_result_45 : decode cX11_result 45 = .ok (.iconst 5, 1) := by decide +kernel
theorem dX11_result_46 : decode cX11_result 46 = .ok (.iload_n 2, 1) := by decide +kernel
theorem dX11_result_47 : decode cX11_result 47 = .ok (.iadd, 1) := by decide +kernel
theorem dX11_result_48 : decode cX11_result 48 = .ok (.invokevirtual 143, 3) := by decide +kernel
theorem dX11_result_51 : decode cX11_result 51 = .ok (.iaload, 1) := by decide +kernel
theorem dX11_result_52 : decode cX11_result 52 = .ok (.invokevirtual 94, 3) := by decide +kernel
theorem dX11_result_55 : decode cX11_result 55 = .ok (.goto 9, 3) := by decide +kernel
theorem dX11_result_58 : decode cX11_result 58 = .ok (.aload_n 0, 1) := by decide +kernel
theorem dX11_result_59 : decode cX11_result 59 = .ok (.bipush (-2), 2) := by decide +kernel
theorem dX11_result_61 : decode cX11_result 61 = .ok (.invokevirtual 209, 3) := by decide +kernel
theorem dX11_result_64 : decode cX11_result 64 = .ok (.ireturn, 1) := by decide +kernel
theorem dX11_logged_0 : decode cX11_logged 0 = .ok (.aload_n 0, 1) := by decide +kernel
theorem dX11_logged_1 : decode cX11_logged 1 = .ok (.getfield 7, 3) := by decide +kernel
theorem dX11_logged_4 : decode cX11_logged 4 = .ok (.sipush 208, 3) := by decide +kernel
theorem dX11_logged_7 : decode cX11_logged 7 = .ok (.iaload, 1) := by decide +kernel
theorem dX11_logged_8 : decode cX11_logged 8 = .ok (.sipush 200, 3) := by decide +kernel
theorem dX11_logged_11 : decode cX11_logged 11 = .ok (.if_icmp .le 9, 3) := by decide +kernel
theorem dX11_logged_14 : decode cX11_logged 14 = .ok (.sipush 200, 3) := by decide +kernel
theorem dX11_logged_17 : decode cX11_logged 17 = .ok (.goto 11, 3) := by decide +kernel
theorem dX11_logged_20 : decode cX11_logged 20 = .ok (.aload_n 0, 1) := by decide +kernel
theorem dX11_logged_21 : decode cX11_logged 21 = .ok (.getfield 7, 3) := by decide +kernel
theorem dX11_logged_24 : decode cX11_logged 24 = .ok (.sipush 208, 3) := by decide +kernel
theorem dX11_logged_27 : decode cX11_logged 27 = .ok (.iaload, 1) := by decide +kernel
theorem dX11_logged_28 : decode cX11_logged 28 = .ok (.ireturn, 1) := by decide +kernel
set_option maxRecDepth 20000 in
theorem ggX11_log_X11_logged : GoodIn wsX11_log wsX11_logged := goodIn_r _ [7, 2, 20, 21, 22, 23, 24, 25, 26, 27, 28, 29, 30, 31, 32, 33, 34, 35, 36, 37, 38, 39, 40, 41, 42, 43] (by decide +kernel) (by decide +kernel)
set_option maxRecDepth 20000 in
theorem gX11_log_X11_logged : GoodIn wsX11_log (wsV RX11 212 RX11 yX11_logged wsX11_logged) := goodIn_app (goodIn_of _ (by decide +kernel)) ggX11_log_X11_logged
set_option maxRecDepth 20000 in
theorem ggX11_log_X11_in : GoodIn wsX11_log wsX11_in := goodIn_r _ [10] (by decide +kernel) (by decide +kernel)
set_option maxRecDepth 20000 in
theorem gX11_log_X11_in : GoodIn wsX11_log (va_wsS RX11 74 yX11_in wsX11_in) := goodIn_app (goodIn_of _ (by decide +kernel)) ggX11_log_X11_in
set_option maxRecDepth 20000 in
theorem ggX11_log_X11_none : GoodIn wsX11_log wsX11_none := goodIn_r _ [14, 15, 20, 21, 22, 23, 24, 25, 26, 27, 28, 29, 30, 31, 32, 33, 34, 35, 36, 37, 38, 39, 40, 41, 42, 43] (by decide +kernel) (by decide +kernel)
set_option maxRecDepth 20000 in
theorem gX11_log_X11_none : GoodIn wsX11_log (wsV RX11 209 RX11 yX11_none wsX11_none) := goodIn_app (goodIn_of _ (by decide +kernel)) ggX11_log_X11_none
set_option maxRecDepth 20000 in
theorem ggX11_log_X11_done : GoodIn wsX11_log wsX11_done := goodIn_r _ [19, 15, 20, 21, 22, 23, 24, 25, 26, 27, 28, 29, 30, 31, 32, 33, 34, 35, 36, 37, 38, 39, 40, 41, 42, 43] (by decide +kernel) (by decide +kernel)
set_option maxRecDepth 20000 in
theorem gX11_log_X11_done : GoodIn wsX11_log (wsV RX11 94 RX11 yX11_done wsX11_done) := goodIn_app (goodIn_of _ (by decide +kernel)) ggX11_log_X11_done
theorem dX11_log_0 : decode cX11_log 0 = .ok (.iload_n 1, 1) := by decide +kernel
theorem dX11_log_1 : decode cX11_log 1 = .ok (.i2l, 1) := by decide +kernel
theorem dX11_log_2 : decode cX11_log 2 = .ok (.lconst 0, 1) := by decide +kernel
theorem dX11_log_3 : decode cX11_log 3 = .ok (.aload_n 0, 1) := by decide +kernel
theorem dX11_log_4 : decode cX11_log 4 = .ok (.invokevirtual 212, 3) := by decide +kernel
theorem dX11_log_7 : decode cX11_log 7 = .ok (.iconst 1, 1) := by decide +kernel
theorem dX11_log_8 : decode cX11_log 8 = .ok (.isub, 1) := by decide +kernel
theorem dX11_log_9 : decode cX11_log 9 = .ok (.i2l, 1) := by decide +kernel
theorem dX11_log_10 : decode cX11_log 10 = .ok (.invokestatic 74, 3) := by decide +kernel
theorem dX11_log_13 : decode cX11_log 13 = .ok (.ifCond .ne 9, 3) := by decide +kernel
theorem dX11_log_16 : decode cX11_log 16 = .ok (.aload_n 0, 1) := by decide +kernel
theorem dX11_log_17 : decode cX11_log 17 = .ok (.iconst (-1), 1) := by decide +kernel
theorem dX11_log_18 : decode cX11_log 18 = .ok (.invokevirtual 209, 3) := by decide +kernel
theorem dX11_log_21 : decode cX11_log 21 = .ok (.ireturn, 1) := by decide +kernel
theorem dX11_log_22 : decode cX11_log 22 = .ok (.iload_n 2, 1) := by decide +kernel
theorem dX11_log_23 : decode cX11_log 23 = .ok (.i2l, 1) := by decide +kernel
theorem dX11_log_24 : decode cX11_log 24 = .ok (.lconst 0, 1) := by decide +kernel
theorem dX11_log_25 : decode cX11_log 25 = .ok (.ldc2_w 101, 3) := by decide +kernel
theorem dX11_log_28 : decode cX11_log 28 = .ok (.invokestatic 74, 3) := by decide +kernel
theorem dX11_log_31 : decode cX11_log 31 = .ok (.ifCond .eq 25, 3) := by decide +kernel
theorem dX11_log_34 : decode cX11_log 34 = .ok (.aload_n 0, 1) := by decide +kernel
theorem dX11_log_35 : decode cX11_log 35 = .ok (.aload_n 0, 1) := by decide +kernel
theorem dX11_log_36 : decode cX11_log 36 = .ok (.getfield 7, 3) := by decide +kernel
theorem dX11_log_39 : decode cX11_log 39 = .ok (.sipush 890, 3) := by decide +kernel
theorem dX11_log_42 : decode cX11_log 42 = .ok (.bipush 8, 2) := by decide +kernel
theorem dX11_log_44 : decode cX11_log 44 = .ok (.iload_n 1, 1) := by decide +kernel
theorem dX11_log_45 : decode cX11_log 45 = .ok (.imul, 1) := by decide +kernel
theorem dX11_log_46 : decode cX11_log 46 = .ok (.iadd, 1) := by decide +kernel
theorem dX11_log_47 : decode cX11_log 47 = .ok (.iload_n 2, 1) := by decide +kernel
theorem dX11_log_48 : decode cX11_log 48 = .ok (.iadd, 1) := by decide +kernel
theorem dX11_log_49 : decode cX11_log 49 = .ok (.iaload, 1) := by decide +kernel
theorem dX11_log_50 : decode cX11_log 50 = .ok (.invokevirtual 94, 3) := by decide +kernel
theorem dX11_log_53 : decode cX11_log 53 = .ok (.goto 9, 3) := by decide +kernel
theorem dX11_log_56 : decode cX11_log 56 = .ok (.aload_n 0, 1) := by decide +kernel
theorem dX11_log_57 : decode cX11_log 57 = .ok (.bipush (-2), 2) := by decide +kernel
theorem dX11_log_59 : decode cX11_log 59 = .ok (.invokevirtual 209, 3) := by decide +kernel
theorem dX11_log_62 : decode cX11_log 62 = .ok (.ireturn, 1) := by decide +kernel
set_option maxRecDepth 20000 in
theorem ggX11_findings_X11_in : GoodIn wsX11_findings wsX11_in := goodIn_r _ [6] (by decide +kernel) (by decide +kernel)
set_option maxRecDepth 20000 in
theorem gX11_findings_X11_in : GoodIn wsX11_findings (va_wsS RX11 74 yX11_in wsX11_in) := goodIn_app (goodIn_of _ (by decide +kernel)) ggX11_findings_X11_in
set_option maxRecDepth 20000 in
theorem ggX11_findings_X11_refused : GoodIn wsX11_findings wsX11_refused := goodIn_r _ [10, 11, 16, 17, 18, 19, 20, 21, 22, 23, 24, 25, 26, 27, 28, 29, 30, 31, 32, 33, 34, 35, 36, 37, 38, 39] (by decide +kernel) (by decide +kernel)
set_option maxRecDepth 20000 in
theorem gX11_findings_X11_refused : GoodIn wsX11_findings (wsV RX11 84 RX11 yX11_refused wsX11_refused) := goodIn_app (goodIn_of _ (by decide +kernel)) ggX11_findings_X11_refused
set_option maxRecDepth 20000 in
theorem ggX11_findings_X11_done : GoodIn wsX11_findings wsX11_done := goodIn_r _ [15, 11, 16, 17, 18, 19, 20, 21, 22, 23, 24, 25, 26, 27, 28, 29, 30, 31, 32, 33, 34, 35, 36, 37, 38, 39] (by decide +kernel) (by decide +kernel)
set_option maxRecDepth 20000 in
theorem gX11_findings_X11_done : GoodIn wsX11_findings (wsV RX11 94 RX11 yX11_done wsX11_done) := goodIn_app (goodIn_of _ (by decide +kernel)) ggX11_findings_X11_done
theorem dX11_findings_0 : decode cX11_findings 0 = .ok (.iload_n 1, 1) := by decide +kernel
theorem dX11_findings_1 : decode cX11_findings 1 = .ok (.i2l, 1) := by decide +kernel
theorem dX11_findings_2 : decode cX11_findings 2 = .ok (.lconst 0, 1) := by decide +kernel
theorem dX11_findings_3 : decode cX11_findings 3 = .ok (.ldc2_w 82, 3) := by decide +kernel
theorem dX11_findings_6 : decode cX11_findings 6 = .ok (.invokestatic 74, 3) := by decide +kernel
theorem dX11_findings_9 : decode cX11_findings 9 = .ok (.ifCond .ne 10, 3) := by decide +kernel
theorem dX11_findings_12 : decode cX11_findings 12 = .ok (.aload_n 0, 1) := by decide +kernel
theorem dX11_findings_13 : decode cX11_findings 13 = .ok (.bipush (-2), 2) := by decide +kernel
theorem dX11_findings_15 : decode cX11_findings 15 = .ok (.invokevirtual 84, 3) := by decide +kernel
theorem dX11_findings_18 : decode cX11_findings 18 = .ok (.ireturn, 1) := by decide +kernel
theorem dX11_findings_19 : decode cX11_findings 19 = .ok (.aload_n 0, 1) := by decide +kernel
theorem dX11_findings_20 : decode cX11_findings 20 = .ok (.iload_n 1, 1) := by decide +kernel
theorem dX11_findings_21 : decode cX11_findings 21 = .ok (.ifCond .ne 14, 3) := by decide +kernel
theorem dX11_findings_24 : decode cX11_findings 24 = .ok (.aload_n 0, 1) := by decide +kernel
theorem dX11_findings_25 : decode cX11_findings 25 = .ok (.getfield 7, 3) := by decide +kernel
theorem dX11_findings_28 : decode cX11_findings 28 = .ok (.sipush 213, 3) := by decide +kernel
theorem dX11_findings_31 : decode cX11_findings 31 = .ok (.iaload, 1) := by decide +kernel
theorem dX11_findings_32 : decode cX11_findings 32 = .ok (.goto 13, 3) := by decide +kernel
theorem dX11_findings_35 : decode cX11_findings 35 = .ok (.aload_n 0, 1) := by decide +kernel
theorem dX11_findings_36 : decode cX11_findings 36 = .ok (.getfield 7, 3) := by decide +kernel
theorem dX11_findings_39 : decode cX11_findings 39 = .ok (.sipush 214, 3) := by decide +kernel
theorem dX11_findings_42 : decode cX11_findings 42 = .ok (.iload_n 1, 1) := by decide +kernel
theorem dX11_findings_43 : decode cX11_findings 43 = .ok (.iadd, 1) := by decide +kernel
theorem dX11_findings_44 : decode cX11_findings 44 = .ok (.iaload, 1) := by decide +kernel
theorem dX11_findings_45 : decode cX11_findings 45 = .ok (.invokevirtual 94, 3) := by decide +kernel
theorem dX11_findings_48 : decode cX11_findings 48 = .ok (.ireturn, 1) := by decide +kernel
theorem dX11_found_0 : decode cX11_found 0 = .ok (.aload_n 0, 1) := by decide +kernel
theorem dX11_found_1 : decode cX11_found 1 = .ok (.getfield 7, 3) := by decide +kernel
theorem dX11_found_4 : decode cX11_found 4 = .ok (.sipush 213, 3) := by decide +kernel
theorem dX11_found_7 : decode cX11_found 7 = .ok (.iaload, 1) := by decide +kernel
theorem dX11_found_8 : decode cX11_found 8 = .ok (.bipush 60, 2) := by decide +kernel
theorem dX11_found_10 : decode cX11_found 10 = .ok (.if_icmp .le 8, 3) := by decide +kernel
theorem dX11_found_13 : decode cX11_found 13 = .ok (.bipush 60, 2) := by decide +kernel
theorem dX11_found_15 : decode cX11_found 15 = .ok (.goto 11, 3) := by decide +kernel
theorem dX11_found_18 : decode cX11_found 18 = .ok (.aload_n 0, 1) := by decide +kernel
theorem dX11_found_19 : decode cX11_found 19 = .ok (.getfield 7, 3) := by decide +kernel
theorem dX11_found_22 : decode cX11_found 22 = .ok (.sipush 213, 3) := by decide +kernel
theorem dX11_found_25 : decode cX11_found 25 = .ok (.iaload, 1) := by decide +kernel
theorem dX11_found_26 : decode cX11_found 26 = .ok (.ireturn, 1) := by decide +kernel
set_option maxRecDepth 20000 in
theorem ggX11_finding_X11_found : GoodIn wsX11_finding wsX11_found := goodIn_r _ [6, 1, 19, 20, 21, 22, 23, 24, 25, 26, 27, 28, 29, 30, 31, 32, 33, 34, 35, 36, 37, 38, 39, 40, 41, 42] (by decide +kernel) (by decide +kernel)
set_option maxRecDepth 20000 in
theorem gX11_finding_X11_found : GoodIn wsX11_finding (wsV RX11 216 RX11 yX11_found wsX11_found) := goodIn_app (goodIn_of _ (by decide +kernel)) ggX11_finding_X11_found
set_option maxRecDepth 20000 in
theorem ggX11_finding_X11_in : GoodIn wsX11_finding wsX11_in := goodIn_r _ [9] (by decide +kernel) (by decide +kernel)
set_option maxRecDepth 20000 in
theorem gX11_finding_X11_in : GoodIn wsX11_finding (va_wsS RX11 74 yX11_in wsX11_in) := goodIn_app (goodIn_of _ (by decide +kernel)) ggX11_finding_X11_in
set_option maxRecDepth 20000 in
theorem ggX11_finding_X11_refused : GoodIn wsX11_finding wsX11_refused := goodIn_r _ [13, 14, 19, 20, 21, 22, 23, 24, 25, 26, 27, 28, 29, 30, 31, 32, 33, 34, 35, 36, 37, 38, 39, 40, 41, 42] (by decide +kernel) (by decide +kernel)
set_option maxRecDepth 20000 in
theorem gX11_finding_X11_refused : GoodIn wsX11_finding (wsV RX11 84 RX11 yX11_refused wsX11_refused) := goodIn_app (goodIn_of _ (by decide +kernel)) ggX11_finding_X11_refused
set_option maxRecDepth 20000 in
theorem ggX11_finding_X11_done : GoodIn wsX11_finding wsX11_done := goodIn_r _ [18, 14, 19, 20, 21, 22, 23, 24, 25, 26, 27, 28, 29, 30, 31, 32, 33, 34, 35, 36, 37, 38, 39, 40, 41, 42] (by decide +kernel) (by decide +kernel)
set_option maxRecDepth 20000 in
theorem gX11_finding_X11_done : GoodIn wsX11_finding (wsV RX11 94 RX11 yX11_done wsX11_done) := goodIn_app (goodIn_of _ (by decide +kernel)) ggX11_finding_X11_done
theorem dX11_finding_0 : decode cX11_finding 0 = .ok (.iload_n 1, 1) := by decide +kernel
theorem dX11_finding_1 : decode cX11_finding 1 = .ok (.i2l, 1) := by decide +kernel
theorem dX11_finding_2 : decode cX11_finding 2 = .ok (.lconst 0, 1) := by decide +kernel
theorem dX11_finding_3 : decode cX11_finding 3 = .ok (.aload_n 0, 1) := by decide +kernel
theorem dX11_finding_4 : decode cX11_finding 4 = .ok (.invokevirtual 216, 3) := by decide +kernel
theorem dX11_finding_7 : decode cX11_finding 7 = .ok (.iconst 1, 1) := by decide +kernel
theorem dX11_finding_8 : decode cX11_finding 8 = .ok (.isub, 1) := by decide +kernel
theorem dX11_finding_9 : decode cX11_finding 9 = .ok (.i2l, 1) := by decide +kernel
theorem dX11_finding_10 : decode cX11_finding 10 = .ok (.invokestatic 74, 3) := by decide +kernel
theorem dX11_finding_13 : decode cX11_finding 13 = .ok (.ifCond .ne 9, 3) := by decide +kernel
theorem dX11_finding_16 : decode cX11_finding 16 = .ok (.aload_n 0, 1) := by decide +kernel
theorem dX11_finding_17 : decode cX11_finding 17 = .ok (.iconst (-1), 1) := by decide +kernel
theorem dX11_finding_18 : decode cX11_finding 18 = .ok (.invokevirtual 84, 3) := by decide +kernel
theorem dX11_finding_21 : decode cX11_finding 21 = .ok (.ireturn, 1) := by decide +kernel
theorem dX11_finding_22 : decode cX11_finding 22 = .ok (.iload_n 2, 1) := by decide +kernel
theorem dX11_finding_23 : decode cX11_finding 23 = .ok (.ifCond .ne 20, 3) := by decide +kernel
theorem dX11_finding_26 : decode cX11_finding 26 = .ok (.aload_n 0, 1) := by decide +kernel
theorem dX11_finding_27 : decode cX11_finding 27 = .ok (.aload_n 0, 1) := by decide +kernel
theorem dX11_finding_28 : decode cX11_finding 28 = .ok (.getfield 7, 3) := by decide +kernel
theorem dX11_finding_31 : decode cX11_finding 31 = .ok (.sipush 230, 3) := by decide +kernel
theorem dX11_finding_34 : decode cX11_finding 34 = .ok (.iload_n 1, 1) := by decide +kernel
theorem dX11_finding_35 : decode cX11_finding 35 = .ok (.iadd, 1) := by decide +kernel
theorem dX11_finding_36 : decode cX11_finding 36 = .ok (.iaload, 1) := by decide +kernel
theorem dX11_finding_37 : decode cX11_finding 37 = .ok (.invokevirtual 94, 3) := by decide +kernel
theorem dX11_finding_40 : decode cX11_finding 40 = .ok (.goto 31, 3) := by decide +kernel
theorem dX11_finding_43 : decode cX11_finding 43 = .ok (.iload_n 2, 1) := by decide +kernel
theorem dX11_finding_44 : decode cX11_finding 44 = .ok (.iconst 1, 1) := by decide +kernel
theorem dX11_finding_45 : decode cX11_finding 45 = .ok (.if_icmp .ne 20, 3) := by decide +kernel
theorem dX11_finding_48 : decode cX11_finding 48 = .ok (.aload_n 0, 1) := by decide +kernel
theorem dX11_finding_49 : decode cX11_finding 49 = .ok (.aload_n 0, 1) := by decide +kernel
theorem dX11_finding_50 : decode cX11_finding 50 = .ok (.getfield 7, 3) := by decide +kernel
theorem dX11_finding_53 : decode cX11_finding 53 = .ok (.sipush 290, 3) := by decide +kernel
theorem dX11_finding_56 : decode cX11_finding 56 = .ok (.iload_n 1, 1) := by decide +kernel
theorem dX11_finding_57 : decode cX11_finding 57 = .ok (.iadd, 1) := by decide +kernel
theorem dX11_finding_58 : decode cX11_finding 58 = .ok (.iaload, 1) := by decide +kernel
theorem dX11_finding_59 : decode cX11_finding 59 = .ok (.invokevirtual 94, 3) := by decide +kernel
theorem dX11_finding_62 : decode cX11_finding 62 = .ok (.goto 9, 3) := by decide +kernel
theorem dX11_finding_65 : decode cX11_finding 65 = .ok (.aload_n 0, 1) := by decide +kernel
theorem dX11_finding_66 : decode cX11_finding 66 = .ok (.bipush (-2), 2) := by decide +kernel
theorem dX11_finding_68 : decode cX11_finding 68 = .ok (.invokevirtual 84, 3) := by decide +kernel
theorem dX11_finding_71 : decode cX11_finding 71 = .ok (.ireturn, 1) := by decide +kernel
set_option maxRecDepth 20000 in
theorem ggX11_value_X11_registerAt : GoodIn wsX11_value wsX11_registerAt := goodIn_r _ [6, 7, 8, 18, 19, 20, 21, 22, 23, 24, 25, 26, 27, 28, 29, 30, 31, 32, 33, 34, 35, 36, 37, 38, 39, 40, 41] (by decide +kernel) (by decide +kernel)
set_option maxRecDepth 20000 in
theorem gX11_value_X11_registerAt : GoodIn wsX11_value (wsV RX11 106 RX11 yX11_registerAt wsX11_registerAt) := goodIn_app (goodIn_of _ (by decide +kernel)) ggX11_value_X11_registerAt
set_option maxRecDepth 20000 in
theorem ggX11_value_X11_none : GoodIn wsX11_value wsX11_none := goodIn_r _ [12, 13, 18, 19, 20, 21, 22, 23, 24, 25, 26, 27, 28, 29, 30, 31, 32, 33, 34, 35, 36, 37, 38, 39, 40, 41] (by decide +kernel) (by decide +kernel)
set_option maxRecDepth 20000 in
theorem gX11_value_X11_none : GoodIn wsX11_value (wsV RX11 209 RX11 yX11_none wsX11_none) := goodIn_app (goodIn_of _ (by decide +kernel)) ggX11_value_X11_none
set_option maxRecDepth 20000 in
theorem ggX11_value_X11_done : GoodIn wsX11_value wsX11_done := goodIn_r _ [17, 13, 18, 19, 20, 21, 22, 23, 24, 25, 26, 27, 28, 29, 30, 31, 32, 33, 34, 35, 36, 37, 38, 39, 40, 41] (by decide +kernel) (by decide +kernel)
set_option maxRecDepth 20000 in
theorem gX11_value_X11_done : GoodIn wsX11_value (wsV RX11 94 RX11 yX11_done wsX11_done) := goodIn_app (goodIn_of _ (by decide +kernel)) ggX11_value_X11_done
theorem dX11_value_0 : decode cX11_value 0 = .ok (.aload_n 0, 1) := by decide +kernel
theorem dX11_value_1 : decode cX11_value 1 = .ok (.iload_n 1, 1) := by decide +kernel
theorem dX11_value_2 : decode cX11_value 2 = .ok (.invokevirtual 106, 3) := by decide +kernel
theorem dX11_value_5 : decode cX11_value 5 = .ok (.istore_n 2, 1) := by decide +kernel
theorem dX11_value_6 : decode cX11_value 6 = .ok (.iload_n 2, 1) := by decide +kernel
theorem dX11_value_7 : decode cX11_value 7 = .ok (.ifCond .ge 11, 3) := by decide +kernel
theorem dX11_value_10 : decode cX11_value 10 = .ok (.aload_n 0, 1) := by decide +kernel
theorem dX11_value_11 : decode cX11_value 11 = .ok (.iconst (-1), 1) := by decide +kernel
theorem dX11_value_12 : decode cX11_value 12 = .ok (.invokevirtual 209, 3) := by decide +kernel
theorem dX11_value_15 : decode cX11_value 15 = .ok (.goto 16, 3) := by decide +kernel
theorem dX11_value_18 : decode cX11_value 18 = .ok (.aload_n 0, 1) := by decide +kernel
theorem dX11_value_19 : decode cX11_value 19 = .ok (.aload_n 0, 1) := by decide +kernel
theorem dX11_value_20 : decode cX11_value 20 = .ok (.getfield 7, 3) := by decide +kernel
theorem dX11_value_23 : decode cX11_value 23 = .ok (.bipush 75, 2) := by decide +kernel
theorem dX11_value_25 : decode cX11_value 25 = .ok (.iload_n 2, 1) := by decide +kernel
theorem dX11_value_26 : decode cX11_value 26 = .ok (.iadd, 1) := by decide +kernel
theorem dX11_value_27 : decode cX11_value 27 = .ok (.iaload, 1) := by decide +kernel
theorem dX11_value_28 : decode cX11_value 28 = .ok (.invokevirtual 94, 3) := by decide +kernel
theorem dX11_value_31 : decode cX11_value 31 = .ok (.ireturn, 1) := by decide +kernel
set_option maxRecDepth 20000 in
theorem ggX11_decode_X11_slaveOf : GoodIn wsX11_decode wsX11_slaveOf := goodIn_r _ [5, 6, 7, 8, 9, 4, 10, 11, 12, 13, 14, 15, 21, 22, 23, 24, 25, 26, 27, 28, 29, 30, 31, 32, 33, 34, 35, 36, 37, 38, 39, 40, 41, 42, 43, 44] (by decide +kernel) (by decide +kernel)
set_option maxRecDepth 20000 in
theorem gX11_decode_X11_slaveOf : GoodIn wsX11_decode (wsV RX11 103 RX11 yX11_slaveOf wsX11_slaveOf) := goodIn_app (goodIn_of _ (by decide +kernel)) ggX11_decode_X11_slaveOf
set_option maxRecDepth 20000 in
theorem ggX11_decode_X11_done : GoodIn wsX11_decode wsX11_done := goodIn_r _ [19, 20, 21, 22, 23, 24, 25, 26, 27, 28, 29, 30, 31, 32, 33, 34, 35, 36, 37, 38, 39, 40, 41, 42, 43, 44] (by decide +kernel) (by decide +kernel)
set_option maxRecDepth 20000 in
theorem gX11_decode_X11_done : GoodIn wsX11_decode (wsV RX11 94 RX11 yX11_done wsX11_done) := goodIn_app (goodIn_of _ (by decide +kernel)) ggX11_decode_X11_done
theorem dX11_decode_0 : decode cX11_decode 0 = .ok (.aload_n 0, 1) := by decide +kernel
theorem dX11_decode_1 : decode cX11_decode 1 = .ok (.aload_n 0, 1) := by decide +kernel
theorem dX11_decode_2 : decode cX11_decode 2 = .ok (.iload_n 1, 1) := by decide +kernel
theorem dX11_decode_3 : decode cX11_decode 3 = .ok (.invokevirtual 103, 3) := by decide +kernel
theorem dX11_decode_6 : decode cX11_decode 6 = .ok (.invokevirtual 94, 3) := by decide +kernel
theorem dX11_decode_9 : decode cX11_decode 9 = .ok (.ireturn, 1) := by decide +kernel
set_option maxRecDepth 20000 in
theorem ggX11_bridge__X11_done : GoodIn wsX11_bridge_ wsX11_done := goodIn_r _ [6, 7, 12, 13, 14, 15, 16, 17, 18, 19, 20, 21, 22, 23, 24, 25, 26, 27, 28, 29, 30, 31, 32, 33, 34, 35] (by decide +kernel) (by decide +kernel)
set_option maxRecDepth 20000 in
theorem gX11_bridge__X11_done : GoodIn wsX11_bridge_ (wsV RX11 94 RX11 yX11_done wsX11_done) := goodIn_app (goodIn_of _ (by decide +kernel)) ggX11_bridge__X11_done
set_option maxRecDepth 20000 in
theorem ggX11_bridge__X11_refused : GoodIn wsX11_bridge_ wsX11_refused := goodIn_r _ [11, 7, 12, 13, 14, 15, 16, 17, 18, 19, 20, 21, 22, 23, 24, 25, 26, 27, 28, 29, 30, 31, 32, 33, 34, 35] (by decide +kernel) (by decide +kernel)
set_option maxRecDepth 20000 in
theorem gX11_bridge__X11_refused : GoodIn wsX11_bridge_ (wsV RX11 84 RX11 yX11_refused wsX11_refused) := goodIn_app (goodIn_of _ (by decide +kernel)) ggX11_bridge__X11_refused
theorem dX11_bridge__0 : decode cX11_bridge_ 0 = .ok (.iload_n 1, 1) := by decide +kernel
theorem dX11_bridge__1 : decode cX11_bridge_ 1 = .ok (.tableswitch 117 0 5 #[39, 52, 65, 78, 91, 104], 39) := by decide +kernel
theorem dX11_bridge__40 : decode cX11_bridge_ 40 = .ok (.aload_n 0, 1) := by decide +kernel
theorem dX11_bridge__41 : decode cX11_bridge_ 41 = .ok (.aload_n 0, 1) := by decide +kernel
theorem dX11_bridge__42 : decode cX11_bridge_ 42 = .ok (.getfield 7, 3) := by decide +kernel
theorem dX11_bridge__45 : decode cX11_bridge_ 45 = .ok (.sipush 184, 3) := by decide +kernel
theorem dX11_bridge__48 : decode cX11_bridge_ 48 = .ok (.iaload, 1) := by decide +kernel
theorem dX11_bridge__49 : decode cX11_bridge_ 49 = .ok (.invokevirtual 94, 3) := by decide +kernel
theorem dX11_bridge__52 : decode cX11_bridge_ 52 = .ok (.ireturn, 1) := by decide +kernel
theorem dX11_bridge__53 : decode cX11_bridge_ 53 = .ok (.aload_n 0, 1) := by decide +kernel
theorem dX11_bridge__54 : decode cX11_bridge_ 54 = .ok (.aload_n 0, 1) := by decide +kernel
theorem dX11_bridge__55 : decode cX11_bridge_ 55 = .ok (.getfield 7, 3) := by decide +kernel
theorem dX11_bridge__58 : decode cX11_bridge_ 58 = .ok (.sipush 201, 3) := by decide +kernel
theorem dX11_bridge__61 : decode cX11_bridge_ 61 = .ok (.iaload, 1) := by decide +kernel
theorem dX11_bridge__62 : decode cX11_bridge_ 62 = .ok (.invokevirtual 94, 3) := by decide +kernel
theorem dX11_bridge__65 : decode cX11_bridge_ 65 = .ok (.ireturn, 1) := by decide +kernel
theorem dX11_bridge__66 : decode cX11_bridge_ 66 = .ok (.aload_n 0, 1) := by decide +kernel
theorem dX11_bridge__67 : decode cX11_bridge_ 67 = .ok (.aload_n 0, 1) := by decide +kernel
theorem dX11_bridge__68 : decode cX11_bridge_ 68 = .ok (.getfield 7, 3) := by decide +kernel
theorem dX11_bridge__71 : decode cX11_bridge_ 71 = .ok (.sipush 192, 3) := by decide +kernel
theorem dX11_bridge__74 : decode cX11_bridge_ 74 = .ok (.iaload, 1) := by decide +kernel
theorem dX11_bridge__75 : decode cX11_bridge_ 75 = .ok (.invokevirtual 94, 3) := by decide +kernel
theorem dX11_bridge__78 : decode cX11_bridge_ 78 = .ok (.ireturn, 1) := by decide +kernel
theorem dX11_bridge__79 : decode cX11_bridge_ 79 = .ok (.aload_n 0, 1) := by decide +kernel
theorem dX11_bridge__80 : decode cX11_bridge_ 80 = .ok (.aload_n 0, 1) := by decide +kernel
theorem dX11_bridge__81 : decode cX11_bridge_ 81 = .ok (.getfield 7, 3) := by decide +kernel
theorem dX11_bridge__84 : decode cX11_bridge_ 84 = .ok (.sipush 206, 3) := by decide +kernel
theorem dX11_bridge__87 : decode cX11_bridge_ 87 = .ok (.iaload, 1) := by decide +kernel
theorem dX11_bridge__88 : decode cX11_bridge_ 88 = .ok (.invokevirtual 94, 3) := by decide +kernel
theorem dX11_bridge__91 : decode cX11_bridge_ 91 = .ok (.ireturn, 1) := by decide +kernel
theorem dX11_bridge__92 : decode cX11_bridge_ 92 = .ok (.aload_n 0, 1) := by decide +kernel
theorem dX11_bridge__93 : decode cX11_bridge_ 93 = .ok (.aload_n 0, 1) := by decide +kernel
theorem dX11_bridge__94 : decode cX11_bridge_ 94 = .ok (.getfield 7, 3) := by decide +kernel
theorem dX11_bridge__97 : decode cX11_bridge_ 97 = .ok (.sipush 207, 3) := by decide +kernel
theorem dX11_bridge__100 : decode cX11_bridge_ 100 = .ok (.iaload, 1) := by decide +kernel
theorem dX11_bridge__101 : decode cX11_bridge_ 101 = .ok (.invokevirtual 94, 3) := by decide +kernel
theorem dX11_bridge__104 : decode cX11_bridge_ 104 = .ok (.ireturn, 1) := by decide +kernel
theorem dX11_bridge__105 : decode cX11_bridge_ 105 = .ok (.aload_n 0, 1) := by decide +kernel
theorem dX11_bridge__106 : decode cX11_bridge_ 106 = .ok (.aload_n 0, 1) := by decide +kernel
theorem dX11_bridge__107 : decode cX11_bridge_ 107 = .ok (.getfield 7, 3) := by decide +kernel
theorem dX11_bridge__110 : decode cX11_bridge_ 110 = .ok (.sipush 208, 3) := by decide +kernel
theorem dX11_bridge__113 : decode cX11_bridge_ 113 = .ok (.iaload, 1) := by decide +kernel
theorem dX11_bridge__114 : decode cX11_bridge_ 114 = .ok (.invokevirtual 94, 3) := by decide +kernel
theorem dX11_bridge__117 : decode cX11_bridge_ 117 = .ok (.ireturn, 1) := by decide +kernel
theorem dX11_bridge__118 : decode cX11_bridge_ 118 = .ok (.aload_n 0, 1) := by decide +kernel
theorem dX11_bridge__119 : decode cX11_bridge_ 119 = .ok (.bipush (-2), 2) := by decide +kernel
theorem dX11_bridge__121 : decode cX11_bridge_ 121 = .ok (.invokevirtual 84, 3) := by decide +kernel
theorem dX11_bridge__124 : decode cX11_bridge_ 124 = .ok (.ireturn, 1) := by decide +kernel
set_option maxRecDepth 20000 in
theorem ggX11_again_X11_refused : GoodIn wsX11_again wsX11_refused := goodIn_r _ [11, 12, 42, 43, 44, 45, 46, 47, 48, 49, 50, 51, 52, 53, 54, 55, 56, 57, 58, 59, 60, 61, 62, 63, 64, 65] (by decide +kernel) (by decide +kernel)
set_option maxRecDepth 20000 in
theorem gX11_again_X11_refused : GoodIn wsX11_again (wsV RX11 84 RX11 yX11_refused wsX11_refused) := goodIn_app (goodIn_of _ (by decide +kernel)) ggX11_again_X11_refused
set_option maxRecDepth 20000 in
theorem ggX11_again_X11_in : GoodIn wsX11_again wsX11_in := goodIn_r _ [15] (by decide +kernel) (by decide +kernel)
set_option maxRecDepth 20000 in
theorem gX11_again_X11_in : GoodIn wsX11_again (va_wsS RX11 74 yX11_in wsX11_in) := goodIn_app (goodIn_of _ (by decide +kernel)) ggX11_again_X11_in
set_option maxRecDepth 20000 in
theorem ggX11_again_X11_isOther : GoodIn wsX11_again wsX11_isOther := goodIn_r _ [19, 1, 2, 20, 3, 5, 21, 22, 23, 24, 25, 10, 26, 27, 28, 29, 30, 31, 32, 33, 13, 14, 15, 34, 35, 36, 37, 42, 43, 44, 45, 46, 47, 48, 49, 50, 51, 52, 53, 54, 55, 56, 57, 58, 59, 60, 61, 62, 63, 64, 65] (by decide +kernel) (by decide +kernel)
set_option maxRecDepth 20000 in
theorem gX11_again_X11_isOther : GoodIn wsX11_again (wsV RX11 219 RX11 yX11_isOther wsX11_isOther) := goodIn_app (goodIn_of _ (by decide +kernel)) ggX11_again_X11_isOther
set_option maxRecDepth 20000 in
theorem ggX11_again_X11_done : GoodIn wsX11_again wsX11_done := goodIn_r _ [41, 12, 42, 43, 44, 45, 46, 47, 48, 49, 50, 51, 52, 53, 54, 55, 56, 57, 58, 59, 60, 61, 62, 63, 64, 65] (by decide +kernel) (by decide +kernel)
set_option maxRecDepth 20000 in
theorem gX11_again_X11_done : GoodIn wsX11_again (wsV RX11 94 RX11 yX11_done wsX11_done) := goodIn_app (goodIn_of _ (by decide +kernel)) ggX11_again_X11_done
theorem dX11_again_0 : decode cX11_again 0 = .ok (.aload_n 0, 1) := by decide +kernel
theorem dX11_again_1 : decode cX11_again 1 = .ok (.getfield 7, 3) := by decide +kernel
theorem dX11_again_4 : decode cX11_again 4 = .ok (.sipush 208, 3) := by decide +kernel
theorem dX11_again_7 : decode cX11_again 7 = .ok (.iaload, 1) := by decide +kernel
theorem dX11_again_8 : decode cX11_again 8 = .ok (.sipush 200, 3) := by decide +kernel
theorem dX11_again_11 : decode cX11_again 11 = .ok (.if_icmp .le 10, 3) := by decide +kernel
theorem dX11_again_14 : decode cX11_again 14 = .ok (.aload_n 0, 1) := by decide +kernel
theorem dX11_again_15 : decode cX11_again 15 = .ok (.bipush (-4), 2) := by decide +kernel
theorem dX11_again_17 : decode cX11_again 17 = .ok (.invokevirtual 84, 3) := by decide +kernel
theorem dX11_again_20 : decode cX11_again 20 = .ok (.ireturn, 1) := by decide +kernel
theorem dX11_again_21 : decode cX11_again 21 = .ok (.iconst 0, 1) := by decide +kernel
theorem dX11_again_22 : decode cX11_again 22 = .ok (.istore_n 1, 1) := by decide +kernel
theorem dX11_again_23 : decode cX11_again 23 = .ok (.iload_n 1, 1) := by decide +kernel
theorem dX11_again_24 : decode cX11_again 24 = .ok (.aload_n 0, 1) := by decide +kernel
theorem dX11_again_25 : decode cX11_again 25 = .ok (.getfield 69, 3) := by decide +kernel
theorem dX11_again_28 : decode cX11_again 28 = .ok (.if_icmp .ge 38, 3) := by decide +kernel
theorem dX11_again_31 : decode cX11_again 31 = .ok (.aload_n 0, 1) := by decide +kernel
theorem dX11_again_32 : decode cX11_again 32 = .ok (.getfield 48, 3) := by decide +kernel
theorem dX11_again_35 : decode cX11_again 35 = .ok (.iload_n 1, 1) := by decide +kernel
theorem dX11_again_36 : decode cX11_again 36 = .ok (.aload_n 0, 1) := by decide +kernel
theorem dX11_again_37 : decode cX11_again 37 = .ok (.getfield 32, 3) := by decide +kernel
theorem dX11_again_40 : decode cX11_again 40 = .ok (.iload_n 1, 1) := by decide +kernel
theorem dX11_again_41 : decode cX11_again 41 = .ok (.iaload, 1) := by decide +kernel
theorem dX11_again_42 : decode cX11_again 42 = .ok (.iastore, 1) := by decide +kernel
theorem dX11_again_43 : decode cX11_again 43 = .ok (.aload_n 0, 1) := by decide +kernel
theorem dX11_again_44 : decode cX11_again 44 = .ok (.getfield 48, 3) := by decide +kernel
theorem dX11_again_47 : decode cX11_again 47 = .ok (.bipush 48, 2) := by decide +kernel
theorem dX11_again_49 : decode cX11_again 49 = .ok (.iload_n 1, 1) := by decide +kernel
theorem dX11_again_50 : decode cX11_again 50 = .ok (.iadd, 1) := by decide +kernel
theorem dX11_again_51 : decode cX11_again 51 = .ok (.iconst 0, 1) := by decide +kernel
theorem dX11_again_52 : decode cX11_again 52 = .ok (.iastore, 1) := by decide +kernel
theorem dX11_again_53 : decode cX11_again 53 = .ok (.aload_n 0, 1) := by decide +kernel
theorem dX11_again_54 : decode cX11_again 54 = .ok (.getfield 51, 3) := by decide +kernel
theorem dX11_again_57 : decode cX11_again 57 = .ok (.iload_n 1, 1) := by decide +kernel
theorem dX11_again_58 : decode cX11_again 58 = .ok (.iconst 0, 1) := by decide +kernel
theorem dX11_again_59 : decode cX11_again 59 = .ok (.iastore, 1) := by decide +kernel
theorem dX11_again_60 : decode cX11_again 60 = .ok (.iinc 1 1, 3) := by decide +kernel
theorem dX11_again_63 : decode cX11_again 63 = .ok (.goto (-40), 3) := by decide +kernel
theorem dX11_again_66 : decode cX11_again 66 = .ok (.iconst 0, 1) := by decide +kernel
theorem dX11_again_67 : decode cX11_again 67 = .ok (.istore_n 1, 1) := by decide +kernel
theorem dX11_again_68 : decode cX11_again 68 = .ok (.iload_n 1, 1) := by decide +kernel
theorem dX11_again_69 : decode cX11_again 69 = .ok (.aload_n 0, 1) := by decide +kernel
theorem dX11_again_70 : decode cX11_again 70 = .ok (.getfield 7, 3) := by decide +kernel
theorem dX11_again_73 : decode cX11_again 73 = .ok (.sipush 208, 3) := by decide +kernel
theorem dX11_again_76 : decode cX11_again 76 = .ok (.iaload, 1) := by decide +kernel
theorem dX11_again_77 : decode cX11_again 77 = .ok (.if_icmp .ge 52, 3) := by decide +kernel
theorem dX11_again_80 : decode cX11_again 80 = .ok (.sipush 890, 3) := by decide +kernel
theorem dX11_again_83 : decode cX11_again 83 = .ok (.bipush 8, 2) := by decide +kernel
theorem dX11_again_85 : decode cX11_again 85 = .ok (.iload_n 1, 1) := by decide +kernel
theorem dX11_again_86 : decode cX11_again 86 = .ok (.imul, 1) := by decide +kernel
theorem dX11_again_87 : decode cX11_again 87 = .ok (.iadd, 1) := by decide +kernel
theorem dX11_again_88 : decode cX11_again 88 = .ok (.istore_n 2, 1) := by decide +kernel
theorem dX11_again_89 : decode cX11_again 89 = .ok (.aload_n 0, 1) := by decide +kernel
theorem dX11_again_90 : decode cX11_again 90 = .ok (.getfield 7, 3) := by decide +kernel
theorem dX11_again_93 : decode cX11_again 93 = .ok (.iload_n 2, 1) := by decide +kernel
theorem dX11_again_94 : decode cX11_again 94 = .ok (.bipush 6, 2) := by decide +kernel
theorem dX11_again_96 : decode cX11_again 96 = .ok (.iadd, 1) := by decide +kernel
theorem dX11_again_97 : decode cX11_again 97 = .ok (.iaload, 1) := by decide +kernel
theorem dX11_again_98 : decode cX11_again 98 = .ok (.i2l, 1) := by decide +kernel
theorem dX11_again_99 : decode cX11_again 99 = .ok (.lconst 1, 1) := by decide +kernel
theorem dX11_again_100 : decode cX11_again 100 = .ok (.ldc2_w 118, 3) := by decide +kernel
theorem dX11_again_103 : decode cX11_again 103 = .ok (.invokestatic 74, 3) := by decide +kernel
theorem dX11_again_106 : decode cX11_again 106 = .ok (.ifCond .eq 17, 3) := by decide +kernel
theorem dX11_again_109 : decode cX11_again 109 = .ok (.aload_n 0, 1) := by decide +kernel
theorem dX11_again_110 : decode cX11_again 110 = .ok (.iload_n 2, 1) := by decide +kernel
theorem dX11_again_111 : decode cX11_again 111 = .ok (.invokevirtual 219, 3) := by decide +kernel
theorem dX11_again_114 : decode cX11_again 114 = .ok (.ifCond .eq 9, 3) := by decide +kernel
theorem dX11_again_117 : decode cX11_again 117 = .ok (.aload_n 0, 1) := by decide +kernel
theorem dX11_again_118 : decode cX11_again 118 = .ok (.iload_n 1, 1) := by decide +kernel
theorem dX11_again_119 : decode cX11_again 119 = .ok (.invokevirtual 94, 3) := by decide +kernel
theorem dX11_again_122 : decode cX11_again 122 = .ok (.ireturn, 1) := by decide +kernel
theorem dX11_again_123 : decode cX11_again 123 = .ok (.iinc 1 1, 3) := by decide +kernel
theorem dX11_again_126 : decode cX11_again 126 = .ok (.goto (-58), 3) := by decide +kernel
theorem dX11_again_129 : decode cX11_again 129 = .ok (.aload_n 0, 1) := by decide +kernel
theorem dX11_again_130 : decode cX11_again 130 = .ok (.bipush (-6), 2) := by decide +kernel
theorem dX11_again_132 : decode cX11_again 132 = .ok (.invokevirtual 94, 3) := by decide +kernel
theorem dX11_again_135 : decode cX11_again 135 = .ok (.ireturn, 1) := by decide +kernel
set_option maxRecDepth 20000 in
theorem ggX11_isOther_X11_does : GoodIn wsX11_isOther wsX11_does := goodIn_r _ [12, 7, 6, 3, 2, 13, 14, 15, 16, 11, 17, 18, 19, 20, 21, 22, 23, 24, 25, 26, 27, 28, 29, 30, 31, 32, 33, 34, 35, 36, 37, 38, 39, 40, 41, 42, 43, 44, 45, 46, 47, 48, 49, 50] (by decide +kernel) (by decide +kernel)
set_option maxRecDepth 20000 in
theorem gX11_isOther_X11_does : GoodIn wsX11_isOther (wsV RX11 173 RX11 yX11_does wsX11_does) := goodIn_app (goodIn_of _ (by decide +kernel)) ggX11_isOther_X11_does
theorem dX11_isOther_0 : decode cX11_isOther 0 = .ok (.aload_n 0, 1) := by decide +kernel
theorem dX11_isOther_1 : decode cX11_isOther 1 = .ok (.getfield 7, 3) := by decide +kernel
theorem dX11_isOther_4 : decode cX11_isOther 4 = .ok (.iload_n 1, 1) := by decide +kernel
theorem dX11_isOther_5 : decode cX11_isOther 5 = .ok (.iconst 5, 1) := by decide +kernel
theorem dX11_isOther_6 : decode cX11_isOther 6 = .ok (.iadd, 1) := by decide +kernel
theorem dX11_isOther_7 : decode cX11_isOther 7 = .ok (.iaload, 1) := by decide +kernel
theorem dX11_isOther_8 : decode cX11_isOther 8 = .ok (.iconst 1, 1) := by decide +kernel
theorem dX11_isOther_9 : decode cX11_isOther 9 = .ok (.isub, 1) := by decide +kernel
theorem dX11_isOther_10 : decode cX11_isOther 10 = .ok (.istore_n 2, 1) := by decide +kernel
theorem dX11_isOther_11 : decode cX11_isOther 11 = .ok (.iconst 0, 1) := by decide +kernel
theorem dX11_isOther_12 : decode cX11_isOther 12 = .ok (.istore_n 3, 1) := by decide +kernel
theorem dX11_isOther_13 : decode cX11_isOther 13 = .ok (.iload_n 3, 1) := by decide +kernel
theorem dX11_isOther_14 : decode cX11_isOther 14 = .ok (.aload_n 0, 1) := by decide +kernel
theorem dX11_isOther_15 : decode cX11_isOther 15 = .ok (.getfield 69, 3) := by decide +kernel
theorem dX11_isOther_18 : decode cX11_isOther 18 = .ok (.if_icmp .ge 43, 3) := by decide +kernel
theorem dX11_isOther_21 : decode cX11_isOther 21 = .ok (.aload_n 0, 1) := by decide +kernel
theorem dX11_isOther_22 : decode cX11_isOther 22 = .ok (.getfield 29, 3) := by decide +kernel
theorem dX11_isOther_25 : decode cX11_isOther 25 = .ok (.iload_n 3, 1) := by decide +kernel
theorem dX11_isOther_26 : decode cX11_isOther 26 = .ok (.iaload, 1) := by decide +kernel
theorem dX11_isOther_27 : decode cX11_isOther 27 = .ok (.iconst 4, 1) := by decide +kernel
theorem dX11_isOther_28 : decode cX11_isOther 28 = .ok (.if_icmp .ne 27, 3) := by decide +kernel
theorem dX11_isOther_31 : decode cX11_isOther 31 = .ok (.aload_n 0, 1) := by decide +kernel
theorem dX11_isOther_32 : decode cX11_isOther 32 = .ok (.getfield 48, 3) := by decide +kernel
theorem dX11_isOther_35 : decode cX11_isOther 35 = .ok (.iload_n 3, 1) := by decide +kernel
theorem dX11_isOther_36 : decode cX11_isOther 36 = .ok (.dup2, 1) := by decide +kernel
theorem dX11_isOther_37 : decode cX11_isOther 37 = .ok (.iaload, 1) := by decide +kernel
theorem dX11_isOther_38 : decode cX11_isOther 38 = .ok (.iload_n 2, 1) := by decide +kernel
theorem dX11_isOther_39 : decode cX11_isOther 39 = .ok (.aload_n 0, 1) := by decide +kernel
theorem dX11_isOther_40 : decode cX11_isOther 40 = .ok (.getfield 51, 3) := by decide +kernel
theorem dX11_isOther_43 : decode cX11_isOther 43 = .ok (.iload_n 3, 1) := by decide +kernel
theorem dX11_isOther_44 : decode cX11_isOther 44 = .ok (.iaload, 1) := by decide +kernel
theorem dX11_isOther_45 : decode cX11_isOther 45 = .ok (.isub, 1) := by decide +kernel
theorem dX11_isOther_46 : decode cX11_isOther 46 = .ok (.iadd, 1) := by decide +kernel
theorem dX11_isOther_47 : decode cX11_isOther 47 = .ok (.iastore, 1) := by decide +kernel
theorem dX11_isOther_48 : decode cX11_isOther 48 = .ok (.aload_n 0, 1) := by decide +kernel
theorem dX11_isOther_49 : decode cX11_isOther 49 = .ok (.getfield 51, 3) := by decide +kernel
theorem dX11_isOther_52 : decode cX11_isOther 52 = .ok (.iload_n 3, 1) := by decide +kernel
theorem dX11_isOther_53 : decode cX11_isOther 53 = .ok (.iload_n 2, 1) := by decide +kernel
theorem dX11_isOther_54 : decode cX11_isOther 54 = .ok (.iastore, 1) := by decide +kernel
theorem dX11_isOther_55 : decode cX11_isOther 55 = .ok (.iinc 3 1, 3) := by decide +kernel
theorem dX11_isOther_58 : decode cX11_isOther 58 = .ok (.goto (-45), 3) := by decide +kernel
theorem dX11_isOther_61 : decode cX11_isOther 61 = .ok (.aload_n 0, 1) := by decide +kernel
theorem dX11_isOther_62 : decode cX11_isOther 62 = .ok (.aload_n 0, 1) := by decide +kernel
theorem dX11_isOther_63 : decode cX11_isOther 63 = .ok (.getfield 48, 3) := by decide +kernel
theorem dX11_isOther_66 : decode cX11_isOther 66 = .ok (.iconst 0, 1) := by decide +kernel
theorem dX11_isOther_67 : decode cX11_isOther 67 = .ok (.bipush 48, 2) := by decide +kernel
theorem dX11_isOther_69 : decode cX11_isOther 69 = .ok (.aload_n 0, 1) := by decide +kernel
theorem dX11_isOther_70 : decode cX11_isOther 70 = .ok (.getfield 7, 3) := by decide +kernel
theorem dX11_isOther_73 : decode cX11_isOther 73 = .ok (.iload_n 1, 1) := by decide +kernel
theorem dX11_isOther_74 : decode cX11_isOther 74 = .ok (.iaload, 1) := by decide +kernel
theorem dX11_isOther_75 : decode cX11_isOther 75 = .ok (.aload_n 0, 1) := by decide +kernel
theorem dX11_isOther_76 : decode cX11_isOther 76 = .ok (.getfield 7, 3) := by decide +kernel
theorem dX11_isOther_79 : decode cX11_isOther 79 = .ok (.iload_n 1, 1) := by decide +kernel
theorem dX11_isOther_80 : decode cX11_isOther 80 = .ok (.iconst 1, 1) := by decide +kernel
theorem dX11_isOther_81 : decode cX11_isOther 81 = .ok (.iadd, 1) := by decide +kernel
theorem dX11_isOther_82 : decode cX11_isOther 82 = .ok (.iaload, 1) := by decide +kernel
theorem dX11_isOther_83 : decode cX11_isOther 83 = .ok (.aload_n 0, 1) := by decide +kernel
theorem dX11_isOther_84 : decode cX11_isOther 84 = .ok (.getfield 7, 3) := by decide +kernel
theorem dX11_isOther_87 : decode cX11_isOther 87 = .ok (.iload_n 1, 1) := by decide +kernel
theorem dX11_isOther_88 : decode cX11_isOther 88 = .ok (.iconst 2, 1) := by decide +kernel
theorem dX11_isOther_89 : decode cX11_isOther 89 = .ok (.iadd, 1) := by decide +kernel
theorem dX11_isOther_90 : decode cX11_isOther 90 = .ok (.iaload, 1) := by decide +kernel
theorem dX11_isOther_91 : decode cX11_isOther 91 = .ok (.iconst 1, 1) := by decide +kernel
theorem dX11_isOther_92 : decode cX11_isOther 92 = .ok (.if_icmp .ne 7, 3) := by decide +kernel
theorem dX11_isOther_95 : decode cX11_isOther 95 = .ok (.iconst 1, 1) := by decide +kernel
theorem dX11_isOther_96 : decode cX11_isOther 96 = .ok (.goto 4, 3) := by decide +kernel
theorem dX11_isOther_99 : decode cX11_isOther 99 = .ok (.iconst 0, 1) := by decide +kernel
theorem dX11_isOther_100 : decode cX11_isOther 100 = .ok (.aload_n 0, 1) := by decide +kernel
theorem dX11_isOther_101 : decode cX11_isOther 101 = .ok (.getfield 7, 3) := by decide +kernel
theorem dX11_isOther_104 : decode cX11_isOther 104 = .ok (.iload_n 1, 1) := by decide +kernel
theorem dX11_isOther_105 : decode cX11_isOther 105 = .ok (.iconst 3, 1) := by decide +kernel
theorem dX11_isOther_106 : decode cX11_isOther 106 = .ok (.iadd, 1) := by decide +kernel
theorem dX11_isOther_107 : decode cX11_isOther 107 = .ok (.iaload, 1) := by decide +kernel
theorem dX11_isOther_108 : decode cX11_isOther 108 = .ok (.invokevirtual 173, 3) := by decide +kernel
theorem dX11_isOther_111 : decode cX11_isOther 111 = .ok (.istore_n 3, 1) := by decide +kernel
theorem dX11_isOther_112 : decode cX11_isOther 112 = .ok (.aload_n 0, 1) := by decide +kernel
theorem dX11_isOther_113 : decode cX11_isOther 113 = .ok (.getfield 167, 3) := by decide +kernel
theorem dX11_isOther_116 : decode cX11_isOther 116 = .ok (.ifCond .lt 15, 3) := by decide +kernel
theorem dX11_isOther_119 : decode cX11_isOther 119 = .ok (.aload_n 0, 1) := by decide +kernel
theorem dX11_isOther_120 : decode cX11_isOther 120 = .ok (.getfield 51, 3) := by decide +kernel
theorem dX11_isOther_123 : decode cX11_isOther 123 = .ok (.aload_n 0, 1) := by decide +kernel
theorem dX11_isOther_124 : decode cX11_isOther 124 = .ok (.getfield 167, 3) := by decide +kernel
theorem dX11_isOther_127 : decode cX11_isOther 127 = .ok (.iload_n 2, 1) := by decide +kernel
theorem dX11_isOther_128 : decode cX11_isOther 128 = .ok (.iconst 1, 1) := by decide +kernel
theorem dX11_isOther_129 : decode cX11_isOther 129 = .ok (.iadd, 1) := by decide +kernel
theorem dX11_isOther_130 : decode cX11_isOther 130 = .ok (.iastore, 1) := by decide +kernel
theorem dX11_isOther_131 : decode cX11_isOther 131 = .ok (.iload_n 3, 1) := by decide +kernel
theorem dX11_isOther_132 : decode cX11_isOther 132 = .ok (.aload_n 0, 1) := by decide +kernel
theorem dX11_isOther_133 : decode cX11_isOther 133 = .ok (.getfield 7, 3) := by decide +kernel
theorem dX11_isOther_136 : decode cX11_isOther 136 = .ok (.iload_n 1, 1) := by decide +kernel
theorem dX11_isOther_137 : decode cX11_isOther 137 = .ok (.bipush 6, 2) := by decide +kernel
theorem dX11_isOther_139 : decode cX11_isOther 139 = .ok (.iadd, 1) := by decide +kernel
theorem dX11_isOther_140 : decode cX11_isOther 140 = .ok (.iaload, 1) := by decide +kernel
theorem dX11_isOther_141 : decode cX11_isOther 141 = .ok (.iconst 2, 1) := by decide +kernel
theorem dX11_isOther_142 : decode cX11_isOther 142 = .ok (.if_icmp .ne 7, 3) := by decide +kernel
theorem dX11_isOther_145 : decode cX11_isOther 145 = .ok (.iconst 1, 1) := by decide +kernel
theorem dX11_isOther_146 : decode cX11_isOther 146 = .ok (.goto 4, 3) := by decide +kernel
theorem dX11_isOther_149 : decode cX11_isOther 149 = .ok (.iconst 0, 1) := by decide +kernel
theorem dX11_isOther_150 : decode cX11_isOther 150 = .ok (.if_icmp .ne 42, 3) := by decide +kernel
theorem dX11_isOther_153 : decode cX11_isOther 153 = .ok (.aload_n 0, 1) := by decide +kernel
theorem dX11_isOther_154 : decode cX11_isOther 154 = .ok (.getfield 7, 3) := by decide +kernel
theorem dX11_isOther_157 : decode cX11_isOther 157 = .ok (.iload_n 1, 1) := by decide +kernel
theorem dX11_isOther_158 : decode cX11_isOther 158 = .ok (.iconst 2, 1) := by decide +kernel
theorem dX11_isOther_159 : decode cX11_isOther 159 = .ok (.iadd, 1) := by decide +kernel
theorem dX11_isOther_160 : decode cX11_isOther 160 = .ok (.iaload, 1) := by decide +kernel
theorem dX11_isOther_161 : decode cX11_isOther 161 = .ok (.ifCond .ne 35, 3) := by decide +kernel
theorem dX11_isOther_164 : decode cX11_isOther 164 = .ok (.aload_n 0, 1) := by decide +kernel
theorem dX11_isOther_165 : decode cX11_isOther 165 = .ok (.getfield 7, 3) := by decide +kernel
theorem dX11_isOther_168 : decode cX11_isOther 168 = .ok (.iload_n 1, 1) := by decide +kernel
theorem dX11_isOther_169 : decode cX11_isOther 169 = .ok (.bipush 6, 2) := by decide +kernel
theorem dX11_isOther_171 : decode cX11_isOther 171 = .ok (.iadd, 1) := by decide +kernel
theorem dX11_isOther_172 : decode cX11_isOther 172 = .ok (.iaload, 1) := by decide +kernel
theorem dX11_isOther_173 : decode cX11_isOther 173 = .ok (.iconst 1, 1) := by decide +kernel
theorem dX11_isOther_174 : decode cX11_isOther 174 = .ok (.if_icmp .ne 22, 3) := by decide +kernel
theorem dX11_isOther_177 : decode cX11_isOther 177 = .ok (.aload_n 0, 1) := by decide +kernel
theorem dX11_isOther_178 : decode cX11_isOther 178 = .ok (.getfield 164, 3) := by decide +kernel
theorem dX11_isOther_181 : decode cX11_isOther 181 = .ok (.aload_n 0, 1) := by decide +kernel
theorem dX11_isOther_182 : decode cX11_isOther 182 = .ok (.getfield 7, 3) := by decide +kernel
theorem dX11_isOther_185 : decode cX11_isOther 185 = .ok (.iload_n 1, 1) := by decide +kernel
theorem dX11_isOther_186 : decode cX11_isOther 186 = .ok (.iconst 3, 1) := by decide +kernel
theorem dX11_isOther_187 : decode cX11_isOther 187 = .ok (.iadd, 1) := by decide +kernel
theorem dX11_isOther_188 : decode cX11_isOther 188 = .ok (.iaload, 1) := by decide +kernel
theorem dX11_isOther_189 : decode cX11_isOther 189 = .ok (.if_icmp .eq 7, 3) := by decide +kernel
theorem dX11_isOther_192 : decode cX11_isOther 192 = .ok (.iconst 1, 1) := by decide +kernel
theorem dX11_isOther_193 : decode cX11_isOther 193 = .ok (.goto 4, 3) := by decide +kernel
theorem dX11_isOther_196 : decode cX11_isOther 196 = .ok (.iconst 0, 1) := by decide +kernel
theorem dX11_isOther_197 : decode cX11_isOther 197 = .ok (.ireturn, 1) := by decide +kernel
set_option maxRecDepth 20000 in
theorem ggX11_keep_X11_in : GoodIn wsX11_keep wsX11_in := goodIn_r _ [10] (by decide +kernel) (by decide +kernel)
set_option maxRecDepth 20000 in
theorem gX11_keep_X11_in : GoodIn wsX11_keep (va_wsS RX11 74 yX11_in wsX11_in) := goodIn_app (goodIn_of _ (by decide +kernel)) ggX11_keep_X11_in
set_option maxRecDepth 20000 in
theorem ggX11_keep_X11_refused : GoodIn wsX11_keep wsX11_refused := goodIn_r _ [14, 15, 20, 21, 22, 23, 24, 25, 26, 27, 28, 29, 30, 31, 32, 33, 34, 35, 36, 37, 38, 39, 40, 41, 42, 43] (by decide +kernel) (by decide +kernel)
set_option maxRecDepth 20000 in
theorem gX11_keep_X11_refused : GoodIn wsX11_keep (wsV RX11 84 RX11 yX11_refused wsX11_refused) := goodIn_app (goodIn_of _ (by decide +kernel)) ggX11_keep_X11_refused
set_option maxRecDepth 20000 in
theorem ggX11_keep_X11_done : GoodIn wsX11_keep wsX11_done := goodIn_r _ [19, 15, 20, 21, 22, 23, 24, 25, 26, 27, 28, 29, 30, 31, 32, 33, 34, 35, 36, 37, 38, 39, 40, 41, 42, 43] (by decide +kernel) (by decide +kernel)
set_option maxRecDepth 20000 in
theorem gX11_keep_X11_done : GoodIn wsX11_keep (wsV RX11 94 RX11 yX11_done wsX11_done) := goodIn_app (goodIn_of _ (by decide +kernel)) ggX11_keep_X11_done
theorem dX11_keep_0 : decode cX11_keep 0 = .ok (.iload_n 1, 1) := by decide +kernel
theorem dX11_keep_1 : decode cX11_keep 1 = .ok (.i2l, 1) := by decide +kernel
theorem dX11_keep_2 : decode cX11_keep 2 = .ok (.lconst 0, 1) := by decide +kernel
theorem dX11_keep_3 : decode cX11_keep 3 = .ok (.ldc2_w 118, 3) := by decide +kernel
theorem dX11_keep_6 : decode cX11_keep 6 = .ok (.invokestatic 74, 3) := by decide +kernel
theorem dX11_keep_9 : decode cX11_keep 9 = .ok (.ifCond .ne 9, 3) := by decide +kernel
theorem dX11_keep_12 : decode cX11_keep 12 = .ok (.aload_n 0, 1) := by decide +kernel
theorem dX11_keep_13 : decode cX11_keep 13 = .ok (.iconst (-1), 1) := by decide +kernel
theorem dX11_keep_14 : decode cX11_keep 14 = .ok (.invokevirtual 84, 3) := by decide +kernel
theorem dX11_keep_17 : decode cX11_keep 17 = .ok (.ireturn, 1) := by decide +kernel
theorem dX11_keep_18 : decode cX11_keep 18 = .ok (.iconst 0, 1) := by decide +kernel
theorem dX11_keep_19 : decode cX11_keep 19 = .ok (.istore_n 2, 1) := by decide +kernel
theorem dX11_keep_20 : decode cX11_keep 20 = .ok (.iload_n 2, 1) := by decide +kernel
theorem dX11_keep_21 : decode cX11_keep 21 = .ok (.sipush 2490, 3) := by decide +kernel
theorem dX11_keep_24 : decode cX11_keep 24 = .ok (.if_icmp .ge 27, 3) := by decide +kernel
theorem dX11_keep_27 : decode cX11_keep 27 = .ok (.aload_n 0, 1) := by decide +kernel
theorem dX11_keep_28 : decode cX11_keep 28 = .ok (.getfield 54, 3) := by decide +kernel
theorem dX11_keep_31 : decode cX11_keep 31 = .ok (.sipush 2490, 3) := by decide +kernel
theorem dX11_keep_34 : decode cX11_keep 34 = .ok (.iload_n 1, 1) := by decide +kernel
theorem dX11_keep_35 : decode cX11_keep 35 = .ok (.imul, 1) := by decide +kernel
theorem dX11_keep_36 : decode cX11_keep 36 = .ok (.iload_n 2, 1) := by decide +kernel
theorem dX11_keep_37 : decode cX11_keep 37 = .ok (.iadd, 1) := by decide +kernel
theorem dX11_keep_38 : decode cX11_keep 38 = .ok (.aload_n 0, 1) := by decide +kernel
theorem dX11_keep_39 : decode cX11_keep 39 = .ok (.getfield 7, 3) := by decide +kernel
theorem dX11_keep_42 : decode cX11_keep 42 = .ok (.iload_n 2, 1) := by decide +kernel
theorem dX11_keep_43 : decode cX11_keep 43 = .ok (.iaload, 1) := by decide +kernel
theorem dX11_keep_44 : decode cX11_keep 44 = .ok (.iastore, 1) := by decide +kernel
theorem dX11_keep_45 : decode cX11_keep 45 = .ok (.iinc 2 1, 3) := by decide +kernel
theorem dX11_keep_48 : decode cX11_keep 48 = .ok (.goto (-28), 3) := by decide +kernel
theorem dX11_keep_51 : decode cX11_keep 51 = .ok (.aload_n 0, 1) := by decide +kernel
theorem dX11_keep_52 : decode cX11_keep 52 = .ok (.getfield 57, 3) := by decide +kernel
theorem dX11_keep_55 : decode cX11_keep 55 = .ok (.iload_n 1, 1) := by decide +kernel
theorem dX11_keep_56 : decode cX11_keep 56 = .ok (.aload_n 0, 1) := by decide +kernel
theorem dX11_keep_57 : decode cX11_keep 57 = .ok (.getfield 91, 3) := by decide +kernel
theorem dX11_keep_60 : decode cX11_keep 60 = .ok (.iastore, 1) := by decide +kernel
theorem dX11_keep_61 : decode cX11_keep 61 = .ok (.aload_n 0, 1) := by decide +kernel
theorem dX11_keep_62 : decode cX11_keep 62 = .ok (.getfield 60, 3) := by decide +kernel
theorem dX11_keep_65 : decode cX11_keep 65 = .ok (.iload_n 1, 1) := by decide +kernel
theorem dX11_keep_66 : decode cX11_keep 66 = .ok (.iconst 1, 1) := by decide +kernel
theorem dX11_keep_67 : decode cX11_keep 67 = .ok (.bastore, 1) := by decide +kernel
theorem dX11_keep_68 : decode cX11_keep 68 = .ok (.aload_n 0, 1) := by decide +kernel
theorem dX11_keep_69 : decode cX11_keep 69 = .ok (.iconst 1, 1) := by decide +kernel
theorem dX11_keep_70 : decode cX11_keep 70 = .ok (.invokevirtual 94, 3) := by decide +kernel
theorem dX11_keep_73 : decode cX11_keep 73 = .ok (.ireturn, 1) := by decide +kernel
set_option maxRecDepth 20000 in
theorem ggX11_whyNot_X11_in : GoodIn wsX11_whyNot wsX11_in := goodIn_r _ [8] (by decide +kernel) (by decide +kernel)
set_option maxRecDepth 20000 in
theorem gX11_whyNot_X11_in : GoodIn wsX11_whyNot (va_wsS RX11 74 yX11_in wsX11_in) := goodIn_app (goodIn_of _ (by decide +kernel)) ggX11_whyNot_X11_in
theorem dX11_whyNot_0 : decode cX11_whyNot 0 = .ok (.iload_n 1, 1) := by decide +kernel
theorem dX11_whyNot_1 : decode cX11_whyNot 1 = .ok (.i2l, 1) := by decide +kernel
theorem dX11_whyNot_2 : decode cX11_whyNot 2 = .ok (.lconst 0, 1) := by decide +kernel
theorem dX11_whyNot_3 : decode cX11_whyNot 3 = .ok (.ldc2_w 118, 3) := by decide +kernel
theorem dX11_whyNot_6 : decode cX11_whyNot 6 = .ok (.invokestatic 74, 3) := by decide +kernel
theorem dX11_whyNot_9 : decode cX11_whyNot 9 = .ok (.ifCond .eq 12, 3) := by decide +kernel
theorem dX11_whyNot_12 : decode cX11_whyNot 12 = .ok (.aload_n 0, 1) := by decide +kernel
theorem dX11_whyNot_13 : decode cX11_whyNot 13 = .ok (.getfield 60, 3) := by decide +kernel
theorem dX11_whyNot_16 : decode cX11_whyNot 16 = .ok (.iload_n 1, 1) := by decide +kernel
theorem dX11_whyNot_17 : decode cX11_whyNot 17 = .ok (.baload, 1) := by decide +kernel
theorem dX11_whyNot_18 : decode cX11_whyNot 18 = .ok (.ifCond .ne 7, 3) := by decide +kernel
theorem dX11_whyNot_21 : decode cX11_whyNot 21 = .ok (.iconst (-1), 1) := by decide +kernel
theorem dX11_whyNot_22 : decode cX11_whyNot 22 = .ok (.goto 22, 3) := by decide +kernel
theorem dX11_whyNot_25 : decode cX11_whyNot 25 = .ok (.aload_n 0, 1) := by decide +kernel
theorem dX11_whyNot_26 : decode cX11_whyNot 26 = .ok (.getfield 57, 3) := by decide +kernel
theorem dX11_whyNot_29 : decode cX11_whyNot 29 = .ok (.iload_n 1, 1) := by decide +kernel
theorem dX11_whyNot_30 : decode cX11_whyNot 30 = .ok (.iaload, 1) := by decide +kernel
theorem dX11_whyNot_31 : decode cX11_whyNot 31 = .ok (.aload_n 0, 1) := by decide +kernel
theorem dX11_whyNot_32 : decode cX11_whyNot 32 = .ok (.getfield 91, 3) := by decide +kernel
theorem dX11_whyNot_35 : decode cX11_whyNot 35 = .ok (.if_icmp .eq 8, 3) := by decide +kernel
theorem dX11_whyNot_38 : decode cX11_whyNot 38 = .ok (.bipush (-3), 2) := by decide +kernel
theorem dX11_whyNot_40 : decode cX11_whyNot 40 = .ok (.goto 4, 3) := by decide +kernel
theorem dX11_whyNot_43 : decode cX11_whyNot 43 = .ok (.iconst 0, 1) := by decide +kernel
theorem dX11_whyNot_44 : decode cX11_whyNot 44 = .ok (.ireturn, 1) := by decide +kernel
set_option maxRecDepth 20000 in
theorem ggX11_back_X11_whyNot : GoodIn wsX11_back wsX11_whyNot := goodIn_r _ [7, 8, 9, 10, 11, 12, 13, 6, 14, 24, 25, 26, 27, 28, 29, 30, 31, 32, 33, 34, 35, 36, 37, 38, 39, 40, 41, 42, 43, 44, 45, 46, 47] (by decide +kernel) (by decide +kernel)
set_option maxRecDepth 20000 in
theorem gX11_back_X11_whyNot : GoodIn wsX11_back (wsV RX11 222 RX11 yX11_whyNot wsX11_whyNot) := goodIn_app (goodIn_of _ (by decide +kernel)) ggX11_back_X11_whyNot
set_option maxRecDepth 20000 in
theorem ggX11_back_X11_refused : GoodIn wsX11_back wsX11_refused := goodIn_r _ [18, 19, 24, 25, 26, 27, 28, 29, 30, 31, 32, 33, 34, 35, 36, 37, 38, 39, 40, 41, 42, 43, 44, 45, 46, 47] (by decide +kernel) (by decide +kernel)
set_option maxRecDepth 20000 in
theorem gX11_back_X11_refused : GoodIn wsX11_back (wsV RX11 84 RX11 yX11_refused wsX11_refused) := goodIn_app (goodIn_of _ (by decide +kernel)) ggX11_back_X11_refused
set_option maxRecDepth 20000 in
theorem ggX11_back_X11_done : GoodIn wsX11_back wsX11_done := goodIn_r _ [23, 19, 24, 25, 26, 27, 28, 29, 30, 31, 32, 33, 34, 35, 36, 37, 38, 39, 40, 41, 42, 43, 44, 45, 46, 47] (by decide +kernel) (by decide +kernel)
set_option maxRecDepth 20000 in
theorem gX11_back_X11_done : GoodIn wsX11_back (wsV RX11 94 RX11 yX11_done wsX11_done) := goodIn_app (goodIn_of _ (by decide +kernel)) ggX11_back_X11_done
theorem dX11_back_0 : decode cX11_back 0 = .ok (.aload_n 0, 1) := by decide +kernel
theorem dX11_back_1 : decode cX11_back 1 = .ok (.iload_n 1, 1) := by decide +kernel
theorem dX11_back_2 : decode cX11_back 2 = .ok (.invokevirtual 222, 3) := by decide +kernel
theorem dX11_back_5 : decode cX11_back 5 = .ok (.istore_n 2, 1) := by decide +kernel
theorem dX11_back_6 : decode cX11_back 6 = .ok (.iload_n 2, 1) := by decide +kernel
theorem dX11_back_7 : decode cX11_back 7 = .ok (.ifCond .ge 9, 3) := by decide +kernel
theorem dX11_back_10 : decode cX11_back 10 = .ok (.aload_n 0, 1) := by decide +kernel
theorem dX11_back_11 : decode cX11_back 11 = .ok (.iload_n 2, 1) := by decide +kernel
theorem dX11_back_12 : decode cX11_back 12 = .ok (.invokevirtual 84, 3) := by decide +kernel
theorem dX11_back_15 : decode cX11_back 15 = .ok (.ireturn, 1) := by decide +kernel
theorem dX11_back_16 : decode cX11_back 16 = .ok (.iconst 0, 1) := by decide +kernel
theorem dX11_back_17 : decode cX11_back 17 = .ok (.istore_n 3, 1) := by decide +kernel
theorem dX11_back_18 : decode cX11_back 18 = .ok (.iload_n 3, 1) := by decide +kernel
theorem dX11_back_19 : decode cX11_back 19 = .ok (.sipush 2490, 3) := by decide +kernel
theorem dX11_back_22 : decode cX11_back 22 = .ok (.if_icmp .ge 27, 3) := by decide +kernel
theorem dX11_back_25 : decode cX11_back 25 = .ok (.aload_n 0, 1) := by decide +kernel
theorem dX11_back_26 : decode cX11_back 26 = .ok (.getfield 7, 3) := by decide +kernel
theorem dX11_back_29 : decode cX11_back 29 = .ok (.iload_n 3, 1) := by decide +kernel
theorem dX11_back_30 : decode cX11_back 30 = .ok (.aload_n 0, 1) := by decide +kernel
theorem dX11_back_31 : decode cX11_back 31 = .ok (.getfield 54, 3) := by decide +kernel
theorem dX11_back_34 : decode cX11_back 34 = .ok (.sipush 2490, 3) := by decide +kernel
theorem dX11_back_37 : decode cX11_back 37 = .ok (.iload_n 1, 1) := by decide +kernel
theorem dX11_back_38 : decode cX11_back 38 = .ok (.imul, 1) := by decide +kernel
theorem dX11_back_39 : decode cX11_back 39 = .ok (.iload_n 3, 1) := by decide +kernel
theorem dX11_back_40 : decode cX11_back 40 = .ok (.iadd, 1) := by decide +kernel
theorem dX11_back_41 : decode cX11_back 41 = .ok (.iaload, 1) := by decide +kernel
theorem dX11_back_42 : decode cX11_back 42 = .ok (.iastore, 1) := by decide +kernel
theorem dX11_back_43 : decode cX11_back 43 = .ok (.iinc 3 1, 3) := by decide +kernel
theorem dX11_back_46 : decode cX11_back 46 = .ok (.goto (-28), 3) := by decide +kernel
theorem dX11_back_49 : decode cX11_back 49 = .ok (.aload_n 0, 1) := by decide +kernel
theorem dX11_back_50 : decode cX11_back 50 = .ok (.aload_n 0, 1) := by decide +kernel
theorem dX11_back_51 : decode cX11_back 51 = .ok (.getfield 7, 3) := by decide +kernel
theorem dX11_back_54 : decode cX11_back 54 = .ok (.sipush 179, 3) := by decide +kernel
theorem dX11_back_57 : decode cX11_back 57 = .ok (.iaload, 1) := by decide +kernel
theorem dX11_back_58 : decode cX11_back 58 = .ok (.invokevirtual 94, 3) := by decide +kernel
theorem dX11_back_61 : decode cX11_back 61 = .ok (.ireturn, 1) := by decide +kernel
set_option maxRecDepth 20000 in
theorem ggX11_differs_X11_whyNot : GoodIn wsX11_differs wsX11_whyNot := goodIn_r _ [8, 9, 10, 11, 12, 13, 14, 7, 15, 25, 26, 27, 28, 29, 30, 31, 32, 33, 34, 35, 36, 37, 38, 39, 40, 41, 42, 43, 44, 45, 46, 47, 48] (by decide +kernel) (by decide +kernel)
set_option maxRecDepth 20000 in
theorem gX11_differs_X11_whyNot : GoodIn wsX11_differs (wsV RX11 222 RX11 yX11_whyNot wsX11_whyNot) := goodIn_app (goodIn_of _ (by decide +kernel)) ggX11_differs_X11_whyNot
set_option maxRecDepth 20000 in
theorem ggX11_differs_X11_refused : GoodIn wsX11_differs wsX11_refused := goodIn_r _ [19, 20, 25, 26, 27, 28, 29, 30, 31, 32, 33, 34, 35, 36, 37, 38, 39, 40, 41, 42, 43, 44, 45, 46, 47, 48] (by decide +kernel) (by decide +kernel)
set_option maxRecDepth 20000 in
theorem gX11_differs_X11_refused : GoodIn wsX11_differs (wsV RX11 84 RX11 yX11_refused wsX11_refused) := goodIn_app (goodIn_of _ (by decide +kernel)) ggX11_differs_X11_refused
set_option maxRecDepth 20000 in
theorem ggX11_differs_X11_done : GoodIn wsX11_differs wsX11_done := goodIn_r _ [24, 20, 25, 26, 27, 28, 29, 30, 31, 32, 33, 34, 35, 36, 37, 38, 39, 40, 41, 42, 43, 44, 45, 46, 47, 48] (by decide +kernel) (by decide +kernel)
set_option maxRecDepth 20000 in
theorem gX11_differs_X11_done : GoodIn wsX11_differs (wsV RX11 94 RX11 yX11_done wsX11_done) := goodIn_app (goodIn_of _ (by decide +kernel)) ggX11_differs_X11_done
theorem dX11_differs_0 : decode cX11_differs 0 = .ok (.aload_n 0, 1) := by decide +kernel
theorem dX11_differs_1 : decode cX11_differs 1 = .ok (.iload_n 1, 1) := by decide +kernel
theorem dX11_differs_2 : decode cX11_differs 2 = .ok (.invokevirtual 222, 3) := by decide +kernel
theorem dX11_differs_5 : decode cX11_differs 5 = .ok (.istore_n 2, 1) := by decide +kernel
theorem dX11_differs_6 : decode cX11_differs 6 = .ok (.iload_n 2, 1) := by decide +kernel
theorem dX11_differs_7 : decode cX11_differs 7 = .ok (.ifCond .ge 9, 3) := by decide +kernel
theorem dX11_differs_10 : decode cX11_differs 10 = .ok (.aload_n 0, 1) := by decide +kernel
theorem dX11_differs_11 : decode cX11_differs 11 = .ok (.iload_n 2, 1) := by decide +kernel
theorem dX11_differs_12 : decode cX11_differs 12 = .ok (.invokevirtual 84, 3) := by decide +kernel
theorem dX11_differs_15 : decode cX11_differs 15 = .ok (.ireturn, 1) := by decide +kernel
theorem dX11_differs_16 : decode cX11_differs 16 = .ok (.iconst 0, 1) := by decide +kernel
theorem dX11_differs_17 : decode cX11_differs 17 = .ok (.istore_n 3, 1) := by decide +kernel
theorem dX11_differs_18 : decode cX11_differs 18 = .ok (.iload_n 3, 1) := by decide +kernel
theorem dX11_differs_19 : decode cX11_differs 19 = .ok (.bipush 15, 2) := by decide +kernel
theorem dX11_differs_21 : decode cX11_differs 21 = .ok (.if_icmp .ge 36, 3) := by decide +kernel
theorem dX11_differs_24 : decode cX11_differs 24 = .ok (.aload_n 0, 1) := by decide +kernel
theorem dX11_differs_25 : decode cX11_differs 25 = .ok (.getfield 7, 3) := by decide +kernel
theorem dX11_differs_28 : decode cX11_differs 28 = .ok (.iload_n 3, 1) := by decide +kernel
theorem dX11_differs_29 : decode cX11_differs 29 = .ok (.iaload, 1) := by decide +kernel
theorem dX11_differs_30 : decode cX11_differs 30 = .ok (.aload_n 0, 1) := by decide +kernel
theorem dX11_differs_31 : decode cX11_differs 31 = .ok (.getfield 54, 3) := by decide +kernel
theorem dX11_differs_34 : decode cX11_differs 34 = .ok (.sipush 2490, 3) := by decide +kernel
theorem dX11_differs_37 : decode cX11_differs 37 = .ok (.iload_n 1, 1) := by decide +kernel
