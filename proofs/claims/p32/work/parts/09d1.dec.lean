theorem dX0_copyFrom_39 : decode cX0_copyFrom 39 = .ok (.getfield 18, 3) := by decide +kernel
theorem dX0_copyFrom_42 : decode cX0_copyFrom 42 = .ok (.aload_n 0, 1) := by decide +kernel
theorem dX0_copyFrom_43 : decode cX0_copyFrom 43 = .ok (.getfield 18, 3) := by decide +kernel
theorem dX0_copyFrom_46 : decode cX0_copyFrom 46 = .ok (.invokestatic 135, 3) := by decide +kernel
theorem dX0_copyFrom_49 : decode cX0_copyFrom 49 = .ok (.aload_n 1, 1) := by decide +kernel
theorem dX0_copyFrom_50 : decode cX0_copyFrom 50 = .ok (.getfield 21, 3) := by decide +kernel
theorem dX0_copyFrom_53 : decode cX0_copyFrom 53 = .ok (.aload_n 0, 1) := by decide +kernel
theorem dX0_copyFrom_54 : decode cX0_copyFrom 54 = .ok (.getfield 21, 3) := by decide +kernel
theorem dX0_copyFrom_57 : decode cX0_copyFrom 57 = .ok (.invokestatic 135, 3) := by decide +kernel
theorem dX0_copyFrom_60 : decode cX0_copyFrom 60 = .ok (.aload_n 1, 1) := by decide +kernel
theorem dX0_copyFrom_61 : decode cX0_copyFrom 61 = .ok (.getfield 24, 3) := by decide +kernel
theorem dX0_copyFrom_64 : decode cX0_copyFrom 64 = .ok (.aload_n 0, 1) := by decide +kernel
theorem dX0_copyFrom_65 : decode cX0_copyFrom 65 = .ok (.getfield 24, 3) := by decide +kernel
theorem dX0_copyFrom_68 : decode cX0_copyFrom 68 = .ok (.invokestatic 135, 3) := by decide +kernel
theorem dX0_copyFrom_71 : decode cX0_copyFrom 71 = .ok (.aload_n 1, 1) := by decide +kernel
theorem dX0_copyFrom_72 : decode cX0_copyFrom 72 = .ok (.getfield 27, 3) := by decide +kernel
theorem dX0_copyFrom_75 : decode cX0_copyFrom 75 = .ok (.aload_n 0, 1) := by decide +kernel
theorem dX0_copyFrom_76 : decode cX0_copyFrom 76 = .ok (.getfield 27, 3) := by decide +kernel
theorem dX0_copyFrom_79 : decode cX0_copyFrom 79 = .ok (.invokestatic 135, 3) := by decide +kernel
theorem dX0_copyFrom_82 : decode cX0_copyFrom 82 = .ok (.aload_n 1, 1) := by decide +kernel
theorem dX0_copyFrom_83 : decode cX0_copyFrom 83 = .ok (.getfield 30, 3) := by decide +kernel
theorem dX0_copyFrom_86 : decode cX0_copyFrom 86 = .ok (.aload_n 0, 1) := by decide +kernel
theorem dX0_copyFrom_87 : decode cX0_copyFrom 87 = .ok (.getfield 30, 3) := by decide +kernel
theorem dX0_copyFrom_90 : decode cX0_copyFrom 90 = .ok (.invokestatic 135, 3) := by decide +kernel
theorem dX0_copyFrom_93 : decode cX0_copyFrom 93 = .ok (.aload_n 0, 1) := by decide +kernel
theorem dX0_copyFrom_94 : decode cX0_copyFrom 94 = .ok (.getfield 36, 3) := by decide +kernel
theorem dX0_copyFrom_97 : decode cX0_copyFrom 97 = .ok (.aload_n 1, 1) := by decide +kernel
theorem dX0_copyFrom_98 : decode cX0_copyFrom 98 = .ok (.getfield 36, 3) := by decide +kernel
theorem dX0_copyFrom_101 : decode cX0_copyFrom 101 = .ok (.invokevirtual 139, 3) := by decide +kernel
theorem dX0_copyFrom_104 : decode cX0_copyFrom 104 = .ok (.aload_n 0, 1) := by decide +kernel
theorem dX0_copyFrom_105 : decode cX0_copyFrom 105 = .ok (.getfield 40, 3) := by decide +kernel
theorem dX0_copyFrom_108 : decode cX0_copyFrom 108 = .ok (.aload_n 1, 1) := by decide +kernel
theorem dX0_copyFrom_109 : decode cX0_copyFrom 109 = .ok (.getfield 40, 3) := by decide +kernel
theorem dX0_copyFrom_112 : decode cX0_copyFrom 112 = .ok (.invokevirtual 139, 3) := by decide +kernel
theorem dX0_copyFrom_115 : decode cX0_copyFrom 115 = .ok (.aload_n 0, 1) := by decide +kernel
theorem dX0_copyFrom_116 : decode cX0_copyFrom 116 = .ok (.getfield 43, 3) := by decide +kernel
theorem dX0_copyFrom_119 : decode cX0_copyFrom 119 = .ok (.aload_n 1, 1) := by decide +kernel
theorem dX0_copyFrom_120 : decode cX0_copyFrom 120 = .ok (.getfield 43, 3) := by decide +kernel
theorem dX0_copyFrom_123 : decode cX0_copyFrom 123 = .ok (.invokevirtual 139, 3) := by decide +kernel
theorem dX0_copyFrom_126 : decode cX0_copyFrom 126 = .ok (.aload_n 0, 1) := by decide +kernel
theorem dX0_copyFrom_127 : decode cX0_copyFrom 127 = .ok (.getfield 46, 3) := by decide +kernel
theorem dX0_copyFrom_130 : decode cX0_copyFrom 130 = .ok (.aload_n 1, 1) := by decide +kernel
theorem dX0_copyFrom_131 : decode cX0_copyFrom 131 = .ok (.getfield 46, 3) := by decide +kernel
theorem dX0_copyFrom_134 : decode cX0_copyFrom 134 = .ok (.invokevirtual 139, 3) := by decide +kernel
theorem dX0_copyFrom_137 : decode cX0_copyFrom 137 = .ok (.aload_n 0, 1) := by decide +kernel
theorem dX0_copyFrom_138 : decode cX0_copyFrom 138 = .ok (.getfield 52, 3) := by decide +kernel
theorem dX0_copyFrom_141 : decode cX0_copyFrom 141 = .ok (.aload_n 1, 1) := by decide +kernel
theorem dX0_copyFrom_142 : decode cX0_copyFrom 142 = .ok (.getfield 52, 3) := by decide +kernel
theorem dX0_copyFrom_145 : decode cX0_copyFrom 145 = .ok (.invokevirtual 143, 3) := by decide +kernel
theorem dX0_copyFrom_148 : decode cX0_copyFrom 148 = .ok (.return_, 1) := by decide +kernel
theorem dX4_init_0 : decode cX4_init 0 = .ok (.aload_n 0, 1) := by decide +kernel
theorem dX4_init_1 : decode cX4_init 1 = .ok (.invokespecial 3, 3) := by decide +kernel
theorem dX4_init_4 : decode cX4_init 4 = .ok (.aload_n 0, 1) := by decide +kernel
theorem dX4_init_5 : decode cX4_init 5 = .ok (.new 9, 3) := by decide +kernel
theorem dX4_init_8 : decode cX4_init 8 = .ok (.dup, 1) := by decide +kernel
theorem dX4_init_9 : decode cX4_init 9 = .ok (.invokespecial 11, 3) := by decide +kernel
theorem dX4_init_12 : decode cX4_init 12 = .ok (.putfield 12, 3) := by decide +kernel
theorem dX4_init_15 : decode cX4_init 15 = .ok (.return_, 1) := by decide +kernel
theorem dX4_begin_0 : decode cX4_begin 0 = .ok (.aload_n 0, 1) := by decide +kernel
theorem dX4_begin_1 : decode cX4_begin 1 = .ok (.getfield 12, 3) := by decide +kernel
theorem dX4_begin_4 : decode cX4_begin 4 = .ok (.aload_n 1, 1) := by decide +kernel
theorem dX4_begin_5 : decode cX4_begin 5 = .ok (.invokevirtual 18, 3) := by decide +kernel
theorem dX4_begin_8 : decode cX4_begin 8 = .ok (.return_, 1) := by decide +kernel
theorem dX4_obeys_0 : decode cX4_obeys 0 = .ok (.iload_n 1, 1) := by decide +kernel
theorem dX4_obeys_1 : decode cX4_obeys 1 = .ok (.sipush 1000, 3) := by decide +kernel
theorem dX4_obeys_4 : decode cX4_obeys 4 = .ok (.idiv, 1) := by decide +kernel
theorem dX4_obeys_5 : decode cX4_obeys 5 = .ok (.bipush 10, 2) := by decide +kernel
theorem dX4_obeys_7 : decode cX4_obeys 7 = .ok (.irem, 1) := by decide +kernel
theorem dX4_obeys_8 : decode cX4_obeys 8 = .ok (.istore_n 2, 1) := by decide +kernel
theorem dX4_obeys_9 : decode cX4_obeys 9 = .ok (.iload_n 1, 1) := by decide +kernel
theorem dX4_obeys_10 : decode cX4_obeys 10 = .ok (.bipush 100, 2) := by decide +kernel
theorem dX4_obeys_12 : decode cX4_obeys 12 = .ok (.idiv, 1) := by decide +kernel
theorem dX4_obeys_13 : decode cX4_obeys 13 = .ok (.bipush 10, 2) := by decide +kernel
theorem dX4_obeys_15 : decode cX4_obeys 15 = .ok (.irem, 1) := by decide +kernel
theorem dX4_obeys_16 : decode cX4_obeys 16 = .ok (.istore_n 3, 1) := by decide +kernel
theorem dX4_obeys_17 : decode cX4_obeys 17 = .ok (.iload_n 1, 1) := by decide +kernel
theorem dX4_obeys_18 : decode cX4_obeys 18 = .ok (.bipush 100, 2) := by decide +kernel
theorem dX4_obeys_20 : decode cX4_obeys 20 = .ok (.irem, 1) := by decide +kernel
theorem dX4_obeys_21 : decode cX4_obeys 21 = .ok (.istore 4, 2) := by decide +kernel
theorem dX4_obeys_23 : decode cX4_obeys 23 = .ok (.iload_n 1, 1) := by decide +kernel
theorem dX4_obeys_24 : decode cX4_obeys 24 = .ok (.sipush 10000, 3) := by decide +kernel
theorem dX4_obeys_27 : decode cX4_obeys 27 = .ok (.idiv, 1) := by decide +kernel
theorem dX4_obeys_28 : decode cX4_obeys 28 = .ok (.tableswitch 233 1 9 #[52, 61, 84, 107, 116, 133, 153, 162, 197], 52) := by decide +kernel
theorem dX4_obeys_80 : decode cX4_obeys 80 = .ok (.aload_n 0, 1) := by decide +kernel
theorem dX4_obeys_81 : decode cX4_obeys 81 = .ok (.iload_n 2, 1) := by decide +kernel
theorem dX4_obeys_82 : decode cX4_obeys 82 = .ok (.iload_n 3, 1) := by decide +kernel
theorem dX4_obeys_83 : decode cX4_obeys 83 = .ok (.iload 4, 2) := by decide +kernel
theorem dX4_obeys_85 : decode cX4_obeys 85 = .ok (.invokevirtual 22, 3) := by decide +kernel
theorem dX4_obeys_88 : decode cX4_obeys 88 = .ok (.ireturn, 1) := by decide +kernel
theorem dX4_obeys_89 : decode cX4_obeys 89 = .ok (.iload_n 3, 1) := by decide +kernel
theorem dX4_obeys_90 : decode cX4_obeys 90 = .ok (.ifCond .ne 20, 3) := by decide +kernel
theorem dX4_obeys_93 : decode cX4_obeys 93 = .ok (.iload 4, 2) := by decide +kernel
theorem dX4_obeys_95 : decode cX4_obeys 95 = .ok (.ifCond .ne 15, 3) := by decide +kernel
theorem dX4_obeys_98 : decode cX4_obeys 98 = .ok (.aload_n 0, 1) := by decide +kernel
theorem dX4_obeys_99 : decode cX4_obeys 99 = .ok (.iload_n 2, 1) := by decide +kernel
theorem dX4_obeys_100 : decode cX4_obeys 100 = .ok (.invokevirtual 26, 3) := by decide +kernel
theorem dX4_obeys_103 : decode cX4_obeys 103 = .ok (.ifCond .eq 7, 3) := by decide +kernel
theorem dX4_obeys_106 : decode cX4_obeys 106 = .ok (.iconst 1, 1) := by decide +kernel
theorem dX4_obeys_107 : decode cX4_obeys 107 = .ok (.goto 4, 3) := by decide +kernel
theorem dX4_obeys_110 : decode cX4_obeys 110 = .ok (.iconst 0, 1) := by decide +kernel
theorem dX4_obeys_111 : decode cX4_obeys 111 = .ok (.ireturn, 1) := by decide +kernel
theorem dX4_obeys_112 : decode cX4_obeys 112 = .ok (.iload_n 3, 1) := by decide +kernel
theorem dX4_obeys_113 : decode cX4_obeys 113 = .ok (.ifCond .ne 20, 3) := by decide +kernel
theorem dX4_obeys_116 : decode cX4_obeys 116 = .ok (.iload 4, 2) := by decide +kernel
theorem dX4_obeys_118 : decode cX4_obeys 118 = .ok (.ifCond .ne 15, 3) := by decide +kernel
theorem dX4_obeys_121 : decode cX4_obeys 121 = .ok (.aload_n 0, 1) := by decide +kernel
theorem dX4_obeys_122 : decode cX4_obeys 122 = .ok (.iload_n 2, 1) := by decide +kernel
theorem dX4_obeys_123 : decode cX4_obeys 123 = .ok (.invokevirtual 30, 3) := by decide +kernel
theorem dX4_obeys_126 : decode cX4_obeys 126 = .ok (.ifCond .eq 7, 3) := by decide +kernel
theorem dX4_obeys_129 : decode cX4_obeys 129 = .ok (.iconst 1, 1) := by decide +kernel
theorem dX4_obeys_130 : decode cX4_obeys 130 = .ok (.goto 4, 3) := by decide +kernel
theorem dX4_obeys_133 : decode cX4_obeys 133 = .ok (.iconst 0, 1) := by decide +kernel
theorem dX4_obeys_134 : decode cX4_obeys 134 = .ok (.ireturn, 1) := by decide +kernel
theorem dX4_obeys_135 : decode cX4_obeys 135 = .ok (.aload_n 0, 1) := by decide +kernel
theorem dX4_obeys_136 : decode cX4_obeys 136 = .ok (.iload_n 2, 1) := by decide +kernel
theorem dX4_obeys_137 : decode cX4_obeys 137 = .ok (.iload_n 3, 1) := by decide +kernel
theorem dX4_obeys_138 : decode cX4_obeys 138 = .ok (.iload 4, 2) := by decide +kernel
theorem dX4_obeys_140 : decode cX4_obeys 140 = .ok (.invokevirtual 33, 3) := by decide +kernel
theorem dX4_obeys_143 : decode cX4_obeys 143 = .ok (.ireturn, 1) := by decide +kernel
theorem dX4_obeys_144 : decode cX4_obeys 144 = .ok (.aload_n 0, 1) := by decide +kernel
theorem dX4_obeys_145 : decode cX4_obeys 145 = .ok (.iload_n 2, 1) := by decide +kernel
theorem dX4_obeys_146 : decode cX4_obeys 146 = .ok (.iload_n 3, 1) := by decide +kernel
theorem dX4_obeys_147 : decode cX4_obeys 147 = .ok (.iload 4, 2) := by decide +kernel
theorem dX4_obeys_149 : decode cX4_obeys 149 = .ok (.bipush 10, 2) := by decide +kernel
theorem dX4_obeys_151 : decode cX4_obeys 151 = .ok (.idiv, 1) := by decide +kernel
theorem dX4_obeys_152 : decode cX4_obeys 152 = .ok (.iload 4, 2) := by decide +kernel
theorem dX4_obeys_154 : decode cX4_obeys 154 = .ok (.bipush 10, 2) := by decide +kernel
theorem dX4_obeys_156 : decode cX4_obeys 156 = .ok (.irem, 1) := by decide +kernel
theorem dX4_obeys_157 : decode cX4_obeys 157 = .ok (.invokevirtual 36, 3) := by decide +kernel
theorem dX4_obeys_160 : decode cX4_obeys 160 = .ok (.ireturn, 1) := by decide +kernel
theorem dX4_obeys_161 : decode cX4_obeys 161 = .ok (.iload 4, 2) := by decide +kernel
theorem dX4_obeys_163 : decode cX4_obeys 163 = .ok (.ifCond .ne 16, 3) := by decide +kernel
theorem dX4_obeys_166 : decode cX4_obeys 166 = .ok (.aload_n 0, 1) := by decide +kernel
theorem dX4_obeys_167 : decode cX4_obeys 167 = .ok (.iload_n 2, 1) := by decide +kernel
theorem dX4_obeys_168 : decode cX4_obeys 168 = .ok (.iload_n 3, 1) := by decide +kernel
theorem dX4_obeys_169 : decode cX4_obeys 169 = .ok (.invokevirtual 40, 3) := by decide +kernel
theorem dX4_obeys_172 : decode cX4_obeys 172 = .ok (.ifCond .eq 7, 3) := by decide +kernel
theorem dX4_obeys_175 : decode cX4_obeys 175 = .ok (.iconst 1, 1) := by decide +kernel
theorem dX4_obeys_176 : decode cX4_obeys 176 = .ok (.goto 4, 3) := by decide +kernel
theorem dX4_obeys_179 : decode cX4_obeys 179 = .ok (.iconst 0, 1) := by decide +kernel
theorem dX4_obeys_180 : decode cX4_obeys 180 = .ok (.ireturn, 1) := by decide +kernel
theorem dX4_obeys_181 : decode cX4_obeys 181 = .ok (.aload_n 0, 1) := by decide +kernel
theorem dX4_obeys_182 : decode cX4_obeys 182 = .ok (.iload_n 2, 1) := by decide +kernel
theorem dX4_obeys_183 : decode cX4_obeys 183 = .ok (.iload_n 3, 1) := by decide +kernel
theorem dX4_obeys_184 : decode cX4_obeys 184 = .ok (.iload 4, 2) := by decide +kernel
theorem dX4_obeys_186 : decode cX4_obeys 186 = .ok (.invokevirtual 44, 3) := by decide +kernel
theorem dX4_obeys_189 : decode cX4_obeys 189 = .ok (.ireturn, 1) := by decide +kernel
theorem dX4_obeys_190 : decode cX4_obeys 190 = .ok (.aload_n 0, 1) := by decide +kernel
theorem dX4_obeys_191 : decode cX4_obeys 191 = .ok (.getfield 12, 3) := by decide +kernel
theorem dX4_obeys_194 : decode cX4_obeys 194 = .ok (.iload_n 2, 1) := by decide +kernel
theorem dX4_obeys_195 : decode cX4_obeys 195 = .ok (.iload_n 3, 1) := by decide +kernel
theorem dX4_obeys_196 : decode cX4_obeys 196 = .ok (.invokevirtual 47, 3) := by decide +kernel
theorem dX4_obeys_199 : decode cX4_obeys 199 = .ok (.ifCond .eq 24, 3) := by decide +kernel
theorem dX4_obeys_202 : decode cX4_obeys 202 = .ok (.aload_n 0, 1) := by decide +kernel
theorem dX4_obeys_203 : decode cX4_obeys 203 = .ok (.getfield 12, 3) := by decide +kernel
theorem dX4_obeys_206 : decode cX4_obeys 206 = .ok (.getfield 50, 3) := by decide +kernel
theorem dX4_obeys_209 : decode cX4_obeys 209 = .ok (.iload_n 2, 1) := by decide +kernel
theorem dX4_obeys_210 : decode cX4_obeys 210 = .ok (.iload_n 3, 1) := by decide +kernel
theorem dX4_obeys_211 : decode cX4_obeys 211 = .ok (.invokevirtual 54, 3) := by decide +kernel
theorem dX4_obeys_214 : decode cX4_obeys 214 = .ok (.iload 4, 2) := by decide +kernel
theorem dX4_obeys_216 : decode cX4_obeys 216 = .ok (.if_icmp .lt 7, 3) := by decide +kernel
theorem dX4_obeys_219 : decode cX4_obeys 219 = .ok (.iconst 1, 1) := by decide +kernel
theorem dX4_obeys_220 : decode cX4_obeys 220 = .ok (.goto 4, 3) := by decide +kernel
theorem dX4_obeys_223 : decode cX4_obeys 223 = .ok (.iconst 0, 1) := by decide +kernel
theorem dX4_obeys_224 : decode cX4_obeys 224 = .ok (.ireturn, 1) := by decide +kernel
theorem dX4_obeys_225 : decode cX4_obeys 225 = .ok (.iload_n 2, 1) := by decide +kernel
theorem dX4_obeys_226 : decode cX4_obeys 226 = .ok (.ifCond .ne 33, 3) := by decide +kernel
theorem dX4_obeys_229 : decode cX4_obeys 229 = .ok (.iload_n 3, 1) := by decide +kernel
theorem dX4_obeys_230 : decode cX4_obeys 230 = .ok (.ifCond .ne 29, 3) := by decide +kernel
theorem dX4_obeys_233 : decode cX4_obeys 233 = .ok (.iload 4, 2) := by decide +kernel
theorem dX4_obeys_235 : decode cX4_obeys 235 = .ok (.bipush 10, 2) := by decide +kernel
theorem dX4_obeys_237 : decode cX4_obeys 237 = .ok (.if_icmp .ge 22, 3) := by decide +kernel
theorem dX4_obeys_240 : decode cX4_obeys 240 = .ok (.aload_n 0, 1) := by decide +kernel
theorem dX4_obeys_241 : decode cX4_obeys 241 = .ok (.getfield 12, 3) := by decide +kernel
theorem dX4_obeys_244 : decode cX4_obeys 244 = .ok (.getfield 60, 3) := by decide +kernel
theorem dX4_obeys_247 : decode cX4_obeys 247 = .ok (.invokevirtual 64, 3) := by decide +kernel
theorem dX4_obeys_250 : decode cX4_obeys 250 = .ok (.iload 4, 2) := by decide +kernel
theorem dX4_obeys_252 : decode cX4_obeys 252 = .ok (.if_icmp .lt 7, 3) := by decide +kernel
theorem dX4_obeys_255 : decode cX4_obeys 255 = .ok (.iconst 1, 1) := by decide +kernel
theorem dX4_obeys_256 : decode cX4_obeys 256 = .ok (.goto 4, 3) := by decide +kernel
theorem dX4_obeys_259 : decode cX4_obeys 259 = .ok (.iconst 0, 1) := by decide +kernel
theorem dX4_obeys_260 : decode cX4_obeys 260 = .ok (.ireturn, 1) := by decide +kernel
theorem dX4_obeys_261 : decode cX4_obeys 261 = .ok (.iconst 0, 1) := by decide +kernel
theorem dX4_obeys_262 : decode cX4_obeys 262 = .ok (.ireturn, 1) := by decide +kernel
theorem dX4_spendEvening_0 : decode cX4_spendEvening 0 = .ok (.aload_n 0, 1) := by decide +kernel
theorem dX4_spendEvening_1 : decode cX4_spendEvening 1 = .ok (.getfield 12, 3) := by decide +kernel
theorem dX4_spendEvening_4 : decode cX4_spendEvening 4 = .ok (.getfield 70, 3) := by decide +kernel
theorem dX4_spendEvening_7 : decode cX4_spendEvening 7 = .ok (.ifCond .eq 13, 3) := by decide +kernel
theorem dX4_spendEvening_10 : decode cX4_spendEvening 10 = .ok (.aload_n 0, 1) := by decide +kernel
theorem dX4_spendEvening_11 : decode cX4_spendEvening 11 = .ok (.getfield 12, 3) := by decide +kernel
theorem dX4_spendEvening_14 : decode cX4_spendEvening 14 = .ok (.getfield 74, 3) := by decide +kernel
theorem dX4_spendEvening_17 : decode cX4_spendEvening 17 = .ok (.ifCond .ne 4, 3) := by decide +kernel
theorem dX4_spendEvening_20 : decode cX4_spendEvening 20 = .ok (.return_, 1) := by decide +kernel
theorem dX4_spendEvening_21 : decode cX4_spendEvening 21 = .ok (.iload_n 1, 1) := by decide +kernel
theorem dX4_spendEvening_22 : decode cX4_spendEvening 22 = .ok (.bipush 8, 2) := by decide +kernel
theorem dX4_spendEvening_24 : decode cX4_spendEvening 24 = .ok (.idiv, 1) := by decide +kernel
theorem dX4_spendEvening_25 : decode cX4_spendEvening 25 = .ok (.aload_n 0, 1) := by decide +kernel
theorem dX4_spendEvening_26 : decode cX4_spendEvening 26 = .ok (.getfield 12, 3) := by decide +kernel
theorem dX4_spendEvening_29 : decode cX4_spendEvening 29 = .ok (.getfield 70, 3) := by decide +kernel
theorem dX4_spendEvening_32 : decode cX4_spendEvening 32 = .ok (.irem, 1) := by decide +kernel
theorem dX4_spendEvening_33 : decode cX4_spendEvening 33 = .ok (.istore_n 2, 1) := by decide +kernel
theorem dX4_spendEvening_34 : decode cX4_spendEvening 34 = .ok (.iload_n 1, 1) := by decide +kernel
theorem dX4_spendEvening_35 : decode cX4_spendEvening 35 = .ok (.bipush 64, 2) := by decide +kernel
theorem dX4_spendEvening_37 : decode cX4_spendEvening 37 = .ok (.idiv, 1) := by decide +kernel
theorem dX4_spendEvening_38 : decode cX4_spendEvening 38 = .ok (.aload_n 0, 1) := by decide +kernel
theorem dX4_spendEvening_39 : decode cX4_spendEvening 39 = .ok (.getfield 12, 3) := by decide +kernel
theorem dX4_spendEvening_42 : decode cX4_spendEvening 42 = .ok (.getfield 74, 3) := by decide +kernel
theorem dX4_spendEvening_45 : decode cX4_spendEvening 45 = .ok (.irem, 1) := by decide +kernel
theorem dX4_spendEvening_46 : decode cX4_spendEvening 46 = .ok (.istore_n 3, 1) := by decide +kernel
theorem dX4_spendEvening_47 : decode cX4_spendEvening 47 = .ok (.iload_n 1, 1) := by decide +kernel
theorem dX4_spendEvening_48 : decode cX4_spendEvening 48 = .ok (.bipush 8, 2) := by decide +kernel
theorem dX4_spendEvening_50 : decode cX4_spendEvening 50 = .ok (.irem, 1) := by decide +kernel
theorem dX4_spendEvening_51 : decode cX4_spendEvening 51 = .ok (.istore 4, 2) := by decide +kernel
theorem dX4_spendEvening_53 : decode cX4_spendEvening 53 = .ok (.iload 4, 2) := by decide +kernel
theorem dX4_spendEvening_55 : decode cX4_spendEvening 55 = .ok (.iconst 5, 1) := by decide +kernel
theorem dX4_spendEvening_56 : decode cX4_spendEvening 56 = .ok (.if_icmp .ge 22, 3) := by decide +kernel
theorem dX4_spendEvening_59 : decode cX4_spendEvening 59 = .ok (.aload_n 0, 1) := by decide +kernel
theorem dX4_spendEvening_60 : decode cX4_spendEvening 60 = .ok (.iload_n 2, 1) := by decide +kernel
theorem dX4_spendEvening_61 : decode cX4_spendEvening 61 = .ok (.iload_n 3, 1) := by decide +kernel
theorem dX4_spendEvening_62 : decode cX4_spendEvening 62 = .ok (.iconst 1, 1) := by decide +kernel
theorem dX4_spendEvening_63 : decode cX4_spendEvening 63 = .ok (.iload_n 1, 1) := by decide +kernel
theorem dX4_spendEvening_64 : decode cX4_spendEvening 64 = .ok (.sipush 1024, 3) := by decide +kernel
theorem dX4_spendEvening_67 : decode cX4_spendEvening 67 = .ok (.idiv, 1) := by decide +kernel
theorem dX4_spendEvening_68 : decode cX4_spendEvening 68 = .ok (.iconst 3, 1) := by decide +kernel
theorem dX4_spendEvening_69 : decode cX4_spendEvening 69 = .ok (.irem, 1) := by decide +kernel
theorem dX4_spendEvening_70 : decode cX4_spendEvening 70 = .ok (.iadd, 1) := by decide +kernel
theorem dX4_spendEvening_71 : decode cX4_spendEvening 71 = .ok (.invokevirtual 33, 3) := by decide +kernel
theorem dX4_spendEvening_74 : decode cX4_spendEvening 74 = .ok (.pop, 1) := by decide +kernel
theorem dX4_spendEvening_75 : decode cX4_spendEvening 75 = .ok (.goto 40, 3) := by decide +kernel
theorem dX4_spendEvening_78 : decode cX4_spendEvening 78 = .ok (.iload 4, 2) := by decide +kernel
theorem dX4_spendEvening_80 : decode cX4_spendEvening 80 = .ok (.iconst 5, 1) := by decide +kernel
theorem dX4_spendEvening_81 : decode cX4_spendEvening 81 = .ok (.if_icmp .ne 13, 3) := by decide +kernel
theorem dX4_spendEvening_84 : decode cX4_spendEvening 84 = .ok (.aload_n 0, 1) := by decide +kernel
theorem dX4_spendEvening_85 : decode cX4_spendEvening 85 = .ok (.iload_n 2, 1) := by decide +kernel
theorem dX4_spendEvening_86 : decode cX4_spendEvening 86 = .ok (.iload_n 3, 1) := by decide +kernel
theorem dX4_spendEvening_87 : decode cX4_spendEvening 87 = .ok (.invokevirtual 40, 3) := by decide +kernel
theorem dX4_spendEvening_90 : decode cX4_spendEvening 90 = .ok (.pop, 1) := by decide +kernel
theorem dX4_spendEvening_91 : decode cX4_spendEvening 91 = .ok (.goto 24, 3) := by decide +kernel
theorem dX4_spendEvening_94 : decode cX4_spendEvening 94 = .ok (.aload_n 0, 1) := by decide +kernel
theorem dX4_spendEvening_95 : decode cX4_spendEvening 95 = .ok (.iload_n 2, 1) := by decide +kernel
theorem dX4_spendEvening_96 : decode cX4_spendEvening 96 = .ok (.iload_n 1, 1) := by decide +kernel
theorem dX4_spendEvening_97 : decode cX4_spendEvening 97 = .ok (.sipush 1024, 3) := by decide +kernel
theorem dX4_spendEvening_100 : decode cX4_spendEvening 100 = .ok (.idiv, 1) := by decide +kernel
theorem dX4_spendEvening_101 : decode cX4_spendEvening 101 = .ok (.aload_n 0, 1) := by decide +kernel
theorem dX4_spendEvening_102 : decode cX4_spendEvening 102 = .ok (.getfield 12, 3) := by decide +kernel
theorem dX4_spendEvening_105 : decode cX4_spendEvening 105 = .ok (.getfield 70, 3) := by decide +kernel
theorem dX4_spendEvening_108 : decode cX4_spendEvening 108 = .ok (.irem, 1) := by decide +kernel
theorem dX4_spendEvening_109 : decode cX4_spendEvening 109 = .ok (.iload_n 3, 1) := by decide +kernel
theorem dX4_spendEvening_110 : decode cX4_spendEvening 110 = .ok (.iconst 1, 1) := by decide +kernel
theorem dX4_spendEvening_111 : decode cX4_spendEvening 111 = .ok (.invokevirtual 36, 3) := by decide +kernel
theorem dX4_spendEvening_114 : decode cX4_spendEvening 114 = .ok (.pop, 1) := by decide +kernel
theorem dX4_spendEvening_115 : decode cX4_spendEvening 115 = .ok (.return_, 1) := by decide +kernel
theorem dX4_orders_0 : decode cX4_orders 0 = .ok (.aload_n 0, 1) := by decide +kernel
theorem dX4_orders_1 : decode cX4_orders 1 = .ok (.getfield 12, 3) := by decide +kernel
theorem dX4_orders_4 : decode cX4_orders 4 = .ok (.iload_n 1, 1) := by decide +kernel
theorem dX4_orders_5 : decode cX4_orders 5 = .ok (.iload_n 2, 1) := by decide +kernel
theorem dX4_orders_6 : decode cX4_orders 6 = .ok (.iload_n 3, 1) := by decide +kernel
theorem dX4_orders_7 : decode cX4_orders 7 = .ok (.invokevirtual 77, 3) := by decide +kernel
theorem dX4_orders_10 : decode cX4_orders 10 = .ok (.ifCond .ne 7, 3) := by decide +kernel
theorem dX4_orders_13 : decode cX4_orders 13 = .ok (.iconst 1, 1) := by decide +kernel
theorem dX4_orders_14 : decode cX4_orders 14 = .ok (.goto 4, 3) := by decide +kernel
theorem dX4_orders_17 : decode cX4_orders 17 = .ok (.iconst 0, 1) := by decide +kernel
theorem dX4_orders_18 : decode cX4_orders 18 = .ok (.istore 4, 2) := by decide +kernel
theorem dX4_orders_20 : decode cX4_orders 20 = .ok (.iload 4, 2) := by decide +kernel
theorem dX4_orders_22 : decode cX4_orders 22 = .ok (.ifCond .eq 14, 3) := by decide +kernel
theorem dX4_orders_25 : decode cX4_orders 25 = .ok (.aload_n 0, 1) := by decide +kernel
theorem dX4_orders_26 : decode cX4_orders 26 = .ok (.getfield 12, 3) := by decide +kernel
theorem dX4_orders_29 : decode cX4_orders 29 = .ok (.iload_n 1, 1) := by decide +kernel
theorem dX4_orders_30 : decode cX4_orders 30 = .ok (.iload_n 2, 1) := by decide +kernel
theorem dX4_orders_31 : decode cX4_orders 31 = .ok (.iload_n 3, 1) := by decide +kernel
theorem dX4_orders_32 : decode cX4_orders 32 = .ok (.invokevirtual 81, 3) := by decide +kernel
theorem dX4_orders_35 : decode cX4_orders 35 = .ok (.pop, 1) := by decide +kernel
theorem dX4_orders_36 : decode cX4_orders 36 = .ok (.iload 4, 2) := by decide +kernel
theorem dX4_orders_38 : decode cX4_orders 38 = .ok (.ireturn, 1) := by decide +kernel
theorem dX4_allocates_0 : decode cX4_allocates 0 = .ok (.aload_n 0, 1) := by decide +kernel
theorem dX4_allocates_1 : decode cX4_allocates 1 = .ok (.getfield 12, 3) := by decide +kernel
theorem dX4_allocates_4 : decode cX4_allocates 4 = .ok (.iload_n 1, 1) := by decide +kernel
theorem dX4_allocates_5 : decode cX4_allocates 5 = .ok (.invokevirtual 84, 3) := by decide +kernel
theorem dX4_allocates_8 : decode cX4_allocates 8 = .ok (.ifCond .ne 7, 3) := by decide +kernel
theorem dX4_allocates_11 : decode cX4_allocates 11 = .ok (.iconst 1, 1) := by decide +kernel
theorem dX4_allocates_12 : decode cX4_allocates 12 = .ok (.goto 4, 3) := by decide +kernel
theorem dX4_allocates_15 : decode cX4_allocates 15 = .ok (.iconst 0, 1) := by decide +kernel
theorem dX4_allocates_16 : decode cX4_allocates 16 = .ok (.istore_n 2, 1) := by decide +kernel
theorem dX4_allocates_17 : decode cX4_allocates 17 = .ok (.iload_n 2, 1) := by decide +kernel
theorem dX4_allocates_18 : decode cX4_allocates 18 = .ok (.ifCond .eq 12, 3) := by decide +kernel
theorem dX4_allocates_21 : decode cX4_allocates 21 = .ok (.aload_n 0, 1) := by decide +kernel
theorem dX4_allocates_22 : decode cX4_allocates 22 = .ok (.getfield 12, 3) := by decide +kernel
theorem dX4_allocates_25 : decode cX4_allocates 25 = .ok (.iload_n 1, 1) := by decide +kernel
theorem dX4_allocates_26 : decode cX4_allocates 26 = .ok (.invokevirtual 88, 3) := by decide +kernel
theorem dX4_allocates_29 : decode cX4_allocates 29 = .ok (.pop, 1) := by decide +kernel
theorem dX4_allocates_30 : decode cX4_allocates 30 = .ok (.iload_n 2, 1) := by decide +kernel
theorem dX4_allocates_31 : decode cX4_allocates 31 = .ok (.ireturn, 1) := by decide +kernel
theorem dX4_delivers_0 : decode cX4_delivers 0 = .ok (.aload_n 0, 1) := by decide +kernel
theorem dX4_delivers_1 : decode cX4_delivers 1 = .ok (.getfield 12, 3) := by decide +kernel
theorem dX4_delivers_4 : decode cX4_delivers 4 = .ok (.iload_n 1, 1) := by decide +kernel
theorem dX4_delivers_5 : decode cX4_delivers 5 = .ok (.invokevirtual 91, 3) := by decide +kernel
theorem dX4_delivers_8 : decode cX4_delivers 8 = .ok (.ifCond .ne 7, 3) := by decide +kernel
theorem dX4_delivers_11 : decode cX4_delivers 11 = .ok (.iconst 1, 1) := by decide +kernel
theorem dX4_delivers_12 : decode cX4_delivers 12 = .ok (.goto 4, 3) := by decide +kernel
theorem dX4_delivers_15 : decode cX4_delivers 15 = .ok (.iconst 0, 1) := by decide +kernel
theorem dX4_delivers_16 : decode cX4_delivers 16 = .ok (.istore_n 2, 1) := by decide +kernel
theorem dX4_delivers_17 : decode cX4_delivers 17 = .ok (.iload_n 2, 1) := by decide +kernel
theorem dX4_delivers_18 : decode cX4_delivers 18 = .ok (.ifCond .eq 12, 3) := by decide +kernel
theorem dX4_delivers_21 : decode cX4_delivers 21 = .ok (.aload_n 0, 1) := by decide +kernel
theorem dX4_delivers_22 : decode cX4_delivers 22 = .ok (.getfield 12, 3) := by decide +kernel
theorem dX4_delivers_25 : decode cX4_delivers 25 = .ok (.iload_n 1, 1) := by decide +kernel
theorem dX4_delivers_26 : decode cX4_delivers 26 = .ok (.invokevirtual 94, 3) := by decide +kernel
theorem dX4_delivers_29 : decode cX4_delivers 29 = .ok (.pop, 1) := by decide +kernel
theorem dX4_delivers_30 : decode cX4_delivers 30 = .ok (.iload_n 2, 1) := by decide +kernel
theorem dX4_delivers_31 : decode cX4_delivers 31 = .ok (.ireturn, 1) := by decide +kernel
theorem dX4_drinks_0 : decode cX4_drinks 0 = .ok (.aload_n 0, 1) := by decide +kernel
theorem dX4_drinks_1 : decode cX4_drinks 1 = .ok (.getfield 12, 3) := by decide +kernel
theorem dX4_drinks_4 : decode cX4_drinks 4 = .ok (.iload_n 1, 1) := by decide +kernel
theorem dX4_drinks_5 : decode cX4_drinks 5 = .ok (.iload_n 2, 1) := by decide +kernel
theorem dX4_drinks_6 : decode cX4_drinks 6 = .ok (.iload_n 3, 1) := by decide +kernel
theorem dX4_drinks_7 : decode cX4_drinks 7 = .ok (.invokevirtual 97, 3) := by decide +kernel
theorem dX4_drinks_10 : decode cX4_drinks 10 = .ok (.ifCond .ne 7, 3) := by decide +kernel
theorem dX4_drinks_13 : decode cX4_drinks 13 = .ok (.iconst 1, 1) := by decide +kernel
theorem dX4_drinks_14 : decode cX4_drinks 14 = .ok (.goto 4, 3) := by decide +kernel
theorem dX4_drinks_17 : decode cX4_drinks 17 = .ok (.iconst 0, 1) := by decide +kernel
theorem dX4_drinks_18 : decode cX4_drinks 18 = .ok (.istore 4, 2) := by decide +kernel
theorem dX4_drinks_20 : decode cX4_drinks 20 = .ok (.iload 4, 2) := by decide +kernel
theorem dX4_drinks_22 : decode cX4_drinks 22 = .ok (.ifCond .eq 14, 3) := by decide +kernel
theorem dX4_drinks_25 : decode cX4_drinks 25 = .ok (.aload_n 0, 1) := by decide +kernel
theorem dX4_drinks_26 : decode cX4_drinks 26 = .ok (.getfield 12, 3) := by decide +kernel
theorem dX4_drinks_29 : decode cX4_drinks 29 = .ok (.iload_n 1, 1) := by decide +kernel
theorem dX4_drinks_30 : decode cX4_drinks 30 = .ok (.iload_n 2, 1) := by decide +kernel
theorem dX4_drinks_31 : decode cX4_drinks 31 = .ok (.iload_n 3, 1) := by decide +kernel
theorem dX4_drinks_32 : decode cX4_drinks 32 = .ok (.invokevirtual 100, 3) := by decide +kernel
theorem dX4_drinks_35 : decode cX4_drinks 35 = .ok (.pop, 1) := by decide +kernel
theorem dX4_drinks_36 : decode cX4_drinks 36 = .ok (.iload 4, 2) := by decide +kernel
theorem dX4_drinks_38 : decode cX4_drinks 38 = .ok (.ireturn, 1) := by decide +kernel
theorem dX4_gives_0 : decode cX4_gives 0 = .ok (.aload_n 0, 1) := by decide +kernel
theorem dX4_gives_1 : decode cX4_gives 1 = .ok (.getfield 12, 3) := by decide +kernel
theorem dX4_gives_4 : decode cX4_gives 4 = .ok (.iload_n 1, 1) := by decide +kernel
theorem dX4_gives_5 : decode cX4_gives 5 = .ok (.iload_n 2, 1) := by decide +kernel
theorem dX4_gives_6 : decode cX4_gives 6 = .ok (.iload_n 3, 1) := by decide +kernel
theorem dX4_gives_7 : decode cX4_gives 7 = .ok (.iload 4, 2) := by decide +kernel
theorem dX4_gives_9 : decode cX4_gives 9 = .ok (.invokevirtual 103, 3) := by decide +kernel
theorem dX4_gives_12 : decode cX4_gives 12 = .ok (.ifCond .ne 7, 3) := by decide +kernel
theorem dX4_gives_15 : decode cX4_gives 15 = .ok (.iconst 1, 1) := by decide +kernel
theorem dX4_gives_16 : decode cX4_gives 16 = .ok (.goto 4, 3) := by decide +kernel
theorem dX4_gives_19 : decode cX4_gives 19 = .ok (.iconst 0, 1) := by decide +kernel
theorem dX4_gives_20 : decode cX4_gives 20 = .ok (.istore 5, 2) := by decide +kernel
theorem dX4_gives_22 : decode cX4_gives 22 = .ok (.iload 5, 2) := by decide +kernel
theorem dX4_gives_24 : decode cX4_gives 24 = .ok (.ifCond .eq 16, 3) := by decide +kernel
theorem dX4_gives_27 : decode cX4_gives 27 = .ok (.aload_n 0, 1) := by decide +kernel
theorem dX4_gives_28 : decode cX4_gives 28 = .ok (.getfield 12, 3) := by decide +kernel
theorem dX4_gives_31 : decode cX4_gives 31 = .ok (.iload_n 1, 1) := by decide +kernel
theorem dX4_gives_32 : decode cX4_gives 32 = .ok (.iload_n 2, 1) := by decide +kernel
theorem dX4_gives_33 : decode cX4_gives 33 = .ok (.iload_n 3, 1) := by decide +kernel
theorem dX4_gives_34 : decode cX4_gives 34 = .ok (.iload 4, 2) := by decide +kernel
theorem dX4_gives_36 : decode cX4_gives 36 = .ok (.invokevirtual 107, 3) := by decide +kernel
theorem dX4_gives_39 : decode cX4_gives 39 = .ok (.pop, 1) := by decide +kernel
theorem dX4_gives_40 : decode cX4_gives 40 = .ok (.iload 5, 2) := by decide +kernel
theorem dX4_gives_42 : decode cX4_gives 42 = .ok (.ireturn, 1) := by decide +kernel
theorem dX4_corks_0 : decode cX4_corks 0 = .ok (.aload_n 0, 1) := by decide +kernel
theorem dX4_corks_1 : decode cX4_corks 1 = .ok (.getfield 12, 3) := by decide +kernel
theorem dX4_corks_4 : decode cX4_corks 4 = .ok (.iload_n 1, 1) := by decide +kernel
theorem dX4_corks_5 : decode cX4_corks 5 = .ok (.iload_n 2, 1) := by decide +kernel
theorem dX4_corks_6 : decode cX4_corks 6 = .ok (.invokevirtual 110, 3) := by decide +kernel
theorem dX4_corks_9 : decode cX4_corks 9 = .ok (.ifCond .ne 7, 3) := by decide +kernel
theorem dX4_corks_12 : decode cX4_corks 12 = .ok (.iconst 1, 1) := by decide +kernel
theorem dX4_corks_13 : decode cX4_corks 13 = .ok (.goto 4, 3) := by decide +kernel
theorem dX4_corks_16 : decode cX4_corks 16 = .ok (.iconst 0, 1) := by decide +kernel
theorem dX4_corks_17 : decode cX4_corks 17 = .ok (.istore_n 3, 1) := by decide +kernel
theorem dX4_corks_18 : decode cX4_corks 18 = .ok (.iload_n 3, 1) := by decide +kernel
theorem dX4_corks_19 : decode cX4_corks 19 = .ok (.ifCond .eq 13, 3) := by decide +kernel
theorem dX4_corks_22 : decode cX4_corks 22 = .ok (.aload_n 0, 1) := by decide +kernel
theorem dX4_corks_23 : decode cX4_corks 23 = .ok (.getfield 12, 3) := by decide +kernel
theorem dX4_corks_26 : decode cX4_corks 26 = .ok (.iload_n 1, 1) := by decide +kernel
theorem dX4_corks_27 : decode cX4_corks 27 = .ok (.iload_n 2, 1) := by decide +kernel
theorem dX4_corks_28 : decode cX4_corks 28 = .ok (.invokevirtual 113, 3) := by decide +kernel
theorem dX4_corks_31 : decode cX4_corks 31 = .ok (.pop, 1) := by decide +kernel
theorem dX4_corks_32 : decode cX4_corks 32 = .ok (.iload_n 3, 1) := by decide +kernel
theorem dX4_corks_33 : decode cX4_corks 33 = .ok (.ireturn, 1) := by decide +kernel
theorem dX4_moves_0 : decode cX4_moves 0 = .ok (.aload_n 0, 1) := by decide +kernel
theorem dX4_moves_1 : decode cX4_moves 1 = .ok (.getfield 12, 3) := by decide +kernel
theorem dX4_moves_4 : decode cX4_moves 4 = .ok (.getfield 60, 3) := by decide +kernel
theorem dX4_moves_7 : decode cX4_moves 7 = .ok (.iload_n 1, 1) := by decide +kernel
theorem dX4_moves_8 : decode cX4_moves 8 = .ok (.iload_n 2, 1) := by decide +kernel
theorem dX4_moves_9 : decode cX4_moves 9 = .ok (.iload_n 3, 1) := by decide +kernel
theorem dX4_moves_10 : decode cX4_moves 10 = .ok (.invokevirtual 116, 3) := by decide +kernel
theorem dX4_moves_13 : decode cX4_moves 13 = .ok (.ifCond .ne 7, 3) := by decide +kernel
theorem dX4_moves_16 : decode cX4_moves 16 = .ok (.iconst 1, 1) := by decide +kernel
theorem dX4_moves_17 : decode cX4_moves 17 = .ok (.goto 4, 3) := by decide +kernel
theorem dX4_moves_20 : decode cX4_moves 20 = .ok (.iconst 0, 1) := by decide +kernel
theorem dX4_moves_21 : decode cX4_moves 21 = .ok (.istore 4, 2) := by decide +kernel
theorem dX4_moves_23 : decode cX4_moves 23 = .ok (.iload 4, 2) := by decide +kernel
theorem dX4_moves_25 : decode cX4_moves 25 = .ok (.ifCond .eq 17, 3) := by decide +kernel
theorem dX4_moves_28 : decode cX4_moves 28 = .ok (.aload_n 0, 1) := by decide +kernel
theorem dX4_moves_29 : decode cX4_moves 29 = .ok (.getfield 12, 3) := by decide +kernel
theorem dX4_moves_32 : decode cX4_moves 32 = .ok (.getfield 60, 3) := by decide +kernel
theorem dX4_moves_35 : decode cX4_moves 35 = .ok (.iload_n 1, 1) := by decide +kernel
theorem dX4_moves_36 : decode cX4_moves 36 = .ok (.iload_n 2, 1) := by decide +kernel
theorem dX4_moves_37 : decode cX4_moves 37 = .ok (.iload_n 3, 1) := by decide +kernel
theorem dX4_moves_38 : decode cX4_moves 38 = .ok (.invokevirtual 119, 3) := by decide +kernel
theorem dX4_moves_41 : decode cX4_moves 41 = .ok (.pop, 1) := by decide +kernel
theorem dX4_moves_42 : decode cX4_moves 42 = .ok (.iload 4, 2) := by decide +kernel
theorem dX4_moves_44 : decode cX4_moves 44 = .ok (.ireturn, 1) := by decide +kernel
theorem dX6_init_0 : decode cX6_init 0 = .ok (.aload_n 0, 1) := by decide +kernel
theorem dX6_init_1 : decode cX6_init 1 = .ok (.invokespecial 3, 3) := by decide +kernel
theorem dX6_init_4 : decode cX6_init 4 = .ok (.aload_n 0, 1) := by decide +kernel
theorem dX6_init_5 : decode cX6_init 5 = .ok (.bipush 120, 2) := by decide +kernel
theorem dX6_init_7 : decode cX6_init 7 = .ok (.newarray .char, 2) := by decide +kernel
theorem dX6_init_9 : decode cX6_init 9 = .ok (.putfield 9, 3) := by decide +kernel
theorem dX6_init_12 : decode cX6_init 12 = .ok (.aload_n 0, 1) := by decide +kernel
theorem dX6_init_13 : decode cX6_init 13 = .ok (.new 15, 3) := by decide +kernel
theorem dX6_init_16 : decode cX6_init 16 = .ok (.dup, 1) := by decide +kernel
theorem dX6_init_17 : decode cX6_init 17 = .ok (.invokespecial 17, 3) := by decide +kernel
theorem dX6_init_20 : decode cX6_init 20 = .ok (.putfield 18, 3) := by decide +kernel
theorem dX6_init_23 : decode cX6_init 23 = .ok (.aload_n 0, 1) := by decide +kernel
theorem dX6_init_24 : decode cX6_init 24 = .ok (.new 15, 3) := by decide +kernel
theorem dX6_init_27 : decode cX6_init 27 = .ok (.dup, 1) := by decide +kernel
theorem dX6_init_28 : decode cX6_init 28 = .ok (.invokespecial 17, 3) := by decide +kernel
theorem dX6_init_31 : decode cX6_init 31 = .ok (.putfield 22, 3) := by decide +kernel
theorem dX6_init_34 : decode cX6_init 34 = .ok (.return_, 1) := by decide +kernel
theorem dX6_addingFault_0 : decode cX6_addingFault 0 = .ok (.iload_n 1, 1) := by decide +kernel
theorem dX6_addingFault_1 : decode cX6_addingFault 1 = .ok (.ifCond .lt 10, 3) := by decide +kernel
theorem dX6_addingFault_4 : decode cX6_addingFault 4 = .ok (.iload_n 1, 1) := by decide +kernel
theorem dX6_addingFault_5 : decode cX6_addingFault 5 = .ok (.sipush 255, 3) := by decide +kernel
theorem dX6_addingFault_8 : decode cX6_addingFault 8 = .ok (.if_icmp .le 5, 3) := by decide +kernel
theorem dX6_addingFault_11 : decode cX6_addingFault 11 = .ok (.iconst 2, 1) := by decide +kernel
theorem dX6_addingFault_12 : decode cX6_addingFault 12 = .ok (.ireturn, 1) := by decide +kernel
theorem dX6_addingFault_13 : decode cX6_addingFault 13 = .ok (.aload_n 0, 1) := by decide +kernel
theorem dX6_addingFault_14 : decode cX6_addingFault 14 = .ok (.getfield 25, 3) := by decide +kernel
theorem dX6_addingFault_17 : decode cX6_addingFault 17 = .ok (.bipush 120, 2) := by decide +kernel
theorem dX6_addingFault_19 : decode cX6_addingFault 19 = .ok (.if_icmp .ge 7, 3) := by decide +kernel
theorem dX6_addingFault_22 : decode cX6_addingFault 22 = .ok (.iconst 0, 1) := by decide +kernel
theorem dX6_addingFault_23 : decode cX6_addingFault 23 = .ok (.goto 4, 3) := by decide +kernel
theorem dX6_addingFault_26 : decode cX6_addingFault 26 = .ok (.iconst 3, 1) := by decide +kernel
theorem dX6_addingFault_27 : decode cX6_addingFault 27 = .ok (.ireturn, 1) := by decide +kernel
theorem dX6_add_0 : decode cX6_add 0 = .ok (.aload_n 0, 1) := by decide +kernel
theorem dX6_add_1 : decode cX6_add 1 = .ok (.getfield 9, 3) := by decide +kernel
theorem dX6_add_4 : decode cX6_add 4 = .ok (.aload_n 0, 1) := by decide +kernel
theorem dX6_add_5 : decode cX6_add 5 = .ok (.getfield 25, 3) := by decide +kernel
theorem dX6_add_8 : decode cX6_add 8 = .ok (.iload_n 1, 1) := by decide +kernel
theorem dX6_add_9 : decode cX6_add 9 = .ok (.castore, 1) := by decide +kernel
theorem dX6_add_10 : decode cX6_add 10 = .ok (.aload_n 0, 1) := by decide +kernel
theorem dX6_add_11 : decode cX6_add 11 = .ok (.dup, 1) := by decide +kernel
theorem dX6_add_12 : decode cX6_add 12 = .ok (.getfield 25, 3) := by decide +kernel
theorem dX6_add_15 : decode cX6_add 15 = .ok (.iconst 1, 1) := by decide +kernel
theorem dX6_add_16 : decode cX6_add 16 = .ok (.iadd, 1) := by decide +kernel
theorem dX6_add_17 : decode cX6_add 17 = .ok (.putfield 25, 3) := by decide +kernel
theorem dX6_add_20 : decode cX6_add 20 = .ok (.aload_n 0, 1) := by decide +kernel
theorem dX6_add_21 : decode cX6_add 21 = .ok (.getfield 25, 3) := by decide +kernel
theorem dX6_add_24 : decode cX6_add 24 = .ok (.ireturn, 1) := by decide +kernel
theorem dX6_wipe_0 : decode cX6_wipe 0 = .ok (.aload_n 0, 1) := by decide +kernel
theorem dX6_wipe_1 : decode cX6_wipe 1 = .ok (.getfield 25, 3) := by decide +kernel
theorem dX6_wipe_4 : decode cX6_wipe 4 = .ok (.istore_n 1, 1) := by decide +kernel
theorem dX6_wipe_5 : decode cX6_wipe 5 = .ok (.aload_n 0, 1) := by decide +kernel
theorem dX6_wipe_6 : decode cX6_wipe 6 = .ok (.iconst 0, 1) := by decide +kernel
theorem dX6_wipe_7 : decode cX6_wipe 7 = .ok (.putfield 25, 3) := by decide +kernel
theorem dX6_wipe_10 : decode cX6_wipe 10 = .ok (.iload_n 1, 1) := by decide +kernel
theorem dX6_wipe_11 : decode cX6_wipe 11 = .ok (.ireturn, 1) := by decide +kernel
theorem dX6_read_0 : decode cX6_read 0 = .ok (.aload_n 0, 1) := by decide +kernel
theorem dX6_read_1 : decode cX6_read 1 = .ok (.getfield 18, 3) := by decide +kernel
theorem dX6_read_4 : decode cX6_read 4 = .ok (.aload_n 0, 1) := by decide +kernel
theorem dX6_read_5 : decode cX6_read 5 = .ok (.getfield 22, 3) := by decide +kernel
theorem dX6_read_8 : decode cX6_read 8 = .ok (.invokevirtual 29, 3) := by decide +kernel
theorem dX6_read_11 : decode cX6_read 11 = .ok (.aload_n 0, 1) := by decide +kernel
theorem dX6_read_12 : decode cX6_read 12 = .ok (.iconst 0, 1) := by decide +kernel
theorem dX6_read_13 : decode cX6_read 13 = .ok (.putfield 33, 3) := by decide +kernel
theorem dX6_read_16 : decode cX6_read 16 = .ok (.aload_n 0, 1) := by decide +kernel
theorem dX6_read_17 : decode cX6_read 17 = .ok (.getfield 25, 3) := by decide +kernel
theorem dX6_read_20 : decode cX6_read 20 = .ok (.ifCond .eq 14, 3) := by decide +kernel
theorem dX6_read_23 : decode cX6_read 23 = .ok (.aload_n 0, 1) := by decide +kernel
theorem dX6_read_24 : decode cX6_read 24 = .ok (.getfield 9, 3) := by decide +kernel
theorem dX6_read_27 : decode cX6_read 27 = .ok (.iconst 0, 1) := by decide +kernel
theorem dX6_read_28 : decode cX6_read 28 = .ok (.caload, 1) := by decide +kernel
theorem dX6_read_29 : decode cX6_read 29 = .ok (.bipush 67, 2) := by decide +kernel
theorem dX6_read_31 : decode cX6_read 31 = .ok (.if_icmp .eq 8, 3) := by decide +kernel
theorem dX6_read_34 : decode cX6_read 34 = .ok (.aload_n 0, 1) := by decide +kernel
theorem dX6_read_35 : decode cX6_read 35 = .ok (.getfield 33, 3) := by decide +kernel
theorem dX6_read_38 : decode cX6_read 38 = .ok (.ireturn, 1) := by decide +kernel
theorem dX6_read_39 : decode cX6_read 39 = .ok (.aload_n 0, 1) := by decide +kernel
theorem dX6_read_40 : decode cX6_read 40 = .ok (.iconst 1, 1) := by decide +kernel
theorem dX6_read_41 : decode cX6_read 41 = .ok (.putfield 33, 3) := by decide +kernel
theorem dX6_read_44 : decode cX6_read 44 = .ok (.iconst 0, 1) := by decide +kernel
theorem dX6_read_45 : decode cX6_read 45 = .ok (.istore_n 1, 1) := by decide +kernel
theorem dX6_read_46 : decode cX6_read 46 = .ok (.iload_n 1, 1) := by decide +kernel
theorem dX6_read_47 : decode cX6_read 47 = .ok (.bipush 120, 2) := by decide +kernel
theorem dX6_read_49 : decode cX6_read 49 = .ok (.if_icmp .ge 32, 3) := by decide +kernel
theorem dX6_read_52 : decode cX6_read 52 = .ok (.aload_n 0, 1) := by decide +kernel
theorem dX6_read_53 : decode cX6_read 53 = .ok (.getfield 33, 3) := by decide +kernel
theorem dX6_read_56 : decode cX6_read 56 = .ok (.aload_n 0, 1) := by decide +kernel
theorem dX6_read_57 : decode cX6_read 57 = .ok (.getfield 25, 3) := by decide +kernel
theorem dX6_read_60 : decode cX6_read 60 = .ok (.if_icmp .ge 21, 3) := by decide +kernel
theorem dX6_read_63 : decode cX6_read 63 = .ok (.aload_n 0, 1) := by decide +kernel
theorem dX6_read_64 : decode cX6_read 64 = .ok (.invokevirtual 36, 3) := by decide +kernel
theorem dX6_read_67 : decode cX6_read 67 = .ok (.ifCond .ne 8, 3) := by decide +kernel
theorem dX6_read_70 : decode cX6_read 70 = .ok (.aload_n 0, 1) := by decide +kernel
theorem dX6_read_71 : decode cX6_read 71 = .ok (.getfield 33, 3) := by decide +kernel
theorem dX6_read_74 : decode cX6_read 74 = .ok (.ireturn, 1) := by decide +kernel
theorem dX6_read_75 : decode cX6_read 75 = .ok (.iinc 1 1, 3) := by decide +kernel
theorem dX6_read_78 : decode cX6_read 78 = .ok (.goto (-32), 3) := by decide +kernel
theorem dX6_read_81 : decode cX6_read 81 = .ok (.ldc 40, 2) := by decide +kernel
theorem dX6_read_83 : decode cX6_read 83 = .ok (.ireturn, 1) := by decide +kernel
theorem dX6_readPart_0 : decode cX6_readPart 0 = .ok (.aload_n 0, 1) := by decide +kernel
theorem dX6_readPart_1 : decode cX6_readPart 1 = .ok (.getfield 9, 3) := by decide +kernel
theorem dX6_readPart_4 : decode cX6_readPart 4 = .ok (.aload_n 0, 1) := by decide +kernel
theorem dX6_readPart_5 : decode cX6_readPart 5 = .ok (.getfield 33, 3) := by decide +kernel
theorem dX6_readPart_8 : decode cX6_readPart 8 = .ok (.caload, 1) := by decide +kernel
theorem dX6_readPart_9 : decode cX6_readPart 9 = .ok (.lookupswitch 63 #[(98, 53), (109, 43), (111, 58), (119, 48)], 43) := by decide +kernel
theorem dX6_readPart_52 : decode cX6_readPart 52 = .ok (.aload_n 0, 1) := by decide +kernel
theorem dX6_readPart_53 : decode cX6_readPart 53 = .ok (.invokevirtual 41, 3) := by decide +kernel
theorem dX6_readPart_56 : decode cX6_readPart 56 = .ok (.ireturn, 1) := by decide +kernel
theorem dX6_readPart_57 : decode cX6_readPart 57 = .ok (.aload_n 0, 1) := by decide +kernel
theorem dX6_readPart_58 : decode cX6_readPart 58 = .ok (.invokevirtual 44, 3) := by decide +kernel
theorem dX6_readPart_61 : decode cX6_readPart 61 = .ok (.ireturn, 1) := by decide +kernel
theorem dX6_readPart_62 : decode cX6_readPart 62 = .ok (.aload_n 0, 1) := by decide +kernel
theorem dX6_readPart_63 : decode cX6_readPart 63 = .ok (.invokevirtual 47, 3) := by decide +kernel
theorem dX6_readPart_66 : decode cX6_readPart 66 = .ok (.ireturn, 1) := by decide +kernel
theorem dX6_readPart_67 : decode cX6_readPart 67 = .ok (.aload_n 0, 1) := by decide +kernel
theorem dX6_readPart_68 : decode cX6_readPart 68 = .ok (.invokevirtual 50, 3) := by decide +kernel
theorem dX6_readPart_71 : decode cX6_readPart 71 = .ok (.ireturn, 1) := by decide +kernel
theorem dX6_readPart_72 : decode cX6_readPart 72 = .ok (.iconst 0, 1) := by decide +kernel
theorem dX6_readPart_73 : decode cX6_readPart 73 = .ok (.ireturn, 1) := by decide +kernel
theorem dX6_readMember_0 : decode cX6_readMember 0 = .ok (.aload_n 0, 1) := by decide +kernel
theorem dX6_readMember_1 : decode cX6_readMember 1 = .ok (.getfield 18, 3) := by decide +kernel
theorem dX6_readMember_4 : decode cX6_readMember 4 = .ok (.getfield 53, 3) := by decide +kernel
theorem dX6_readMember_7 : decode cX6_readMember 7 = .ok (.bipush 6, 2) := by decide +kernel
theorem dX6_readMember_9 : decode cX6_readMember 9 = .ok (.if_icmp .ne 5, 3) := by decide +kernel
theorem dX6_readMember_12 : decode cX6_readMember 12 = .ok (.iconst 0, 1) := by decide +kernel
theorem dX6_readMember_13 : decode cX6_readMember 13 = .ok (.ireturn, 1) := by decide +kernel
theorem dX6_readMember_14 : decode cX6_readMember 14 = .ok (.aload_n 0, 1) := by decide +kernel
theorem dX6_readMember_15 : decode cX6_readMember 15 = .ok (.dup, 1) := by decide +kernel
theorem dX6_readMember_16 : decode cX6_readMember 16 = .ok (.getfield 33, 3) := by decide +kernel
theorem dX6_readMember_19 : decode cX6_readMember 19 = .ok (.iconst 1, 1) := by decide +kernel
theorem dX6_readMember_20 : decode cX6_readMember 20 = .ok (.iadd, 1) := by decide +kernel
theorem dX6_readMember_21 : decode cX6_readMember 21 = .ok (.putfield 33, 3) := by decide +kernel
theorem dX6_readMember_24 : decode cX6_readMember 24 = .ok (.aload_n 0, 1) := by decide +kernel
theorem dX6_readMember_25 : decode cX6_readMember 25 = .ok (.iconst 3, 1) := by decide +kernel
theorem dX6_readMember_26 : decode cX6_readMember 26 = .ok (.iconst 0, 1) := by decide +kernel
theorem dX6_readMember_27 : decode cX6_readMember 27 = .ok (.sipush 999, 3) := by decide +kernel
theorem dX6_readMember_30 : decode cX6_readMember 30 = .ok (.invokevirtual 56, 3) := by decide +kernel
theorem dX6_readMember_33 : decode cX6_readMember 33 = .ok (.istore_n 1, 1) := by decide +kernel
theorem dX6_readMember_34 : decode cX6_readMember 34 = .ok (.iload_n 1, 1) := by decide +kernel
theorem dX6_readMember_35 : decode cX6_readMember 35 = .ok (.ldc 40, 2) := by decide +kernel
theorem dX6_readMember_37 : decode cX6_readMember 37 = .ok (.if_icmp .ne 5, 3) := by decide +kernel
theorem dX6_readMember_40 : decode cX6_readMember 40 = .ok (.iconst 0, 1) := by decide +kernel
theorem dX6_readMember_41 : decode cX6_readMember 41 = .ok (.ireturn, 1) := by decide +kernel
theorem dX6_readMember_42 : decode cX6_readMember 42 = .ok (.aload_n 0, 1) := by decide +kernel
theorem dX6_readMember_43 : decode cX6_readMember 43 = .ok (.getfield 18, 3) := by decide +kernel
theorem dX6_readMember_46 : decode cX6_readMember 46 = .ok (.iload_n 1, 1) := by decide +kernel
theorem dX6_readMember_47 : decode cX6_readMember 47 = .ok (.invokevirtual 60, 3) := by decide +kernel
theorem dX6_readMember_50 : decode cX6_readMember 50 = .ok (.pop, 1) := by decide +kernel
theorem dX6_readMember_51 : decode cX6_readMember 51 = .ok (.iconst 1, 1) := by decide +kernel
theorem dX6_readMember_52 : decode cX6_readMember 52 = .ok (.ireturn, 1) := by decide +kernel
theorem dX6_readWine_0 : decode cX6_readWine 0 = .ok (.aload_n 0, 1) := by decide +kernel
theorem dX6_readWine_1 : decode cX6_readWine 1 = .ok (.getfield 18, 3) := by decide +kernel
theorem dX6_readWine_4 : decode cX6_readWine 4 = .ok (.getfield 64, 3) := by decide +kernel
theorem dX6_readWine_7 : decode cX6_readWine 7 = .ok (.bipush 6, 2) := by decide +kernel
theorem dX6_readWine_9 : decode cX6_readWine 9 = .ok (.if_icmp .ne 5, 3) := by decide +kernel
theorem dX6_readWine_12 : decode cX6_readWine 12 = .ok (.iconst 0, 1) := by decide +kernel
theorem dX6_readWine_13 : decode cX6_readWine 13 = .ok (.ireturn, 1) := by decide +kernel
theorem dX6_readWine_14 : decode cX6_readWine 14 = .ok (.aload_n 0, 1) := by decide +kernel
theorem dX6_readWine_15 : decode cX6_readWine 15 = .ok (.dup, 1) := by decide +kernel
theorem dX6_readWine_16 : decode cX6_readWine 16 = .ok (.getfield 33, 3) := by decide +kernel
theorem dX6_readWine_19 : decode cX6_readWine 19 = .ok (.iconst 1, 1) := by decide +kernel
theorem dX6_readWine_20 : decode cX6_readWine 20 = .ok (.iadd, 1) := by decide +kernel
theorem dX6_readWine_21 : decode cX6_readWine 21 = .ok (.putfield 33, 3) := by decide +kernel
theorem dX6_readWine_24 : decode cX6_readWine 24 = .ok (.aload_n 0, 1) := by decide +kernel
theorem dX6_readWine_25 : decode cX6_readWine 25 = .ok (.iconst 2, 1) := by decide +kernel
theorem dX6_readWine_26 : decode cX6_readWine 26 = .ok (.iconst 1, 1) := by decide +kernel
theorem dX6_readWine_27 : decode cX6_readWine 27 = .ok (.bipush 99, 2) := by decide +kernel
theorem dX6_readWine_29 : decode cX6_readWine 29 = .ok (.invokevirtual 56, 3) := by decide +kernel
theorem dX6_readWine_32 : decode cX6_readWine 32 = .ok (.istore_n 1, 1) := by decide +kernel
theorem dX6_readWine_33 : decode cX6_readWine 33 = .ok (.iload_n 1, 1) := by decide +kernel
theorem dX6_readWine_34 : decode cX6_readWine 34 = .ok (.ldc 40, 2) := by decide +kernel
theorem dX6_readWine_36 : decode cX6_readWine 36 = .ok (.if_icmp .ne 5, 3) := by decide +kernel
theorem dX6_readWine_39 : decode cX6_readWine 39 = .ok (.iconst 0, 1) := by decide +kernel
theorem dX6_readWine_40 : decode cX6_readWine 40 = .ok (.ireturn, 1) := by decide +kernel
theorem dX6_readWine_41 : decode cX6_readWine 41 = .ok (.aload_n 0, 1) := by decide +kernel
theorem dX6_readWine_42 : decode cX6_readWine 42 = .ok (.iconst 2, 1) := by decide +kernel
theorem dX6_readWine_43 : decode cX6_readWine 43 = .ok (.iconst 0, 1) := by decide +kernel
theorem dX6_readWine_44 : decode cX6_readWine 44 = .ok (.bipush 60, 2) := by decide +kernel
theorem dX6_readWine_46 : decode cX6_readWine 46 = .ok (.invokevirtual 56, 3) := by decide +kernel
theorem dX6_readWine_49 : decode cX6_readWine 49 = .ok (.istore_n 2, 1) := by decide +kernel
theorem dX6_readWine_50 : decode cX6_readWine 50 = .ok (.iload_n 2, 1) := by decide +kernel
theorem dX6_readWine_51 : decode cX6_readWine 51 = .ok (.ldc 40, 2) := by decide +kernel
theorem dX6_readWine_53 : decode cX6_readWine 53 = .ok (.if_icmp .ne 5, 3) := by decide +kernel
theorem dX6_readWine_56 : decode cX6_readWine 56 = .ok (.iconst 0, 1) := by decide +kernel
theorem dX6_readWine_57 : decode cX6_readWine 57 = .ok (.ireturn, 1) := by decide +kernel
theorem dX6_readWine_58 : decode cX6_readWine 58 = .ok (.aload_n 0, 1) := by decide +kernel
theorem dX6_readWine_59 : decode cX6_readWine 59 = .ok (.getfield 18, 3) := by decide +kernel
theorem dX6_readWine_62 : decode cX6_readWine 62 = .ok (.iload_n 1, 1) := by decide +kernel
theorem dX6_readWine_63 : decode cX6_readWine 63 = .ok (.iload_n 2, 1) := by decide +kernel
theorem dX6_readWine_64 : decode cX6_readWine 64 = .ok (.invokevirtual 67, 3) := by decide +kernel
theorem dX6_readWine_67 : decode cX6_readWine 67 = .ok (.pop, 1) := by decide +kernel
theorem dX6_readWine_68 : decode cX6_readWine 68 = .ok (.iconst 1, 1) := by decide +kernel
theorem dX6_readWine_69 : decode cX6_readWine 69 = .ok (.ireturn, 1) := by decide +kernel
theorem dX6_readBin_0 : decode cX6_readBin 0 = .ok (.aload_n 0, 1) := by decide +kernel
theorem dX6_readBin_1 : decode cX6_readBin 1 = .ok (.getfield 18, 3) := by decide +kernel
theorem dX6_readBin_4 : decode cX6_readBin 4 = .ok (.getfield 71, 3) := by decide +kernel
theorem dX6_readBin_7 : decode cX6_readBin 7 = .ok (.getfield 75, 3) := by decide +kernel
theorem dX6_readBin_10 : decode cX6_readBin 10 = .ok (.bipush 8, 2) := by decide +kernel
theorem dX6_readBin_12 : decode cX6_readBin 12 = .ok (.if_icmp .ne 5, 3) := by decide +kernel
theorem dX6_readBin_15 : decode cX6_readBin 15 = .ok (.iconst 0, 1) := by decide +kernel
theorem dX6_readBin_16 : decode cX6_readBin 16 = .ok (.ireturn, 1) := by decide +kernel
theorem dX6_readBin_17 : decode cX6_readBin 17 = .ok (.aload_n 0, 1) := by decide +kernel
theorem dX6_readBin_18 : decode cX6_readBin 18 = .ok (.dup, 1) := by decide +kernel
theorem dX6_readBin_19 : decode cX6_readBin 19 = .ok (.getfield 33, 3) := by decide +kernel
theorem dX6_readBin_22 : decode cX6_readBin 22 = .ok (.iconst 1, 1) := by decide +kernel
theorem dX6_readBin_23 : decode cX6_readBin 23 = .ok (.iadd, 1) := by decide +kernel
theorem dX6_readBin_24 : decode cX6_readBin 24 = .ok (.putfield 33, 3) := by decide +kernel
theorem dX6_readBin_27 : decode cX6_readBin 27 = .ok (.aload_n 0, 1) := by decide +kernel
theorem dX6_readBin_28 : decode cX6_readBin 28 = .ok (.iconst 2, 1) := by decide +kernel
theorem dX6_readBin_29 : decode cX6_readBin 29 = .ok (.iconst 1, 1) := by decide +kernel
theorem dX6_readBin_30 : decode cX6_readBin 30 = .ok (.bipush 24, 2) := by decide +kernel
theorem dX6_readBin_32 : decode cX6_readBin 32 = .ok (.invokevirtual 56, 3) := by decide +kernel
theorem dX6_readBin_35 : decode cX6_readBin 35 = .ok (.istore_n 1, 1) := by decide +kernel
theorem dX6_readBin_36 : decode cX6_readBin 36 = .ok (.iload_n 1, 1) := by decide +kernel
theorem dX6_readBin_37 : decode cX6_readBin 37 = .ok (.ldc 40, 2) := by decide +kernel
theorem dX6_readBin_39 : decode cX6_readBin 39 = .ok (.if_icmp .ne 5, 3) := by decide +kernel
theorem dX6_readBin_42 : decode cX6_readBin 42 = .ok (.iconst 0, 1) := by decide +kernel
theorem dX6_readBin_43 : decode cX6_readBin 43 = .ok (.ireturn, 1) := by decide +kernel
theorem dX6_readBin_44 : decode cX6_readBin 44 = .ok (.aload_n 0, 1) := by decide +kernel
theorem dX6_readBin_45 : decode cX6_readBin 45 = .ok (.getfield 18, 3) := by decide +kernel
theorem dX6_readBin_48 : decode cX6_readBin 48 = .ok (.getfield 71, 3) := by decide +kernel
theorem dX6_readBin_51 : decode cX6_readBin 51 = .ok (.iload_n 1, 1) := by decide +kernel
theorem dX6_readBin_52 : decode cX6_readBin 52 = .ok (.invokevirtual 80, 3) := by decide +kernel
theorem dX6_readBin_55 : decode cX6_readBin 55 = .ok (.pop, 1) := by decide +kernel
theorem dX6_readBin_56 : decode cX6_readBin 56 = .ok (.iconst 1, 1) := by decide +kernel
theorem dX6_readBin_57 : decode cX6_readBin 57 = .ok (.ireturn, 1) := by decide +kernel
theorem dX6_readOrder_0 : decode cX6_readOrder 0 = .ok (.aload_n 0, 1) := by decide +kernel
theorem dX6_readOrder_1 : decode cX6_readOrder 1 = .ok (.getfield 18, 3) := by decide +kernel
theorem dX6_readOrder_4 : decode cX6_readOrder 4 = .ok (.getfield 53, 3) := by decide +kernel
theorem dX6_readOrder_7 : decode cX6_readOrder 7 = .ok (.ifCond .eq 13, 3) := by decide +kernel
theorem dX6_readOrder_10 : decode cX6_readOrder 10 = .ok (.aload_n 0, 1) := by decide +kernel
theorem dX6_readOrder_11 : decode cX6_readOrder 11 = .ok (.getfield 18, 3) := by decide +kernel
theorem dX6_readOrder_14 : decode cX6_readOrder 14 = .ok (.getfield 64, 3) := by decide +kernel
theorem dX6_readOrder_17 : decode cX6_readOrder 17 = .ok (.ifCond .ne 5, 3) := by decide +kernel
theorem dX6_readOrder_20 : decode cX6_readOrder 20 = .ok (.iconst 0, 1) := by decide +kernel
theorem dX6_readOrder_21 : decode cX6_readOrder 21 = .ok (.ireturn, 1) := by decide +kernel
theorem dX6_readOrder_22 : decode cX6_readOrder 22 = .ok (.aload_n 0, 1) := by decide +kernel
theorem dX6_readOrder_23 : decode cX6_readOrder 23 = .ok (.dup, 1) := by decide +kernel
theorem dX6_readOrder_24 : decode cX6_readOrder 24 = .ok (.getfield 33, 3) := by decide +kernel
theorem dX6_readOrder_27 : decode cX6_readOrder 27 = .ok (.iconst 1, 1) := by decide +kernel
theorem dX6_readOrder_28 : decode cX6_readOrder 28 = .ok (.iadd, 1) := by decide +kernel
theorem dX6_readOrder_29 : decode cX6_readOrder 29 = .ok (.putfield 33, 3) := by decide +kernel
theorem dX6_readOrder_32 : decode cX6_readOrder 32 = .ok (.aload_n 0, 1) := by decide +kernel
theorem dX6_readOrder_33 : decode cX6_readOrder 33 = .ok (.iconst 1, 1) := by decide +kernel
theorem dX6_readOrder_34 : decode cX6_readOrder 34 = .ok (.iconst 0, 1) := by decide +kernel
theorem dX6_readOrder_35 : decode cX6_readOrder 35 = .ok (.aload_n 0, 1) := by decide +kernel
theorem dX6_readOrder_36 : decode cX6_readOrder 36 = .ok (.getfield 18, 3) := by decide +kernel
theorem dX6_readOrder_39 : decode cX6_readOrder 39 = .ok (.getfield 53, 3) := by decide +kernel
theorem dX6_readOrder_42 : decode cX6_readOrder 42 = .ok (.iconst 1, 1) := by decide +kernel
theorem dX6_readOrder_43 : decode cX6_readOrder 43 = .ok (.isub, 1) := by decide +kernel
theorem dX6_readOrder_44 : decode cX6_readOrder 44 = .ok (.invokevirtual 56, 3) := by decide +kernel
theorem dX6_readOrder_47 : decode cX6_readOrder 47 = .ok (.istore_n 1, 1) := by decide +kernel
theorem dX6_readOrder_48 : decode cX6_readOrder 48 = .ok (.iload_n 1, 1) := by decide +kernel
theorem dX6_readOrder_49 : decode cX6_readOrder 49 = .ok (.ldc 40, 2) := by decide +kernel
theorem dX6_readOrder_51 : decode cX6_readOrder 51 = .ok (.if_icmp .ne 5, 3) := by decide +kernel
theorem dX6_readOrder_54 : decode cX6_readOrder 54 = .ok (.iconst 0, 1) := by decide +kernel
theorem dX6_readOrder_55 : decode cX6_readOrder 55 = .ok (.ireturn, 1) := by decide +kernel
theorem dX6_readOrder_56 : decode cX6_readOrder 56 = .ok (.aload_n 0, 1) := by decide +kernel
theorem dX6_readOrder_57 : decode cX6_readOrder 57 = .ok (.iconst 1, 1) := by decide +kernel
theorem dX6_readOrder_58 : decode cX6_readOrder 58 = .ok (.iconst 0, 1) := by decide +kernel
theorem dX6_readOrder_59 : decode cX6_readOrder 59 = .ok (.aload_n 0, 1) := by decide +kernel
theorem dX6_readOrder_60 : decode cX6_readOrder 60 = .ok (.getfield 18, 3) := by decide +kernel
theorem dX6_readOrder_63 : decode cX6_readOrder 63 = .ok (.getfield 64, 3) := by decide +kernel
theorem dX6_readOrder_66 : decode cX6_readOrder 66 = .ok (.iconst 1, 1) := by decide +kernel
theorem dX6_readOrder_67 : decode cX6_readOrder 67 = .ok (.isub, 1) := by decide +kernel
theorem dX6_readOrder_68 : decode cX6_readOrder 68 = .ok (.invokevirtual 56, 3) := by decide +kernel
theorem dX6_readOrder_71 : decode cX6_readOrder 71 = .ok (.istore_n 2, 1) := by decide +kernel
theorem dX6_readOrder_72 : decode cX6_readOrder 72 = .ok (.iload_n 2, 1) := by decide +kernel
theorem dX6_readOrder_73 : decode cX6_readOrder 73 = .ok (.ldc 40, 2) := by decide +kernel
theorem dX6_readOrder_75 : decode cX6_readOrder 75 = .ok (.if_icmp .ne 5, 3) := by decide +kernel
theorem dX6_readOrder_78 : decode cX6_readOrder 78 = .ok (.iconst 0, 1) := by decide +kernel
theorem dX6_readOrder_79 : decode cX6_readOrder 79 = .ok (.ireturn, 1) := by decide +kernel
theorem dX6_readOrder_80 : decode cX6_readOrder 80 = .ok (.aload_n 0, 1) := by decide +kernel
theorem dX6_readOrder_81 : decode cX6_readOrder 81 = .ok (.iconst 2, 1) := by decide +kernel
theorem dX6_readOrder_82 : decode cX6_readOrder 82 = .ok (.iconst 0, 1) := by decide +kernel
theorem dX6_readOrder_83 : decode cX6_readOrder 83 = .ok (.bipush 60, 2) := by decide +kernel
theorem dX6_readOrder_85 : decode cX6_readOrder 85 = .ok (.invokevirtual 56, 3) := by decide +kernel
theorem dX6_readOrder_88 : decode cX6_readOrder 88 = .ok (.istore_n 3, 1) := by decide +kernel
theorem dX6_readOrder_89 : decode cX6_readOrder 89 = .ok (.iload_n 3, 1) := by decide +kernel
theorem dX6_readOrder_90 : decode cX6_readOrder 90 = .ok (.ldc 40, 2) := by decide +kernel
theorem dX6_readOrder_92 : decode cX6_readOrder 92 = .ok (.if_icmp .ne 5, 3) := by decide +kernel
theorem dX6_readOrder_95 : decode cX6_readOrder 95 = .ok (.iconst 0, 1) := by decide +kernel
theorem dX6_readOrder_96 : decode cX6_readOrder 96 = .ok (.ireturn, 1) := by decide +kernel
theorem dX6_readOrder_97 : decode cX6_readOrder 97 = .ok (.aload_n 0, 1) := by decide +kernel
theorem dX6_readOrder_98 : decode cX6_readOrder 98 = .ok (.getfield 18, 3) := by decide +kernel
theorem dX6_readOrder_101 : decode cX6_readOrder 101 = .ok (.iload_n 1, 1) := by decide +kernel
theorem dX6_readOrder_102 : decode cX6_readOrder 102 = .ok (.iload_n 2, 1) := by decide +kernel
theorem dX6_readOrder_103 : decode cX6_readOrder 103 = .ok (.iload_n 3, 1) := by decide +kernel
theorem dX6_readOrder_104 : decode cX6_readOrder 104 = .ok (.invokevirtual 83, 3) := by decide +kernel
theorem dX6_readOrder_107 : decode cX6_readOrder 107 = .ok (.pop, 1) := by decide +kernel
theorem dX6_readOrder_108 : decode cX6_readOrder 108 = .ok (.iconst 1, 1) := by decide +kernel
theorem dX6_readOrder_109 : decode cX6_readOrder 109 = .ok (.ireturn, 1) := by decide +kernel
theorem dX6_readNumber_0 : decode cX6_readNumber 0 = .ok (.iconst 1, 1) := by decide +kernel
theorem dX6_readNumber_1 : decode cX6_readNumber 1 = .ok (.istore 4, 2) := by decide +kernel
theorem dX6_readNumber_3 : decode cX6_readNumber 3 = .ok (.iconst 0, 1) := by decide +kernel
theorem dX6_readNumber_4 : decode cX6_readNumber 4 = .ok (.istore 5, 2) := by decide +kernel
theorem dX6_readNumber_6 : decode cX6_readNumber 6 = .ok (.iload 5, 2) := by decide +kernel
theorem dX6_readNumber_8 : decode cX6_readNumber 8 = .ok (.iload_n 1, 1) := by decide +kernel
theorem dX6_readNumber_9 : decode cX6_readNumber 9 = .ok (.if_icmp .ge 16, 3) := by decide +kernel
theorem dX6_readNumber_12 : decode cX6_readNumber 12 = .ok (.iload 4, 2) := by decide +kernel
theorem dX6_readNumber_14 : decode cX6_readNumber 14 = .ok (.bipush 10, 2) := by decide +kernel
theorem dX6_readNumber_16 : decode cX6_readNumber 16 = .ok (.imul, 1) := by decide +kernel
theorem dX6_readNumber_17 : decode cX6_readNumber 17 = .ok (.istore 4, 2) := by decide +kernel
theorem dX6_readNumber_19 : decode cX6_readNumber 19 = .ok (.iinc 5 1, 3) := by decide +kernel
theorem dX6_readNumber_22 : decode cX6_readNumber 22 = .ok (.goto (-16), 3) := by decide +kernel
theorem dX6_readNumber_25 : decode cX6_readNumber 25 = .ok (.iconst 0, 1) := by decide +kernel
theorem dX6_readNumber_26 : decode cX6_readNumber 26 = .ok (.istore 5, 2) := by decide +kernel
theorem dX6_readNumber_28 : decode cX6_readNumber 28 = .ok (.iconst 0, 1) := by decide +kernel
theorem dX6_readNumber_29 : decode cX6_readNumber 29 = .ok (.istore 6, 2) := by decide +kernel
theorem dX6_readNumber_31 : decode cX6_readNumber 31 = .ok (.iload 6, 2) := by decide +kernel
theorem dX6_readNumber_33 : decode cX6_readNumber 33 = .ok (.iload_n 1, 1) := by decide +kernel
theorem dX6_readNumber_34 : decode cX6_readNumber 34 = .ok (.if_icmp .ge 108, 3) := by decide +kernel
theorem dX6_readNumber_37 : decode cX6_readNumber 37 = .ok (.aload_n 0, 1) := by decide +kernel
theorem dX6_readNumber_38 : decode cX6_readNumber 38 = .ok (.getfield 33, 3) := by decide +kernel
theorem dX6_readNumber_41 : decode cX6_readNumber 41 = .ok (.aload_n 0, 1) := by decide +kernel
theorem dX6_readNumber_42 : decode cX6_readNumber 42 = .ok (.getfield 25, 3) := by decide +kernel
theorem dX6_readNumber_45 : decode cX6_readNumber 45 = .ok (.if_icmp .ge 31, 3) := by decide +kernel
theorem dX6_readNumber_48 : decode cX6_readNumber 48 = .ok (.aload_n 0, 1) := by decide +kernel
theorem dX6_readNumber_49 : decode cX6_readNumber 49 = .ok (.getfield 9, 3) := by decide +kernel
theorem dX6_readNumber_52 : decode cX6_readNumber 52 = .ok (.aload_n 0, 1) := by decide +kernel
theorem dX6_readNumber_53 : decode cX6_readNumber 53 = .ok (.getfield 33, 3) := by decide +kernel
theorem dX6_readNumber_56 : decode cX6_readNumber 56 = .ok (.caload, 1) := by decide +kernel
theorem dX6_readNumber_57 : decode cX6_readNumber 57 = .ok (.bipush 48, 2) := by decide +kernel
theorem dX6_readNumber_59 : decode cX6_readNumber 59 = .ok (.if_icmp .lt 17, 3) := by decide +kernel
theorem dX6_readNumber_62 : decode cX6_readNumber 62 = .ok (.aload_n 0, 1) := by decide +kernel
theorem dX6_readNumber_63 : decode cX6_readNumber 63 = .ok (.getfield 9, 3) := by decide +kernel
theorem dX6_readNumber_66 : decode cX6_readNumber 66 = .ok (.aload_n 0, 1) := by decide +kernel
theorem dX6_readNumber_67 : decode cX6_readNumber 67 = .ok (.getfield 33, 3) := by decide +kernel
theorem dX6_readNumber_70 : decode cX6_readNumber 70 = .ok (.caload, 1) := by decide +kernel
theorem dX6_readNumber_71 : decode cX6_readNumber 71 = .ok (.bipush 57, 2) := by decide +kernel
theorem dX6_readNumber_73 : decode cX6_readNumber 73 = .ok (.if_icmp .le 6, 3) := by decide +kernel
theorem dX6_readNumber_76 : decode cX6_readNumber 76 = .ok (.ldc 40, 2) := by decide +kernel
theorem dX6_readNumber_78 : decode cX6_readNumber 78 = .ok (.ireturn, 1) := by decide +kernel
theorem dX6_readNumber_79 : decode cX6_readNumber 79 = .ok (.iload 4, 2) := by decide +kernel
theorem dX6_readNumber_81 : decode cX6_readNumber 81 = .ok (.bipush 10, 2) := by decide +kernel
theorem dX6_readNumber_83 : decode cX6_readNumber 83 = .ok (.idiv, 1) := by decide +kernel
theorem dX6_readNumber_84 : decode cX6_readNumber 84 = .ok (.istore 4, 2) := by decide +kernel
theorem dX6_readNumber_86 : decode cX6_readNumber 86 = .ok (.iload 5, 2) := by decide +kernel
theorem dX6_readNumber_88 : decode cX6_readNumber 88 = .ok (.aload_n 0, 1) := by decide +kernel
theorem dX6_readNumber_89 : decode cX6_readNumber 89 = .ok (.getfield 9, 3) := by decide +kernel
theorem dX6_readNumber_92 : decode cX6_readNumber 92 = .ok (.aload_n 0, 1) := by decide +kernel
theorem dX6_readNumber_93 : decode cX6_readNumber 93 = .ok (.getfield 33, 3) := by decide +kernel
theorem dX6_readNumber_96 : decode cX6_readNumber 96 = .ok (.caload, 1) := by decide +kernel
theorem dX6_readNumber_97 : decode cX6_readNumber 97 = .ok (.bipush 48, 2) := by decide +kernel
theorem dX6_readNumber_99 : decode cX6_readNumber 99 = .ok (.isub, 1) := by decide +kernel
theorem dX6_readNumber_100 : decode cX6_readNumber 100 = .ok (.iload 4, 2) := by decide +kernel
theorem dX6_readNumber_102 : decode cX6_readNumber 102 = .ok (.imul, 1) := by decide +kernel
theorem dX6_readNumber_103 : decode cX6_readNumber 103 = .ok (.iadd, 1) := by decide +kernel
theorem dX6_readNumber_104 : decode cX6_readNumber 104 = .ok (.istore 5, 2) := by decide +kernel
theorem dX6_readNumber_106 : decode cX6_readNumber 106 = .ok (.iload 5, 2) := by decide +kernel
theorem dX6_readNumber_108 : decode cX6_readNumber 108 = .ok (.iload_n 3, 1) := by decide +kernel
theorem dX6_readNumber_109 : decode cX6_readNumber 109 = .ok (.if_icmp .gt 14, 3) := by decide +kernel
theorem dX6_readNumber_112 : decode cX6_readNumber 112 = .ok (.iload 5, 2) := by decide +kernel
theorem dX6_readNumber_114 : decode cX6_readNumber 114 = .ok (.iload 4, 2) := by decide +kernel
theorem dX6_readNumber_116 : decode cX6_readNumber 116 = .ok (.iadd, 1) := by decide +kernel
theorem dX6_readNumber_117 : decode cX6_readNumber 117 = .ok (.iconst 1, 1) := by decide +kernel
theorem dX6_readNumber_118 : decode cX6_readNumber 118 = .ok (.isub, 1) := by decide +kernel
theorem dX6_readNumber_119 : decode cX6_readNumber 119 = .ok (.iload_n 2, 1) := by decide +kernel
theorem dX6_readNumber_120 : decode cX6_readNumber 120 = .ok (.if_icmp .ge 6, 3) := by decide +kernel
theorem dX6_readNumber_123 : decode cX6_readNumber 123 = .ok (.ldc 40, 2) := by decide +kernel
theorem dX6_readNumber_125 : decode cX6_readNumber 125 = .ok (.ireturn, 1) := by decide +kernel
theorem dX6_readNumber_126 : decode cX6_readNumber 126 = .ok (.aload_n 0, 1) := by decide +kernel
theorem dX6_readNumber_127 : decode cX6_readNumber 127 = .ok (.dup, 1) := by decide +kernel
theorem dX6_readNumber_128 : decode cX6_readNumber 128 = .ok (.getfield 33, 3) := by decide +kernel
theorem dX6_readNumber_131 : decode cX6_readNumber 131 = .ok (.iconst 1, 1) := by decide +kernel
theorem dX6_readNumber_132 : decode cX6_readNumber 132 = .ok (.iadd, 1) := by decide +kernel
theorem dX6_readNumber_133 : decode cX6_readNumber 133 = .ok (.putfield 33, 3) := by decide +kernel
theorem dX6_readNumber_136 : decode cX6_readNumber 136 = .ok (.iinc 6 1, 3) := by decide +kernel
theorem dX6_readNumber_139 : decode cX6_readNumber 139 = .ok (.goto (-108), 3) := by decide +kernel
theorem dX6_readNumber_142 : decode cX6_readNumber 142 = .ok (.iload 5, 2) := by decide +kernel
theorem dX6_readNumber_144 : decode cX6_readNumber 144 = .ok (.ireturn, 1) := by decide +kernel
theorem dX7_init_0 : decode cX7_init 0 = .ok (.aload_n 0, 1) := by decide +kernel
theorem dX7_init_1 : decode cX7_init 1 = .ok (.invokespecial 1, 3) := by decide +kernel
theorem dX7_init_4 : decode cX7_init 4 = .ok (.aload_n 0, 1) := by decide +kernel
theorem dX7_init_5 : decode cX7_init 5 = .ok (.new 7, 3) := by decide +kernel
theorem dX7_init_8 : decode cX7_init 8 = .ok (.dup, 1) := by decide +kernel
theorem dX7_init_9 : decode cX7_init 9 = .ok (.invokespecial 9, 3) := by decide +kernel
theorem dX7_init_12 : decode cX7_init 12 = .ok (.putfield 10, 3) := by decide +kernel
theorem dX7_init_15 : decode cX7_init 15 = .ok (.aload_n 0, 1) := by decide +kernel
theorem dX7_init_16 : decode cX7_init 16 = .ok (.new 16, 3) := by decide +kernel
theorem dX7_init_19 : decode cX7_init 19 = .ok (.dup, 1) := by decide +kernel
theorem dX7_init_20 : decode cX7_init 20 = .ok (.invokespecial 18, 3) := by decide +kernel
theorem dX7_init_23 : decode cX7_init 23 = .ok (.putfield 19, 3) := by decide +kernel
theorem dX7_init_26 : decode cX7_init 26 = .ok (.aload_n 0, 1) := by decide +kernel
theorem dX7_init_27 : decode cX7_init 27 = .ok (.new 23, 3) := by decide +kernel
theorem dX7_init_30 : decode cX7_init 30 = .ok (.dup, 1) := by decide +kernel
theorem dX7_init_31 : decode cX7_init 31 = .ok (.invokespecial 25, 3) := by decide +kernel
theorem dX7_init_34 : decode cX7_init 34 = .ok (.putfield 26, 3) := by decide +kernel
theorem dX7_init_37 : decode cX7_init 37 = .ok (.aload_n 0, 1) := by decide +kernel
theorem dX7_init_38 : decode cX7_init 38 = .ok (.new 30, 3) := by decide +kernel
theorem dX7_init_41 : decode cX7_init 41 = .ok (.dup, 1) := by decide +kernel
theorem dX7_init_42 : decode cX7_init 42 = .ok (.invokespecial 32, 3) := by decide +kernel
theorem dX7_init_45 : decode cX7_init 45 = .ok (.putfield 33, 3) := by decide +kernel
theorem dX7_init_48 : decode cX7_init 48 = .ok (.aload_n 0, 1) := by decide +kernel
theorem dX7_init_49 : decode cX7_init 49 = .ok (.new 37, 3) := by decide +kernel
theorem dX7_init_52 : decode cX7_init 52 = .ok (.dup, 1) := by decide +kernel
theorem dX7_init_53 : decode cX7_init 53 = .ok (.invokespecial 39, 3) := by decide +kernel
theorem dX7_init_56 : decode cX7_init 56 = .ok (.putfield 40, 3) := by decide +kernel
theorem dX7_init_59 : decode cX7_init 59 = .ok (.aload_n 0, 1) := by decide +kernel
theorem dX7_init_60 : decode cX7_init 60 = .ok (.iconst 2, 1) := by decide +kernel
theorem dX7_init_61 : decode cX7_init 61 = .ok (.anewarray 7, 3) := by decide +kernel
theorem dX7_init_64 : decode cX7_init 64 = .ok (.putfield 44, 3) := by decide +kernel
theorem dX7_init_67 : decode cX7_init 67 = .ok (.iconst 0, 1) := by decide +kernel
theorem dX7_init_68 : decode cX7_init 68 = .ok (.istore_n 1, 1) := by decide +kernel
theorem dX7_init_69 : decode cX7_init 69 = .ok (.iload_n 1, 1) := by decide +kernel
theorem dX7_init_70 : decode cX7_init 70 = .ok (.iconst 2, 1) := by decide +kernel
theorem dX7_init_71 : decode cX7_init 71 = .ok (.if_icmp .ge 22, 3) := by decide +kernel
theorem dX7_init_74 : decode cX7_init 74 = .ok (.aload_n 0, 1) := by decide +kernel
theorem dX7_init_75 : decode cX7_init 75 = .ok (.getfield 44, 3) := by decide +kernel
theorem dX7_init_78 : decode cX7_init 78 = .ok (.iload_n 1, 1) := by decide +kernel
theorem dX7_init_79 : decode cX7_init 79 = .ok (.new 7, 3) := by decide +kernel
theorem dX7_init_82 : decode cX7_init 82 = .ok (.dup, 1) := by decide +kernel
theorem dX7_init_83 : decode cX7_init 83 = .ok (.invokespecial 9, 3) := by decide +kernel
theorem dX7_init_86 : decode cX7_init 86 = .ok (.aastore, 1) := by decide +kernel
theorem dX7_init_87 : decode cX7_init 87 = .ok (.iinc 1 1, 3) := by decide +kernel
theorem dX7_init_90 : decode cX7_init 90 = .ok (.goto (-21), 3) := by decide +kernel
theorem dX7_init_93 : decode cX7_init 93 = .ok (.aload_n 0, 1) := by decide +kernel
theorem dX7_init_94 : decode cX7_init 94 = .ok (.iconst 2, 1) := by decide +kernel
theorem dX7_init_95 : decode cX7_init 95 = .ok (.newarray .boolean, 2) := by decide +kernel
theorem dX7_init_97 : decode cX7_init 97 = .ok (.putfield 48, 3) := by decide +kernel
theorem dX7_init_100 : decode cX7_init 100 = .ok (.return_, 1) := by decide +kernel
theorem dX7_append_0 : decode cX7_append 0 = .ok (.aload_n 0, 1) := by decide +kernel
theorem dX7_append_1 : decode cX7_append 1 = .ok (.getfield 19, 3) := by decide +kernel
theorem dX7_append_4 : decode cX7_append 4 = .ok (.iload_n 1, 1) := by decide +kernel
theorem dX7_append_5 : decode cX7_append 5 = .ok (.invokevirtual 52, 3) := by decide +kernel
theorem dX7_append_8 : decode cX7_append 8 = .ok (.invokestatic 56, 3) := by decide +kernel
theorem dX7_append_11 : decode cX7_append 11 = .ok (.aload_n 0, 1) := by decide +kernel
theorem dX7_append_12 : decode cX7_append 12 = .ok (.getfield 19, 3) := by decide +kernel
theorem dX7_append_15 : decode cX7_append 15 = .ok (.iload_n 1, 1) := by decide +kernel
theorem dX7_append_16 : decode cX7_append 16 = .ok (.i2c, 1) := by decide +kernel
theorem dX7_append_17 : decode cX7_append 17 = .ok (.invokevirtual 60, 3) := by decide +kernel
theorem dX7_append_20 : decode cX7_append 20 = .ok (.ireturn, 1) := by decide +kernel
theorem dX7_clearText_0 : decode cX7_clearText 0 = .ok (.aload_n 0, 1) := by decide +kernel
theorem dX7_clearText_1 : decode cX7_clearText 1 = .ok (.getfield 19, 3) := by decide +kernel
theorem dX7_clearText_4 : decode cX7_clearText 4 = .ok (.invokevirtual 64, 3) := by decide +kernel
theorem dX7_clearText_7 : decode cX7_clearText 7 = .ok (.ireturn, 1) := by decide +kernel
theorem dX7_errorPosition_0 : decode cX7_errorPosition 0 = .ok (.aload_n 0, 1) := by decide +kernel
theorem dX7_errorPosition_1 : decode cX7_errorPosition 1 = .ok (.getfield 19, 3) := by decide +kernel
theorem dX7_errorPosition_4 : decode cX7_errorPosition 4 = .ok (.invokevirtual 68, 3) := by decide +kernel
theorem dX7_errorPosition_7 : decode cX7_errorPosition 7 = .ok (.ireturn, 1) := by decide +kernel
theorem dX7_load_0 : decode cX7_load 0 = .ok (.aload_n 0, 1) := by decide +kernel
theorem dX7_load_1 : decode cX7_load 1 = .ok (.getfield 19, 3) := by decide +kernel
theorem dX7_load_4 : decode cX7_load 4 = .ok (.invokevirtual 68, 3) := by decide +kernel
theorem dX7_load_7 : decode cX7_load 7 = .ok (.ldc 71, 2) := by decide +kernel
theorem dX7_load_9 : decode cX7_load 9 = .ok (.if_icmp .ne 7, 3) := by decide +kernel
theorem dX7_load_12 : decode cX7_load 12 = .ok (.iconst 0, 1) := by decide +kernel
theorem dX7_load_13 : decode cX7_load 13 = .ok (.goto 4, 3) := by decide +kernel
theorem dX7_load_16 : decode cX7_load 16 = .ok (.iconst 3, 1) := by decide +kernel
theorem dX7_load_17 : decode cX7_load 17 = .ok (.invokestatic 56, 3) := by decide +kernel
theorem dX7_load_20 : decode cX7_load 20 = .ok (.aload_n 0, 1) := by decide +kernel
theorem dX7_load_21 : decode cX7_load 21 = .ok (.getfield 10, 3) := by decide +kernel
theorem dX7_load_24 : decode cX7_load 24 = .ok (.aload_n 0, 1) := by decide +kernel
theorem dX7_load_25 : decode cX7_load 25 = .ok (.getfield 19, 3) := by decide +kernel
theorem dX7_load_28 : decode cX7_load 28 = .ok (.getfield 72, 3) := by decide +kernel
theorem dX7_load_31 : decode cX7_load 31 = .ok (.invokevirtual 75, 3) := by decide +kernel
theorem dX7_load_34 : decode cX7_load 34 = .ok (.aload_n 0, 1) := by decide +kernel
theorem dX7_load_35 : decode cX7_load 35 = .ok (.getfield 26, 3) := by decide +kernel
theorem dX7_load_38 : decode cX7_load 38 = .ok (.invokevirtual 79, 3) := by decide +kernel
theorem dX7_load_41 : decode cX7_load 41 = .ok (.iconst 0, 1) := by decide +kernel
theorem dX7_load_42 : decode cX7_load 42 = .ok (.istore_n 1, 1) := by decide +kernel
theorem dX7_load_43 : decode cX7_load 43 = .ok (.iload_n 1, 1) := by decide +kernel
theorem dX7_load_44 : decode cX7_load 44 = .ok (.iconst 2, 1) := by decide +kernel
theorem dX7_load_45 : decode cX7_load 45 = .ok (.if_icmp .ge 16, 3) := by decide +kernel
theorem dX7_load_48 : decode cX7_load 48 = .ok (.aload_n 0, 1) := by decide +kernel
theorem dX7_load_49 : decode cX7_load 49 = .ok (.getfield 48, 3) := by decide +kernel
theorem dX7_load_52 : decode cX7_load 52 = .ok (.iload_n 1, 1) := by decide +kernel
theorem dX7_load_53 : decode cX7_load 53 = .ok (.iconst 0, 1) := by decide +kernel
theorem dX7_load_54 : decode cX7_load 54 = .ok (.bastore, 1) := by decide +kernel
theorem dX7_load_55 : decode cX7_load 55 = .ok (.iinc 1 1, 3) := by decide +kernel
theorem dX7_load_58 : decode cX7_load 58 = .ok (.goto (-15), 3) := by decide +kernel
theorem dX7_load_61 : decode cX7_load 61 = .ok (.aload_n 0, 1) := by decide +kernel
theorem dX7_load_62 : decode cX7_load 62 = .ok (.getfield 10, 3) := by decide +kernel
theorem dX7_load_65 : decode cX7_load 65 = .ok (.getfield 82, 3) := by decide +kernel
theorem dX7_load_68 : decode cX7_load 68 = .ok (.ireturn, 1) := by decide +kernel
theorem dX7_about_0 : decode cX7_about 0 = .ok (.iload_n 1, 1) := by decide +kernel
theorem dX7_about_1 : decode cX7_about 1 = .ok (.iconst 0, 1) := by decide +kernel
theorem dX7_about_2 : decode cX7_about 2 = .ok (.bipush 9, 2) := by decide +kernel
theorem dX7_about_4 : decode cX7_about 4 = .ok (.invokestatic 86, 3) := by decide +kernel
theorem dX7_about_7 : decode cX7_about 7 = .ok (.invokestatic 56, 3) := by decide +kernel
theorem dX7_about_10 : decode cX7_about 10 = .ok (.aload_n 0, 1) := by decide +kernel
theorem dX7_about_11 : decode cX7_about 11 = .ok (.getfield 10, 3) := by decide +kernel
theorem dX7_about_14 : decode cX7_about 14 = .ok (.iload_n 1, 1) := by decide +kernel
theorem dX7_about_15 : decode cX7_about 15 = .ok (.invokevirtual 90, 3) := by decide +kernel
theorem dX7_about_18 : decode cX7_about 18 = .ok (.ireturn, 1) := by decide +kernel
theorem dX7_member_0 : decode cX7_member 0 = .ok (.aload_n 0, 1) := by decide +kernel
theorem dX7_member_1 : decode cX7_member 1 = .ok (.getfield 10, 3) := by decide +kernel
theorem dX7_member_4 : decode cX7_member 4 = .ok (.iload_n 1, 1) := by decide +kernel
theorem dX7_member_5 : decode cX7_member 5 = .ok (.invokevirtual 93, 3) := by decide +kernel
theorem dX7_member_8 : decode cX7_member 8 = .ok (.ifCond .eq 12, 3) := by decide +kernel
theorem dX7_member_11 : decode cX7_member 11 = .ok (.iload_n 2, 1) := by decide +kernel
theorem dX7_member_12 : decode cX7_member 12 = .ok (.iconst 0, 1) := by decide +kernel
theorem dX7_member_13 : decode cX7_member 13 = .ok (.iconst 3, 1) := by decide +kernel
theorem dX7_member_14 : decode cX7_member 14 = .ok (.invokestatic 86, 3) := by decide +kernel
theorem dX7_member_17 : decode cX7_member 17 = .ok (.goto 4, 3) := by decide +kernel
theorem dX7_member_20 : decode cX7_member 20 = .ok (.iconst 1, 1) := by decide +kernel
theorem dX7_member_21 : decode cX7_member 21 = .ok (.invokestatic 56, 3) := by decide +kernel
theorem dX7_member_24 : decode cX7_member 24 = .ok (.aload_n 0, 1) := by decide +kernel
theorem dX7_member_25 : decode cX7_member 25 = .ok (.getfield 10, 3) := by decide +kernel
theorem dX7_member_28 : decode cX7_member 28 = .ok (.iload_n 1, 1) := by decide +kernel
theorem dX7_member_29 : decode cX7_member 29 = .ok (.iload_n 2, 1) := by decide +kernel
theorem dX7_member_30 : decode cX7_member 30 = .ok (.invokevirtual 97, 3) := by decide +kernel
theorem dX7_member_33 : decode cX7_member 33 = .ok (.ireturn, 1) := by decide +kernel
theorem dX7_wine_0 : decode cX7_wine 0 = .ok (.aload_n 0, 1) := by decide +kernel
theorem dX7_wine_1 : decode cX7_wine 1 = .ok (.getfield 10, 3) := by decide +kernel
theorem dX7_wine_4 : decode cX7_wine 4 = .ok (.iload_n 1, 1) := by decide +kernel
theorem dX7_wine_5 : decode cX7_wine 5 = .ok (.invokevirtual 101, 3) := by decide +kernel
theorem dX7_wine_8 : decode cX7_wine 8 = .ok (.ifCond .eq 13, 3) := by decide +kernel
theorem dX7_wine_11 : decode cX7_wine 11 = .ok (.iload_n 2, 1) := by decide +kernel
theorem dX7_wine_12 : decode cX7_wine 12 = .ok (.iconst 0, 1) := by decide +kernel
theorem dX7_wine_13 : decode cX7_wine 13 = .ok (.bipush 8, 2) := by decide +kernel
theorem dX7_wine_15 : decode cX7_wine 15 = .ok (.invokestatic 86, 3) := by decide +kernel
theorem dX7_wine_18 : decode cX7_wine 18 = .ok (.goto 4, 3) := by decide +kernel
theorem dX7_wine_21 : decode cX7_wine 21 = .ok (.iconst 1, 1) := by decide +kernel
theorem dX7_wine_22 : decode cX7_wine 22 = .ok (.invokestatic 56, 3) := by decide +kernel
theorem dX7_wine_25 : decode cX7_wine 25 = .ok (.aload_n 0, 1) := by decide +kernel
theorem dX7_wine_26 : decode cX7_wine 26 = .ok (.getfield 10, 3) := by decide +kernel
theorem dX7_wine_29 : decode cX7_wine 29 = .ok (.iload_n 1, 1) := by decide +kernel
theorem dX7_wine_30 : decode cX7_wine 30 = .ok (.iload_n 2, 1) := by decide +kernel
theorem dX7_wine_31 : decode cX7_wine 31 = .ok (.invokevirtual 104, 3) := by decide +kernel
theorem dX7_wine_34 : decode cX7_wine 34 = .ok (.ireturn, 1) := by decide +kernel
theorem dX7_bin_0 : decode cX7_bin 0 = .ok (.aload_n 0, 1) := by decide +kernel
theorem dX7_bin_1 : decode cX7_bin 1 = .ok (.getfield 10, 3) := by decide +kernel
theorem dX7_bin_4 : decode cX7_bin 4 = .ok (.getfield 107, 3) := by decide +kernel
theorem dX7_bin_7 : decode cX7_bin 7 = .ok (.iload_n 1, 1) := by decide +kernel
theorem dX7_bin_8 : decode cX7_bin 8 = .ok (.invokevirtual 111, 3) := by decide +kernel
theorem dX7_bin_11 : decode cX7_bin 11 = .ok (.ifCond .eq 12, 3) := by decide +kernel
theorem dX7_bin_14 : decode cX7_bin 14 = .ok (.iload_n 2, 1) := by decide +kernel
theorem dX7_bin_15 : decode cX7_bin 15 = .ok (.iconst 0, 1) := by decide +kernel
theorem dX7_bin_16 : decode cX7_bin 16 = .ok (.iconst 2, 1) := by decide +kernel
theorem dX7_bin_17 : decode cX7_bin 17 = .ok (.invokestatic 86, 3) := by decide +kernel
theorem dX7_bin_20 : decode cX7_bin 20 = .ok (.goto 4, 3) := by decide +kernel
theorem dX7_bin_23 : decode cX7_bin 23 = .ok (.iconst 1, 1) := by decide +kernel
theorem dX7_bin_24 : decode cX7_bin 24 = .ok (.invokestatic 56, 3) := by decide +kernel
theorem dX7_bin_27 : decode cX7_bin 27 = .ok (.aload_n 0, 1) := by decide +kernel
theorem dX7_bin_28 : decode cX7_bin 28 = .ok (.getfield 10, 3) := by decide +kernel
theorem dX7_bin_31 : decode cX7_bin 31 = .ok (.getfield 107, 3) := by decide +kernel
theorem dX7_bin_34 : decode cX7_bin 34 = .ok (.iload_n 1, 1) := by decide +kernel
theorem dX7_bin_35 : decode cX7_bin 35 = .ok (.iload_n 2, 1) := by decide +kernel
theorem dX7_bin_36 : decode cX7_bin 36 = .ok (.invokevirtual 116, 3) := by decide +kernel
theorem dX7_bin_39 : decode cX7_bin 39 = .ok (.ireturn, 1) := by decide +kernel
theorem dX7_has_0 : decode cX7_has 0 = .ok (.aload_n 0, 1) := by decide +kernel
theorem dX7_has_1 : decode cX7_has 1 = .ok (.getfield 10, 3) := by decide +kernel
theorem dX7_has_4 : decode cX7_has 4 = .ok (.iload_n 1, 1) := by decide +kernel
theorem dX7_has_5 : decode cX7_has 5 = .ok (.iload_n 2, 1) := by decide +kernel
theorem dX7_has_6 : decode cX7_has 6 = .ok (.invokevirtual 119, 3) := by decide +kernel
theorem dX7_has_9 : decode cX7_has 9 = .ok (.ifCond .eq 12, 3) := by decide +kernel
theorem dX7_has_12 : decode cX7_has 12 = .ok (.iload_n 3, 1) := by decide +kernel
theorem dX7_has_13 : decode cX7_has 13 = .ok (.iconst 0, 1) := by decide +kernel
theorem dX7_has_14 : decode cX7_has 14 = .ok (.iconst 2, 1) := by decide +kernel
theorem dX7_has_15 : decode cX7_has 15 = .ok (.invokestatic 86, 3) := by decide +kernel
theorem dX7_has_18 : decode cX7_has 18 = .ok (.goto 4, 3) := by decide +kernel
theorem dX7_has_21 : decode cX7_has 21 = .ok (.iconst 1, 1) := by decide +kernel
theorem dX7_has_22 : decode cX7_has 22 = .ok (.invokestatic 56, 3) := by decide +kernel
theorem dX7_has_25 : decode cX7_has 25 = .ok (.aload_n 0, 1) := by decide +kernel
theorem dX7_has_26 : decode cX7_has 26 = .ok (.getfield 10, 3) := by decide +kernel
theorem dX7_has_29 : decode cX7_has 29 = .ok (.iload_n 1, 1) := by decide +kernel
theorem dX7_has_30 : decode cX7_has 30 = .ok (.iload_n 2, 1) := by decide +kernel
theorem dX7_has_31 : decode cX7_has 31 = .ok (.iload_n 3, 1) := by decide +kernel
theorem dX7_has_32 : decode cX7_has 32 = .ok (.invokevirtual 123, 3) := by decide +kernel
theorem dX7_has_35 : decode cX7_has 35 = .ok (.ireturn, 1) := by decide +kernel
theorem dX7_addMember_0 : decode cX7_addMember 0 = .ok (.aload_n 0, 1) := by decide +kernel
theorem dX7_addMember_1 : decode cX7_addMember 1 = .ok (.getfield 10, 3) := by decide +kernel
theorem dX7_addMember_4 : decode cX7_addMember 4 = .ok (.iload_n 1, 1) := by decide +kernel
theorem dX7_addMember_5 : decode cX7_addMember 5 = .ok (.invokevirtual 126, 3) := by decide +kernel
theorem dX7_addMember_8 : decode cX7_addMember 8 = .ok (.invokestatic 56, 3) := by decide +kernel
theorem dX7_addMember_11 : decode cX7_addMember 11 = .ok (.aload_n 0, 1) := by decide +kernel
theorem dX7_addMember_12 : decode cX7_addMember 12 = .ok (.getfield 26, 3) := by decide +kernel
theorem dX7_addMember_15 : decode cX7_addMember 15 = .ok (.aload_n 0, 1) := by decide +kernel
theorem dX7_addMember_16 : decode cX7_addMember 16 = .ok (.getfield 10, 3) := by decide +kernel
theorem dX7_addMember_19 : decode cX7_addMember 19 = .ok (.invokevirtual 129, 3) := by decide +kernel
theorem dX7_addMember_22 : decode cX7_addMember 22 = .ok (.aload_n 0, 1) := by decide +kernel
theorem dX7_addMember_23 : decode cX7_addMember 23 = .ok (.getfield 10, 3) := by decide +kernel
theorem dX7_addMember_26 : decode cX7_addMember 26 = .ok (.iload_n 1, 1) := by decide +kernel
theorem dX7_addMember_27 : decode cX7_addMember 27 = .ok (.invokevirtual 132, 3) := by decide +kernel
theorem dX7_addMember_30 : decode cX7_addMember 30 = .ok (.ireturn, 1) := by decide +kernel
theorem dX7_addWine_0 : decode cX7_addWine 0 = .ok (.aload_n 0, 1) := by decide +kernel
theorem dX7_addWine_1 : decode cX7_addWine 1 = .ok (.getfield 10, 3) := by decide +kernel
theorem dX7_addWine_4 : decode cX7_addWine 4 = .ok (.iload_n 1, 1) := by decide +kernel
theorem dX7_addWine_5 : decode cX7_addWine 5 = .ok (.iload_n 2, 1) := by decide +kernel
theorem dX7_addWine_6 : decode cX7_addWine 6 = .ok (.invokevirtual 135, 3) := by decide +kernel
theorem dX7_addWine_9 : decode cX7_addWine 9 = .ok (.invokestatic 56, 3) := by decide +kernel
theorem dX7_addWine_12 : decode cX7_addWine 12 = .ok (.aload_n 0, 1) := by decide +kernel
theorem dX7_addWine_13 : decode cX7_addWine 13 = .ok (.getfield 26, 3) := by decide +kernel
theorem dX7_addWine_16 : decode cX7_addWine 16 = .ok (.aload_n 0, 1) := by decide +kernel
theorem dX7_addWine_17 : decode cX7_addWine 17 = .ok (.getfield 10, 3) := by decide +kernel
theorem dX7_addWine_20 : decode cX7_addWine 20 = .ok (.invokevirtual 129, 3) := by decide +kernel
theorem dX7_addWine_23 : decode cX7_addWine 23 = .ok (.aload_n 0, 1) := by decide +kernel
theorem dX7_addWine_24 : decode cX7_addWine 24 = .ok (.getfield 10, 3) := by decide +kernel
theorem dX7_addWine_27 : decode cX7_addWine 27 = .ok (.iload_n 1, 1) := by decide +kernel
theorem dX7_addWine_28 : decode cX7_addWine 28 = .ok (.iload_n 2, 1) := by decide +kernel
theorem dX7_addWine_29 : decode cX7_addWine 29 = .ok (.invokevirtual 138, 3) := by decide +kernel
theorem dX7_addWine_32 : decode cX7_addWine 32 = .ok (.ireturn, 1) := by decide +kernel
theorem dX7_addBin_0 : decode cX7_addBin 0 = .ok (.aload_n 0, 1) := by decide +kernel
theorem dX7_addBin_1 : decode cX7_addBin 1 = .ok (.getfield 10, 3) := by decide +kernel
theorem dX7_addBin_4 : decode cX7_addBin 4 = .ok (.getfield 107, 3) := by decide +kernel
theorem dX7_addBin_7 : decode cX7_addBin 7 = .ok (.iload_n 1, 1) := by decide +kernel
theorem dX7_addBin_8 : decode cX7_addBin 8 = .ok (.invokevirtual 141, 3) := by decide +kernel
theorem dX7_addBin_11 : decode cX7_addBin 11 = .ok (.invokestatic 56, 3) := by decide +kernel
theorem dX7_addBin_14 : decode cX7_addBin 14 = .ok (.aload_n 0, 1) := by decide +kernel
theorem dX7_addBin_15 : decode cX7_addBin 15 = .ok (.getfield 26, 3) := by decide +kernel
theorem dX7_addBin_18 : decode cX7_addBin 18 = .ok (.aload_n 0, 1) := by decide +kernel
theorem dX7_addBin_19 : decode cX7_addBin 19 = .ok (.getfield 10, 3) := by decide +kernel
theorem dX7_addBin_22 : decode cX7_addBin 22 = .ok (.invokevirtual 129, 3) := by decide +kernel
theorem dX7_addBin_25 : decode cX7_addBin 25 = .ok (.aload_n 0, 1) := by decide +kernel
theorem dX7_addBin_26 : decode cX7_addBin 26 = .ok (.getfield 10, 3) := by decide +kernel
theorem dX7_addBin_29 : decode cX7_addBin 29 = .ok (.getfield 107, 3) := by decide +kernel
theorem dX7_addBin_32 : decode cX7_addBin 32 = .ok (.iload_n 1, 1) := by decide +kernel
theorem dX7_addBin_33 : decode cX7_addBin 33 = .ok (.invokevirtual 144, 3) := by decide +kernel
theorem dX7_addBin_36 : decode cX7_addBin 36 = .ok (.ireturn, 1) := by decide +kernel
theorem dX7_order_0 : decode cX7_order 0 = .ok (.aload_n 0, 1) := by decide +kernel
theorem dX7_order_1 : decode cX7_order 1 = .ok (.getfield 10, 3) := by decide +kernel
theorem dX7_order_4 : decode cX7_order 4 = .ok (.iload_n 1, 1) := by decide +kernel
theorem dX7_order_5 : decode cX7_order 5 = .ok (.iload_n 2, 1) := by decide +kernel
theorem dX7_order_6 : decode cX7_order 6 = .ok (.iload_n 3, 1) := by decide +kernel
theorem dX7_order_7 : decode cX7_order 7 = .ok (.invokevirtual 147, 3) := by decide +kernel
theorem dX7_order_10 : decode cX7_order 10 = .ok (.invokestatic 56, 3) := by decide +kernel
theorem dX7_order_13 : decode cX7_order 13 = .ok (.aload_n 0, 1) := by decide +kernel
theorem dX7_order_14 : decode cX7_order 14 = .ok (.getfield 26, 3) := by decide +kernel
theorem dX7_order_17 : decode cX7_order 17 = .ok (.aload_n 0, 1) := by decide +kernel
theorem dX7_order_18 : decode cX7_order 18 = .ok (.getfield 10, 3) := by decide +kernel
theorem dX7_order_21 : decode cX7_order 21 = .ok (.invokevirtual 129, 3) := by decide +kernel
theorem dX7_order_24 : decode cX7_order 24 = .ok (.aload_n 0, 1) := by decide +kernel
theorem dX7_order_25 : decode cX7_order 25 = .ok (.getfield 10, 3) := by decide +kernel
theorem dX7_order_28 : decode cX7_order 28 = .ok (.iload_n 1, 1) := by decide +kernel
theorem dX7_order_29 : decode cX7_order 29 = .ok (.iload_n 2, 1) := by decide +kernel
theorem dX7_order_30 : decode cX7_order 30 = .ok (.iload_n 3, 1) := by decide +kernel
theorem dX7_order_31 : decode cX7_order 31 = .ok (.invokevirtual 150, 3) := by decide +kernel
theorem dX7_order_34 : decode cX7_order 34 = .ok (.ireturn, 1) := by decide +kernel
theorem dX7_allocate_0 : decode cX7_allocate 0 = .ok (.aload_n 0, 1) := by decide +kernel
theorem dX7_allocate_1 : decode cX7_allocate 1 = .ok (.getfield 10, 3) := by decide +kernel
theorem dX7_allocate_4 : decode cX7_allocate 4 = .ok (.iload_n 1, 1) := by decide +kernel
theorem dX7_allocate_5 : decode cX7_allocate 5 = .ok (.invokevirtual 153, 3) := by decide +kernel
theorem dX7_allocate_8 : decode cX7_allocate 8 = .ok (.invokestatic 56, 3) := by decide +kernel
theorem dX7_allocate_11 : decode cX7_allocate 11 = .ok (.aload_n 0, 1) := by decide +kernel
theorem dX7_allocate_12 : decode cX7_allocate 12 = .ok (.getfield 26, 3) := by decide +kernel
theorem dX7_allocate_15 : decode cX7_allocate 15 = .ok (.aload_n 0, 1) := by decide +kernel
theorem dX7_allocate_16 : decode cX7_allocate 16 = .ok (.getfield 10, 3) := by decide +kernel
theorem dX7_allocate_19 : decode cX7_allocate 19 = .ok (.invokevirtual 129, 3) := by decide +kernel
theorem dX7_allocate_22 : decode cX7_allocate 22 = .ok (.aload_n 0, 1) := by decide +kernel
theorem dX7_allocate_23 : decode cX7_allocate 23 = .ok (.getfield 10, 3) := by decide +kernel
theorem dX7_allocate_26 : decode cX7_allocate 26 = .ok (.iload_n 1, 1) := by decide +kernel
theorem dX7_allocate_27 : decode cX7_allocate 27 = .ok (.invokevirtual 156, 3) := by decide +kernel
theorem dX7_allocate_30 : decode cX7_allocate 30 = .ok (.ireturn, 1) := by decide +kernel
theorem dX7_deliver_0 : decode cX7_deliver 0 = .ok (.aload_n 0, 1) := by decide +kernel
theorem dX7_deliver_1 : decode cX7_deliver 1 = .ok (.getfield 10, 3) := by decide +kernel
theorem dX7_deliver_4 : decode cX7_deliver 4 = .ok (.iload_n 1, 1) := by decide +kernel
theorem dX7_deliver_5 : decode cX7_deliver 5 = .ok (.invokevirtual 159, 3) := by decide +kernel
theorem dX7_deliver_8 : decode cX7_deliver 8 = .ok (.invokestatic 56, 3) := by decide +kernel
theorem dX7_deliver_11 : decode cX7_deliver 11 = .ok (.aload_n 0, 1) := by decide +kernel
theorem dX7_deliver_12 : decode cX7_deliver 12 = .ok (.getfield 26, 3) := by decide +kernel
theorem dX7_deliver_15 : decode cX7_deliver 15 = .ok (.aload_n 0, 1) := by decide +kernel
theorem dX7_deliver_16 : decode cX7_deliver 16 = .ok (.getfield 10, 3) := by decide +kernel
theorem dX7_deliver_19 : decode cX7_deliver 19 = .ok (.invokevirtual 129, 3) := by decide +kernel
theorem dX7_deliver_22 : decode cX7_deliver 22 = .ok (.aload_n 0, 1) := by decide +kernel
theorem dX7_deliver_23 : decode cX7_deliver 23 = .ok (.getfield 10, 3) := by decide +kernel
theorem dX7_deliver_26 : decode cX7_deliver 26 = .ok (.iload_n 1, 1) := by decide +kernel
theorem dX7_deliver_27 : decode cX7_deliver 27 = .ok (.invokevirtual 162, 3) := by decide +kernel
theorem dX7_deliver_30 : decode cX7_deliver 30 = .ok (.ireturn, 1) := by decide +kernel
theorem dX7_drink_0 : decode cX7_drink 0 = .ok (.aload_n 0, 1) := by decide +kernel
theorem dX7_drink_1 : decode cX7_drink 1 = .ok (.getfield 10, 3) := by decide +kernel
theorem dX7_drink_4 : decode cX7_drink 4 = .ok (.iload_n 1, 1) := by decide +kernel
theorem dX7_drink_5 : decode cX7_drink 5 = .ok (.iload_n 2, 1) := by decide +kernel
theorem dX7_drink_6 : decode cX7_drink 6 = .ok (.iload_n 3, 1) := by decide +kernel
theorem dX7_drink_7 : decode cX7_drink 7 = .ok (.invokevirtual 165, 3) := by decide +kernel
theorem dX7_drink_10 : decode cX7_drink 10 = .ok (.invokestatic 56, 3) := by decide +kernel
theorem dX7_drink_13 : decode cX7_drink 13 = .ok (.aload_n 0, 1) := by decide +kernel
theorem dX7_drink_14 : decode cX7_drink 14 = .ok (.getfield 26, 3) := by decide +kernel
theorem dX7_drink_17 : decode cX7_drink 17 = .ok (.aload_n 0, 1) := by decide +kernel
theorem dX7_drink_18 : decode cX7_drink 18 = .ok (.getfield 10, 3) := by decide +kernel
theorem dX7_drink_21 : decode cX7_drink 21 = .ok (.invokevirtual 129, 3) := by decide +kernel
theorem dX7_drink_24 : decode cX7_drink 24 = .ok (.aload_n 0, 1) := by decide +kernel
theorem dX7_drink_25 : decode cX7_drink 25 = .ok (.getfield 10, 3) := by decide +kernel
theorem dX7_drink_28 : decode cX7_drink 28 = .ok (.iload_n 1, 1) := by decide +kernel
theorem dX7_drink_29 : decode cX7_drink 29 = .ok (.iload_n 2, 1) := by decide +kernel
theorem dX7_drink_30 : decode cX7_drink 30 = .ok (.iload_n 3, 1) := by decide +kernel
theorem dX7_drink_31 : decode cX7_drink 31 = .ok (.invokevirtual 168, 3) := by decide +kernel
theorem dX7_drink_34 : decode cX7_drink 34 = .ok (.ireturn, 1) := by decide +kernel
theorem dX7_give_0 : decode cX7_give 0 = .ok (.aload_n 0, 1) := by decide +kernel
theorem dX7_give_1 : decode cX7_give 1 = .ok (.getfield 10, 3) := by decide +kernel
theorem dX7_give_4 : decode cX7_give 4 = .ok (.iload_n 1, 1) := by decide +kernel
theorem dX7_give_5 : decode cX7_give 5 = .ok (.iload_n 2, 1) := by decide +kernel
theorem dX7_give_6 : decode cX7_give 6 = .ok (.iload_n 3, 1) := by decide +kernel
theorem dX7_give_7 : decode cX7_give 7 = .ok (.iload 4, 2) := by decide +kernel
theorem dX7_give_9 : decode cX7_give 9 = .ok (.invokevirtual 171, 3) := by decide +kernel
theorem dX7_give_12 : decode cX7_give 12 = .ok (.invokestatic 56, 3) := by decide +kernel
theorem dX7_give_15 : decode cX7_give 15 = .ok (.aload_n 0, 1) := by decide +kernel
theorem dX7_give_16 : decode cX7_give 16 = .ok (.getfield 26, 3) := by decide +kernel
theorem dX7_give_19 : decode cX7_give 19 = .ok (.aload_n 0, 1) := by decide +kernel
theorem dX7_give_20 : decode cX7_give 20 = .ok (.getfield 10, 3) := by decide +kernel
theorem dX7_give_23 : decode cX7_give 23 = .ok (.invokevirtual 129, 3) := by decide +kernel
theorem dX7_give_26 : decode cX7_give 26 = .ok (.aload_n 0, 1) := by decide +kernel
theorem dX7_give_27 : decode cX7_give 27 = .ok (.getfield 10, 3) := by decide +kernel
theorem dX7_give_30 : decode cX7_give 30 = .ok (.iload_n 1, 1) := by decide +kernel
theorem dX7_give_31 : decode cX7_give 31 = .ok (.iload_n 2, 1) := by decide +kernel
theorem dX7_give_32 : decode cX7_give 32 = .ok (.iload_n 3, 1) := by decide +kernel
theorem dX7_give_33 : decode cX7_give 33 = .ok (.iload 4, 2) := by decide +kernel
theorem dX7_give_35 : decode cX7_give 35 = .ok (.invokevirtual 175, 3) := by decide +kernel
theorem dX7_give_38 : decode cX7_give 38 = .ok (.ireturn, 1) := by decide +kernel
theorem dX7_cork_0 : decode cX7_cork 0 = .ok (.aload_n 0, 1) := by decide +kernel
theorem dX7_cork_1 : decode cX7_cork 1 = .ok (.getfield 10, 3) := by decide +kernel
theorem dX7_cork_4 : decode cX7_cork 4 = .ok (.iload_n 1, 1) := by decide +kernel
theorem dX7_cork_5 : decode cX7_cork 5 = .ok (.iload_n 2, 1) := by decide +kernel
theorem dX7_cork_6 : decode cX7_cork 6 = .ok (.invokevirtual 178, 3) := by decide +kernel
theorem dX7_cork_9 : decode cX7_cork 9 = .ok (.invokestatic 56, 3) := by decide +kernel
theorem dX7_cork_12 : decode cX7_cork 12 = .ok (.aload_n 0, 1) := by decide +kernel
theorem dX7_cork_13 : decode cX7_cork 13 = .ok (.getfield 26, 3) := by decide +kernel
theorem dX7_cork_16 : decode cX7_cork 16 = .ok (.aload_n 0, 1) := by decide +kernel
theorem dX7_cork_17 : decode cX7_cork 17 = .ok (.getfield 10, 3) := by decide +kernel
theorem dX7_cork_20 : decode cX7_cork 20 = .ok (.invokevirtual 129, 3) := by decide +kernel
theorem dX7_cork_23 : decode cX7_cork 23 = .ok (.aload_n 0, 1) := by decide +kernel
theorem dX7_cork_24 : decode cX7_cork 24 = .ok (.getfield 10, 3) := by decide +kernel
theorem dX7_cork_27 : decode cX7_cork 27 = .ok (.iload_n 1, 1) := by decide +kernel
theorem dX7_cork_28 : decode cX7_cork 28 = .ok (.iload_n 2, 1) := by decide +kernel
theorem dX7_cork_29 : decode cX7_cork 29 = .ok (.invokevirtual 181, 3) := by decide +kernel
theorem dX7_cork_32 : decode cX7_cork 32 = .ok (.ireturn, 1) := by decide +kernel
theorem dX7_move_0 : decode cX7_move 0 = .ok (.aload_n 0, 1) := by decide +kernel
theorem dX7_move_1 : decode cX7_move 1 = .ok (.getfield 10, 3) := by decide +kernel
theorem dX7_move_4 : decode cX7_move 4 = .ok (.getfield 107, 3) := by decide +kernel
theorem dX7_move_7 : decode cX7_move 7 = .ok (.iload_n 1, 1) := by decide +kernel
theorem dX7_move_8 : decode cX7_move 8 = .ok (.iload_n 2, 1) := by decide +kernel
theorem dX7_move_9 : decode cX7_move 9 = .ok (.iload_n 3, 1) := by decide +kernel
theorem dX7_move_10 : decode cX7_move 10 = .ok (.invokevirtual 184, 3) := by decide +kernel
theorem dX7_move_13 : decode cX7_move 13 = .ok (.invokestatic 56, 3) := by decide +kernel
theorem dX7_move_16 : decode cX7_move 16 = .ok (.aload_n 0, 1) := by decide +kernel
theorem dX7_move_17 : decode cX7_move 17 = .ok (.getfield 26, 3) := by decide +kernel
theorem dX7_move_20 : decode cX7_move 20 = .ok (.aload_n 0, 1) := by decide +kernel
theorem dX7_move_21 : decode cX7_move 21 = .ok (.getfield 10, 3) := by decide +kernel
theorem dX7_move_24 : decode cX7_move 24 = .ok (.invokevirtual 129, 3) := by decide +kernel
theorem dX7_move_27 : decode cX7_move 27 = .ok (.aload_n 0, 1) := by decide +kernel
theorem dX7_move_28 : decode cX7_move 28 = .ok (.getfield 10, 3) := by decide +kernel
theorem dX7_move_31 : decode cX7_move 31 = .ok (.getfield 107, 3) := by decide +kernel
theorem dX7_move_34 : decode cX7_move 34 = .ok (.iload_n 1, 1) := by decide +kernel
theorem dX7_move_35 : decode cX7_move 35 = .ok (.iload_n 2, 1) := by decide +kernel
theorem dX7_move_36 : decode cX7_move 36 = .ok (.iload_n 3, 1) := by decide +kernel
theorem dX7_move_37 : decode cX7_move 37 = .ok (.invokevirtual 187, 3) := by decide +kernel
theorem dX7_move_40 : decode cX7_move 40 = .ok (.ireturn, 1) := by decide +kernel
theorem dX7_pay_0 : decode cX7_pay 0 = .ok (.aload_n 0, 1) := by decide +kernel
theorem dX7_pay_1 : decode cX7_pay 1 = .ok (.getfield 10, 3) := by decide +kernel
theorem dX7_pay_4 : decode cX7_pay 4 = .ok (.iload_n 1, 1) := by decide +kernel
theorem dX7_pay_5 : decode cX7_pay 5 = .ok (.invokevirtual 93, 3) := by decide +kernel
theorem dX7_pay_8 : decode cX7_pay 8 = .ok (.ifCond .eq 7, 3) := by decide +kernel
theorem dX7_pay_11 : decode cX7_pay 11 = .ok (.iconst 0, 1) := by decide +kernel
theorem dX7_pay_12 : decode cX7_pay 12 = .ok (.goto 4, 3) := by decide +kernel
theorem dX7_pay_15 : decode cX7_pay 15 = .ok (.iconst 1, 1) := by decide +kernel
theorem dX7_pay_16 : decode cX7_pay 16 = .ok (.invokestatic 56, 3) := by decide +kernel
theorem dX7_pay_19 : decode cX7_pay 19 = .ok (.aload_n 0, 1) := by decide +kernel
theorem dX7_pay_20 : decode cX7_pay 20 = .ok (.getfield 26, 3) := by decide +kernel
theorem dX7_pay_23 : decode cX7_pay 23 = .ok (.aload_n 0, 1) := by decide +kernel
theorem dX7_pay_24 : decode cX7_pay 24 = .ok (.getfield 10, 3) := by decide +kernel
theorem dX7_pay_27 : decode cX7_pay 27 = .ok (.invokevirtual 129, 3) := by decide +kernel
theorem dX7_pay_30 : decode cX7_pay 30 = .ok (.aload_n 0, 1) := by decide +kernel
theorem dX7_pay_31 : decode cX7_pay 31 = .ok (.getfield 10, 3) := by decide +kernel
theorem dX7_pay_34 : decode cX7_pay 34 = .ok (.iload_n 1, 1) := by decide +kernel
theorem dX7_pay_35 : decode cX7_pay 35 = .ok (.invokevirtual 190, 3) := by decide +kernel
theorem dX7_pay_38 : decode cX7_pay 38 = .ok (.ireturn, 1) := by decide +kernel
theorem dX7_undo_0 : decode cX7_undo 0 = .ok (.aload_n 0, 1) := by decide +kernel
theorem dX7_undo_1 : decode cX7_undo 1 = .ok (.getfield 26, 3) := by decide +kernel
theorem dX7_undo_4 : decode cX7_undo 4 = .ok (.getfield 193, 3) := by decide +kernel
theorem dX7_undo_7 : decode cX7_undo 7 = .ok (.ifCond .le 7, 3) := by decide +kernel
theorem dX7_undo_10 : decode cX7_undo 10 = .ok (.iconst 0, 1) := by decide +kernel
theorem dX7_undo_11 : decode cX7_undo 11 = .ok (.goto 4, 3) := by decide +kernel
theorem dX7_undo_14 : decode cX7_undo 14 = .ok (.iconst 3, 1) := by decide +kernel
theorem dX7_undo_15 : decode cX7_undo 15 = .ok (.invokestatic 56, 3) := by decide +kernel
theorem dX7_undo_18 : decode cX7_undo 18 = .ok (.aload_n 0, 1) := by decide +kernel
theorem dX7_undo_19 : decode cX7_undo 19 = .ok (.getfield 26, 3) := by decide +kernel
theorem dX7_undo_22 : decode cX7_undo 22 = .ok (.aload_n 0, 1) := by decide +kernel
theorem dX7_undo_23 : decode cX7_undo 23 = .ok (.getfield 10, 3) := by decide +kernel
theorem dX7_undo_26 : decode cX7_undo 26 = .ok (.invokevirtual 196, 3) := by decide +kernel
theorem dX7_undo_29 : decode cX7_undo 29 = .ok (.ireturn, 1) := by decide +kernel
theorem dX7_wouldGet_0 : decode cX7_wouldGet 0 = .ok (.aload_n 0, 1) := by decide +kernel
theorem dX7_wouldGet_1 : decode cX7_wouldGet 1 = .ok (.getfield 10, 3) := by decide +kernel
theorem dX7_wouldGet_4 : decode cX7_wouldGet 4 = .ok (.iload_n 1, 1) := by decide +kernel
theorem dX7_wouldGet_5 : decode cX7_wouldGet 5 = .ok (.iload_n 2, 1) := by decide +kernel
theorem dX7_wouldGet_6 : decode cX7_wouldGet 6 = .ok (.invokevirtual 119, 3) := by decide +kernel
theorem dX7_wouldGet_9 : decode cX7_wouldGet 9 = .ok (.ifCond .eq 7, 3) := by decide +kernel
theorem dX7_wouldGet_12 : decode cX7_wouldGet 12 = .ok (.iconst 0, 1) := by decide +kernel
theorem dX7_wouldGet_13 : decode cX7_wouldGet 13 = .ok (.goto 4, 3) := by decide +kernel
theorem dX7_wouldGet_16 : decode cX7_wouldGet 16 = .ok (.iconst 1, 1) := by decide +kernel
theorem dX7_wouldGet_17 : decode cX7_wouldGet 17 = .ok (.invokestatic 56, 3) := by decide +kernel
theorem dX7_wouldGet_20 : decode cX7_wouldGet 20 = .ok (.aload_n 0, 1) := by decide +kernel
theorem dX7_wouldGet_21 : decode cX7_wouldGet 21 = .ok (.getfield 10, 3) := by decide +kernel
theorem dX7_wouldGet_24 : decode cX7_wouldGet 24 = .ok (.getfield 200, 3) := by decide +kernel
theorem dX7_wouldGet_27 : decode cX7_wouldGet 27 = .ok (.iload_n 2, 1) := by decide +kernel
theorem dX7_wouldGet_28 : decode cX7_wouldGet 28 = .ok (.iaload, 1) := by decide +kernel
theorem dX7_wouldGet_29 : decode cX7_wouldGet 29 = .ok (.ifCond .eq 6, 3) := by decide +kernel
theorem dX7_wouldGet_32 : decode cX7_wouldGet 32 = .ok (.ldc 71, 2) := by decide +kernel
theorem dX7_wouldGet_34 : decode cX7_wouldGet 34 = .ok (.ireturn, 1) := by decide +kernel
theorem dX7_wouldGet_35 : decode cX7_wouldGet 35 = .ok (.aload_n 0, 1) := by decide +kernel
theorem dX7_wouldGet_36 : decode cX7_wouldGet 36 = .ok (.getfield 33, 3) := by decide +kernel
theorem dX7_wouldGet_39 : decode cX7_wouldGet 39 = .ok (.aload_n 0, 1) := by decide +kernel
theorem dX7_wouldGet_40 : decode cX7_wouldGet 40 = .ok (.getfield 10, 3) := by decide +kernel
theorem dX7_wouldGet_43 : decode cX7_wouldGet 43 = .ok (.invokevirtual 204, 3) := by decide +kernel
theorem dX7_wouldGet_46 : decode cX7_wouldGet 46 = .ok (.aload_n 0, 1) := by decide +kernel
theorem dX7_wouldGet_47 : decode cX7_wouldGet 47 = .ok (.getfield 33, 3) := by decide +kernel
theorem dX7_wouldGet_50 : decode cX7_wouldGet 50 = .ok (.iload_n 2, 1) := by decide +kernel
theorem dX7_wouldGet_51 : decode cX7_wouldGet 51 = .ok (.invokevirtual 207, 3) := by decide +kernel
theorem dX7_wouldGet_54 : decode cX7_wouldGet 54 = .ok (.pop, 1) := by decide +kernel
theorem dX7_wouldGet_55 : decode cX7_wouldGet 55 = .ok (.aload_n 0, 1) := by decide +kernel
theorem dX7_wouldGet_56 : decode cX7_wouldGet 56 = .ok (.getfield 33, 3) := by decide +kernel
theorem dX7_wouldGet_59 : decode cX7_wouldGet 59 = .ok (.getfield 210, 3) := by decide +kernel
theorem dX7_wouldGet_62 : decode cX7_wouldGet 62 = .ok (.getfield 213, 3) := by decide +kernel
theorem dX7_wouldGet_65 : decode cX7_wouldGet 65 = .ok (.iload_n 1, 1) := by decide +kernel
theorem dX7_wouldGet_66 : decode cX7_wouldGet 66 = .ok (.iload_n 2, 1) := by decide +kernel
theorem dX7_wouldGet_67 : decode cX7_wouldGet 67 = .ok (.invokevirtual 217, 3) := by decide +kernel
theorem dX7_wouldGet_70 : decode cX7_wouldGet 70 = .ok (.ireturn, 1) := by decide +kernel
theorem dX7_roomFor_0 : decode cX7_roomFor 0 = .ok (.aload_n 0, 1) := by decide +kernel
theorem dX7_roomFor_1 : decode cX7_roomFor 1 = .ok (.getfield 10, 3) := by decide +kernel
theorem dX7_roomFor_4 : decode cX7_roomFor 4 = .ok (.iload_n 1, 1) := by decide +kernel
theorem dX7_roomFor_5 : decode cX7_roomFor 5 = .ok (.invokevirtual 101, 3) := by decide +kernel
theorem dX7_roomFor_8 : decode cX7_roomFor 8 = .ok (.ifCond .eq 7, 3) := by decide +kernel
theorem dX7_roomFor_11 : decode cX7_roomFor 11 = .ok (.iconst 0, 1) := by decide +kernel
theorem dX7_roomFor_12 : decode cX7_roomFor 12 = .ok (.goto 4, 3) := by decide +kernel
theorem dX7_roomFor_15 : decode cX7_roomFor 15 = .ok (.iconst 1, 1) := by decide +kernel
theorem dX7_roomFor_16 : decode cX7_roomFor 16 = .ok (.invokestatic 56, 3) := by decide +kernel
theorem dX7_roomFor_19 : decode cX7_roomFor 19 = .ok (.aload_n 0, 1) := by decide +kernel
theorem dX7_roomFor_20 : decode cX7_roomFor 20 = .ok (.getfield 10, 3) := by decide +kernel
theorem dX7_roomFor_23 : decode cX7_roomFor 23 = .ok (.getfield 107, 3) := by decide +kernel
theorem dX7_roomFor_26 : decode cX7_roomFor 26 = .ok (.iload_n 1, 1) := by decide +kernel
theorem dX7_roomFor_27 : decode cX7_roomFor 27 = .ok (.invokevirtual 222, 3) := by decide +kernel
theorem dX7_roomFor_30 : decode cX7_roomFor 30 = .ok (.ireturn, 1) := by decide +kernel
theorem dX7_fewestBins_0 : decode cX7_fewestBins 0 = .ok (.aload_n 0, 1) := by decide +kernel
theorem dX7_fewestBins_1 : decode cX7_fewestBins 1 = .ok (.getfield 40, 3) := by decide +kernel
theorem dX7_fewestBins_4 : decode cX7_fewestBins 4 = .ok (.aload_n 0, 1) := by decide +kernel
theorem dX7_fewestBins_5 : decode cX7_fewestBins 5 = .ok (.getfield 10, 3) := by decide +kernel
theorem dX7_fewestBins_8 : decode cX7_fewestBins 8 = .ok (.invokevirtual 225, 3) := by decide +kernel
theorem dX7_fewestBins_11 : decode cX7_fewestBins 11 = .ok (.ireturn, 1) := by decide +kernel
theorem dX7_shortest_0 : decode cX7_shortest 0 = .ok (.aload_n 0, 1) := by decide +kernel
theorem dX7_shortest_1 : decode cX7_shortest 1 = .ok (.getfield 10, 3) := by decide +kernel
theorem dX7_shortest_4 : decode cX7_shortest 4 = .ok (.iload_n 1, 1) := by decide +kernel
theorem dX7_shortest_5 : decode cX7_shortest 5 = .ok (.invokevirtual 101, 3) := by decide +kernel
theorem dX7_shortest_8 : decode cX7_shortest 8 = .ok (.ifCond .eq 7, 3) := by decide +kernel
theorem dX7_shortest_11 : decode cX7_shortest 11 = .ok (.iconst 0, 1) := by decide +kernel
theorem dX7_shortest_12 : decode cX7_shortest 12 = .ok (.goto 4, 3) := by decide +kernel
theorem dX7_shortest_15 : decode cX7_shortest 15 = .ok (.iconst 1, 1) := by decide +kernel
theorem dX7_shortest_16 : decode cX7_shortest 16 = .ok (.invokestatic 56, 3) := by decide +kernel
theorem dX7_shortest_19 : decode cX7_shortest 19 = .ok (.aload_n 0, 1) := by decide +kernel
theorem dX7_shortest_20 : decode cX7_shortest 20 = .ok (.getfield 10, 3) := by decide +kernel
theorem dX7_shortest_23 : decode cX7_shortest 23 = .ok (.getfield 200, 3) := by decide +kernel
theorem dX7_shortest_26 : decode cX7_shortest 26 = .ok (.iload_n 1, 1) := by decide +kernel
theorem dX7_shortest_27 : decode cX7_shortest 27 = .ok (.iaload, 1) := by decide +kernel
theorem dX7_shortest_28 : decode cX7_shortest 28 = .ok (.ifCond .eq 6, 3) := by decide +kernel
theorem dX7_shortest_31 : decode cX7_shortest 31 = .ok (.ldc 71, 2) := by decide +kernel
theorem dX7_shortest_33 : decode cX7_shortest 33 = .ok (.ireturn, 1) := by decide +kernel
theorem dX7_shortest_34 : decode cX7_shortest 34 = .ok (.aload_n 0, 1) := by decide +kernel
theorem dX7_shortest_35 : decode cX7_shortest 35 = .ok (.getfield 33, 3) := by decide +kernel
theorem dX7_shortest_38 : decode cX7_shortest 38 = .ok (.aload_n 0, 1) := by decide +kernel
theorem dX7_shortest_39 : decode cX7_shortest 39 = .ok (.getfield 10, 3) := by decide +kernel
theorem dX7_shortest_42 : decode cX7_shortest 42 = .ok (.invokevirtual 204, 3) := by decide +kernel
theorem dX7_shortest_45 : decode cX7_shortest 45 = .ok (.aload_n 0, 1) := by decide +kernel
theorem dX7_shortest_46 : decode cX7_shortest 46 = .ok (.getfield 33, 3) := by decide +kernel
theorem dX7_shortest_49 : decode cX7_shortest 49 = .ok (.iload_n 1, 1) := by decide +kernel
theorem dX7_shortest_50 : decode cX7_shortest 50 = .ok (.invokevirtual 207, 3) := by decide +kernel
theorem dX7_shortest_53 : decode cX7_shortest 53 = .ok (.pop, 1) := by decide +kernel
theorem dX7_shortest_54 : decode cX7_shortest 54 = .ok (.ldc 71, 2) := by decide +kernel
theorem dX7_shortest_56 : decode cX7_shortest 56 = .ok (.istore_n 2, 1) := by decide +kernel
theorem dX7_shortest_57 : decode cX7_shortest 57 = .ok (.iconst 0, 1) := by decide +kernel
theorem dX7_shortest_58 : decode cX7_shortest 58 = .ok (.istore_n 3, 1) := by decide +kernel
theorem dX7_shortest_59 : decode cX7_shortest 59 = .ok (.iconst 0, 1) := by decide +kernel
theorem dX7_shortest_60 : decode cX7_shortest 60 = .ok (.istore 4, 2) := by decide +kernel
theorem dX7_shortest_62 : decode cX7_shortest 62 = .ok (.iload 4, 2) := by decide +kernel
theorem dX7_shortest_64 : decode cX7_shortest 64 = .ok (.aload_n 0, 1) := by decide +kernel
theorem dX7_shortest_65 : decode cX7_shortest 65 = .ok (.getfield 10, 3) := by decide +kernel
theorem dX7_shortest_68 : decode cX7_shortest 68 = .ok (.getfield 82, 3) := by decide +kernel
theorem dX7_shortest_71 : decode cX7_shortest 71 = .ok (.if_icmp .ge 53, 3) := by decide +kernel
theorem dX7_shortest_74 : decode cX7_shortest 74 = .ok (.aload_n 0, 1) := by decide +kernel
theorem dX7_shortest_75 : decode cX7_shortest 75 = .ok (.getfield 10, 3) := by decide +kernel
theorem dX7_shortest_78 : decode cX7_shortest 78 = .ok (.getfield 228, 3) := by decide +kernel
theorem dX7_shortest_81 : decode cX7_shortest 81 = .ok (.iload 4, 2) := by decide +kernel
theorem dX7_shortest_83 : decode cX7_shortest 83 = .ok (.iload_n 1, 1) := by decide +kernel
theorem dX7_shortest_84 : decode cX7_shortest 84 = .ok (.invokevirtual 217, 3) := by decide +kernel
theorem dX7_shortest_87 : decode cX7_shortest 87 = .ok (.aload_n 0, 1) := by decide +kernel
theorem dX7_shortest_88 : decode cX7_shortest 88 = .ok (.getfield 33, 3) := by decide +kernel
theorem dX7_shortest_91 : decode cX7_shortest 91 = .ok (.getfield 210, 3) := by decide +kernel
theorem dX7_shortest_94 : decode cX7_shortest 94 = .ok (.getfield 213, 3) := by decide +kernel
theorem dX7_shortest_97 : decode cX7_shortest 97 = .ok (.iload 4, 2) := by decide +kernel
theorem dX7_shortest_99 : decode cX7_shortest 99 = .ok (.iload_n 1, 1) := by decide +kernel
theorem dX7_shortest_100 : decode cX7_shortest 100 = .ok (.invokevirtual 217, 3) := by decide +kernel
theorem dX7_shortest_103 : decode cX7_shortest 103 = .ok (.isub, 1) := by decide +kernel
theorem dX7_shortest_104 : decode cX7_shortest 104 = .ok (.istore 5, 2) := by decide +kernel
theorem dX7_shortest_106 : decode cX7_shortest 106 = .ok (.iload 5, 2) := by decide +kernel
theorem dX7_shortest_108 : decode cX7_shortest 108 = .ok (.iload_n 3, 1) := by decide +kernel
theorem dX7_shortest_109 : decode cX7_shortest 109 = .ok (.if_icmp .le 9, 3) := by decide +kernel
theorem dX7_shortest_112 : decode cX7_shortest 112 = .ok (.iload 4, 2) := by decide +kernel
theorem dX7_shortest_114 : decode cX7_shortest 114 = .ok (.istore_n 2, 1) := by decide +kernel
theorem dX7_shortest_115 : decode cX7_shortest 115 = .ok (.iload 5, 2) := by decide +kernel
theorem dX7_shortest_117 : decode cX7_shortest 117 = .ok (.istore_n 3, 1) := by decide +kernel
theorem dX7_shortest_118 : decode cX7_shortest 118 = .ok (.iinc 4 1, 3) := by decide +kernel
theorem dX7_shortest_121 : decode cX7_shortest 121 = .ok (.goto (-59), 3) := by decide +kernel
theorem dX7_shortest_124 : decode cX7_shortest 124 = .ok (.iload_n 2, 1) := by decide +kernel
theorem dX7_shortest_125 : decode cX7_shortest 125 = .ok (.ireturn, 1) := by decide +kernel
theorem dX7_runScript_0 : decode cX7_runScript 0 = .ok (.iload_n 1, 1) := by decide +kernel
theorem dX7_runScript_1 : decode cX7_runScript 1 = .ok (.lload_n 2, 1) := by decide +kernel
theorem dX7_runScript_2 : decode cX7_runScript 2 = .ok (.invokestatic 231, 3) := by decide +kernel
theorem dX7_runScript_5 : decode cX7_runScript 5 = .ok (.invokestatic 56, 3) := by decide +kernel
theorem dX7_runScript_8 : decode cX7_runScript 8 = .ok (.aload_n 0, 1) := by decide +kernel
theorem dX7_runScript_9 : decode cX7_runScript 9 = .ok (.getfield 33, 3) := by decide +kernel
theorem dX7_runScript_12 : decode cX7_runScript 12 = .ok (.aload_n 0, 1) := by decide +kernel
theorem dX7_runScript_13 : decode cX7_runScript 13 = .ok (.getfield 10, 3) := by decide +kernel
theorem dX7_runScript_16 : decode cX7_runScript 16 = .ok (.invokevirtual 204, 3) := by decide +kernel
theorem dX7_runScript_19 : decode cX7_runScript 19 = .ok (.iconst 0, 1) := by decide +kernel
theorem dX7_runScript_20 : decode cX7_runScript 20 = .ok (.istore 4, 2) := by decide +kernel
theorem dX7_runScript_22 : decode cX7_runScript 22 = .ok (.iload 4, 2) := by decide +kernel
theorem dX7_runScript_24 : decode cX7_runScript 24 = .ok (.iload_n 1, 1) := by decide +kernel
theorem dX7_runScript_25 : decode cX7_runScript 25 = .ok (.if_icmp .ge 32, 3) := by decide +kernel
theorem dX7_runScript_28 : decode cX7_runScript 28 = .ok (.aload_n 0, 1) := by decide +kernel
theorem dX7_runScript_29 : decode cX7_runScript 29 = .ok (.getfield 33, 3) := by decide +kernel
theorem dX7_runScript_32 : decode cX7_runScript 32 = .ok (.lload_n 2, 1) := by decide +kernel
theorem dX7_runScript_33 : decode cX7_runScript 33 = .ok (.iload_n 1, 1) := by decide +kernel
theorem dX7_runScript_34 : decode cX7_runScript 34 = .ok (.iconst 1, 1) := by decide +kernel
theorem dX7_runScript_35 : decode cX7_runScript 35 = .ok (.isub, 1) := by decide +kernel
theorem dX7_runScript_36 : decode cX7_runScript 36 = .ok (.iload 4, 2) := by decide +kernel
theorem dX7_runScript_38 : decode cX7_runScript 38 = .ok (.isub, 1) := by decide +kernel
theorem dX7_runScript_39 : decode cX7_runScript 39 = .ok (.invokestatic 235, 3) := by decide +kernel
theorem dX7_runScript_42 : decode cX7_runScript 42 = .ok (.invokevirtual 239, 3) := by decide +kernel
theorem dX7_runScript_45 : decode cX7_runScript 45 = .ok (.ifCond .ne 6, 3) := by decide +kernel
theorem dX7_runScript_48 : decode cX7_runScript 48 = .ok (.iload 4, 2) := by decide +kernel
theorem dX7_runScript_50 : decode cX7_runScript 50 = .ok (.ireturn, 1) := by decide +kernel
theorem dX7_runScript_51 : decode cX7_runScript 51 = .ok (.iinc 4 1, 3) := by decide +kernel
theorem dX7_runScript_54 : decode cX7_runScript 54 = .ok (.goto (-32), 3) := by decide +kernel
theorem dX7_runScript_57 : decode cX7_runScript 57 = .ok (.ldc 71, 2) := by decide +kernel
theorem dX7_runScript_59 : decode cX7_runScript 59 = .ok (.ireturn, 1) := by decide +kernel
theorem dX7_simulate_0 : decode cX7_simulate 0 = .ok (.iload_n 3, 1) := by decide +kernel
theorem dX7_simulate_1 : decode cX7_simulate 1 = .ok (.iconst 1, 1) := by decide +kernel
theorem dX7_simulate_2 : decode cX7_simulate 2 = .ok (.bipush 99, 2) := by decide +kernel
theorem dX7_simulate_4 : decode cX7_simulate 4 = .ok (.invokestatic 86, 3) := by decide +kernel
theorem dX7_simulate_7 : decode cX7_simulate 7 = .ok (.invokestatic 56, 3) := by decide +kernel
theorem dX7_simulate_10 : decode cX7_simulate 10 = .ok (.aload_n 0, 1) := by decide +kernel
theorem dX7_simulate_11 : decode cX7_simulate 11 = .ok (.getfield 33, 3) := by decide +kernel
theorem dX7_simulate_14 : decode cX7_simulate 14 = .ok (.aload_n 0, 1) := by decide +kernel
theorem dX7_simulate_15 : decode cX7_simulate 15 = .ok (.getfield 10, 3) := by decide +kernel
theorem dX7_simulate_18 : decode cX7_simulate 18 = .ok (.invokevirtual 204, 3) := by decide +kernel
theorem dX7_simulate_21 : decode cX7_simulate 21 = .ok (.lload_n 1, 1) := by decide +kernel
theorem dX7_simulate_22 : decode cX7_simulate 22 = .ok (.lstore 4, 2) := by decide +kernel
theorem dX7_simulate_24 : decode cX7_simulate 24 = .ok (.iconst 0, 1) := by decide +kernel
theorem dX7_simulate_25 : decode cX7_simulate 25 = .ok (.istore 6, 2) := by decide +kernel
theorem dX7_simulate_27 : decode cX7_simulate 27 = .ok (.iload 6, 2) := by decide +kernel
theorem dX7_simulate_29 : decode cX7_simulate 29 = .ok (.iload_n 3, 1) := by decide +kernel
theorem dX7_simulate_30 : decode cX7_simulate 30 = .ok (.if_icmp .ge 34, 3) := by decide +kernel
theorem dX7_simulate_33 : decode cX7_simulate 33 = .ok (.lload 4, 2) := by decide +kernel
theorem dX7_simulate_35 : decode cX7_simulate 35 = .ok (.ldc2_w 242, 3) := by decide +kernel
theorem dX7_simulate_38 : decode cX7_simulate 38 = .ok (.lmul, 1) := by decide +kernel
theorem dX7_simulate_39 : decode cX7_simulate 39 = .ok (.ldc2_w 244, 3) := by decide +kernel
theorem dX7_simulate_42 : decode cX7_simulate 42 = .ok (.ladd, 1) := by decide +kernel
theorem dX7_simulate_43 : decode cX7_simulate 43 = .ok (.lstore 4, 2) := by decide +kernel
theorem dX7_simulate_45 : decode cX7_simulate 45 = .ok (.aload_n 0, 1) := by decide +kernel
theorem dX7_simulate_46 : decode cX7_simulate 46 = .ok (.getfield 33, 3) := by decide +kernel
theorem dX7_simulate_49 : decode cX7_simulate 49 = .ok (.lload 4, 2) := by decide +kernel
theorem dX7_simulate_51 : decode cX7_simulate 51 = .ok (.bipush 33, 2) := by decide +kernel
theorem dX7_simulate_53 : decode cX7_simulate 53 = .ok (.lushr, 1) := by decide +kernel
theorem dX7_simulate_54 : decode cX7_simulate 54 = .ok (.l2i, 1) := by decide +kernel
theorem dX7_simulate_55 : decode cX7_simulate 55 = .ok (.invokevirtual 246, 3) := by decide +kernel
theorem dX7_simulate_58 : decode cX7_simulate 58 = .ok (.iinc 6 1, 3) := by decide +kernel
theorem dX7_simulate_61 : decode cX7_simulate 61 = .ok (.goto (-34), 3) := by decide +kernel
theorem dX7_simulate_64 : decode cX7_simulate 64 = .ok (.sipush 1000, 3) := by decide +kernel
theorem dX7_simulate_67 : decode cX7_simulate 67 = .ok (.aload_n 0, 1) := by decide +kernel
theorem dX7_simulate_68 : decode cX7_simulate 68 = .ok (.getfield 33, 3) := by decide +kernel
theorem dX7_simulate_71 : decode cX7_simulate 71 = .ok (.getfield 210, 3) := by decide +kernel
theorem dX7_simulate_74 : decode cX7_simulate 74 = .ok (.getfield 249, 3) := by decide +kernel
theorem dX7_simulate_77 : decode cX7_simulate 77 = .ok (.invokevirtual 252, 3) := by decide +kernel
theorem dX7_simulate_80 : decode cX7_simulate 80 = .ok (.imul, 1) := by decide +kernel
theorem dX7_simulate_81 : decode cX7_simulate 81 = .ok (.aload_n 0, 1) := by decide +kernel
theorem dX7_simulate_82 : decode cX7_simulate 82 = .ok (.getfield 33, 3) := by decide +kernel
theorem dX7_simulate_85 : decode cX7_simulate 85 = .ok (.getfield 210, 3) := by decide +kernel
theorem dX7_simulate_88 : decode cX7_simulate 88 = .ok (.getfield 107, 3) := by decide +kernel
theorem dX7_simulate_91 : decode cX7_simulate 91 = .ok (.invokevirtual 255, 3) := by decide +kernel
theorem dX7_simulate_94 : decode cX7_simulate 94 = .ok (.iadd, 1) := by decide +kernel
theorem dX7_simulate_95 : decode cX7_simulate 95 = .ok (.ireturn, 1) := by decide +kernel
theorem dX7_save_0 : decode cX7_save 0 = .ok (.iload_n 1, 1) := by decide +kernel
theorem dX7_save_1 : decode cX7_save 1 = .ok (.invokestatic 258, 3) := by decide +kernel
theorem dX7_save_4 : decode cX7_save 4 = .ok (.ifCond .eq 7, 3) := by decide +kernel
theorem dX7_save_7 : decode cX7_save 7 = .ok (.iconst 0, 1) := by decide +kernel
theorem dX7_save_8 : decode cX7_save 8 = .ok (.goto 4, 3) := by decide +kernel
theorem dX7_save_11 : decode cX7_save 11 = .ok (.iconst 1, 1) := by decide +kernel
theorem dX7_save_12 : decode cX7_save 12 = .ok (.invokestatic 56, 3) := by decide +kernel
theorem dX7_save_15 : decode cX7_save 15 = .ok (.aload_n 0, 1) := by decide +kernel
theorem dX7_save_16 : decode cX7_save 16 = .ok (.getfield 44, 3) := by decide +kernel
theorem dX7_save_19 : decode cX7_save 19 = .ok (.iload_n 1, 1) := by decide +kernel
theorem dX7_save_20 : decode cX7_save 20 = .ok (.aaload, 1) := by decide +kernel
theorem dX7_save_21 : decode cX7_save 21 = .ok (.aload_n 0, 1) := by decide +kernel
theorem dX7_save_22 : decode cX7_save 22 = .ok (.getfield 10, 3) := by decide +kernel
theorem dX7_save_25 : decode cX7_save 25 = .ok (.invokevirtual 75, 3) := by decide +kernel
theorem dX7_save_28 : decode cX7_save 28 = .ok (.aload_n 0, 1) := by decide +kernel
theorem dX7_save_29 : decode cX7_save 29 = .ok (.getfield 48, 3) := by decide +kernel
theorem dX7_save_32 : decode cX7_save 32 = .ok (.iload_n 1, 1) := by decide +kernel
theorem dX7_save_33 : decode cX7_save 33 = .ok (.iconst 1, 1) := by decide +kernel
theorem dX7_save_34 : decode cX7_save 34 = .ok (.bastore, 1) := by decide +kernel
theorem dX7_save_35 : decode cX7_save 35 = .ok (.aload_n 0, 1) := by decide +kernel
theorem dX7_save_36 : decode cX7_save 36 = .ok (.getfield 10, 3) := by decide +kernel
theorem dX7_save_39 : decode cX7_save 39 = .ok (.getfield 249, 3) := by decide +kernel
theorem dX7_save_42 : decode cX7_save 42 = .ok (.invokevirtual 252, 3) := by decide +kernel
theorem dX7_save_45 : decode cX7_save 45 = .ok (.ireturn, 1) := by decide +kernel
theorem dX7_restore_0 : decode cX7_restore 0 = .ok (.aload_n 0, 1) := by decide +kernel
theorem dX7_restore_1 : decode cX7_restore 1 = .ok (.iload_n 1, 1) := by decide +kernel
theorem dX7_restore_2 : decode cX7_restore 2 = .ok (.invokevirtual 261, 3) := by decide +kernel
theorem dX7_restore_5 : decode cX7_restore 5 = .ok (.invokestatic 56, 3) := by decide +kernel
theorem dX7_restore_8 : decode cX7_restore 8 = .ok (.aload_n 0, 1) := by decide +kernel
theorem dX7_restore_9 : decode cX7_restore 9 = .ok (.getfield 10, 3) := by decide +kernel
theorem dX7_restore_12 : decode cX7_restore 12 = .ok (.aload_n 0, 1) := by decide +kernel
theorem dX7_restore_13 : decode cX7_restore 13 = .ok (.getfield 44, 3) := by decide +kernel
theorem dX7_restore_16 : decode cX7_restore 16 = .ok (.iload_n 1, 1) := by decide +kernel
theorem dX7_restore_17 : decode cX7_restore 17 = .ok (.aaload, 1) := by decide +kernel
theorem dX7_restore_18 : decode cX7_restore 18 = .ok (.invokevirtual 75, 3) := by decide +kernel
theorem dX7_restore_21 : decode cX7_restore 21 = .ok (.aload_n 0, 1) := by decide +kernel
theorem dX7_restore_22 : decode cX7_restore 22 = .ok (.getfield 26, 3) := by decide +kernel
theorem dX7_restore_25 : decode cX7_restore 25 = .ok (.invokevirtual 79, 3) := by decide +kernel
theorem dX7_restore_28 : decode cX7_restore 28 = .ok (.aload_n 0, 1) := by decide +kernel
theorem dX7_restore_29 : decode cX7_restore 29 = .ok (.getfield 10, 3) := by decide +kernel
theorem dX7_restore_32 : decode cX7_restore 32 = .ok (.getfield 249, 3) := by decide +kernel
theorem dX7_restore_35 : decode cX7_restore 35 = .ok (.invokevirtual 252, 3) := by decide +kernel
theorem dX7_restore_38 : decode cX7_restore 38 = .ok (.ireturn, 1) := by decide +kernel
theorem dX7_check_0 : decode cX7_check 0 = .ok (.iload_n 0, 1) := by decide +kernel
theorem dX7_check_1 : decode cX7_check 1 = .ok (.iconst 1, 1) := by decide +kernel
theorem dX7_check_2 : decode cX7_check 2 = .ok (.if_icmp .ne 14, 3) := by decide +kernel
theorem dX7_check_5 : decode cX7_check 5 = .ok (.new 264, 3) := by decide +kernel
theorem dX7_check_8 : decode cX7_check 8 = .ok (.dup, 1) := by decide +kernel
theorem dX7_check_9 : decode cX7_check 9 = .ok (.ldc_w 266, 3) := by decide +kernel
theorem dX7_check_12 : decode cX7_check 12 = .ok (.invokespecial 268, 3) := by decide +kernel
theorem dX7_check_15 : decode cX7_check 15 = .ok (.athrow, 1) := by decide +kernel
theorem dX7_check_16 : decode cX7_check 16 = .ok (.iload_n 0, 1) := by decide +kernel
theorem dX7_check_17 : decode cX7_check 17 = .ok (.iconst 2, 1) := by decide +kernel
theorem dX7_check_18 : decode cX7_check 18 = .ok (.if_icmp .ne 14, 3) := by decide +kernel
theorem dX7_check_21 : decode cX7_check 21 = .ok (.new 271, 3) := by decide +kernel
theorem dX7_check_24 : decode cX7_check 24 = .ok (.dup, 1) := by decide +kernel
theorem dX7_check_25 : decode cX7_check 25 = .ok (.ldc_w 273, 3) := by decide +kernel
theorem dX7_check_28 : decode cX7_check 28 = .ok (.invokespecial 275, 3) := by decide +kernel
theorem dX7_check_31 : decode cX7_check 31 = .ok (.athrow, 1) := by decide +kernel
theorem dX7_check_32 : decode cX7_check 32 = .ok (.iload_n 0, 1) := by decide +kernel
theorem dX7_check_33 : decode cX7_check 33 = .ok (.iconst 3, 1) := by decide +kernel
theorem dX7_check_34 : decode cX7_check 34 = .ok (.if_icmp .ne 14, 3) := by decide +kernel
theorem dX7_check_37 : decode cX7_check 37 = .ok (.new 276, 3) := by decide +kernel
theorem dX7_check_40 : decode cX7_check 40 = .ok (.dup, 1) := by decide +kernel
theorem dX7_check_41 : decode cX7_check 41 = .ok (.ldc_w 278, 3) := by decide +kernel
theorem dX7_check_44 : decode cX7_check 44 = .ok (.invokespecial 280, 3) := by decide +kernel
theorem dX7_check_47 : decode cX7_check 47 = .ok (.athrow, 1) := by decide +kernel
theorem dX7_check_48 : decode cX7_check 48 = .ok (.return_, 1) := by decide +kernel
theorem dX7_rangeFault_0 : decode cX7_rangeFault 0 = .ok (.iload_n 0, 1) := by decide +kernel
theorem dX7_rangeFault_1 : decode cX7_rangeFault 1 = .ok (.iload_n 1, 1) := by decide +kernel
theorem dX7_rangeFault_2 : decode cX7_rangeFault 2 = .ok (.if_icmp .lt 8, 3) := by decide +kernel
theorem dX7_rangeFault_5 : decode cX7_rangeFault 5 = .ok (.iload_n 0, 1) := by decide +kernel
theorem dX7_rangeFault_6 : decode cX7_rangeFault 6 = .ok (.iload_n 2, 1) := by decide +kernel
theorem dX7_rangeFault_7 : decode cX7_rangeFault 7 = .ok (.if_icmp .le 7, 3) := by decide +kernel
theorem dX7_rangeFault_10 : decode cX7_rangeFault 10 = .ok (.iconst 2, 1) := by decide +kernel
theorem dX7_rangeFault_11 : decode cX7_rangeFault 11 = .ok (.goto 4, 3) := by decide +kernel
theorem dX7_rangeFault_14 : decode cX7_rangeFault 14 = .ok (.iconst 0, 1) := by decide +kernel
theorem dX7_rangeFault_15 : decode cX7_rangeFault 15 = .ok (.ireturn, 1) := by decide +kernel
theorem dX7_isSlot_0 : decode cX7_isSlot 0 = .ok (.iload_n 0, 1) := by decide +kernel
theorem dX7_isSlot_1 : decode cX7_isSlot 1 = .ok (.ifCond .lt 12, 3) := by decide +kernel
theorem dX7_isSlot_4 : decode cX7_isSlot 4 = .ok (.iload_n 0, 1) := by decide +kernel
theorem dX7_isSlot_5 : decode cX7_isSlot 5 = .ok (.iconst 2, 1) := by decide +kernel
theorem dX7_isSlot_6 : decode cX7_isSlot 6 = .ok (.if_icmp .ge 7, 3) := by decide +kernel
theorem dX7_isSlot_9 : decode cX7_isSlot 9 = .ok (.iconst 1, 1) := by decide +kernel
theorem dX7_isSlot_10 : decode cX7_isSlot 10 = .ok (.goto 4, 3) := by decide +kernel
theorem dX7_isSlot_13 : decode cX7_isSlot 13 = .ok (.iconst 0, 1) := by decide +kernel
theorem dX7_isSlot_14 : decode cX7_isSlot 14 = .ok (.ireturn, 1) := by decide +kernel
theorem dX7_restoreFault_0 : decode cX7_restoreFault 0 = .ok (.iload_n 1, 1) := by decide +kernel
theorem dX7_restoreFault_1 : decode cX7_restoreFault 1 = .ok (.invokestatic 258, 3) := by decide +kernel
theorem dX7_restoreFault_4 : decode cX7_restoreFault 4 = .ok (.ifCond .ne 5, 3) := by decide +kernel
theorem dX7_restoreFault_7 : decode cX7_restoreFault 7 = .ok (.iconst 1, 1) := by decide +kernel
theorem dX7_restoreFault_8 : decode cX7_restoreFault 8 = .ok (.ireturn, 1) := by decide +kernel
theorem dX7_restoreFault_9 : decode cX7_restoreFault 9 = .ok (.aload_n 0, 1) := by decide +kernel
theorem dX7_restoreFault_10 : decode cX7_restoreFault 10 = .ok (.getfield 48, 3) := by decide +kernel
theorem dX7_restoreFault_13 : decode cX7_restoreFault 13 = .ok (.iload_n 1, 1) := by decide +kernel
theorem dX7_restoreFault_14 : decode cX7_restoreFault 14 = .ok (.baload, 1) := by decide +kernel
theorem dX7_restoreFault_15 : decode cX7_restoreFault 15 = .ok (.ifCond .eq 7, 3) := by decide +kernel
theorem dX7_restoreFault_18 : decode cX7_restoreFault 18 = .ok (.iconst 0, 1) := by decide +kernel
theorem dX7_restoreFault_19 : decode cX7_restoreFault 19 = .ok (.goto 4, 3) := by decide +kernel
theorem dX7_restoreFault_22 : decode cX7_restoreFault 22 = .ok (.iconst 3, 1) := by decide +kernel
theorem dX7_restoreFault_23 : decode cX7_restoreFault 23 = .ok (.ireturn, 1) := by decide +kernel
theorem dX7_scriptFault_0 : decode cX7_scriptFault 0 = .ok (.iload_n 0, 1) := by decide +kernel
theorem dX7_scriptFault_1 : decode cX7_scriptFault 1 = .ok (.iconst 1, 1) := by decide +kernel
theorem dX7_scriptFault_2 : decode cX7_scriptFault 2 = .ok (.if_icmp .lt 14, 3) := by decide +kernel
theorem dX7_scriptFault_5 : decode cX7_scriptFault 5 = .ok (.iload_n 0, 1) := by decide +kernel
theorem dX7_scriptFault_6 : decode cX7_scriptFault 6 = .ok (.iconst 3, 1) := by decide +kernel
theorem dX7_scriptFault_7 : decode cX7_scriptFault 7 = .ok (.if_icmp .gt 9, 3) := by decide +kernel
theorem dX7_scriptFault_10 : decode cX7_scriptFault 10 = .ok (.lload_n 1, 1) := by decide +kernel
theorem dX7_scriptFault_11 : decode cX7_scriptFault 11 = .ok (.lconst 0, 1) := by decide +kernel
theorem dX7_scriptFault_12 : decode cX7_scriptFault 12 = .ok (.lcmp, 1) := by decide +kernel
theorem dX7_scriptFault_13 : decode cX7_scriptFault 13 = .ok (.ifCond .ge 5, 3) := by decide +kernel
theorem dX7_scriptFault_16 : decode cX7_scriptFault 16 = .ok (.iconst 2, 1) := by decide +kernel
theorem dX7_scriptFault_17 : decode cX7_scriptFault 17 = .ok (.ireturn, 1) := by decide +kernel
theorem dX7_scriptFault_18 : decode cX7_scriptFault 18 = .ok (.lconst 1, 1) := by decide +kernel
theorem dX7_scriptFault_19 : decode cX7_scriptFault 19 = .ok (.lstore_n 3, 1) := by decide +kernel
theorem dX7_scriptFault_20 : decode cX7_scriptFault 20 = .ok (.iconst 0, 1) := by decide +kernel
theorem dX7_scriptFault_21 : decode cX7_scriptFault 21 = .ok (.istore 5, 2) := by decide +kernel
theorem dX7_scriptFault_23 : decode cX7_scriptFault 23 = .ok (.iload 5, 2) := by decide +kernel
theorem dX7_scriptFault_25 : decode cX7_scriptFault 25 = .ok (.iload_n 0, 1) := by decide +kernel
theorem dX7_scriptFault_26 : decode cX7_scriptFault 26 = .ok (.if_icmp .ge 15, 3) := by decide +kernel
theorem dX7_scriptFault_29 : decode cX7_scriptFault 29 = .ok (.lload_n 3, 1) := by decide +kernel
theorem dX7_scriptFault_30 : decode cX7_scriptFault 30 = .ok (.ldc2_w 281, 3) := by decide +kernel
theorem dX7_scriptFault_33 : decode cX7_scriptFault 33 = .ok (.lmul, 1) := by decide +kernel
theorem dX7_scriptFault_34 : decode cX7_scriptFault 34 = .ok (.lstore_n 3, 1) := by decide +kernel
theorem dX7_scriptFault_35 : decode cX7_scriptFault 35 = .ok (.iinc 5 1, 3) := by decide +kernel
theorem dX7_scriptFault_38 : decode cX7_scriptFault 38 = .ok (.goto (-15), 3) := by decide +kernel
theorem dX7_scriptFault_41 : decode cX7_scriptFault 41 = .ok (.lload_n 1, 1) := by decide +kernel
theorem dX7_scriptFault_42 : decode cX7_scriptFault 42 = .ok (.lload_n 3, 1) := by decide +kernel
theorem dX7_scriptFault_43 : decode cX7_scriptFault 43 = .ok (.lcmp, 1) := by decide +kernel
theorem dX7_scriptFault_44 : decode cX7_scriptFault 44 = .ok (.ifCond .ge 7, 3) := by decide +kernel
theorem dX7_scriptFault_47 : decode cX7_scriptFault 47 = .ok (.iconst 0, 1) := by decide +kernel
theorem dX7_scriptFault_48 : decode cX7_scriptFault 48 = .ok (.goto 4, 3) := by decide +kernel
theorem dX7_scriptFault_51 : decode cX7_scriptFault 51 = .ok (.iconst 2, 1) := by decide +kernel
theorem dX7_scriptFault_52 : decode cX7_scriptFault 52 = .ok (.ireturn, 1) := by decide +kernel
theorem dX7_groupAt_0 : decode cX7_groupAt 0 = .ok (.lload_n 0, 1) := by decide +kernel
theorem dX7_groupAt_1 : decode cX7_groupAt 1 = .ok (.lstore_n 3, 1) := by decide +kernel
theorem dX7_groupAt_2 : decode cX7_groupAt 2 = .ok (.iconst 0, 1) := by decide +kernel
theorem dX7_groupAt_3 : decode cX7_groupAt 3 = .ok (.istore 5, 2) := by decide +kernel
theorem dX7_groupAt_5 : decode cX7_groupAt 5 = .ok (.iload 5, 2) := by decide +kernel
theorem dX7_groupAt_7 : decode cX7_groupAt 7 = .ok (.iload_n 2, 1) := by decide +kernel
theorem dX7_groupAt_8 : decode cX7_groupAt 8 = .ok (.if_icmp .ge 15, 3) := by decide +kernel
theorem dX7_groupAt_11 : decode cX7_groupAt 11 = .ok (.lload_n 3, 1) := by decide +kernel
theorem dX7_groupAt_12 : decode cX7_groupAt 12 = .ok (.ldc2_w 281, 3) := by decide +kernel
theorem dX7_groupAt_15 : decode cX7_groupAt 15 = .ok (.ldiv, 1) := by decide +kernel
theorem dX7_groupAt_16 : decode cX7_groupAt 16 = .ok (.lstore_n 3, 1) := by decide +kernel
theorem dX7_groupAt_17 : decode cX7_groupAt 17 = .ok (.iinc 5 1, 3) := by decide +kernel
theorem dX7_groupAt_20 : decode cX7_groupAt 20 = .ok (.goto (-15), 3) := by decide +kernel
theorem dX7_groupAt_23 : decode cX7_groupAt 23 = .ok (.lload_n 3, 1) := by decide +kernel
theorem dX7_groupAt_24 : decode cX7_groupAt 24 = .ok (.ldc2_w 281, 3) := by decide +kernel
theorem dX7_groupAt_27 : decode cX7_groupAt 27 = .ok (.lrem, 1) := by decide +kernel
theorem dX7_groupAt_28 : decode cX7_groupAt 28 = .ok (.l2i, 1) := by decide +kernel
theorem dX7_groupAt_29 : decode cX7_groupAt 29 = .ok (.ireturn, 1) := by decide +kernel
theorem dX7_sumOf_0 : decode cX7_sumOf 0 = .ok (.iconst 0, 1) := by decide +kernel
theorem dX7_sumOf_1 : decode cX7_sumOf 1 = .ok (.istore_n 1, 1) := by decide +kernel
theorem dX7_sumOf_2 : decode cX7_sumOf 2 = .ok (.iconst 0, 1) := by decide +kernel
theorem dX7_sumOf_3 : decode cX7_sumOf 3 = .ok (.istore_n 2, 1) := by decide +kernel
theorem dX7_sumOf_4 : decode cX7_sumOf 4 = .ok (.iload_n 2, 1) := by decide +kernel
theorem dX7_sumOf_5 : decode cX7_sumOf 5 = .ok (.aload_n 0, 1) := by decide +kernel
theorem dX7_sumOf_6 : decode cX7_sumOf 6 = .ok (.arraylength, 1) := by decide +kernel
theorem dX7_sumOf_7 : decode cX7_sumOf 7 = .ok (.if_icmp .ge 15, 3) := by decide +kernel
theorem dX7_sumOf_10 : decode cX7_sumOf 10 = .ok (.iload_n 1, 1) := by decide +kernel
theorem dX7_sumOf_11 : decode cX7_sumOf 11 = .ok (.aload_n 0, 1) := by decide +kernel
theorem dX7_sumOf_12 : decode cX7_sumOf 12 = .ok (.iload_n 2, 1) := by decide +kernel
theorem dX7_sumOf_13 : decode cX7_sumOf 13 = .ok (.iaload, 1) := by decide +kernel
theorem dX7_sumOf_14 : decode cX7_sumOf 14 = .ok (.iadd, 1) := by decide +kernel
theorem dX7_sumOf_15 : decode cX7_sumOf 15 = .ok (.istore_n 1, 1) := by decide +kernel
theorem dX7_sumOf_16 : decode cX7_sumOf 16 = .ok (.iinc 2 1, 3) := by decide +kernel
theorem dX7_sumOf_19 : decode cX7_sumOf 19 = .ok (.goto (-15), 3) := by decide +kernel
theorem dX7_sumOf_22 : decode cX7_sumOf 22 = .ok (.iload_n 1, 1) := by decide +kernel
theorem dX7_sumOf_23 : decode cX7_sumOf 23 = .ok (.ireturn, 1) := by decide +kernel
theorem dX7_copyRow_0 : decode cX7_copyRow 0 = .ok (.aload_n 0, 1) := by decide +kernel
theorem dX7_copyRow_1 : decode cX7_copyRow 1 = .ok (.iconst 0, 1) := by decide +kernel
theorem dX7_copyRow_2 : decode cX7_copyRow 2 = .ok (.aload_n 1, 1) := by decide +kernel
theorem dX7_copyRow_3 : decode cX7_copyRow 3 = .ok (.iconst 0, 1) := by decide +kernel
theorem dX7_copyRow_4 : decode cX7_copyRow 4 = .ok (.aload_n 0, 1) := by decide +kernel
theorem dX7_copyRow_5 : decode cX7_copyRow 5 = .ok (.arraylength, 1) := by decide +kernel
theorem dX7_copyRow_6 : decode cX7_copyRow 6 = .ok (.aload_n 1, 1) := by decide +kernel
theorem dX7_copyRow_7 : decode cX7_copyRow 7 = .ok (.arraylength, 1) := by decide +kernel
theorem dX7_copyRow_8 : decode cX7_copyRow 8 = .ok (.invokestatic 283, 3) := by decide +kernel
theorem dX7_copyRow_11 : decode cX7_copyRow 11 = .ok (.invokestatic 288, 3) := by decide +kernel
theorem dX7_copyRow_14 : decode cX7_copyRow 14 = .ok (.return_, 1) := by decide +kernel
