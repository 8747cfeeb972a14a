theorem dX9_in_0 : decode cX9_in 0 = .ok (.iload_n 0, 1) := by decide +kernel
theorem dX9_in_1 : decode cX9_in 1 = .ok (.iload_n 1, 1) := by decide +kernel
theorem dX9_in_2 : decode cX9_in 2 = .ok (.if_icmp .lt 12, 3) := by decide +kernel
theorem dX9_in_5 : decode cX9_in 5 = .ok (.iload_n 0, 1) := by decide +kernel
theorem dX9_in_6 : decode cX9_in 6 = .ok (.iload_n 2, 1) := by decide +kernel
theorem dX9_in_7 : decode cX9_in 7 = .ok (.if_icmp .gt 7, 3) := by decide +kernel
theorem dX9_in_10 : decode cX9_in 10 = .ok (.iconst 1, 1) := by decide +kernel
theorem dX9_in_11 : decode cX9_in 11 = .ok (.goto 4, 3) := by decide +kernel
theorem dX9_in_14 : decode cX9_in 14 = .ok (.iconst 0, 1) := by decide +kernel
theorem dX9_in_15 : decode cX9_in 15 = .ok (.ireturn, 1) := by decide +kernel
theorem dX9_least_0 : decode cX9_least 0 = .ok (.iload_n 0, 1) := by decide +kernel
theorem dX9_least_1 : decode cX9_least 1 = .ok (.iload_n 1, 1) := by decide +kernel
theorem dX9_least_2 : decode cX9_least 2 = .ok (.if_icmp .ge 7, 3) := by decide +kernel
theorem dX9_least_5 : decode cX9_least 5 = .ok (.iload_n 0, 1) := by decide +kernel
theorem dX9_least_6 : decode cX9_least 6 = .ok (.goto 4, 3) := by decide +kernel
theorem dX9_least_9 : decode cX9_least 9 = .ok (.iload_n 1, 1) := by decide +kernel
theorem dX9_least_10 : decode cX9_least 10 = .ok (.ireturn, 1) := by decide +kernel
theorem dX9_init_0 : decode cX9_init 0 = .ok (.aload_n 0, 1) := by decide +kernel
theorem dX9_init_1 : decode cX9_init 1 = .ok (.invokespecial 1, 3) := by decide +kernel
theorem dX9_init_4 : decode cX9_init 4 = .ok (.aload_n 0, 1) := by decide +kernel
theorem dX9_init_5 : decode cX9_init 5 = .ok (.iconst 4, 1) := by decide +kernel
theorem dX9_init_6 : decode cX9_init 6 = .ok (.newarray .int, 2) := by decide +kernel
theorem dX9_init_8 : decode cX9_init 8 = .ok (.putfield 7, 3) := by decide +kernel
theorem dX9_init_11 : decode cX9_init 11 = .ok (.aload_n 0, 1) := by decide +kernel
theorem dX9_init_12 : decode cX9_init 12 = .ok (.iconst 4, 1) := by decide +kernel
theorem dX9_init_13 : decode cX9_init 13 = .ok (.newarray .int, 2) := by decide +kernel
theorem dX9_init_15 : decode cX9_init 15 = .ok (.putfield 13, 3) := by decide +kernel
theorem dX9_init_18 : decode cX9_init 18 = .ok (.aload_n 0, 1) := by decide +kernel
theorem dX9_init_19 : decode cX9_init 19 = .ok (.iconst 4, 1) := by decide +kernel
theorem dX9_init_20 : decode cX9_init 20 = .ok (.newarray .boolean, 2) := by decide +kernel
theorem dX9_init_22 : decode cX9_init 22 = .ok (.putfield 16, 3) := by decide +kernel
theorem dX9_init_25 : decode cX9_init 25 = .ok (.aload_n 0, 1) := by decide +kernel
theorem dX9_init_26 : decode cX9_init 26 = .ok (.iconst 4, 1) := by decide +kernel
theorem dX9_init_27 : decode cX9_init 27 = .ok (.newarray .int, 2) := by decide +kernel
theorem dX9_init_29 : decode cX9_init 29 = .ok (.putfield 20, 3) := by decide +kernel
theorem dX9_init_32 : decode cX9_init 32 = .ok (.aload_n 0, 1) := by decide +kernel
theorem dX9_init_33 : decode cX9_init 33 = .ok (.bipush 8, 2) := by decide +kernel
theorem dX9_init_35 : decode cX9_init 35 = .ok (.newarray .int, 2) := by decide +kernel
theorem dX9_init_37 : decode cX9_init 37 = .ok (.putfield 23, 3) := by decide +kernel
theorem dX9_init_40 : decode cX9_init 40 = .ok (.aload_n 0, 1) := by decide +kernel
theorem dX9_init_41 : decode cX9_init 41 = .ok (.bipush 8, 2) := by decide +kernel
theorem dX9_init_43 : decode cX9_init 43 = .ok (.newarray .int, 2) := by decide +kernel
theorem dX9_init_45 : decode cX9_init 45 = .ok (.putfield 26, 3) := by decide +kernel
theorem dX9_init_48 : decode cX9_init 48 = .ok (.aload_n 0, 1) := by decide +kernel
theorem dX9_init_49 : decode cX9_init 49 = .ok (.bipush 32, 2) := by decide +kernel
theorem dX9_init_51 : decode cX9_init 51 = .ok (.newarray .int, 2) := by decide +kernel
theorem dX9_init_53 : decode cX9_init 53 = .ok (.putfield 29, 3) := by decide +kernel
theorem dX9_init_56 : decode cX9_init 56 = .ok (.aload_n 0, 1) := by decide +kernel
theorem dX9_init_57 : decode cX9_init 57 = .ok (.bipush 8, 2) := by decide +kernel
theorem dX9_init_59 : decode cX9_init 59 = .ok (.newarray .int, 2) := by decide +kernel
theorem dX9_init_61 : decode cX9_init 61 = .ok (.putfield 32, 3) := by decide +kernel
theorem dX9_init_64 : decode cX9_init 64 = .ok (.aload_n 0, 1) := by decide +kernel
theorem dX9_init_65 : decode cX9_init 65 = .ok (.bipush 8, 2) := by decide +kernel
theorem dX9_init_67 : decode cX9_init 67 = .ok (.newarray .int, 2) := by decide +kernel
theorem dX9_init_69 : decode cX9_init 69 = .ok (.putfield 35, 3) := by decide +kernel
theorem dX9_init_72 : decode cX9_init 72 = .ok (.aload_n 0, 1) := by decide +kernel
theorem dX9_init_73 : decode cX9_init 73 = .ok (.bipush 8, 2) := by decide +kernel
theorem dX9_init_75 : decode cX9_init 75 = .ok (.newarray .int, 2) := by decide +kernel
theorem dX9_init_77 : decode cX9_init 77 = .ok (.putfield 38, 3) := by decide +kernel
theorem dX9_init_80 : decode cX9_init 80 = .ok (.aload_n 0, 1) := by decide +kernel
theorem dX9_init_81 : decode cX9_init 81 = .ok (.bipush 10, 2) := by decide +kernel
theorem dX9_init_83 : decode cX9_init 83 = .ok (.newarray .int, 2) := by decide +kernel
theorem dX9_init_85 : decode cX9_init 85 = .ok (.putfield 41, 3) := by decide +kernel
theorem dX9_init_88 : decode cX9_init 88 = .ok (.aload_n 0, 1) := by decide +kernel
theorem dX9_init_89 : decode cX9_init 89 = .ok (.bipush 10, 2) := by decide +kernel
theorem dX9_init_91 : decode cX9_init 91 = .ok (.newarray .int, 2) := by decide +kernel
theorem dX9_init_93 : decode cX9_init 93 = .ok (.putfield 44, 3) := by decide +kernel
theorem dX9_init_96 : decode cX9_init 96 = .ok (.aload_n 0, 1) := by decide +kernel
theorem dX9_init_97 : decode cX9_init 97 = .ok (.bipush 10, 2) := by decide +kernel
theorem dX9_init_99 : decode cX9_init 99 = .ok (.newarray .int, 2) := by decide +kernel
theorem dX9_init_101 : decode cX9_init 101 = .ok (.putfield 47, 3) := by decide +kernel
theorem dX9_init_104 : decode cX9_init 104 = .ok (.aload_n 0, 1) := by decide +kernel
theorem dX9_init_105 : decode cX9_init 105 = .ok (.bipush 10, 2) := by decide +kernel
theorem dX9_init_107 : decode cX9_init 107 = .ok (.newarray .int, 2) := by decide +kernel
theorem dX9_init_109 : decode cX9_init 109 = .ok (.putfield 50, 3) := by decide +kernel
theorem dX9_init_112 : decode cX9_init 112 = .ok (.aload_n 0, 1) := by decide +kernel
theorem dX9_init_113 : decode cX9_init 113 = .ok (.bipush 10, 2) := by decide +kernel
theorem dX9_init_115 : decode cX9_init 115 = .ok (.newarray .int, 2) := by decide +kernel
theorem dX9_init_117 : decode cX9_init 117 = .ok (.putfield 53, 3) := by decide +kernel
theorem dX9_init_120 : decode cX9_init 120 = .ok (.aload_n 0, 1) := by decide +kernel
theorem dX9_init_121 : decode cX9_init 121 = .ok (.bipush 10, 2) := by decide +kernel
theorem dX9_init_123 : decode cX9_init 123 = .ok (.newarray .int, 2) := by decide +kernel
theorem dX9_init_125 : decode cX9_init 125 = .ok (.putfield 56, 3) := by decide +kernel
theorem dX9_init_128 : decode cX9_init 128 = .ok (.aload_n 0, 1) := by decide +kernel
theorem dX9_init_129 : decode cX9_init 129 = .ok (.bipush 10, 2) := by decide +kernel
theorem dX9_init_131 : decode cX9_init 131 = .ok (.newarray .int, 2) := by decide +kernel
theorem dX9_init_133 : decode cX9_init 133 = .ok (.putfield 59, 3) := by decide +kernel
theorem dX9_init_136 : decode cX9_init 136 = .ok (.aload_n 0, 1) := by decide +kernel
theorem dX9_init_137 : decode cX9_init 137 = .ok (.bipush 10, 2) := by decide +kernel
theorem dX9_init_139 : decode cX9_init 139 = .ok (.newarray .int, 2) := by decide +kernel
theorem dX9_init_141 : decode cX9_init 141 = .ok (.putfield 62, 3) := by decide +kernel
theorem dX9_init_144 : decode cX9_init 144 = .ok (.aload_n 0, 1) := by decide +kernel
theorem dX9_init_145 : decode cX9_init 145 = .ok (.bipush 10, 2) := by decide +kernel
theorem dX9_init_147 : decode cX9_init 147 = .ok (.newarray .int, 2) := by decide +kernel
theorem dX9_init_149 : decode cX9_init 149 = .ok (.putfield 65, 3) := by decide +kernel
theorem dX9_init_152 : decode cX9_init 152 = .ok (.aload_n 0, 1) := by decide +kernel
theorem dX9_init_153 : decode cX9_init 153 = .ok (.bipush 10, 2) := by decide +kernel
theorem dX9_init_155 : decode cX9_init 155 = .ok (.newarray .int, 2) := by decide +kernel
theorem dX9_init_157 : decode cX9_init 157 = .ok (.putfield 68, 3) := by decide +kernel
theorem dX9_init_160 : decode cX9_init 160 = .ok (.aload_n 0, 1) := by decide +kernel
theorem dX9_init_161 : decode cX9_init 161 = .ok (.bipush 10, 2) := by decide +kernel
theorem dX9_init_163 : decode cX9_init 163 = .ok (.newarray .int, 2) := by decide +kernel
theorem dX9_init_165 : decode cX9_init 165 = .ok (.putfield 71, 3) := by decide +kernel
theorem dX9_init_168 : decode cX9_init 168 = .ok (.aload_n 0, 1) := by decide +kernel
theorem dX9_init_169 : decode cX9_init 169 = .ok (.bipush 10, 2) := by decide +kernel
theorem dX9_init_171 : decode cX9_init 171 = .ok (.newarray .int, 2) := by decide +kernel
theorem dX9_init_173 : decode cX9_init 173 = .ok (.putfield 74, 3) := by decide +kernel
theorem dX9_init_176 : decode cX9_init 176 = .ok (.aload_n 0, 1) := by decide +kernel
theorem dX9_init_177 : decode cX9_init 177 = .ok (.bipush 10, 2) := by decide +kernel
theorem dX9_init_179 : decode cX9_init 179 = .ok (.newarray .int, 2) := by decide +kernel
theorem dX9_init_181 : decode cX9_init 181 = .ok (.putfield 77, 3) := by decide +kernel
theorem dX9_init_184 : decode cX9_init 184 = .ok (.aload_n 0, 1) := by decide +kernel
theorem dX9_init_185 : decode cX9_init 185 = .ok (.bipush 100, 2) := by decide +kernel
theorem dX9_init_187 : decode cX9_init 187 = .ok (.putfield 80, 3) := by decide +kernel
theorem dX9_init_190 : decode cX9_init 190 = .ok (.aload_n 0, 1) := by decide +kernel
theorem dX9_init_191 : decode cX9_init 191 = .ok (.bipush 7, 2) := by decide +kernel
theorem dX9_init_193 : decode cX9_init 193 = .ok (.newarray .long, 2) := by decide +kernel
theorem dX9_init_195 : decode cX9_init 195 = .ok (.putfield 84, 3) := by decide +kernel
theorem dX9_init_198 : decode cX9_init 198 = .ok (.aload_n 0, 1) := by decide +kernel
theorem dX9_init_199 : decode cX9_init 199 = .ok (.bipush 50, 2) := by decide +kernel
theorem dX9_init_201 : decode cX9_init 201 = .ok (.newarray .int, 2) := by decide +kernel
theorem dX9_init_203 : decode cX9_init 203 = .ok (.putfield 88, 3) := by decide +kernel
theorem dX9_init_206 : decode cX9_init 206 = .ok (.aload_n 0, 1) := by decide +kernel
theorem dX9_init_207 : decode cX9_init 207 = .ok (.bipush 10, 2) := by decide +kernel
theorem dX9_init_209 : decode cX9_init 209 = .ok (.newarray .int, 2) := by decide +kernel
theorem dX9_init_211 : decode cX9_init 211 = .ok (.putfield 91, 3) := by decide +kernel
theorem dX9_init_214 : decode cX9_init 214 = .ok (.aload_n 0, 1) := by decide +kernel
theorem dX9_init_215 : decode cX9_init 215 = .ok (.bipush 10, 2) := by decide +kernel
theorem dX9_init_217 : decode cX9_init 217 = .ok (.newarray .int, 2) := by decide +kernel
theorem dX9_init_219 : decode cX9_init 219 = .ok (.putfield 94, 3) := by decide +kernel
theorem dX9_init_222 : decode cX9_init 222 = .ok (.aload_n 0, 1) := by decide +kernel
theorem dX9_init_223 : decode cX9_init 223 = .ok (.sipush 600, 3) := by decide +kernel
theorem dX9_init_226 : decode cX9_init 226 = .ok (.newarray .int, 2) := by decide +kernel
theorem dX9_init_228 : decode cX9_init 228 = .ok (.putfield 97, 3) := by decide +kernel
theorem dX9_init_231 : decode cX9_init 231 = .ok (.aload_n 0, 1) := by decide +kernel
theorem dX9_init_232 : decode cX9_init 232 = .ok (.bipush 10, 2) := by decide +kernel
theorem dX9_init_234 : decode cX9_init 234 = .ok (.newarray .boolean, 2) := by decide +kernel
theorem dX9_init_236 : decode cX9_init 236 = .ok (.putfield 100, 3) := by decide +kernel
theorem dX9_init_239 : decode cX9_init 239 = .ok (.aload_n 0, 1) := by decide +kernel
theorem dX9_init_240 : decode cX9_init 240 = .ok (.bipush 64, 2) := by decide +kernel
theorem dX9_init_242 : decode cX9_init 242 = .ok (.newarray .int, 2) := by decide +kernel
theorem dX9_init_244 : decode cX9_init 244 = .ok (.putfield 103, 3) := by decide +kernel
theorem dX9_init_247 : decode cX9_init 247 = .ok (.aload_n 0, 1) := by decide +kernel
theorem dX9_init_248 : decode cX9_init 248 = .ok (.bipush 64, 2) := by decide +kernel
theorem dX9_init_250 : decode cX9_init 250 = .ok (.newarray .int, 2) := by decide +kernel
theorem dX9_init_252 : decode cX9_init 252 = .ok (.putfield 106, 3) := by decide +kernel
theorem dX9_init_255 : decode cX9_init 255 = .ok (.aload_n 0, 1) := by decide +kernel
theorem dX9_init_256 : decode cX9_init 256 = .ok (.bipush 10, 2) := by decide +kernel
theorem dX9_init_258 : decode cX9_init 258 = .ok (.newarray .int, 2) := by decide +kernel
theorem dX9_init_260 : decode cX9_init 260 = .ok (.putfield 109, 3) := by decide +kernel
theorem dX9_init_263 : decode cX9_init 263 = .ok (.iconst 0, 1) := by decide +kernel
theorem dX9_init_264 : decode cX9_init 264 = .ok (.istore_n 1, 1) := by decide +kernel
theorem dX9_init_265 : decode cX9_init 265 = .ok (.iload_n 1, 1) := by decide +kernel
theorem dX9_init_266 : decode cX9_init 266 = .ok (.bipush 10, 2) := by decide +kernel
theorem dX9_init_268 : decode cX9_init 268 = .ok (.if_icmp .ge 24, 3) := by decide +kernel
theorem dX9_init_271 : decode cX9_init 271 = .ok (.aload_n 0, 1) := by decide +kernel
theorem dX9_init_272 : decode cX9_init 272 = .ok (.getfield 91, 3) := by decide +kernel
theorem dX9_init_275 : decode cX9_init 275 = .ok (.iload_n 1, 1) := by decide +kernel
theorem dX9_init_276 : decode cX9_init 276 = .ok (.iconst 1, 1) := by decide +kernel
theorem dX9_init_277 : decode cX9_init 277 = .ok (.iastore, 1) := by decide +kernel
theorem dX9_init_278 : decode cX9_init 278 = .ok (.aload_n 0, 1) := by decide +kernel
theorem dX9_init_279 : decode cX9_init 279 = .ok (.getfield 109, 3) := by decide +kernel
theorem dX9_init_282 : decode cX9_init 282 = .ok (.iload_n 1, 1) := by decide +kernel
theorem dX9_init_283 : decode cX9_init 283 = .ok (.bipush (-4), 2) := by decide +kernel
theorem dX9_init_285 : decode cX9_init 285 = .ok (.iastore, 1) := by decide +kernel
theorem dX9_init_286 : decode cX9_init 286 = .ok (.iinc 1 1, 3) := by decide +kernel
theorem dX9_init_289 : decode cX9_init 289 = .ok (.goto (-24), 3) := by decide +kernel
theorem dX9_init_292 : decode cX9_init 292 = .ok (.return_, 1) := by decide +kernel
theorem dX9_fountain_0 : decode cX9_fountain 0 = .ok (.iload_n 1, 1) := by decide +kernel
theorem dX9_fountain_1 : decode cX9_fountain 1 = .ok (.iconst 1, 1) := by decide +kernel
theorem dX9_fountain_2 : decode cX9_fountain 2 = .ok (.bipush 20, 2) := by decide +kernel
theorem dX9_fountain_4 : decode cX9_fountain 4 = .ok (.invokestatic 112, 3) := by decide +kernel
theorem dX9_fountain_7 : decode cX9_fountain 7 = .ok (.ifCond .ne 5, 3) := by decide +kernel
theorem dX9_fountain_10 : decode cX9_fountain 10 = .ok (.iconst (-1), 1) := by decide +kernel
theorem dX9_fountain_11 : decode cX9_fountain 11 = .ok (.ireturn, 1) := by decide +kernel
theorem dX9_fountain_12 : decode cX9_fountain 12 = .ok (.aload_n 0, 1) := by decide +kernel
theorem dX9_fountain_13 : decode cX9_fountain 13 = .ok (.getfield 116, 3) := by decide +kernel
theorem dX9_fountain_16 : decode cX9_fountain 16 = .ok (.ifCond .le 6, 3) := by decide +kernel
theorem dX9_fountain_19 : decode cX9_fountain 19 = .ok (.bipush (-2), 2) := by decide +kernel
theorem dX9_fountain_21 : decode cX9_fountain 21 = .ok (.ireturn, 1) := by decide +kernel
theorem dX9_fountain_22 : decode cX9_fountain 22 = .ok (.aload_n 0, 1) := by decide +kernel
theorem dX9_fountain_23 : decode cX9_fountain 23 = .ok (.getfield 119, 3) := by decide +kernel
theorem dX9_fountain_26 : decode cX9_fountain 26 = .ok (.iconst 4, 1) := by decide +kernel
theorem dX9_fountain_27 : decode cX9_fountain 27 = .ok (.if_icmp .ne 6, 3) := by decide +kernel
theorem dX9_fountain_30 : decode cX9_fountain 30 = .ok (.bipush (-3), 2) := by decide +kernel
theorem dX9_fountain_32 : decode cX9_fountain 32 = .ok (.ireturn, 1) := by decide +kernel
theorem dX9_fountain_33 : decode cX9_fountain 33 = .ok (.aload_n 0, 1) := by decide +kernel
theorem dX9_fountain_34 : decode cX9_fountain 34 = .ok (.getfield 7, 3) := by decide +kernel
theorem dX9_fountain_37 : decode cX9_fountain 37 = .ok (.aload_n 0, 1) := by decide +kernel
theorem dX9_fountain_38 : decode cX9_fountain 38 = .ok (.getfield 119, 3) := by decide +kernel
theorem dX9_fountain_41 : decode cX9_fountain 41 = .ok (.iload_n 1, 1) := by decide +kernel
theorem dX9_fountain_42 : decode cX9_fountain 42 = .ok (.iastore, 1) := by decide +kernel
theorem dX9_fountain_43 : decode cX9_fountain 43 = .ok (.aload_n 0, 1) := by decide +kernel
theorem dX9_fountain_44 : decode cX9_fountain 44 = .ok (.getfield 16, 3) := by decide +kernel
theorem dX9_fountain_47 : decode cX9_fountain 47 = .ok (.aload_n 0, 1) := by decide +kernel
theorem dX9_fountain_48 : decode cX9_fountain 48 = .ok (.getfield 119, 3) := by decide +kernel
theorem dX9_fountain_51 : decode cX9_fountain 51 = .ok (.iconst 1, 1) := by decide +kernel
theorem dX9_fountain_52 : decode cX9_fountain 52 = .ok (.bastore, 1) := by decide +kernel
theorem dX9_fountain_53 : decode cX9_fountain 53 = .ok (.aload_n 0, 1) := by decide +kernel
theorem dX9_fountain_54 : decode cX9_fountain 54 = .ok (.dup, 1) := by decide +kernel
theorem dX9_fountain_55 : decode cX9_fountain 55 = .ok (.getfield 119, 3) := by decide +kernel
theorem dX9_fountain_58 : decode cX9_fountain 58 = .ok (.iconst 1, 1) := by decide +kernel
theorem dX9_fountain_59 : decode cX9_fountain 59 = .ok (.iadd, 1) := by decide +kernel
theorem dX9_fountain_60 : decode cX9_fountain 60 = .ok (.putfield 119, 3) := by decide +kernel
theorem dX9_fountain_63 : decode cX9_fountain 63 = .ok (.aload_n 0, 1) := by decide +kernel
theorem dX9_fountain_64 : decode cX9_fountain 64 = .ok (.getfield 119, 3) := by decide +kernel
theorem dX9_fountain_67 : decode cX9_fountain 67 = .ok (.iconst 1, 1) := by decide +kernel
theorem dX9_fountain_68 : decode cX9_fountain 68 = .ok (.isub, 1) := by decide +kernel
theorem dX9_fountain_69 : decode cX9_fountain 69 = .ok (.ireturn, 1) := by decide +kernel
theorem dX9_isMinutes_0 : decode cX9_isMinutes 0 = .ok (.iload_n 1, 1) := by decide +kernel
theorem dX9_isMinutes_1 : decode cX9_isMinutes 1 = .ok (.aload_n 0, 1) := by decide +kernel
theorem dX9_isMinutes_2 : decode cX9_isMinutes 2 = .ok (.getfield 119, 3) := by decide +kernel
theorem dX9_isMinutes_5 : decode cX9_isMinutes 5 = .ok (.if_icmp .ge 13, 3) := by decide +kernel
theorem dX9_isMinutes_8 : decode cX9_isMinutes 8 = .ok (.iload_n 2, 1) := by decide +kernel
theorem dX9_isMinutes_9 : decode cX9_isMinutes 9 = .ok (.iconst 1, 1) := by decide +kernel
theorem dX9_isMinutes_10 : decode cX9_isMinutes 10 = .ok (.bipush 30, 2) := by decide +kernel
theorem dX9_isMinutes_12 : decode cX9_isMinutes 12 = .ok (.invokestatic 112, 3) := by decide +kernel
theorem dX9_isMinutes_15 : decode cX9_isMinutes 15 = .ok (.ifCond .eq 7, 3) := by decide +kernel
theorem dX9_isMinutes_18 : decode cX9_isMinutes 18 = .ok (.iconst 1, 1) := by decide +kernel
theorem dX9_isMinutes_19 : decode cX9_isMinutes 19 = .ok (.goto 4, 3) := by decide +kernel
theorem dX9_isMinutes_22 : decode cX9_isMinutes 22 = .ok (.iconst 0, 1) := by decide +kernel
theorem dX9_isMinutes_23 : decode cX9_isMinutes 23 = .ok (.ireturn, 1) := by decide +kernel
theorem dX9_jar_0 : decode cX9_jar 0 = .ok (.iload_n 1, 1) := by decide +kernel
theorem dX9_jar_1 : decode cX9_jar 1 = .ok (.iconst 0, 1) := by decide +kernel
theorem dX9_jar_2 : decode cX9_jar 2 = .ok (.bipush 9, 2) := by decide +kernel
theorem dX9_jar_4 : decode cX9_jar 4 = .ok (.invokestatic 112, 3) := by decide +kernel
theorem dX9_jar_7 : decode cX9_jar 7 = .ok (.ifCond .eq 53, 3) := by decide +kernel
theorem dX9_jar_10 : decode cX9_jar 10 = .ok (.iload_n 2, 1) := by decide +kernel
theorem dX9_jar_11 : decode cX9_jar 11 = .ok (.iconst 1, 1) := by decide +kernel
theorem dX9_jar_12 : decode cX9_jar 12 = .ok (.sipush 200, 3) := by decide +kernel
theorem dX9_jar_15 : decode cX9_jar 15 = .ok (.invokestatic 112, 3) := by decide +kernel
theorem dX9_jar_18 : decode cX9_jar 18 = .ok (.ifCond .eq 42, 3) := by decide +kernel
theorem dX9_jar_21 : decode cX9_jar 21 = .ok (.aload_n 0, 1) := by decide +kernel
theorem dX9_jar_22 : decode cX9_jar 22 = .ok (.iconst 0, 1) := by decide +kernel
theorem dX9_jar_23 : decode cX9_jar 23 = .ok (.iload_n 3, 1) := by decide +kernel
theorem dX9_jar_24 : decode cX9_jar 24 = .ok (.invokevirtual 122, 3) := by decide +kernel
theorem dX9_jar_27 : decode cX9_jar 27 = .ok (.ifCond .eq 33, 3) := by decide +kernel
theorem dX9_jar_30 : decode cX9_jar 30 = .ok (.aload_n 0, 1) := by decide +kernel
theorem dX9_jar_31 : decode cX9_jar 31 = .ok (.iconst 1, 1) := by decide +kernel
theorem dX9_jar_32 : decode cX9_jar 32 = .ok (.iload 4, 2) := by decide +kernel
theorem dX9_jar_34 : decode cX9_jar 34 = .ok (.invokevirtual 122, 3) := by decide +kernel
theorem dX9_jar_37 : decode cX9_jar 37 = .ok (.ifCond .eq 23, 3) := by decide +kernel
theorem dX9_jar_40 : decode cX9_jar 40 = .ok (.aload_n 0, 1) := by decide +kernel
theorem dX9_jar_41 : decode cX9_jar 41 = .ok (.iconst 2, 1) := by decide +kernel
theorem dX9_jar_42 : decode cX9_jar 42 = .ok (.iload 5, 2) := by decide +kernel
theorem dX9_jar_44 : decode cX9_jar 44 = .ok (.invokevirtual 122, 3) := by decide +kernel
theorem dX9_jar_47 : decode cX9_jar 47 = .ok (.ifCond .eq 13, 3) := by decide +kernel
theorem dX9_jar_50 : decode cX9_jar 50 = .ok (.aload_n 0, 1) := by decide +kernel
theorem dX9_jar_51 : decode cX9_jar 51 = .ok (.iconst 3, 1) := by decide +kernel
theorem dX9_jar_52 : decode cX9_jar 52 = .ok (.iload 6, 2) := by decide +kernel
theorem dX9_jar_54 : decode cX9_jar 54 = .ok (.invokevirtual 122, 3) := by decide +kernel
theorem dX9_jar_57 : decode cX9_jar 57 = .ok (.ifCond .ne 5, 3) := by decide +kernel
theorem dX9_jar_60 : decode cX9_jar 60 = .ok (.iconst (-1), 1) := by decide +kernel
theorem dX9_jar_61 : decode cX9_jar 61 = .ok (.ireturn, 1) := by decide +kernel
theorem dX9_jar_62 : decode cX9_jar 62 = .ok (.aload_n 0, 1) := by decide +kernel
theorem dX9_jar_63 : decode cX9_jar 63 = .ok (.getfield 119, 3) := by decide +kernel
theorem dX9_jar_66 : decode cX9_jar 66 = .ok (.ifCond .ne 6, 3) := by decide +kernel
theorem dX9_jar_69 : decode cX9_jar 69 = .ok (.bipush (-2), 2) := by decide +kernel
theorem dX9_jar_71 : decode cX9_jar 71 = .ok (.ireturn, 1) := by decide +kernel
theorem dX9_jar_72 : decode cX9_jar 72 = .ok (.aload_n 0, 1) := by decide +kernel
theorem dX9_jar_73 : decode cX9_jar 73 = .ok (.getfield 116, 3) := by decide +kernel
theorem dX9_jar_76 : decode cX9_jar 76 = .ok (.bipush 8, 2) := by decide +kernel
theorem dX9_jar_78 : decode cX9_jar 78 = .ok (.if_icmp .ne 6, 3) := by decide +kernel
theorem dX9_jar_81 : decode cX9_jar 81 = .ok (.bipush (-3), 2) := by decide +kernel
theorem dX9_jar_83 : decode cX9_jar 83 = .ok (.ireturn, 1) := by decide +kernel
theorem dX9_jar_84 : decode cX9_jar 84 = .ok (.aload_n 0, 1) := by decide +kernel
theorem dX9_jar_85 : decode cX9_jar 85 = .ok (.getfield 23, 3) := by decide +kernel
theorem dX9_jar_88 : decode cX9_jar 88 = .ok (.aload_n 0, 1) := by decide +kernel
theorem dX9_jar_89 : decode cX9_jar 89 = .ok (.getfield 116, 3) := by decide +kernel
theorem dX9_jar_92 : decode cX9_jar 92 = .ok (.iload_n 1, 1) := by decide +kernel
theorem dX9_jar_93 : decode cX9_jar 93 = .ok (.iastore, 1) := by decide +kernel
theorem dX9_jar_94 : decode cX9_jar 94 = .ok (.aload_n 0, 1) := by decide +kernel
theorem dX9_jar_95 : decode cX9_jar 95 = .ok (.getfield 26, 3) := by decide +kernel
theorem dX9_jar_98 : decode cX9_jar 98 = .ok (.aload_n 0, 1) := by decide +kernel
theorem dX9_jar_99 : decode cX9_jar 99 = .ok (.getfield 116, 3) := by decide +kernel
theorem dX9_jar_102 : decode cX9_jar 102 = .ok (.iload_n 2, 1) := by decide +kernel
theorem dX9_jar_103 : decode cX9_jar 103 = .ok (.iastore, 1) := by decide +kernel
theorem dX9_jar_104 : decode cX9_jar 104 = .ok (.aload_n 0, 1) := by decide +kernel
theorem dX9_jar_105 : decode cX9_jar 105 = .ok (.getfield 29, 3) := by decide +kernel
theorem dX9_jar_108 : decode cX9_jar 108 = .ok (.iconst 4, 1) := by decide +kernel
theorem dX9_jar_109 : decode cX9_jar 109 = .ok (.aload_n 0, 1) := by decide +kernel
theorem dX9_jar_110 : decode cX9_jar 110 = .ok (.getfield 116, 3) := by decide +kernel
theorem dX9_jar_113 : decode cX9_jar 113 = .ok (.imul, 1) := by decide +kernel
theorem dX9_jar_114 : decode cX9_jar 114 = .ok (.iload_n 3, 1) := by decide +kernel
theorem dX9_jar_115 : decode cX9_jar 115 = .ok (.iastore, 1) := by decide +kernel
theorem dX9_jar_116 : decode cX9_jar 116 = .ok (.aload_n 0, 1) := by decide +kernel
theorem dX9_jar_117 : decode cX9_jar 117 = .ok (.getfield 29, 3) := by decide +kernel
theorem dX9_jar_120 : decode cX9_jar 120 = .ok (.iconst 4, 1) := by decide +kernel
theorem dX9_jar_121 : decode cX9_jar 121 = .ok (.aload_n 0, 1) := by decide +kernel
theorem dX9_jar_122 : decode cX9_jar 122 = .ok (.getfield 116, 3) := by decide +kernel
theorem dX9_jar_125 : decode cX9_jar 125 = .ok (.imul, 1) := by decide +kernel
theorem dX9_jar_126 : decode cX9_jar 126 = .ok (.iconst 1, 1) := by decide +kernel
theorem dX9_jar_127 : decode cX9_jar 127 = .ok (.iadd, 1) := by decide +kernel
theorem dX9_jar_128 : decode cX9_jar 128 = .ok (.iload 4, 2) := by decide +kernel
theorem dX9_jar_130 : decode cX9_jar 130 = .ok (.iastore, 1) := by decide +kernel
theorem dX9_jar_131 : decode cX9_jar 131 = .ok (.aload_n 0, 1) := by decide +kernel
theorem dX9_jar_132 : decode cX9_jar 132 = .ok (.getfield 29, 3) := by decide +kernel
theorem dX9_jar_135 : decode cX9_jar 135 = .ok (.iconst 4, 1) := by decide +kernel
theorem dX9_jar_136 : decode cX9_jar 136 = .ok (.aload_n 0, 1) := by decide +kernel
theorem dX9_jar_137 : decode cX9_jar 137 = .ok (.getfield 116, 3) := by decide +kernel
theorem dX9_jar_140 : decode cX9_jar 140 = .ok (.imul, 1) := by decide +kernel
theorem dX9_jar_141 : decode cX9_jar 141 = .ok (.iconst 2, 1) := by decide +kernel
theorem dX9_jar_142 : decode cX9_jar 142 = .ok (.iadd, 1) := by decide +kernel
theorem dX9_jar_143 : decode cX9_jar 143 = .ok (.iload 5, 2) := by decide +kernel
theorem dX9_jar_145 : decode cX9_jar 145 = .ok (.iastore, 1) := by decide +kernel
theorem dX9_jar_146 : decode cX9_jar 146 = .ok (.aload_n 0, 1) := by decide +kernel
theorem dX9_jar_147 : decode cX9_jar 147 = .ok (.getfield 29, 3) := by decide +kernel
theorem dX9_jar_150 : decode cX9_jar 150 = .ok (.iconst 4, 1) := by decide +kernel
theorem dX9_jar_151 : decode cX9_jar 151 = .ok (.aload_n 0, 1) := by decide +kernel
theorem dX9_jar_152 : decode cX9_jar 152 = .ok (.getfield 116, 3) := by decide +kernel
theorem dX9_jar_155 : decode cX9_jar 155 = .ok (.imul, 1) := by decide +kernel
theorem dX9_jar_156 : decode cX9_jar 156 = .ok (.iconst 3, 1) := by decide +kernel
theorem dX9_jar_157 : decode cX9_jar 157 = .ok (.iadd, 1) := by decide +kernel
theorem dX9_jar_158 : decode cX9_jar 158 = .ok (.iload 6, 2) := by decide +kernel
theorem dX9_jar_160 : decode cX9_jar 160 = .ok (.iastore, 1) := by decide +kernel
theorem dX9_jar_161 : decode cX9_jar 161 = .ok (.aload_n 0, 1) := by decide +kernel
theorem dX9_jar_162 : decode cX9_jar 162 = .ok (.dup, 1) := by decide +kernel
theorem dX9_jar_163 : decode cX9_jar 163 = .ok (.getfield 116, 3) := by decide +kernel
theorem dX9_jar_166 : decode cX9_jar 166 = .ok (.iconst 1, 1) := by decide +kernel
theorem dX9_jar_167 : decode cX9_jar 167 = .ok (.iadd, 1) := by decide +kernel
theorem dX9_jar_168 : decode cX9_jar 168 = .ok (.putfield 116, 3) := by decide +kernel
theorem dX9_jar_171 : decode cX9_jar 171 = .ok (.aload_n 0, 1) := by decide +kernel
theorem dX9_jar_172 : decode cX9_jar 172 = .ok (.getfield 116, 3) := by decide +kernel
theorem dX9_jar_175 : decode cX9_jar 175 = .ok (.iconst 1, 1) := by decide +kernel
theorem dX9_jar_176 : decode cX9_jar 176 = .ok (.isub, 1) := by decide +kernel
theorem dX9_jar_177 : decode cX9_jar 177 = .ok (.ireturn, 1) := by decide +kernel
theorem dX9_isFountain_0 : decode cX9_isFountain 0 = .ok (.iload_n 1, 1) := by decide +kernel
theorem dX9_isFountain_1 : decode cX9_isFountain 1 = .ok (.iconst 0, 1) := by decide +kernel
theorem dX9_isFountain_2 : decode cX9_isFountain 2 = .ok (.aload_n 0, 1) := by decide +kernel
theorem dX9_isFountain_3 : decode cX9_isFountain 3 = .ok (.getfield 119, 3) := by decide +kernel
theorem dX9_isFountain_6 : decode cX9_isFountain 6 = .ok (.iconst 1, 1) := by decide +kernel
theorem dX9_isFountain_7 : decode cX9_isFountain 7 = .ok (.isub, 1) := by decide +kernel
theorem dX9_isFountain_8 : decode cX9_isFountain 8 = .ok (.invokestatic 112, 3) := by decide +kernel
theorem dX9_isFountain_11 : decode cX9_isFountain 11 = .ok (.ireturn, 1) := by decide +kernel
theorem dX9_isJar_0 : decode cX9_isJar 0 = .ok (.iload_n 1, 1) := by decide +kernel
theorem dX9_isJar_1 : decode cX9_isJar 1 = .ok (.iconst 0, 1) := by decide +kernel
theorem dX9_isJar_2 : decode cX9_isJar 2 = .ok (.aload_n 0, 1) := by decide +kernel
theorem dX9_isJar_3 : decode cX9_isJar 3 = .ok (.getfield 116, 3) := by decide +kernel
theorem dX9_isJar_6 : decode cX9_isJar 6 = .ok (.iconst 1, 1) := by decide +kernel
theorem dX9_isJar_7 : decode cX9_isJar 7 = .ok (.isub, 1) := by decide +kernel
theorem dX9_isJar_8 : decode cX9_isJar 8 = .ok (.invokestatic 112, 3) := by decide +kernel
theorem dX9_isJar_11 : decode cX9_isJar 11 = .ok (.ireturn, 1) := by decide +kernel
theorem dX9_isMan_0 : decode cX9_isMan 0 = .ok (.iload_n 1, 1) := by decide +kernel
theorem dX9_isMan_1 : decode cX9_isMan 1 = .ok (.iconst 0, 1) := by decide +kernel
theorem dX9_isMan_2 : decode cX9_isMan 2 = .ok (.aload_n 0, 1) := by decide +kernel
theorem dX9_isMan_3 : decode cX9_isMan 3 = .ok (.getfield 126, 3) := by decide +kernel
theorem dX9_isMan_6 : decode cX9_isMan 6 = .ok (.iconst 1, 1) := by decide +kernel
theorem dX9_isMan_7 : decode cX9_isMan 7 = .ok (.isub, 1) := by decide +kernel
theorem dX9_isMan_8 : decode cX9_isMan 8 = .ok (.invokestatic 112, 3) := by decide +kernel
theorem dX9_isMan_11 : decode cX9_isMan 11 = .ok (.ireturn, 1) := by decide +kernel
theorem dX9_drinks_0 : decode cX9_drinks 0 = .ok (.aload_n 0, 1) := by decide +kernel
theorem dX9_drinks_1 : decode cX9_drinks 1 = .ok (.iload_n 1, 1) := by decide +kernel
theorem dX9_drinks_2 : decode cX9_drinks 2 = .ok (.invokevirtual 129, 3) := by decide +kernel
theorem dX9_drinks_5 : decode cX9_drinks 5 = .ok (.ifCond .eq 13, 3) := by decide +kernel
theorem dX9_drinks_8 : decode cX9_drinks 8 = .ok (.iload_n 2, 1) := by decide +kernel
theorem dX9_drinks_9 : decode cX9_drinks 9 = .ok (.iconst 0, 1) := by decide +kernel
theorem dX9_drinks_10 : decode cX9_drinks 10 = .ok (.bipush 9, 2) := by decide +kernel
theorem dX9_drinks_12 : decode cX9_drinks 12 = .ok (.invokestatic 112, 3) := by decide +kernel
theorem dX9_drinks_15 : decode cX9_drinks 15 = .ok (.ifCond .ne 5, 3) := by decide +kernel
theorem dX9_drinks_18 : decode cX9_drinks 18 = .ok (.iconst (-1), 1) := by decide +kernel
theorem dX9_drinks_19 : decode cX9_drinks 19 = .ok (.ireturn, 1) := by decide +kernel
theorem dX9_drinks_20 : decode cX9_drinks 20 = .ok (.aload_n 0, 1) := by decide +kernel
theorem dX9_drinks_21 : decode cX9_drinks 21 = .ok (.getfield 35, 3) := by decide +kernel
theorem dX9_drinks_24 : decode cX9_drinks 24 = .ok (.iload_n 1, 1) := by decide +kernel
theorem dX9_drinks_25 : decode cX9_drinks 25 = .ok (.iaload, 1) := by decide +kernel
theorem dX9_drinks_26 : decode cX9_drinks 26 = .ok (.istore_n 3, 1) := by decide +kernel
theorem dX9_drinks_27 : decode cX9_drinks 27 = .ok (.aload_n 0, 1) := by decide +kernel
theorem dX9_drinks_28 : decode cX9_drinks 28 = .ok (.getfield 35, 3) := by decide +kernel
theorem dX9_drinks_31 : decode cX9_drinks 31 = .ok (.iload_n 1, 1) := by decide +kernel
theorem dX9_drinks_32 : decode cX9_drinks 32 = .ok (.iload_n 2, 1) := by decide +kernel
theorem dX9_drinks_33 : decode cX9_drinks 33 = .ok (.iastore, 1) := by decide +kernel
theorem dX9_drinks_34 : decode cX9_drinks 34 = .ok (.iload_n 3, 1) := by decide +kernel
theorem dX9_drinks_35 : decode cX9_drinks 35 = .ok (.ireturn, 1) := by decide +kernel
theorem dX9_canGo_0 : decode cX9_canGo 0 = .ok (.iload_n 1, 1) := by decide +kernel
theorem dX9_canGo_1 : decode cX9_canGo 1 = .ok (.ifCond .gt 13, 3) := by decide +kernel
theorem dX9_canGo_4 : decode cX9_canGo 4 = .ok (.aload_n 0, 1) := by decide +kernel
theorem dX9_canGo_5 : decode cX9_canGo 5 = .ok (.getfield 23, 3) := by decide +kernel
theorem dX9_canGo_8 : decode cX9_canGo 8 = .ok (.iload_n 2, 1) := by decide +kernel
theorem dX9_canGo_9 : decode cX9_canGo 9 = .ok (.iaload, 1) := by decide +kernel
theorem dX9_canGo_10 : decode cX9_canGo 10 = .ok (.iconst 4, 1) := by decide +kernel
theorem dX9_canGo_11 : decode cX9_canGo 11 = .ok (.if_icmp .gt 7, 3) := by decide +kernel
theorem dX9_canGo_14 : decode cX9_canGo 14 = .ok (.iconst 1, 1) := by decide +kernel
theorem dX9_canGo_15 : decode cX9_canGo 15 = .ok (.goto 4, 3) := by decide +kernel
theorem dX9_canGo_18 : decode cX9_canGo 18 = .ok (.iconst 0, 1) := by decide +kernel
theorem dX9_canGo_19 : decode cX9_canGo 19 = .ok (.ireturn, 1) := by decide +kernel
theorem dX9_joinRow_0 : decode cX9_joinRow 0 = .ok (.aload_n 0, 1) := by decide +kernel
theorem dX9_joinRow_1 : decode cX9_joinRow 1 = .ok (.getfield 59, 3) := by decide +kernel
theorem dX9_joinRow_4 : decode cX9_joinRow 4 = .ok (.iload_n 1, 1) := by decide +kernel
theorem dX9_joinRow_5 : decode cX9_joinRow 5 = .ok (.iconst 0, 1) := by decide +kernel
theorem dX9_joinRow_6 : decode cX9_joinRow 6 = .ok (.iastore, 1) := by decide +kernel
theorem dX9_joinRow_7 : decode cX9_joinRow 7 = .ok (.aload_n 0, 1) := by decide +kernel
theorem dX9_joinRow_8 : decode cX9_joinRow 8 = .ok (.getfield 62, 3) := by decide +kernel
theorem dX9_joinRow_11 : decode cX9_joinRow 11 = .ok (.iload_n 1, 1) := by decide +kernel
theorem dX9_joinRow_12 : decode cX9_joinRow 12 = .ok (.iconst 0, 1) := by decide +kernel
theorem dX9_joinRow_13 : decode cX9_joinRow 13 = .ok (.iastore, 1) := by decide +kernel
theorem dX9_joinRow_14 : decode cX9_joinRow 14 = .ok (.aload_n 0, 1) := by decide +kernel
theorem dX9_joinRow_15 : decode cX9_joinRow 15 = .ok (.getfield 71, 3) := by decide +kernel
theorem dX9_joinRow_18 : decode cX9_joinRow 18 = .ok (.iload_n 1, 1) := by decide +kernel
theorem dX9_joinRow_19 : decode cX9_joinRow 19 = .ok (.aload_n 0, 1) := by decide +kernel
theorem dX9_joinRow_20 : decode cX9_joinRow 20 = .ok (.getfield 133, 3) := by decide +kernel
theorem dX9_joinRow_23 : decode cX9_joinRow 23 = .ok (.iastore, 1) := by decide +kernel
theorem dX9_joinRow_24 : decode cX9_joinRow 24 = .ok (.aload_n 0, 1) := by decide +kernel
theorem dX9_joinRow_25 : decode cX9_joinRow 25 = .ok (.dup, 1) := by decide +kernel
theorem dX9_joinRow_26 : decode cX9_joinRow 26 = .ok (.getfield 133, 3) := by decide +kernel
theorem dX9_joinRow_29 : decode cX9_joinRow 29 = .ok (.iconst 1, 1) := by decide +kernel
theorem dX9_joinRow_30 : decode cX9_joinRow 30 = .ok (.iadd, 1) := by decide +kernel
theorem dX9_joinRow_31 : decode cX9_joinRow 31 = .ok (.putfield 133, 3) := by decide +kernel
theorem dX9_joinRow_34 : decode cX9_joinRow 34 = .ok (.return_, 1) := by decide +kernel
theorem dX9_man_0 : decode cX9_man 0 = .ok (.iload_n 1, 1) := by decide +kernel
theorem dX9_man_1 : decode cX9_man 1 = .ok (.iconst 0, 1) := by decide +kernel
theorem dX9_man_2 : decode cX9_man 2 = .ok (.iconst 2, 1) := by decide +kernel
theorem dX9_man_3 : decode cX9_man 3 = .ok (.invokestatic 112, 3) := by decide +kernel
theorem dX9_man_6 : decode cX9_man 6 = .ok (.ifCond .eq 30, 3) := by decide +kernel
theorem dX9_man_9 : decode cX9_man 9 = .ok (.iload_n 2, 1) := by decide +kernel
theorem dX9_man_10 : decode cX9_man 10 = .ok (.iconst 1, 1) := by decide +kernel
theorem dX9_man_11 : decode cX9_man 11 = .ok (.bipush 40, 2) := by decide +kernel
theorem dX9_man_13 : decode cX9_man 13 = .ok (.invokestatic 112, 3) := by decide +kernel
theorem dX9_man_16 : decode cX9_man 16 = .ok (.ifCond .eq 20, 3) := by decide +kernel
theorem dX9_man_19 : decode cX9_man 19 = .ok (.aload_n 0, 1) := by decide +kernel
theorem dX9_man_20 : decode cX9_man 20 = .ok (.iload_n 3, 1) := by decide +kernel
theorem dX9_man_21 : decode cX9_man 21 = .ok (.invokevirtual 136, 3) := by decide +kernel
theorem dX9_man_24 : decode cX9_man 24 = .ok (.ifCond .eq 12, 3) := by decide +kernel
theorem dX9_man_27 : decode cX9_man 27 = .ok (.aload_n 0, 1) := by decide +kernel
theorem dX9_man_28 : decode cX9_man 28 = .ok (.iload 4, 2) := by decide +kernel
theorem dX9_man_30 : decode cX9_man 30 = .ok (.invokevirtual 129, 3) := by decide +kernel
theorem dX9_man_33 : decode cX9_man 33 = .ok (.ifCond .ne 5, 3) := by decide +kernel
theorem dX9_man_36 : decode cX9_man 36 = .ok (.iconst (-1), 1) := by decide +kernel
theorem dX9_man_37 : decode cX9_man 37 = .ok (.ireturn, 1) := by decide +kernel
theorem dX9_man_38 : decode cX9_man 38 = .ok (.aload_n 0, 1) := by decide +kernel
theorem dX9_man_39 : decode cX9_man 39 = .ok (.iload_n 1, 1) := by decide +kernel
theorem dX9_man_40 : decode cX9_man 40 = .ok (.iload 4, 2) := by decide +kernel
theorem dX9_man_42 : decode cX9_man 42 = .ok (.invokevirtual 139, 3) := by decide +kernel
theorem dX9_man_45 : decode cX9_man 45 = .ok (.ifCond .ne 6, 3) := by decide +kernel
theorem dX9_man_48 : decode cX9_man 48 = .ok (.bipush (-2), 2) := by decide +kernel
theorem dX9_man_50 : decode cX9_man 50 = .ok (.ireturn, 1) := by decide +kernel
theorem dX9_man_51 : decode cX9_man 51 = .ok (.aload_n 0, 1) := by decide +kernel
theorem dX9_man_52 : decode cX9_man 52 = .ok (.getfield 126, 3) := by decide +kernel
theorem dX9_man_55 : decode cX9_man 55 = .ok (.bipush 10, 2) := by decide +kernel
theorem dX9_man_57 : decode cX9_man 57 = .ok (.if_icmp .ne 6, 3) := by decide +kernel
theorem dX9_man_60 : decode cX9_man 60 = .ok (.bipush (-3), 2) := by decide +kernel
theorem dX9_man_62 : decode cX9_man 62 = .ok (.ireturn, 1) := by decide +kernel
theorem dX9_man_63 : decode cX9_man 63 = .ok (.aload_n 0, 1) := by decide +kernel
theorem dX9_man_64 : decode cX9_man 64 = .ok (.getfield 41, 3) := by decide +kernel
theorem dX9_man_67 : decode cX9_man 67 = .ok (.aload_n 0, 1) := by decide +kernel
theorem dX9_man_68 : decode cX9_man 68 = .ok (.getfield 126, 3) := by decide +kernel
theorem dX9_man_71 : decode cX9_man 71 = .ok (.iload_n 1, 1) := by decide +kernel
theorem dX9_man_72 : decode cX9_man 72 = .ok (.iastore, 1) := by decide +kernel
theorem dX9_man_73 : decode cX9_man 73 = .ok (.aload_n 0, 1) := by decide +kernel
theorem dX9_man_74 : decode cX9_man 74 = .ok (.getfield 44, 3) := by decide +kernel
theorem dX9_man_77 : decode cX9_man 77 = .ok (.aload_n 0, 1) := by decide +kernel
theorem dX9_man_78 : decode cX9_man 78 = .ok (.getfield 126, 3) := by decide +kernel
theorem dX9_man_81 : decode cX9_man 81 = .ok (.iload_n 2, 1) := by decide +kernel
theorem dX9_man_82 : decode cX9_man 82 = .ok (.iastore, 1) := by decide +kernel
theorem dX9_man_83 : decode cX9_man 83 = .ok (.aload_n 0, 1) := by decide +kernel
theorem dX9_man_84 : decode cX9_man 84 = .ok (.getfield 47, 3) := by decide +kernel
theorem dX9_man_87 : decode cX9_man 87 = .ok (.aload_n 0, 1) := by decide +kernel
theorem dX9_man_88 : decode cX9_man 88 = .ok (.getfield 126, 3) := by decide +kernel
theorem dX9_man_91 : decode cX9_man 91 = .ok (.iload_n 3, 1) := by decide +kernel
theorem dX9_man_92 : decode cX9_man 92 = .ok (.iastore, 1) := by decide +kernel
theorem dX9_man_93 : decode cX9_man 93 = .ok (.aload_n 0, 1) := by decide +kernel
theorem dX9_man_94 : decode cX9_man 94 = .ok (.getfield 50, 3) := by decide +kernel
theorem dX9_man_97 : decode cX9_man 97 = .ok (.aload_n 0, 1) := by decide +kernel
theorem dX9_man_98 : decode cX9_man 98 = .ok (.getfield 126, 3) := by decide +kernel
theorem dX9_man_101 : decode cX9_man 101 = .ok (.iload 4, 2) := by decide +kernel
theorem dX9_man_103 : decode cX9_man 103 = .ok (.iastore, 1) := by decide +kernel
theorem dX9_man_104 : decode cX9_man 104 = .ok (.aload_n 0, 1) := by decide +kernel
theorem dX9_man_105 : decode cX9_man 105 = .ok (.getfield 56, 3) := by decide +kernel
theorem dX9_man_108 : decode cX9_man 108 = .ok (.aload_n 0, 1) := by decide +kernel
theorem dX9_man_109 : decode cX9_man 109 = .ok (.getfield 126, 3) := by decide +kernel
theorem dX9_man_112 : decode cX9_man 112 = .ok (.iconst 2, 1) := by decide +kernel
theorem dX9_man_113 : decode cX9_man 113 = .ok (.iastore, 1) := by decide +kernel
theorem dX9_man_114 : decode cX9_man 114 = .ok (.aload_n 0, 1) := by decide +kernel
theorem dX9_man_115 : decode cX9_man 115 = .ok (.aload_n 0, 1) := by decide +kernel
theorem dX9_man_116 : decode cX9_man 116 = .ok (.getfield 126, 3) := by decide +kernel
theorem dX9_man_119 : decode cX9_man 119 = .ok (.invokevirtual 142, 3) := by decide +kernel
theorem dX9_man_122 : decode cX9_man 122 = .ok (.aload_n 0, 1) := by decide +kernel
theorem dX9_man_123 : decode cX9_man 123 = .ok (.dup, 1) := by decide +kernel
theorem dX9_man_124 : decode cX9_man 124 = .ok (.getfield 126, 3) := by decide +kernel
theorem dX9_man_127 : decode cX9_man 127 = .ok (.iconst 1, 1) := by decide +kernel
theorem dX9_man_128 : decode cX9_man 128 = .ok (.iadd, 1) := by decide +kernel
theorem dX9_man_129 : decode cX9_man 129 = .ok (.putfield 126, 3) := by decide +kernel
theorem dX9_man_132 : decode cX9_man 132 = .ok (.aload_n 0, 1) := by decide +kernel
theorem dX9_man_133 : decode cX9_man 133 = .ok (.getfield 126, 3) := by decide +kernel
theorem dX9_man_136 : decode cX9_man 136 = .ok (.iconst 1, 1) := by decide +kernel
theorem dX9_man_137 : decode cX9_man 137 = .ok (.isub, 1) := by decide +kernel
theorem dX9_man_138 : decode cX9_man 138 = .ok (.ireturn, 1) := by decide +kernel
theorem dX9_right_0 : decode cX9_right 0 = .ok (.aload_n 0, 1) := by decide +kernel
theorem dX9_right_1 : decode cX9_right 1 = .ok (.iload_n 1, 1) := by decide +kernel
theorem dX9_right_2 : decode cX9_right 2 = .ok (.invokevirtual 146, 3) := by decide +kernel
theorem dX9_right_5 : decode cX9_right 5 = .ok (.ifCond .eq 12, 3) := by decide +kernel
theorem dX9_right_8 : decode cX9_right 8 = .ok (.iload_n 2, 1) := by decide +kernel
theorem dX9_right_9 : decode cX9_right 9 = .ok (.iconst 0, 1) := by decide +kernel
theorem dX9_right_10 : decode cX9_right 10 = .ok (.iconst 3, 1) := by decide +kernel
theorem dX9_right_11 : decode cX9_right 11 = .ok (.invokestatic 112, 3) := by decide +kernel
theorem dX9_right_14 : decode cX9_right 14 = .ok (.ifCond .ne 5, 3) := by decide +kernel
theorem dX9_right_17 : decode cX9_right 17 = .ok (.iconst (-1), 1) := by decide +kernel
theorem dX9_right_18 : decode cX9_right 18 = .ok (.ireturn, 1) := by decide +kernel
theorem dX9_right_19 : decode cX9_right 19 = .ok (.aload_n 0, 1) := by decide +kernel
theorem dX9_right_20 : decode cX9_right 20 = .ok (.getfield 53, 3) := by decide +kernel
theorem dX9_right_23 : decode cX9_right 23 = .ok (.iload_n 1, 1) := by decide +kernel
theorem dX9_right_24 : decode cX9_right 24 = .ok (.iaload, 1) := by decide +kernel
theorem dX9_right_25 : decode cX9_right 25 = .ok (.istore_n 3, 1) := by decide +kernel
theorem dX9_right_26 : decode cX9_right 26 = .ok (.aload_n 0, 1) := by decide +kernel
theorem dX9_right_27 : decode cX9_right 27 = .ok (.getfield 53, 3) := by decide +kernel
theorem dX9_right_30 : decode cX9_right 30 = .ok (.iload_n 1, 1) := by decide +kernel
theorem dX9_right_31 : decode cX9_right 31 = .ok (.iload_n 2, 1) := by decide +kernel
theorem dX9_right_32 : decode cX9_right 32 = .ok (.iastore, 1) := by decide +kernel
theorem dX9_right_33 : decode cX9_right 33 = .ok (.iload_n 3, 1) := by decide +kernel
theorem dX9_right_34 : decode cX9_right 34 = .ok (.ireturn, 1) := by decide +kernel
theorem dX9_pace_0 : decode cX9_pace 0 = .ok (.aload_n 0, 1) := by decide +kernel
theorem dX9_pace_1 : decode cX9_pace 1 = .ok (.iload_n 1, 1) := by decide +kernel
theorem dX9_pace_2 : decode cX9_pace 2 = .ok (.invokevirtual 146, 3) := by decide +kernel
theorem dX9_pace_5 : decode cX9_pace 5 = .ok (.ifCond .eq 12, 3) := by decide +kernel
theorem dX9_pace_8 : decode cX9_pace 8 = .ok (.iload_n 2, 1) := by decide +kernel
theorem dX9_pace_9 : decode cX9_pace 9 = .ok (.iconst 1, 1) := by decide +kernel
theorem dX9_pace_10 : decode cX9_pace 10 = .ok (.iconst 5, 1) := by decide +kernel
theorem dX9_pace_11 : decode cX9_pace 11 = .ok (.invokestatic 112, 3) := by decide +kernel
theorem dX9_pace_14 : decode cX9_pace 14 = .ok (.ifCond .ne 5, 3) := by decide +kernel
theorem dX9_pace_17 : decode cX9_pace 17 = .ok (.iconst (-1), 1) := by decide +kernel
theorem dX9_pace_18 : decode cX9_pace 18 = .ok (.ireturn, 1) := by decide +kernel
theorem dX9_pace_19 : decode cX9_pace 19 = .ok (.aload_n 0, 1) := by decide +kernel
theorem dX9_pace_20 : decode cX9_pace 20 = .ok (.getfield 41, 3) := by decide +kernel
theorem dX9_pace_23 : decode cX9_pace 23 = .ok (.iload_n 1, 1) := by decide +kernel
theorem dX9_pace_24 : decode cX9_pace 24 = .ok (.iaload, 1) := by decide +kernel
theorem dX9_pace_25 : decode cX9_pace 25 = .ok (.iconst 2, 1) := by decide +kernel
theorem dX9_pace_26 : decode cX9_pace 26 = .ok (.if_icmp .eq 6, 3) := by decide +kernel
theorem dX9_pace_29 : decode cX9_pace 29 = .ok (.bipush (-13), 2) := by decide +kernel
theorem dX9_pace_31 : decode cX9_pace 31 = .ok (.ireturn, 1) := by decide +kernel
theorem dX9_pace_32 : decode cX9_pace 32 = .ok (.aload_n 0, 1) := by decide +kernel
theorem dX9_pace_33 : decode cX9_pace 33 = .ok (.getfield 56, 3) := by decide +kernel
theorem dX9_pace_36 : decode cX9_pace 36 = .ok (.iload_n 1, 1) := by decide +kernel
theorem dX9_pace_37 : decode cX9_pace 37 = .ok (.iaload, 1) := by decide +kernel
theorem dX9_pace_38 : decode cX9_pace 38 = .ok (.istore_n 3, 1) := by decide +kernel
theorem dX9_pace_39 : decode cX9_pace 39 = .ok (.aload_n 0, 1) := by decide +kernel
theorem dX9_pace_40 : decode cX9_pace 40 = .ok (.getfield 56, 3) := by decide +kernel
theorem dX9_pace_43 : decode cX9_pace 43 = .ok (.iload_n 1, 1) := by decide +kernel
theorem dX9_pace_44 : decode cX9_pace 44 = .ok (.iload_n 2, 1) := by decide +kernel
theorem dX9_pace_45 : decode cX9_pace 45 = .ok (.iastore, 1) := by decide +kernel
theorem dX9_pace_46 : decode cX9_pace 46 = .ok (.iload_n 3, 1) := by decide +kernel
theorem dX9_pace_47 : decode cX9_pace 47 = .ok (.ireturn, 1) := by decide +kernel
theorem dX9_moves_0 : decode cX9_moves 0 = .ok (.aload_n 0, 1) := by decide +kernel
theorem dX9_moves_1 : decode cX9_moves 1 = .ok (.iload_n 1, 1) := by decide +kernel
theorem dX9_moves_2 : decode cX9_moves 2 = .ok (.invokevirtual 146, 3) := by decide +kernel
theorem dX9_moves_5 : decode cX9_moves 5 = .ok (.ifCond .eq 19, 3) := by decide +kernel
theorem dX9_moves_8 : decode cX9_moves 8 = .ok (.aload_n 0, 1) := by decide +kernel
theorem dX9_moves_9 : decode cX9_moves 9 = .ok (.iload_n 2, 1) := by decide +kernel
theorem dX9_moves_10 : decode cX9_moves 10 = .ok (.invokevirtual 136, 3) := by decide +kernel
theorem dX9_moves_13 : decode cX9_moves 13 = .ok (.ifCond .eq 11, 3) := by decide +kernel
theorem dX9_moves_16 : decode cX9_moves 16 = .ok (.aload_n 0, 1) := by decide +kernel
theorem dX9_moves_17 : decode cX9_moves 17 = .ok (.iload_n 3, 1) := by decide +kernel
theorem dX9_moves_18 : decode cX9_moves 18 = .ok (.invokevirtual 129, 3) := by decide +kernel
theorem dX9_moves_21 : decode cX9_moves 21 = .ok (.ifCond .ne 5, 3) := by decide +kernel
theorem dX9_moves_24 : decode cX9_moves 24 = .ok (.iconst (-1), 1) := by decide +kernel
theorem dX9_moves_25 : decode cX9_moves 25 = .ok (.ireturn, 1) := by decide +kernel
theorem dX9_moves_26 : decode cX9_moves 26 = .ok (.aload_n 0, 1) := by decide +kernel
theorem dX9_moves_27 : decode cX9_moves 27 = .ok (.getfield 59, 3) := by decide +kernel
theorem dX9_moves_30 : decode cX9_moves 30 = .ok (.iload_n 1, 1) := by decide +kernel
theorem dX9_moves_31 : decode cX9_moves 31 = .ok (.iaload, 1) := by decide +kernel
theorem dX9_moves_32 : decode cX9_moves 32 = .ok (.ifCond .ne 17, 3) := by decide +kernel
theorem dX9_moves_35 : decode cX9_moves 35 = .ok (.aload_n 0, 1) := by decide +kernel
theorem dX9_moves_36 : decode cX9_moves 36 = .ok (.aload_n 0, 1) := by decide +kernel
theorem dX9_moves_37 : decode cX9_moves 37 = .ok (.getfield 41, 3) := by decide +kernel
theorem dX9_moves_40 : decode cX9_moves 40 = .ok (.iload_n 1, 1) := by decide +kernel
theorem dX9_moves_41 : decode cX9_moves 41 = .ok (.iaload, 1) := by decide +kernel
theorem dX9_moves_42 : decode cX9_moves 42 = .ok (.iload_n 3, 1) := by decide +kernel
theorem dX9_moves_43 : decode cX9_moves 43 = .ok (.invokevirtual 139, 3) := by decide +kernel
theorem dX9_moves_46 : decode cX9_moves 46 = .ok (.ifCond .ne 6, 3) := by decide +kernel
theorem dX9_moves_49 : decode cX9_moves 49 = .ok (.bipush (-2), 2) := by decide +kernel
theorem dX9_moves_51 : decode cX9_moves 51 = .ok (.ireturn, 1) := by decide +kernel
theorem dX9_moves_52 : decode cX9_moves 52 = .ok (.aload_n 0, 1) := by decide +kernel
theorem dX9_moves_53 : decode cX9_moves 53 = .ok (.getfield 47, 3) := by decide +kernel
theorem dX9_moves_56 : decode cX9_moves 56 = .ok (.iload_n 1, 1) := by decide +kernel
theorem dX9_moves_57 : decode cX9_moves 57 = .ok (.iload_n 2, 1) := by decide +kernel
theorem dX9_moves_58 : decode cX9_moves 58 = .ok (.iastore, 1) := by decide +kernel
theorem dX9_moves_59 : decode cX9_moves 59 = .ok (.aload_n 0, 1) := by decide +kernel
theorem dX9_moves_60 : decode cX9_moves 60 = .ok (.getfield 50, 3) := by decide +kernel
theorem dX9_moves_63 : decode cX9_moves 63 = .ok (.iload_n 1, 1) := by decide +kernel
theorem dX9_moves_64 : decode cX9_moves 64 = .ok (.iload_n 3, 1) := by decide +kernel
theorem dX9_moves_65 : decode cX9_moves 65 = .ok (.iastore, 1) := by decide +kernel
theorem dX9_moves_66 : decode cX9_moves 66 = .ok (.aload_n 0, 1) := by decide +kernel
theorem dX9_moves_67 : decode cX9_moves 67 = .ok (.iload_n 1, 1) := by decide +kernel
theorem dX9_moves_68 : decode cX9_moves 68 = .ok (.invokevirtual 142, 3) := by decide +kernel
theorem dX9_moves_71 : decode cX9_moves 71 = .ok (.iconst 1, 1) := by decide +kernel
theorem dX9_moves_72 : decode cX9_moves 72 = .ok (.ireturn, 1) := by decide +kernel
theorem dX9_open_0 : decode cX9_open 0 = .ok (.aload_n 0, 1) := by decide +kernel
theorem dX9_open_1 : decode cX9_open 1 = .ok (.iload_n 1, 1) := by decide +kernel
theorem dX9_open_2 : decode cX9_open 2 = .ok (.invokevirtual 136, 3) := by decide +kernel
theorem dX9_open_5 : decode cX9_open 5 = .ok (.ifCond .ne 5, 3) := by decide +kernel
theorem dX9_open_8 : decode cX9_open 8 = .ok (.iconst (-1), 1) := by decide +kernel
theorem dX9_open_9 : decode cX9_open 9 = .ok (.ireturn, 1) := by decide +kernel
theorem dX9_open_10 : decode cX9_open 10 = .ok (.aload_n 0, 1) := by decide +kernel
theorem dX9_open_11 : decode cX9_open 11 = .ok (.getfield 16, 3) := by decide +kernel
theorem dX9_open_14 : decode cX9_open 14 = .ok (.iload_n 1, 1) := by decide +kernel
theorem dX9_open_15 : decode cX9_open 15 = .ok (.baload, 1) := by decide +kernel
theorem dX9_open_16 : decode cX9_open 16 = .ok (.ifCond .eq 7, 3) := by decide +kernel
theorem dX9_open_19 : decode cX9_open 19 = .ok (.iconst 1, 1) := by decide +kernel
theorem dX9_open_20 : decode cX9_open 20 = .ok (.goto 4, 3) := by decide +kernel
theorem dX9_open_23 : decode cX9_open 23 = .ok (.iconst 0, 1) := by decide +kernel
theorem dX9_open_24 : decode cX9_open 24 = .ok (.istore_n 3, 1) := by decide +kernel
theorem dX9_open_25 : decode cX9_open 25 = .ok (.aload_n 0, 1) := by decide +kernel
theorem dX9_open_26 : decode cX9_open 26 = .ok (.getfield 16, 3) := by decide +kernel
theorem dX9_open_29 : decode cX9_open 29 = .ok (.iload_n 1, 1) := by decide +kernel
theorem dX9_open_30 : decode cX9_open 30 = .ok (.iload_n 2, 1) := by decide +kernel
theorem dX9_open_31 : decode cX9_open 31 = .ok (.bastore, 1) := by decide +kernel
theorem dX9_open_32 : decode cX9_open 32 = .ok (.iload_n 3, 1) := by decide +kernel
theorem dX9_open_33 : decode cX9_open 33 = .ok (.ireturn, 1) := by decide +kernel
theorem dX9_drought_0 : decode cX9_drought 0 = .ok (.iload_n 1, 1) := by decide +kernel
theorem dX9_drought_1 : decode cX9_drought 1 = .ok (.iconst 0, 1) := by decide +kernel
theorem dX9_drought_2 : decode cX9_drought 2 = .ok (.bipush 100, 2) := by decide +kernel
theorem dX9_drought_4 : decode cX9_drought 4 = .ok (.invokestatic 112, 3) := by decide +kernel
theorem dX9_drought_7 : decode cX9_drought 7 = .ok (.ifCond .ne 5, 3) := by decide +kernel
theorem dX9_drought_10 : decode cX9_drought 10 = .ok (.iconst (-1), 1) := by decide +kernel
theorem dX9_drought_11 : decode cX9_drought 11 = .ok (.ireturn, 1) := by decide +kernel
theorem dX9_drought_12 : decode cX9_drought 12 = .ok (.aload_n 0, 1) := by decide +kernel
theorem dX9_drought_13 : decode cX9_drought 13 = .ok (.getfield 80, 3) := by decide +kernel
theorem dX9_drought_16 : decode cX9_drought 16 = .ok (.istore_n 2, 1) := by decide +kernel
theorem dX9_drought_17 : decode cX9_drought 17 = .ok (.aload_n 0, 1) := by decide +kernel
theorem dX9_drought_18 : decode cX9_drought 18 = .ok (.iload_n 1, 1) := by decide +kernel
theorem dX9_drought_19 : decode cX9_drought 19 = .ok (.putfield 80, 3) := by decide +kernel
theorem dX9_drought_22 : decode cX9_drought 22 = .ok (.iload_n 2, 1) := by decide +kernel
theorem dX9_drought_23 : decode cX9_drought 23 = .ok (.ireturn, 1) := by decide +kernel
theorem dX9_wayOf_0 : decode cX9_wayOf 0 = .ok (.aload_n 0, 1) := by decide +kernel
theorem dX9_wayOf_1 : decode cX9_wayOf 1 = .ok (.getfield 29, 3) := by decide +kernel
theorem dX9_wayOf_4 : decode cX9_wayOf 4 = .ok (.iconst 4, 1) := by decide +kernel
theorem dX9_wayOf_5 : decode cX9_wayOf 5 = .ok (.iload_n 2, 1) := by decide +kernel
theorem dX9_wayOf_6 : decode cX9_wayOf 6 = .ok (.imul, 1) := by decide +kernel
theorem dX9_wayOf_7 : decode cX9_wayOf 7 = .ok (.aload_n 0, 1) := by decide +kernel
theorem dX9_wayOf_8 : decode cX9_wayOf 8 = .ok (.getfield 47, 3) := by decide +kernel
theorem dX9_wayOf_11 : decode cX9_wayOf 11 = .ok (.iload_n 1, 1) := by decide +kernel
theorem dX9_wayOf_12 : decode cX9_wayOf 12 = .ok (.iaload, 1) := by decide +kernel
theorem dX9_wayOf_13 : decode cX9_wayOf 13 = .ok (.iadd, 1) := by decide +kernel
theorem dX9_wayOf_14 : decode cX9_wayOf 14 = .ok (.iaload, 1) := by decide +kernel
theorem dX9_wayOf_15 : decode cX9_wayOf 15 = .ok (.istore 4, 2) := by decide +kernel
theorem dX9_wayOf_17 : decode cX9_wayOf 17 = .ok (.aload_n 0, 1) := by decide +kernel
theorem dX9_wayOf_18 : decode cX9_wayOf 18 = .ok (.getfield 41, 3) := by decide +kernel
theorem dX9_wayOf_21 : decode cX9_wayOf 21 = .ok (.iload_n 1, 1) := by decide +kernel
theorem dX9_wayOf_22 : decode cX9_wayOf 22 = .ok (.iaload, 1) := by decide +kernel
theorem dX9_wayOf_23 : decode cX9_wayOf 23 = .ok (.lookupswitch 67 #[(0, 25), (1, 44)], 25) := by decide +kernel
theorem dX9_wayOf_48 : decode cX9_wayOf 48 = .ok (.iload_n 3, 1) := by decide +kernel
theorem dX9_wayOf_49 : decode cX9_wayOf 49 = .ok (.ifCond .eq 15, 3) := by decide +kernel
theorem dX9_wayOf_52 : decode cX9_wayOf 52 = .ok (.iload 4, 2) := by decide +kernel
theorem dX9_wayOf_54 : decode cX9_wayOf 54 = .ok (.aload_n 0, 1) := by decide +kernel
theorem dX9_wayOf_55 : decode cX9_wayOf 55 = .ok (.getfield 23, 3) := by decide +kernel
theorem dX9_wayOf_58 : decode cX9_wayOf 58 = .ok (.iload_n 2, 1) := by decide +kernel
theorem dX9_wayOf_59 : decode cX9_wayOf 59 = .ok (.iaload, 1) := by decide +kernel
theorem dX9_wayOf_60 : decode cX9_wayOf 60 = .ok (.iadd, 1) := by decide +kernel
theorem dX9_wayOf_61 : decode cX9_wayOf 61 = .ok (.goto 5, 3) := by decide +kernel
theorem dX9_wayOf_64 : decode cX9_wayOf 64 = .ok (.iload 4, 2) := by decide +kernel
theorem dX9_wayOf_66 : decode cX9_wayOf 66 = .ok (.ireturn, 1) := by decide +kernel
theorem dX9_wayOf_67 : decode cX9_wayOf 67 = .ok (.iload_n 3, 1) := by decide +kernel
theorem dX9_wayOf_68 : decode cX9_wayOf 68 = .ok (.ifCond .eq 19, 3) := by decide +kernel
theorem dX9_wayOf_71 : decode cX9_wayOf 71 = .ok (.iload 4, 2) := by decide +kernel
theorem dX9_wayOf_73 : decode cX9_wayOf 73 = .ok (.aload_n 0, 1) := by decide +kernel
theorem dX9_wayOf_74 : decode cX9_wayOf 74 = .ok (.getfield 23, 3) := by decide +kernel
theorem dX9_wayOf_77 : decode cX9_wayOf 77 = .ok (.iload_n 2, 1) := by decide +kernel
theorem dX9_wayOf_78 : decode cX9_wayOf 78 = .ok (.iaload, 1) := by decide +kernel
theorem dX9_wayOf_79 : decode cX9_wayOf 79 = .ok (.iconst 1, 1) := by decide +kernel
theorem dX9_wayOf_80 : decode cX9_wayOf 80 = .ok (.iadd, 1) := by decide +kernel
theorem dX9_wayOf_81 : decode cX9_wayOf 81 = .ok (.iconst 2, 1) := by decide +kernel
theorem dX9_wayOf_82 : decode cX9_wayOf 82 = .ok (.idiv, 1) := by decide +kernel
theorem dX9_wayOf_83 : decode cX9_wayOf 83 = .ok (.iadd, 1) := by decide +kernel
theorem dX9_wayOf_84 : decode cX9_wayOf 84 = .ok (.goto 5, 3) := by decide +kernel
theorem dX9_wayOf_87 : decode cX9_wayOf 87 = .ok (.iload 4, 2) := by decide +kernel
theorem dX9_wayOf_89 : decode cX9_wayOf 89 = .ok (.ireturn, 1) := by decide +kernel
theorem dX9_wayOf_90 : decode cX9_wayOf 90 = .ok (.iload 4, 2) := by decide +kernel
theorem dX9_wayOf_92 : decode cX9_wayOf 92 = .ok (.aload_n 0, 1) := by decide +kernel
theorem dX9_wayOf_93 : decode cX9_wayOf 93 = .ok (.getfield 56, 3) := by decide +kernel
theorem dX9_wayOf_96 : decode cX9_wayOf 96 = .ok (.iload_n 1, 1) := by decide +kernel
theorem dX9_wayOf_97 : decode cX9_wayOf 97 = .ok (.iaload, 1) := by decide +kernel
theorem dX9_wayOf_98 : decode cX9_wayOf 98 = .ok (.iadd, 1) := by decide +kernel
theorem dX9_wayOf_99 : decode cX9_wayOf 99 = .ok (.iconst 1, 1) := by decide +kernel
theorem dX9_wayOf_100 : decode cX9_wayOf 100 = .ok (.isub, 1) := by decide +kernel
theorem dX9_wayOf_101 : decode cX9_wayOf 101 = .ok (.aload_n 0, 1) := by decide +kernel
theorem dX9_wayOf_102 : decode cX9_wayOf 102 = .ok (.getfield 56, 3) := by decide +kernel
theorem dX9_wayOf_105 : decode cX9_wayOf 105 = .ok (.iload_n 1, 1) := by decide +kernel
theorem dX9_wayOf_106 : decode cX9_wayOf 106 = .ok (.iaload, 1) := by decide +kernel
theorem dX9_wayOf_107 : decode cX9_wayOf 107 = .ok (.idiv, 1) := by decide +kernel
theorem dX9_wayOf_108 : decode cX9_wayOf 108 = .ok (.ireturn, 1) := by decide +kernel
theorem dX9_type_0 : decode cX9_type 0 = .ok (.iload_n 3, 1) := by decide +kernel
theorem dX9_type_1 : decode cX9_type 1 = .ok (.iconst 1, 1) := by decide +kernel
theorem dX9_type_2 : decode cX9_type 2 = .ok (.bipush 8, 2) := by decide +kernel
theorem dX9_type_4 : decode cX9_type 4 = .ok (.invokestatic 112, 3) := by decide +kernel
theorem dX9_type_7 : decode cX9_type 7 = .ok (.ifCond .ne 5, 3) := by decide +kernel
theorem dX9_type_10 : decode cX9_type 10 = .ok (.iconst (-1), 1) := by decide +kernel
theorem dX9_type_11 : decode cX9_type 11 = .ok (.ireturn, 1) := by decide +kernel
theorem dX9_type_12 : decode cX9_type 12 = .ok (.iload_n 3, 1) := by decide +kernel
theorem dX9_type_13 : decode cX9_type 13 = .ok (.iconst 1, 1) := by decide +kernel
theorem dX9_type_14 : decode cX9_type 14 = .ok (.isub, 1) := by decide +kernel
theorem dX9_type_15 : decode cX9_type 15 = .ok (.istore 4, 2) := by decide +kernel
theorem dX9_type_17 : decode cX9_type 17 = .ok (.iload 4, 2) := by decide +kernel
theorem dX9_type_19 : decode cX9_type 19 = .ok (.ifCond .lt 33, 3) := by decide +kernel
theorem dX9_type_22 : decode cX9_type 22 = .ok (.lload_n 1, 1) := by decide +kernel
theorem dX9_type_23 : decode cX9_type 23 = .ok (.bipush 8, 2) := by decide +kernel
theorem dX9_type_25 : decode cX9_type 25 = .ok (.iload 4, 2) := by decide +kernel
theorem dX9_type_27 : decode cX9_type 27 = .ok (.imul, 1) := by decide +kernel
theorem dX9_type_28 : decode cX9_type 28 = .ok (.lshr, 1) := by decide +kernel
theorem dX9_type_29 : decode cX9_type 29 = .ok (.ldc2_w 149, 3) := by decide +kernel
theorem dX9_type_32 : decode cX9_type 32 = .ok (.land, 1) := by decide +kernel
theorem dX9_type_33 : decode cX9_type 33 = .ok (.l2i, 1) := by decide +kernel
theorem dX9_type_34 : decode cX9_type 34 = .ok (.bipush 32, 2) := by decide +kernel
theorem dX9_type_36 : decode cX9_type 36 = .ok (.bipush 126, 2) := by decide +kernel
theorem dX9_type_38 : decode cX9_type 38 = .ok (.invokestatic 112, 3) := by decide +kernel
theorem dX9_type_41 : decode cX9_type 41 = .ok (.ifCond .ne 5, 3) := by decide +kernel
theorem dX9_type_44 : decode cX9_type 44 = .ok (.iconst (-1), 1) := by decide +kernel
theorem dX9_type_45 : decode cX9_type 45 = .ok (.ireturn, 1) := by decide +kernel
theorem dX9_type_46 : decode cX9_type 46 = .ok (.iinc 4 (-1), 3) := by decide +kernel
theorem dX9_type_49 : decode cX9_type 49 = .ok (.goto (-32), 3) := by decide +kernel
theorem dX9_type_52 : decode cX9_type 52 = .ok (.aload_n 0, 1) := by decide +kernel
theorem dX9_type_53 : decode cX9_type 53 = .ok (.getfield 151, 3) := by decide +kernel
theorem dX9_type_56 : decode cX9_type 56 = .ok (.iload_n 3, 1) := by decide +kernel
theorem dX9_type_57 : decode cX9_type 57 = .ok (.iadd, 1) := by decide +kernel
theorem dX9_type_58 : decode cX9_type 58 = .ok (.bipush 50, 2) := by decide +kernel
theorem dX9_type_60 : decode cX9_type 60 = .ok (.if_icmp .le 6, 3) := by decide +kernel
theorem dX9_type_63 : decode cX9_type 63 = .ok (.bipush (-3), 2) := by decide +kernel
theorem dX9_type_65 : decode cX9_type 65 = .ok (.ireturn, 1) := by decide +kernel
theorem dX9_type_66 : decode cX9_type 66 = .ok (.iload_n 3, 1) := by decide +kernel
theorem dX9_type_67 : decode cX9_type 67 = .ok (.iconst 1, 1) := by decide +kernel
theorem dX9_type_68 : decode cX9_type 68 = .ok (.isub, 1) := by decide +kernel
theorem dX9_type_69 : decode cX9_type 69 = .ok (.istore 4, 2) := by decide +kernel
theorem dX9_type_71 : decode cX9_type 71 = .ok (.iload 4, 2) := by decide +kernel
theorem dX9_type_73 : decode cX9_type 73 = .ok (.ifCond .lt 40, 3) := by decide +kernel
theorem dX9_type_76 : decode cX9_type 76 = .ok (.aload_n 0, 1) := by decide +kernel
theorem dX9_type_77 : decode cX9_type 77 = .ok (.getfield 88, 3) := by decide +kernel
theorem dX9_type_80 : decode cX9_type 80 = .ok (.aload_n 0, 1) := by decide +kernel
theorem dX9_type_81 : decode cX9_type 81 = .ok (.getfield 151, 3) := by decide +kernel
theorem dX9_type_84 : decode cX9_type 84 = .ok (.lload_n 1, 1) := by decide +kernel
theorem dX9_type_85 : decode cX9_type 85 = .ok (.bipush 8, 2) := by decide +kernel
theorem dX9_type_87 : decode cX9_type 87 = .ok (.iload 4, 2) := by decide +kernel
theorem dX9_type_89 : decode cX9_type 89 = .ok (.imul, 1) := by decide +kernel
theorem dX9_type_90 : decode cX9_type 90 = .ok (.lshr, 1) := by decide +kernel
theorem dX9_type_91 : decode cX9_type 91 = .ok (.ldc2_w 149, 3) := by decide +kernel
theorem dX9_type_94 : decode cX9_type 94 = .ok (.land, 1) := by decide +kernel
theorem dX9_type_95 : decode cX9_type 95 = .ok (.l2i, 1) := by decide +kernel
theorem dX9_type_96 : decode cX9_type 96 = .ok (.iastore, 1) := by decide +kernel
theorem dX9_type_97 : decode cX9_type 97 = .ok (.aload_n 0, 1) := by decide +kernel
theorem dX9_type_98 : decode cX9_type 98 = .ok (.dup, 1) := by decide +kernel
theorem dX9_type_99 : decode cX9_type 99 = .ok (.getfield 151, 3) := by decide +kernel
theorem dX9_type_102 : decode cX9_type 102 = .ok (.iconst 1, 1) := by decide +kernel
theorem dX9_type_103 : decode cX9_type 103 = .ok (.iadd, 1) := by decide +kernel
theorem dX9_type_104 : decode cX9_type 104 = .ok (.putfield 151, 3) := by decide +kernel
theorem dX9_type_107 : decode cX9_type 107 = .ok (.iinc 4 (-1), 3) := by decide +kernel
theorem dX9_type_110 : decode cX9_type 110 = .ok (.goto (-39), 3) := by decide +kernel
theorem dX9_type_113 : decode cX9_type 113 = .ok (.aload_n 0, 1) := by decide +kernel
theorem dX9_type_114 : decode cX9_type 114 = .ok (.getfield 151, 3) := by decide +kernel
theorem dX9_type_117 : decode cX9_type 117 = .ok (.ireturn, 1) := by decide +kernel
theorem dX9_next_0 : decode cX9_next 0 = .ok (.aload_n 0, 1) := by decide +kernel
theorem dX9_next_1 : decode cX9_next 1 = .ok (.getfield 154, 3) := by decide +kernel
theorem dX9_next_4 : decode cX9_next 4 = .ok (.aload_n 0, 1) := by decide +kernel
theorem dX9_next_5 : decode cX9_next 5 = .ok (.getfield 151, 3) := by decide +kernel
theorem dX9_next_8 : decode cX9_next 8 = .ok (.if_icmp .ge 30, 3) := by decide +kernel
theorem dX9_next_11 : decode cX9_next 11 = .ok (.aload_n 0, 1) := by decide +kernel
theorem dX9_next_12 : decode cX9_next 12 = .ok (.getfield 88, 3) := by decide +kernel
theorem dX9_next_15 : decode cX9_next 15 = .ok (.aload_n 0, 1) := by decide +kernel
theorem dX9_next_16 : decode cX9_next 16 = .ok (.getfield 154, 3) := by decide +kernel
theorem dX9_next_19 : decode cX9_next 19 = .ok (.iaload, 1) := by decide +kernel
theorem dX9_next_20 : decode cX9_next 20 = .ok (.bipush 32, 2) := by decide +kernel
theorem dX9_next_22 : decode cX9_next 22 = .ok (.if_icmp .ne 16, 3) := by decide +kernel
theorem dX9_next_25 : decode cX9_next 25 = .ok (.aload_n 0, 1) := by decide +kernel
theorem dX9_next_26 : decode cX9_next 26 = .ok (.dup, 1) := by decide +kernel
theorem dX9_next_27 : decode cX9_next 27 = .ok (.getfield 154, 3) := by decide +kernel
theorem dX9_next_30 : decode cX9_next 30 = .ok (.iconst 1, 1) := by decide +kernel
theorem dX9_next_31 : decode cX9_next 31 = .ok (.iadd, 1) := by decide +kernel
theorem dX9_next_32 : decode cX9_next 32 = .ok (.putfield 154, 3) := by decide +kernel
theorem dX9_next_35 : decode cX9_next 35 = .ok (.goto (-35), 3) := by decide +kernel
theorem dX9_next_38 : decode cX9_next 38 = .ok (.aload_n 0, 1) := by decide +kernel
theorem dX9_next_39 : decode cX9_next 39 = .ok (.getfield 154, 3) := by decide +kernel
theorem dX9_next_42 : decode cX9_next 42 = .ok (.aload_n 0, 1) := by decide +kernel
theorem dX9_next_43 : decode cX9_next 43 = .ok (.getfield 151, 3) := by decide +kernel
theorem dX9_next_46 : decode cX9_next 46 = .ok (.if_icmp .ge 15, 3) := by decide +kernel
theorem dX9_next_49 : decode cX9_next 49 = .ok (.aload_n 0, 1) := by decide +kernel
theorem dX9_next_50 : decode cX9_next 50 = .ok (.getfield 88, 3) := by decide +kernel
theorem dX9_next_53 : decode cX9_next 53 = .ok (.aload_n 0, 1) := by decide +kernel
theorem dX9_next_54 : decode cX9_next 54 = .ok (.getfield 154, 3) := by decide +kernel
theorem dX9_next_57 : decode cX9_next 57 = .ok (.iaload, 1) := by decide +kernel
theorem dX9_next_58 : decode cX9_next 58 = .ok (.goto 4, 3) := by decide +kernel
theorem dX9_next_61 : decode cX9_next 61 = .ok (.iconst (-1), 1) := by decide +kernel
theorem dX9_next_62 : decode cX9_next 62 = .ok (.ireturn, 1) := by decide +kernel
theorem dX9_number_0 : decode cX9_number 0 = .ok (.aload_n 0, 1) := by decide +kernel
theorem dX9_number_1 : decode cX9_number 1 = .ok (.invokevirtual 157, 3) := by decide +kernel
theorem dX9_number_4 : decode cX9_number 4 = .ok (.istore_n 3, 1) := by decide +kernel
theorem dX9_number_5 : decode cX9_number 5 = .ok (.aload_n 0, 1) := by decide +kernel
theorem dX9_number_6 : decode cX9_number 6 = .ok (.getfield 154, 3) := by decide +kernel
theorem dX9_number_9 : decode cX9_number 9 = .ok (.istore 4, 2) := by decide +kernel
theorem dX9_number_11 : decode cX9_number 11 = .ok (.iconst 0, 1) := by decide +kernel
theorem dX9_number_12 : decode cX9_number 12 = .ok (.istore 5, 2) := by decide +kernel
theorem dX9_number_14 : decode cX9_number 14 = .ok (.aload_n 0, 1) := by decide +kernel
theorem dX9_number_15 : decode cX9_number 15 = .ok (.getfield 154, 3) := by decide +kernel
theorem dX9_number_18 : decode cX9_number 18 = .ok (.aload_n 0, 1) := by decide +kernel
theorem dX9_number_19 : decode cX9_number 19 = .ok (.getfield 151, 3) := by decide +kernel
theorem dX9_number_22 : decode cX9_number 22 = .ok (.if_icmp .ge 66, 3) := by decide +kernel
theorem dX9_number_25 : decode cX9_number 25 = .ok (.aload_n 0, 1) := by decide +kernel
theorem dX9_number_26 : decode cX9_number 26 = .ok (.getfield 88, 3) := by decide +kernel
theorem dX9_number_29 : decode cX9_number 29 = .ok (.aload_n 0, 1) := by decide +kernel
theorem dX9_number_30 : decode cX9_number 30 = .ok (.getfield 154, 3) := by decide +kernel
theorem dX9_number_33 : decode cX9_number 33 = .ok (.iaload, 1) := by decide +kernel
theorem dX9_number_34 : decode cX9_number 34 = .ok (.bipush 48, 2) := by decide +kernel
theorem dX9_number_36 : decode cX9_number 36 = .ok (.bipush 57, 2) := by decide +kernel
theorem dX9_number_38 : decode cX9_number 38 = .ok (.invokestatic 112, 3) := by decide +kernel
theorem dX9_number_41 : decode cX9_number 41 = .ok (.ifCond .eq 47, 3) := by decide +kernel
theorem dX9_number_44 : decode cX9_number 44 = .ok (.iload 5, 2) := by decide +kernel
theorem dX9_number_46 : decode cX9_number 46 = .ok (.iload_n 2, 1) := by decide +kernel
theorem dX9_number_47 : decode cX9_number 47 = .ok (.if_icmp .le 8, 3) := by decide +kernel
theorem dX9_number_50 : decode cX9_number 50 = .ok (.iload 5, 2) := by decide +kernel
theorem dX9_number_52 : decode cX9_number 52 = .ok (.goto 21, 3) := by decide +kernel
theorem dX9_number_55 : decode cX9_number 55 = .ok (.bipush 10, 2) := by decide +kernel
theorem dX9_number_57 : decode cX9_number 57 = .ok (.iload 5, 2) := by decide +kernel
theorem dX9_number_59 : decode cX9_number 59 = .ok (.imul, 1) := by decide +kernel
theorem dX9_number_60 : decode cX9_number 60 = .ok (.aload_n 0, 1) := by decide +kernel
theorem dX9_number_61 : decode cX9_number 61 = .ok (.getfield 88, 3) := by decide +kernel
theorem dX9_number_64 : decode cX9_number 64 = .ok (.aload_n 0, 1) := by decide +kernel
theorem dX9_number_65 : decode cX9_number 65 = .ok (.getfield 154, 3) := by decide +kernel
theorem dX9_number_68 : decode cX9_number 68 = .ok (.iaload, 1) := by decide +kernel
theorem dX9_number_69 : decode cX9_number 69 = .ok (.iadd, 1) := by decide +kernel
theorem dX9_number_70 : decode cX9_number 70 = .ok (.bipush 48, 2) := by decide +kernel
theorem dX9_number_72 : decode cX9_number 72 = .ok (.isub, 1) := by decide +kernel
theorem dX9_number_73 : decode cX9_number 73 = .ok (.istore 5, 2) := by decide +kernel
theorem dX9_number_75 : decode cX9_number 75 = .ok (.aload_n 0, 1) := by decide +kernel
theorem dX9_number_76 : decode cX9_number 76 = .ok (.dup, 1) := by decide +kernel
theorem dX9_number_77 : decode cX9_number 77 = .ok (.getfield 154, 3) := by decide +kernel
theorem dX9_number_80 : decode cX9_number 80 = .ok (.iconst 1, 1) := by decide +kernel
theorem dX9_number_81 : decode cX9_number 81 = .ok (.iadd, 1) := by decide +kernel
theorem dX9_number_82 : decode cX9_number 82 = .ok (.putfield 154, 3) := by decide +kernel
theorem dX9_number_85 : decode cX9_number 85 = .ok (.goto (-71), 3) := by decide +kernel
theorem dX9_number_88 : decode cX9_number 88 = .ok (.iload_n 3, 1) := by decide +kernel
theorem dX9_number_89 : decode cX9_number 89 = .ok (.ifCond .lt 22, 3) := by decide +kernel
theorem dX9_number_92 : decode cX9_number 92 = .ok (.aload_n 0, 1) := by decide +kernel
theorem dX9_number_93 : decode cX9_number 93 = .ok (.getfield 154, 3) := by decide +kernel
theorem dX9_number_96 : decode cX9_number 96 = .ok (.iload 4, 2) := by decide +kernel
theorem dX9_number_98 : decode cX9_number 98 = .ok (.if_icmp .eq 13, 3) := by decide +kernel
theorem dX9_number_101 : decode cX9_number 101 = .ok (.iload 5, 2) := by decide +kernel
theorem dX9_number_103 : decode cX9_number 103 = .ok (.iload_n 1, 1) := by decide +kernel
theorem dX9_number_104 : decode cX9_number 104 = .ok (.iload_n 2, 1) := by decide +kernel
theorem dX9_number_105 : decode cX9_number 105 = .ok (.invokestatic 112, 3) := by decide +kernel
theorem dX9_number_108 : decode cX9_number 108 = .ok (.ifCond .ne 11, 3) := by decide +kernel
theorem dX9_number_111 : decode cX9_number 111 = .ok (.aload_n 0, 1) := by decide +kernel
theorem dX9_number_112 : decode cX9_number 112 = .ok (.iload 4, 2) := by decide +kernel
theorem dX9_number_114 : decode cX9_number 114 = .ok (.putfield 154, 3) := by decide +kernel
theorem dX9_number_117 : decode cX9_number 117 = .ok (.iconst (-1), 1) := by decide +kernel
theorem dX9_number_118 : decode cX9_number 118 = .ok (.ireturn, 1) := by decide +kernel
theorem dX9_number_119 : decode cX9_number 119 = .ok (.iload 5, 2) := by decide +kernel
theorem dX9_number_121 : decode cX9_number 121 = .ok (.ireturn, 1) := by decide +kernel
theorem dX9_readClause_0 : decode cX9_readClause 0 = .ok (.aload_n 0, 1) := by decide +kernel
theorem dX9_readClause_1 : decode cX9_readClause 1 = .ok (.iconst 0, 1) := by decide +kernel
theorem dX9_readClause_2 : decode cX9_readClause 2 = .ok (.bipush 9, 2) := by decide +kernel
theorem dX9_readClause_4 : decode cX9_readClause 4 = .ok (.invokevirtual 161, 3) := by decide +kernel
theorem dX9_readClause_7 : decode cX9_readClause 7 = .ok (.istore_n 1, 1) := by decide +kernel
theorem dX9_readClause_8 : decode cX9_readClause 8 = .ok (.iload_n 1, 1) := by decide +kernel
theorem dX9_readClause_9 : decode cX9_readClause 9 = .ok (.ifCond .ge 5, 3) := by decide +kernel
theorem dX9_readClause_12 : decode cX9_readClause 12 = .ok (.iconst 0, 1) := by decide +kernel
theorem dX9_readClause_13 : decode cX9_readClause 13 = .ok (.ireturn, 1) := by decide +kernel
theorem dX9_readClause_14 : decode cX9_readClause 14 = .ok (.iload_n 1, 1) := by decide +kernel
theorem dX9_readClause_15 : decode cX9_readClause 15 = .ok (.istore_n 2, 1) := by decide +kernel
theorem dX9_readClause_16 : decode cX9_readClause 16 = .ok (.aload_n 0, 1) := by decide +kernel
theorem dX9_readClause_17 : decode cX9_readClause 17 = .ok (.invokevirtual 157, 3) := by decide +kernel
theorem dX9_readClause_20 : decode cX9_readClause 20 = .ok (.bipush 45, 2) := by decide +kernel
theorem dX9_readClause_22 : decode cX9_readClause 22 = .ok (.if_icmp .ne 27, 3) := by decide +kernel
theorem dX9_readClause_25 : decode cX9_readClause 25 = .ok (.aload_n 0, 1) := by decide +kernel
theorem dX9_readClause_26 : decode cX9_readClause 26 = .ok (.dup, 1) := by decide +kernel
theorem dX9_readClause_27 : decode cX9_readClause 27 = .ok (.getfield 154, 3) := by decide +kernel
theorem dX9_readClause_30 : decode cX9_readClause 30 = .ok (.iconst 1, 1) := by decide +kernel
theorem dX9_readClause_31 : decode cX9_readClause 31 = .ok (.iadd, 1) := by decide +kernel
theorem dX9_readClause_32 : decode cX9_readClause 32 = .ok (.putfield 154, 3) := by decide +kernel
theorem dX9_readClause_35 : decode cX9_readClause 35 = .ok (.aload_n 0, 1) := by decide +kernel
theorem dX9_readClause_36 : decode cX9_readClause 36 = .ok (.iload_n 1, 1) := by decide +kernel
theorem dX9_readClause_37 : decode cX9_readClause 37 = .ok (.bipush 9, 2) := by decide +kernel
theorem dX9_readClause_39 : decode cX9_readClause 39 = .ok (.invokevirtual 161, 3) := by decide +kernel
theorem dX9_readClause_42 : decode cX9_readClause 42 = .ok (.istore_n 2, 1) := by decide +kernel
theorem dX9_readClause_43 : decode cX9_readClause 43 = .ok (.iload_n 2, 1) := by decide +kernel
theorem dX9_readClause_44 : decode cX9_readClause 44 = .ok (.ifCond .ge 5, 3) := by decide +kernel
theorem dX9_readClause_47 : decode cX9_readClause 47 = .ok (.iconst 0, 1) := by decide +kernel
theorem dX9_readClause_48 : decode cX9_readClause 48 = .ok (.ireturn, 1) := by decide +kernel
theorem dX9_readClause_49 : decode cX9_readClause 49 = .ok (.aload_n 0, 1) := by decide +kernel
theorem dX9_readClause_50 : decode cX9_readClause 50 = .ok (.invokevirtual 157, 3) := by decide +kernel
theorem dX9_readClause_53 : decode cX9_readClause 53 = .ok (.bipush 58, 2) := by decide +kernel
theorem dX9_readClause_55 : decode cX9_readClause 55 = .ok (.if_icmp .eq 5, 3) := by decide +kernel
theorem dX9_readClause_58 : decode cX9_readClause 58 = .ok (.iconst 0, 1) := by decide +kernel
theorem dX9_readClause_59 : decode cX9_readClause 59 = .ok (.ireturn, 1) := by decide +kernel
theorem dX9_readClause_60 : decode cX9_readClause 60 = .ok (.aload_n 0, 1) := by decide +kernel
theorem dX9_readClause_61 : decode cX9_readClause 61 = .ok (.dup, 1) := by decide +kernel
theorem dX9_readClause_62 : decode cX9_readClause 62 = .ok (.getfield 154, 3) := by decide +kernel
theorem dX9_readClause_65 : decode cX9_readClause 65 = .ok (.iconst 1, 1) := by decide +kernel
theorem dX9_readClause_66 : decode cX9_readClause 66 = .ok (.iadd, 1) := by decide +kernel
theorem dX9_readClause_67 : decode cX9_readClause 67 = .ok (.putfield 154, 3) := by decide +kernel
theorem dX9_readClause_70 : decode cX9_readClause 70 = .ok (.aload_n 0, 1) := by decide +kernel
theorem dX9_readClause_71 : decode cX9_readClause 71 = .ok (.iconst 0, 1) := by decide +kernel
theorem dX9_readClause_72 : decode cX9_readClause 72 = .ok (.bipush 99, 2) := by decide +kernel
theorem dX9_readClause_74 : decode cX9_readClause 74 = .ok (.invokevirtual 161, 3) := by decide +kernel
theorem dX9_readClause_77 : decode cX9_readClause 77 = .ok (.istore_n 3, 1) := by decide +kernel
theorem dX9_readClause_78 : decode cX9_readClause 78 = .ok (.iload_n 3, 1) := by decide +kernel
theorem dX9_readClause_79 : decode cX9_readClause 79 = .ok (.ifCond .ge 5, 3) := by decide +kernel
theorem dX9_readClause_82 : decode cX9_readClause 82 = .ok (.iconst 0, 1) := by decide +kernel
theorem dX9_readClause_83 : decode cX9_readClause 83 = .ok (.ireturn, 1) := by decide +kernel
theorem dX9_readClause_84 : decode cX9_readClause 84 = .ok (.iload_n 1, 1) := by decide +kernel
theorem dX9_readClause_85 : decode cX9_readClause 85 = .ok (.istore 4, 2) := by decide +kernel
theorem dX9_readClause_87 : decode cX9_readClause 87 = .ok (.iload 4, 2) := by decide +kernel
theorem dX9_readClause_89 : decode cX9_readClause 89 = .ok (.iload_n 2, 1) := by decide +kernel
theorem dX9_readClause_90 : decode cX9_readClause 90 = .ok (.if_icmp .gt 17, 3) := by decide +kernel
theorem dX9_readClause_93 : decode cX9_readClause 93 = .ok (.aload_n 0, 1) := by decide +kernel
theorem dX9_readClause_94 : decode cX9_readClause 94 = .ok (.getfield 94, 3) := by decide +kernel
theorem dX9_readClause_97 : decode cX9_readClause 97 = .ok (.iload 4, 2) := by decide +kernel
theorem dX9_readClause_99 : decode cX9_readClause 99 = .ok (.iload_n 3, 1) := by decide +kernel
theorem dX9_readClause_100 : decode cX9_readClause 100 = .ok (.iastore, 1) := by decide +kernel
theorem dX9_readClause_101 : decode cX9_readClause 101 = .ok (.iinc 4 1, 3) := by decide +kernel
theorem dX9_readClause_104 : decode cX9_readClause 104 = .ok (.goto (-17), 3) := by decide +kernel
theorem dX9_readClause_107 : decode cX9_readClause 107 = .ok (.iconst 1, 1) := by decide +kernel
theorem dX9_readClause_108 : decode cX9_readClause 108 = .ok (.ireturn, 1) := by decide +kernel
theorem dX9_readFares_0 : decode cX9_readFares 0 = .ok (.aload_n 0, 1) := by decide +kernel
theorem dX9_readFares_1 : decode cX9_readFares 1 = .ok (.iconst 0, 1) := by decide +kernel
theorem dX9_readFares_2 : decode cX9_readFares 2 = .ok (.putfield 154, 3) := by decide +kernel
theorem dX9_readFares_5 : decode cX9_readFares 5 = .ok (.iconst 0, 1) := by decide +kernel
theorem dX9_readFares_6 : decode cX9_readFares 6 = .ok (.istore_n 1, 1) := by decide +kernel
theorem dX9_readFares_7 : decode cX9_readFares 7 = .ok (.iload_n 1, 1) := by decide +kernel
theorem dX9_readFares_8 : decode cX9_readFares 8 = .ok (.bipush 10, 2) := by decide +kernel
theorem dX9_readFares_10 : decode cX9_readFares 10 = .ok (.if_icmp .ge 16, 3) := by decide +kernel
theorem dX9_readFares_13 : decode cX9_readFares 13 = .ok (.aload_n 0, 1) := by decide +kernel
theorem dX9_readFares_14 : decode cX9_readFares 14 = .ok (.getfield 94, 3) := by decide +kernel
theorem dX9_readFares_17 : decode cX9_readFares 17 = .ok (.iload_n 1, 1) := by decide +kernel
theorem dX9_readFares_18 : decode cX9_readFares 18 = .ok (.iconst 0, 1) := by decide +kernel
theorem dX9_readFares_19 : decode cX9_readFares 19 = .ok (.iastore, 1) := by decide +kernel
theorem dX9_readFares_20 : decode cX9_readFares 20 = .ok (.iinc 1 1, 3) := by decide +kernel
theorem dX9_readFares_23 : decode cX9_readFares 23 = .ok (.goto (-16), 3) := by decide +kernel
theorem dX9_readFares_26 : decode cX9_readFares 26 = .ok (.iconst 0, 1) := by decide +kernel
theorem dX9_readFares_27 : decode cX9_readFares 27 = .ok (.istore_n 1, 1) := by decide +kernel
theorem dX9_readFares_28 : decode cX9_readFares 28 = .ok (.iconst 1, 1) := by decide +kernel
theorem dX9_readFares_29 : decode cX9_readFares 29 = .ok (.istore_n 2, 1) := by decide +kernel
theorem dX9_readFares_30 : decode cX9_readFares 30 = .ok (.iload_n 2, 1) := by decide +kernel
theorem dX9_readFares_31 : decode cX9_readFares 31 = .ok (.ifCond .eq 68, 3) := by decide +kernel
theorem dX9_readFares_34 : decode cX9_readFares 34 = .ok (.aload_n 0, 1) := by decide +kernel
theorem dX9_readFares_35 : decode cX9_readFares 35 = .ok (.invokevirtual 165, 3) := by decide +kernel
theorem dX9_readFares_38 : decode cX9_readFares 38 = .ok (.ifCond .ne 5, 3) := by decide +kernel
theorem dX9_readFares_41 : decode cX9_readFares 41 = .ok (.iconst (-1), 1) := by decide +kernel
theorem dX9_readFares_42 : decode cX9_readFares 42 = .ok (.ireturn, 1) := by decide +kernel
theorem dX9_readFares_43 : decode cX9_readFares 43 = .ok (.iinc 1 1, 3) := by decide +kernel
theorem dX9_readFares_46 : decode cX9_readFares 46 = .ok (.aload_n 0, 1) := by decide +kernel
theorem dX9_readFares_47 : decode cX9_readFares 47 = .ok (.invokevirtual 157, 3) := by decide +kernel
theorem dX9_readFares_50 : decode cX9_readFares 50 = .ok (.istore_n 3, 1) := by decide +kernel
theorem dX9_readFares_51 : decode cX9_readFares 51 = .ok (.iload_n 3, 1) := by decide +kernel
theorem dX9_readFares_52 : decode cX9_readFares 52 = .ok (.ifCond .lt 16, 3) := by decide +kernel
theorem dX9_readFares_55 : decode cX9_readFares 55 = .ok (.iload_n 3, 1) := by decide +kernel
theorem dX9_readFares_56 : decode cX9_readFares 56 = .ok (.bipush 59, 2) := by decide +kernel
theorem dX9_readFares_58 : decode cX9_readFares 58 = .ok (.if_icmp .ne 8, 3) := by decide +kernel
theorem dX9_readFares_61 : decode cX9_readFares 61 = .ok (.iload_n 1, 1) := by decide +kernel
theorem dX9_readFares_62 : decode cX9_readFares 62 = .ok (.iconst 5, 1) := by decide +kernel
theorem dX9_readFares_63 : decode cX9_readFares 63 = .ok (.if_icmp .ne 5, 3) := by decide +kernel
theorem dX9_readFares_66 : decode cX9_readFares 66 = .ok (.iconst (-1), 1) := by decide +kernel
theorem dX9_readFares_67 : decode cX9_readFares 67 = .ok (.ireturn, 1) := by decide +kernel
theorem dX9_readFares_68 : decode cX9_readFares 68 = .ok (.iload_n 3, 1) := by decide +kernel
theorem dX9_readFares_69 : decode cX9_readFares 69 = .ok (.ifCond .lt 7, 3) := by decide +kernel
theorem dX9_readFares_72 : decode cX9_readFares 72 = .ok (.iconst 1, 1) := by decide +kernel
theorem dX9_readFares_73 : decode cX9_readFares 73 = .ok (.goto 4, 3) := by decide +kernel
theorem dX9_readFares_76 : decode cX9_readFares 76 = .ok (.iconst 0, 1) := by decide +kernel
theorem dX9_readFares_77 : decode cX9_readFares 77 = .ok (.istore_n 2, 1) := by decide +kernel
theorem dX9_readFares_78 : decode cX9_readFares 78 = .ok (.aload_n 0, 1) := by decide +kernel
theorem dX9_readFares_79 : decode cX9_readFares 79 = .ok (.dup, 1) := by decide +kernel
theorem dX9_readFares_80 : decode cX9_readFares 80 = .ok (.getfield 154, 3) := by decide +kernel
theorem dX9_readFares_83 : decode cX9_readFares 83 = .ok (.iload_n 2, 1) := by decide +kernel
theorem dX9_readFares_84 : decode cX9_readFares 84 = .ok (.ifCond .eq 7, 3) := by decide +kernel
theorem dX9_readFares_87 : decode cX9_readFares 87 = .ok (.iconst 1, 1) := by decide +kernel
theorem dX9_readFares_88 : decode cX9_readFares 88 = .ok (.goto 4, 3) := by decide +kernel
theorem dX9_readFares_91 : decode cX9_readFares 91 = .ok (.iconst 0, 1) := by decide +kernel
theorem dX9_readFares_92 : decode cX9_readFares 92 = .ok (.iadd, 1) := by decide +kernel
theorem dX9_readFares_93 : decode cX9_readFares 93 = .ok (.putfield 154, 3) := by decide +kernel
theorem dX9_readFares_96 : decode cX9_readFares 96 = .ok (.goto (-66), 3) := by decide +kernel
theorem dX9_readFares_99 : decode cX9_readFares 99 = .ok (.iload_n 1, 1) := by decide +kernel
theorem dX9_readFares_100 : decode cX9_readFares 100 = .ok (.ireturn, 1) := by decide +kernel
theorem dX9_fares_0 : decode cX9_fares 0 = .ok (.aload_n 0, 1) := by decide +kernel
theorem dX9_fares_1 : decode cX9_fares 1 = .ok (.invokevirtual 169, 3) := by decide +kernel
theorem dX9_fares_4 : decode cX9_fares 4 = .ok (.istore_n 1, 1) := by decide +kernel
theorem dX9_fares_5 : decode cX9_fares 5 = .ok (.aload_n 0, 1) := by decide +kernel
theorem dX9_fares_6 : decode cX9_fares 6 = .ok (.iconst 0, 1) := by decide +kernel
theorem dX9_fares_7 : decode cX9_fares 7 = .ok (.putfield 151, 3) := by decide +kernel
theorem dX9_fares_10 : decode cX9_fares 10 = .ok (.iload_n 1, 1) := by decide +kernel
theorem dX9_fares_11 : decode cX9_fares 11 = .ok (.ifCond .ge 11, 3) := by decide +kernel
theorem dX9_fares_14 : decode cX9_fares 14 = .ok (.bipush (-20), 2) := by decide +kernel
theorem dX9_fares_16 : decode cX9_fares 16 = .ok (.aload_n 0, 1) := by decide +kernel
theorem dX9_fares_17 : decode cX9_fares 17 = .ok (.getfield 154, 3) := by decide +kernel
theorem dX9_fares_20 : decode cX9_fares 20 = .ok (.isub, 1) := by decide +kernel
theorem dX9_fares_21 : decode cX9_fares 21 = .ok (.ireturn, 1) := by decide +kernel
theorem dX9_fares_22 : decode cX9_fares 22 = .ok (.iconst 0, 1) := by decide +kernel
theorem dX9_fares_23 : decode cX9_fares 23 = .ok (.istore_n 2, 1) := by decide +kernel
theorem dX9_fares_24 : decode cX9_fares 24 = .ok (.iload_n 2, 1) := by decide +kernel
theorem dX9_fares_25 : decode cX9_fares 25 = .ok (.bipush 10, 2) := by decide +kernel
theorem dX9_fares_27 : decode cX9_fares 27 = .ok (.if_icmp .ge 21, 3) := by decide +kernel
theorem dX9_fares_30 : decode cX9_fares 30 = .ok (.aload_n 0, 1) := by decide +kernel
theorem dX9_fares_31 : decode cX9_fares 31 = .ok (.getfield 91, 3) := by decide +kernel
theorem dX9_fares_34 : decode cX9_fares 34 = .ok (.iload_n 2, 1) := by decide +kernel
theorem dX9_fares_35 : decode cX9_fares 35 = .ok (.aload_n 0, 1) := by decide +kernel
theorem dX9_fares_36 : decode cX9_fares 36 = .ok (.getfield 94, 3) := by decide +kernel
theorem dX9_fares_39 : decode cX9_fares 39 = .ok (.iload_n 2, 1) := by decide +kernel
theorem dX9_fares_40 : decode cX9_fares 40 = .ok (.iaload, 1) := by decide +kernel
theorem dX9_fares_41 : decode cX9_fares 41 = .ok (.iastore, 1) := by decide +kernel
theorem dX9_fares_42 : decode cX9_fares 42 = .ok (.iinc 2 1, 3) := by decide +kernel
theorem dX9_fares_45 : decode cX9_fares 45 = .ok (.goto (-21), 3) := by decide +kernel
theorem dX9_fares_48 : decode cX9_fares 48 = .ok (.iload_n 1, 1) := by decide +kernel
theorem dX9_fares_49 : decode cX9_fares 49 = .ok (.ireturn, 1) := by decide +kernel
theorem dX9_fare_0 : decode cX9_fare 0 = .ok (.iload_n 1, 1) := by decide +kernel
theorem dX9_fare_1 : decode cX9_fare 1 = .ok (.iconst 0, 1) := by decide +kernel
theorem dX9_fare_2 : decode cX9_fare 2 = .ok (.bipush 9, 2) := by decide +kernel
theorem dX9_fare_4 : decode cX9_fare 4 = .ok (.invokestatic 112, 3) := by decide +kernel
theorem dX9_fare_7 : decode cX9_fare 7 = .ok (.ifCond .eq 12, 3) := by decide +kernel
theorem dX9_fare_10 : decode cX9_fare 10 = .ok (.aload_n 0, 1) := by decide +kernel
theorem dX9_fare_11 : decode cX9_fare 11 = .ok (.getfield 91, 3) := by decide +kernel
theorem dX9_fare_14 : decode cX9_fare 14 = .ok (.iload_n 1, 1) := by decide +kernel
theorem dX9_fare_15 : decode cX9_fare 15 = .ok (.iaload, 1) := by decide +kernel
theorem dX9_fare_16 : decode cX9_fare 16 = .ok (.goto 4, 3) := by decide +kernel
theorem dX9_fare_19 : decode cX9_fare 19 = .ok (.iconst (-1), 1) := by decide +kernel
theorem dX9_fare_20 : decode cX9_fare 20 = .ok (.ireturn, 1) := by decide +kernel
theorem dX9_flow_0 : decode cX9_flow 0 = .ok (.aload_n 0, 1) := by decide +kernel
theorem dX9_flow_1 : decode cX9_flow 1 = .ok (.getfield 7, 3) := by decide +kernel
theorem dX9_flow_4 : decode cX9_flow 4 = .ok (.iload_n 1, 1) := by decide +kernel
theorem dX9_flow_5 : decode cX9_flow 5 = .ok (.iaload, 1) := by decide +kernel
theorem dX9_flow_6 : decode cX9_flow 6 = .ok (.aload_n 0, 1) := by decide +kernel
theorem dX9_flow_7 : decode cX9_flow 7 = .ok (.getfield 80, 3) := by decide +kernel
theorem dX9_flow_10 : decode cX9_flow 10 = .ok (.imul, 1) := by decide +kernel
theorem dX9_flow_11 : decode cX9_flow 11 = .ok (.bipush 100, 2) := by decide +kernel
theorem dX9_flow_13 : decode cX9_flow 13 = .ok (.idiv, 1) := by decide +kernel
theorem dX9_flow_14 : decode cX9_flow 14 = .ok (.istore_n 2, 1) := by decide +kernel
theorem dX9_flow_15 : decode cX9_flow 15 = .ok (.aload_n 0, 1) := by decide +kernel
theorem dX9_flow_16 : decode cX9_flow 16 = .ok (.getfield 13, 3) := by decide +kernel
theorem dX9_flow_19 : decode cX9_flow 19 = .ok (.iload_n 1, 1) := by decide +kernel
theorem dX9_flow_20 : decode cX9_flow 20 = .ok (.iaload, 1) := by decide +kernel
theorem dX9_flow_21 : decode cX9_flow 21 = .ok (.iload_n 2, 1) := by decide +kernel
theorem dX9_flow_22 : decode cX9_flow 22 = .ok (.iadd, 1) := by decide +kernel
theorem dX9_flow_23 : decode cX9_flow 23 = .ok (.sipush 300, 3) := by decide +kernel
theorem dX9_flow_26 : decode cX9_flow 26 = .ok (.isub, 1) := by decide +kernel
theorem dX9_flow_27 : decode cX9_flow 27 = .ok (.istore_n 3, 1) := by decide +kernel
theorem dX9_flow_28 : decode cX9_flow 28 = .ok (.iload_n 3, 1) := by decide +kernel
theorem dX9_flow_29 : decode cX9_flow 29 = .ok (.ifCond .le 7, 3) := by decide +kernel
theorem dX9_flow_32 : decode cX9_flow 32 = .ok (.iload_n 3, 1) := by decide +kernel
theorem dX9_flow_33 : decode cX9_flow 33 = .ok (.goto 4, 3) := by decide +kernel
theorem dX9_flow_36 : decode cX9_flow 36 = .ok (.iconst 0, 1) := by decide +kernel
theorem dX9_flow_37 : decode cX9_flow 37 = .ok (.istore_n 3, 1) := by decide +kernel
theorem dX9_flow_38 : decode cX9_flow 38 = .ok (.aload_n 0, 1) := by decide +kernel
theorem dX9_flow_39 : decode cX9_flow 39 = .ok (.getfield 13, 3) := by decide +kernel
theorem dX9_flow_42 : decode cX9_flow 42 = .ok (.iload_n 1, 1) := by decide +kernel
theorem dX9_flow_43 : decode cX9_flow 43 = .ok (.dup2, 1) := by decide +kernel
theorem dX9_flow_44 : decode cX9_flow 44 = .ok (.iaload, 1) := by decide +kernel
theorem dX9_flow_45 : decode cX9_flow 45 = .ok (.iload_n 2, 1) := by decide +kernel
theorem dX9_flow_46 : decode cX9_flow 46 = .ok (.iload_n 3, 1) := by decide +kernel
theorem dX9_flow_47 : decode cX9_flow 47 = .ok (.isub, 1) := by decide +kernel
theorem dX9_flow_48 : decode cX9_flow 48 = .ok (.iadd, 1) := by decide +kernel
theorem dX9_flow_49 : decode cX9_flow 49 = .ok (.iastore, 1) := by decide +kernel
theorem dX9_flow_50 : decode cX9_flow 50 = .ok (.aload_n 0, 1) := by decide +kernel
theorem dX9_flow_51 : decode cX9_flow 51 = .ok (.getfield 20, 3) := by decide +kernel
theorem dX9_flow_54 : decode cX9_flow 54 = .ok (.iload_n 1, 1) := by decide +kernel
theorem dX9_flow_55 : decode cX9_flow 55 = .ok (.dup2, 1) := by decide +kernel
theorem dX9_flow_56 : decode cX9_flow 56 = .ok (.iaload, 1) := by decide +kernel
theorem dX9_flow_57 : decode cX9_flow 57 = .ok (.iload_n 3, 1) := by decide +kernel
theorem dX9_flow_58 : decode cX9_flow 58 = .ok (.iadd, 1) := by decide +kernel
theorem dX9_flow_59 : decode cX9_flow 59 = .ok (.iastore, 1) := by decide +kernel
theorem dX9_flow_60 : decode cX9_flow 60 = .ok (.aload_n 0, 1) := by decide +kernel
theorem dX9_flow_61 : decode cX9_flow 61 = .ok (.getfield 84, 3) := by decide +kernel
theorem dX9_flow_64 : decode cX9_flow 64 = .ok (.iconst 0, 1) := by decide +kernel
theorem dX9_flow_65 : decode cX9_flow 65 = .ok (.dup2, 1) := by decide +kernel
theorem dX9_flow_66 : decode cX9_flow 66 = .ok (.laload, 1) := by decide +kernel
theorem dX9_flow_67 : decode cX9_flow 67 = .ok (.iload_n 2, 1) := by decide +kernel
theorem dX9_flow_68 : decode cX9_flow 68 = .ok (.i2l, 1) := by decide +kernel
theorem dX9_flow_69 : decode cX9_flow 69 = .ok (.ladd, 1) := by decide +kernel
theorem dX9_flow_70 : decode cX9_flow 70 = .ok (.lastore, 1) := by decide +kernel
theorem dX9_flow_71 : decode cX9_flow 71 = .ok (.aload_n 0, 1) := by decide +kernel
theorem dX9_flow_72 : decode cX9_flow 72 = .ok (.getfield 84, 3) := by decide +kernel
theorem dX9_flow_75 : decode cX9_flow 75 = .ok (.iconst 1, 1) := by decide +kernel
theorem dX9_flow_76 : decode cX9_flow 76 = .ok (.dup2, 1) := by decide +kernel
theorem dX9_flow_77 : decode cX9_flow 77 = .ok (.laload, 1) := by decide +kernel
theorem dX9_flow_78 : decode cX9_flow 78 = .ok (.iload_n 3, 1) := by decide +kernel
theorem dX9_flow_79 : decode cX9_flow 79 = .ok (.i2l, 1) := by decide +kernel
theorem dX9_flow_80 : decode cX9_flow 80 = .ok (.ladd, 1) := by decide +kernel
theorem dX9_flow_81 : decode cX9_flow 81 = .ok (.lastore, 1) := by decide +kernel
theorem dX9_flow_82 : decode cX9_flow 82 = .ok (.return_, 1) := by decide +kernel
theorem dX9_isAhead_0 : decode cX9_isAhead 0 = .ok (.aload_n 0, 1) := by decide +kernel
theorem dX9_isAhead_1 : decode cX9_isAhead 1 = .ok (.getfield 53, 3) := by decide +kernel
theorem dX9_isAhead_4 : decode cX9_isAhead 4 = .ok (.iload_n 1, 1) := by decide +kernel
theorem dX9_isAhead_5 : decode cX9_isAhead 5 = .ok (.iaload, 1) := by decide +kernel
theorem dX9_isAhead_6 : decode cX9_isAhead 6 = .ok (.aload_n 0, 1) := by decide +kernel
theorem dX9_isAhead_7 : decode cX9_isAhead 7 = .ok (.getfield 53, 3) := by decide +kernel
theorem dX9_isAhead_10 : decode cX9_isAhead 10 = .ok (.iload_n 2, 1) := by decide +kernel
theorem dX9_isAhead_11 : decode cX9_isAhead 11 = .ok (.iaload, 1) := by decide +kernel
theorem dX9_isAhead_12 : decode cX9_isAhead 12 = .ok (.if_icmp .gt 33, 3) := by decide +kernel
theorem dX9_isAhead_15 : decode cX9_isAhead 15 = .ok (.aload_n 0, 1) := by decide +kernel
theorem dX9_isAhead_16 : decode cX9_isAhead 16 = .ok (.getfield 53, 3) := by decide +kernel
theorem dX9_isAhead_19 : decode cX9_isAhead 19 = .ok (.iload_n 1, 1) := by decide +kernel
theorem dX9_isAhead_20 : decode cX9_isAhead 20 = .ok (.iaload, 1) := by decide +kernel
theorem dX9_isAhead_21 : decode cX9_isAhead 21 = .ok (.aload_n 0, 1) := by decide +kernel
theorem dX9_isAhead_22 : decode cX9_isAhead 22 = .ok (.getfield 53, 3) := by decide +kernel
theorem dX9_isAhead_25 : decode cX9_isAhead 25 = .ok (.iload_n 2, 1) := by decide +kernel
theorem dX9_isAhead_26 : decode cX9_isAhead 26 = .ok (.iaload, 1) := by decide +kernel
theorem dX9_isAhead_27 : decode cX9_isAhead 27 = .ok (.if_icmp .ne 22, 3) := by decide +kernel
theorem dX9_isAhead_30 : decode cX9_isAhead 30 = .ok (.aload_n 0, 1) := by decide +kernel
theorem dX9_isAhead_31 : decode cX9_isAhead 31 = .ok (.getfield 71, 3) := by decide +kernel
theorem dX9_isAhead_34 : decode cX9_isAhead 34 = .ok (.iload_n 1, 1) := by decide +kernel
theorem dX9_isAhead_35 : decode cX9_isAhead 35 = .ok (.iaload, 1) := by decide +kernel
theorem dX9_isAhead_36 : decode cX9_isAhead 36 = .ok (.aload_n 0, 1) := by decide +kernel
theorem dX9_isAhead_37 : decode cX9_isAhead 37 = .ok (.getfield 71, 3) := by decide +kernel
theorem dX9_isAhead_40 : decode cX9_isAhead 40 = .ok (.iload_n 2, 1) := by decide +kernel
theorem dX9_isAhead_41 : decode cX9_isAhead 41 = .ok (.iaload, 1) := by decide +kernel
theorem dX9_isAhead_42 : decode cX9_isAhead 42 = .ok (.if_icmp .ge 7, 3) := by decide +kernel
theorem dX9_isAhead_45 : decode cX9_isAhead 45 = .ok (.iconst 1, 1) := by decide +kernel
theorem dX9_isAhead_46 : decode cX9_isAhead 46 = .ok (.goto 4, 3) := by decide +kernel
theorem dX9_isAhead_49 : decode cX9_isAhead 49 = .ok (.iconst 0, 1) := by decide +kernel
theorem dX9_isAhead_50 : decode cX9_isAhead 50 = .ok (.ireturn, 1) := by decide +kernel
theorem dX9_fill_0 : decode cX9_fill 0 = .ok (.iconst (-1), 1) := by decide +kernel
theorem dX9_fill_1 : decode cX9_fill 1 = .ok (.istore_n 2, 1) := by decide +kernel
theorem dX9_fill_2 : decode cX9_fill 2 = .ok (.iconst 0, 1) := by decide +kernel
theorem dX9_fill_3 : decode cX9_fill 3 = .ok (.istore_n 3, 1) := by decide +kernel
theorem dX9_fill_4 : decode cX9_fill 4 = .ok (.iload_n 3, 1) := by decide +kernel
theorem dX9_fill_5 : decode cX9_fill 5 = .ok (.aload_n 0, 1) := by decide +kernel
theorem dX9_fill_6 : decode cX9_fill 6 = .ok (.getfield 126, 3) := by decide +kernel
theorem dX9_fill_9 : decode cX9_fill 9 = .ok (.if_icmp .ge 59, 3) := by decide +kernel
theorem dX9_fill_12 : decode cX9_fill 12 = .ok (.aload_n 0, 1) := by decide +kernel
theorem dX9_fill_13 : decode cX9_fill 13 = .ok (.getfield 59, 3) := by decide +kernel
theorem dX9_fill_16 : decode cX9_fill 16 = .ok (.iload_n 3, 1) := by decide +kernel
theorem dX9_fill_17 : decode cX9_fill 17 = .ok (.iaload, 1) := by decide +kernel
theorem dX9_fill_18 : decode cX9_fill 18 = .ok (.ifCond .ne 17, 3) := by decide +kernel
theorem dX9_fill_21 : decode cX9_fill 21 = .ok (.aload_n 0, 1) := by decide +kernel
theorem dX9_fill_22 : decode cX9_fill 22 = .ok (.getfield 47, 3) := by decide +kernel
theorem dX9_fill_25 : decode cX9_fill 25 = .ok (.iload_n 3, 1) := by decide +kernel
theorem dX9_fill_26 : decode cX9_fill 26 = .ok (.iaload, 1) := by decide +kernel
theorem dX9_fill_27 : decode cX9_fill 27 = .ok (.iload_n 1, 1) := by decide +kernel
theorem dX9_fill_28 : decode cX9_fill 28 = .ok (.if_icmp .ne 7, 3) := by decide +kernel
theorem dX9_fill_31 : decode cX9_fill 31 = .ok (.iconst 1, 1) := by decide +kernel
theorem dX9_fill_32 : decode cX9_fill 32 = .ok (.goto 4, 3) := by decide +kernel
theorem dX9_fill_35 : decode cX9_fill 35 = .ok (.iconst 0, 1) := by decide +kernel
theorem dX9_fill_36 : decode cX9_fill 36 = .ok (.istore 4, 2) := by decide +kernel
theorem dX9_fill_38 : decode cX9_fill 38 = .ok (.iload 4, 2) := by decide +kernel
theorem dX9_fill_40 : decode cX9_fill 40 = .ok (.ifCond .eq 20, 3) := by decide +kernel
theorem dX9_fill_43 : decode cX9_fill 43 = .ok (.iload_n 2, 1) := by decide +kernel
theorem dX9_fill_44 : decode cX9_fill 44 = .ok (.ifCond .lt 12, 3) := by decide +kernel
theorem dX9_fill_47 : decode cX9_fill 47 = .ok (.aload_n 0, 1) := by decide +kernel
theorem dX9_fill_48 : decode cX9_fill 48 = .ok (.iload_n 3, 1) := by decide +kernel
theorem dX9_fill_49 : decode cX9_fill 49 = .ok (.iload_n 2, 1) := by decide +kernel
theorem dX9_fill_50 : decode cX9_fill 50 = .ok (.invokevirtual 172, 3) := by decide +kernel
theorem dX9_fill_53 : decode cX9_fill 53 = .ok (.ifCond .eq 7, 3) := by decide +kernel
theorem dX9_fill_56 : decode cX9_fill 56 = .ok (.iload_n 3, 1) := by decide +kernel
theorem dX9_fill_57 : decode cX9_fill 57 = .ok (.goto 4, 3) := by decide +kernel
theorem dX9_fill_60 : decode cX9_fill 60 = .ok (.iload_n 2, 1) := by decide +kernel
theorem dX9_fill_61 : decode cX9_fill 61 = .ok (.istore_n 2, 1) := by decide +kernel
theorem dX9_fill_62 : decode cX9_fill 62 = .ok (.iinc 3 1, 3) := by decide +kernel
theorem dX9_fill_65 : decode cX9_fill 65 = .ok (.goto (-61), 3) := by decide +kernel
theorem dX9_fill_68 : decode cX9_fill 68 = .ok (.iload_n 2, 1) := by decide +kernel
theorem dX9_fill_69 : decode cX9_fill 69 = .ok (.ifCond .ge 4, 3) := by decide +kernel
theorem dX9_fill_72 : decode cX9_fill 72 = .ok (.return_, 1) := by decide +kernel
theorem dX9_fill_73 : decode cX9_fill 73 = .ok (.aload_n 0, 1) := by decide +kernel
theorem dX9_fill_74 : decode cX9_fill 74 = .ok (.getfield 13, 3) := by decide +kernel
theorem dX9_fill_77 : decode cX9_fill 77 = .ok (.iload_n 1, 1) := by decide +kernel
theorem dX9_fill_78 : decode cX9_fill 78 = .ok (.iaload, 1) := by decide +kernel
theorem dX9_fill_79 : decode cX9_fill 79 = .ok (.aload_n 0, 1) := by decide +kernel
theorem dX9_fill_80 : decode cX9_fill 80 = .ok (.getfield 44, 3) := by decide +kernel
theorem dX9_fill_83 : decode cX9_fill 83 = .ok (.iload_n 2, 1) := by decide +kernel
theorem dX9_fill_84 : decode cX9_fill 84 = .ok (.iaload, 1) := by decide +kernel
theorem dX9_fill_85 : decode cX9_fill 85 = .ok (.aload_n 0, 1) := by decide +kernel
theorem dX9_fill_86 : decode cX9_fill 86 = .ok (.getfield 65, 3) := by decide +kernel
theorem dX9_fill_89 : decode cX9_fill 89 = .ok (.iload_n 2, 1) := by decide +kernel
theorem dX9_fill_90 : decode cX9_fill 90 = .ok (.iaload, 1) := by decide +kernel
theorem dX9_fill_91 : decode cX9_fill 91 = .ok (.isub, 1) := by decide +kernel
theorem dX9_fill_92 : decode cX9_fill 92 = .ok (.invokestatic 175, 3) := by decide +kernel
theorem dX9_fill_95 : decode cX9_fill 95 = .ok (.bipush 10, 2) := by decide +kernel
theorem dX9_fill_97 : decode cX9_fill 97 = .ok (.invokestatic 175, 3) := by decide +kernel
theorem dX9_fill_100 : decode cX9_fill 100 = .ok (.istore_n 3, 1) := by decide +kernel
theorem dX9_fill_101 : decode cX9_fill 101 = .ok (.iload_n 3, 1) := by decide +kernel
theorem dX9_fill_102 : decode cX9_fill 102 = .ok (.ifCond .le 51, 3) := by decide +kernel
theorem dX9_fill_105 : decode cX9_fill 105 = .ok (.aload_n 0, 1) := by decide +kernel
theorem dX9_fill_106 : decode cX9_fill 106 = .ok (.getfield 13, 3) := by decide +kernel
theorem dX9_fill_109 : decode cX9_fill 109 = .ok (.iload_n 1, 1) := by decide +kernel
theorem dX9_fill_110 : decode cX9_fill 110 = .ok (.dup2, 1) := by decide +kernel
theorem dX9_fill_111 : decode cX9_fill 111 = .ok (.iaload, 1) := by decide +kernel
theorem dX9_fill_112 : decode cX9_fill 112 = .ok (.iload_n 3, 1) := by decide +kernel
theorem dX9_fill_113 : decode cX9_fill 113 = .ok (.isub, 1) := by decide +kernel
theorem dX9_fill_114 : decode cX9_fill 114 = .ok (.iastore, 1) := by decide +kernel
theorem dX9_fill_115 : decode cX9_fill 115 = .ok (.aload_n 0, 1) := by decide +kernel
theorem dX9_fill_116 : decode cX9_fill 116 = .ok (.getfield 65, 3) := by decide +kernel
theorem dX9_fill_119 : decode cX9_fill 119 = .ok (.iload_n 2, 1) := by decide +kernel
theorem dX9_fill_120 : decode cX9_fill 120 = .ok (.dup2, 1) := by decide +kernel
theorem dX9_fill_121 : decode cX9_fill 121 = .ok (.iaload, 1) := by decide +kernel
theorem dX9_fill_122 : decode cX9_fill 122 = .ok (.iload_n 3, 1) := by decide +kernel
theorem dX9_fill_123 : decode cX9_fill 123 = .ok (.iadd, 1) := by decide +kernel
theorem dX9_fill_124 : decode cX9_fill 124 = .ok (.iastore, 1) := by decide +kernel
theorem dX9_fill_125 : decode cX9_fill 125 = .ok (.aload_n 0, 1) := by decide +kernel
theorem dX9_fill_126 : decode cX9_fill 126 = .ok (.getfield 84, 3) := by decide +kernel
theorem dX9_fill_129 : decode cX9_fill 129 = .ok (.iconst 2, 1) := by decide +kernel
theorem dX9_fill_130 : decode cX9_fill 130 = .ok (.dup2, 1) := by decide +kernel
theorem dX9_fill_131 : decode cX9_fill 131 = .ok (.laload, 1) := by decide +kernel
theorem dX9_fill_132 : decode cX9_fill 132 = .ok (.iload_n 3, 1) := by decide +kernel
theorem dX9_fill_133 : decode cX9_fill 133 = .ok (.i2l, 1) := by decide +kernel
theorem dX9_fill_134 : decode cX9_fill 134 = .ok (.ladd, 1) := by decide +kernel
theorem dX9_fill_135 : decode cX9_fill 135 = .ok (.lastore, 1) := by decide +kernel
theorem dX9_fill_136 : decode cX9_fill 136 = .ok (.aload_n 0, 1) := by decide +kernel
theorem dX9_fill_137 : decode cX9_fill 137 = .ok (.getfield 74, 3) := by decide +kernel
theorem dX9_fill_140 : decode cX9_fill 140 = .ok (.iload_n 2, 1) := by decide +kernel
theorem dX9_fill_141 : decode cX9_fill 141 = .ok (.iload_n 1, 1) := by decide +kernel
theorem dX9_fill_142 : decode cX9_fill 142 = .ok (.iastore, 1) := by decide +kernel
theorem dX9_fill_143 : decode cX9_fill 143 = .ok (.aload_n 0, 1) := by decide +kernel
theorem dX9_fill_144 : decode cX9_fill 144 = .ok (.getfield 77, 3) := by decide +kernel
theorem dX9_fill_147 : decode cX9_fill 147 = .ok (.iload_n 2, 1) := by decide +kernel
theorem dX9_fill_148 : decode cX9_fill 148 = .ok (.aload_n 0, 1) := by decide +kernel
theorem dX9_fill_149 : decode cX9_fill 149 = .ok (.getfield 178, 3) := by decide +kernel
theorem dX9_fill_152 : decode cX9_fill 152 = .ok (.iastore, 1) := by decide +kernel
theorem dX9_fill_153 : decode cX9_fill 153 = .ok (.aload_n 0, 1) := by decide +kernel
theorem dX9_fill_154 : decode cX9_fill 154 = .ok (.getfield 65, 3) := by decide +kernel
theorem dX9_fill_157 : decode cX9_fill 157 = .ok (.iload_n 2, 1) := by decide +kernel
theorem dX9_fill_158 : decode cX9_fill 158 = .ok (.iaload, 1) := by decide +kernel
theorem dX9_fill_159 : decode cX9_fill 159 = .ok (.aload_n 0, 1) := by decide +kernel
theorem dX9_fill_160 : decode cX9_fill 160 = .ok (.getfield 44, 3) := by decide +kernel
theorem dX9_fill_163 : decode cX9_fill 163 = .ok (.iload_n 2, 1) := by decide +kernel
theorem dX9_fill_164 : decode cX9_fill 164 = .ok (.iaload, 1) := by decide +kernel
theorem dX9_fill_165 : decode cX9_fill 165 = .ok (.if_icmp .ne 28, 3) := by decide +kernel
theorem dX9_fill_168 : decode cX9_fill 168 = .ok (.aload_n 0, 1) := by decide +kernel
theorem dX9_fill_169 : decode cX9_fill 169 = .ok (.getfield 59, 3) := by decide +kernel
theorem dX9_fill_172 : decode cX9_fill 172 = .ok (.iload_n 2, 1) := by decide +kernel
theorem dX9_fill_173 : decode cX9_fill 173 = .ok (.iconst 1, 1) := by decide +kernel
theorem dX9_fill_174 : decode cX9_fill 174 = .ok (.iastore, 1) := by decide +kernel
theorem dX9_fill_175 : decode cX9_fill 175 = .ok (.aload_n 0, 1) := by decide +kernel
theorem dX9_fill_176 : decode cX9_fill 176 = .ok (.getfield 62, 3) := by decide +kernel
theorem dX9_fill_179 : decode cX9_fill 179 = .ok (.iload_n 2, 1) := by decide +kernel
theorem dX9_fill_180 : decode cX9_fill 180 = .ok (.aload_n 0, 1) := by decide +kernel
theorem dX9_fill_181 : decode cX9_fill 181 = .ok (.iload_n 2, 1) := by decide +kernel
theorem dX9_fill_182 : decode cX9_fill 182 = .ok (.aload_n 0, 1) := by decide +kernel
theorem dX9_fill_183 : decode cX9_fill 183 = .ok (.getfield 50, 3) := by decide +kernel
theorem dX9_fill_186 : decode cX9_fill 186 = .ok (.iload_n 2, 1) := by decide +kernel
theorem dX9_fill_187 : decode cX9_fill 187 = .ok (.iaload, 1) := by decide +kernel
theorem dX9_fill_188 : decode cX9_fill 188 = .ok (.iconst 1, 1) := by decide +kernel
theorem dX9_fill_189 : decode cX9_fill 189 = .ok (.invokevirtual 181, 3) := by decide +kernel
theorem dX9_fill_192 : decode cX9_fill 192 = .ok (.iastore, 1) := by decide +kernel
theorem dX9_fill_193 : decode cX9_fill 193 = .ok (.return_, 1) := by decide +kernel
theorem dX9_keep_0 : decode cX9_keep 0 = .ok (.aload_n 0, 1) := by decide +kernel
theorem dX9_keep_1 : decode cX9_keep 1 = .ok (.getfield 185, 3) := by decide +kernel
theorem dX9_keep_4 : decode cX9_keep 4 = .ok (.bipush 100, 2) := by decide +kernel
theorem dX9_keep_6 : decode cX9_keep 6 = .ok (.if_icmp .ne 48, 3) := by decide +kernel
theorem dX9_keep_9 : decode cX9_keep 9 = .ok (.bipush 6, 2) := by decide +kernel
theorem dX9_keep_11 : decode cX9_keep 11 = .ok (.istore 4, 2) := by decide +kernel
theorem dX9_keep_13 : decode cX9_keep 13 = .ok (.iload 4, 2) := by decide +kernel
theorem dX9_keep_15 : decode cX9_keep 15 = .ok (.sipush 600, 3) := by decide +kernel
theorem dX9_keep_18 : decode cX9_keep 18 = .ok (.if_icmp .ge 26, 3) := by decide +kernel
theorem dX9_keep_21 : decode cX9_keep 21 = .ok (.aload_n 0, 1) := by decide +kernel
theorem dX9_keep_22 : decode cX9_keep 22 = .ok (.getfield 97, 3) := by decide +kernel
theorem dX9_keep_25 : decode cX9_keep 25 = .ok (.iload 4, 2) := by decide +kernel
theorem dX9_keep_27 : decode cX9_keep 27 = .ok (.bipush 6, 2) := by decide +kernel
theorem dX9_keep_29 : decode cX9_keep 29 = .ok (.isub, 1) := by decide +kernel
theorem dX9_keep_30 : decode cX9_keep 30 = .ok (.aload_n 0, 1) := by decide +kernel
theorem dX9_keep_31 : decode cX9_keep 31 = .ok (.getfield 97, 3) := by decide +kernel
theorem dX9_keep_34 : decode cX9_keep 34 = .ok (.iload 4, 2) := by decide +kernel
theorem dX9_keep_36 : decode cX9_keep 36 = .ok (.iaload, 1) := by decide +kernel
theorem dX9_keep_37 : decode cX9_keep 37 = .ok (.iastore, 1) := by decide +kernel
theorem dX9_keep_38 : decode cX9_keep 38 = .ok (.iinc 4 1, 3) := by decide +kernel
theorem dX9_keep_41 : decode cX9_keep 41 = .ok (.goto (-28), 3) := by decide +kernel
theorem dX9_keep_44 : decode cX9_keep 44 = .ok (.aload_n 0, 1) := by decide +kernel
theorem dX9_keep_45 : decode cX9_keep 45 = .ok (.dup, 1) := by decide +kernel
theorem dX9_keep_46 : decode cX9_keep 46 = .ok (.getfield 185, 3) := by decide +kernel
theorem dX9_keep_49 : decode cX9_keep 49 = .ok (.iconst 1, 1) := by decide +kernel
theorem dX9_keep_50 : decode cX9_keep 50 = .ok (.isub, 1) := by decide +kernel
theorem dX9_keep_51 : decode cX9_keep 51 = .ok (.putfield 185, 3) := by decide +kernel
theorem dX9_keep_54 : decode cX9_keep 54 = .ok (.bipush 6, 2) := by decide +kernel
theorem dX9_keep_56 : decode cX9_keep 56 = .ok (.aload_n 0, 1) := by decide +kernel
theorem dX9_keep_57 : decode cX9_keep 57 = .ok (.getfield 185, 3) := by decide +kernel
theorem dX9_keep_60 : decode cX9_keep 60 = .ok (.imul, 1) := by decide +kernel
theorem dX9_keep_61 : decode cX9_keep 61 = .ok (.istore 4, 2) := by decide +kernel
theorem dX9_keep_63 : decode cX9_keep 63 = .ok (.aload_n 0, 1) := by decide +kernel
theorem dX9_keep_64 : decode cX9_keep 64 = .ok (.getfield 97, 3) := by decide +kernel
theorem dX9_keep_67 : decode cX9_keep 67 = .ok (.iload 4, 2) := by decide +kernel
theorem dX9_keep_69 : decode cX9_keep 69 = .ok (.iload_n 1, 1) := by decide +kernel
theorem dX9_keep_70 : decode cX9_keep 70 = .ok (.iastore, 1) := by decide +kernel
theorem dX9_keep_71 : decode cX9_keep 71 = .ok (.aload_n 0, 1) := by decide +kernel
theorem dX9_keep_72 : decode cX9_keep 72 = .ok (.getfield 97, 3) := by decide +kernel
theorem dX9_keep_75 : decode cX9_keep 75 = .ok (.iload 4, 2) := by decide +kernel
theorem dX9_keep_77 : decode cX9_keep 77 = .ok (.iconst 1, 1) := by decide +kernel
theorem dX9_keep_78 : decode cX9_keep 78 = .ok (.iadd, 1) := by decide +kernel
theorem dX9_keep_79 : decode cX9_keep 79 = .ok (.iload_n 2, 1) := by decide +kernel
theorem dX9_keep_80 : decode cX9_keep 80 = .ok (.iastore, 1) := by decide +kernel
theorem dX9_keep_81 : decode cX9_keep 81 = .ok (.aload_n 0, 1) := by decide +kernel
theorem dX9_keep_82 : decode cX9_keep 82 = .ok (.getfield 97, 3) := by decide +kernel
theorem dX9_keep_85 : decode cX9_keep 85 = .ok (.iload 4, 2) := by decide +kernel
theorem dX9_keep_87 : decode cX9_keep 87 = .ok (.iconst 2, 1) := by decide +kernel
theorem dX9_keep_88 : decode cX9_keep 88 = .ok (.iadd, 1) := by decide +kernel
theorem dX9_keep_89 : decode cX9_keep 89 = .ok (.iload_n 3, 1) := by decide +kernel
theorem dX9_keep_90 : decode cX9_keep 90 = .ok (.iastore, 1) := by decide +kernel
theorem dX9_keep_91 : decode cX9_keep 91 = .ok (.aload_n 0, 1) := by decide +kernel
theorem dX9_keep_92 : decode cX9_keep 92 = .ok (.getfield 97, 3) := by decide +kernel
theorem dX9_keep_95 : decode cX9_keep 95 = .ok (.iload 4, 2) := by decide +kernel
theorem dX9_keep_97 : decode cX9_keep 97 = .ok (.iconst 3, 1) := by decide +kernel
theorem dX9_keep_98 : decode cX9_keep 98 = .ok (.iadd, 1) := by decide +kernel
theorem dX9_keep_99 : decode cX9_keep 99 = .ok (.aload_n 0, 1) := by decide +kernel
theorem dX9_keep_100 : decode cX9_keep 100 = .ok (.getfield 178, 3) := by decide +kernel
theorem dX9_keep_103 : decode cX9_keep 103 = .ok (.iastore, 1) := by decide +kernel
theorem dX9_keep_104 : decode cX9_keep 104 = .ok (.aload_n 0, 1) := by decide +kernel
theorem dX9_keep_105 : decode cX9_keep 105 = .ok (.getfield 97, 3) := by decide +kernel
theorem dX9_keep_108 : decode cX9_keep 108 = .ok (.iload 4, 2) := by decide +kernel
theorem dX9_keep_110 : decode cX9_keep 110 = .ok (.iconst 4, 1) := by decide +kernel
theorem dX9_keep_111 : decode cX9_keep 111 = .ok (.iadd, 1) := by decide +kernel
theorem dX9_keep_112 : decode cX9_keep 112 = .ok (.aload_n 0, 1) := by decide +kernel
theorem dX9_keep_113 : decode cX9_keep 113 = .ok (.getfield 74, 3) := by decide +kernel
theorem dX9_keep_116 : decode cX9_keep 116 = .ok (.iload_n 1, 1) := by decide +kernel
theorem dX9_keep_117 : decode cX9_keep 117 = .ok (.iaload, 1) := by decide +kernel
theorem dX9_keep_118 : decode cX9_keep 118 = .ok (.iastore, 1) := by decide +kernel
theorem dX9_keep_119 : decode cX9_keep 119 = .ok (.aload_n 0, 1) := by decide +kernel
theorem dX9_keep_120 : decode cX9_keep 120 = .ok (.getfield 97, 3) := by decide +kernel
theorem dX9_keep_123 : decode cX9_keep 123 = .ok (.iload 4, 2) := by decide +kernel
theorem dX9_keep_125 : decode cX9_keep 125 = .ok (.iconst 5, 1) := by decide +kernel
theorem dX9_keep_126 : decode cX9_keep 126 = .ok (.iadd, 1) := by decide +kernel
theorem dX9_keep_127 : decode cX9_keep 127 = .ok (.aload_n 0, 1) := by decide +kernel
theorem dX9_keep_128 : decode cX9_keep 128 = .ok (.getfield 77, 3) := by decide +kernel
theorem dX9_keep_131 : decode cX9_keep 131 = .ok (.iload_n 1, 1) := by decide +kernel
theorem dX9_keep_132 : decode cX9_keep 132 = .ok (.iaload, 1) := by decide +kernel
theorem dX9_keep_133 : decode cX9_keep 133 = .ok (.iastore, 1) := by decide +kernel
theorem dX9_keep_134 : decode cX9_keep 134 = .ok (.aload_n 0, 1) := by decide +kernel
theorem dX9_keep_135 : decode cX9_keep 135 = .ok (.dup, 1) := by decide +kernel
theorem dX9_keep_136 : decode cX9_keep 136 = .ok (.getfield 185, 3) := by decide +kernel
theorem dX9_keep_139 : decode cX9_keep 139 = .ok (.iconst 1, 1) := by decide +kernel
theorem dX9_keep_140 : decode cX9_keep 140 = .ok (.iadd, 1) := by decide +kernel
theorem dX9_keep_141 : decode cX9_keep 141 = .ok (.putfield 185, 3) := by decide +kernel
theorem dX9_keep_144 : decode cX9_keep 144 = .ok (.return_, 1) := by decide +kernel
theorem dX9_goDown_0 : decode cX9_goDown 0 = .ok (.aload_n 0, 1) := by decide +kernel
theorem dX9_goDown_1 : decode cX9_goDown 1 = .ok (.getfield 59, 3) := by decide +kernel
theorem dX9_goDown_4 : decode cX9_goDown 4 = .ok (.iload_n 1, 1) := by decide +kernel
theorem dX9_goDown_5 : decode cX9_goDown 5 = .ok (.iconst 2, 1) := by decide +kernel
theorem dX9_goDown_6 : decode cX9_goDown 6 = .ok (.iastore, 1) := by decide +kernel
theorem dX9_goDown_7 : decode cX9_goDown 7 = .ok (.aload_n 0, 1) := by decide +kernel
theorem dX9_goDown_8 : decode cX9_goDown 8 = .ok (.getfield 62, 3) := by decide +kernel
theorem dX9_goDown_11 : decode cX9_goDown 11 = .ok (.iload_n 1, 1) := by decide +kernel
theorem dX9_goDown_12 : decode cX9_goDown 12 = .ok (.aload_n 0, 1) := by decide +kernel
theorem dX9_goDown_13 : decode cX9_goDown 13 = .ok (.iload_n 1, 1) := by decide +kernel
theorem dX9_goDown_14 : decode cX9_goDown 14 = .ok (.aload_n 0, 1) := by decide +kernel
theorem dX9_goDown_15 : decode cX9_goDown 15 = .ok (.getfield 50, 3) := by decide +kernel
theorem dX9_goDown_18 : decode cX9_goDown 18 = .ok (.iload_n 1, 1) := by decide +kernel
theorem dX9_goDown_19 : decode cX9_goDown 19 = .ok (.iaload, 1) := by decide +kernel
theorem dX9_goDown_20 : decode cX9_goDown 20 = .ok (.iconst 0, 1) := by decide +kernel
theorem dX9_goDown_21 : decode cX9_goDown 21 = .ok (.invokevirtual 181, 3) := by decide +kernel
theorem dX9_goDown_24 : decode cX9_goDown 24 = .ok (.iastore, 1) := by decide +kernel
theorem dX9_goDown_25 : decode cX9_goDown 25 = .ok (.return_, 1) := by decide +kernel
theorem dX9_pour_0 : decode cX9_pour 0 = .ok (.aload_n 0, 1) := by decide +kernel
theorem dX9_pour_1 : decode cX9_pour 1 = .ok (.getfield 50, 3) := by decide +kernel
theorem dX9_pour_4 : decode cX9_pour 4 = .ok (.iload_n 1, 1) := by decide +kernel
theorem dX9_pour_5 : decode cX9_pour 5 = .ok (.iaload, 1) := by decide +kernel
theorem dX9_pour_6 : decode cX9_pour 6 = .ok (.istore_n 2, 1) := by decide +kernel
theorem dX9_pour_7 : decode cX9_pour 7 = .ok (.aload_n 0, 1) := by decide +kernel
theorem dX9_pour_8 : decode cX9_pour 8 = .ok (.getfield 65, 3) := by decide +kernel
theorem dX9_pour_11 : decode cX9_pour 11 = .ok (.iload_n 1, 1) := by decide +kernel
theorem dX9_pour_12 : decode cX9_pour 12 = .ok (.iaload, 1) := by decide +kernel
theorem dX9_pour_13 : decode cX9_pour 13 = .ok (.aload_n 0, 1) := by decide +kernel
theorem dX9_pour_14 : decode cX9_pour 14 = .ok (.getfield 26, 3) := by decide +kernel
theorem dX9_pour_17 : decode cX9_pour 17 = .ok (.iload_n 2, 1) := by decide +kernel
theorem dX9_pour_18 : decode cX9_pour 18 = .ok (.iaload, 1) := by decide +kernel
theorem dX9_pour_19 : decode cX9_pour 19 = .ok (.aload_n 0, 1) := by decide +kernel
theorem dX9_pour_20 : decode cX9_pour 20 = .ok (.getfield 32, 3) := by decide +kernel
theorem dX9_pour_23 : decode cX9_pour 23 = .ok (.iload_n 2, 1) := by decide +kernel
theorem dX9_pour_24 : decode cX9_pour 24 = .ok (.iaload, 1) := by decide +kernel
theorem dX9_pour_25 : decode cX9_pour 25 = .ok (.isub, 1) := by decide +kernel
theorem dX9_pour_26 : decode cX9_pour 26 = .ok (.invokestatic 175, 3) := by decide +kernel
theorem dX9_pour_29 : decode cX9_pour 29 = .ok (.istore_n 3, 1) := by decide +kernel
theorem dX9_pour_30 : decode cX9_pour 30 = .ok (.iload_n 3, 1) := by decide +kernel
theorem dX9_pour_31 : decode cX9_pour 31 = .ok (.ifCond .le 87, 3) := by decide +kernel
theorem dX9_pour_34 : decode cX9_pour 34 = .ok (.aload_n 0, 1) := by decide +kernel
theorem dX9_pour_35 : decode cX9_pour 35 = .ok (.getfield 65, 3) := by decide +kernel
theorem dX9_pour_38 : decode cX9_pour 38 = .ok (.iload_n 1, 1) := by decide +kernel
theorem dX9_pour_39 : decode cX9_pour 39 = .ok (.dup2, 1) := by decide +kernel
theorem dX9_pour_40 : decode cX9_pour 40 = .ok (.iaload, 1) := by decide +kernel
theorem dX9_pour_41 : decode cX9_pour 41 = .ok (.iload_n 3, 1) := by decide +kernel
theorem dX9_pour_42 : decode cX9_pour 42 = .ok (.isub, 1) := by decide +kernel
theorem dX9_pour_43 : decode cX9_pour 43 = .ok (.iastore, 1) := by decide +kernel
theorem dX9_pour_44 : decode cX9_pour 44 = .ok (.aload_n 0, 1) := by decide +kernel
theorem dX9_pour_45 : decode cX9_pour 45 = .ok (.getfield 32, 3) := by decide +kernel
theorem dX9_pour_48 : decode cX9_pour 48 = .ok (.iload_n 2, 1) := by decide +kernel
theorem dX9_pour_49 : decode cX9_pour 49 = .ok (.dup2, 1) := by decide +kernel
theorem dX9_pour_50 : decode cX9_pour 50 = .ok (.iaload, 1) := by decide +kernel
theorem dX9_pour_51 : decode cX9_pour 51 = .ok (.iload_n 3, 1) := by decide +kernel
theorem dX9_pour_52 : decode cX9_pour 52 = .ok (.iadd, 1) := by decide +kernel
theorem dX9_pour_53 : decode cX9_pour 53 = .ok (.iastore, 1) := by decide +kernel
theorem dX9_pour_54 : decode cX9_pour 54 = .ok (.aload_n 0, 1) := by decide +kernel
theorem dX9_pour_55 : decode cX9_pour 55 = .ok (.getfield 68, 3) := by decide +kernel
theorem dX9_pour_58 : decode cX9_pour 58 = .ok (.iload_n 1, 1) := by decide +kernel
theorem dX9_pour_59 : decode cX9_pour 59 = .ok (.dup2, 1) := by decide +kernel
theorem dX9_pour_60 : decode cX9_pour 60 = .ok (.iaload, 1) := by decide +kernel
theorem dX9_pour_61 : decode cX9_pour 61 = .ok (.iload_n 3, 1) := by decide +kernel
theorem dX9_pour_62 : decode cX9_pour 62 = .ok (.aload_n 0, 1) := by decide +kernel
theorem dX9_pour_63 : decode cX9_pour 63 = .ok (.getfield 91, 3) := by decide +kernel
theorem dX9_pour_66 : decode cX9_pour 66 = .ok (.aload_n 0, 1) := by decide +kernel
theorem dX9_pour_67 : decode cX9_pour 67 = .ok (.getfield 23, 3) := by decide +kernel
theorem dX9_pour_70 : decode cX9_pour 70 = .ok (.iload_n 2, 1) := by decide +kernel
theorem dX9_pour_71 : decode cX9_pour 71 = .ok (.iaload, 1) := by decide +kernel
theorem dX9_pour_72 : decode cX9_pour 72 = .ok (.iaload, 1) := by decide +kernel
theorem dX9_pour_73 : decode cX9_pour 73 = .ok (.imul, 1) := by decide +kernel
theorem dX9_pour_74 : decode cX9_pour 74 = .ok (.iadd, 1) := by decide +kernel
theorem dX9_pour_75 : decode cX9_pour 75 = .ok (.iastore, 1) := by decide +kernel
theorem dX9_pour_76 : decode cX9_pour 76 = .ok (.aload_n 0, 1) := by decide +kernel
theorem dX9_pour_77 : decode cX9_pour 77 = .ok (.getfield 84, 3) := by decide +kernel
theorem dX9_pour_80 : decode cX9_pour 80 = .ok (.iconst 3, 1) := by decide +kernel
theorem dX9_pour_81 : decode cX9_pour 81 = .ok (.dup2, 1) := by decide +kernel
theorem dX9_pour_82 : decode cX9_pour 82 = .ok (.laload, 1) := by decide +kernel
theorem dX9_pour_83 : decode cX9_pour 83 = .ok (.iload_n 3, 1) := by decide +kernel
theorem dX9_pour_84 : decode cX9_pour 84 = .ok (.i2l, 1) := by decide +kernel
theorem dX9_pour_85 : decode cX9_pour 85 = .ok (.ladd, 1) := by decide +kernel
theorem dX9_pour_86 : decode cX9_pour 86 = .ok (.lastore, 1) := by decide +kernel
theorem dX9_pour_87 : decode cX9_pour 87 = .ok (.aload_n 0, 1) := by decide +kernel
theorem dX9_pour_88 : decode cX9_pour 88 = .ok (.getfield 84, 3) := by decide +kernel
theorem dX9_pour_91 : decode cX9_pour 91 = .ok (.bipush 6, 2) := by decide +kernel
theorem dX9_pour_93 : decode cX9_pour 93 = .ok (.dup2, 1) := by decide +kernel
theorem dX9_pour_94 : decode cX9_pour 94 = .ok (.laload, 1) := by decide +kernel
theorem dX9_pour_95 : decode cX9_pour 95 = .ok (.iload_n 3, 1) := by decide +kernel
theorem dX9_pour_96 : decode cX9_pour 96 = .ok (.aload_n 0, 1) := by decide +kernel
theorem dX9_pour_97 : decode cX9_pour 97 = .ok (.getfield 91, 3) := by decide +kernel
theorem dX9_pour_100 : decode cX9_pour 100 = .ok (.aload_n 0, 1) := by decide +kernel
theorem dX9_pour_101 : decode cX9_pour 101 = .ok (.getfield 23, 3) := by decide +kernel
theorem dX9_pour_104 : decode cX9_pour 104 = .ok (.iload_n 2, 1) := by decide +kernel
theorem dX9_pour_105 : decode cX9_pour 105 = .ok (.iaload, 1) := by decide +kernel
theorem dX9_pour_106 : decode cX9_pour 106 = .ok (.iaload, 1) := by decide +kernel
theorem dX9_pour_107 : decode cX9_pour 107 = .ok (.imul, 1) := by decide +kernel
theorem dX9_pour_108 : decode cX9_pour 108 = .ok (.i2l, 1) := by decide +kernel
theorem dX9_pour_109 : decode cX9_pour 109 = .ok (.ladd, 1) := by decide +kernel
theorem dX9_pour_110 : decode cX9_pour 110 = .ok (.lastore, 1) := by decide +kernel
theorem dX9_pour_111 : decode cX9_pour 111 = .ok (.aload_n 0, 1) := by decide +kernel
theorem dX9_pour_112 : decode cX9_pour 112 = .ok (.iload_n 1, 1) := by decide +kernel
theorem dX9_pour_113 : decode cX9_pour 113 = .ok (.iload_n 2, 1) := by decide +kernel
theorem dX9_pour_114 : decode cX9_pour 114 = .ok (.iload_n 3, 1) := by decide +kernel
theorem dX9_pour_115 : decode cX9_pour 115 = .ok (.invokevirtual 188, 3) := by decide +kernel
theorem dX9_pour_118 : decode cX9_pour 118 = .ok (.aload_n 0, 1) := by decide +kernel
theorem dX9_pour_119 : decode cX9_pour 119 = .ok (.iload_n 1, 1) := by decide +kernel
theorem dX9_pour_120 : decode cX9_pour 120 = .ok (.invokevirtual 192, 3) := by decide +kernel
theorem dX9_pour_123 : decode cX9_pour 123 = .ok (.return_, 1) := by decide +kernel
theorem dX9_minute_0 : decode cX9_minute 0 = .ok (.iconst 0, 1) := by decide +kernel
theorem dX9_minute_1 : decode cX9_minute 1 = .ok (.istore_n 1, 1) := by decide +kernel
theorem dX9_minute_2 : decode cX9_minute 2 = .ok (.iload_n 1, 1) := by decide +kernel
theorem dX9_minute_3 : decode cX9_minute 3 = .ok (.aload_n 0, 1) := by decide +kernel
theorem dX9_minute_4 : decode cX9_minute 4 = .ok (.getfield 126, 3) := by decide +kernel
theorem dX9_minute_7 : decode cX9_minute 7 = .ok (.if_icmp .ge 29, 3) := by decide +kernel
theorem dX9_minute_10 : decode cX9_minute 10 = .ok (.aload_n 0, 1) := by decide +kernel
theorem dX9_minute_11 : decode cX9_minute 11 = .ok (.getfield 100, 3) := by decide +kernel
theorem dX9_minute_14 : decode cX9_minute 14 = .ok (.iload_n 1, 1) := by decide +kernel
theorem dX9_minute_15 : decode cX9_minute 15 = .ok (.aload_n 0, 1) := by decide +kernel
theorem dX9_minute_16 : decode cX9_minute 16 = .ok (.getfield 59, 3) := by decide +kernel
theorem dX9_minute_19 : decode cX9_minute 19 = .ok (.iload_n 1, 1) := by decide +kernel
theorem dX9_minute_20 : decode cX9_minute 20 = .ok (.iaload, 1) := by decide +kernel
theorem dX9_minute_21 : decode cX9_minute 21 = .ok (.ifCond .eq 7, 3) := by decide +kernel
theorem dX9_minute_24 : decode cX9_minute 24 = .ok (.iconst 1, 1) := by decide +kernel
theorem dX9_minute_25 : decode cX9_minute 25 = .ok (.goto 4, 3) := by decide +kernel
theorem dX9_minute_28 : decode cX9_minute 28 = .ok (.iconst 0, 1) := by decide +kernel
theorem dX9_minute_29 : decode cX9_minute 29 = .ok (.bastore, 1) := by decide +kernel
theorem dX9_minute_30 : decode cX9_minute 30 = .ok (.iinc 1 1, 3) := by decide +kernel
theorem dX9_minute_33 : decode cX9_minute 33 = .ok (.goto (-31), 3) := by decide +kernel
theorem dX9_minute_36 : decode cX9_minute 36 = .ok (.iconst 0, 1) := by decide +kernel
theorem dX9_minute_37 : decode cX9_minute 37 = .ok (.istore_n 1, 1) := by decide +kernel
theorem dX9_minute_38 : decode cX9_minute 38 = .ok (.iload_n 1, 1) := by decide +kernel
theorem dX9_minute_39 : decode cX9_minute 39 = .ok (.aload_n 0, 1) := by decide +kernel
theorem dX9_minute_40 : decode cX9_minute 40 = .ok (.getfield 119, 3) := by decide +kernel
theorem dX9_minute_43 : decode cX9_minute 43 = .ok (.if_icmp .ge 23, 3) := by decide +kernel
theorem dX9_minute_46 : decode cX9_minute 46 = .ok (.aload_n 0, 1) := by decide +kernel
theorem dX9_minute_47 : decode cX9_minute 47 = .ok (.getfield 16, 3) := by decide +kernel
theorem dX9_minute_50 : decode cX9_minute 50 = .ok (.iload_n 1, 1) := by decide +kernel
theorem dX9_minute_51 : decode cX9_minute 51 = .ok (.baload, 1) := by decide +kernel
theorem dX9_minute_52 : decode cX9_minute 52 = .ok (.ifCond .eq 8, 3) := by decide +kernel
theorem dX9_minute_55 : decode cX9_minute 55 = .ok (.aload_n 0, 1) := by decide +kernel
theorem dX9_minute_56 : decode cX9_minute 56 = .ok (.iload_n 1, 1) := by decide +kernel
theorem dX9_minute_57 : decode cX9_minute 57 = .ok (.invokevirtual 195, 3) := by decide +kernel
theorem dX9_minute_60 : decode cX9_minute 60 = .ok (.iinc 1 1, 3) := by decide +kernel
theorem dX9_minute_63 : decode cX9_minute 63 = .ok (.goto (-25), 3) := by decide +kernel
theorem dX9_minute_66 : decode cX9_minute 66 = .ok (.iconst 0, 1) := by decide +kernel
theorem dX9_minute_67 : decode cX9_minute 67 = .ok (.istore_n 1, 1) := by decide +kernel
theorem dX9_minute_68 : decode cX9_minute 68 = .ok (.iload_n 1, 1) := by decide +kernel
theorem dX9_minute_69 : decode cX9_minute 69 = .ok (.aload_n 0, 1) := by decide +kernel
theorem dX9_minute_70 : decode cX9_minute 70 = .ok (.getfield 119, 3) := by decide +kernel
theorem dX9_minute_73 : decode cX9_minute 73 = .ok (.if_icmp .ge 23, 3) := by decide +kernel
theorem dX9_minute_76 : decode cX9_minute 76 = .ok (.aload_n 0, 1) := by decide +kernel
theorem dX9_minute_77 : decode cX9_minute 77 = .ok (.getfield 16, 3) := by decide +kernel
theorem dX9_minute_80 : decode cX9_minute 80 = .ok (.iload_n 1, 1) := by decide +kernel
theorem dX9_minute_81 : decode cX9_minute 81 = .ok (.baload, 1) := by decide +kernel
theorem dX9_minute_82 : decode cX9_minute 82 = .ok (.ifCond .eq 8, 3) := by decide +kernel
theorem dX9_minute_85 : decode cX9_minute 85 = .ok (.aload_n 0, 1) := by decide +kernel
theorem dX9_minute_86 : decode cX9_minute 86 = .ok (.iload_n 1, 1) := by decide +kernel
theorem dX9_minute_87 : decode cX9_minute 87 = .ok (.invokevirtual 198, 3) := by decide +kernel
theorem dX9_minute_90 : decode cX9_minute 90 = .ok (.iinc 1 1, 3) := by decide +kernel
theorem dX9_minute_93 : decode cX9_minute 93 = .ok (.goto (-25), 3) := by decide +kernel
theorem dX9_minute_96 : decode cX9_minute 96 = .ok (.iconst 0, 1) := by decide +kernel
theorem dX9_minute_97 : decode cX9_minute 97 = .ok (.istore_n 1, 1) := by decide +kernel
theorem dX9_minute_98 : decode cX9_minute 98 = .ok (.iload_n 1, 1) := by decide +kernel
theorem dX9_minute_99 : decode cX9_minute 99 = .ok (.aload_n 0, 1) := by decide +kernel
theorem dX9_minute_100 : decode cX9_minute 100 = .ok (.getfield 126, 3) := by decide +kernel
theorem dX9_minute_103 : decode cX9_minute 103 = .ok (.if_icmp .ge 60, 3) := by decide +kernel
theorem dX9_minute_106 : decode cX9_minute 106 = .ok (.aload_n 0, 1) := by decide +kernel
theorem dX9_minute_107 : decode cX9_minute 107 = .ok (.getfield 100, 3) := by decide +kernel
theorem dX9_minute_110 : decode cX9_minute 110 = .ok (.iload_n 1, 1) := by decide +kernel
theorem dX9_minute_111 : decode cX9_minute 111 = .ok (.baload, 1) := by decide +kernel
theorem dX9_minute_112 : decode cX9_minute 112 = .ok (.ifCond .eq 45, 3) := by decide +kernel
theorem dX9_minute_115 : decode cX9_minute 115 = .ok (.aload_n 0, 1) := by decide +kernel
theorem dX9_minute_116 : decode cX9_minute 116 = .ok (.getfield 62, 3) := by decide +kernel
theorem dX9_minute_119 : decode cX9_minute 119 = .ok (.iload_n 1, 1) := by decide +kernel
theorem dX9_minute_120 : decode cX9_minute 120 = .ok (.dup2, 1) := by decide +kernel
theorem dX9_minute_121 : decode cX9_minute 121 = .ok (.iaload, 1) := by decide +kernel
theorem dX9_minute_122 : decode cX9_minute 122 = .ok (.iconst 1, 1) := by decide +kernel
theorem dX9_minute_123 : decode cX9_minute 123 = .ok (.isub, 1) := by decide +kernel
theorem dX9_minute_124 : decode cX9_minute 124 = .ok (.iastore, 1) := by decide +kernel
theorem dX9_minute_125 : decode cX9_minute 125 = .ok (.aload_n 0, 1) := by decide +kernel
theorem dX9_minute_126 : decode cX9_minute 126 = .ok (.getfield 62, 3) := by decide +kernel
theorem dX9_minute_129 : decode cX9_minute 129 = .ok (.iload_n 1, 1) := by decide +kernel
theorem dX9_minute_130 : decode cX9_minute 130 = .ok (.iaload, 1) := by decide +kernel
theorem dX9_minute_131 : decode cX9_minute 131 = .ok (.ifCond .ne 26, 3) := by decide +kernel
theorem dX9_minute_134 : decode cX9_minute 134 = .ok (.aload_n 0, 1) := by decide +kernel
theorem dX9_minute_135 : decode cX9_minute 135 = .ok (.getfield 59, 3) := by decide +kernel
theorem dX9_minute_138 : decode cX9_minute 138 = .ok (.iload_n 1, 1) := by decide +kernel
theorem dX9_minute_139 : decode cX9_minute 139 = .ok (.iaload, 1) := by decide +kernel
theorem dX9_minute_140 : decode cX9_minute 140 = .ok (.iconst 1, 1) := by decide +kernel
theorem dX9_minute_141 : decode cX9_minute 141 = .ok (.if_icmp .ne 11, 3) := by decide +kernel
theorem dX9_minute_144 : decode cX9_minute 144 = .ok (.aload_n 0, 1) := by decide +kernel
theorem dX9_minute_145 : decode cX9_minute 145 = .ok (.iload_n 1, 1) := by decide +kernel
theorem dX9_minute_146 : decode cX9_minute 146 = .ok (.invokevirtual 201, 3) := by decide +kernel
theorem dX9_minute_149 : decode cX9_minute 149 = .ok (.goto 8, 3) := by decide +kernel
theorem dX9_minute_152 : decode cX9_minute 152 = .ok (.aload_n 0, 1) := by decide +kernel
theorem dX9_minute_153 : decode cX9_minute 153 = .ok (.iload_n 1, 1) := by decide +kernel
theorem dX9_minute_154 : decode cX9_minute 154 = .ok (.invokevirtual 142, 3) := by decide +kernel
theorem dX9_minute_157 : decode cX9_minute 157 = .ok (.iinc 1 1, 3) := by decide +kernel
theorem dX9_minute_160 : decode cX9_minute 160 = .ok (.goto (-62), 3) := by decide +kernel
theorem dX9_minute_163 : decode cX9_minute 163 = .ok (.iconst 0, 1) := by decide +kernel
theorem dX9_minute_164 : decode cX9_minute 164 = .ok (.istore_n 1, 1) := by decide +kernel
theorem dX9_minute_165 : decode cX9_minute 165 = .ok (.iload_n 1, 1) := by decide +kernel
theorem dX9_minute_166 : decode cX9_minute 166 = .ok (.aload_n 0, 1) := by decide +kernel
theorem dX9_minute_167 : decode cX9_minute 167 = .ok (.getfield 116, 3) := by decide +kernel
theorem dX9_minute_170 : decode cX9_minute 170 = .ok (.if_icmp .ge 56, 3) := by decide +kernel
theorem dX9_minute_173 : decode cX9_minute 173 = .ok (.aload_n 0, 1) := by decide +kernel
theorem dX9_minute_174 : decode cX9_minute 174 = .ok (.getfield 35, 3) := by decide +kernel
theorem dX9_minute_177 : decode cX9_minute 177 = .ok (.iload_n 1, 1) := by decide +kernel
theorem dX9_minute_178 : decode cX9_minute 178 = .ok (.iaload, 1) := by decide +kernel
theorem dX9_minute_179 : decode cX9_minute 179 = .ok (.aload_n 0, 1) := by decide +kernel
theorem dX9_minute_180 : decode cX9_minute 180 = .ok (.getfield 32, 3) := by decide +kernel
theorem dX9_minute_183 : decode cX9_minute 183 = .ok (.iload_n 1, 1) := by decide +kernel
theorem dX9_minute_184 : decode cX9_minute 184 = .ok (.iaload, 1) := by decide +kernel
theorem dX9_minute_185 : decode cX9_minute 185 = .ok (.invokestatic 175, 3) := by decide +kernel
theorem dX9_minute_188 : decode cX9_minute 188 = .ok (.istore_n 2, 1) := by decide +kernel
theorem dX9_minute_189 : decode cX9_minute 189 = .ok (.aload_n 0, 1) := by decide +kernel
theorem dX9_minute_190 : decode cX9_minute 190 = .ok (.getfield 32, 3) := by decide +kernel
theorem dX9_minute_193 : decode cX9_minute 193 = .ok (.iload_n 1, 1) := by decide +kernel
theorem dX9_minute_194 : decode cX9_minute 194 = .ok (.dup2, 1) := by decide +kernel
theorem dX9_minute_195 : decode cX9_minute 195 = .ok (.iaload, 1) := by decide +kernel
theorem dX9_minute_196 : decode cX9_minute 196 = .ok (.iload_n 2, 1) := by decide +kernel
theorem dX9_minute_197 : decode cX9_minute 197 = .ok (.isub, 1) := by decide +kernel
theorem dX9_minute_198 : decode cX9_minute 198 = .ok (.iastore, 1) := by decide +kernel
theorem dX9_minute_199 : decode cX9_minute 199 = .ok (.aload_n 0, 1) := by decide +kernel
theorem dX9_minute_200 : decode cX9_minute 200 = .ok (.getfield 38, 3) := by decide +kernel
theorem dX9_minute_203 : decode cX9_minute 203 = .ok (.iload_n 1, 1) := by decide +kernel
theorem dX9_minute_204 : decode cX9_minute 204 = .ok (.dup2, 1) := by decide +kernel
theorem dX9_minute_205 : decode cX9_minute 205 = .ok (.iaload, 1) := by decide +kernel
theorem dX9_minute_206 : decode cX9_minute 206 = .ok (.iload_n 2, 1) := by decide +kernel
theorem dX9_minute_207 : decode cX9_minute 207 = .ok (.iadd, 1) := by decide +kernel
theorem dX9_minute_208 : decode cX9_minute 208 = .ok (.iastore, 1) := by decide +kernel
theorem dX9_minute_209 : decode cX9_minute 209 = .ok (.aload_n 0, 1) := by decide +kernel
theorem dX9_minute_210 : decode cX9_minute 210 = .ok (.getfield 84, 3) := by decide +kernel
theorem dX9_minute_213 : decode cX9_minute 213 = .ok (.iconst 4, 1) := by decide +kernel
theorem dX9_minute_214 : decode cX9_minute 214 = .ok (.dup2, 1) := by decide +kernel
theorem dX9_minute_215 : decode cX9_minute 215 = .ok (.laload, 1) := by decide +kernel
theorem dX9_minute_216 : decode cX9_minute 216 = .ok (.iload_n 2, 1) := by decide +kernel
theorem dX9_minute_217 : decode cX9_minute 217 = .ok (.i2l, 1) := by decide +kernel
theorem dX9_minute_218 : decode cX9_minute 218 = .ok (.ladd, 1) := by decide +kernel
theorem dX9_minute_219 : decode cX9_minute 219 = .ok (.lastore, 1) := by decide +kernel
theorem dX9_minute_220 : decode cX9_minute 220 = .ok (.iinc 1 1, 3) := by decide +kernel
theorem dX9_minute_223 : decode cX9_minute 223 = .ok (.goto (-58), 3) := by decide +kernel
theorem dX9_minute_226 : decode cX9_minute 226 = .ok (.aload_n 0, 1) := by decide +kernel
theorem dX9_minute_227 : decode cX9_minute 227 = .ok (.dup, 1) := by decide +kernel
theorem dX9_minute_228 : decode cX9_minute 228 = .ok (.getfield 178, 3) := by decide +kernel
theorem dX9_minute_231 : decode cX9_minute 231 = .ok (.iconst 1, 1) := by decide +kernel
theorem dX9_minute_232 : decode cX9_minute 232 = .ok (.iadd, 1) := by decide +kernel
theorem dX9_minute_233 : decode cX9_minute 233 = .ok (.putfield 178, 3) := by decide +kernel
theorem dX9_minute_236 : decode cX9_minute 236 = .ok (.return_, 1) := by decide +kernel
theorem dX9_run_0 : decode cX9_run 0 = .ok (.iload_n 1, 1) := by decide +kernel
theorem dX9_run_1 : decode cX9_run 1 = .ok (.iconst 1, 1) := by decide +kernel
theorem dX9_run_2 : decode cX9_run 2 = .ok (.sipush 500, 3) := by decide +kernel
theorem dX9_run_5 : decode cX9_run 5 = .ok (.invokestatic 112, 3) := by decide +kernel
theorem dX9_run_8 : decode cX9_run 8 = .ok (.ifCond .ne 5, 3) := by decide +kernel
theorem dX9_run_11 : decode cX9_run 11 = .ok (.iconst (-1), 1) := by decide +kernel
theorem dX9_run_12 : decode cX9_run 12 = .ok (.ireturn, 1) := by decide +kernel
theorem dX9_run_13 : decode cX9_run 13 = .ok (.aload_n 0, 1) := by decide +kernel
theorem dX9_run_14 : decode cX9_run 14 = .ok (.getfield 178, 3) := by decide +kernel
theorem dX9_run_17 : decode cX9_run 17 = .ok (.iload_n 1, 1) := by decide +kernel
theorem dX9_run_18 : decode cX9_run 18 = .ok (.iadd, 1) := by decide +kernel
theorem dX9_run_19 : decode cX9_run 19 = .ok (.sipush 20000, 3) := by decide +kernel
theorem dX9_run_22 : decode cX9_run 22 = .ok (.if_icmp .le 6, 3) := by decide +kernel
theorem dX9_run_25 : decode cX9_run 25 = .ok (.bipush (-3), 2) := by decide +kernel
theorem dX9_run_27 : decode cX9_run 27 = .ok (.ireturn, 1) := by decide +kernel
theorem dX9_run_28 : decode cX9_run 28 = .ok (.iconst 0, 1) := by decide +kernel
theorem dX9_run_29 : decode cX9_run 29 = .ok (.istore_n 2, 1) := by decide +kernel
theorem dX9_run_30 : decode cX9_run 30 = .ok (.iload_n 2, 1) := by decide +kernel
theorem dX9_run_31 : decode cX9_run 31 = .ok (.iload_n 1, 1) := by decide +kernel
theorem dX9_run_32 : decode cX9_run 32 = .ok (.if_icmp .ge 13, 3) := by decide +kernel
theorem dX9_run_35 : decode cX9_run 35 = .ok (.aload_n 0, 1) := by decide +kernel
theorem dX9_run_36 : decode cX9_run 36 = .ok (.invokevirtual 204, 3) := by decide +kernel
theorem dX9_run_39 : decode cX9_run 39 = .ok (.iinc 2 1, 3) := by decide +kernel
theorem dX9_run_42 : decode cX9_run 42 = .ok (.goto (-12), 3) := by decide +kernel
theorem dX9_run_45 : decode cX9_run 45 = .ok (.aload_n 0, 1) := by decide +kernel
theorem dX9_run_46 : decode cX9_run 46 = .ok (.getfield 178, 3) := by decide +kernel
theorem dX9_run_49 : decode cX9_run 49 = .ok (.ireturn, 1) := by decide +kernel
theorem dX9_told_0 : decode cX9_told 0 = .ok (.aload_n 0, 1) := by decide +kernel
theorem dX9_told_1 : decode cX9_told 1 = .ok (.iload_n 1, 1) := by decide +kernel
theorem dX9_told_2 : decode cX9_told 2 = .ok (.invokevirtual 146, 3) := by decide +kernel
theorem dX9_told_5 : decode cX9_told 5 = .ok (.ifCond .ne 5, 3) := by decide +kernel
theorem dX9_told_8 : decode cX9_told 8 = .ok (.iconst (-1), 1) := by decide +kernel
theorem dX9_told_9 : decode cX9_told 9 = .ok (.ireturn, 1) := by decide +kernel
theorem dX9_told_10 : decode cX9_told 10 = .ok (.iload_n 2, 1) := by decide +kernel
theorem dX9_told_11 : decode cX9_told 11 = .ok (.tableswitch 198 0 8 #[49, 56, 140, 147, 154, 161, 168, 168, 191], 49) := by decide +kernel
theorem dX9_told_60 : decode cX9_told 60 = .ok (.aload_n 0, 1) := by decide +kernel
theorem dX9_told_61 : decode cX9_told 61 = .ok (.getfield 59, 3) := by decide +kernel
theorem dX9_told_64 : decode cX9_told 64 = .ok (.iload_n 1, 1) := by decide +kernel
theorem dX9_told_65 : decode cX9_told 65 = .ok (.iaload, 1) := by decide +kernel
theorem dX9_told_66 : decode cX9_told 66 = .ok (.ireturn, 1) := by decide +kernel
theorem dX9_told_67 : decode cX9_told 67 = .ok (.iconst 0, 1) := by decide +kernel
theorem dX9_told_68 : decode cX9_told 68 = .ok (.istore_n 3, 1) := by decide +kernel
theorem dX9_told_69 : decode cX9_told 69 = .ok (.iconst 0, 1) := by decide +kernel
theorem dX9_told_70 : decode cX9_told 70 = .ok (.istore 4, 2) := by decide +kernel
theorem dX9_told_72 : decode cX9_told 72 = .ok (.iload 4, 2) := by decide +kernel
theorem dX9_told_74 : decode cX9_told 74 = .ok (.aload_n 0, 1) := by decide +kernel
theorem dX9_told_75 : decode cX9_told 75 = .ok (.getfield 126, 3) := by decide +kernel
theorem dX9_told_78 : decode cX9_told 78 = .ok (.if_icmp .ge 53, 3) := by decide +kernel
theorem dX9_told_81 : decode cX9_told 81 = .ok (.iload_n 3, 1) := by decide +kernel
theorem dX9_told_82 : decode cX9_told 82 = .ok (.aload_n 0, 1) := by decide +kernel
theorem dX9_told_83 : decode cX9_told 83 = .ok (.getfield 59, 3) := by decide +kernel
theorem dX9_told_86 : decode cX9_told 86 = .ok (.iload 4, 2) := by decide +kernel
theorem dX9_told_88 : decode cX9_told 88 = .ok (.iaload, 1) := by decide +kernel
theorem dX9_told_89 : decode cX9_told 89 = .ok (.ifCond .ne 33, 3) := by decide +kernel
theorem dX9_told_92 : decode cX9_told 92 = .ok (.aload_n 0, 1) := by decide +kernel
theorem dX9_told_93 : decode cX9_told 93 = .ok (.getfield 47, 3) := by decide +kernel
theorem dX9_told_96 : decode cX9_told 96 = .ok (.iload 4, 2) := by decide +kernel
theorem dX9_told_98 : decode cX9_told 98 = .ok (.iaload, 1) := by decide +kernel
theorem dX9_told_99 : decode cX9_told 99 = .ok (.aload_n 0, 1) := by decide +kernel
theorem dX9_told_100 : decode cX9_told 100 = .ok (.getfield 47, 3) := by decide +kernel
theorem dX9_told_103 : decode cX9_told 103 = .ok (.iload_n 1, 1) := by decide +kernel
theorem dX9_told_104 : decode cX9_told 104 = .ok (.iaload, 1) := by decide +kernel
theorem dX9_told_105 : decode cX9_told 105 = .ok (.if_icmp .ne 17, 3) := by decide +kernel
theorem dX9_told_108 : decode cX9_told 108 = .ok (.aload_n 0, 1) := by decide +kernel
theorem dX9_told_109 : decode cX9_told 109 = .ok (.iload 4, 2) := by decide +kernel
theorem dX9_told_111 : decode cX9_told 111 = .ok (.iload_n 1, 1) := by decide +kernel
theorem dX9_told_112 : decode cX9_told 112 = .ok (.invokevirtual 172, 3) := by decide +kernel
theorem dX9_told_115 : decode cX9_told 115 = .ok (.ifCond .eq 7, 3) := by decide +kernel
theorem dX9_told_118 : decode cX9_told 118 = .ok (.iconst 1, 1) := by decide +kernel
theorem dX9_told_119 : decode cX9_told 119 = .ok (.goto 4, 3) := by decide +kernel
theorem dX9_told_122 : decode cX9_told 122 = .ok (.iconst 0, 1) := by decide +kernel
theorem dX9_told_123 : decode cX9_told 123 = .ok (.iadd, 1) := by decide +kernel
theorem dX9_told_124 : decode cX9_told 124 = .ok (.istore_n 3, 1) := by decide +kernel
theorem dX9_told_125 : decode cX9_told 125 = .ok (.iinc 4 1, 3) := by decide +kernel
theorem dX9_told_128 : decode cX9_told 128 = .ok (.goto (-56), 3) := by decide +kernel
theorem dX9_told_131 : decode cX9_told 131 = .ok (.aload_n 0, 1) := by decide +kernel
theorem dX9_told_132 : decode cX9_told 132 = .ok (.getfield 59, 3) := by decide +kernel
theorem dX9_told_135 : decode cX9_told 135 = .ok (.iload_n 1, 1) := by decide +kernel
theorem dX9_told_136 : decode cX9_told 136 = .ok (.iaload, 1) := by decide +kernel
theorem dX9_told_137 : decode cX9_told 137 = .ok (.ifCond .ne 7, 3) := by decide +kernel
theorem dX9_told_140 : decode cX9_told 140 = .ok (.iload_n 3, 1) := by decide +kernel
theorem dX9_told_141 : decode cX9_told 141 = .ok (.goto 9, 3) := by decide +kernel
theorem dX9_told_144 : decode cX9_told 144 = .ok (.aload_n 0, 1) := by decide +kernel
theorem dX9_told_145 : decode cX9_told 145 = .ok (.getfield 62, 3) := by decide +kernel
theorem dX9_told_148 : decode cX9_told 148 = .ok (.iload_n 1, 1) := by decide +kernel
theorem dX9_told_149 : decode cX9_told 149 = .ok (.iaload, 1) := by decide +kernel
theorem dX9_told_150 : decode cX9_told 150 = .ok (.ireturn, 1) := by decide +kernel
theorem dX9_told_151 : decode cX9_told 151 = .ok (.aload_n 0, 1) := by decide +kernel
theorem dX9_told_152 : decode cX9_told 152 = .ok (.getfield 65, 3) := by decide +kernel
theorem dX9_told_155 : decode cX9_told 155 = .ok (.iload_n 1, 1) := by decide +kernel
theorem dX9_told_156 : decode cX9_told 156 = .ok (.iaload, 1) := by decide +kernel
theorem dX9_told_157 : decode cX9_told 157 = .ok (.ireturn, 1) := by decide +kernel
theorem dX9_told_158 : decode cX9_told 158 = .ok (.aload_n 0, 1) := by decide +kernel
theorem dX9_told_159 : decode cX9_told 159 = .ok (.getfield 68, 3) := by decide +kernel
theorem dX9_told_162 : decode cX9_told 162 = .ok (.iload_n 1, 1) := by decide +kernel
theorem dX9_told_163 : decode cX9_told 163 = .ok (.iaload, 1) := by decide +kernel
theorem dX9_told_164 : decode cX9_told 164 = .ok (.ireturn, 1) := by decide +kernel
theorem dX9_told_165 : decode cX9_told 165 = .ok (.aload_n 0, 1) := by decide +kernel
theorem dX9_told_166 : decode cX9_told 166 = .ok (.getfield 47, 3) := by decide +kernel
theorem dX9_told_169 : decode cX9_told 169 = .ok (.iload_n 1, 1) := by decide +kernel
theorem dX9_told_170 : decode cX9_told 170 = .ok (.iaload, 1) := by decide +kernel
theorem dX9_told_171 : decode cX9_told 171 = .ok (.ireturn, 1) := by decide +kernel
theorem dX9_told_172 : decode cX9_told 172 = .ok (.aload_n 0, 1) := by decide +kernel
theorem dX9_told_173 : decode cX9_told 173 = .ok (.getfield 50, 3) := by decide +kernel
theorem dX9_told_176 : decode cX9_told 176 = .ok (.iload_n 1, 1) := by decide +kernel
theorem dX9_told_177 : decode cX9_told 177 = .ok (.iaload, 1) := by decide +kernel
theorem dX9_told_178 : decode cX9_told 178 = .ok (.ireturn, 1) := by decide +kernel
theorem dX9_told_179 : decode cX9_told 179 = .ok (.aload_n 0, 1) := by decide +kernel
theorem dX9_told_180 : decode cX9_told 180 = .ok (.iload_n 1, 1) := by decide +kernel
theorem dX9_told_181 : decode cX9_told 181 = .ok (.aload_n 0, 1) := by decide +kernel
theorem dX9_told_182 : decode cX9_told 182 = .ok (.getfield 50, 3) := by decide +kernel
theorem dX9_told_185 : decode cX9_told 185 = .ok (.iload_n 1, 1) := by decide +kernel
theorem dX9_told_186 : decode cX9_told 186 = .ok (.iaload, 1) := by decide +kernel
theorem dX9_told_187 : decode cX9_told 187 = .ok (.iload_n 2, 1) := by decide +kernel
theorem dX9_told_188 : decode cX9_told 188 = .ok (.bipush 6, 2) := by decide +kernel
theorem dX9_told_190 : decode cX9_told 190 = .ok (.if_icmp .ne 7, 3) := by decide +kernel
theorem dX9_told_193 : decode cX9_told 193 = .ok (.iconst 1, 1) := by decide +kernel
theorem dX9_told_194 : decode cX9_told 194 = .ok (.goto 4, 3) := by decide +kernel
theorem dX9_told_197 : decode cX9_told 197 = .ok (.iconst 0, 1) := by decide +kernel
theorem dX9_told_198 : decode cX9_told 198 = .ok (.invokevirtual 181, 3) := by decide +kernel
theorem dX9_told_201 : decode cX9_told 201 = .ok (.ireturn, 1) := by decide +kernel
theorem dX9_told_202 : decode cX9_told 202 = .ok (.aload_n 0, 1) := by decide +kernel
theorem dX9_told_203 : decode cX9_told 203 = .ok (.getfield 41, 3) := by decide +kernel
theorem dX9_told_206 : decode cX9_told 206 = .ok (.iload_n 1, 1) := by decide +kernel
theorem dX9_told_207 : decode cX9_told 207 = .ok (.iaload, 1) := by decide +kernel
theorem dX9_told_208 : decode cX9_told 208 = .ok (.ireturn, 1) := by decide +kernel
theorem dX9_told_209 : decode cX9_told 209 = .ok (.iconst (-1), 1) := by decide +kernel
theorem dX9_told_210 : decode cX9_told 210 = .ok (.ireturn, 1) := by decide +kernel
theorem dX9_water_0 : decode cX9_water 0 = .ok (.iload_n 2, 1) := by decide +kernel
theorem dX9_water_1 : decode cX9_water 1 = .ok (.tableswitch 107 0 3 #[31, 50, 69, 88], 31) := by decide +kernel
theorem dX9_water_32 : decode cX9_water 32 = .ok (.aload_n 0, 1) := by decide +kernel
theorem dX9_water_33 : decode cX9_water 33 = .ok (.iload_n 1, 1) := by decide +kernel
theorem dX9_water_34 : decode cX9_water 34 = .ok (.invokevirtual 136, 3) := by decide +kernel
theorem dX9_water_37 : decode cX9_water 37 = .ok (.ifCond .eq 12, 3) := by decide +kernel
theorem dX9_water_40 : decode cX9_water 40 = .ok (.aload_n 0, 1) := by decide +kernel
theorem dX9_water_41 : decode cX9_water 41 = .ok (.getfield 13, 3) := by decide +kernel
theorem dX9_water_44 : decode cX9_water 44 = .ok (.iload_n 1, 1) := by decide +kernel
theorem dX9_water_45 : decode cX9_water 45 = .ok (.iaload, 1) := by decide +kernel
theorem dX9_water_46 : decode cX9_water 46 = .ok (.goto 4, 3) := by decide +kernel
theorem dX9_water_49 : decode cX9_water 49 = .ok (.iconst (-1), 1) := by decide +kernel
theorem dX9_water_50 : decode cX9_water 50 = .ok (.ireturn, 1) := by decide +kernel
theorem dX9_water_51 : decode cX9_water 51 = .ok (.aload_n 0, 1) := by decide +kernel
theorem dX9_water_52 : decode cX9_water 52 = .ok (.iload_n 1, 1) := by decide +kernel
theorem dX9_water_53 : decode cX9_water 53 = .ok (.invokevirtual 129, 3) := by decide +kernel
theorem dX9_water_56 : decode cX9_water 56 = .ok (.ifCond .eq 12, 3) := by decide +kernel
theorem dX9_water_59 : decode cX9_water 59 = .ok (.aload_n 0, 1) := by decide +kernel
theorem dX9_water_60 : decode cX9_water 60 = .ok (.getfield 32, 3) := by decide +kernel
theorem dX9_water_63 : decode cX9_water 63 = .ok (.iload_n 1, 1) := by decide +kernel
theorem dX9_water_64 : decode cX9_water 64 = .ok (.iaload, 1) := by decide +kernel
theorem dX9_water_65 : decode cX9_water 65 = .ok (.goto 4, 3) := by decide +kernel
theorem dX9_water_68 : decode cX9_water 68 = .ok (.iconst (-1), 1) := by decide +kernel
theorem dX9_water_69 : decode cX9_water 69 = .ok (.ireturn, 1) := by decide +kernel
theorem dX9_water_70 : decode cX9_water 70 = .ok (.aload_n 0, 1) := by decide +kernel
theorem dX9_water_71 : decode cX9_water 71 = .ok (.iload_n 1, 1) := by decide +kernel
theorem dX9_water_72 : decode cX9_water 72 = .ok (.invokevirtual 136, 3) := by decide +kernel
theorem dX9_water_75 : decode cX9_water 75 = .ok (.ifCond .eq 12, 3) := by decide +kernel
theorem dX9_water_78 : decode cX9_water 78 = .ok (.aload_n 0, 1) := by decide +kernel
theorem dX9_water_79 : decode cX9_water 79 = .ok (.getfield 20, 3) := by decide +kernel
theorem dX9_water_82 : decode cX9_water 82 = .ok (.iload_n 1, 1) := by decide +kernel
theorem dX9_water_83 : decode cX9_water 83 = .ok (.iaload, 1) := by decide +kernel
theorem dX9_water_84 : decode cX9_water 84 = .ok (.goto 4, 3) := by decide +kernel
theorem dX9_water_87 : decode cX9_water 87 = .ok (.iconst (-1), 1) := by decide +kernel
theorem dX9_water_88 : decode cX9_water 88 = .ok (.ireturn, 1) := by decide +kernel
theorem dX9_water_89 : decode cX9_water 89 = .ok (.aload_n 0, 1) := by decide +kernel
theorem dX9_water_90 : decode cX9_water 90 = .ok (.iload_n 1, 1) := by decide +kernel
theorem dX9_water_91 : decode cX9_water 91 = .ok (.invokevirtual 129, 3) := by decide +kernel
theorem dX9_water_94 : decode cX9_water 94 = .ok (.ifCond .eq 12, 3) := by decide +kernel
theorem dX9_water_97 : decode cX9_water 97 = .ok (.aload_n 0, 1) := by decide +kernel
theorem dX9_water_98 : decode cX9_water 98 = .ok (.getfield 38, 3) := by decide +kernel
theorem dX9_water_101 : decode cX9_water 101 = .ok (.iload_n 1, 1) := by decide +kernel
theorem dX9_water_102 : decode cX9_water 102 = .ok (.iaload, 1) := by decide +kernel
theorem dX9_water_103 : decode cX9_water 103 = .ok (.goto 4, 3) := by decide +kernel
theorem dX9_water_106 : decode cX9_water 106 = .ok (.iconst (-1), 1) := by decide +kernel
theorem dX9_water_107 : decode cX9_water 107 = .ok (.ireturn, 1) := by decide +kernel
theorem dX9_water_108 : decode cX9_water 108 = .ok (.iconst (-1), 1) := by decide +kernel
theorem dX9_water_109 : decode cX9_water 109 = .ok (.ireturn, 1) := by decide +kernel
theorem dX9_sum_0 : decode cX9_sum 0 = .ok (.iload_n 1, 1) := by decide +kernel
theorem dX9_sum_1 : decode cX9_sum 1 = .ok (.iconst 0, 1) := by decide +kernel
theorem dX9_sum_2 : decode cX9_sum 2 = .ok (.bipush 7, 2) := by decide +kernel
theorem dX9_sum_4 : decode cX9_sum 4 = .ok (.invokestatic 112, 3) := by decide +kernel
theorem dX9_sum_7 : decode cX9_sum 7 = .ok (.ifCond .ne 9, 3) := by decide +kernel
theorem dX9_sum_10 : decode cX9_sum 10 = .ok (.ldc2_w 207, 3) := by decide +kernel
theorem dX9_sum_13 : decode cX9_sum 13 = .ok (.goto 23, 3) := by decide +kernel
theorem dX9_sum_16 : decode cX9_sum 16 = .ok (.iload_n 1, 1) := by decide +kernel
theorem dX9_sum_17 : decode cX9_sum 17 = .ok (.bipush 7, 2) := by decide +kernel
theorem dX9_sum_19 : decode cX9_sum 19 = .ok (.if_icmp .ne 11, 3) := by decide +kernel
theorem dX9_sum_22 : decode cX9_sum 22 = .ok (.aload_n 0, 1) := by decide +kernel
theorem dX9_sum_23 : decode cX9_sum 23 = .ok (.getfield 178, 3) := by decide +kernel
theorem dX9_sum_26 : decode cX9_sum 26 = .ok (.i2l, 1) := by decide +kernel
theorem dX9_sum_27 : decode cX9_sum 27 = .ok (.goto 9, 3) := by decide +kernel
theorem dX9_sum_30 : decode cX9_sum 30 = .ok (.aload_n 0, 1) := by decide +kernel
theorem dX9_sum_31 : decode cX9_sum 31 = .ok (.getfield 84, 3) := by decide +kernel
theorem dX9_sum_34 : decode cX9_sum 34 = .ok (.iload_n 1, 1) := by decide +kernel
theorem dX9_sum_35 : decode cX9_sum 35 = .ok (.laload, 1) := by decide +kernel
theorem dX9_sum_36 : decode cX9_sum 36 = .ok (.lreturn, 1) := by decide +kernel
theorem dX9_fire_0 : decode cX9_fire 0 = .ok (.aload_n 0, 1) := by decide +kernel
theorem dX9_fire_1 : decode cX9_fire 1 = .ok (.iload_n 1, 1) := by decide +kernel
theorem dX9_fire_2 : decode cX9_fire 2 = .ok (.invokevirtual 129, 3) := by decide +kernel
theorem dX9_fire_5 : decode cX9_fire 5 = .ok (.ifCond .eq 13, 3) := by decide +kernel
theorem dX9_fire_8 : decode cX9_fire 8 = .ok (.iload_n 2, 1) := by decide +kernel
theorem dX9_fire_9 : decode cX9_fire 9 = .ok (.iconst 0, 1) := by decide +kernel
theorem dX9_fire_10 : decode cX9_fire 10 = .ok (.bipush 60, 2) := by decide +kernel
theorem dX9_fire_12 : decode cX9_fire 12 = .ok (.invokestatic 112, 3) := by decide +kernel
theorem dX9_fire_15 : decode cX9_fire 15 = .ok (.ifCond .ne 5, 3) := by decide +kernel
theorem dX9_fire_18 : decode cX9_fire 18 = .ok (.iconst (-1), 1) := by decide +kernel
theorem dX9_fire_19 : decode cX9_fire 19 = .ok (.ireturn, 1) := by decide +kernel
theorem dX9_fire_20 : decode cX9_fire 20 = .ok (.iconst 0, 1) := by decide +kernel
theorem dX9_fire_21 : decode cX9_fire 21 = .ok (.istore_n 3, 1) := by decide +kernel
theorem dX9_fire_22 : decode cX9_fire 22 = .ok (.iconst 0, 1) := by decide +kernel
theorem dX9_fire_23 : decode cX9_fire 23 = .ok (.istore 4, 2) := by decide +kernel
theorem dX9_fire_25 : decode cX9_fire 25 = .ok (.iload 4, 2) := by decide +kernel
theorem dX9_fire_27 : decode cX9_fire 27 = .ok (.aload_n 0, 1) := by decide +kernel
theorem dX9_fire_28 : decode cX9_fire 28 = .ok (.getfield 126, 3) := by decide +kernel
theorem dX9_fire_31 : decode cX9_fire 31 = .ok (.if_icmp .ge 66, 3) := by decide +kernel
theorem dX9_fire_34 : decode cX9_fire 34 = .ok (.aload_n 0, 1) := by decide +kernel
theorem dX9_fire_35 : decode cX9_fire 35 = .ok (.getfield 59, 3) := by decide +kernel
theorem dX9_fire_38 : decode cX9_fire 38 = .ok (.iload 4, 2) := by decide +kernel
theorem dX9_fire_40 : decode cX9_fire 40 = .ok (.iaload, 1) := by decide +kernel
theorem dX9_fire_41 : decode cX9_fire 41 = .ok (.iconst 1, 1) := by decide +kernel
theorem dX9_fire_42 : decode cX9_fire 42 = .ok (.if_icmp .ne 49, 3) := by decide +kernel
theorem dX9_fire_45 : decode cX9_fire 45 = .ok (.aload_n 0, 1) := by decide +kernel
theorem dX9_fire_46 : decode cX9_fire 46 = .ok (.getfield 50, 3) := by decide +kernel
theorem dX9_fire_49 : decode cX9_fire 49 = .ok (.iload 4, 2) := by decide +kernel
theorem dX9_fire_51 : decode cX9_fire 51 = .ok (.iaload, 1) := by decide +kernel
theorem dX9_fire_52 : decode cX9_fire 52 = .ok (.iload_n 1, 1) := by decide +kernel
theorem dX9_fire_53 : decode cX9_fire 53 = .ok (.if_icmp .ne 38, 3) := by decide +kernel
theorem dX9_fire_56 : decode cX9_fire 56 = .ok (.aload_n 0, 1) := by decide +kernel
theorem dX9_fire_57 : decode cX9_fire 57 = .ok (.getfield 62, 3) := by decide +kernel
theorem dX9_fire_60 : decode cX9_fire 60 = .ok (.iload 4, 2) := by decide +kernel
theorem dX9_fire_62 : decode cX9_fire 62 = .ok (.iaload, 1) := by decide +kernel
theorem dX9_fire_63 : decode cX9_fire 63 = .ok (.iload_n 2, 1) := by decide +kernel
theorem dX9_fire_64 : decode cX9_fire 64 = .ok (.if_icmp .gt 27, 3) := by decide +kernel
theorem dX9_fire_67 : decode cX9_fire 67 = .ok (.iload_n 3, 1) := by decide +kernel
theorem dX9_fire_68 : decode cX9_fire 68 = .ok (.aload_n 0, 1) := by decide +kernel
theorem dX9_fire_69 : decode cX9_fire 69 = .ok (.getfield 65, 3) := by decide +kernel
theorem dX9_fire_72 : decode cX9_fire 72 = .ok (.iload 4, 2) := by decide +kernel
theorem dX9_fire_74 : decode cX9_fire 74 = .ok (.iaload, 1) := by decide +kernel
theorem dX9_fire_75 : decode cX9_fire 75 = .ok (.iadd, 1) := by decide +kernel
theorem dX9_fire_76 : decode cX9_fire 76 = .ok (.istore_n 3, 1) := by decide +kernel
theorem dX9_fire_77 : decode cX9_fire 77 = .ok (.aload_n 0, 1) := by decide +kernel
theorem dX9_fire_78 : decode cX9_fire 78 = .ok (.getfield 65, 3) := by decide +kernel
theorem dX9_fire_81 : decode cX9_fire 81 = .ok (.iload 4, 2) := by decide +kernel
theorem dX9_fire_83 : decode cX9_fire 83 = .ok (.iconst 0, 1) := by decide +kernel
theorem dX9_fire_84 : decode cX9_fire 84 = .ok (.iastore, 1) := by decide +kernel
theorem dX9_fire_85 : decode cX9_fire 85 = .ok (.aload_n 0, 1) := by decide +kernel
theorem dX9_fire_86 : decode cX9_fire 86 = .ok (.iload 4, 2) := by decide +kernel
theorem dX9_fire_88 : decode cX9_fire 88 = .ok (.invokevirtual 192, 3) := by decide +kernel
theorem dX9_fire_91 : decode cX9_fire 91 = .ok (.iinc 4 1, 3) := by decide +kernel
theorem dX9_fire_94 : decode cX9_fire 94 = .ok (.goto (-69), 3) := by decide +kernel
theorem dX9_fire_97 : decode cX9_fire 97 = .ok (.aload_n 0, 1) := by decide +kernel
theorem dX9_fire_98 : decode cX9_fire 98 = .ok (.getfield 84, 3) := by decide +kernel
theorem dX9_fire_101 : decode cX9_fire 101 = .ok (.iconst 5, 1) := by decide +kernel
theorem dX9_fire_102 : decode cX9_fire 102 = .ok (.dup2, 1) := by decide +kernel
theorem dX9_fire_103 : decode cX9_fire 103 = .ok (.laload, 1) := by decide +kernel
theorem dX9_fire_104 : decode cX9_fire 104 = .ok (.iload_n 3, 1) := by decide +kernel
theorem dX9_fire_105 : decode cX9_fire 105 = .ok (.i2l, 1) := by decide +kernel
theorem dX9_fire_106 : decode cX9_fire 106 = .ok (.ladd, 1) := by decide +kernel
theorem dX9_fire_107 : decode cX9_fire 107 = .ok (.lastore, 1) := by decide +kernel
theorem dX9_fire_108 : decode cX9_fire 108 = .ok (.iload_n 3, 1) := by decide +kernel
theorem dX9_fire_109 : decode cX9_fire 109 = .ok (.ireturn, 1) := by decide +kernel
theorem dX9_poured_0 : decode cX9_poured 0 = .ok (.iload_n 1, 1) := by decide +kernel
theorem dX9_poured_1 : decode cX9_poured 1 = .ok (.ifCond .lt 12, 3) := by decide +kernel
theorem dX9_poured_4 : decode cX9_poured 4 = .ok (.iload_n 2, 1) := by decide +kernel
theorem dX9_poured_5 : decode cX9_poured 5 = .ok (.iconst 0, 1) := by decide +kernel
theorem dX9_poured_6 : decode cX9_poured 6 = .ok (.iconst 5, 1) := by decide +kernel
theorem dX9_poured_7 : decode cX9_poured 7 = .ok (.invokestatic 112, 3) := by decide +kernel
theorem dX9_poured_10 : decode cX9_poured 10 = .ok (.ifCond .ne 5, 3) := by decide +kernel
theorem dX9_poured_13 : decode cX9_poured 13 = .ok (.iconst (-1), 1) := by decide +kernel
theorem dX9_poured_14 : decode cX9_poured 14 = .ok (.ireturn, 1) := by decide +kernel
theorem dX9_poured_15 : decode cX9_poured 15 = .ok (.iload_n 1, 1) := by decide +kernel
theorem dX9_poured_16 : decode cX9_poured 16 = .ok (.aload_n 0, 1) := by decide +kernel
theorem dX9_poured_17 : decode cX9_poured 17 = .ok (.getfield 185, 3) := by decide +kernel
theorem dX9_poured_20 : decode cX9_poured 20 = .ok (.if_icmp .lt 8, 3) := by decide +kernel
theorem dX9_poured_23 : decode cX9_poured 23 = .ok (.bipush (-4), 2) := by decide +kernel
theorem dX9_poured_25 : decode cX9_poured 25 = .ok (.goto 21, 3) := by decide +kernel
theorem dX9_poured_28 : decode cX9_poured 28 = .ok (.aload_n 0, 1) := by decide +kernel
theorem dX9_poured_29 : decode cX9_poured 29 = .ok (.getfield 97, 3) := by decide +kernel
theorem dX9_poured_32 : decode cX9_poured 32 = .ok (.bipush 6, 2) := by decide +kernel
theorem dX9_poured_34 : decode cX9_poured 34 = .ok (.aload_n 0, 1) := by decide +kernel
theorem dX9_poured_35 : decode cX9_poured 35 = .ok (.getfield 185, 3) := by decide +kernel
theorem dX9_poured_38 : decode cX9_poured 38 = .ok (.iconst 1, 1) := by decide +kernel
theorem dX9_poured_39 : decode cX9_poured 39 = .ok (.isub, 1) := by decide +kernel
theorem dX9_poured_40 : decode cX9_poured 40 = .ok (.iload_n 1, 1) := by decide +kernel
theorem dX9_poured_41 : decode cX9_poured 41 = .ok (.isub, 1) := by decide +kernel
theorem dX9_poured_42 : decode cX9_poured 42 = .ok (.imul, 1) := by decide +kernel
theorem dX9_poured_43 : decode cX9_poured 43 = .ok (.iload_n 2, 1) := by decide +kernel
theorem dX9_poured_44 : decode cX9_poured 44 = .ok (.iadd, 1) := by decide +kernel
theorem dX9_poured_45 : decode cX9_poured 45 = .ok (.iaload, 1) := by decide +kernel
theorem dX9_poured_46 : decode cX9_poured 46 = .ok (.ireturn, 1) := by decide +kernel
theorem dX9_foul_0 : decode cX9_foul 0 = .ok (.aload_n 0, 1) := by decide +kernel
theorem dX9_foul_1 : decode cX9_foul 1 = .ok (.iload_n 1, 1) := by decide +kernel
theorem dX9_foul_2 : decode cX9_foul 2 = .ok (.invokevirtual 136, 3) := by decide +kernel
theorem dX9_foul_5 : decode cX9_foul 5 = .ok (.ifCond .eq 7, 3) := by decide +kernel
theorem dX9_foul_8 : decode cX9_foul 8 = .ok (.iload_n 2, 1) := by decide +kernel
theorem dX9_foul_9 : decode cX9_foul 9 = .ok (.ifCond .ge 5, 3) := by decide +kernel
theorem dX9_foul_12 : decode cX9_foul 12 = .ok (.iconst (-1), 1) := by decide +kernel
theorem dX9_foul_13 : decode cX9_foul 13 = .ok (.ireturn, 1) := by decide +kernel
theorem dX9_foul_14 : decode cX9_foul 14 = .ok (.iconst 0, 1) := by decide +kernel
theorem dX9_foul_15 : decode cX9_foul 15 = .ok (.istore_n 3, 1) := by decide +kernel
theorem dX9_foul_16 : decode cX9_foul 16 = .ok (.iconst 0, 1) := by decide +kernel
theorem dX9_foul_17 : decode cX9_foul 17 = .ok (.istore 4, 2) := by decide +kernel
theorem dX9_foul_19 : decode cX9_foul 19 = .ok (.iload 4, 2) := by decide +kernel
theorem dX9_foul_21 : decode cX9_foul 21 = .ok (.aload_n 0, 1) := by decide +kernel
theorem dX9_foul_22 : decode cX9_foul 22 = .ok (.getfield 185, 3) := by decide +kernel
theorem dX9_foul_25 : decode cX9_foul 25 = .ok (.if_icmp .ge 62, 3) := by decide +kernel
theorem dX9_foul_28 : decode cX9_foul 28 = .ok (.iload_n 3, 1) := by decide +kernel
theorem dX9_foul_29 : decode cX9_foul 29 = .ok (.aload_n 0, 1) := by decide +kernel
theorem dX9_foul_30 : decode cX9_foul 30 = .ok (.getfield 97, 3) := by decide +kernel
theorem dX9_foul_33 : decode cX9_foul 33 = .ok (.bipush 6, 2) := by decide +kernel
theorem dX9_foul_35 : decode cX9_foul 35 = .ok (.iload 4, 2) := by decide +kernel
theorem dX9_foul_37 : decode cX9_foul 37 = .ok (.imul, 1) := by decide +kernel
theorem dX9_foul_38 : decode cX9_foul 38 = .ok (.iconst 4, 1) := by decide +kernel
theorem dX9_foul_39 : decode cX9_foul 39 = .ok (.iadd, 1) := by decide +kernel
theorem dX9_foul_40 : decode cX9_foul 40 = .ok (.iaload, 1) := by decide +kernel
theorem dX9_foul_41 : decode cX9_foul 41 = .ok (.iload_n 1, 1) := by decide +kernel
theorem dX9_foul_42 : decode cX9_foul 42 = .ok (.if_icmp .ne 36, 3) := by decide +kernel
theorem dX9_foul_45 : decode cX9_foul 45 = .ok (.aload_n 0, 1) := by decide +kernel
theorem dX9_foul_46 : decode cX9_foul 46 = .ok (.getfield 97, 3) := by decide +kernel
theorem dX9_foul_49 : decode cX9_foul 49 = .ok (.bipush 6, 2) := by decide +kernel
theorem dX9_foul_51 : decode cX9_foul 51 = .ok (.iload 4, 2) := by decide +kernel
theorem dX9_foul_53 : decode cX9_foul 53 = .ok (.imul, 1) := by decide +kernel
theorem dX9_foul_54 : decode cX9_foul 54 = .ok (.iconst 5, 1) := by decide +kernel
theorem dX9_foul_55 : decode cX9_foul 55 = .ok (.iadd, 1) := by decide +kernel
theorem dX9_foul_56 : decode cX9_foul 56 = .ok (.iaload, 1) := by decide +kernel
theorem dX9_foul_57 : decode cX9_foul 57 = .ok (.iload_n 2, 1) := by decide +kernel
theorem dX9_foul_58 : decode cX9_foul 58 = .ok (.if_icmp .lt 20, 3) := by decide +kernel
theorem dX9_foul_61 : decode cX9_foul 61 = .ok (.iconst 1, 1) := by decide +kernel
theorem dX9_foul_62 : decode cX9_foul 62 = .ok (.aload_n 0, 1) := by decide +kernel
theorem dX9_foul_63 : decode cX9_foul 63 = .ok (.getfield 97, 3) := by decide +kernel
theorem dX9_foul_66 : decode cX9_foul 66 = .ok (.bipush 6, 2) := by decide +kernel
theorem dX9_foul_68 : decode cX9_foul 68 = .ok (.iload 4, 2) := by decide +kernel
theorem dX9_foul_70 : decode cX9_foul 70 = .ok (.imul, 1) := by decide +kernel
theorem dX9_foul_71 : decode cX9_foul 71 = .ok (.iconst 1, 1) := by decide +kernel
theorem dX9_foul_72 : decode cX9_foul 72 = .ok (.iadd, 1) := by decide +kernel
theorem dX9_foul_73 : decode cX9_foul 73 = .ok (.iaload, 1) := by decide +kernel
theorem dX9_foul_74 : decode cX9_foul 74 = .ok (.ishl, 1) := by decide +kernel
theorem dX9_foul_75 : decode cX9_foul 75 = .ok (.goto 4, 3) := by decide +kernel
theorem dX9_foul_78 : decode cX9_foul 78 = .ok (.iconst 0, 1) := by decide +kernel
theorem dX9_foul_79 : decode cX9_foul 79 = .ok (.ior, 1) := by decide +kernel
theorem dX9_foul_80 : decode cX9_foul 80 = .ok (.istore_n 3, 1) := by decide +kernel
theorem dX9_foul_81 : decode cX9_foul 81 = .ok (.iinc 4 1, 3) := by decide +kernel
theorem dX9_foul_84 : decode cX9_foul 84 = .ok (.goto (-65), 3) := by decide +kernel
theorem dX9_foul_87 : decode cX9_foul 87 = .ok (.iload_n 3, 1) := by decide +kernel
theorem dX9_foul_88 : decode cX9_foul 88 = .ok (.ireturn, 1) := by decide +kernel
theorem dX9_ones_0 : decode cX9_ones 0 = .ok (.iconst 0, 1) := by decide +kernel
theorem dX9_ones_1 : decode cX9_ones 1 = .ok (.istore_n 1, 1) := by decide +kernel
theorem dX9_ones_2 : decode cX9_ones 2 = .ok (.iconst 0, 1) := by decide +kernel
theorem dX9_ones_3 : decode cX9_ones 3 = .ok (.istore_n 2, 1) := by decide +kernel
theorem dX9_ones_4 : decode cX9_ones 4 = .ok (.iload_n 2, 1) := by decide +kernel
theorem dX9_ones_5 : decode cX9_ones 5 = .ok (.bipush 6, 2) := by decide +kernel
theorem dX9_ones_7 : decode cX9_ones 7 = .ok (.if_icmp .ge 17, 3) := by decide +kernel
theorem dX9_ones_10 : decode cX9_ones 10 = .ok (.iload_n 1, 1) := by decide +kernel
theorem dX9_ones_11 : decode cX9_ones 11 = .ok (.iload_n 0, 1) := by decide +kernel
theorem dX9_ones_12 : decode cX9_ones 12 = .ok (.iload_n 2, 1) := by decide +kernel
theorem dX9_ones_13 : decode cX9_ones 13 = .ok (.ishr, 1) := by decide +kernel
theorem dX9_ones_14 : decode cX9_ones 14 = .ok (.iconst 1, 1) := by decide +kernel
theorem dX9_ones_15 : decode cX9_ones 15 = .ok (.iand, 1) := by decide +kernel
theorem dX9_ones_16 : decode cX9_ones 16 = .ok (.iadd, 1) := by decide +kernel
theorem dX9_ones_17 : decode cX9_ones 17 = .ok (.istore_n 1, 1) := by decide +kernel
theorem dX9_ones_18 : decode cX9_ones 18 = .ok (.iinc 2 1, 3) := by decide +kernel
theorem dX9_ones_21 : decode cX9_ones 21 = .ok (.goto (-17), 3) := by decide +kernel
theorem dX9_ones_24 : decode cX9_ones 24 = .ok (.iload_n 1, 1) := by decide +kernel
theorem dX9_ones_25 : decode cX9_ones 25 = .ok (.ireturn, 1) := by decide +kernel
theorem dX9_give_0 : decode cX9_give 0 = .ok (.iload_n 3, 1) := by decide +kernel
theorem dX9_give_1 : decode cX9_give 1 = .ok (.iconst 1, 1) := by decide +kernel
theorem dX9_give_2 : decode cX9_give 2 = .ok (.bipush 6, 2) := by decide +kernel
theorem dX9_give_4 : decode cX9_give 4 = .ok (.invokestatic 112, 3) := by decide +kernel
theorem dX9_give_7 : decode cX9_give 7 = .ok (.ifCond .eq 39, 3) := by decide +kernel
theorem dX9_give_10 : decode cX9_give 10 = .ok (.aload_n 0, 1) := by decide +kernel
theorem dX9_give_11 : decode cX9_give 11 = .ok (.iload_n 1, 1) := by decide +kernel
theorem dX9_give_12 : decode cX9_give 12 = .ok (.invokevirtual 146, 3) := by decide +kernel
theorem dX9_give_15 : decode cX9_give 15 = .ok (.ifCond .eq 31, 3) := by decide +kernel
theorem dX9_give_18 : decode cX9_give 18 = .ok (.aload_n 0, 1) := by decide +kernel
theorem dX9_give_19 : decode cX9_give 19 = .ok (.iload_n 2, 1) := by decide +kernel
theorem dX9_give_20 : decode cX9_give 20 = .ok (.invokevirtual 129, 3) := by decide +kernel
theorem dX9_give_23 : decode cX9_give 23 = .ok (.ifCond .eq 23, 3) := by decide +kernel
theorem dX9_give_26 : decode cX9_give 26 = .ok (.iload_n 1, 1) := by decide +kernel
theorem dX9_give_27 : decode cX9_give 27 = .ok (.aload_n 0, 1) := by decide +kernel
theorem dX9_give_28 : decode cX9_give 28 = .ok (.getfield 126, 3) := by decide +kernel
theorem dX9_give_31 : decode cX9_give 31 = .ok (.iload_n 3, 1) := by decide +kernel
theorem dX9_give_32 : decode cX9_give 32 = .ok (.isub, 1) := by decide +kernel
theorem dX9_give_33 : decode cX9_give 33 = .ok (.if_icmp .gt 13, 3) := by decide +kernel
theorem dX9_give_36 : decode cX9_give 36 = .ok (.iload_n 2, 1) := by decide +kernel
theorem dX9_give_37 : decode cX9_give 37 = .ok (.aload_n 0, 1) := by decide +kernel
theorem dX9_give_38 : decode cX9_give 38 = .ok (.getfield 116, 3) := by decide +kernel
theorem dX9_give_41 : decode cX9_give 41 = .ok (.iload_n 3, 1) := by decide +kernel
theorem dX9_give_42 : decode cX9_give 42 = .ok (.isub, 1) := by decide +kernel
theorem dX9_give_43 : decode cX9_give 43 = .ok (.if_icmp .le 5, 3) := by decide +kernel
theorem dX9_give_46 : decode cX9_give 46 = .ok (.iconst (-1), 1) := by decide +kernel
theorem dX9_give_47 : decode cX9_give 47 = .ok (.ireturn, 1) := by decide +kernel
theorem dX9_give_48 : decode cX9_give 48 = .ok (.iconst 1, 1) := by decide +kernel
theorem dX9_give_49 : decode cX9_give 49 = .ok (.iload_n 3, 1) := by decide +kernel
theorem dX9_give_50 : decode cX9_give 50 = .ok (.ishl, 1) := by decide +kernel
theorem dX9_give_51 : decode cX9_give 51 = .ok (.iconst 1, 1) := by decide +kernel
theorem dX9_give_52 : decode cX9_give 52 = .ok (.isub, 1) := by decide +kernel
theorem dX9_give_53 : decode cX9_give 53 = .ok (.istore 4, 2) := by decide +kernel
theorem dX9_give_55 : decode cX9_give 55 = .ok (.iload 4, 2) := by decide +kernel
theorem dX9_give_57 : decode cX9_give 57 = .ok (.istore 5, 2) := by decide +kernel
theorem dX9_give_59 : decode cX9_give 59 = .ok (.iload 5, 2) := by decide +kernel
theorem dX9_give_61 : decode cX9_give 61 = .ok (.ifCond .lt 180, 3) := by decide +kernel
theorem dX9_give_64 : decode cX9_give 64 = .ok (.aload_n 0, 1) := by decide +kernel
theorem dX9_give_65 : decode cX9_give 65 = .ok (.getfield 103, 3) := by decide +kernel
theorem dX9_give_68 : decode cX9_give 68 = .ok (.iload 5, 2) := by decide +kernel
theorem dX9_give_70 : decode cX9_give 70 = .ok (.iload 5, 2) := by decide +kernel
theorem dX9_give_72 : decode cX9_give 72 = .ok (.iload 4, 2) := by decide +kernel
theorem dX9_give_74 : decode cX9_give 74 = .ok (.if_icmp .ne 7, 3) := by decide +kernel
theorem dX9_give_77 : decode cX9_give 77 = .ok (.iconst 0, 1) := by decide +kernel
theorem dX9_give_78 : decode cX9_give 78 = .ok (.goto 4, 3) := by decide +kernel
theorem dX9_give_81 : decode cX9_give 81 = .ok (.iconst (-1), 1) := by decide +kernel
theorem dX9_give_82 : decode cX9_give 82 = .ok (.iastore, 1) := by decide +kernel
theorem dX9_give_83 : decode cX9_give 83 = .ok (.iload_n 1, 1) := by decide +kernel
theorem dX9_give_84 : decode cX9_give 84 = .ok (.iload 5, 2) := by decide +kernel
theorem dX9_give_86 : decode cX9_give 86 = .ok (.invokestatic 209, 3) := by decide +kernel
theorem dX9_give_89 : decode cX9_give 89 = .ok (.iadd, 1) := by decide +kernel
theorem dX9_give_90 : decode cX9_give 90 = .ok (.istore 6, 2) := by decide +kernel
theorem dX9_give_92 : decode cX9_give 92 = .ok (.iload_n 3, 1) := by decide +kernel
theorem dX9_give_93 : decode cX9_give 93 = .ok (.iconst 1, 1) := by decide +kernel
theorem dX9_give_94 : decode cX9_give 94 = .ok (.isub, 1) := by decide +kernel
theorem dX9_give_95 : decode cX9_give 95 = .ok (.istore 7, 2) := by decide +kernel
theorem dX9_give_97 : decode cX9_give 97 = .ok (.iload 7, 2) := by decide +kernel
theorem dX9_give_99 : decode cX9_give 99 = .ok (.ifCond .lt 136, 3) := by decide +kernel
theorem dX9_give_102 : decode cX9_give 102 = .ok (.iload 5, 2) := by decide +kernel
theorem dX9_give_104 : decode cX9_give 104 = .ok (.iload 4, 2) := by decide +kernel
theorem dX9_give_106 : decode cX9_give 106 = .ok (.if_icmp .ge 129, 3) := by decide +kernel
theorem dX9_give_109 : decode cX9_give 109 = .ok (.iload 5, 2) := by decide +kernel
theorem dX9_give_111 : decode cX9_give 111 = .ok (.iload 7, 2) := by decide +kernel
theorem dX9_give_113 : decode cX9_give 113 = .ok (.ishr, 1) := by decide +kernel
theorem dX9_give_114 : decode cX9_give 114 = .ok (.iconst 1, 1) := by decide +kernel
theorem dX9_give_115 : decode cX9_give 115 = .ok (.iand, 1) := by decide +kernel
theorem dX9_give_116 : decode cX9_give 116 = .ok (.iconst 1, 1) := by decide +kernel
theorem dX9_give_117 : decode cX9_give 117 = .ok (.if_icmp .ne 7, 3) := by decide +kernel
theorem dX9_give_120 : decode cX9_give 120 = .ok (.iconst (-1), 1) := by decide +kernel
theorem dX9_give_121 : decode cX9_give 121 = .ok (.goto 15, 3) := by decide +kernel
theorem dX9_give_124 : decode cX9_give 124 = .ok (.aload_n 0, 1) := by decide +kernel
theorem dX9_give_125 : decode cX9_give 125 = .ok (.getfield 103, 3) := by decide +kernel
theorem dX9_give_128 : decode cX9_give 128 = .ok (.iload 5, 2) := by decide +kernel
theorem dX9_give_130 : decode cX9_give 130 = .ok (.iconst 1, 1) := by decide +kernel
theorem dX9_give_131 : decode cX9_give 131 = .ok (.iload 7, 2) := by decide +kernel
theorem dX9_give_133 : decode cX9_give 133 = .ok (.ishl, 1) := by decide +kernel
theorem dX9_give_134 : decode cX9_give 134 = .ok (.ior, 1) := by decide +kernel
theorem dX9_give_135 : decode cX9_give 135 = .ok (.iaload, 1) := by decide +kernel
theorem dX9_give_136 : decode cX9_give 136 = .ok (.istore 8, 2) := by decide +kernel
theorem dX9_give_138 : decode cX9_give 138 = .ok (.iload 8, 2) := by decide +kernel
theorem dX9_give_140 : decode cX9_give 140 = .ok (.ifCond .lt 89, 3) := by decide +kernel
theorem dX9_give_143 : decode cX9_give 143 = .ok (.aload_n 0, 1) := by decide +kernel
theorem dX9_give_144 : decode cX9_give 144 = .ok (.aload_n 0, 1) := by decide +kernel
theorem dX9_give_145 : decode cX9_give 145 = .ok (.getfield 41, 3) := by decide +kernel
theorem dX9_give_148 : decode cX9_give 148 = .ok (.iload 6, 2) := by decide +kernel
theorem dX9_give_150 : decode cX9_give 150 = .ok (.iaload, 1) := by decide +kernel
theorem dX9_give_151 : decode cX9_give 151 = .ok (.iload_n 2, 1) := by decide +kernel
theorem dX9_give_152 : decode cX9_give 152 = .ok (.iload 7, 2) := by decide +kernel
theorem dX9_give_154 : decode cX9_give 154 = .ok (.iadd, 1) := by decide +kernel
theorem dX9_give_155 : decode cX9_give 155 = .ok (.invokevirtual 139, 3) := by decide +kernel
theorem dX9_give_158 : decode cX9_give 158 = .ok (.ifCond .eq 71, 3) := by decide +kernel
theorem dX9_give_161 : decode cX9_give 161 = .ok (.iload 8, 2) := by decide +kernel
theorem dX9_give_163 : decode cX9_give 163 = .ok (.aload_n 0, 1) := by decide +kernel
theorem dX9_give_164 : decode cX9_give 164 = .ok (.iload 6, 2) := by decide +kernel
theorem dX9_give_166 : decode cX9_give 166 = .ok (.iload_n 2, 1) := by decide +kernel
theorem dX9_give_167 : decode cX9_give 167 = .ok (.iload 7, 2) := by decide +kernel
theorem dX9_give_169 : decode cX9_give 169 = .ok (.iadd, 1) := by decide +kernel
theorem dX9_give_170 : decode cX9_give 170 = .ok (.iconst 1, 1) := by decide +kernel
theorem dX9_give_171 : decode cX9_give 171 = .ok (.invokevirtual 181, 3) := by decide +kernel
theorem dX9_give_174 : decode cX9_give 174 = .ok (.iadd, 1) := by decide +kernel
theorem dX9_give_175 : decode cX9_give 175 = .ok (.aload_n 0, 1) := by decide +kernel
theorem dX9_give_176 : decode cX9_give 176 = .ok (.iload 6, 2) := by decide +kernel
theorem dX9_give_178 : decode cX9_give 178 = .ok (.iload_n 2, 1) := by decide +kernel
theorem dX9_give_179 : decode cX9_give 179 = .ok (.iload 7, 2) := by decide +kernel
theorem dX9_give_181 : decode cX9_give 181 = .ok (.iadd, 1) := by decide +kernel
theorem dX9_give_182 : decode cX9_give 182 = .ok (.iconst 0, 1) := by decide +kernel
theorem dX9_give_183 : decode cX9_give 183 = .ok (.invokevirtual 181, 3) := by decide +kernel
theorem dX9_give_186 : decode cX9_give 186 = .ok (.iadd, 1) := by decide +kernel
theorem dX9_give_187 : decode cX9_give 187 = .ok (.istore 9, 2) := by decide +kernel
theorem dX9_give_189 : decode cX9_give 189 = .ok (.aload_n 0, 1) := by decide +kernel
theorem dX9_give_190 : decode cX9_give 190 = .ok (.getfield 103, 3) := by decide +kernel
theorem dX9_give_193 : decode cX9_give 193 = .ok (.iload 5, 2) := by decide +kernel
theorem dX9_give_195 : decode cX9_give 195 = .ok (.iaload, 1) := by decide +kernel
theorem dX9_give_196 : decode cX9_give 196 = .ok (.ifCond .lt 15, 3) := by decide +kernel
theorem dX9_give_199 : decode cX9_give 199 = .ok (.iload 9, 2) := by decide +kernel
theorem dX9_give_201 : decode cX9_give 201 = .ok (.aload_n 0, 1) := by decide +kernel
theorem dX9_give_202 : decode cX9_give 202 = .ok (.getfield 103, 3) := by decide +kernel
theorem dX9_give_205 : decode cX9_give 205 = .ok (.iload 5, 2) := by decide +kernel
theorem dX9_give_207 : decode cX9_give 207 = .ok (.iaload, 1) := by decide +kernel
theorem dX9_give_208 : decode cX9_give 208 = .ok (.if_icmp .gt 21, 3) := by decide +kernel
theorem dX9_give_211 : decode cX9_give 211 = .ok (.aload_n 0, 1) := by decide +kernel
theorem dX9_give_212 : decode cX9_give 212 = .ok (.getfield 103, 3) := by decide +kernel
theorem dX9_give_215 : decode cX9_give 215 = .ok (.iload 5, 2) := by decide +kernel
theorem dX9_give_217 : decode cX9_give 217 = .ok (.iload 9, 2) := by decide +kernel
theorem dX9_give_219 : decode cX9_give 219 = .ok (.iastore, 1) := by decide +kernel
theorem dX9_give_220 : decode cX9_give 220 = .ok (.aload_n 0, 1) := by decide +kernel
theorem dX9_give_221 : decode cX9_give 221 = .ok (.getfield 106, 3) := by decide +kernel
theorem dX9_give_224 : decode cX9_give 224 = .ok (.iload 5, 2) := by decide +kernel
theorem dX9_give_226 : decode cX9_give 226 = .ok (.iload 7, 2) := by decide +kernel
theorem dX9_give_228 : decode cX9_give 228 = .ok (.iastore, 1) := by decide +kernel
theorem dX9_give_229 : decode cX9_give 229 = .ok (.iinc 7 (-1), 3) := by decide +kernel
theorem dX9_give_232 : decode cX9_give 232 = .ok (.goto (-135), 3) := by decide +kernel
theorem dX9_give_235 : decode cX9_give 235 = .ok (.iinc 5 (-1), 3) := by decide +kernel
theorem dX9_give_238 : decode cX9_give 238 = .ok (.goto (-179), 3) := by decide +kernel
theorem dX9_give_241 : decode cX9_give 241 = .ok (.aload_n 0, 1) := by decide +kernel
theorem dX9_give_242 : decode cX9_give 242 = .ok (.getfield 103, 3) := by decide +kernel
theorem dX9_give_245 : decode cX9_give 245 = .ok (.iconst 0, 1) := by decide +kernel
theorem dX9_give_246 : decode cX9_give 246 = .ok (.iaload, 1) := by decide +kernel
theorem dX9_give_247 : decode cX9_give 247 = .ok (.ifCond .ge 6, 3) := by decide +kernel
theorem dX9_give_250 : decode cX9_give 250 = .ok (.bipush (-4), 2) := by decide +kernel
theorem dX9_give_252 : decode cX9_give 252 = .ok (.ireturn, 1) := by decide +kernel
theorem dX9_give_253 : decode cX9_give 253 = .ok (.iconst 0, 1) := by decide +kernel
theorem dX9_give_254 : decode cX9_give 254 = .ok (.istore 5, 2) := by decide +kernel
theorem dX9_give_256 : decode cX9_give 256 = .ok (.iload 5, 2) := by decide +kernel
theorem dX9_give_258 : decode cX9_give 258 = .ok (.bipush 10, 2) := by decide +kernel
theorem dX9_give_260 : decode cX9_give 260 = .ok (.if_icmp .ge 18, 3) := by decide +kernel
theorem dX9_give_263 : decode cX9_give 263 = .ok (.aload_n 0, 1) := by decide +kernel
theorem dX9_give_264 : decode cX9_give 264 = .ok (.getfield 109, 3) := by decide +kernel
theorem dX9_give_267 : decode cX9_give 267 = .ok (.iload 5, 2) := by decide +kernel
theorem dX9_give_269 : decode cX9_give 269 = .ok (.bipush (-4), 2) := by decide +kernel
theorem dX9_give_271 : decode cX9_give 271 = .ok (.iastore, 1) := by decide +kernel
theorem dX9_give_272 : decode cX9_give 272 = .ok (.iinc 5 1, 3) := by decide +kernel
theorem dX9_give_275 : decode cX9_give 275 = .ok (.goto (-19), 3) := by decide +kernel
theorem dX9_give_278 : decode cX9_give 278 = .ok (.iconst 0, 1) := by decide +kernel
theorem dX9_give_279 : decode cX9_give 279 = .ok (.istore 5, 2) := by decide +kernel
theorem dX9_give_281 : decode cX9_give 281 = .ok (.iload_n 1, 1) := by decide +kernel
theorem dX9_give_282 : decode cX9_give 282 = .ok (.istore 6, 2) := by decide +kernel
theorem dX9_give_284 : decode cX9_give 284 = .ok (.iload 6, 2) := by decide +kernel
theorem dX9_give_286 : decode cX9_give 286 = .ok (.iload_n 1, 1) := by decide +kernel
theorem dX9_give_287 : decode cX9_give 287 = .ok (.iload_n 3, 1) := by decide +kernel
theorem dX9_give_288 : decode cX9_give 288 = .ok (.iadd, 1) := by decide +kernel
theorem dX9_give_289 : decode cX9_give 289 = .ok (.if_icmp .ge 38, 3) := by decide +kernel
theorem dX9_give_292 : decode cX9_give 292 = .ok (.aload_n 0, 1) := by decide +kernel
theorem dX9_give_293 : decode cX9_give 293 = .ok (.getfield 106, 3) := by decide +kernel
theorem dX9_give_296 : decode cX9_give 296 = .ok (.iload 5, 2) := by decide +kernel
theorem dX9_give_298 : decode cX9_give 298 = .ok (.iaload, 1) := by decide +kernel
theorem dX9_give_299 : decode cX9_give 299 = .ok (.istore 7, 2) := by decide +kernel
theorem dX9_give_301 : decode cX9_give 301 = .ok (.aload_n 0, 1) := by decide +kernel
theorem dX9_give_302 : decode cX9_give 302 = .ok (.getfield 109, 3) := by decide +kernel
theorem dX9_give_305 : decode cX9_give 305 = .ok (.iload 6, 2) := by decide +kernel
theorem dX9_give_307 : decode cX9_give 307 = .ok (.iload_n 2, 1) := by decide +kernel
theorem dX9_give_308 : decode cX9_give 308 = .ok (.iload 7, 2) := by decide +kernel
theorem dX9_give_310 : decode cX9_give 310 = .ok (.iadd, 1) := by decide +kernel
theorem dX9_give_311 : decode cX9_give 311 = .ok (.iastore, 1) := by decide +kernel
theorem dX9_give_312 : decode cX9_give 312 = .ok (.iload 5, 2) := by decide +kernel
theorem dX9_give_314 : decode cX9_give 314 = .ok (.iconst 1, 1) := by decide +kernel
theorem dX9_give_315 : decode cX9_give 315 = .ok (.iload 7, 2) := by decide +kernel
theorem dX9_give_317 : decode cX9_give 317 = .ok (.ishl, 1) := by decide +kernel
theorem dX9_give_318 : decode cX9_give 318 = .ok (.ior, 1) := by decide +kernel
theorem dX9_give_319 : decode cX9_give 319 = .ok (.istore 5, 2) := by decide +kernel
theorem dX9_give_321 : decode cX9_give 321 = .ok (.iinc 6 1, 3) := by decide +kernel
theorem dX9_give_324 : decode cX9_give 324 = .ok (.goto (-40), 3) := by decide +kernel
theorem dX9_give_327 : decode cX9_give 327 = .ok (.aload_n 0, 1) := by decide +kernel
theorem dX9_give_328 : decode cX9_give 328 = .ok (.getfield 103, 3) := by decide +kernel
theorem dX9_give_331 : decode cX9_give 331 = .ok (.iconst 0, 1) := by decide +kernel
theorem dX9_give_332 : decode cX9_give 332 = .ok (.iaload, 1) := by decide +kernel
theorem dX9_give_333 : decode cX9_give 333 = .ok (.ireturn, 1) := by decide +kernel
theorem dX9_given_0 : decode cX9_given 0 = .ok (.aload_n 0, 1) := by decide +kernel
theorem dX9_given_1 : decode cX9_given 1 = .ok (.iload_n 1, 1) := by decide +kernel
theorem dX9_given_2 : decode cX9_given 2 = .ok (.invokevirtual 146, 3) := by decide +kernel
theorem dX9_given_5 : decode cX9_given 5 = .ok (.ifCond .eq 12, 3) := by decide +kernel
theorem dX9_given_8 : decode cX9_given 8 = .ok (.aload_n 0, 1) := by decide +kernel
theorem dX9_given_9 : decode cX9_given 9 = .ok (.getfield 109, 3) := by decide +kernel
theorem dX9_given_12 : decode cX9_given 12 = .ok (.iload_n 1, 1) := by decide +kernel
theorem dX9_given_13 : decode cX9_given 13 = .ok (.iaload, 1) := by decide +kernel
theorem dX9_given_14 : decode cX9_given 14 = .ok (.goto 4, 3) := by decide +kernel
theorem dX9_given_17 : decode cX9_given 17 = .ok (.iconst (-1), 1) := by decide +kernel
theorem dX9_given_18 : decode cX9_given 18 = .ok (.ireturn, 1) := by decide +kernel
theorem dX9_count_0 : decode cX9_count 0 = .ok (.iload_n 1, 1) := by decide +kernel
theorem dX9_count_1 : decode cX9_count 1 = .ok (.tableswitch 103 0 6 #[43, 48, 53, 58, 58, 58, 98], 43) := by decide +kernel
theorem dX9_count_44 : decode cX9_count 44 = .ok (.aload_n 0, 1) := by decide +kernel
theorem dX9_count_45 : decode cX9_count 45 = .ok (.getfield 119, 3) := by decide +kernel
theorem dX9_count_48 : decode cX9_count 48 = .ok (.ireturn, 1) := by decide +kernel
theorem dX9_count_49 : decode cX9_count 49 = .ok (.aload_n 0, 1) := by decide +kernel
theorem dX9_count_50 : decode cX9_count 50 = .ok (.getfield 116, 3) := by decide +kernel
theorem dX9_count_53 : decode cX9_count 53 = .ok (.ireturn, 1) := by decide +kernel
theorem dX9_count_54 : decode cX9_count 54 = .ok (.aload_n 0, 1) := by decide +kernel
theorem dX9_count_55 : decode cX9_count 55 = .ok (.getfield 126, 3) := by decide +kernel
theorem dX9_count_58 : decode cX9_count 58 = .ok (.ireturn, 1) := by decide +kernel
theorem dX9_count_59 : decode cX9_count 59 = .ok (.iconst 0, 1) := by decide +kernel
theorem dX9_count_60 : decode cX9_count 60 = .ok (.istore_n 2, 1) := by decide +kernel
theorem dX9_count_61 : decode cX9_count 61 = .ok (.iconst 0, 1) := by decide +kernel
theorem dX9_count_62 : decode cX9_count 62 = .ok (.istore_n 3, 1) := by decide +kernel
theorem dX9_count_63 : decode cX9_count 63 = .ok (.iload_n 3, 1) := by decide +kernel
theorem dX9_count_64 : decode cX9_count 64 = .ok (.aload_n 0, 1) := by decide +kernel
theorem dX9_count_65 : decode cX9_count 65 = .ok (.getfield 126, 3) := by decide +kernel
theorem dX9_count_68 : decode cX9_count 68 = .ok (.if_icmp .ge 29, 3) := by decide +kernel
theorem dX9_count_71 : decode cX9_count 71 = .ok (.iload_n 2, 1) := by decide +kernel
theorem dX9_count_72 : decode cX9_count 72 = .ok (.aload_n 0, 1) := by decide +kernel
theorem dX9_count_73 : decode cX9_count 73 = .ok (.getfield 59, 3) := by decide +kernel
theorem dX9_count_76 : decode cX9_count 76 = .ok (.iload_n 3, 1) := by decide +kernel
theorem dX9_count_77 : decode cX9_count 77 = .ok (.iaload, 1) := by decide +kernel
theorem dX9_count_78 : decode cX9_count 78 = .ok (.iload_n 1, 1) := by decide +kernel
theorem dX9_count_79 : decode cX9_count 79 = .ok (.iconst 3, 1) := by decide +kernel
theorem dX9_count_80 : decode cX9_count 80 = .ok (.isub, 1) := by decide +kernel
theorem dX9_count_81 : decode cX9_count 81 = .ok (.if_icmp .ne 7, 3) := by decide +kernel
theorem dX9_count_84 : decode cX9_count 84 = .ok (.iconst 1, 1) := by decide +kernel
theorem dX9_count_85 : decode cX9_count 85 = .ok (.goto 4, 3) := by decide +kernel
theorem dX9_count_88 : decode cX9_count 88 = .ok (.iconst 0, 1) := by decide +kernel
theorem dX9_count_89 : decode cX9_count 89 = .ok (.iadd, 1) := by decide +kernel
theorem dX9_count_90 : decode cX9_count 90 = .ok (.istore_n 2, 1) := by decide +kernel
theorem dX9_count_91 : decode cX9_count 91 = .ok (.iinc 3 1, 3) := by decide +kernel
theorem dX9_count_94 : decode cX9_count 94 = .ok (.goto (-31), 3) := by decide +kernel
theorem dX9_count_97 : decode cX9_count 97 = .ok (.iload_n 2, 1) := by decide +kernel
theorem dX9_count_98 : decode cX9_count 98 = .ok (.ireturn, 1) := by decide +kernel
theorem dX9_count_99 : decode cX9_count 99 = .ok (.aload_n 0, 1) := by decide +kernel
theorem dX9_count_100 : decode cX9_count 100 = .ok (.getfield 185, 3) := by decide +kernel
theorem dX9_count_103 : decode cX9_count 103 = .ok (.ireturn, 1) := by decide +kernel
theorem dX9_count_104 : decode cX9_count 104 = .ok (.iconst (-1), 1) := by decide +kernel
theorem dX9_count_105 : decode cX9_count 105 = .ok (.ireturn, 1) := by decide +kernel
