theorem dX9_init_0 : decode cX9_init 0 = .ok (.aload_n 0, 1) := by decide +kernel
theorem dX9_init_1 : decode cX9_init 1 = .ok (.invokespecial 1, 3) := by decide +kernel
theorem dX9_init_4 : decode cX9_init 4 = .ok (.aload_n 0, 1) := by decide +kernel
theorem dX9_init_5 : decode cX9_init 5 = .ok (.iconst 1, 1) := by decide +kernel
theorem dX9_init_6 : decode cX9_init 6 = .ok (.putfield 7, 3) := by decide +kernel
theorem dX9_init_9 : decode cX9_init 9 = .ok (.aload_n 0, 1) := by decide +kernel
theorem dX9_init_10 : decode cX9_init 10 = .ok (.bipush 6, 2) := by decide +kernel
theorem dX9_init_12 : decode cX9_init 12 = .ok (.newarray .int, 2) := by decide +kernel
theorem dX9_init_14 : decode cX9_init 14 = .ok (.putfield 13, 3) := by decide +kernel
theorem dX9_init_17 : decode cX9_init 17 = .ok (.aload_n 0, 1) := by decide +kernel
theorem dX9_init_18 : decode cX9_init 18 = .ok (.bipush 6, 2) := by decide +kernel
theorem dX9_init_20 : decode cX9_init 20 = .ok (.newarray .int, 2) := by decide +kernel
theorem dX9_init_22 : decode cX9_init 22 = .ok (.putfield 17, 3) := by decide +kernel
theorem dX9_init_25 : decode cX9_init 25 = .ok (.aload_n 0, 1) := by decide +kernel
theorem dX9_init_26 : decode cX9_init 26 = .ok (.bipush 6, 2) := by decide +kernel
theorem dX9_init_28 : decode cX9_init 28 = .ok (.newarray .int, 2) := by decide +kernel
theorem dX9_init_30 : decode cX9_init 30 = .ok (.putfield 20, 3) := by decide +kernel
theorem dX9_init_33 : decode cX9_init 33 = .ok (.aload_n 0, 1) := by decide +kernel
theorem dX9_init_34 : decode cX9_init 34 = .ok (.bipush 6, 2) := by decide +kernel
theorem dX9_init_36 : decode cX9_init 36 = .ok (.newarray .int, 2) := by decide +kernel
theorem dX9_init_38 : decode cX9_init 38 = .ok (.putfield 23, 3) := by decide +kernel
theorem dX9_init_41 : decode cX9_init 41 = .ok (.aload_n 0, 1) := by decide +kernel
theorem dX9_init_42 : decode cX9_init 42 = .ok (.bipush 6, 2) := by decide +kernel
theorem dX9_init_44 : decode cX9_init 44 = .ok (.newarray .boolean, 2) := by decide +kernel
theorem dX9_init_46 : decode cX9_init 46 = .ok (.putfield 26, 3) := by decide +kernel
theorem dX9_init_49 : decode cX9_init 49 = .ok (.aload_n 0, 1) := by decide +kernel
theorem dX9_init_50 : decode cX9_init 50 = .ok (.bipush 12, 2) := by decide +kernel
theorem dX9_init_52 : decode cX9_init 52 = .ok (.newarray .int, 2) := by decide +kernel
theorem dX9_init_54 : decode cX9_init 54 = .ok (.putfield 30, 3) := by decide +kernel
theorem dX9_init_57 : decode cX9_init 57 = .ok (.aload_n 0, 1) := by decide +kernel
theorem dX9_init_58 : decode cX9_init 58 = .ok (.bipush 6, 2) := by decide +kernel
theorem dX9_init_60 : decode cX9_init 60 = .ok (.newarray .int, 2) := by decide +kernel
theorem dX9_init_62 : decode cX9_init 62 = .ok (.putfield 33, 3) := by decide +kernel
theorem dX9_init_65 : decode cX9_init 65 = .ok (.aload_n 0, 1) := by decide +kernel
theorem dX9_init_66 : decode cX9_init 66 = .ok (.bipush 6, 2) := by decide +kernel
theorem dX9_init_68 : decode cX9_init 68 = .ok (.newarray .int, 2) := by decide +kernel
theorem dX9_init_70 : decode cX9_init 70 = .ok (.putfield 36, 3) := by decide +kernel
theorem dX9_init_73 : decode cX9_init 73 = .ok (.aload_n 0, 1) := by decide +kernel
theorem dX9_init_74 : decode cX9_init 74 = .ok (.iconst (-1), 1) := by decide +kernel
theorem dX9_init_75 : decode cX9_init 75 = .ok (.putfield 39, 3) := by decide +kernel
theorem dX9_init_78 : decode cX9_init 78 = .ok (.aload_n 0, 1) := by decide +kernel
theorem dX9_init_79 : decode cX9_init 79 = .ok (.bipush 13, 2) := by decide +kernel
theorem dX9_init_81 : decode cX9_init 81 = .ok (.newarray .int, 2) := by decide +kernel
theorem dX9_init_83 : decode cX9_init 83 = .ok (.putfield 42, 3) := by decide +kernel
theorem dX9_init_86 : decode cX9_init 86 = .ok (.aload_n 0, 1) := by decide +kernel
theorem dX9_init_87 : decode cX9_init 87 = .ok (.sipush 416, 3) := by decide +kernel
theorem dX9_init_90 : decode cX9_init 90 = .ok (.newarray .int, 2) := by decide +kernel
theorem dX9_init_92 : decode cX9_init 92 = .ok (.putfield 45, 3) := by decide +kernel
theorem dX9_init_95 : decode cX9_init 95 = .ok (.aload_n 0, 1) := by decide +kernel
theorem dX9_init_96 : decode cX9_init 96 = .ok (.sipush 416, 3) := by decide +kernel
theorem dX9_init_99 : decode cX9_init 99 = .ok (.newarray .int, 2) := by decide +kernel
theorem dX9_init_101 : decode cX9_init 101 = .ok (.putfield 48, 3) := by decide +kernel
theorem dX9_init_104 : decode cX9_init 104 = .ok (.aload_n 0, 1) := by decide +kernel
theorem dX9_init_105 : decode cX9_init 105 = .ok (.sipush 416, 3) := by decide +kernel
theorem dX9_init_108 : decode cX9_init 108 = .ok (.newarray .int, 2) := by decide +kernel
theorem dX9_init_110 : decode cX9_init 110 = .ok (.putfield 51, 3) := by decide +kernel
theorem dX9_init_113 : decode cX9_init 113 = .ok (.aload_n 0, 1) := by decide +kernel
theorem dX9_init_114 : decode cX9_init 114 = .ok (.sipush 416, 3) := by decide +kernel
theorem dX9_init_117 : decode cX9_init 117 = .ok (.newarray .int, 2) := by decide +kernel
theorem dX9_init_119 : decode cX9_init 119 = .ok (.putfield 54, 3) := by decide +kernel
theorem dX9_init_122 : decode cX9_init 122 = .ok (.aload_n 0, 1) := by decide +kernel
theorem dX9_init_123 : decode cX9_init 123 = .ok (.bipush 10, 2) := by decide +kernel
theorem dX9_init_125 : decode cX9_init 125 = .ok (.newarray .int, 2) := by decide +kernel
theorem dX9_init_127 : decode cX9_init 127 = .ok (.putfield 57, 3) := by decide +kernel
theorem dX9_init_130 : decode cX9_init 130 = .ok (.aload_n 0, 1) := by decide +kernel
theorem dX9_init_131 : decode cX9_init 131 = .ok (.bipush 10, 2) := by decide +kernel
theorem dX9_init_133 : decode cX9_init 133 = .ok (.newarray .int, 2) := by decide +kernel
theorem dX9_init_135 : decode cX9_init 135 = .ok (.putfield 60, 3) := by decide +kernel
theorem dX9_init_138 : decode cX9_init 138 = .ok (.aload_n 0, 1) := by decide +kernel
theorem dX9_init_139 : decode cX9_init 139 = .ok (.bipush 10, 2) := by decide +kernel
theorem dX9_init_141 : decode cX9_init 141 = .ok (.newarray .int, 2) := by decide +kernel
theorem dX9_init_143 : decode cX9_init 143 = .ok (.putfield 63, 3) := by decide +kernel
theorem dX9_init_146 : decode cX9_init 146 = .ok (.aload_n 0, 1) := by decide +kernel
theorem dX9_init_147 : decode cX9_init 147 = .ok (.bipush 10, 2) := by decide +kernel
theorem dX9_init_149 : decode cX9_init 149 = .ok (.newarray .int, 2) := by decide +kernel
theorem dX9_init_151 : decode cX9_init 151 = .ok (.putfield 66, 3) := by decide +kernel
theorem dX9_init_154 : decode cX9_init 154 = .ok (.aload_n 0, 1) := by decide +kernel
theorem dX9_init_155 : decode cX9_init 155 = .ok (.bipush 10, 2) := by decide +kernel
theorem dX9_init_157 : decode cX9_init 157 = .ok (.newarray .int, 2) := by decide +kernel
theorem dX9_init_159 : decode cX9_init 159 = .ok (.putfield 69, 3) := by decide +kernel
theorem dX9_init_162 : decode cX9_init 162 = .ok (.aload_n 0, 1) := by decide +kernel
theorem dX9_init_163 : decode cX9_init 163 = .ok (.bipush 6, 2) := by decide +kernel
theorem dX9_init_165 : decode cX9_init 165 = .ok (.newarray .int, 2) := by decide +kernel
theorem dX9_init_167 : decode cX9_init 167 = .ok (.putfield 72, 3) := by decide +kernel
theorem dX9_init_170 : decode cX9_init 170 = .ok (.aload_n 0, 1) := by decide +kernel
theorem dX9_init_171 : decode cX9_init 171 = .ok (.bipush 41, 2) := by decide +kernel
theorem dX9_init_173 : decode cX9_init 173 = .ok (.newarray .int, 2) := by decide +kernel
theorem dX9_init_175 : decode cX9_init 175 = .ok (.putfield 75, 3) := by decide +kernel
theorem dX9_init_178 : decode cX9_init 178 = .ok (.aload_n 0, 1) := by decide +kernel
theorem dX9_init_179 : decode cX9_init 179 = .ok (.bipush 41, 2) := by decide +kernel
theorem dX9_init_181 : decode cX9_init 181 = .ok (.newarray .int, 2) := by decide +kernel
theorem dX9_init_183 : decode cX9_init 183 = .ok (.putfield 78, 3) := by decide +kernel
theorem dX9_init_186 : decode cX9_init 186 = .ok (.aload_n 0, 1) := by decide +kernel
theorem dX9_init_187 : decode cX9_init 187 = .ok (.bipush 41, 2) := by decide +kernel
theorem dX9_init_189 : decode cX9_init 189 = .ok (.newarray .int, 2) := by decide +kernel
theorem dX9_init_191 : decode cX9_init 191 = .ok (.putfield 81, 3) := by decide +kernel
theorem dX9_init_194 : decode cX9_init 194 = .ok (.aload_n 0, 1) := by decide +kernel
theorem dX9_init_195 : decode cX9_init 195 = .ok (.bipush 41, 2) := by decide +kernel
theorem dX9_init_197 : decode cX9_init 197 = .ok (.newarray .int, 2) := by decide +kernel
theorem dX9_init_199 : decode cX9_init 199 = .ok (.putfield 84, 3) := by decide +kernel
theorem dX9_init_202 : decode cX9_init 202 = .ok (.aload_n 0, 1) := by decide +kernel
theorem dX9_init_203 : decode cX9_init 203 = .ok (.bipush 41, 2) := by decide +kernel
theorem dX9_init_205 : decode cX9_init 205 = .ok (.newarray .int, 2) := by decide +kernel
theorem dX9_init_207 : decode cX9_init 207 = .ok (.putfield 87, 3) := by decide +kernel
theorem dX9_init_210 : decode cX9_init 210 = .ok (.aload_n 0, 1) := by decide +kernel
theorem dX9_init_211 : decode cX9_init 211 = .ok (.bipush 41, 2) := by decide +kernel
theorem dX9_init_213 : decode cX9_init 213 = .ok (.newarray .int, 2) := by decide +kernel
theorem dX9_init_215 : decode cX9_init 215 = .ok (.putfield 90, 3) := by decide +kernel
theorem dX9_init_218 : decode cX9_init 218 = .ok (.aload_n 0, 1) := by decide +kernel
theorem dX9_init_219 : decode cX9_init 219 = .ok (.bipush 41, 2) := by decide +kernel
theorem dX9_init_221 : decode cX9_init 221 = .ok (.newarray .int, 2) := by decide +kernel
theorem dX9_init_223 : decode cX9_init 223 = .ok (.putfield 93, 3) := by decide +kernel
theorem dX9_init_226 : decode cX9_init 226 = .ok (.aload_n 0, 1) := by decide +kernel
theorem dX9_init_227 : decode cX9_init 227 = .ok (.iconst 5, 1) := by decide +kernel
theorem dX9_init_228 : decode cX9_init 228 = .ok (.newarray .int, 2) := by decide +kernel
theorem dX9_init_230 : decode cX9_init 230 = .ok (.putfield 96, 3) := by decide +kernel
theorem dX9_init_233 : decode cX9_init 233 = .ok (.aload_n 0, 1) := by decide +kernel
theorem dX9_init_234 : decode cX9_init 234 = .ok (.getfield 17, 3) := by decide +kernel
theorem dX9_init_237 : decode cX9_init 237 = .ok (.iconst 0, 1) := by decide +kernel
theorem dX9_init_238 : decode cX9_init 238 = .ok (.bipush 10, 2) := by decide +kernel
theorem dX9_init_240 : decode cX9_init 240 = .ok (.iastore, 1) := by decide +kernel
theorem dX9_init_241 : decode cX9_init 241 = .ok (.iconst 0, 1) := by decide +kernel
theorem dX9_init_242 : decode cX9_init 242 = .ok (.istore_n 1, 1) := by decide +kernel
theorem dX9_init_243 : decode cX9_init 243 = .ok (.iload_n 1, 1) := by decide +kernel
theorem dX9_init_244 : decode cX9_init 244 = .ok (.bipush 12, 2) := by decide +kernel
theorem dX9_init_246 : decode cX9_init 246 = .ok (.if_icmp .ge 16, 3) := by decide +kernel
theorem dX9_init_249 : decode cX9_init 249 = .ok (.aload_n 0, 1) := by decide +kernel
theorem dX9_init_250 : decode cX9_init 250 = .ok (.getfield 30, 3) := by decide +kernel
theorem dX9_init_253 : decode cX9_init 253 = .ok (.iload_n 1, 1) := by decide +kernel
theorem dX9_init_254 : decode cX9_init 254 = .ok (.iconst (-1), 1) := by decide +kernel
theorem dX9_init_255 : decode cX9_init 255 = .ok (.iastore, 1) := by decide +kernel
theorem dX9_init_256 : decode cX9_init 256 = .ok (.iinc 1 1, 3) := by decide +kernel
theorem dX9_init_259 : decode cX9_init 259 = .ok (.goto (-16), 3) := by decide +kernel
theorem dX9_init_262 : decode cX9_init 262 = .ok (.iconst 0, 1) := by decide +kernel
theorem dX9_init_263 : decode cX9_init 263 = .ok (.istore_n 1, 1) := by decide +kernel
theorem dX9_init_264 : decode cX9_init 264 = .ok (.iload_n 1, 1) := by decide +kernel
theorem dX9_init_265 : decode cX9_init 265 = .ok (.bipush 6, 2) := by decide +kernel
theorem dX9_init_267 : decode cX9_init 267 = .ok (.if_icmp .ge 16, 3) := by decide +kernel
theorem dX9_init_270 : decode cX9_init 270 = .ok (.aload_n 0, 1) := by decide +kernel
theorem dX9_init_271 : decode cX9_init 271 = .ok (.getfield 23, 3) := by decide +kernel
theorem dX9_init_274 : decode cX9_init 274 = .ok (.iload_n 1, 1) := by decide +kernel
theorem dX9_init_275 : decode cX9_init 275 = .ok (.iconst (-1), 1) := by decide +kernel
theorem dX9_init_276 : decode cX9_init 276 = .ok (.iastore, 1) := by decide +kernel
theorem dX9_init_277 : decode cX9_init 277 = .ok (.iinc 1 1, 3) := by decide +kernel
theorem dX9_init_280 : decode cX9_init 280 = .ok (.goto (-16), 3) := by decide +kernel
theorem dX9_init_283 : decode cX9_init 283 = .ok (.iconst 0, 1) := by decide +kernel
theorem dX9_init_284 : decode cX9_init 284 = .ok (.istore_n 1, 1) := by decide +kernel
theorem dX9_init_285 : decode cX9_init 285 = .ok (.iload_n 1, 1) := by decide +kernel
theorem dX9_init_286 : decode cX9_init 286 = .ok (.iconst 5, 1) := by decide +kernel
theorem dX9_init_287 : decode cX9_init 287 = .ok (.if_icmp .ge 16, 3) := by decide +kernel
theorem dX9_init_290 : decode cX9_init 290 = .ok (.aload_n 0, 1) := by decide +kernel
theorem dX9_init_291 : decode cX9_init 291 = .ok (.getfield 96, 3) := by decide +kernel
theorem dX9_init_294 : decode cX9_init 294 = .ok (.iload_n 1, 1) := by decide +kernel
theorem dX9_init_295 : decode cX9_init 295 = .ok (.iconst (-1), 1) := by decide +kernel
theorem dX9_init_296 : decode cX9_init 296 = .ok (.iastore, 1) := by decide +kernel
theorem dX9_init_297 : decode cX9_init 297 = .ok (.iinc 1 1, 3) := by decide +kernel
theorem dX9_init_300 : decode cX9_init 300 = .ok (.goto (-15), 3) := by decide +kernel
theorem dX9_init_303 : decode cX9_init 303 = .ok (.return_, 1) := by decide +kernel
theorem dX9_thrown_0 : decode cX9_thrown 0 = .ok (.aload_n 0, 1) := by decide +kernel
theorem dX9_thrown_1 : decode cX9_thrown 1 = .ok (.getfield 99, 3) := by decide +kernel
theorem dX9_thrown_4 : decode cX9_thrown 4 = .ok (.ireturn, 1) := by decide +kernel
theorem dX9_asked_0 : decode cX9_asked 0 = .ok (.aload_n 0, 1) := by decide +kernel
theorem dX9_asked_1 : decode cX9_asked 1 = .ok (.iload_n 1, 1) := by decide +kernel
theorem dX9_asked_2 : decode cX9_asked 2 = .ok (.ifCond .eq 7, 3) := by decide +kernel
theorem dX9_asked_5 : decode cX9_asked 5 = .ok (.iconst 0, 1) := by decide +kernel
theorem dX9_asked_6 : decode cX9_asked 6 = .ok (.goto 4, 3) := by decide +kernel
theorem dX9_asked_9 : decode cX9_asked 9 = .ok (.iconst 1, 1) := by decide +kernel
theorem dX9_asked_10 : decode cX9_asked 10 = .ok (.putfield 99, 3) := by decide +kernel
theorem dX9_asked_13 : decode cX9_asked 13 = .ok (.iload_n 1, 1) := by decide +kernel
theorem dX9_asked_14 : decode cX9_asked 14 = .ok (.ireturn, 1) := by decide +kernel
theorem dX9_asked__0 : decode cX9_asked_ 0 = .ok (.aload_n 0, 1) := by decide +kernel
theorem dX9_asked__1 : decode cX9_asked_ 1 = .ok (.iload_n 1, 1) := by decide +kernel
theorem dX9_asked__2 : decode cX9_asked_ 2 = .ok (.ifCond .ne 7, 3) := by decide +kernel
theorem dX9_asked__5 : decode cX9_asked_ 5 = .ok (.iconst 1, 1) := by decide +kernel
theorem dX9_asked__6 : decode cX9_asked_ 6 = .ok (.goto 12, 3) := by decide +kernel
theorem dX9_asked__9 : decode cX9_asked_ 9 = .ok (.iload_n 2, 1) := by decide +kernel
theorem dX9_asked__10 : decode cX9_asked_ 10 = .ok (.ifCond .eq 7, 3) := by decide +kernel
theorem dX9_asked__13 : decode cX9_asked_ 13 = .ok (.iconst 0, 1) := by decide +kernel
theorem dX9_asked__14 : decode cX9_asked_ 14 = .ok (.goto 4, 3) := by decide +kernel
theorem dX9_asked__17 : decode cX9_asked_ 17 = .ok (.iconst 2, 1) := by decide +kernel
theorem dX9_asked__18 : decode cX9_asked_ 18 = .ok (.putfield 99, 3) := by decide +kernel
theorem dX9_asked__21 : decode cX9_asked_ 21 = .ok (.aload_n 0, 1) := by decide +kernel
theorem dX9_asked__22 : decode cX9_asked_ 22 = .ok (.getfield 99, 3) := by decide +kernel
theorem dX9_asked__25 : decode cX9_asked_ 25 = .ok (.ifCond .ne 7, 3) := by decide +kernel
theorem dX9_asked__28 : decode cX9_asked_ 28 = .ok (.iconst 1, 1) := by decide +kernel
theorem dX9_asked__29 : decode cX9_asked_ 29 = .ok (.goto 4, 3) := by decide +kernel
theorem dX9_asked__32 : decode cX9_asked_ 32 = .ok (.iconst 0, 1) := by decide +kernel
theorem dX9_asked__33 : decode cX9_asked_ 33 = .ok (.ireturn, 1) := by decide +kernel
theorem dX9_asked___0 : decode cX9_asked__ 0 = .ok (.aload_n 0, 1) := by decide +kernel
theorem dX9_asked___1 : decode cX9_asked__ 1 = .ok (.iload_n 1, 1) := by decide +kernel
theorem dX9_asked___2 : decode cX9_asked__ 2 = .ok (.ifCond .ne 7, 3) := by decide +kernel
theorem dX9_asked___5 : decode cX9_asked__ 5 = .ok (.iconst 1, 1) := by decide +kernel
theorem dX9_asked___6 : decode cX9_asked__ 6 = .ok (.goto 20, 3) := by decide +kernel
theorem dX9_asked___9 : decode cX9_asked__ 9 = .ok (.iload_n 2, 1) := by decide +kernel
theorem dX9_asked___10 : decode cX9_asked__ 10 = .ok (.ifCond .ne 7, 3) := by decide +kernel
theorem dX9_asked___13 : decode cX9_asked__ 13 = .ok (.iconst 2, 1) := by decide +kernel
theorem dX9_asked___14 : decode cX9_asked__ 14 = .ok (.goto 12, 3) := by decide +kernel
theorem dX9_asked___17 : decode cX9_asked__ 17 = .ok (.iload_n 3, 1) := by decide +kernel
theorem dX9_asked___18 : decode cX9_asked__ 18 = .ok (.ifCond .eq 7, 3) := by decide +kernel
theorem dX9_asked___21 : decode cX9_asked__ 21 = .ok (.iconst 0, 1) := by decide +kernel
theorem dX9_asked___22 : decode cX9_asked__ 22 = .ok (.goto 4, 3) := by decide +kernel
theorem dX9_asked___25 : decode cX9_asked__ 25 = .ok (.iconst 3, 1) := by decide +kernel
theorem dX9_asked___26 : decode cX9_asked__ 26 = .ok (.putfield 99, 3) := by decide +kernel
theorem dX9_asked___29 : decode cX9_asked__ 29 = .ok (.aload_n 0, 1) := by decide +kernel
theorem dX9_asked___30 : decode cX9_asked__ 30 = .ok (.getfield 99, 3) := by decide +kernel
theorem dX9_asked___33 : decode cX9_asked__ 33 = .ok (.ifCond .ne 7, 3) := by decide +kernel
theorem dX9_asked___36 : decode cX9_asked__ 36 = .ok (.iconst 1, 1) := by decide +kernel
theorem dX9_asked___37 : decode cX9_asked__ 37 = .ok (.goto 4, 3) := by decide +kernel
theorem dX9_asked___40 : decode cX9_asked__ 40 = .ok (.iconst 0, 1) := by decide +kernel
theorem dX9_asked___41 : decode cX9_asked__ 41 = .ok (.ireturn, 1) := by decide +kernel
theorem dX9_in_0 : decode cX9_in 0 = .ok (.iload_n 0, 1) := by decide +kernel
theorem dX9_in_1 : decode cX9_in 1 = .ok (.iload_n 1, 1) := by decide +kernel
theorem dX9_in_2 : decode cX9_in 2 = .ok (.if_icmp .lt 12, 3) := by decide +kernel
theorem dX9_in_5 : decode cX9_in 5 = .ok (.iload_n 0, 1) := by decide +kernel
theorem dX9_in_6 : decode cX9_in 6 = .ok (.iload_n 2, 1) := by decide +kernel
theorem dX9_in_7 : decode cX9_in 7 = .ok (.if_icmp .gt 7, 3) := by decide +kernel
theorem dX9_in_10 : decode cX9_in 10 = .ok (.iconst 1, 1) := by decide +kernel
theorem dX9_in_11 : decode cX9_in 11 = .ok (.goto 4, 3) := by decide +kernel
theorem dX9_in_14 : decode cX9_in 14 = .ok (.iconst 0, 1) := by decide +kernel
theorem dX9_in_15 : decode cX9_in 15 = .ok (.ireturn, 1) := by decide +kernel
theorem dX9_figures_0 : decode cX9_figures 0 = .ok (.iconst 0, 1) := by decide +kernel
theorem dX9_figures_1 : decode cX9_figures 1 = .ok (.istore_n 1, 1) := by decide +kernel
theorem dX9_figures_2 : decode cX9_figures 2 = .ok (.iload_n 0, 1) := by decide +kernel
theorem dX9_figures_3 : decode cX9_figures 3 = .ok (.istore_n 2, 1) := by decide +kernel
theorem dX9_figures_4 : decode cX9_figures 4 = .ok (.iload_n 2, 1) := by decide +kernel
theorem dX9_figures_5 : decode cX9_figures 5 = .ok (.ifCond .le 14, 3) := by decide +kernel
theorem dX9_figures_8 : decode cX9_figures 8 = .ok (.iinc 1 1, 3) := by decide +kernel
theorem dX9_figures_11 : decode cX9_figures 11 = .ok (.iload_n 2, 1) := by decide +kernel
theorem dX9_figures_12 : decode cX9_figures 12 = .ok (.bipush 10, 2) := by decide +kernel
theorem dX9_figures_14 : decode cX9_figures 14 = .ok (.idiv, 1) := by decide +kernel
theorem dX9_figures_15 : decode cX9_figures 15 = .ok (.istore_n 2, 1) := by decide +kernel
theorem dX9_figures_16 : decode cX9_figures 16 = .ok (.goto (-12), 3) := by decide +kernel
theorem dX9_figures_19 : decode cX9_figures 19 = .ok (.iload_n 1, 1) := by decide +kernel
theorem dX9_figures_20 : decode cX9_figures 20 = .ok (.ireturn, 1) := by decide +kernel
set_option maxRecDepth 20000 in
theorem ggX9_isName_X9_in : GoodIn wsX9_isName wsX9_in := goodIn_r _ [4] (by decide +kernel) (by decide +kernel)
set_option maxRecDepth 20000 in
theorem gX9_isName_X9_in : GoodIn wsX9_isName (va_wsS RX9 102 yX9_in wsX9_in) := goodIn_app (goodIn_of _ (by decide +kernel)) ggX9_isName_X9_in
theorem dX9_isName_0 : decode cX9_isName 0 = .ok (.iload_n 0, 1) := by decide +kernel
theorem dX9_isName_1 : decode cX9_isName 1 = .ok (.iconst 0, 1) := by decide +kernel
theorem dX9_isName_2 : decode cX9_isName 2 = .ok (.sipush 9999, 3) := by decide +kernel
theorem dX9_isName_5 : decode cX9_isName 5 = .ok (.invokestatic 102, 3) := by decide +kernel
theorem dX9_isName_8 : decode cX9_isName 8 = .ok (.istore_n 1, 1) := by decide +kernel
theorem dX9_isName_9 : decode cX9_isName 9 = .ok (.iload_n 0, 1) := by decide +kernel
theorem dX9_isName_10 : decode cX9_isName 10 = .ok (.istore_n 2, 1) := by decide +kernel
theorem dX9_isName_11 : decode cX9_isName 11 = .ok (.iload_n 2, 1) := by decide +kernel
theorem dX9_isName_12 : decode cX9_isName 12 = .ok (.ifCond .le 28, 3) := by decide +kernel
theorem dX9_isName_15 : decode cX9_isName 15 = .ok (.iload_n 1, 1) := by decide +kernel
theorem dX9_isName_16 : decode cX9_isName 16 = .ok (.ifCond .eq 24, 3) := by decide +kernel
theorem dX9_isName_19 : decode cX9_isName 19 = .ok (.iload_n 2, 1) := by decide +kernel
theorem dX9_isName_20 : decode cX9_isName 20 = .ok (.bipush 10, 2) := by decide +kernel
theorem dX9_isName_22 : decode cX9_isName 22 = .ok (.irem, 1) := by decide +kernel
theorem dX9_isName_23 : decode cX9_isName 23 = .ok (.ifCond .le 7, 3) := by decide +kernel
theorem dX9_isName_26 : decode cX9_isName 26 = .ok (.iconst 1, 1) := by decide +kernel
theorem dX9_isName_27 : decode cX9_isName 27 = .ok (.goto 4, 3) := by decide +kernel
theorem dX9_isName_30 : decode cX9_isName 30 = .ok (.iconst 0, 1) := by decide +kernel
theorem dX9_isName_31 : decode cX9_isName 31 = .ok (.istore_n 1, 1) := by decide +kernel
theorem dX9_isName_32 : decode cX9_isName 32 = .ok (.iload_n 2, 1) := by decide +kernel
theorem dX9_isName_33 : decode cX9_isName 33 = .ok (.bipush 10, 2) := by decide +kernel
theorem dX9_isName_35 : decode cX9_isName 35 = .ok (.idiv, 1) := by decide +kernel
theorem dX9_isName_36 : decode cX9_isName 36 = .ok (.istore_n 2, 1) := by decide +kernel
theorem dX9_isName_37 : decode cX9_isName 37 = .ok (.goto (-26), 3) := by decide +kernel
theorem dX9_isName_40 : decode cX9_isName 40 = .ok (.iload_n 1, 1) := by decide +kernel
theorem dX9_isName_41 : decode cX9_isName 41 = .ok (.ireturn, 1) := by decide +kernel
set_option maxRecDepth 20000 in
theorem ggX9_isStar_X9_isName : GoodIn wsX9_isStar wsX9_isName := goodIn_r _ [4, 5, 6, 3, 7] (by decide +kernel) (by decide +kernel)
set_option maxRecDepth 20000 in
theorem gX9_isStar_X9_isName : GoodIn wsX9_isStar (va_wsS RX9 106 yX9_isName wsX9_isName) := goodIn_app (goodIn_of _ (by decide +kernel)) ggX9_isStar_X9_isName
theorem dX9_isStar_0 : decode cX9_isStar 0 = .ok (.iload_n 0, 1) := by decide +kernel
theorem dX9_isStar_1 : decode cX9_isStar 1 = .ok (.ifCond .le 34, 3) := by decide +kernel
theorem dX9_isStar_4 : decode cX9_isStar 4 = .ok (.iload_n 0, 1) := by decide +kernel
theorem dX9_isStar_5 : decode cX9_isStar 5 = .ok (.bipush 10, 2) := by decide +kernel
theorem dX9_isStar_7 : decode cX9_isStar 7 = .ok (.irem, 1) := by decide +kernel
theorem dX9_isStar_8 : decode cX9_isStar 8 = .ok (.ifCond .ne 27, 3) := by decide +kernel
theorem dX9_isStar_11 : decode cX9_isStar 11 = .ok (.iload_n 0, 1) := by decide +kernel
theorem dX9_isStar_12 : decode cX9_isStar 12 = .ok (.bipush 10, 2) := by decide +kernel
theorem dX9_isStar_14 : decode cX9_isStar 14 = .ok (.idiv, 1) := by decide +kernel
theorem dX9_isStar_15 : decode cX9_isStar 15 = .ok (.sipush 1000, 3) := by decide +kernel
theorem dX9_isStar_18 : decode cX9_isStar 18 = .ok (.if_icmp .ge 17, 3) := by decide +kernel
theorem dX9_isStar_21 : decode cX9_isStar 21 = .ok (.iload_n 0, 1) := by decide +kernel
theorem dX9_isStar_22 : decode cX9_isStar 22 = .ok (.bipush 10, 2) := by decide +kernel
theorem dX9_isStar_24 : decode cX9_isStar 24 = .ok (.idiv, 1) := by decide +kernel
theorem dX9_isStar_25 : decode cX9_isStar 25 = .ok (.invokestatic 106, 3) := by decide +kernel
theorem dX9_isStar_28 : decode cX9_isStar 28 = .ok (.ifCond .eq 7, 3) := by decide +kernel
theorem dX9_isStar_31 : decode cX9_isStar 31 = .ok (.iconst 1, 1) := by decide +kernel
theorem dX9_isStar_32 : decode cX9_isStar 32 = .ok (.goto 4, 3) := by decide +kernel
theorem dX9_isStar_35 : decode cX9_isStar 35 = .ok (.iconst 0, 1) := by decide +kernel
theorem dX9_isStar_36 : decode cX9_isStar 36 = .ok (.ireturn, 1) := by decide +kernel
set_option maxRecDepth 20000 in
theorem ggX9_isPlace_X9_isName : GoodIn wsX9_isPlace wsX9_isName := goodIn_r _ [4, 5, 6, 3, 7] (by decide +kernel) (by decide +kernel)
set_option maxRecDepth 20000 in
theorem gX9_isPlace_X9_isName : GoodIn wsX9_isPlace (va_wsS RX9 106 yX9_isName wsX9_isName) := goodIn_app (goodIn_of _ (by decide +kernel)) ggX9_isPlace_X9_isName
set_option maxRecDepth 20000 in
theorem ggX9_isPlace_X9_isStar : GoodIn wsX9_isPlace wsX9_isStar := goodIn_r _ [10, 1, 2, 3, 4, 5, 6, 7] (by decide +kernel) (by decide +kernel)
set_option maxRecDepth 20000 in
theorem gX9_isPlace_X9_isStar : GoodIn wsX9_isPlace (va_wsS RX9 110 yX9_isStar wsX9_isStar) := goodIn_app (goodIn_of _ (by decide +kernel)) ggX9_isPlace_X9_isStar
theorem dX9_isPlace_0 : decode cX9_isPlace 0 = .ok (.iload_n 0, 1) := by decide +kernel
theorem dX9_isPlace_1 : decode cX9_isPlace 1 = .ok (.invokestatic 106, 3) := by decide +kernel
theorem dX9_isPlace_4 : decode cX9_isPlace 4 = .ok (.ifCond .ne 10, 3) := by decide +kernel
theorem dX9_isPlace_7 : decode cX9_isPlace 7 = .ok (.iload_n 0, 1) := by decide +kernel
theorem dX9_isPlace_8 : decode cX9_isPlace 8 = .ok (.invokestatic 110, 3) := by decide +kernel
theorem dX9_isPlace_11 : decode cX9_isPlace 11 = .ok (.ifCond .eq 7, 3) := by decide +kernel
theorem dX9_isPlace_14 : decode cX9_isPlace 14 = .ok (.iconst 1, 1) := by decide +kernel
theorem dX9_isPlace_15 : decode cX9_isPlace 15 = .ok (.goto 4, 3) := by decide +kernel
theorem dX9_isPlace_18 : decode cX9_isPlace 18 = .ok (.iconst 0, 1) := by decide +kernel
theorem dX9_isPlace_19 : decode cX9_isPlace 19 = .ok (.ireturn, 1) := by decide +kernel
theorem dX9_base_0 : decode cX9_base 0 = .ok (.iload_n 0, 1) := by decide +kernel
theorem dX9_base_1 : decode cX9_base 1 = .ok (.ifCond .le 17, 3) := by decide +kernel
theorem dX9_base_4 : decode cX9_base 4 = .ok (.iload_n 0, 1) := by decide +kernel
theorem dX9_base_5 : decode cX9_base 5 = .ok (.bipush 10, 2) := by decide +kernel
theorem dX9_base_7 : decode cX9_base 7 = .ok (.irem, 1) := by decide +kernel
theorem dX9_base_8 : decode cX9_base 8 = .ok (.ifCond .ne 10, 3) := by decide +kernel
theorem dX9_base_11 : decode cX9_base 11 = .ok (.iload_n 0, 1) := by decide +kernel
theorem dX9_base_12 : decode cX9_base 12 = .ok (.bipush 10, 2) := by decide +kernel
theorem dX9_base_14 : decode cX9_base 14 = .ok (.idiv, 1) := by decide +kernel
theorem dX9_base_15 : decode cX9_base 15 = .ok (.goto 4, 3) := by decide +kernel
theorem dX9_base_18 : decode cX9_base 18 = .ok (.iload_n 0, 1) := by decide +kernel
theorem dX9_base_19 : decode cX9_base 19 = .ok (.ireturn, 1) := by decide +kernel
theorem dX9_ten_0 : decode cX9_ten 0 = .ok (.iconst 1, 1) := by decide +kernel
theorem dX9_ten_1 : decode cX9_ten 1 = .ok (.istore_n 1, 1) := by decide +kernel
theorem dX9_ten_2 : decode cX9_ten 2 = .ok (.iconst 0, 1) := by decide +kernel
theorem dX9_ten_3 : decode cX9_ten 3 = .ok (.istore_n 2, 1) := by decide +kernel
theorem dX9_ten_4 : decode cX9_ten 4 = .ok (.iload_n 2, 1) := by decide +kernel
theorem dX9_ten_5 : decode cX9_ten 5 = .ok (.iload_n 0, 1) := by decide +kernel
theorem dX9_ten_6 : decode cX9_ten 6 = .ok (.if_icmp .ge 14, 3) := by decide +kernel
theorem dX9_ten_9 : decode cX9_ten 9 = .ok (.iload_n 1, 1) := by decide +kernel
theorem dX9_ten_10 : decode cX9_ten 10 = .ok (.bipush 10, 2) := by decide +kernel
theorem dX9_ten_12 : decode cX9_ten 12 = .ok (.imul, 1) := by decide +kernel
theorem dX9_ten_13 : decode cX9_ten 13 = .ok (.istore_n 1, 1) := by decide +kernel
theorem dX9_ten_14 : decode cX9_ten 14 = .ok (.iinc 2 1, 3) := by decide +kernel
theorem dX9_ten_17 : decode cX9_ten 17 = .ok (.goto (-13), 3) := by decide +kernel
theorem dX9_ten_20 : decode cX9_ten 20 = .ok (.iload_n 1, 1) := by decide +kernel
theorem dX9_ten_21 : decode cX9_ten 21 = .ok (.ireturn, 1) := by decide +kernel
set_option maxRecDepth 20000 in
theorem ggX9_head_X9_figures : GoodIn wsX9_head wsX9_figures := goodIn_r _ [4] (by decide +kernel) (by decide +kernel)
set_option maxRecDepth 20000 in
theorem gX9_head_X9_figures : GoodIn wsX9_head (va_wsS RX9 113 yX9_figures wsX9_figures) := goodIn_app (goodIn_of _ (by decide +kernel)) ggX9_head_X9_figures
set_option maxRecDepth 20000 in
theorem ggX9_head_X9_ten : GoodIn wsX9_head wsX9_ten := goodIn_r _ [7] (by decide +kernel) (by decide +kernel)
set_option maxRecDepth 20000 in
theorem gX9_head_X9_ten : GoodIn wsX9_head (va_wsS RX9 117 yX9_ten wsX9_ten) := goodIn_app (goodIn_of _ (by decide +kernel)) ggX9_head_X9_ten
theorem dX9_head_0 : decode cX9_head 0 = .ok (.iload_n 0, 1) := by decide +kernel
theorem dX9_head_1 : decode cX9_head 1 = .ok (.iload_n 0, 1) := by decide +kernel
theorem dX9_head_2 : decode cX9_head 2 = .ok (.invokestatic 113, 3) := by decide +kernel
theorem dX9_head_5 : decode cX9_head 5 = .ok (.iload_n 1, 1) := by decide +kernel
theorem dX9_head_6 : decode cX9_head 6 = .ok (.isub, 1) := by decide +kernel
theorem dX9_head_7 : decode cX9_head 7 = .ok (.invokestatic 117, 3) := by decide +kernel
theorem dX9_head_10 : decode cX9_head 10 = .ok (.idiv, 1) := by decide +kernel
theorem dX9_head_11 : decode cX9_head 11 = .ok (.ireturn, 1) := by decide +kernel
set_option maxRecDepth 20000 in
theorem ggX9_isUnder_X9_figures : GoodIn wsX9_isUnder wsX9_figures := goodIn_r _ [4] (by decide +kernel) (by decide +kernel)
set_option maxRecDepth 20000 in
theorem gX9_isUnder_X9_figures : GoodIn wsX9_isUnder (va_wsS RX9 113 yX9_figures wsX9_figures) := goodIn_app (goodIn_of _ (by decide +kernel)) ggX9_isUnder_X9_figures
set_option maxRecDepth 20000 in
theorem ggX9_isUnder_X9_head : GoodIn wsX9_isUnder wsX9_head := goodIn_r _ [7, 1, 2, 3, 4, 8, 9, 10] (by decide +kernel) (by decide +kernel)
set_option maxRecDepth 20000 in
theorem gX9_isUnder_X9_head : GoodIn wsX9_isUnder (va_wsS RX9 120 yX9_head wsX9_head) := goodIn_app (goodIn_of _ (by decide +kernel)) ggX9_isUnder_X9_head
theorem dX9_isUnder_0 : decode cX9_isUnder 0 = .ok (.iload_n 1, 1) := by decide +kernel
theorem dX9_isUnder_1 : decode cX9_isUnder 1 = .ok (.invokestatic 113, 3) := by decide +kernel
theorem dX9_isUnder_4 : decode cX9_isUnder 4 = .ok (.istore_n 2, 1) := by decide +kernel
theorem dX9_isUnder_5 : decode cX9_isUnder 5 = .ok (.iload_n 0, 1) := by decide +kernel
theorem dX9_isUnder_6 : decode cX9_isUnder 6 = .ok (.invokestatic 113, 3) := by decide +kernel
theorem dX9_isUnder_9 : decode cX9_isUnder 9 = .ok (.iload_n 2, 1) := by decide +kernel
theorem dX9_isUnder_10 : decode cX9_isUnder 10 = .ok (.if_icmp .lt 16, 3) := by decide +kernel
theorem dX9_isUnder_13 : decode cX9_isUnder 13 = .ok (.iload_n 0, 1) := by decide +kernel
theorem dX9_isUnder_14 : decode cX9_isUnder 14 = .ok (.iload_n 2, 1) := by decide +kernel
theorem dX9_isUnder_15 : decode cX9_isUnder 15 = .ok (.invokestatic 120, 3) := by decide +kernel
theorem dX9_isUnder_18 : decode cX9_isUnder 18 = .ok (.iload_n 1, 1) := by decide +kernel
theorem dX9_isUnder_19 : decode cX9_isUnder 19 = .ok (.if_icmp .ne 7, 3) := by decide +kernel
theorem dX9_isUnder_22 : decode cX9_isUnder 22 = .ok (.iconst 1, 1) := by decide +kernel
theorem dX9_isUnder_23 : decode cX9_isUnder 23 = .ok (.goto 4, 3) := by decide +kernel
theorem dX9_isUnder_26 : decode cX9_isUnder 26 = .ok (.iconst 0, 1) := by decide +kernel
theorem dX9_isUnder_27 : decode cX9_isUnder 27 = .ok (.ireturn, 1) := by decide +kernel
set_option maxRecDepth 20000 in
theorem ggX9_isStrictly_X9_isUnder : GoodIn wsX9_isStrictly wsX9_isUnder := goodIn_r _ [4, 5, 6, 3, 7, 8, 9, 10, 11, 12, 13] (by decide +kernel) (by decide +kernel)
set_option maxRecDepth 20000 in
theorem gX9_isStrictly_X9_isUnder : GoodIn wsX9_isStrictly (va_wsS RX9 124 yX9_isUnder wsX9_isUnder) := goodIn_app (goodIn_of _ (by decide +kernel)) ggX9_isStrictly_X9_isUnder
theorem dX9_isStrictly_0 : decode cX9_isStrictly 0 = .ok (.iload_n 0, 1) := by decide +kernel
theorem dX9_isStrictly_1 : decode cX9_isStrictly 1 = .ok (.iload_n 1, 1) := by decide +kernel
theorem dX9_isStrictly_2 : decode cX9_isStrictly 2 = .ok (.if_icmp .eq 15, 3) := by decide +kernel
theorem dX9_isStrictly_5 : decode cX9_isStrictly 5 = .ok (.iload_n 0, 1) := by decide +kernel
theorem dX9_isStrictly_6 : decode cX9_isStrictly 6 = .ok (.iload_n 1, 1) := by decide +kernel
theorem dX9_isStrictly_7 : decode cX9_isStrictly 7 = .ok (.invokestatic 124, 3) := by decide +kernel
theorem dX9_isStrictly_10 : decode cX9_isStrictly 10 = .ok (.ifCond .eq 7, 3) := by decide +kernel
theorem dX9_isStrictly_13 : decode cX9_isStrictly 13 = .ok (.iconst 1, 1) := by decide +kernel
theorem dX9_isStrictly_14 : decode cX9_isStrictly 14 = .ok (.goto 4, 3) := by decide +kernel
theorem dX9_isStrictly_17 : decode cX9_isStrictly 17 = .ok (.iconst 0, 1) := by decide +kernel
theorem dX9_isStrictly_18 : decode cX9_isStrictly 18 = .ok (.ireturn, 1) := by decide +kernel
set_option maxRecDepth 20000 in
theorem ggX9_order_X9_figures : GoodIn wsX9_order wsX9_figures := goodIn_r _ [4] (by decide +kernel) (by decide +kernel)
set_option maxRecDepth 20000 in
theorem gX9_order_X9_figures : GoodIn wsX9_order (va_wsS RX9 113 yX9_figures wsX9_figures) := goodIn_app (goodIn_of _ (by decide +kernel)) ggX9_order_X9_figures
set_option maxRecDepth 20000 in
theorem ggX9_order_X9_ten : GoodIn wsX9_order wsX9_ten := goodIn_r _ [7] (by decide +kernel) (by decide +kernel)
set_option maxRecDepth 20000 in
theorem gX9_order_X9_ten : GoodIn wsX9_order (va_wsS RX9 117 yX9_ten wsX9_ten) := goodIn_app (goodIn_of _ (by decide +kernel)) ggX9_order_X9_ten
theorem dX9_order_0 : decode cX9_order 0 = .ok (.iload_n 0, 1) := by decide +kernel
theorem dX9_order_1 : decode cX9_order 1 = .ok (.invokestatic 113, 3) := by decide +kernel
theorem dX9_order_4 : decode cX9_order 4 = .ok (.istore_n 1, 1) := by decide +kernel
theorem dX9_order_5 : decode cX9_order 5 = .ok (.iconst 0, 1) := by decide +kernel
theorem dX9_order_6 : decode cX9_order 6 = .ok (.istore_n 2, 1) := by decide +kernel
theorem dX9_order_7 : decode cX9_order 7 = .ok (.iconst 0, 1) := by decide +kernel
theorem dX9_order_8 : decode cX9_order 8 = .ok (.istore_n 3, 1) := by decide +kernel
theorem dX9_order_9 : decode cX9_order 9 = .ok (.iload_n 3, 1) := by decide +kernel
theorem dX9_order_10 : decode cX9_order 10 = .ok (.iconst 5, 1) := by decide +kernel
theorem dX9_order_11 : decode cX9_order 11 = .ok (.if_icmp .ge 39, 3) := by decide +kernel
theorem dX9_order_14 : decode cX9_order 14 = .ok (.bipush 11, 2) := by decide +kernel
theorem dX9_order_16 : decode cX9_order 16 = .ok (.iload_n 2, 1) := by decide +kernel
theorem dX9_order_17 : decode cX9_order 17 = .ok (.imul, 1) := by decide +kernel
theorem dX9_order_18 : decode cX9_order 18 = .ok (.iload_n 3, 1) := by decide +kernel
theorem dX9_order_19 : decode cX9_order 19 = .ok (.iload_n 1, 1) := by decide +kernel
theorem dX9_order_20 : decode cX9_order 20 = .ok (.if_icmp .ge 21, 3) := by decide +kernel
theorem dX9_order_23 : decode cX9_order 23 = .ok (.iload_n 0, 1) := by decide +kernel
theorem dX9_order_24 : decode cX9_order 24 = .ok (.iload_n 1, 1) := by decide +kernel
theorem dX9_order_25 : decode cX9_order 25 = .ok (.iconst 1, 1) := by decide +kernel
theorem dX9_order_26 : decode cX9_order 26 = .ok (.isub, 1) := by decide +kernel
theorem dX9_order_27 : decode cX9_order 27 = .ok (.iload_n 3, 1) := by decide +kernel
theorem dX9_order_28 : decode cX9_order 28 = .ok (.isub, 1) := by decide +kernel
theorem dX9_order_29 : decode cX9_order 29 = .ok (.invokestatic 117, 3) := by decide +kernel
theorem dX9_order_32 : decode cX9_order 32 = .ok (.idiv, 1) := by decide +kernel
theorem dX9_order_33 : decode cX9_order 33 = .ok (.bipush 10, 2) := by decide +kernel
theorem dX9_order_35 : decode cX9_order 35 = .ok (.irem, 1) := by decide +kernel
theorem dX9_order_36 : decode cX9_order 36 = .ok (.iconst 1, 1) := by decide +kernel
theorem dX9_order_37 : decode cX9_order 37 = .ok (.iadd, 1) := by decide +kernel
theorem dX9_order_38 : decode cX9_order 38 = .ok (.goto 4, 3) := by decide +kernel
theorem dX9_order_41 : decode cX9_order 41 = .ok (.iconst 0, 1) := by decide +kernel
theorem dX9_order_42 : decode cX9_order 42 = .ok (.iadd, 1) := by decide +kernel
theorem dX9_order_43 : decode cX9_order 43 = .ok (.istore_n 2, 1) := by decide +kernel
theorem dX9_order_44 : decode cX9_order 44 = .ok (.iinc 3 1, 3) := by decide +kernel
theorem dX9_order_47 : decode cX9_order 47 = .ok (.goto (-38), 3) := by decide +kernel
theorem dX9_order_50 : decode cX9_order 50 = .ok (.iload_n 2, 1) := by decide +kernel
theorem dX9_order_51 : decode cX9_order 51 = .ok (.ireturn, 1) := by decide +kernel
theorem dX9_find_0 : decode cX9_find 0 = .ok (.bipush 32, 2) := by decide +kernel
theorem dX9_find_2 : decode cX9_find 2 = .ok (.iload_n 1, 1) := by decide +kernel
theorem dX9_find_3 : decode cX9_find 3 = .ok (.imul, 1) := by decide +kernel
theorem dX9_find_4 : decode cX9_find 4 = .ok (.istore 4, 2) := by decide +kernel
theorem dX9_find_6 : decode cX9_find 6 = .ok (.iload 4, 2) := by decide +kernel
theorem dX9_find_8 : decode cX9_find 8 = .ok (.bipush 32, 2) := by decide +kernel
theorem dX9_find_10 : decode cX9_find 10 = .ok (.iload_n 1, 1) := by decide +kernel
theorem dX9_find_11 : decode cX9_find 11 = .ok (.imul, 1) := by decide +kernel
theorem dX9_find_12 : decode cX9_find 12 = .ok (.aload_n 0, 1) := by decide +kernel
theorem dX9_find_13 : decode cX9_find 13 = .ok (.getfield 42, 3) := by decide +kernel
theorem dX9_find_16 : decode cX9_find 16 = .ok (.iload_n 1, 1) := by decide +kernel
theorem dX9_find_17 : decode cX9_find 17 = .ok (.iaload, 1) := by decide +kernel
theorem dX9_find_18 : decode cX9_find 18 = .ok (.iadd, 1) := by decide +kernel
theorem dX9_find_19 : decode cX9_find 19 = .ok (.if_icmp .ge 34, 3) := by decide +kernel
theorem dX9_find_22 : decode cX9_find 22 = .ok (.aload_n 0, 1) := by decide +kernel
theorem dX9_find_23 : decode cX9_find 23 = .ok (.getfield 45, 3) := by decide +kernel
theorem dX9_find_26 : decode cX9_find 26 = .ok (.iload 4, 2) := by decide +kernel
theorem dX9_find_28 : decode cX9_find 28 = .ok (.iaload, 1) := by decide +kernel
theorem dX9_find_29 : decode cX9_find 29 = .ok (.iload_n 2, 1) := by decide +kernel
theorem dX9_find_30 : decode cX9_find 30 = .ok (.if_icmp .ne 17, 3) := by decide +kernel
theorem dX9_find_33 : decode cX9_find 33 = .ok (.aload_n 0, 1) := by decide +kernel
theorem dX9_find_34 : decode cX9_find 34 = .ok (.getfield 48, 3) := by decide +kernel
theorem dX9_find_37 : decode cX9_find 37 = .ok (.iload 4, 2) := by decide +kernel
theorem dX9_find_39 : decode cX9_find 39 = .ok (.iaload, 1) := by decide +kernel
theorem dX9_find_40 : decode cX9_find 40 = .ok (.iload_n 3, 1) := by decide +kernel
theorem dX9_find_41 : decode cX9_find 41 = .ok (.if_icmp .ne 6, 3) := by decide +kernel
theorem dX9_find_44 : decode cX9_find 44 = .ok (.iload 4, 2) := by decide +kernel
theorem dX9_find_46 : decode cX9_find 46 = .ok (.ireturn, 1) := by decide +kernel
theorem dX9_find_47 : decode cX9_find 47 = .ok (.iinc 4 1, 3) := by decide +kernel
theorem dX9_find_50 : decode cX9_find 50 = .ok (.goto (-44), 3) := by decide +kernel
theorem dX9_find_53 : decode cX9_find 53 = .ok (.iconst (-1), 1) := by decide +kernel
theorem dX9_find_54 : decode cX9_find 54 = .ok (.ireturn, 1) := by decide +kernel
set_option maxRecDepth 20000 in
theorem ggX9_isThere_X9_base : GoodIn wsX9_isThere wsX9_base := goodIn_r _ [6] (by decide +kernel) (by decide +kernel)
set_option maxRecDepth 20000 in
theorem gX9_isThere_X9_base : GoodIn wsX9_isThere (va_wsS RX9 128 yX9_base wsX9_base) := goodIn_app (goodIn_of _ (by decide +kernel)) ggX9_isThere_X9_base
set_option maxRecDepth 20000 in
theorem ggX9_isThere_X9_isUnder : GoodIn wsX9_isThere wsX9_isUnder := goodIn_r _ [9, 10, 11, 5, 12, 13, 14, 15, 16, 17, 18] (by decide +kernel) (by decide +kernel)
set_option maxRecDepth 20000 in
theorem gX9_isThere_X9_isUnder : GoodIn wsX9_isThere (va_wsS RX9 124 yX9_isUnder wsX9_isUnder) := goodIn_app (goodIn_of _ (by decide +kernel)) ggX9_isThere_X9_isUnder
theorem dX9_isThere_0 : decode cX9_isThere 0 = .ok (.iconst 0, 1) := by decide +kernel
theorem dX9_isThere_1 : decode cX9_isThere 1 = .ok (.istore_n 3, 1) := by decide +kernel
theorem dX9_isThere_2 : decode cX9_isThere 2 = .ok (.bipush 32, 2) := by decide +kernel
theorem dX9_isThere_4 : decode cX9_isThere 4 = .ok (.iload_n 1, 1) := by decide +kernel
theorem dX9_isThere_5 : decode cX9_isThere 5 = .ok (.imul, 1) := by decide +kernel
theorem dX9_isThere_6 : decode cX9_isThere 6 = .ok (.istore 4, 2) := by decide +kernel
theorem dX9_isThere_8 : decode cX9_isThere 8 = .ok (.iload 4, 2) := by decide +kernel
theorem dX9_isThere_10 : decode cX9_isThere 10 = .ok (.bipush 32, 2) := by decide +kernel
theorem dX9_isThere_12 : decode cX9_isThere 12 = .ok (.iload_n 1, 1) := by decide +kernel
theorem dX9_isThere_13 : decode cX9_isThere 13 = .ok (.imul, 1) := by decide +kernel
theorem dX9_isThere_14 : decode cX9_isThere 14 = .ok (.aload_n 0, 1) := by decide +kernel
theorem dX9_isThere_15 : decode cX9_isThere 15 = .ok (.getfield 42, 3) := by decide +kernel
theorem dX9_isThere_18 : decode cX9_isThere 18 = .ok (.iload_n 1, 1) := by decide +kernel
theorem dX9_isThere_19 : decode cX9_isThere 19 = .ok (.iaload, 1) := by decide +kernel
theorem dX9_isThere_20 : decode cX9_isThere 20 = .ok (.iadd, 1) := by decide +kernel
theorem dX9_isThere_21 : decode cX9_isThere 21 = .ok (.if_icmp .ge 26, 3) := by decide +kernel
theorem dX9_isThere_24 : decode cX9_isThere 24 = .ok (.iload_n 3, 1) := by decide +kernel
theorem dX9_isThere_25 : decode cX9_isThere 25 = .ok (.aload_n 0, 1) := by decide +kernel
theorem dX9_isThere_26 : decode cX9_isThere 26 = .ok (.getfield 45, 3) := by decide +kernel
theorem dX9_isThere_29 : decode cX9_isThere 29 = .ok (.iload 4, 2) := by decide +kernel
theorem dX9_isThere_31 : decode cX9_isThere 31 = .ok (.iaload, 1) := by decide +kernel
theorem dX9_isThere_32 : decode cX9_isThere 32 = .ok (.invokestatic 128, 3) := by decide +kernel
theorem dX9_isThere_35 : decode cX9_isThere 35 = .ok (.iload_n 2, 1) := by decide +kernel
theorem dX9_isThere_36 : decode cX9_isThere 36 = .ok (.invokestatic 124, 3) := by decide +kernel
theorem dX9_isThere_39 : decode cX9_isThere 39 = .ok (.ior, 1) := by decide +kernel
theorem dX9_isThere_40 : decode cX9_isThere 40 = .ok (.istore_n 3, 1) := by decide +kernel
theorem dX9_isThere_41 : decode cX9_isThere 41 = .ok (.iinc 4 1, 3) := by decide +kernel
theorem dX9_isThere_44 : decode cX9_isThere 44 = .ok (.goto (-36), 3) := by decide +kernel
theorem dX9_isThere_47 : decode cX9_isThere 47 = .ok (.iload_n 3, 1) := by decide +kernel
theorem dX9_isThere_48 : decode cX9_isThere 48 = .ok (.ireturn, 1) := by decide +kernel
theorem dX9_isStarThere_0 : decode cX9_isStarThere 0 = .ok (.iconst 0, 1) := by decide +kernel
theorem dX9_isStarThere_1 : decode cX9_isStarThere 1 = .ok (.istore_n 3, 1) := by decide +kernel
theorem dX9_isStarThere_2 : decode cX9_isStarThere 2 = .ok (.bipush 32, 2) := by decide +kernel
theorem dX9_isStarThere_4 : decode cX9_isStarThere 4 = .ok (.iload_n 1, 1) := by decide +kernel
theorem dX9_isStarThere_5 : decode cX9_isStarThere 5 = .ok (.imul, 1) := by decide +kernel
theorem dX9_isStarThere_6 : decode cX9_isStarThere 6 = .ok (.istore 4, 2) := by decide +kernel
theorem dX9_isStarThere_8 : decode cX9_isStarThere 8 = .ok (.iload 4, 2) := by decide +kernel
theorem dX9_isStarThere_10 : decode cX9_isStarThere 10 = .ok (.bipush 32, 2) := by decide +kernel
theorem dX9_isStarThere_12 : decode cX9_isStarThere 12 = .ok (.iload_n 1, 1) := by decide +kernel
theorem dX9_isStarThere_13 : decode cX9_isStarThere 13 = .ok (.imul, 1) := by decide +kernel
theorem dX9_isStarThere_14 : decode cX9_isStarThere 14 = .ok (.aload_n 0, 1) := by decide +kernel
theorem dX9_isStarThere_15 : decode cX9_isStarThere 15 = .ok (.getfield 42, 3) := by decide +kernel
theorem dX9_isStarThere_18 : decode cX9_isStarThere 18 = .ok (.iload_n 1, 1) := by decide +kernel
theorem dX9_isStarThere_19 : decode cX9_isStarThere 19 = .ok (.iaload, 1) := by decide +kernel
theorem dX9_isStarThere_20 : decode cX9_isStarThere 20 = .ok (.iadd, 1) := by decide +kernel
theorem dX9_isStarThere_21 : decode cX9_isStarThere 21 = .ok (.if_icmp .ge 35, 3) := by decide +kernel
theorem dX9_isStarThere_24 : decode cX9_isStarThere 24 = .ok (.iload_n 3, 1) := by decide +kernel
theorem dX9_isStarThere_25 : decode cX9_isStarThere 25 = .ok (.iload_n 2, 1) := by decide +kernel
theorem dX9_isStarThere_26 : decode cX9_isStarThere 26 = .ok (.ifCond .le 21, 3) := by decide +kernel
theorem dX9_isStarThere_29 : decode cX9_isStarThere 29 = .ok (.aload_n 0, 1) := by decide +kernel
theorem dX9_isStarThere_30 : decode cX9_isStarThere 30 = .ok (.getfield 45, 3) := by decide +kernel
theorem dX9_isStarThere_33 : decode cX9_isStarThere 33 = .ok (.iload 4, 2) := by decide +kernel
theorem dX9_isStarThere_35 : decode cX9_isStarThere 35 = .ok (.iaload, 1) := by decide +kernel
theorem dX9_isStarThere_36 : decode cX9_isStarThere 36 = .ok (.bipush 10, 2) := by decide +kernel
theorem dX9_isStarThere_38 : decode cX9_isStarThere 38 = .ok (.iload_n 2, 1) := by decide +kernel
theorem dX9_isStarThere_39 : decode cX9_isStarThere 39 = .ok (.imul, 1) := by decide +kernel
theorem dX9_isStarThere_40 : decode cX9_isStarThere 40 = .ok (.if_icmp .ne 7, 3) := by decide +kernel
theorem dX9_isStarThere_43 : decode cX9_isStarThere 43 = .ok (.iconst 1, 1) := by decide +kernel
theorem dX9_isStarThere_44 : decode cX9_isStarThere 44 = .ok (.goto 4, 3) := by decide +kernel
theorem dX9_isStarThere_47 : decode cX9_isStarThere 47 = .ok (.iconst 0, 1) := by decide +kernel
theorem dX9_isStarThere_48 : decode cX9_isStarThere 48 = .ok (.ior, 1) := by decide +kernel
theorem dX9_isStarThere_49 : decode cX9_isStarThere 49 = .ok (.istore_n 3, 1) := by decide +kernel
theorem dX9_isStarThere_50 : decode cX9_isStarThere 50 = .ok (.iinc 4 1, 3) := by decide +kernel
theorem dX9_isStarThere_53 : decode cX9_isStarThere 53 = .ok (.goto (-45), 3) := by decide +kernel
theorem dX9_isStarThere_56 : decode cX9_isStarThere 56 = .ok (.iload_n 3, 1) := by decide +kernel
theorem dX9_isStarThere_57 : decode cX9_isStarThere 57 = .ok (.ireturn, 1) := by decide +kernel
set_option maxRecDepth 20000 in
theorem ggX9_isOwn_X9_base : GoodIn wsX9_isOwn wsX9_base := goodIn_r _ [7] (by decide +kernel) (by decide +kernel)
set_option maxRecDepth 20000 in
theorem gX9_isOwn_X9_base : GoodIn wsX9_isOwn (va_wsS RX9 128 yX9_base wsX9_base) := goodIn_app (goodIn_of _ (by decide +kernel)) ggX9_isOwn_X9_base
set_option maxRecDepth 20000 in
theorem ggX9_isOwn_X9_isUnder : GoodIn wsX9_isOwn wsX9_isUnder := goodIn_r _ [10, 11, 12, 6, 13, 14, 15, 16, 17, 18, 19] (by decide +kernel) (by decide +kernel)
set_option maxRecDepth 20000 in
theorem gX9_isOwn_X9_isUnder : GoodIn wsX9_isOwn (va_wsS RX9 124 yX9_isUnder wsX9_isUnder) := goodIn_app (goodIn_of _ (by decide +kernel)) ggX9_isOwn_X9_isUnder
theorem dX9_isOwn_0 : decode cX9_isOwn 0 = .ok (.iconst 1, 1) := by decide +kernel
theorem dX9_isOwn_1 : decode cX9_isOwn 1 = .ok (.istore_n 3, 1) := by decide +kernel
theorem dX9_isOwn_2 : decode cX9_isOwn 2 = .ok (.bipush 32, 2) := by decide +kernel
theorem dX9_isOwn_4 : decode cX9_isOwn 4 = .ok (.iload_n 1, 1) := by decide +kernel
theorem dX9_isOwn_5 : decode cX9_isOwn 5 = .ok (.imul, 1) := by decide +kernel
theorem dX9_isOwn_6 : decode cX9_isOwn 6 = .ok (.istore 4, 2) := by decide +kernel
theorem dX9_isOwn_8 : decode cX9_isOwn 8 = .ok (.iload 4, 2) := by decide +kernel
theorem dX9_isOwn_10 : decode cX9_isOwn 10 = .ok (.bipush 32, 2) := by decide +kernel
theorem dX9_isOwn_12 : decode cX9_isOwn 12 = .ok (.iload_n 1, 1) := by decide +kernel
theorem dX9_isOwn_13 : decode cX9_isOwn 13 = .ok (.imul, 1) := by decide +kernel
theorem dX9_isOwn_14 : decode cX9_isOwn 14 = .ok (.aload_n 0, 1) := by decide +kernel
theorem dX9_isOwn_15 : decode cX9_isOwn 15 = .ok (.getfield 42, 3) := by decide +kernel
theorem dX9_isOwn_18 : decode cX9_isOwn 18 = .ok (.iload_n 1, 1) := by decide +kernel
theorem dX9_isOwn_19 : decode cX9_isOwn 19 = .ok (.iaload, 1) := by decide +kernel
theorem dX9_isOwn_20 : decode cX9_isOwn 20 = .ok (.iadd, 1) := by decide +kernel
theorem dX9_isOwn_21 : decode cX9_isOwn 21 = .ok (.if_icmp .ge 56, 3) := by decide +kernel
theorem dX9_isOwn_24 : decode cX9_isOwn 24 = .ok (.iload_n 3, 1) := by decide +kernel
theorem dX9_isOwn_25 : decode cX9_isOwn 25 = .ok (.aload_n 0, 1) := by decide +kernel
theorem dX9_isOwn_26 : decode cX9_isOwn 26 = .ok (.getfield 48, 3) := by decide +kernel
theorem dX9_isOwn_29 : decode cX9_isOwn 29 = .ok (.iload 4, 2) := by decide +kernel
theorem dX9_isOwn_31 : decode cX9_isOwn 31 = .ok (.iaload, 1) := by decide +kernel
theorem dX9_isOwn_32 : decode cX9_isOwn 32 = .ok (.iconst 3, 1) := by decide +kernel
theorem dX9_isOwn_33 : decode cX9_isOwn 33 = .ok (.if_icmp .ne 31, 3) := by decide +kernel
theorem dX9_isOwn_36 : decode cX9_isOwn 36 = .ok (.iload_n 2, 1) := by decide +kernel
theorem dX9_isOwn_37 : decode cX9_isOwn 37 = .ok (.invokestatic 128, 3) := by decide +kernel
theorem dX9_isOwn_40 : decode cX9_isOwn 40 = .ok (.aload_n 0, 1) := by decide +kernel
theorem dX9_isOwn_41 : decode cX9_isOwn 41 = .ok (.getfield 45, 3) := by decide +kernel
theorem dX9_isOwn_44 : decode cX9_isOwn 44 = .ok (.iload 4, 2) := by decide +kernel
theorem dX9_isOwn_46 : decode cX9_isOwn 46 = .ok (.iaload, 1) := by decide +kernel
theorem dX9_isOwn_47 : decode cX9_isOwn 47 = .ok (.invokestatic 124, 3) := by decide +kernel
theorem dX9_isOwn_50 : decode cX9_isOwn 50 = .ok (.ifCond .eq 14, 3) := by decide +kernel
theorem dX9_isOwn_53 : decode cX9_isOwn 53 = .ok (.iload_n 2, 1) := by decide +kernel
theorem dX9_isOwn_54 : decode cX9_isOwn 54 = .ok (.aload_n 0, 1) := by decide +kernel
theorem dX9_isOwn_55 : decode cX9_isOwn 55 = .ok (.getfield 45, 3) := by decide +kernel
theorem dX9_isOwn_58 : decode cX9_isOwn 58 = .ok (.iload 4, 2) := by decide +kernel
theorem dX9_isOwn_60 : decode cX9_isOwn 60 = .ok (.iaload, 1) := by decide +kernel
theorem dX9_isOwn_61 : decode cX9_isOwn 61 = .ok (.if_icmp .ne 7, 3) := by decide +kernel
theorem dX9_isOwn_64 : decode cX9_isOwn 64 = .ok (.iconst 1, 1) := by decide +kernel
theorem dX9_isOwn_65 : decode cX9_isOwn 65 = .ok (.goto 4, 3) := by decide +kernel
theorem dX9_isOwn_68 : decode cX9_isOwn 68 = .ok (.iconst 0, 1) := by decide +kernel
theorem dX9_isOwn_69 : decode cX9_isOwn 69 = .ok (.iand, 1) := by decide +kernel
theorem dX9_isOwn_70 : decode cX9_isOwn 70 = .ok (.istore_n 3, 1) := by decide +kernel
theorem dX9_isOwn_71 : decode cX9_isOwn 71 = .ok (.iinc 4 1, 3) := by decide +kernel
theorem dX9_isOwn_74 : decode cX9_isOwn 74 = .ok (.goto (-66), 3) := by decide +kernel
theorem dX9_isOwn_77 : decode cX9_isOwn 77 = .ok (.iload_n 3, 1) := by decide +kernel
theorem dX9_isOwn_78 : decode cX9_isOwn 78 = .ok (.ireturn, 1) := by decide +kernel
set_option maxRecDepth 20000 in
theorem ggX9_copies_X9_lays : GoodIn wsX9_copies wsX9_lays := goodIn_r _ [10, 2, 3, 4, 5, 11, 12, 13, 14, 15, 16, 17, 18, 19, 20, 21, 22, 23, 24, 25, 26, 27, 28, 29, 30, 31, 32, 33, 34, 35, 36, 37, 38, 39, 40, 41, 42, 43, 44, 45, 46, 47] (by decide +kernel) (by decide +kernel)
set_option maxRecDepth 20000 in
theorem gX9_copies_X9_lays : GoodIn wsX9_copies (wsV RX9 131 RX9 yX9_lays wsX9_lays) := goodIn_app (goodIn_of _ (by decide +kernel)) ggX9_copies_X9_lays
theorem dX9_copies_0 : decode cX9_copies 0 = .ok (.aload_n 0, 1) := by decide +kernel
theorem dX9_copies_1 : decode cX9_copies 1 = .ok (.getfield 42, 3) := by decide +kernel
theorem dX9_copies_4 : decode cX9_copies 4 = .ok (.iload_n 2, 1) := by decide +kernel
theorem dX9_copies_5 : decode cX9_copies 5 = .ok (.aload_n 0, 1) := by decide +kernel
theorem dX9_copies_6 : decode cX9_copies 6 = .ok (.getfield 42, 3) := by decide +kernel
theorem dX9_copies_9 : decode cX9_copies 9 = .ok (.iload_n 1, 1) := by decide +kernel
theorem dX9_copies_10 : decode cX9_copies 10 = .ok (.iaload, 1) := by decide +kernel
theorem dX9_copies_11 : decode cX9_copies 11 = .ok (.iastore, 1) := by decide +kernel
theorem dX9_copies_12 : decode cX9_copies 12 = .ok (.iconst 0, 1) := by decide +kernel
theorem dX9_copies_13 : decode cX9_copies 13 = .ok (.istore_n 3, 1) := by decide +kernel
theorem dX9_copies_14 : decode cX9_copies 14 = .ok (.iload_n 3, 1) := by decide +kernel
theorem dX9_copies_15 : decode cX9_copies 15 = .ok (.aload_n 0, 1) := by decide +kernel
theorem dX9_copies_16 : decode cX9_copies 16 = .ok (.getfield 42, 3) := by decide +kernel
theorem dX9_copies_19 : decode cX9_copies 19 = .ok (.iload_n 1, 1) := by decide +kernel
theorem dX9_copies_20 : decode cX9_copies 20 = .ok (.iaload, 1) := by decide +kernel
theorem dX9_copies_21 : decode cX9_copies 21 = .ok (.if_icmp .ge 59, 3) := by decide +kernel
theorem dX9_copies_24 : decode cX9_copies 24 = .ok (.aload_n 0, 1) := by decide +kernel
theorem dX9_copies_25 : decode cX9_copies 25 = .ok (.iload_n 2, 1) := by decide +kernel
theorem dX9_copies_26 : decode cX9_copies 26 = .ok (.iload_n 3, 1) := by decide +kernel
theorem dX9_copies_27 : decode cX9_copies 27 = .ok (.aload_n 0, 1) := by decide +kernel
theorem dX9_copies_28 : decode cX9_copies 28 = .ok (.getfield 45, 3) := by decide +kernel
theorem dX9_copies_31 : decode cX9_copies 31 = .ok (.bipush 32, 2) := by decide +kernel
theorem dX9_copies_33 : decode cX9_copies 33 = .ok (.iload_n 1, 1) := by decide +kernel
theorem dX9_copies_34 : decode cX9_copies 34 = .ok (.imul, 1) := by decide +kernel
theorem dX9_copies_35 : decode cX9_copies 35 = .ok (.iload_n 3, 1) := by decide +kernel
theorem dX9_copies_36 : decode cX9_copies 36 = .ok (.iadd, 1) := by decide +kernel
theorem dX9_copies_37 : decode cX9_copies 37 = .ok (.iaload, 1) := by decide +kernel
theorem dX9_copies_38 : decode cX9_copies 38 = .ok (.aload_n 0, 1) := by decide +kernel
theorem dX9_copies_39 : decode cX9_copies 39 = .ok (.getfield 48, 3) := by decide +kernel
theorem dX9_copies_42 : decode cX9_copies 42 = .ok (.bipush 32, 2) := by decide +kernel
theorem dX9_copies_44 : decode cX9_copies 44 = .ok (.iload_n 1, 1) := by decide +kernel
theorem dX9_copies_45 : decode cX9_copies 45 = .ok (.imul, 1) := by decide +kernel
theorem dX9_copies_46 : decode cX9_copies 46 = .ok (.iload_n 3, 1) := by decide +kernel
theorem dX9_copies_47 : decode cX9_copies 47 = .ok (.iadd, 1) := by decide +kernel
theorem dX9_copies_48 : decode cX9_copies 48 = .ok (.iaload, 1) := by decide +kernel
theorem dX9_copies_49 : decode cX9_copies 49 = .ok (.aload_n 0, 1) := by decide +kernel
theorem dX9_copies_50 : decode cX9_copies 50 = .ok (.getfield 51, 3) := by decide +kernel
theorem dX9_copies_53 : decode cX9_copies 53 = .ok (.bipush 32, 2) := by decide +kernel
theorem dX9_copies_55 : decode cX9_copies 55 = .ok (.iload_n 1, 1) := by decide +kernel
theorem dX9_copies_56 : decode cX9_copies 56 = .ok (.imul, 1) := by decide +kernel
theorem dX9_copies_57 : decode cX9_copies 57 = .ok (.iload_n 3, 1) := by decide +kernel
theorem dX9_copies_58 : decode cX9_copies 58 = .ok (.iadd, 1) := by decide +kernel
theorem dX9_copies_59 : decode cX9_copies 59 = .ok (.iaload, 1) := by decide +kernel
theorem dX9_copies_60 : decode cX9_copies 60 = .ok (.aload_n 0, 1) := by decide +kernel
theorem dX9_copies_61 : decode cX9_copies 61 = .ok (.getfield 54, 3) := by decide +kernel
theorem dX9_copies_64 : decode cX9_copies 64 = .ok (.bipush 32, 2) := by decide +kernel
theorem dX9_copies_66 : decode cX9_copies 66 = .ok (.iload_n 1, 1) := by decide +kernel
theorem dX9_copies_67 : decode cX9_copies 67 = .ok (.imul, 1) := by decide +kernel
theorem dX9_copies_68 : decode cX9_copies 68 = .ok (.iload_n 3, 1) := by decide +kernel
theorem dX9_copies_69 : decode cX9_copies 69 = .ok (.iadd, 1) := by decide +kernel
theorem dX9_copies_70 : decode cX9_copies 70 = .ok (.iaload, 1) := by decide +kernel
theorem dX9_copies_71 : decode cX9_copies 71 = .ok (.invokevirtual 131, 3) := by decide +kernel
theorem dX9_copies_74 : decode cX9_copies 74 = .ok (.iinc 3 1, 3) := by decide +kernel
theorem dX9_copies_77 : decode cX9_copies 77 = .ok (.goto (-63), 3) := by decide +kernel
theorem dX9_copies_80 : decode cX9_copies 80 = .ok (.return_, 1) := by decide +kernel
theorem dX9_lays_0 : decode cX9_lays 0 = .ok (.aload_n 0, 1) := by decide +kernel
theorem dX9_lays_1 : decode cX9_lays 1 = .ok (.getfield 45, 3) := by decide +kernel
theorem dX9_lays_4 : decode cX9_lays 4 = .ok (.bipush 32, 2) := by decide +kernel
theorem dX9_lays_6 : decode cX9_lays 6 = .ok (.iload_n 1, 1) := by decide +kernel
theorem dX9_lays_7 : decode cX9_lays 7 = .ok (.imul, 1) := by decide +kernel
theorem dX9_lays_8 : decode cX9_lays 8 = .ok (.iload_n 2, 1) := by decide +kernel
theorem dX9_lays_9 : decode cX9_lays 9 = .ok (.iadd, 1) := by decide +kernel
theorem dX9_lays_10 : decode cX9_lays 10 = .ok (.iload_n 3, 1) := by decide +kernel
theorem dX9_lays_11 : decode cX9_lays 11 = .ok (.iastore, 1) := by decide +kernel
theorem dX9_lays_12 : decode cX9_lays 12 = .ok (.aload_n 0, 1) := by decide +kernel
theorem dX9_lays_13 : decode cX9_lays 13 = .ok (.getfield 48, 3) := by decide +kernel
theorem dX9_lays_16 : decode cX9_lays 16 = .ok (.bipush 32, 2) := by decide +kernel
theorem dX9_lays_18 : decode cX9_lays 18 = .ok (.iload_n 1, 1) := by decide +kernel
theorem dX9_lays_19 : decode cX9_lays 19 = .ok (.imul, 1) := by decide +kernel
theorem dX9_lays_20 : decode cX9_lays 20 = .ok (.iload_n 2, 1) := by decide +kernel
theorem dX9_lays_21 : decode cX9_lays 21 = .ok (.iadd, 1) := by decide +kernel
theorem dX9_lays_22 : decode cX9_lays 22 = .ok (.iload 4, 2) := by decide +kernel
theorem dX9_lays_24 : decode cX9_lays 24 = .ok (.iastore, 1) := by decide +kernel
theorem dX9_lays_25 : decode cX9_lays 25 = .ok (.aload_n 0, 1) := by decide +kernel
theorem dX9_lays_26 : decode cX9_lays 26 = .ok (.getfield 51, 3) := by decide +kernel
theorem dX9_lays_29 : decode cX9_lays 29 = .ok (.bipush 32, 2) := by decide +kernel
theorem dX9_lays_31 : decode cX9_lays 31 = .ok (.iload_n 1, 1) := by decide +kernel
theorem dX9_lays_32 : decode cX9_lays 32 = .ok (.imul, 1) := by decide +kernel
theorem dX9_lays_33 : decode cX9_lays 33 = .ok (.iload_n 2, 1) := by decide +kernel
theorem dX9_lays_34 : decode cX9_lays 34 = .ok (.iadd, 1) := by decide +kernel
theorem dX9_lays_35 : decode cX9_lays 35 = .ok (.iload 5, 2) := by decide +kernel
theorem dX9_lays_37 : decode cX9_lays 37 = .ok (.iastore, 1) := by decide +kernel
theorem dX9_lays_38 : decode cX9_lays 38 = .ok (.aload_n 0, 1) := by decide +kernel
theorem dX9_lays_39 : decode cX9_lays 39 = .ok (.getfield 54, 3) := by decide +kernel
theorem dX9_lays_42 : decode cX9_lays 42 = .ok (.bipush 32, 2) := by decide +kernel
theorem dX9_lays_44 : decode cX9_lays 44 = .ok (.iload_n 1, 1) := by decide +kernel
theorem dX9_lays_45 : decode cX9_lays 45 = .ok (.imul, 1) := by decide +kernel
theorem dX9_lays_46 : decode cX9_lays 46 = .ok (.iload_n 2, 1) := by decide +kernel
theorem dX9_lays_47 : decode cX9_lays 47 = .ok (.iadd, 1) := by decide +kernel
theorem dX9_lays_48 : decode cX9_lays 48 = .ok (.iload 6, 2) := by decide +kernel
theorem dX9_lays_50 : decode cX9_lays 50 = .ok (.iastore, 1) := by decide +kernel
theorem dX9_lays_51 : decode cX9_lays 51 = .ok (.return_, 1) := by decide +kernel
set_option maxRecDepth 20000 in
theorem ggX9_fitsAt_X9_base : GoodIn wsX9_fitsAt wsX9_base := goodIn_r _ [10] (by decide +kernel) (by decide +kernel)
set_option maxRecDepth 20000 in
theorem gX9_fitsAt_X9_base : GoodIn wsX9_fitsAt (va_wsS RX9 128 yX9_base wsX9_base) := goodIn_app (goodIn_of _ (by decide +kernel)) ggX9_fitsAt_X9_base
set_option maxRecDepth 20000 in
theorem ggX9_fitsAt_X9_isUnder : GoodIn wsX9_fitsAt wsX9_isUnder := goodIn_r _ [13, 14, 15, 9, 16, 17, 18, 19, 20, 21, 22] (by decide +kernel) (by decide +kernel)
set_option maxRecDepth 20000 in
theorem gX9_fitsAt_X9_isUnder : GoodIn wsX9_fitsAt (va_wsS RX9 124 yX9_isUnder wsX9_isUnder) := goodIn_app (goodIn_of _ (by decide +kernel)) ggX9_fitsAt_X9_isUnder
set_option maxRecDepth 20000 in
theorem ggX9_fitsAt_X9_find : GoodIn wsX9_fitsAt wsX9_find := goodIn_r _ [26, 3, 1, 4, 27, 28, 29, 30, 31, 32, 33, 34, 35, 36, 37, 38, 39, 40, 41, 42, 43, 44, 45, 46, 47, 48, 49, 50, 51, 52, 53, 54, 55, 56, 57, 58, 59, 60, 61, 62, 63] (by decide +kernel) (by decide +kernel)
set_option maxRecDepth 20000 in
theorem gX9_fitsAt_X9_find : GoodIn wsX9_fitsAt (wsV RX9 135 RX9 yX9_find wsX9_find) := goodIn_app (goodIn_of _ (by decide +kernel)) ggX9_fitsAt_X9_find
theorem dX9_fitsAt_0 : decode cX9_fitsAt 0 = .ok (.aload_n 0, 1) := by decide +kernel
theorem dX9_fitsAt_1 : decode cX9_fitsAt 1 = .ok (.getfield 45, 3) := by decide +kernel
theorem dX9_fitsAt_4 : decode cX9_fitsAt 4 = .ok (.iload_n 2, 1) := by decide +kernel
theorem dX9_fitsAt_5 : decode cX9_fitsAt 5 = .ok (.iaload, 1) := by decide +kernel
theorem dX9_fitsAt_6 : decode cX9_fitsAt 6 = .ok (.istore_n 3, 1) := by decide +kernel
theorem dX9_fitsAt_7 : decode cX9_fitsAt 7 = .ok (.iload_n 3, 1) := by decide +kernel
theorem dX9_fitsAt_8 : decode cX9_fitsAt 8 = .ok (.invokestatic 128, 3) := by decide +kernel
theorem dX9_fitsAt_11 : decode cX9_fitsAt 11 = .ok (.aload_n 0, 1) := by decide +kernel
theorem dX9_fitsAt_12 : decode cX9_fitsAt 12 = .ok (.getfield 13, 3) := by decide +kernel
theorem dX9_fitsAt_15 : decode cX9_fitsAt 15 = .ok (.iload_n 1, 1) := by decide +kernel
theorem dX9_fitsAt_16 : decode cX9_fitsAt 16 = .ok (.iaload, 1) := by decide +kernel
theorem dX9_fitsAt_17 : decode cX9_fitsAt 17 = .ok (.invokestatic 124, 3) := by decide +kernel
theorem dX9_fitsAt_20 : decode cX9_fitsAt 20 = .ok (.istore 4, 2) := by decide +kernel
theorem dX9_fitsAt_22 : decode cX9_fitsAt 22 = .ok (.sipush 384, 3) := by decide +kernel
theorem dX9_fitsAt_25 : decode cX9_fitsAt 25 = .ok (.istore 5, 2) := by decide +kernel
theorem dX9_fitsAt_27 : decode cX9_fitsAt 27 = .ok (.iload 5, 2) := by decide +kernel
theorem dX9_fitsAt_29 : decode cX9_fitsAt 29 = .ok (.sipush 384, 3) := by decide +kernel
theorem dX9_fitsAt_32 : decode cX9_fitsAt 32 = .ok (.aload_n 0, 1) := by decide +kernel
theorem dX9_fitsAt_33 : decode cX9_fitsAt 33 = .ok (.getfield 42, 3) := by decide +kernel
theorem dX9_fitsAt_36 : decode cX9_fitsAt 36 = .ok (.bipush 12, 2) := by decide +kernel
theorem dX9_fitsAt_38 : decode cX9_fitsAt 38 = .ok (.iaload, 1) := by decide +kernel
theorem dX9_fitsAt_39 : decode cX9_fitsAt 39 = .ok (.iadd, 1) := by decide +kernel
theorem dX9_fitsAt_40 : decode cX9_fitsAt 40 = .ok (.if_icmp .ge 106, 3) := by decide +kernel
theorem dX9_fitsAt_43 : decode cX9_fitsAt 43 = .ok (.iload 5, 2) := by decide +kernel
theorem dX9_fitsAt_45 : decode cX9_fitsAt 45 = .ok (.iload_n 2, 1) := by decide +kernel
theorem dX9_fitsAt_46 : decode cX9_fitsAt 46 = .ok (.if_icmp .eq 18, 3) := by decide +kernel
theorem dX9_fitsAt_49 : decode cX9_fitsAt 49 = .ok (.aload_n 0, 1) := by decide +kernel
theorem dX9_fitsAt_50 : decode cX9_fitsAt 50 = .ok (.getfield 45, 3) := by decide +kernel
theorem dX9_fitsAt_53 : decode cX9_fitsAt 53 = .ok (.iload 5, 2) := by decide +kernel
theorem dX9_fitsAt_55 : decode cX9_fitsAt 55 = .ok (.iaload, 1) := by decide +kernel
theorem dX9_fitsAt_56 : decode cX9_fitsAt 56 = .ok (.iload_n 3, 1) := by decide +kernel
theorem dX9_fitsAt_57 : decode cX9_fitsAt 57 = .ok (.if_icmp .ne 7, 3) := by decide +kernel
theorem dX9_fitsAt_60 : decode cX9_fitsAt 60 = .ok (.iconst 1, 1) := by decide +kernel
theorem dX9_fitsAt_61 : decode cX9_fitsAt 61 = .ok (.goto 4, 3) := by decide +kernel
theorem dX9_fitsAt_64 : decode cX9_fitsAt 64 = .ok (.iconst 0, 1) := by decide +kernel
theorem dX9_fitsAt_65 : decode cX9_fitsAt 65 = .ok (.istore 6, 2) := by decide +kernel
theorem dX9_fitsAt_67 : decode cX9_fitsAt 67 = .ok (.iload 4, 2) := by decide +kernel
theorem dX9_fitsAt_69 : decode cX9_fitsAt 69 = .ok (.aload_n 0, 1) := by decide +kernel
theorem dX9_fitsAt_70 : decode cX9_fitsAt 70 = .ok (.getfield 48, 3) := by decide +kernel
theorem dX9_fitsAt_73 : decode cX9_fitsAt 73 = .ok (.iload_n 2, 1) := by decide +kernel
theorem dX9_fitsAt_74 : decode cX9_fitsAt 74 = .ok (.iaload, 1) := by decide +kernel
theorem dX9_fitsAt_75 : decode cX9_fitsAt 75 = .ok (.iconst 1, 1) := by decide +kernel
theorem dX9_fitsAt_76 : decode cX9_fitsAt 76 = .ok (.if_icmp .ne 8, 3) := by decide +kernel
theorem dX9_fitsAt_79 : decode cX9_fitsAt 79 = .ok (.iload 6, 2) := by decide +kernel
theorem dX9_fitsAt_81 : decode cX9_fitsAt 81 = .ok (.ifCond .ne 7, 3) := by decide +kernel
theorem dX9_fitsAt_84 : decode cX9_fitsAt 84 = .ok (.iconst 1, 1) := by decide +kernel
theorem dX9_fitsAt_85 : decode cX9_fitsAt 85 = .ok (.goto 4, 3) := by decide +kernel
theorem dX9_fitsAt_88 : decode cX9_fitsAt 88 = .ok (.iconst 0, 1) := by decide +kernel
theorem dX9_fitsAt_89 : decode cX9_fitsAt 89 = .ok (.iand, 1) := by decide +kernel
theorem dX9_fitsAt_90 : decode cX9_fitsAt 90 = .ok (.istore 4, 2) := by decide +kernel
theorem dX9_fitsAt_92 : decode cX9_fitsAt 92 = .ok (.iload 4, 2) := by decide +kernel
theorem dX9_fitsAt_94 : decode cX9_fitsAt 94 = .ok (.aload_n 0, 1) := by decide +kernel
theorem dX9_fitsAt_95 : decode cX9_fitsAt 95 = .ok (.getfield 48, 3) := by decide +kernel
theorem dX9_fitsAt_98 : decode cX9_fitsAt 98 = .ok (.iload_n 2, 1) := by decide +kernel
theorem dX9_fitsAt_99 : decode cX9_fitsAt 99 = .ok (.iaload, 1) := by decide +kernel
theorem dX9_fitsAt_100 : decode cX9_fitsAt 100 = .ok (.iconst 2, 1) := by decide +kernel
theorem dX9_fitsAt_101 : decode cX9_fitsAt 101 = .ok (.if_icmp .ne 31, 3) := by decide +kernel
theorem dX9_fitsAt_104 : decode cX9_fitsAt 104 = .ok (.aload_n 0, 1) := by decide +kernel
theorem dX9_fitsAt_105 : decode cX9_fitsAt 105 = .ok (.getfield 45, 3) := by decide +kernel
theorem dX9_fitsAt_108 : decode cX9_fitsAt 108 = .ok (.iload 5, 2) := by decide +kernel
theorem dX9_fitsAt_110 : decode cX9_fitsAt 110 = .ok (.iaload, 1) := by decide +kernel
theorem dX9_fitsAt_111 : decode cX9_fitsAt 111 = .ok (.iload_n 3, 1) := by decide +kernel
theorem dX9_fitsAt_112 : decode cX9_fitsAt 112 = .ok (.if_icmp .eq 20, 3) := by decide +kernel
theorem dX9_fitsAt_115 : decode cX9_fitsAt 115 = .ok (.aload_n 0, 1) := by decide +kernel
theorem dX9_fitsAt_116 : decode cX9_fitsAt 116 = .ok (.getfield 45, 3) := by decide +kernel
theorem dX9_fitsAt_119 : decode cX9_fitsAt 119 = .ok (.iload 5, 2) := by decide +kernel
theorem dX9_fitsAt_121 : decode cX9_fitsAt 121 = .ok (.iaload, 1) := by decide +kernel
theorem dX9_fitsAt_122 : decode cX9_fitsAt 122 = .ok (.invokestatic 128, 3) := by decide +kernel
theorem dX9_fitsAt_125 : decode cX9_fitsAt 125 = .ok (.iload_n 3, 1) := by decide +kernel
theorem dX9_fitsAt_126 : decode cX9_fitsAt 126 = .ok (.invokestatic 124, 3) := by decide +kernel
theorem dX9_fitsAt_129 : decode cX9_fitsAt 129 = .ok (.ifCond .ne 7, 3) := by decide +kernel
theorem dX9_fitsAt_132 : decode cX9_fitsAt 132 = .ok (.iconst 1, 1) := by decide +kernel
theorem dX9_fitsAt_133 : decode cX9_fitsAt 133 = .ok (.goto 4, 3) := by decide +kernel
theorem dX9_fitsAt_136 : decode cX9_fitsAt 136 = .ok (.iconst 0, 1) := by decide +kernel
theorem dX9_fitsAt_137 : decode cX9_fitsAt 137 = .ok (.iand, 1) := by decide +kernel
theorem dX9_fitsAt_138 : decode cX9_fitsAt 138 = .ok (.istore 4, 2) := by decide +kernel
theorem dX9_fitsAt_140 : decode cX9_fitsAt 140 = .ok (.iinc 5 1, 3) := by decide +kernel
theorem dX9_fitsAt_143 : decode cX9_fitsAt 143 = .ok (.goto (-116), 3) := by decide +kernel
theorem dX9_fitsAt_146 : decode cX9_fitsAt 146 = .ok (.iload 4, 2) := by decide +kernel
theorem dX9_fitsAt_148 : decode cX9_fitsAt 148 = .ok (.aload_n 0, 1) := by decide +kernel
theorem dX9_fitsAt_149 : decode cX9_fitsAt 149 = .ok (.getfield 48, 3) := by decide +kernel
theorem dX9_fitsAt_152 : decode cX9_fitsAt 152 = .ok (.iload_n 2, 1) := by decide +kernel
theorem dX9_fitsAt_153 : decode cX9_fitsAt 153 = .ok (.iaload, 1) := by decide +kernel
theorem dX9_fitsAt_154 : decode cX9_fitsAt 154 = .ok (.iconst 2, 1) := by decide +kernel
theorem dX9_fitsAt_155 : decode cX9_fitsAt 155 = .ok (.if_icmp .eq 23, 3) := by decide +kernel
theorem dX9_fitsAt_158 : decode cX9_fitsAt 158 = .ok (.aload_n 0, 1) := by decide +kernel
theorem dX9_fitsAt_159 : decode cX9_fitsAt 159 = .ok (.getfield 48, 3) := by decide +kernel
theorem dX9_fitsAt_162 : decode cX9_fitsAt 162 = .ok (.iload_n 2, 1) := by decide +kernel
theorem dX9_fitsAt_163 : decode cX9_fitsAt 163 = .ok (.iaload, 1) := by decide +kernel
theorem dX9_fitsAt_164 : decode cX9_fitsAt 164 = .ok (.iconst 3, 1) := by decide +kernel
theorem dX9_fitsAt_165 : decode cX9_fitsAt 165 = .ok (.if_icmp .eq 13, 3) := by decide +kernel
theorem dX9_fitsAt_168 : decode cX9_fitsAt 168 = .ok (.aload_n 0, 1) := by decide +kernel
theorem dX9_fitsAt_169 : decode cX9_fitsAt 169 = .ok (.getfield 48, 3) := by decide +kernel
theorem dX9_fitsAt_172 : decode cX9_fitsAt 172 = .ok (.iload_n 2, 1) := by decide +kernel
theorem dX9_fitsAt_173 : decode cX9_fitsAt 173 = .ok (.iaload, 1) := by decide +kernel
theorem dX9_fitsAt_174 : decode cX9_fitsAt 174 = .ok (.iconst 4, 1) := by decide +kernel
theorem dX9_fitsAt_175 : decode cX9_fitsAt 175 = .ok (.if_icmp .ne 14, 3) := by decide +kernel
theorem dX9_fitsAt_178 : decode cX9_fitsAt 178 = .ok (.iload_n 3, 1) := by decide +kernel
theorem dX9_fitsAt_179 : decode cX9_fitsAt 179 = .ok (.ifCond .eq 10, 3) := by decide +kernel
theorem dX9_fitsAt_182 : decode cX9_fitsAt 182 = .ok (.iload_n 3, 1) := by decide +kernel
theorem dX9_fitsAt_183 : decode cX9_fitsAt 183 = .ok (.bipush 10, 2) := by decide +kernel
theorem dX9_fitsAt_185 : decode cX9_fitsAt 185 = .ok (.irem, 1) := by decide +kernel
theorem dX9_fitsAt_186 : decode cX9_fitsAt 186 = .ok (.ifCond .eq 7, 3) := by decide +kernel
theorem dX9_fitsAt_189 : decode cX9_fitsAt 189 = .ok (.iconst 1, 1) := by decide +kernel
theorem dX9_fitsAt_190 : decode cX9_fitsAt 190 = .ok (.goto 4, 3) := by decide +kernel
theorem dX9_fitsAt_193 : decode cX9_fitsAt 193 = .ok (.iconst 0, 1) := by decide +kernel
theorem dX9_fitsAt_194 : decode cX9_fitsAt 194 = .ok (.iand, 1) := by decide +kernel
theorem dX9_fitsAt_195 : decode cX9_fitsAt 195 = .ok (.istore 4, 2) := by decide +kernel
theorem dX9_fitsAt_197 : decode cX9_fitsAt 197 = .ok (.iload 4, 2) := by decide +kernel
theorem dX9_fitsAt_199 : decode cX9_fitsAt 199 = .ok (.aload_n 0, 1) := by decide +kernel
theorem dX9_fitsAt_200 : decode cX9_fitsAt 200 = .ok (.getfield 48, 3) := by decide +kernel
theorem dX9_fitsAt_203 : decode cX9_fitsAt 203 = .ok (.iload_n 2, 1) := by decide +kernel
theorem dX9_fitsAt_204 : decode cX9_fitsAt 204 = .ok (.iaload, 1) := by decide +kernel
theorem dX9_fitsAt_205 : decode cX9_fitsAt 205 = .ok (.iconst 3, 1) := by decide +kernel
theorem dX9_fitsAt_206 : decode cX9_fitsAt 206 = .ok (.if_icmp .ne 41, 3) := by decide +kernel
theorem dX9_fitsAt_209 : decode cX9_fitsAt 209 = .ok (.iload_n 3, 1) := by decide +kernel
theorem dX9_fitsAt_210 : decode cX9_fitsAt 210 = .ok (.aload_n 0, 1) := by decide +kernel
theorem dX9_fitsAt_211 : decode cX9_fitsAt 211 = .ok (.getfield 13, 3) := by decide +kernel
theorem dX9_fitsAt_214 : decode cX9_fitsAt 214 = .ok (.iload_n 1, 1) := by decide +kernel
theorem dX9_fitsAt_215 : decode cX9_fitsAt 215 = .ok (.iaload, 1) := by decide +kernel
theorem dX9_fitsAt_216 : decode cX9_fitsAt 216 = .ok (.if_icmp .eq 35, 3) := by decide +kernel
theorem dX9_fitsAt_219 : decode cX9_fitsAt 219 = .ok (.aload_n 0, 1) := by decide +kernel
theorem dX9_fitsAt_220 : decode cX9_fitsAt 220 = .ok (.getfield 51, 3) := by decide +kernel
theorem dX9_fitsAt_223 : decode cX9_fitsAt 223 = .ok (.iload_n 2, 1) := by decide +kernel
theorem dX9_fitsAt_224 : decode cX9_fitsAt 224 = .ok (.iaload, 1) := by decide +kernel
theorem dX9_fitsAt_225 : decode cX9_fitsAt 225 = .ok (.aload_n 0, 1) := by decide +kernel
theorem dX9_fitsAt_226 : decode cX9_fitsAt 226 = .ok (.getfield 7, 3) := by decide +kernel
theorem dX9_fitsAt_229 : decode cX9_fitsAt 229 = .ok (.if_icmp .ge 22, 3) := by decide +kernel
theorem dX9_fitsAt_232 : decode cX9_fitsAt 232 = .ok (.aload_n 0, 1) := by decide +kernel
theorem dX9_fitsAt_233 : decode cX9_fitsAt 233 = .ok (.getfield 13, 3) := by decide +kernel
theorem dX9_fitsAt_236 : decode cX9_fitsAt 236 = .ok (.aload_n 0, 1) := by decide +kernel
theorem dX9_fitsAt_237 : decode cX9_fitsAt 237 = .ok (.getfield 51, 3) := by decide +kernel
theorem dX9_fitsAt_240 : decode cX9_fitsAt 240 = .ok (.iload_n 2, 1) := by decide +kernel
theorem dX9_fitsAt_241 : decode cX9_fitsAt 241 = .ok (.iaload, 1) := by decide +kernel
theorem dX9_fitsAt_242 : decode cX9_fitsAt 242 = .ok (.iaload, 1) := by decide +kernel
theorem dX9_fitsAt_243 : decode cX9_fitsAt 243 = .ok (.iload_n 3, 1) := by decide +kernel
theorem dX9_fitsAt_244 : decode cX9_fitsAt 244 = .ok (.if_icmp .ne 7, 3) := by decide +kernel
theorem dX9_fitsAt_247 : decode cX9_fitsAt 247 = .ok (.iconst 1, 1) := by decide +kernel
theorem dX9_fitsAt_248 : decode cX9_fitsAt 248 = .ok (.goto 4, 3) := by decide +kernel
theorem dX9_fitsAt_251 : decode cX9_fitsAt 251 = .ok (.iconst 0, 1) := by decide +kernel
theorem dX9_fitsAt_252 : decode cX9_fitsAt 252 = .ok (.iand, 1) := by decide +kernel
theorem dX9_fitsAt_253 : decode cX9_fitsAt 253 = .ok (.istore 4, 2) := by decide +kernel
theorem dX9_fitsAt_255 : decode cX9_fitsAt 255 = .ok (.iload 4, 2) := by decide +kernel
theorem dX9_fitsAt_257 : decode cX9_fitsAt 257 = .ok (.ifCond .eq 29, 3) := by decide +kernel
theorem dX9_fitsAt_260 : decode cX9_fitsAt 260 = .ok (.aload_n 0, 1) := by decide +kernel
theorem dX9_fitsAt_261 : decode cX9_fitsAt 261 = .ok (.getfield 48, 3) := by decide +kernel
theorem dX9_fitsAt_264 : decode cX9_fitsAt 264 = .ok (.iload_n 2, 1) := by decide +kernel
theorem dX9_fitsAt_265 : decode cX9_fitsAt 265 = .ok (.iaload, 1) := by decide +kernel
theorem dX9_fitsAt_266 : decode cX9_fitsAt 266 = .ok (.iconst 4, 1) := by decide +kernel
theorem dX9_fitsAt_267 : decode cX9_fitsAt 267 = .ok (.if_icmp .ne 15, 3) := by decide +kernel
theorem dX9_fitsAt_270 : decode cX9_fitsAt 270 = .ok (.aload_n 0, 1) := by decide +kernel
theorem dX9_fitsAt_271 : decode cX9_fitsAt 271 = .ok (.bipush 12, 2) := by decide +kernel
theorem dX9_fitsAt_273 : decode cX9_fitsAt 273 = .ok (.iload_n 3, 1) := by decide +kernel
theorem dX9_fitsAt_274 : decode cX9_fitsAt 274 = .ok (.iconst 3, 1) := by decide +kernel
theorem dX9_fitsAt_275 : decode cX9_fitsAt 275 = .ok (.invokevirtual 135, 3) := by decide +kernel
theorem dX9_fitsAt_278 : decode cX9_fitsAt 278 = .ok (.iconst (-1), 1) := by decide +kernel
theorem dX9_fitsAt_279 : decode cX9_fitsAt 279 = .ok (.if_icmp .eq 7, 3) := by decide +kernel
theorem dX9_fitsAt_282 : decode cX9_fitsAt 282 = .ok (.iconst 1, 1) := by decide +kernel
theorem dX9_fitsAt_283 : decode cX9_fitsAt 283 = .ok (.goto 4, 3) := by decide +kernel
theorem dX9_fitsAt_286 : decode cX9_fitsAt 286 = .ok (.iconst 0, 1) := by decide +kernel
theorem dX9_fitsAt_287 : decode cX9_fitsAt 287 = .ok (.ireturn, 1) := by decide +kernel
set_option maxRecDepth 20000 in
theorem ggX9_fits_X9_fitsAt : GoodIn wsX9_fits wsX9_fitsAt := goodIn_r _ [6, 7, 8, 1, 9, 10, 11, 12, 13, 5, 14, 15, 16, 17, 18, 19, 20, 21, 22, 23, 24, 25, 26, 27, 28, 29, 30, 31, 32, 33, 34, 35, 36, 37, 38, 39, 40, 41, 42, 43, 44, 45, 46, 47, 48, 49, 50, 51, 52, 53, 54, 55, 56, 57, 58, 59, 60, 61, 62, 63, 64, 65, 66, 67] (by decide +kernel) (by decide +kernel)
set_option maxRecDepth 20000 in
theorem gX9_fits_X9_fitsAt : GoodIn wsX9_fits (wsV RX9 139 RX9 yX9_fitsAt wsX9_fitsAt) := goodIn_app (goodIn_of _ (by decide +kernel)) ggX9_fits_X9_fitsAt
theorem dX9_fits_0 : decode cX9_fits 0 = .ok (.aload_n 0, 1) := by decide +kernel
theorem dX9_fits_1 : decode cX9_fits 1 = .ok (.getfield 42, 3) := by decide +kernel
theorem dX9_fits_4 : decode cX9_fits 4 = .ok (.bipush 12, 2) := by decide +kernel
theorem dX9_fits_6 : decode cX9_fits 6 = .ok (.iaload, 1) := by decide +kernel
theorem dX9_fits_7 : decode cX9_fits 7 = .ok (.bipush 20, 2) := by decide +kernel
theorem dX9_fits_9 : decode cX9_fits 9 = .ok (.if_icmp .gt 7, 3) := by decide +kernel
theorem dX9_fits_12 : decode cX9_fits 12 = .ok (.iconst 1, 1) := by decide +kernel
theorem dX9_fits_13 : decode cX9_fits 13 = .ok (.goto 4, 3) := by decide +kernel
theorem dX9_fits_16 : decode cX9_fits 16 = .ok (.iconst 0, 1) := by decide +kernel
theorem dX9_fits_17 : decode cX9_fits 17 = .ok (.istore_n 2, 1) := by decide +kernel
theorem dX9_fits_18 : decode cX9_fits 18 = .ok (.sipush 384, 3) := by decide +kernel
theorem dX9_fits_21 : decode cX9_fits 21 = .ok (.istore_n 3, 1) := by decide +kernel
theorem dX9_fits_22 : decode cX9_fits 22 = .ok (.iload_n 3, 1) := by decide +kernel
theorem dX9_fits_23 : decode cX9_fits 23 = .ok (.sipush 384, 3) := by decide +kernel
theorem dX9_fits_26 : decode cX9_fits 26 = .ok (.aload_n 0, 1) := by decide +kernel
theorem dX9_fits_27 : decode cX9_fits 27 = .ok (.getfield 42, 3) := by decide +kernel
theorem dX9_fits_30 : decode cX9_fits 30 = .ok (.bipush 12, 2) := by decide +kernel
theorem dX9_fits_32 : decode cX9_fits 32 = .ok (.iaload, 1) := by decide +kernel
theorem dX9_fits_33 : decode cX9_fits 33 = .ok (.iadd, 1) := by decide +kernel
theorem dX9_fits_34 : decode cX9_fits 34 = .ok (.if_icmp .ge 28, 3) := by decide +kernel
theorem dX9_fits_37 : decode cX9_fits 37 = .ok (.iload_n 2, 1) := by decide +kernel
theorem dX9_fits_38 : decode cX9_fits 38 = .ok (.ifCond .eq 16, 3) := by decide +kernel
theorem dX9_fits_41 : decode cX9_fits 41 = .ok (.aload_n 0, 1) := by decide +kernel
theorem dX9_fits_42 : decode cX9_fits 42 = .ok (.iload_n 1, 1) := by decide +kernel
theorem dX9_fits_43 : decode cX9_fits 43 = .ok (.iload_n 3, 1) := by decide +kernel
theorem dX9_fits_44 : decode cX9_fits 44 = .ok (.invokevirtual 139, 3) := by decide +kernel
theorem dX9_fits_47 : decode cX9_fits 47 = .ok (.ifCond .eq 7, 3) := by decide +kernel
theorem dX9_fits_50 : decode cX9_fits 50 = .ok (.iconst 1, 1) := by decide +kernel
theorem dX9_fits_51 : decode cX9_fits 51 = .ok (.goto 4, 3) := by decide +kernel
theorem dX9_fits_54 : decode cX9_fits 54 = .ok (.iconst 0, 1) := by decide +kernel
theorem dX9_fits_55 : decode cX9_fits 55 = .ok (.istore_n 2, 1) := by decide +kernel
theorem dX9_fits_56 : decode cX9_fits 56 = .ok (.iinc 3 1, 3) := by decide +kernel
theorem dX9_fits_59 : decode cX9_fits 59 = .ok (.goto (-37), 3) := by decide +kernel
theorem dX9_fits_62 : decode cX9_fits 62 = .ok (.iload_n 2, 1) := by decide +kernel
theorem dX9_fits_63 : decode cX9_fits 63 = .ok (.ireturn, 1) := by decide +kernel
set_option maxRecDepth 20000 in
theorem ggX9_isZone_X9_in : GoodIn wsX9_isZone wsX9_in := goodIn_r _ [5] (by decide +kernel) (by decide +kernel)
set_option maxRecDepth 20000 in
theorem gX9_isZone_X9_in : GoodIn wsX9_isZone (va_wsS RX9 102 yX9_in wsX9_in) := goodIn_app (goodIn_of _ (by decide +kernel)) ggX9_isZone_X9_in
theorem dX9_isZone_0 : decode cX9_isZone 0 = .ok (.iload_n 1, 1) := by decide +kernel
theorem dX9_isZone_1 : decode cX9_isZone 1 = .ok (.iconst 0, 1) := by decide +kernel
theorem dX9_isZone_2 : decode cX9_isZone 2 = .ok (.aload_n 0, 1) := by decide +kernel
theorem dX9_isZone_3 : decode cX9_isZone 3 = .ok (.getfield 7, 3) := by decide +kernel
theorem dX9_isZone_6 : decode cX9_isZone 6 = .ok (.iconst 1, 1) := by decide +kernel
theorem dX9_isZone_7 : decode cX9_isZone 7 = .ok (.isub, 1) := by decide +kernel
theorem dX9_isZone_8 : decode cX9_isZone 8 = .ok (.invokestatic 102, 3) := by decide +kernel
theorem dX9_isZone_11 : decode cX9_isZone 11 = .ok (.ireturn, 1) := by decide +kernel
set_option maxRecDepth 20000 in
theorem ggX9_zone_X9_isName : GoodIn wsX9_zone wsX9_isName := goodIn_r _ [7, 8, 9, 6, 10] (by decide +kernel) (by decide +kernel)
set_option maxRecDepth 20000 in
theorem gX9_zone_X9_isName : GoodIn wsX9_zone (va_wsS RX9 106 yX9_isName wsX9_isName) := goodIn_app (goodIn_of _ (by decide +kernel)) ggX9_zone_X9_isName
set_option maxRecDepth 20000 in
theorem ggX9_zone_X9_in : GoodIn wsX9_zone wsX9_in := goodIn_r _ [10] (by decide +kernel) (by decide +kernel)
set_option maxRecDepth 20000 in
theorem gX9_zone_X9_in : GoodIn wsX9_zone (va_wsS RX9 102 yX9_in wsX9_in) := goodIn_app (goodIn_of _ (by decide +kernel)) ggX9_zone_X9_in
set_option maxRecDepth 20000 in
theorem ggX9_zone_X9_asked_ : GoodIn wsX9_zone wsX9_asked_ := goodIn_r _ [14, 15, 16, 17, 18, 19, 20, 21, 22, 23, 24, 25, 26, 27, 28, 29, 30, 31, 32, 33, 34, 35, 36, 37, 38, 39, 40, 41, 42, 43, 44, 45, 46, 47, 48, 49, 50, 51, 52] (by decide +kernel) (by decide +kernel)
set_option maxRecDepth 20000 in
theorem gX9_zone_X9_asked_ : GoodIn wsX9_zone (wsV RX9 142 RX9 yX9_asked_ wsX9_asked_) := goodIn_app (goodIn_of _ (by decide +kernel)) ggX9_zone_X9_asked_
theorem dX9_zone_0 : decode cX9_zone 0 = .ok (.aload_n 0, 1) := by decide +kernel
theorem dX9_zone_1 : decode cX9_zone 1 = .ok (.getfield 7, 3) := by decide +kernel
theorem dX9_zone_4 : decode cX9_zone 4 = .ok (.bipush 6, 2) := by decide +kernel
theorem dX9_zone_6 : decode cX9_zone 6 = .ok (.if_icmp .ge 7, 3) := by decide +kernel
theorem dX9_zone_9 : decode cX9_zone 9 = .ok (.iconst 1, 1) := by decide +kernel
theorem dX9_zone_10 : decode cX9_zone 10 = .ok (.goto 4, 3) := by decide +kernel
theorem dX9_zone_13 : decode cX9_zone 13 = .ok (.iconst 0, 1) := by decide +kernel
theorem dX9_zone_14 : decode cX9_zone 14 = .ok (.istore_n 3, 1) := by decide +kernel
theorem dX9_zone_15 : decode cX9_zone 15 = .ok (.iconst 0, 1) := by decide +kernel
theorem dX9_zone_16 : decode cX9_zone 16 = .ok (.istore 4, 2) := by decide +kernel
theorem dX9_zone_18 : decode cX9_zone 18 = .ok (.iload 4, 2) := by decide +kernel
theorem dX9_zone_20 : decode cX9_zone 20 = .ok (.aload_n 0, 1) := by decide +kernel
theorem dX9_zone_21 : decode cX9_zone 21 = .ok (.getfield 7, 3) := by decide +kernel
theorem dX9_zone_24 : decode cX9_zone 24 = .ok (.if_icmp .ge 28, 3) := by decide +kernel
theorem dX9_zone_27 : decode cX9_zone 27 = .ok (.iload_n 3, 1) := by decide +kernel
theorem dX9_zone_28 : decode cX9_zone 28 = .ok (.aload_n 0, 1) := by decide +kernel
theorem dX9_zone_29 : decode cX9_zone 29 = .ok (.getfield 13, 3) := by decide +kernel
theorem dX9_zone_32 : decode cX9_zone 32 = .ok (.iload 4, 2) := by decide +kernel
theorem dX9_zone_34 : decode cX9_zone 34 = .ok (.iaload, 1) := by decide +kernel
theorem dX9_zone_35 : decode cX9_zone 35 = .ok (.iload_n 1, 1) := by decide +kernel
theorem dX9_zone_36 : decode cX9_zone 36 = .ok (.if_icmp .eq 7, 3) := by decide +kernel
theorem dX9_zone_39 : decode cX9_zone 39 = .ok (.iconst 1, 1) := by decide +kernel
theorem dX9_zone_40 : decode cX9_zone 40 = .ok (.goto 4, 3) := by decide +kernel
theorem dX9_zone_43 : decode cX9_zone 43 = .ok (.iconst 0, 1) := by decide +kernel
theorem dX9_zone_44 : decode cX9_zone 44 = .ok (.iand, 1) := by decide +kernel
theorem dX9_zone_45 : decode cX9_zone 45 = .ok (.istore_n 3, 1) := by decide +kernel
theorem dX9_zone_46 : decode cX9_zone 46 = .ok (.iinc 4 1, 3) := by decide +kernel
theorem dX9_zone_49 : decode cX9_zone 49 = .ok (.goto (-31), 3) := by decide +kernel
theorem dX9_zone_52 : decode cX9_zone 52 = .ok (.aload_n 0, 1) := by decide +kernel
theorem dX9_zone_53 : decode cX9_zone 53 = .ok (.iload_n 1, 1) := by decide +kernel
theorem dX9_zone_54 : decode cX9_zone 54 = .ok (.invokestatic 106, 3) := by decide +kernel
theorem dX9_zone_57 : decode cX9_zone 57 = .ok (.ifCond .eq 21, 3) := by decide +kernel
theorem dX9_zone_60 : decode cX9_zone 60 = .ok (.iload_n 1, 1) := by decide +kernel
theorem dX9_zone_61 : decode cX9_zone 61 = .ok (.ifCond .le 17, 3) := by decide +kernel
theorem dX9_zone_64 : decode cX9_zone 64 = .ok (.iload_n 2, 1) := by decide +kernel
theorem dX9_zone_65 : decode cX9_zone 65 = .ok (.iconst 1, 1) := by decide +kernel
theorem dX9_zone_66 : decode cX9_zone 66 = .ok (.bipush 50, 2) := by decide +kernel
theorem dX9_zone_68 : decode cX9_zone 68 = .ok (.invokestatic 102, 3) := by decide +kernel
theorem dX9_zone_71 : decode cX9_zone 71 = .ok (.ifCond .eq 7, 3) := by decide +kernel
theorem dX9_zone_74 : decode cX9_zone 74 = .ok (.iconst 1, 1) := by decide +kernel
theorem dX9_zone_75 : decode cX9_zone 75 = .ok (.goto 4, 3) := by decide +kernel
theorem dX9_zone_78 : decode cX9_zone 78 = .ok (.iconst 0, 1) := by decide +kernel
theorem dX9_zone_79 : decode cX9_zone 79 = .ok (.iload_n 3, 1) := by decide +kernel
theorem dX9_zone_80 : decode cX9_zone 80 = .ok (.invokevirtual 142, 3) := by decide +kernel
theorem dX9_zone_83 : decode cX9_zone 83 = .ok (.ifCond .ne 5, 3) := by decide +kernel
theorem dX9_zone_86 : decode cX9_zone 86 = .ok (.iconst 0, 1) := by decide +kernel
theorem dX9_zone_87 : decode cX9_zone 87 = .ok (.ireturn, 1) := by decide +kernel
theorem dX9_zone_88 : decode cX9_zone 88 = .ok (.aload_n 0, 1) := by decide +kernel
theorem dX9_zone_89 : decode cX9_zone 89 = .ok (.getfield 13, 3) := by decide +kernel
theorem dX9_zone_92 : decode cX9_zone 92 = .ok (.aload_n 0, 1) := by decide +kernel
theorem dX9_zone_93 : decode cX9_zone 93 = .ok (.getfield 7, 3) := by decide +kernel
theorem dX9_zone_96 : decode cX9_zone 96 = .ok (.iload_n 1, 1) := by decide +kernel
theorem dX9_zone_97 : decode cX9_zone 97 = .ok (.iastore, 1) := by decide +kernel
theorem dX9_zone_98 : decode cX9_zone 98 = .ok (.aload_n 0, 1) := by decide +kernel
theorem dX9_zone_99 : decode cX9_zone 99 = .ok (.getfield 17, 3) := by decide +kernel
theorem dX9_zone_102 : decode cX9_zone 102 = .ok (.aload_n 0, 1) := by decide +kernel
theorem dX9_zone_103 : decode cX9_zone 103 = .ok (.getfield 7, 3) := by decide +kernel
theorem dX9_zone_106 : decode cX9_zone 106 = .ok (.iload_n 2, 1) := by decide +kernel
theorem dX9_zone_107 : decode cX9_zone 107 = .ok (.iastore, 1) := by decide +kernel
theorem dX9_zone_108 : decode cX9_zone 108 = .ok (.aload_n 0, 1) := by decide +kernel
theorem dX9_zone_109 : decode cX9_zone 109 = .ok (.dup, 1) := by decide +kernel
theorem dX9_zone_110 : decode cX9_zone 110 = .ok (.getfield 7, 3) := by decide +kernel
theorem dX9_zone_113 : decode cX9_zone 113 = .ok (.iconst 1, 1) := by decide +kernel
theorem dX9_zone_114 : decode cX9_zone 114 = .ok (.iadd, 1) := by decide +kernel
theorem dX9_zone_115 : decode cX9_zone 115 = .ok (.putfield 7, 3) := by decide +kernel
theorem dX9_zone_118 : decode cX9_zone 118 = .ok (.aload_n 0, 1) := by decide +kernel
theorem dX9_zone_119 : decode cX9_zone 119 = .ok (.getfield 7, 3) := by decide +kernel
theorem dX9_zone_122 : decode cX9_zone 122 = .ok (.iconst 1, 1) := by decide +kernel
theorem dX9_zone_123 : decode cX9_zone 123 = .ok (.isub, 1) := by decide +kernel
theorem dX9_zone_124 : decode cX9_zone 124 = .ok (.ireturn, 1) := by decide +kernel
set_option maxRecDepth 20000 in
theorem ggX9_tells_X9_isPlace : GoodIn wsX9_tells wsX9_isPlace := goodIn_r _ [10, 11, 12, 9, 13, 14, 15, 16, 17, 18, 19] (by decide +kernel) (by decide +kernel)
set_option maxRecDepth 20000 in
theorem gX9_tells_X9_isPlace : GoodIn wsX9_tells (va_wsS RX9 146 yX9_isPlace wsX9_isPlace) := goodIn_app (goodIn_of _ (by decide +kernel)) ggX9_tells_X9_isPlace
set_option maxRecDepth 20000 in
theorem ggX9_tells_X9_in : GoodIn wsX9_tells wsX9_in := goodIn_r _ [16] (by decide +kernel) (by decide +kernel)
set_option maxRecDepth 20000 in
theorem gX9_tells_X9_in : GoodIn wsX9_tells (va_wsS RX9 102 yX9_in wsX9_in) := goodIn_app (goodIn_of _ (by decide +kernel)) ggX9_tells_X9_in
set_option maxRecDepth 20000 in
theorem ggX9_tells_X9_asked_ : GoodIn wsX9_tells wsX9_asked_ := goodIn_r _ [23, 24, 25, 26, 27, 28, 29, 30, 31, 32, 33, 34, 35, 36, 37, 38, 39, 40, 41, 42, 43, 44, 45, 46, 47, 48, 49, 50, 51, 52, 53, 54, 55, 56, 57, 58, 59, 60, 61] (by decide +kernel) (by decide +kernel)
set_option maxRecDepth 20000 in
theorem gX9_tells_X9_asked_ : GoodIn wsX9_tells (wsV RX9 142 RX9 yX9_asked_ wsX9_asked_) := goodIn_app (goodIn_of _ (by decide +kernel)) ggX9_tells_X9_asked_
theorem dX9_tells_0 : decode cX9_tells 0 = .ok (.aload_n 0, 1) := by decide +kernel
theorem dX9_tells_1 : decode cX9_tells 1 = .ok (.iload_n 1, 1) := by decide +kernel
theorem dX9_tells_2 : decode cX9_tells 2 = .ok (.ifCond .eq 24, 3) := by decide +kernel
theorem dX9_tells_5 : decode cX9_tells 5 = .ok (.iload_n 3, 1) := by decide +kernel
theorem dX9_tells_6 : decode cX9_tells 6 = .ok (.invokestatic 146, 3) := by decide +kernel
theorem dX9_tells_9 : decode cX9_tells 9 = .ok (.ifCond .eq 17, 3) := by decide +kernel
theorem dX9_tells_12 : decode cX9_tells 12 = .ok (.iload 4, 2) := by decide +kernel
theorem dX9_tells_14 : decode cX9_tells 14 = .ok (.iconst 0, 1) := by decide +kernel
theorem dX9_tells_15 : decode cX9_tells 15 = .ok (.iconst 4, 1) := by decide +kernel
theorem dX9_tells_16 : decode cX9_tells 16 = .ok (.invokestatic 102, 3) := by decide +kernel
theorem dX9_tells_19 : decode cX9_tells 19 = .ok (.ifCond .eq 7, 3) := by decide +kernel
theorem dX9_tells_22 : decode cX9_tells 22 = .ok (.iconst 1, 1) := by decide +kernel
theorem dX9_tells_23 : decode cX9_tells 23 = .ok (.goto 4, 3) := by decide +kernel
theorem dX9_tells_26 : decode cX9_tells 26 = .ok (.iconst 0, 1) := by decide +kernel
theorem dX9_tells_27 : decode cX9_tells 27 = .ok (.aload_n 0, 1) := by decide +kernel
theorem dX9_tells_28 : decode cX9_tells 28 = .ok (.getfield 149, 3) := by decide +kernel
theorem dX9_tells_31 : decode cX9_tells 31 = .ok (.bipush 10, 2) := by decide +kernel
theorem dX9_tells_33 : decode cX9_tells 33 = .ok (.if_icmp .ge 7, 3) := by decide +kernel
theorem dX9_tells_36 : decode cX9_tells 36 = .ok (.iconst 1, 1) := by decide +kernel
theorem dX9_tells_37 : decode cX9_tells 37 = .ok (.goto 4, 3) := by decide +kernel
theorem dX9_tells_40 : decode cX9_tells 40 = .ok (.iconst 0, 1) := by decide +kernel
theorem dX9_tells_41 : decode cX9_tells 41 = .ok (.invokevirtual 142, 3) := by decide +kernel
theorem dX9_tells_44 : decode cX9_tells 44 = .ok (.ifCond .ne 5, 3) := by decide +kernel
theorem dX9_tells_47 : decode cX9_tells 47 = .ok (.iconst 0, 1) := by decide +kernel
theorem dX9_tells_48 : decode cX9_tells 48 = .ok (.ireturn, 1) := by decide +kernel
theorem dX9_tells_49 : decode cX9_tells 49 = .ok (.aload_n 0, 1) := by decide +kernel
theorem dX9_tells_50 : decode cX9_tells 50 = .ok (.getfield 57, 3) := by decide +kernel
theorem dX9_tells_53 : decode cX9_tells 53 = .ok (.aload_n 0, 1) := by decide +kernel
theorem dX9_tells_54 : decode cX9_tells 54 = .ok (.getfield 149, 3) := by decide +kernel
theorem dX9_tells_57 : decode cX9_tells 57 = .ok (.iload_n 2, 1) := by decide +kernel
theorem dX9_tells_58 : decode cX9_tells 58 = .ok (.iastore, 1) := by decide +kernel
theorem dX9_tells_59 : decode cX9_tells 59 = .ok (.aload_n 0, 1) := by decide +kernel
theorem dX9_tells_60 : decode cX9_tells 60 = .ok (.getfield 60, 3) := by decide +kernel
theorem dX9_tells_63 : decode cX9_tells 63 = .ok (.aload_n 0, 1) := by decide +kernel
theorem dX9_tells_64 : decode cX9_tells 64 = .ok (.getfield 149, 3) := by decide +kernel
theorem dX9_tells_67 : decode cX9_tells 67 = .ok (.iload_n 3, 1) := by decide +kernel
theorem dX9_tells_68 : decode cX9_tells 68 = .ok (.iastore, 1) := by decide +kernel
theorem dX9_tells_69 : decode cX9_tells 69 = .ok (.aload_n 0, 1) := by decide +kernel
theorem dX9_tells_70 : decode cX9_tells 70 = .ok (.getfield 63, 3) := by decide +kernel
theorem dX9_tells_73 : decode cX9_tells 73 = .ok (.aload_n 0, 1) := by decide +kernel
theorem dX9_tells_74 : decode cX9_tells 74 = .ok (.getfield 149, 3) := by decide +kernel
theorem dX9_tells_77 : decode cX9_tells 77 = .ok (.iload 4, 2) := by decide +kernel
theorem dX9_tells_79 : decode cX9_tells 79 = .ok (.iastore, 1) := by decide +kernel
theorem dX9_tells_80 : decode cX9_tells 80 = .ok (.aload_n 0, 1) := by decide +kernel
theorem dX9_tells_81 : decode cX9_tells 81 = .ok (.getfield 66, 3) := by decide +kernel
theorem dX9_tells_84 : decode cX9_tells 84 = .ok (.aload_n 0, 1) := by decide +kernel
theorem dX9_tells_85 : decode cX9_tells 85 = .ok (.getfield 149, 3) := by decide +kernel
theorem dX9_tells_88 : decode cX9_tells 88 = .ok (.iload 5, 2) := by decide +kernel
theorem dX9_tells_90 : decode cX9_tells 90 = .ok (.iastore, 1) := by decide +kernel
theorem dX9_tells_91 : decode cX9_tells 91 = .ok (.aload_n 0, 1) := by decide +kernel
theorem dX9_tells_92 : decode cX9_tells 92 = .ok (.getfield 69, 3) := by decide +kernel
theorem dX9_tells_95 : decode cX9_tells 95 = .ok (.aload_n 0, 1) := by decide +kernel
theorem dX9_tells_96 : decode cX9_tells 96 = .ok (.getfield 149, 3) := by decide +kernel
theorem dX9_tells_99 : decode cX9_tells 99 = .ok (.iload 6, 2) := by decide +kernel
theorem dX9_tells_101 : decode cX9_tells 101 = .ok (.iastore, 1) := by decide +kernel
theorem dX9_tells_102 : decode cX9_tells 102 = .ok (.aload_n 0, 1) := by decide +kernel
theorem dX9_tells_103 : decode cX9_tells 103 = .ok (.dup, 1) := by decide +kernel
theorem dX9_tells_104 : decode cX9_tells 104 = .ok (.getfield 149, 3) := by decide +kernel
theorem dX9_tells_107 : decode cX9_tells 107 = .ok (.iconst 1, 1) := by decide +kernel
theorem dX9_tells_108 : decode cX9_tells 108 = .ok (.iadd, 1) := by decide +kernel
theorem dX9_tells_109 : decode cX9_tells 109 = .ok (.putfield 149, 3) := by decide +kernel
theorem dX9_tells_112 : decode cX9_tells 112 = .ok (.aload_n 0, 1) := by decide +kernel
theorem dX9_tells_113 : decode cX9_tells 113 = .ok (.getfield 149, 3) := by decide +kernel
theorem dX9_tells_116 : decode cX9_tells 116 = .ok (.ireturn, 1) := by decide +kernel
set_option maxRecDepth 20000 in
theorem ggX9_need_X9_tells : GoodIn wsX9_need wsX9_tells := goodIn_r _ [5, 6, 7, 8, 9, 10, 11, 12, 13, 4, 14, 15, 16, 17, 18, 19, 20, 21, 22, 23, 24, 25, 26, 27, 28, 29, 30, 31, 32, 33, 34, 35, 36, 37, 38, 39, 40, 41, 42, 43, 44, 45, 46, 47, 48, 49, 50, 51, 52, 53, 54, 55, 56, 57, 58, 59, 60, 61, 62, 63, 64, 65] (by decide +kernel) (by decide +kernel)
set_option maxRecDepth 20000 in
theorem gX9_need_X9_tells : GoodIn wsX9_need (wsV RX9 152 RX9 yX9_tells wsX9_tells) := goodIn_app (goodIn_of _ (by decide +kernel)) ggX9_need_X9_tells
theorem dX9_need_0 : decode cX9_need 0 = .ok (.aload_n 0, 1) := by decide +kernel
theorem dX9_need_1 : decode cX9_need 1 = .ok (.iconst 1, 1) := by decide +kernel
theorem dX9_need_2 : decode cX9_need 2 = .ok (.iload_n 3, 1) := by decide +kernel
theorem dX9_need_3 : decode cX9_need 3 = .ok (.ifCond .eq 7, 3) := by decide +kernel
theorem dX9_need_6 : decode cX9_need 6 = .ok (.iconst 0, 1) := by decide +kernel
theorem dX9_need_7 : decode cX9_need 7 = .ok (.goto 4, 3) := by decide +kernel
theorem dX9_need_10 : decode cX9_need 10 = .ok (.iconst 1, 1) := by decide +kernel
theorem dX9_need_11 : decode cX9_need 11 = .ok (.iload_n 1, 1) := by decide +kernel
theorem dX9_need_12 : decode cX9_need 12 = .ok (.iload_n 2, 1) := by decide +kernel
theorem dX9_need_13 : decode cX9_need 13 = .ok (.iconst 0, 1) := by decide +kernel
theorem dX9_need_14 : decode cX9_need 14 = .ok (.iconst 0, 1) := by decide +kernel
theorem dX9_need_15 : decode cX9_need 15 = .ok (.invokevirtual 152, 3) := by decide +kernel
theorem dX9_need_18 : decode cX9_need 18 = .ok (.ireturn, 1) := by decide +kernel
set_option maxRecDepth 20000 in
theorem ggX9_isNumber_X9_in : GoodIn wsX9_isNumber wsX9_in := goodIn_r _ [4] (by decide +kernel) (by decide +kernel)
set_option maxRecDepth 20000 in
theorem gX9_isNumber_X9_in : GoodIn wsX9_isNumber (va_wsS RX9 102 yX9_in wsX9_in) := goodIn_app (goodIn_of _ (by decide +kernel)) ggX9_isNumber_X9_in
set_option maxRecDepth 20000 in
theorem ggX9_isNumber_X9_isName : GoodIn wsX9_isNumber wsX9_isName := goodIn_r _ [7, 1, 2, 3, 4] (by decide +kernel) (by decide +kernel)
set_option maxRecDepth 20000 in
theorem gX9_isNumber_X9_isName : GoodIn wsX9_isNumber (va_wsS RX9 106 yX9_isName wsX9_isName) := goodIn_app (goodIn_of _ (by decide +kernel)) ggX9_isNumber_X9_isName
theorem dX9_isNumber_0 : decode cX9_isNumber 0 = .ok (.iload_n 0, 1) := by decide +kernel
theorem dX9_isNumber_1 : decode cX9_isNumber 1 = .ok (.ifCond .ne 13, 3) := by decide +kernel
theorem dX9_isNumber_4 : decode cX9_isNumber 4 = .ok (.iload_n 1, 1) := by decide +kernel
theorem dX9_isNumber_5 : decode cX9_isNumber 5 = .ok (.iconst 0, 1) := by decide +kernel
theorem dX9_isNumber_6 : decode cX9_isNumber 6 = .ok (.bipush 99, 2) := by decide +kernel
theorem dX9_isNumber_8 : decode cX9_isNumber 8 = .ok (.invokestatic 102, 3) := by decide +kernel
theorem dX9_isNumber_11 : decode cX9_isNumber 11 = .ok (.goto 37, 3) := by decide +kernel
theorem dX9_isNumber_14 : decode cX9_isNumber 14 = .ok (.iload_n 0, 1) := by decide +kernel
theorem dX9_isNumber_15 : decode cX9_isNumber 15 = .ok (.iconst 3, 1) := by decide +kernel
theorem dX9_isNumber_16 : decode cX9_isNumber 16 = .ok (.if_icmp .ne 12, 3) := by decide +kernel
theorem dX9_isNumber_19 : decode cX9_isNumber 19 = .ok (.iload_n 1, 1) := by decide +kernel
theorem dX9_isNumber_20 : decode cX9_isNumber 20 = .ok (.iconst 0, 1) := by decide +kernel
theorem dX9_isNumber_21 : decode cX9_isNumber 21 = .ok (.iconst 5, 1) := by decide +kernel
theorem dX9_isNumber_22 : decode cX9_isNumber 22 = .ok (.invokestatic 102, 3) := by decide +kernel
theorem dX9_isNumber_25 : decode cX9_isNumber 25 = .ok (.goto 23, 3) := by decide +kernel
theorem dX9_isNumber_28 : decode cX9_isNumber 28 = .ok (.iload_n 0, 1) := by decide +kernel
theorem dX9_isNumber_29 : decode cX9_isNumber 29 = .ok (.iconst 4, 1) := by decide +kernel
theorem dX9_isNumber_30 : decode cX9_isNumber 30 = .ok (.if_icmp .ne 14, 3) := by decide +kernel
theorem dX9_isNumber_33 : decode cX9_isNumber 33 = .ok (.iload_n 1, 1) := by decide +kernel
theorem dX9_isNumber_34 : decode cX9_isNumber 34 = .ok (.iconst 0, 1) := by decide +kernel
theorem dX9_isNumber_35 : decode cX9_isNumber 35 = .ok (.sipush 996, 3) := by decide +kernel
theorem dX9_isNumber_38 : decode cX9_isNumber 38 = .ok (.invokestatic 102, 3) := by decide +kernel
theorem dX9_isNumber_41 : decode cX9_isNumber 41 = .ok (.goto 7, 3) := by decide +kernel
theorem dX9_isNumber_44 : decode cX9_isNumber 44 = .ok (.iload_n 1, 1) := by decide +kernel
theorem dX9_isNumber_45 : decode cX9_isNumber 45 = .ok (.invokestatic 106, 3) := by decide +kernel
theorem dX9_isNumber_48 : decode cX9_isNumber 48 = .ok (.ireturn, 1) := by decide +kernel
set_option maxRecDepth 20000 in
theorem ggX9_put_X9_isNumber : GoodIn wsX9_put wsX9_isNumber := goodIn_r _ [4, 5, 6, 3, 7, 8, 9, 10] (by decide +kernel) (by decide +kernel)
set_option maxRecDepth 20000 in
theorem gX9_put_X9_isNumber : GoodIn wsX9_put (va_wsS RX9 156 yX9_isNumber wsX9_isNumber) := goodIn_app (goodIn_of _ (by decide +kernel)) ggX9_put_X9_isNumber
set_option maxRecDepth 20000 in
theorem ggX9_put_X9_in : GoodIn wsX9_put wsX9_in := goodIn_r _ [7] (by decide +kernel) (by decide +kernel)
set_option maxRecDepth 20000 in
theorem gX9_put_X9_in : GoodIn wsX9_put (va_wsS RX9 102 yX9_in wsX9_in) := goodIn_app (goodIn_of _ (by decide +kernel)) ggX9_put_X9_in
set_option maxRecDepth 20000 in
theorem ggX9_put_X9_tells : GoodIn wsX9_put wsX9_tells := goodIn_r _ [14, 15, 16, 17, 18, 19, 20, 21, 22, 3, 23, 8, 9, 10, 5, 6, 7, 24, 25, 26, 27, 28, 29, 30, 31, 32, 33, 34, 35, 36, 37, 38, 39, 40, 41, 42, 43, 44, 45, 46, 47, 48, 49, 50, 51, 52, 53, 54, 55, 56, 57, 58, 59, 60, 61, 62, 63, 64, 65, 66, 67, 68] (by decide +kernel) (by decide +kernel)
set_option maxRecDepth 20000 in
theorem gX9_put_X9_tells : GoodIn wsX9_put (wsV RX9 152 RX9 yX9_tells wsX9_tells) := goodIn_app (goodIn_of _ (by decide +kernel)) ggX9_put_X9_tells
theorem dX9_put_0 : decode cX9_put 0 = .ok (.aload_n 0, 1) := by decide +kernel
theorem dX9_put_1 : decode cX9_put 1 = .ok (.iload_n 2, 1) := by decide +kernel
theorem dX9_put_2 : decode cX9_put 2 = .ok (.iload_n 3, 1) := by decide +kernel
theorem dX9_put_3 : decode cX9_put 3 = .ok (.invokestatic 156, 3) := by decide +kernel
theorem dX9_put_6 : decode cX9_put 6 = .ok (.ifCond .eq 18, 3) := by decide +kernel
theorem dX9_put_9 : decode cX9_put 9 = .ok (.iload 4, 2) := by decide +kernel
theorem dX9_put_11 : decode cX9_put 11 = .ok (.iconst 1, 1) := by decide +kernel
theorem dX9_put_12 : decode cX9_put 12 = .ok (.bipush 50, 2) := by decide +kernel
theorem dX9_put_14 : decode cX9_put 14 = .ok (.invokestatic 102, 3) := by decide +kernel
theorem dX9_put_17 : decode cX9_put 17 = .ok (.ifCond .eq 7, 3) := by decide +kernel
theorem dX9_put_20 : decode cX9_put 20 = .ok (.iconst 1, 1) := by decide +kernel
theorem dX9_put_21 : decode cX9_put 21 = .ok (.goto 4, 3) := by decide +kernel
theorem dX9_put_24 : decode cX9_put 24 = .ok (.iconst 0, 1) := by decide +kernel
theorem dX9_put_25 : decode cX9_put 25 = .ok (.iconst 2, 1) := by decide +kernel
theorem dX9_put_26 : decode cX9_put 26 = .ok (.iload_n 1, 1) := by decide +kernel
theorem dX9_put_27 : decode cX9_put 27 = .ok (.iload_n 2, 1) := by decide +kernel
theorem dX9_put_28 : decode cX9_put 28 = .ok (.iload_n 3, 1) := by decide +kernel
theorem dX9_put_29 : decode cX9_put 29 = .ok (.iload 4, 2) := by decide +kernel
theorem dX9_put_31 : decode cX9_put 31 = .ok (.invokevirtual 152, 3) := by decide +kernel
theorem dX9_put_34 : decode cX9_put 34 = .ok (.ireturn, 1) := by decide +kernel
set_option maxRecDepth 20000 in
theorem ggX9_drop_X9_tells : GoodIn wsX9_drop wsX9_tells := goodIn_r _ [5, 6, 7, 8, 9, 10, 11, 12, 13, 4, 14, 15, 16, 17, 18, 19, 20, 21, 22, 23, 24, 25, 26, 27, 28, 29, 30, 31, 32, 33, 34, 35, 36, 37, 38, 39, 40, 41, 42, 43, 44, 45, 46, 47, 48, 49, 50, 51, 52, 53, 54, 55, 56, 57, 58, 59, 60, 61, 62, 63, 64, 65] (by decide +kernel) (by decide +kernel)
set_option maxRecDepth 20000 in
theorem gX9_drop_X9_tells : GoodIn wsX9_drop (wsV RX9 152 RX9 yX9_tells wsX9_tells) := goodIn_app (goodIn_of _ (by decide +kernel)) ggX9_drop_X9_tells
theorem dX9_drop_0 : decode cX9_drop 0 = .ok (.aload_n 0, 1) := by decide +kernel
theorem dX9_drop_1 : decode cX9_drop 1 = .ok (.iconst 1, 1) := by decide +kernel
theorem dX9_drop_2 : decode cX9_drop 2 = .ok (.iconst 3, 1) := by decide +kernel
theorem dX9_drop_3 : decode cX9_drop 3 = .ok (.iload_n 1, 1) := by decide +kernel
theorem dX9_drop_4 : decode cX9_drop 4 = .ok (.iload_n 2, 1) := by decide +kernel
theorem dX9_drop_5 : decode cX9_drop 5 = .ok (.iconst 0, 1) := by decide +kernel
theorem dX9_drop_6 : decode cX9_drop 6 = .ok (.iconst 0, 1) := by decide +kernel
theorem dX9_drop_7 : decode cX9_drop 7 = .ok (.invokevirtual 152, 3) := by decide +kernel
theorem dX9_drop_10 : decode cX9_drop 10 = .ok (.ireturn, 1) := by decide +kernel
set_option maxRecDepth 20000 in
theorem ggX9_does_X9_find : GoodIn wsX9_does wsX9_find := goodIn_r _ [15, 4, 7, 8, 20, 21, 22, 23, 24, 25, 26, 27, 28, 29, 30, 31, 32, 33, 34, 35, 36, 37, 38, 39, 40, 41, 42, 43, 44, 45, 46, 47, 48, 49, 50, 51, 52, 53, 54, 55, 56] (by decide +kernel) (by decide +kernel)
set_option maxRecDepth 20000 in
theorem gX9_does_X9_find : GoodIn wsX9_does (wsV RX9 135 RX9 yX9_find wsX9_find) := goodIn_app (goodIn_of _ (by decide +kernel)) ggX9_does_X9_find
set_option maxRecDepth 20000 in
theorem ggX9_does_X9_lays : GoodIn wsX9_does wsX9_lays := goodIn_r _ [19, 7, 8, 9, 10, 20, 21, 22, 23, 24, 25, 26, 27, 28, 29, 30, 31, 32, 33, 34, 35, 36, 37, 38, 39, 40, 41, 42, 43, 44, 45, 46, 47, 48, 49, 50, 51, 52, 53, 54, 55, 56] (by decide +kernel) (by decide +kernel)
set_option maxRecDepth 20000 in
theorem gX9_does_X9_lays : GoodIn wsX9_does (wsV RX9 131 RX9 yX9_lays wsX9_lays) := goodIn_app (goodIn_of _ (by decide +kernel)) ggX9_does_X9_lays
theorem dX9_does_0 : decode cX9_does 0 = .ok (.aload_n 0, 1) := by decide +kernel
theorem dX9_does_1 : decode cX9_does 1 = .ok (.getfield 57, 3) := by decide +kernel
theorem dX9_does_4 : decode cX9_does 4 = .ok (.iload_n 2, 1) := by decide +kernel
theorem dX9_does_5 : decode cX9_does 5 = .ok (.iaload, 1) := by decide +kernel
theorem dX9_does_6 : decode cX9_does 6 = .ok (.iconst 2, 1) := by decide +kernel
theorem dX9_does_7 : decode cX9_does 7 = .ok (.if_icmp .ge 52, 3) := by decide +kernel
theorem dX9_does_10 : decode cX9_does 10 = .ok (.aload_n 0, 1) := by decide +kernel
theorem dX9_does_11 : decode cX9_does 11 = .ok (.iload_n 1, 1) := by decide +kernel
theorem dX9_does_12 : decode cX9_does 12 = .ok (.aload_n 0, 1) := by decide +kernel
theorem dX9_does_13 : decode cX9_does 13 = .ok (.getfield 60, 3) := by decide +kernel
theorem dX9_does_16 : decode cX9_does 16 = .ok (.iload_n 2, 1) := by decide +kernel
theorem dX9_does_17 : decode cX9_does 17 = .ok (.iaload, 1) := by decide +kernel
theorem dX9_does_18 : decode cX9_does 18 = .ok (.aload_n 0, 1) := by decide +kernel
theorem dX9_does_19 : decode cX9_does 19 = .ok (.getfield 63, 3) := by decide +kernel
theorem dX9_does_22 : decode cX9_does 22 = .ok (.iload_n 2, 1) := by decide +kernel
theorem dX9_does_23 : decode cX9_does 23 = .ok (.iaload, 1) := by decide +kernel
theorem dX9_does_24 : decode cX9_does 24 = .ok (.invokevirtual 135, 3) := by decide +kernel
theorem dX9_does_27 : decode cX9_does 27 = .ok (.iconst (-1), 1) := by decide +kernel
theorem dX9_does_28 : decode cX9_does 28 = .ok (.if_icmp .eq 7, 3) := by decide +kernel
theorem dX9_does_31 : decode cX9_does 31 = .ok (.iconst 1, 1) := by decide +kernel
theorem dX9_does_32 : decode cX9_does 32 = .ok (.goto 4, 3) := by decide +kernel
theorem dX9_does_35 : decode cX9_does 35 = .ok (.iconst 0, 1) := by decide +kernel
theorem dX9_does_36 : decode cX9_does 36 = .ok (.aload_n 0, 1) := by decide +kernel
theorem dX9_does_37 : decode cX9_does 37 = .ok (.getfield 57, 3) := by decide +kernel
theorem dX9_does_40 : decode cX9_does 40 = .ok (.iload_n 2, 1) := by decide +kernel
theorem dX9_does_41 : decode cX9_does 41 = .ok (.iaload, 1) := by decide +kernel
theorem dX9_does_42 : decode cX9_does 42 = .ok (.ifCond .ne 7, 3) := by decide +kernel
theorem dX9_does_45 : decode cX9_does 45 = .ok (.iconst 1, 1) := by decide +kernel
theorem dX9_does_46 : decode cX9_does 46 = .ok (.goto 4, 3) := by decide +kernel
theorem dX9_does_49 : decode cX9_does 49 = .ok (.iconst 0, 1) := by decide +kernel
theorem dX9_does_50 : decode cX9_does 50 = .ok (.if_icmp .ne 7, 3) := by decide +kernel
theorem dX9_does_53 : decode cX9_does 53 = .ok (.iconst 1, 1) := by decide +kernel
theorem dX9_does_54 : decode cX9_does 54 = .ok (.goto 4, 3) := by decide +kernel
theorem dX9_does_57 : decode cX9_does 57 = .ok (.iconst 0, 1) := by decide +kernel
theorem dX9_does_58 : decode cX9_does 58 = .ok (.ireturn, 1) := by decide +kernel
theorem dX9_does_59 : decode cX9_does 59 = .ok (.aload_n 0, 1) := by decide +kernel
theorem dX9_does_60 : decode cX9_does 60 = .ok (.bipush 12, 2) := by decide +kernel
theorem dX9_does_62 : decode cX9_does 62 = .ok (.aload_n 0, 1) := by decide +kernel
theorem dX9_does_63 : decode cX9_does 63 = .ok (.getfield 60, 3) := by decide +kernel
theorem dX9_does_66 : decode cX9_does 66 = .ok (.iload_n 2, 1) := by decide +kernel
theorem dX9_does_67 : decode cX9_does 67 = .ok (.iaload, 1) := by decide +kernel
theorem dX9_does_68 : decode cX9_does 68 = .ok (.aload_n 0, 1) := by decide +kernel
theorem dX9_does_69 : decode cX9_does 69 = .ok (.getfield 63, 3) := by decide +kernel
theorem dX9_does_72 : decode cX9_does 72 = .ok (.iload_n 2, 1) := by decide +kernel
theorem dX9_does_73 : decode cX9_does 73 = .ok (.iaload, 1) := by decide +kernel
theorem dX9_does_74 : decode cX9_does 74 = .ok (.invokevirtual 135, 3) := by decide +kernel
theorem dX9_does_77 : decode cX9_does 77 = .ok (.istore_n 3, 1) := by decide +kernel
theorem dX9_does_78 : decode cX9_does 78 = .ok (.aload_n 0, 1) := by decide +kernel
theorem dX9_does_79 : decode cX9_does 79 = .ok (.getfield 57, 3) := by decide +kernel
theorem dX9_does_82 : decode cX9_does 82 = .ok (.iload_n 2, 1) := by decide +kernel
theorem dX9_does_83 : decode cX9_does 83 = .ok (.iaload, 1) := by decide +kernel
theorem dX9_does_84 : decode cX9_does 84 = .ok (.iconst 2, 1) := by decide +kernel
theorem dX9_does_85 : decode cX9_does 85 = .ok (.if_icmp .ne 79, 3) := by decide +kernel
theorem dX9_does_88 : decode cX9_does 88 = .ok (.iload_n 3, 1) := by decide +kernel
theorem dX9_does_89 : decode cX9_does 89 = .ok (.iconst (-1), 1) := by decide +kernel
theorem dX9_does_90 : decode cX9_does 90 = .ok (.if_icmp .ne 13, 3) := by decide +kernel
theorem dX9_does_93 : decode cX9_does 93 = .ok (.aload_n 0, 1) := by decide +kernel
theorem dX9_does_94 : decode cX9_does 94 = .ok (.getfield 42, 3) := by decide +kernel
theorem dX9_does_97 : decode cX9_does 97 = .ok (.bipush 12, 2) := by decide +kernel
theorem dX9_does_99 : decode cX9_does 99 = .ok (.iaload, 1) := by decide +kernel
theorem dX9_does_100 : decode cX9_does 100 = .ok (.goto 8, 3) := by decide +kernel
theorem dX9_does_103 : decode cX9_does 103 = .ok (.iload_n 3, 1) := by decide +kernel
theorem dX9_does_104 : decode cX9_does 104 = .ok (.sipush 384, 3) := by decide +kernel
theorem dX9_does_107 : decode cX9_does 107 = .ok (.isub, 1) := by decide +kernel
theorem dX9_does_108 : decode cX9_does 108 = .ok (.istore 4, 2) := by decide +kernel
theorem dX9_does_110 : decode cX9_does 110 = .ok (.aload_n 0, 1) := by decide +kernel
theorem dX9_does_111 : decode cX9_does 111 = .ok (.bipush 12, 2) := by decide +kernel
theorem dX9_does_113 : decode cX9_does 113 = .ok (.iload 4, 2) := by decide +kernel
theorem dX9_does_115 : decode cX9_does 115 = .ok (.aload_n 0, 1) := by decide +kernel
theorem dX9_does_116 : decode cX9_does 116 = .ok (.getfield 60, 3) := by decide +kernel
theorem dX9_does_119 : decode cX9_does 119 = .ok (.iload_n 2, 1) := by decide +kernel
theorem dX9_does_120 : decode cX9_does 120 = .ok (.iaload, 1) := by decide +kernel
theorem dX9_does_121 : decode cX9_does 121 = .ok (.aload_n 0, 1) := by decide +kernel
theorem dX9_does_122 : decode cX9_does 122 = .ok (.getfield 63, 3) := by decide +kernel
theorem dX9_does_125 : decode cX9_does 125 = .ok (.iload_n 2, 1) := by decide +kernel
theorem dX9_does_126 : decode cX9_does 126 = .ok (.iaload, 1) := by decide +kernel
theorem dX9_does_127 : decode cX9_does 127 = .ok (.aload_n 0, 1) := by decide +kernel
theorem dX9_does_128 : decode cX9_does 128 = .ok (.getfield 66, 3) := by decide +kernel
theorem dX9_does_131 : decode cX9_does 131 = .ok (.iload_n 2, 1) := by decide +kernel
theorem dX9_does_132 : decode cX9_does 132 = .ok (.iaload, 1) := by decide +kernel
theorem dX9_does_133 : decode cX9_does 133 = .ok (.aload_n 0, 1) := by decide +kernel
theorem dX9_does_134 : decode cX9_does 134 = .ok (.getfield 69, 3) := by decide +kernel
theorem dX9_does_137 : decode cX9_does 137 = .ok (.iload_n 2, 1) := by decide +kernel
theorem dX9_does_138 : decode cX9_does 138 = .ok (.iaload, 1) := by decide +kernel
theorem dX9_does_139 : decode cX9_does 139 = .ok (.invokevirtual 131, 3) := by decide +kernel
theorem dX9_does_142 : decode cX9_does 142 = .ok (.aload_n 0, 1) := by decide +kernel
theorem dX9_does_143 : decode cX9_does 143 = .ok (.getfield 42, 3) := by decide +kernel
theorem dX9_does_146 : decode cX9_does 146 = .ok (.bipush 12, 2) := by decide +kernel
theorem dX9_does_148 : decode cX9_does 148 = .ok (.dup2, 1) := by decide +kernel
theorem dX9_does_149 : decode cX9_does 149 = .ok (.iaload, 1) := by decide +kernel
theorem dX9_does_150 : decode cX9_does 150 = .ok (.iload_n 3, 1) := by decide +kernel
theorem dX9_does_151 : decode cX9_does 151 = .ok (.iconst (-1), 1) := by decide +kernel
theorem dX9_does_152 : decode cX9_does 152 = .ok (.if_icmp .ne 7, 3) := by decide +kernel
theorem dX9_does_155 : decode cX9_does 155 = .ok (.iconst 1, 1) := by decide +kernel
theorem dX9_does_156 : decode cX9_does 156 = .ok (.goto 4, 3) := by decide +kernel
theorem dX9_does_159 : decode cX9_does 159 = .ok (.iconst 0, 1) := by decide +kernel
theorem dX9_does_160 : decode cX9_does 160 = .ok (.iadd, 1) := by decide +kernel
theorem dX9_does_161 : decode cX9_does 161 = .ok (.iastore, 1) := by decide +kernel
theorem dX9_does_162 : decode cX9_does 162 = .ok (.iconst 1, 1) := by decide +kernel
theorem dX9_does_163 : decode cX9_does 163 = .ok (.ireturn, 1) := by decide +kernel
theorem dX9_does_164 : decode cX9_does 164 = .ok (.iload_n 3, 1) := by decide +kernel
theorem dX9_does_165 : decode cX9_does 165 = .ok (.iconst (-1), 1) := by decide +kernel
theorem dX9_does_166 : decode cX9_does 166 = .ok (.if_icmp .eq 68, 3) := by decide +kernel
theorem dX9_does_169 : decode cX9_does 169 = .ok (.sipush 384, 3) := by decide +kernel
theorem dX9_does_172 : decode cX9_does 172 = .ok (.aload_n 0, 1) := by decide +kernel
theorem dX9_does_173 : decode cX9_does 173 = .ok (.getfield 42, 3) := by decide +kernel
theorem dX9_does_176 : decode cX9_does 176 = .ok (.bipush 12, 2) := by decide +kernel
theorem dX9_does_178 : decode cX9_does 178 = .ok (.iaload, 1) := by decide +kernel
theorem dX9_does_179 : decode cX9_does 179 = .ok (.iadd, 1) := by decide +kernel
theorem dX9_does_180 : decode cX9_does 180 = .ok (.iconst 1, 1) := by decide +kernel
theorem dX9_does_181 : decode cX9_does 181 = .ok (.isub, 1) := by decide +kernel
theorem dX9_does_182 : decode cX9_does 182 = .ok (.istore 4, 2) := by decide +kernel
theorem dX9_does_184 : decode cX9_does 184 = .ok (.aload_n 0, 1) := by decide +kernel
theorem dX9_does_185 : decode cX9_does 185 = .ok (.bipush 12, 2) := by decide +kernel
theorem dX9_does_187 : decode cX9_does 187 = .ok (.iload_n 3, 1) := by decide +kernel
theorem dX9_does_188 : decode cX9_does 188 = .ok (.sipush 384, 3) := by decide +kernel
theorem dX9_does_191 : decode cX9_does 191 = .ok (.isub, 1) := by decide +kernel
theorem dX9_does_192 : decode cX9_does 192 = .ok (.aload_n 0, 1) := by decide +kernel
theorem dX9_does_193 : decode cX9_does 193 = .ok (.getfield 45, 3) := by decide +kernel
theorem dX9_does_196 : decode cX9_does 196 = .ok (.iload 4, 2) := by decide +kernel
theorem dX9_does_198 : decode cX9_does 198 = .ok (.iaload, 1) := by decide +kernel
theorem dX9_does_199 : decode cX9_does 199 = .ok (.aload_n 0, 1) := by decide +kernel
theorem dX9_does_200 : decode cX9_does 200 = .ok (.getfield 48, 3) := by decide +kernel
theorem dX9_does_203 : decode cX9_does 203 = .ok (.iload 4, 2) := by decide +kernel
theorem dX9_does_205 : decode cX9_does 205 = .ok (.iaload, 1) := by decide +kernel
theorem dX9_does_206 : decode cX9_does 206 = .ok (.aload_n 0, 1) := by decide +kernel
theorem dX9_does_207 : decode cX9_does 207 = .ok (.getfield 51, 3) := by decide +kernel
theorem dX9_does_210 : decode cX9_does 210 = .ok (.iload 4, 2) := by decide +kernel
theorem dX9_does_212 : decode cX9_does 212 = .ok (.iaload, 1) := by decide +kernel
theorem dX9_does_213 : decode cX9_does 213 = .ok (.aload_n 0, 1) := by decide +kernel
theorem dX9_does_214 : decode cX9_does 214 = .ok (.getfield 54, 3) := by decide +kernel
theorem dX9_does_217 : decode cX9_does 217 = .ok (.iload 4, 2) := by decide +kernel
theorem dX9_does_219 : decode cX9_does 219 = .ok (.iaload, 1) := by decide +kernel
theorem dX9_does_220 : decode cX9_does 220 = .ok (.invokevirtual 131, 3) := by decide +kernel
theorem dX9_does_223 : decode cX9_does 223 = .ok (.aload_n 0, 1) := by decide +kernel
theorem dX9_does_224 : decode cX9_does 224 = .ok (.getfield 42, 3) := by decide +kernel
theorem dX9_does_227 : decode cX9_does 227 = .ok (.bipush 12, 2) := by decide +kernel
theorem dX9_does_229 : decode cX9_does 229 = .ok (.dup2, 1) := by decide +kernel
theorem dX9_does_230 : decode cX9_does 230 = .ok (.iaload, 1) := by decide +kernel
theorem dX9_does_231 : decode cX9_does 231 = .ok (.iconst 1, 1) := by decide +kernel
theorem dX9_does_232 : decode cX9_does 232 = .ok (.isub, 1) := by decide +kernel
theorem dX9_does_233 : decode cX9_does 233 = .ok (.iastore, 1) := by decide +kernel
theorem dX9_does_234 : decode cX9_does 234 = .ok (.iload_n 3, 1) := by decide +kernel
theorem dX9_does_235 : decode cX9_does 235 = .ok (.iconst (-1), 1) := by decide +kernel
theorem dX9_does_236 : decode cX9_does 236 = .ok (.if_icmp .eq 7, 3) := by decide +kernel
theorem dX9_does_239 : decode cX9_does 239 = .ok (.iconst 1, 1) := by decide +kernel
theorem dX9_does_240 : decode cX9_does 240 = .ok (.goto 4, 3) := by decide +kernel
theorem dX9_does_243 : decode cX9_does 243 = .ok (.iconst 0, 1) := by decide +kernel
theorem dX9_does_244 : decode cX9_does 244 = .ok (.ireturn, 1) := by decide +kernel
set_option maxRecDepth 20000 in
theorem ggX9_update_X9_isZone : GoodIn wsX9_update wsX9_isZone := goodIn_r _ [7, 8, 9, 10, 6, 11, 67, 68, 69, 70, 71, 72, 73, 74, 75, 76, 77, 78, 79, 80, 81, 82, 83, 84, 85, 86, 87, 88, 89, 90, 91, 92, 93, 94, 95, 96, 97, 98, 99, 100, 101, 102, 103] (by decide +kernel) (by decide +kernel)
set_option maxRecDepth 20000 in
theorem gX9_update_X9_isZone : GoodIn wsX9_update (wsV RX9 159 RX9 yX9_isZone wsX9_isZone) := goodIn_app (goodIn_of _ (by decide +kernel)) ggX9_update_X9_isZone
set_option maxRecDepth 20000 in
theorem ggX9_update_X9_asked : GoodIn wsX9_update wsX9_asked := goodIn_r _ [15, 16, 67, 68, 69, 70, 71, 72, 73, 74, 75, 76, 77, 78, 79, 80, 81, 82, 83, 84, 85, 86, 87, 88, 89, 90, 91, 92, 93, 94, 95, 96, 97, 98, 99, 100, 101, 102, 103] (by decide +kernel) (by decide +kernel)
set_option maxRecDepth 20000 in
theorem gX9_update_X9_asked : GoodIn wsX9_update (wsV RX9 162 RX9 yX9_asked wsX9_asked) := goodIn_app (goodIn_of _ (by decide +kernel)) ggX9_update_X9_asked
set_option maxRecDepth 20000 in
theorem ggX9_update_X9_copies : GoodIn wsX9_update wsX9_copies := goodIn_r _ [20, 21, 22, 23, 24, 25, 26, 27, 28, 6, 29, 67, 68, 69, 70, 71, 72, 73, 74, 75, 76, 77, 78, 79, 80, 81, 82, 83, 84, 85, 86, 87, 88, 89, 90, 91, 92, 93, 94, 95, 96, 97, 98, 99, 100, 101, 102, 103] (by decide +kernel) (by decide +kernel)
set_option maxRecDepth 20000 in
theorem gX9_update_X9_copies : GoodIn wsX9_update (wsV RX9 165 RX9 yX9_copies wsX9_copies) := goodIn_app (goodIn_of _ (by decide +kernel)) ggX9_update_X9_copies
set_option maxRecDepth 20000 in
theorem ggX9_update_X9_does : GoodIn wsX9_update wsX9_does := goodIn_r _ [33, 34, 35, 36, 21, 37, 38, 22, 23, 24, 25, 39, 40, 41, 6, 42, 26, 27, 28, 29, 67, 68, 69, 70, 71, 72, 73, 74, 75, 76, 77, 78, 79, 80, 81, 82, 83, 84, 85, 86, 87, 88, 89, 90, 91, 92, 93, 94, 95, 96, 97, 98, 99, 100, 101, 102, 103] (by decide +kernel) (by decide +kernel)
set_option maxRecDepth 20000 in
theorem gX9_update_X9_does : GoodIn wsX9_update (wsV RX9 169 RX9 yX9_does wsX9_does) := goodIn_app (goodIn_of _ (by decide +kernel)) ggX9_update_X9_does
set_option maxRecDepth 20000 in
theorem ggX9_update_X9_fits : GoodIn wsX9_update wsX9_fits := goodIn_r _ [46, 21, 47, 48, 49, 6, 50, 22, 51, 23, 24, 8, 52, 53, 54, 55, 56, 57, 58, 59, 60, 61, 62, 63, 64, 65, 66, 39, 40, 41, 42, 67, 68, 69, 70, 71, 72, 73, 74, 75, 76, 77, 78, 79, 80, 81, 82, 83, 84, 85, 86, 87, 88, 89, 90, 91, 92, 93, 94, 95, 96, 97, 98, 99, 100, 101, 102, 103] (by decide +kernel) (by decide +kernel)
set_option maxRecDepth 20000 in
theorem gX9_update_X9_fits : GoodIn wsX9_update (wsV RX9 172 RX9 yX9_fits wsX9_fits) := goodIn_app (goodIn_of _ (by decide +kernel)) ggX9_update_X9_fits
theorem dX9_update_0 : decode cX9_update 0 = .ok (.aload_n 0, 1) := by decide +kernel
theorem dX9_update_1 : decode cX9_update 1 = .ok (.aload_n 0, 1) := by decide +kernel
theorem dX9_update_2 : decode cX9_update 2 = .ok (.iload_n 1, 1) := by decide +kernel
theorem dX9_update_3 : decode cX9_update 3 = .ok (.invokevirtual 159, 3) := by decide +kernel
theorem dX9_update_6 : decode cX9_update 6 = .ok (.invokevirtual 162, 3) := by decide +kernel
theorem dX9_update_9 : decode cX9_update 9 = .ok (.ifCond .ne 5, 3) := by decide +kernel
theorem dX9_update_12 : decode cX9_update 12 = .ok (.iconst 0, 1) := by decide +kernel
theorem dX9_update_13 : decode cX9_update 13 = .ok (.ireturn, 1) := by decide +kernel
theorem dX9_update_14 : decode cX9_update 14 = .ok (.aload_n 0, 1) := by decide +kernel
theorem dX9_update_15 : decode cX9_update 15 = .ok (.iload_n 1, 1) := by decide +kernel
theorem dX9_update_16 : decode cX9_update 16 = .ok (.bipush 12, 2) := by decide +kernel
theorem dX9_update_18 : decode cX9_update 18 = .ok (.invokevirtual 165, 3) := by decide +kernel
theorem dX9_update_21 : decode cX9_update 21 = .ok (.iconst 1, 1) := by decide +kernel
theorem dX9_update_22 : decode cX9_update 22 = .ok (.istore_n 2, 1) := by decide +kernel
theorem dX9_update_23 : decode cX9_update 23 = .ok (.iconst 0, 1) := by decide +kernel
theorem dX9_update_24 : decode cX9_update 24 = .ok (.istore_n 3, 1) := by decide +kernel
theorem dX9_update_25 : decode cX9_update 25 = .ok (.iload_n 3, 1) := by decide +kernel
theorem dX9_update_26 : decode cX9_update 26 = .ok (.aload_n 0, 1) := by decide +kernel
theorem dX9_update_27 : decode cX9_update 27 = .ok (.getfield 149, 3) := by decide +kernel
theorem dX9_update_30 : decode cX9_update 30 = .ok (.if_icmp .ge 20, 3) := by decide +kernel
theorem dX9_update_33 : decode cX9_update 33 = .ok (.iload_n 2, 1) := by decide +kernel
theorem dX9_update_34 : decode cX9_update 34 = .ok (.ifCond .eq 16, 3) := by decide +kernel
theorem dX9_update_37 : decode cX9_update 37 = .ok (.aload_n 0, 1) := by decide +kernel
theorem dX9_update_38 : decode cX9_update 38 = .ok (.iload_n 1, 1) := by decide +kernel
theorem dX9_update_39 : decode cX9_update 39 = .ok (.iload_n 3, 1) := by decide +kernel
theorem dX9_update_40 : decode cX9_update 40 = .ok (.invokevirtual 169, 3) := by decide +kernel
theorem dX9_update_43 : decode cX9_update 43 = .ok (.istore_n 2, 1) := by decide +kernel
theorem dX9_update_44 : decode cX9_update 44 = .ok (.iinc 3 1, 3) := by decide +kernel
theorem dX9_update_47 : decode cX9_update 47 = .ok (.goto (-22), 3) := by decide +kernel
theorem dX9_update_50 : decode cX9_update 50 = .ok (.aload_n 0, 1) := by decide +kernel
theorem dX9_update_51 : decode cX9_update 51 = .ok (.iconst 0, 1) := by decide +kernel
theorem dX9_update_52 : decode cX9_update 52 = .ok (.putfield 149, 3) := by decide +kernel
theorem dX9_update_55 : decode cX9_update 55 = .ok (.iload_n 2, 1) := by decide +kernel
theorem dX9_update_56 : decode cX9_update 56 = .ok (.ifCond .eq 15, 3) := by decide +kernel
theorem dX9_update_59 : decode cX9_update 59 = .ok (.aload_n 0, 1) := by decide +kernel
theorem dX9_update_60 : decode cX9_update 60 = .ok (.iload_n 1, 1) := by decide +kernel
theorem dX9_update_61 : decode cX9_update 61 = .ok (.invokevirtual 172, 3) := by decide +kernel
theorem dX9_update_64 : decode cX9_update 64 = .ok (.ifCond .eq 7, 3) := by decide +kernel
theorem dX9_update_67 : decode cX9_update 67 = .ok (.iconst 1, 1) := by decide +kernel
theorem dX9_update_68 : decode cX9_update 68 = .ok (.goto 4, 3) := by decide +kernel
theorem dX9_update_71 : decode cX9_update 71 = .ok (.iconst 0, 1) := by decide +kernel
theorem dX9_update_72 : decode cX9_update 72 = .ok (.istore_n 2, 1) := by decide +kernel
theorem dX9_update_73 : decode cX9_update 73 = .ok (.iload_n 2, 1) := by decide +kernel
theorem dX9_update_74 : decode cX9_update 74 = .ok (.ifCond .eq 27, 3) := by decide +kernel
theorem dX9_update_77 : decode cX9_update 77 = .ok (.aload_n 0, 1) := by decide +kernel
theorem dX9_update_78 : decode cX9_update 78 = .ok (.bipush 12, 2) := by decide +kernel
theorem dX9_update_80 : decode cX9_update 80 = .ok (.iload_n 1, 1) := by decide +kernel
theorem dX9_update_81 : decode cX9_update 81 = .ok (.invokevirtual 165, 3) := by decide +kernel
theorem dX9_update_84 : decode cX9_update 84 = .ok (.aload_n 0, 1) := by decide +kernel
theorem dX9_update_85 : decode cX9_update 85 = .ok (.getfield 20, 3) := by decide +kernel
theorem dX9_update_88 : decode cX9_update 88 = .ok (.iload_n 1, 1) := by decide +kernel
theorem dX9_update_89 : decode cX9_update 89 = .ok (.aload_n 0, 1) := by decide +kernel
theorem dX9_update_90 : decode cX9_update 90 = .ok (.getfield 20, 3) := by decide +kernel
theorem dX9_update_93 : decode cX9_update 93 = .ok (.iload_n 1, 1) := by decide +kernel
theorem dX9_update_94 : decode cX9_update 94 = .ok (.iaload, 1) := by decide +kernel
theorem dX9_update_95 : decode cX9_update 95 = .ok (.iconst 1, 1) := by decide +kernel
theorem dX9_update_96 : decode cX9_update 96 = .ok (.iadd, 1) := by decide +kernel
theorem dX9_update_97 : decode cX9_update 97 = .ok (.bipush 16, 2) := by decide +kernel
theorem dX9_update_99 : decode cX9_update 99 = .ok (.irem, 1) := by decide +kernel
theorem dX9_update_100 : decode cX9_update 100 = .ok (.iastore, 1) := by decide +kernel
theorem dX9_update_101 : decode cX9_update 101 = .ok (.iload_n 2, 1) := by decide +kernel
theorem dX9_update_102 : decode cX9_update 102 = .ok (.ireturn, 1) := by decide +kernel
set_option maxRecDepth 20000 in
theorem ggX9_names_X9_figures : GoodIn wsX9_names wsX9_figures := goodIn_r _ [7] (by decide +kernel) (by decide +kernel)
set_option maxRecDepth 20000 in
theorem gX9_names_X9_figures : GoodIn wsX9_names (va_wsS RX9 113 yX9_figures wsX9_figures) := goodIn_app (goodIn_of _ (by decide +kernel)) ggX9_names_X9_figures
set_option maxRecDepth 20000 in
theorem ggX9_names_X9_base : GoodIn wsX9_names wsX9_base := goodIn_r _ [10] (by decide +kernel) (by decide +kernel)
set_option maxRecDepth 20000 in
theorem gX9_names_X9_base : GoodIn wsX9_names (va_wsS RX9 128 yX9_base wsX9_base) := goodIn_app (goodIn_of _ (by decide +kernel)) ggX9_names_X9_base
set_option maxRecDepth 20000 in
theorem ggX9_names_X9_head : GoodIn wsX9_names wsX9_head := goodIn_r _ [13, 4, 5, 6, 7, 14, 15, 16] (by decide +kernel) (by decide +kernel)
set_option maxRecDepth 20000 in
theorem gX9_names_X9_head : GoodIn wsX9_names (va_wsS RX9 120 yX9_head wsX9_head) := goodIn_app (goodIn_of _ (by decide +kernel)) ggX9_names_X9_head
set_option maxRecDepth 20000 in
theorem ggX9_names_X9_isOwn : GoodIn wsX9_names wsX9_isOwn := goodIn_r _ [20, 1, 21, 3, 8, 9, 6, 10, 22, 23, 24, 4, 5, 7, 11, 12, 13, 14, 15, 16, 29, 30, 31, 32, 33, 34, 35, 36, 37, 38, 39, 40, 41, 42, 43, 44, 45, 46, 47, 48, 49, 50, 51, 52, 53, 54, 55, 56, 57, 58, 59, 60, 61, 62, 63, 64, 65] (by decide +kernel) (by decide +kernel)
set_option maxRecDepth 20000 in
theorem gX9_names_X9_isOwn : GoodIn wsX9_names (wsV RX9 175 RX9 yX9_isOwn wsX9_isOwn) := goodIn_app (goodIn_of _ (by decide +kernel)) ggX9_names_X9_isOwn
set_option maxRecDepth 20000 in
theorem ggX9_names_X9_wasAhead : GoodIn wsX9_names wsX9_wasAhead := goodIn_r _ [28, 3, 8, 9, 6, 10, 22, 23, 24, 4, 5, 7, 11, 12, 13, 14, 15, 16, 29, 30, 31, 32, 33, 34, 35, 36, 37, 38, 39, 40, 41, 42, 43, 44, 45, 46, 47, 48, 49, 50, 51, 52, 53, 54, 55, 56, 57, 58, 59, 60, 61, 62, 63, 64, 65] (by decide +kernel) (by decide +kernel)
set_option maxRecDepth 20000 in
theorem gX9_names_X9_wasAhead : GoodIn wsX9_names (wsV RX9 178 RX9 yX9_wasAhead wsX9_wasAhead) := goodIn_app (goodIn_of _ (by decide +kernel)) ggX9_names_X9_wasAhead
theorem dX9_names_0 : decode cX9_names 0 = .ok (.iconst 0, 1) := by decide +kernel
theorem dX9_names_1 : decode cX9_names 1 = .ok (.istore_n 2, 1) := by decide +kernel
theorem dX9_names_2 : decode cX9_names 2 = .ok (.bipush 32, 2) := by decide +kernel
theorem dX9_names_4 : decode cX9_names 4 = .ok (.iload_n 1, 1) := by decide +kernel
theorem dX9_names_5 : decode cX9_names 5 = .ok (.imul, 1) := by decide +kernel
theorem dX9_names_6 : decode cX9_names 6 = .ok (.istore_n 3, 1) := by decide +kernel
theorem dX9_names_7 : decode cX9_names 7 = .ok (.iload_n 3, 1) := by decide +kernel
theorem dX9_names_8 : decode cX9_names 8 = .ok (.bipush 32, 2) := by decide +kernel
theorem dX9_names_10 : decode cX9_names 10 = .ok (.iload_n 1, 1) := by decide +kernel
theorem dX9_names_11 : decode cX9_names 11 = .ok (.imul, 1) := by decide +kernel
theorem dX9_names_12 : decode cX9_names 12 = .ok (.aload_n 0, 1) := by decide +kernel
theorem dX9_names_13 : decode cX9_names 13 = .ok (.getfield 42, 3) := by decide +kernel
theorem dX9_names_16 : decode cX9_names 16 = .ok (.iload_n 1, 1) := by decide +kernel
theorem dX9_names_17 : decode cX9_names 17 = .ok (.iaload, 1) := by decide +kernel
theorem dX9_names_18 : decode cX9_names 18 = .ok (.iadd, 1) := by decide +kernel
theorem dX9_names_19 : decode cX9_names 19 = .ok (.if_icmp .ge 88, 3) := by decide +kernel
theorem dX9_names_22 : decode cX9_names 22 = .ok (.aload_n 0, 1) := by decide +kernel
theorem dX9_names_23 : decode cX9_names 23 = .ok (.getfield 13, 3) := by decide +kernel
theorem dX9_names_26 : decode cX9_names 26 = .ok (.iload_n 1, 1) := by decide +kernel
theorem dX9_names_27 : decode cX9_names 27 = .ok (.iaload, 1) := by decide +kernel
theorem dX9_names_28 : decode cX9_names 28 = .ok (.invokestatic 113, 3) := by decide +kernel
theorem dX9_names_31 : decode cX9_names 31 = .ok (.istore 4, 2) := by decide +kernel
theorem dX9_names_33 : decode cX9_names 33 = .ok (.iload 4, 2) := by decide +kernel
theorem dX9_names_35 : decode cX9_names 35 = .ok (.aload_n 0, 1) := by decide +kernel
theorem dX9_names_36 : decode cX9_names 36 = .ok (.getfield 45, 3) := by decide +kernel
theorem dX9_names_39 : decode cX9_names 39 = .ok (.iload_n 3, 1) := by decide +kernel
theorem dX9_names_40 : decode cX9_names 40 = .ok (.iaload, 1) := by decide +kernel
theorem dX9_names_41 : decode cX9_names 41 = .ok (.invokestatic 128, 3) := by decide +kernel
theorem dX9_names_44 : decode cX9_names 44 = .ok (.invokestatic 113, 3) := by decide +kernel
theorem dX9_names_47 : decode cX9_names 47 = .ok (.if_icmp .gt 54, 3) := by decide +kernel
theorem dX9_names_50 : decode cX9_names 50 = .ok (.aload_n 0, 1) := by decide +kernel
theorem dX9_names_51 : decode cX9_names 51 = .ok (.getfield 45, 3) := by decide +kernel
theorem dX9_names_54 : decode cX9_names 54 = .ok (.iload_n 3, 1) := by decide +kernel
theorem dX9_names_55 : decode cX9_names 55 = .ok (.iaload, 1) := by decide +kernel
theorem dX9_names_56 : decode cX9_names 56 = .ok (.invokestatic 128, 3) := by decide +kernel
theorem dX9_names_59 : decode cX9_names 59 = .ok (.iload 4, 2) := by decide +kernel
theorem dX9_names_61 : decode cX9_names 61 = .ok (.invokestatic 120, 3) := by decide +kernel
theorem dX9_names_64 : decode cX9_names 64 = .ok (.istore 5, 2) := by decide +kernel
theorem dX9_names_66 : decode cX9_names 66 = .ok (.iload_n 2, 1) := by decide +kernel
theorem dX9_names_67 : decode cX9_names 67 = .ok (.aload_n 0, 1) := by decide +kernel
theorem dX9_names_68 : decode cX9_names 68 = .ok (.iload_n 1, 1) := by decide +kernel
theorem dX9_names_69 : decode cX9_names 69 = .ok (.iload 5, 2) := by decide +kernel
theorem dX9_names_71 : decode cX9_names 71 = .ok (.invokevirtual 175, 3) := by decide +kernel
theorem dX9_names_74 : decode cX9_names 74 = .ok (.ifCond .eq 18, 3) := by decide +kernel
theorem dX9_names_77 : decode cX9_names 77 = .ok (.aload_n 0, 1) := by decide +kernel
theorem dX9_names_78 : decode cX9_names 78 = .ok (.iload_n 1, 1) := by decide +kernel
theorem dX9_names_79 : decode cX9_names 79 = .ok (.iload_n 3, 1) := by decide +kernel
theorem dX9_names_80 : decode cX9_names 80 = .ok (.iload 5, 2) := by decide +kernel
theorem dX9_names_82 : decode cX9_names 82 = .ok (.invokevirtual 178, 3) := by decide +kernel
theorem dX9_names_85 : decode cX9_names 85 = .ok (.ifCond .ne 7, 3) := by decide +kernel
theorem dX9_names_88 : decode cX9_names 88 = .ok (.iconst 1, 1) := by decide +kernel
theorem dX9_names_89 : decode cX9_names 89 = .ok (.goto 4, 3) := by decide +kernel
theorem dX9_names_92 : decode cX9_names 92 = .ok (.iconst 0, 1) := by decide +kernel
theorem dX9_names_93 : decode cX9_names 93 = .ok (.iadd, 1) := by decide +kernel
theorem dX9_names_94 : decode cX9_names 94 = .ok (.istore_n 2, 1) := by decide +kernel
theorem dX9_names_95 : decode cX9_names 95 = .ok (.iinc 4 1, 3) := by decide +kernel
theorem dX9_names_98 : decode cX9_names 98 = .ok (.goto (-65), 3) := by decide +kernel
theorem dX9_names_101 : decode cX9_names 101 = .ok (.iinc 3 1, 3) := by decide +kernel
theorem dX9_names_104 : decode cX9_names 104 = .ok (.goto (-97), 3) := by decide +kernel
theorem dX9_names_107 : decode cX9_names 107 = .ok (.iload_n 2, 1) := by decide +kernel
theorem dX9_names_108 : decode cX9_names 108 = .ok (.ireturn, 1) := by decide +kernel
set_option maxRecDepth 20000 in
theorem ggX9_wasAhead_X9_base : GoodIn wsX9_wasAhead wsX9_base := goodIn_r _ [5] (by decide +kernel) (by decide +kernel)
set_option maxRecDepth 20000 in
theorem gX9_wasAhead_X9_base : GoodIn wsX9_wasAhead (va_wsS RX9 128 yX9_base wsX9_base) := goodIn_app (goodIn_of _ (by decide +kernel)) ggX9_wasAhead_X9_base
set_option maxRecDepth 20000 in
theorem ggX9_wasAhead_X9_isUnder : GoodIn wsX9_wasAhead wsX9_isUnder := goodIn_r _ [8, 9, 10, 4, 11, 12, 13, 14, 15, 16, 17] (by decide +kernel) (by decide +kernel)
set_option maxRecDepth 20000 in
theorem gX9_wasAhead_X9_isUnder : GoodIn wsX9_wasAhead (va_wsS RX9 124 yX9_isUnder wsX9_isUnder) := goodIn_app (goodIn_of _ (by decide +kernel)) ggX9_wasAhead_X9_isUnder
theorem dX9_wasAhead_0 : decode cX9_wasAhead 0 = .ok (.iconst 0, 1) := by decide +kernel
theorem dX9_wasAhead_1 : decode cX9_wasAhead 1 = .ok (.istore 4, 2) := by decide +kernel
theorem dX9_wasAhead_3 : decode cX9_wasAhead 3 = .ok (.bipush 32, 2) := by decide +kernel
theorem dX9_wasAhead_5 : decode cX9_wasAhead 5 = .ok (.iload_n 1, 1) := by decide +kernel
theorem dX9_wasAhead_6 : decode cX9_wasAhead 6 = .ok (.imul, 1) := by decide +kernel
theorem dX9_wasAhead_7 : decode cX9_wasAhead 7 = .ok (.istore 5, 2) := by decide +kernel
theorem dX9_wasAhead_9 : decode cX9_wasAhead 9 = .ok (.iload 5, 2) := by decide +kernel
theorem dX9_wasAhead_11 : decode cX9_wasAhead 11 = .ok (.iload_n 2, 1) := by decide +kernel
theorem dX9_wasAhead_12 : decode cX9_wasAhead 12 = .ok (.if_icmp .ge 28, 3) := by decide +kernel
theorem dX9_wasAhead_15 : decode cX9_wasAhead 15 = .ok (.iload 4, 2) := by decide +kernel
theorem dX9_wasAhead_17 : decode cX9_wasAhead 17 = .ok (.aload_n 0, 1) := by decide +kernel
theorem dX9_wasAhead_18 : decode cX9_wasAhead 18 = .ok (.getfield 45, 3) := by decide +kernel
theorem dX9_wasAhead_21 : decode cX9_wasAhead 21 = .ok (.iload 5, 2) := by decide +kernel
theorem dX9_wasAhead_23 : decode cX9_wasAhead 23 = .ok (.iaload, 1) := by decide +kernel
theorem dX9_wasAhead_24 : decode cX9_wasAhead 24 = .ok (.invokestatic 128, 3) := by decide +kernel
theorem dX9_wasAhead_27 : decode cX9_wasAhead 27 = .ok (.iload_n 3, 1) := by decide +kernel
theorem dX9_wasAhead_28 : decode cX9_wasAhead 28 = .ok (.invokestatic 124, 3) := by decide +kernel
theorem dX9_wasAhead_31 : decode cX9_wasAhead 31 = .ok (.ior, 1) := by decide +kernel
theorem dX9_wasAhead_32 : decode cX9_wasAhead 32 = .ok (.istore 4, 2) := by decide +kernel
theorem dX9_wasAhead_34 : decode cX9_wasAhead 34 = .ok (.iinc 5 1, 3) := by decide +kernel
theorem dX9_wasAhead_37 : decode cX9_wasAhead 37 = .ok (.goto (-28), 3) := by decide +kernel
theorem dX9_wasAhead_40 : decode cX9_wasAhead 40 = .ok (.iload 4, 2) := by decide +kernel
theorem dX9_wasAhead_42 : decode cX9_wasAhead 42 = .ok (.ireturn, 1) := by decide +kernel
set_option maxRecDepth 20000 in
theorem ggX9_zoneHas_X9_isZone : GoodIn wsX9_zoneHas wsX9_isZone := goodIn_r _ [9, 10, 11, 12, 8, 13, 48, 49, 50, 51, 52, 53, 54, 55, 56, 57, 58, 59, 60, 61, 62, 63, 64, 65, 66, 67, 68, 69, 70, 71, 72, 73, 74, 75, 76, 77, 78, 79, 80, 81, 82, 83, 84] (by decide +kernel) (by decide +kernel)
set_option maxRecDepth 20000 in
theorem gX9_zoneHas_X9_isZone : GoodIn wsX9_zoneHas (wsV RX9 159 RX9 yX9_isZone wsX9_isZone) := goodIn_app (goodIn_of _ (by decide +kernel)) ggX9_zoneHas_X9_isZone
set_option maxRecDepth 20000 in
theorem ggX9_zoneHas_X9_in : GoodIn wsX9_zoneHas wsX9_in := goodIn_r _ [13] (by decide +kernel) (by decide +kernel)
set_option maxRecDepth 20000 in
theorem gX9_zoneHas_X9_in : GoodIn wsX9_zoneHas (va_wsS RX9 102 yX9_in wsX9_in) := goodIn_app (goodIn_of _ (by decide +kernel)) ggX9_zoneHas_X9_in
set_option maxRecDepth 20000 in
theorem ggX9_zoneHas_X9_asked_ : GoodIn wsX9_zoneHas wsX9_asked_ := goodIn_r _ [17, 18, 48, 49, 50, 51, 52, 53, 54, 55, 56, 57, 58, 59, 60, 61, 62, 63, 64, 65, 66, 67, 68, 69, 70, 71, 72, 73, 74, 75, 76, 77, 78, 79, 80, 81, 82, 83, 84] (by decide +kernel) (by decide +kernel)
set_option maxRecDepth 20000 in
theorem gX9_zoneHas_X9_asked_ : GoodIn wsX9_zoneHas (wsV RX9 142 RX9 yX9_asked_ wsX9_asked_) := goodIn_app (goodIn_of _ (by decide +kernel)) ggX9_zoneHas_X9_asked_
set_option maxRecDepth 20000 in
theorem ggX9_zoneHas_X9_names : GoodIn wsX9_zoneHas wsX9_names := goodIn_r _ [22, 3, 1, 23, 24, 25, 8, 26, 27, 28, 29, 30, 31, 32, 33, 34, 35, 36, 37, 38, 39, 40, 41, 42, 43, 44, 45, 46, 47, 48, 49, 50, 51, 52, 53, 54, 55, 56, 57, 58, 59, 60, 61, 62, 63, 64, 65, 66, 67, 68, 69, 70, 71, 72, 73, 74, 75, 76, 77, 78, 79, 80, 81, 82, 83, 84] (by decide +kernel) (by decide +kernel)
set_option maxRecDepth 20000 in
theorem gX9_zoneHas_X9_names : GoodIn wsX9_zoneHas (wsV RX9 181 RX9 yX9_names wsX9_names) := goodIn_app (goodIn_of _ (by decide +kernel)) ggX9_zoneHas_X9_names
theorem dX9_zoneHas_0 : decode cX9_zoneHas 0 = .ok (.aload_n 0, 1) := by decide +kernel
theorem dX9_zoneHas_1 : decode cX9_zoneHas 1 = .ok (.aload_n 0, 1) := by decide +kernel
theorem dX9_zoneHas_2 : decode cX9_zoneHas 2 = .ok (.iload_n 1, 1) := by decide +kernel
theorem dX9_zoneHas_3 : decode cX9_zoneHas 3 = .ok (.invokevirtual 159, 3) := by decide +kernel
theorem dX9_zoneHas_6 : decode cX9_zoneHas 6 = .ok (.iload_n 2, 1) := by decide +kernel
theorem dX9_zoneHas_7 : decode cX9_zoneHas 7 = .ok (.iconst 0, 1) := by decide +kernel
theorem dX9_zoneHas_8 : decode cX9_zoneHas 8 = .ok (.iconst 4, 1) := by decide +kernel
theorem dX9_zoneHas_9 : decode cX9_zoneHas 9 = .ok (.invokestatic 102, 3) := by decide +kernel
theorem dX9_zoneHas_12 : decode cX9_zoneHas 12 = .ok (.invokevirtual 142, 3) := by decide +kernel
theorem dX9_zoneHas_15 : decode cX9_zoneHas 15 = .ok (.ifCond .ne 5, 3) := by decide +kernel
theorem dX9_zoneHas_18 : decode cX9_zoneHas 18 = .ok (.iconst 0, 1) := by decide +kernel
theorem dX9_zoneHas_19 : decode cX9_zoneHas 19 = .ok (.ireturn, 1) := by decide +kernel
theorem dX9_zoneHas_20 : decode cX9_zoneHas 20 = .ok (.iload_n 2, 1) := by decide +kernel
theorem dX9_zoneHas_21 : decode cX9_zoneHas 21 = .ok (.ifCond .ne 12, 3) := by decide +kernel
theorem dX9_zoneHas_24 : decode cX9_zoneHas 24 = .ok (.aload_n 0, 1) := by decide +kernel
theorem dX9_zoneHas_25 : decode cX9_zoneHas 25 = .ok (.getfield 13, 3) := by decide +kernel
theorem dX9_zoneHas_28 : decode cX9_zoneHas 28 = .ok (.iload_n 1, 1) := by decide +kernel
theorem dX9_zoneHas_29 : decode cX9_zoneHas 29 = .ok (.iaload, 1) := by decide +kernel
theorem dX9_zoneHas_30 : decode cX9_zoneHas 30 = .ok (.goto 50, 3) := by decide +kernel
theorem dX9_zoneHas_33 : decode cX9_zoneHas 33 = .ok (.iload_n 2, 1) := by decide +kernel
theorem dX9_zoneHas_34 : decode cX9_zoneHas 34 = .ok (.iconst 1, 1) := by decide +kernel
theorem dX9_zoneHas_35 : decode cX9_zoneHas 35 = .ok (.if_icmp .ne 12, 3) := by decide +kernel
theorem dX9_zoneHas_38 : decode cX9_zoneHas 38 = .ok (.aload_n 0, 1) := by decide +kernel
theorem dX9_zoneHas_39 : decode cX9_zoneHas 39 = .ok (.getfield 20, 3) := by decide +kernel
theorem dX9_zoneHas_42 : decode cX9_zoneHas 42 = .ok (.iload_n 1, 1) := by decide +kernel
theorem dX9_zoneHas_43 : decode cX9_zoneHas 43 = .ok (.iaload, 1) := by decide +kernel
theorem dX9_zoneHas_44 : decode cX9_zoneHas 44 = .ok (.goto 36, 3) := by decide +kernel
theorem dX9_zoneHas_47 : decode cX9_zoneHas 47 = .ok (.iload_n 2, 1) := by decide +kernel
theorem dX9_zoneHas_48 : decode cX9_zoneHas 48 = .ok (.iconst 2, 1) := by decide +kernel
theorem dX9_zoneHas_49 : decode cX9_zoneHas 49 = .ok (.if_icmp .ne 12, 3) := by decide +kernel
theorem dX9_zoneHas_52 : decode cX9_zoneHas 52 = .ok (.aload_n 0, 1) := by decide +kernel
theorem dX9_zoneHas_53 : decode cX9_zoneHas 53 = .ok (.getfield 42, 3) := by decide +kernel
theorem dX9_zoneHas_56 : decode cX9_zoneHas 56 = .ok (.iload_n 1, 1) := by decide +kernel
theorem dX9_zoneHas_57 : decode cX9_zoneHas 57 = .ok (.iaload, 1) := by decide +kernel
theorem dX9_zoneHas_58 : decode cX9_zoneHas 58 = .ok (.goto 22, 3) := by decide +kernel
theorem dX9_zoneHas_61 : decode cX9_zoneHas 61 = .ok (.iload_n 2, 1) := by decide +kernel
theorem dX9_zoneHas_62 : decode cX9_zoneHas 62 = .ok (.iconst 3, 1) := by decide +kernel
theorem dX9_zoneHas_63 : decode cX9_zoneHas 63 = .ok (.if_icmp .ne 12, 3) := by decide +kernel
theorem dX9_zoneHas_66 : decode cX9_zoneHas 66 = .ok (.aload_n 0, 1) := by decide +kernel
theorem dX9_zoneHas_67 : decode cX9_zoneHas 67 = .ok (.getfield 23, 3) := by decide +kernel
theorem dX9_zoneHas_70 : decode cX9_zoneHas 70 = .ok (.iload_n 1, 1) := by decide +kernel
theorem dX9_zoneHas_71 : decode cX9_zoneHas 71 = .ok (.iaload, 1) := by decide +kernel
theorem dX9_zoneHas_72 : decode cX9_zoneHas 72 = .ok (.goto 8, 3) := by decide +kernel
theorem dX9_zoneHas_75 : decode cX9_zoneHas 75 = .ok (.aload_n 0, 1) := by decide +kernel
theorem dX9_zoneHas_76 : decode cX9_zoneHas 76 = .ok (.iload_n 1, 1) := by decide +kernel
theorem dX9_zoneHas_77 : decode cX9_zoneHas 77 = .ok (.invokevirtual 181, 3) := by decide +kernel
theorem dX9_zoneHas_80 : decode cX9_zoneHas 80 = .ok (.ireturn, 1) := by decide +kernel
set_option maxRecDepth 20000 in
theorem ggX9_record_X9_isZone : GoodIn wsX9_record wsX9_isZone := goodIn_r _ [6, 7, 8, 9, 5, 10, 32, 33, 34, 35, 36, 37, 38, 39, 40, 41, 42, 43, 44, 45, 46, 47, 48, 49, 50, 51, 52, 53, 54, 55, 56, 57, 58, 59, 60, 61, 62, 63, 64, 65, 66, 67, 68] (by decide +kernel) (by decide +kernel)
set_option maxRecDepth 20000 in
theorem gX9_record_X9_isZone : GoodIn wsX9_record (wsV RX9 159 RX9 yX9_isZone wsX9_isZone) := goodIn_app (goodIn_of _ (by decide +kernel)) ggX9_record_X9_isZone
set_option maxRecDepth 20000 in
theorem ggX9_record_X9_isPlace : GoodIn wsX9_record wsX9_isPlace := goodIn_r _ [13, 14, 15, 5, 16, 8, 9, 10, 17, 18, 19] (by decide +kernel) (by decide +kernel)
set_option maxRecDepth 20000 in
theorem gX9_record_X9_isPlace : GoodIn wsX9_record (va_wsS RX9 146 yX9_isPlace wsX9_isPlace) := goodIn_app (goodIn_of _ (by decide +kernel)) ggX9_record_X9_isPlace
set_option maxRecDepth 20000 in
theorem ggX9_record_X9_in : GoodIn wsX9_record wsX9_in := goodIn_r _ [10] (by decide +kernel) (by decide +kernel)
set_option maxRecDepth 20000 in
theorem gX9_record_X9_in : GoodIn wsX9_record (va_wsS RX9 102 yX9_in wsX9_in) := goodIn_app (goodIn_of _ (by decide +kernel)) ggX9_record_X9_in
set_option maxRecDepth 20000 in
theorem ggX9_record_X9_asked_ : GoodIn wsX9_record wsX9_asked_ := goodIn_r _ [23, 24, 32, 33, 34, 35, 36, 37, 38, 39, 40, 41, 42, 43, 44, 45, 46, 47, 48, 49, 50, 51, 52, 53, 54, 55, 56, 57, 58, 59, 60, 61, 62, 63, 64, 65, 66, 67, 68] (by decide +kernel) (by decide +kernel)
set_option maxRecDepth 20000 in
theorem gX9_record_X9_asked_ : GoodIn wsX9_record (wsV RX9 142 RX9 yX9_asked_ wsX9_asked_) := goodIn_app (goodIn_of _ (by decide +kernel)) ggX9_record_X9_asked_
set_option maxRecDepth 20000 in
theorem ggX9_record_X9_find : GoodIn wsX9_record wsX9_find := goodIn_r _ [28, 29, 30, 31, 32, 33, 34, 35, 36, 37, 38, 39, 40, 41, 42, 43, 44, 45, 46, 47, 48, 49, 50, 51, 52, 53, 54, 55, 56, 57, 58, 59, 60, 61, 62, 63, 64, 65, 66, 67, 68] (by decide +kernel) (by decide +kernel)
set_option maxRecDepth 20000 in
theorem gX9_record_X9_find : GoodIn wsX9_record (wsV RX9 135 RX9 yX9_find wsX9_find) := goodIn_app (goodIn_of _ (by decide +kernel)) ggX9_record_X9_find
theorem dX9_record_0 : decode cX9_record 0 = .ok (.aload_n 0, 1) := by decide +kernel
theorem dX9_record_1 : decode cX9_record 1 = .ok (.aload_n 0, 1) := by decide +kernel
theorem dX9_record_2 : decode cX9_record 2 = .ok (.iload_n 1, 1) := by decide +kernel
theorem dX9_record_3 : decode cX9_record 3 = .ok (.invokevirtual 159, 3) := by decide +kernel
theorem dX9_record_6 : decode cX9_record 6 = .ok (.iload_n 2, 1) := by decide +kernel
theorem dX9_record_7 : decode cX9_record 7 = .ok (.invokestatic 146, 3) := by decide +kernel
theorem dX9_record_10 : decode cX9_record 10 = .ok (.ifCond .eq 16, 3) := by decide +kernel
theorem dX9_record_13 : decode cX9_record 13 = .ok (.iload_n 3, 1) := by decide +kernel
theorem dX9_record_14 : decode cX9_record 14 = .ok (.iconst 0, 1) := by decide +kernel
theorem dX9_record_15 : decode cX9_record 15 = .ok (.iconst 4, 1) := by decide +kernel
theorem dX9_record_16 : decode cX9_record 16 = .ok (.invokestatic 102, 3) := by decide +kernel
theorem dX9_record_19 : decode cX9_record 19 = .ok (.ifCond .eq 7, 3) := by decide +kernel
theorem dX9_record_22 : decode cX9_record 22 = .ok (.iconst 1, 1) := by decide +kernel
theorem dX9_record_23 : decode cX9_record 23 = .ok (.goto 4, 3) := by decide +kernel
theorem dX9_record_26 : decode cX9_record 26 = .ok (.iconst 0, 1) := by decide +kernel
theorem dX9_record_27 : decode cX9_record 27 = .ok (.invokevirtual 142, 3) := by decide +kernel
theorem dX9_record_30 : decode cX9_record 30 = .ok (.ifCond .ne 5, 3) := by decide +kernel
theorem dX9_record_33 : decode cX9_record 33 = .ok (.iconst 0, 1) := by decide +kernel
theorem dX9_record_34 : decode cX9_record 34 = .ok (.ireturn, 1) := by decide +kernel
theorem dX9_record_35 : decode cX9_record 35 = .ok (.aload_n 0, 1) := by decide +kernel
theorem dX9_record_36 : decode cX9_record 36 = .ok (.iload_n 1, 1) := by decide +kernel
theorem dX9_record_37 : decode cX9_record 37 = .ok (.iload_n 2, 1) := by decide +kernel
theorem dX9_record_38 : decode cX9_record 38 = .ok (.iload_n 3, 1) := by decide +kernel
theorem dX9_record_39 : decode cX9_record 39 = .ok (.invokevirtual 135, 3) := by decide +kernel
theorem dX9_record_42 : decode cX9_record 42 = .ok (.istore 4, 2) := by decide +kernel
theorem dX9_record_44 : decode cX9_record 44 = .ok (.iload 4, 2) := by decide +kernel
theorem dX9_record_46 : decode cX9_record 46 = .ok (.iconst (-1), 1) := by decide +kernel
theorem dX9_record_47 : decode cX9_record 47 = .ok (.if_icmp .ne 7, 3) := by decide +kernel
theorem dX9_record_50 : decode cX9_record 50 = .ok (.iconst (-1), 1) := by decide +kernel
theorem dX9_record_51 : decode cX9_record 51 = .ok (.goto 10, 3) := by decide +kernel
theorem dX9_record_54 : decode cX9_record 54 = .ok (.aload_n 0, 1) := by decide +kernel
theorem dX9_record_55 : decode cX9_record 55 = .ok (.getfield 51, 3) := by decide +kernel
theorem dX9_record_58 : decode cX9_record 58 = .ok (.iload 4, 2) := by decide +kernel
theorem dX9_record_60 : decode cX9_record 60 = .ok (.iaload, 1) := by decide +kernel
theorem dX9_record_61 : decode cX9_record 61 = .ok (.ireturn, 1) := by decide +kernel
set_option maxRecDepth 20000 in
theorem ggX9_unlike_X9_find : GoodIn wsX9_unlike wsX9_find := goodIn_r _ [10, 1, 2, 3, 11, 12, 13, 14, 15, 16, 17, 18, 19, 20, 21, 22, 23, 24, 25, 26, 27, 28, 29, 30, 31, 32, 33, 34, 35, 36, 37, 38, 39, 40, 41, 42, 43, 44, 45, 46, 47] (by decide +kernel) (by decide +kernel)
set_option maxRecDepth 20000 in
theorem gX9_unlike_X9_find : GoodIn wsX9_unlike (wsV RX9 135 RX9 yX9_find wsX9_find) := goodIn_app (goodIn_of _ (by decide +kernel)) ggX9_unlike_X9_find
theorem dX9_unlike_0 : decode cX9_unlike 0 = .ok (.iconst 0, 1) := by decide +kernel
theorem dX9_unlike_1 : decode cX9_unlike 1 = .ok (.istore_n 3, 1) := by decide +kernel
theorem dX9_unlike_2 : decode cX9_unlike 2 = .ok (.bipush 32, 2) := by decide +kernel
theorem dX9_unlike_4 : decode cX9_unlike 4 = .ok (.iload_n 1, 1) := by decide +kernel
theorem dX9_unlike_5 : decode cX9_unlike 5 = .ok (.imul, 1) := by decide +kernel
theorem dX9_unlike_6 : decode cX9_unlike 6 = .ok (.istore 4, 2) := by decide +kernel
theorem dX9_unlike_8 : decode cX9_unlike 8 = .ok (.iload 4, 2) := by decide +kernel
theorem dX9_unlike_10 : decode cX9_unlike 10 = .ok (.bipush 32, 2) := by decide +kernel
theorem dX9_unlike_12 : decode cX9_unlike 12 = .ok (.iload_n 1, 1) := by decide +kernel
theorem dX9_unlike_13 : decode cX9_unlike 13 = .ok (.imul, 1) := by decide +kernel
theorem dX9_unlike_14 : decode cX9_unlike 14 = .ok (.aload_n 0, 1) := by decide +kernel
theorem dX9_unlike_15 : decode cX9_unlike 15 = .ok (.getfield 42, 3) := by decide +kernel
theorem dX9_unlike_18 : decode cX9_unlike 18 = .ok (.iload_n 1, 1) := by decide +kernel
theorem dX9_unlike_19 : decode cX9_unlike 19 = .ok (.iaload, 1) := by decide +kernel
theorem dX9_unlike_20 : decode cX9_unlike 20 = .ok (.iadd, 1) := by decide +kernel
theorem dX9_unlike_21 : decode cX9_unlike 21 = .ok (.if_icmp .ge 78, 3) := by decide +kernel
theorem dX9_unlike_24 : decode cX9_unlike 24 = .ok (.aload_n 0, 1) := by decide +kernel
theorem dX9_unlike_25 : decode cX9_unlike 25 = .ok (.iload_n 2, 1) := by decide +kernel
theorem dX9_unlike_26 : decode cX9_unlike 26 = .ok (.aload_n 0, 1) := by decide +kernel
theorem dX9_unlike_27 : decode cX9_unlike 27 = .ok (.getfield 45, 3) := by decide +kernel
theorem dX9_unlike_30 : decode cX9_unlike 30 = .ok (.iload 4, 2) := by decide +kernel
theorem dX9_unlike_32 : decode cX9_unlike 32 = .ok (.iaload, 1) := by decide +kernel
theorem dX9_unlike_33 : decode cX9_unlike 33 = .ok (.aload_n 0, 1) := by decide +kernel
theorem dX9_unlike_34 : decode cX9_unlike 34 = .ok (.getfield 48, 3) := by decide +kernel
theorem dX9_unlike_37 : decode cX9_unlike 37 = .ok (.iload 4, 2) := by decide +kernel
theorem dX9_unlike_39 : decode cX9_unlike 39 = .ok (.iaload, 1) := by decide +kernel
theorem dX9_unlike_40 : decode cX9_unlike 40 = .ok (.invokevirtual 135, 3) := by decide +kernel
theorem dX9_unlike_43 : decode cX9_unlike 43 = .ok (.istore 5, 2) := by decide +kernel
theorem dX9_unlike_45 : decode cX9_unlike 45 = .ok (.iload_n 3, 1) := by decide +kernel
theorem dX9_unlike_46 : decode cX9_unlike 46 = .ok (.iload 5, 2) := by decide +kernel
theorem dX9_unlike_48 : decode cX9_unlike 48 = .ok (.iconst (-1), 1) := by decide +kernel
theorem dX9_unlike_49 : decode cX9_unlike 49 = .ok (.if_icmp .eq 37, 3) := by decide +kernel
theorem dX9_unlike_52 : decode cX9_unlike 52 = .ok (.aload_n 0, 1) := by decide +kernel
theorem dX9_unlike_53 : decode cX9_unlike 53 = .ok (.getfield 51, 3) := by decide +kernel
theorem dX9_unlike_56 : decode cX9_unlike 56 = .ok (.iload 5, 2) := by decide +kernel
theorem dX9_unlike_58 : decode cX9_unlike 58 = .ok (.iaload, 1) := by decide +kernel
theorem dX9_unlike_59 : decode cX9_unlike 59 = .ok (.aload_n 0, 1) := by decide +kernel
theorem dX9_unlike_60 : decode cX9_unlike 60 = .ok (.getfield 51, 3) := by decide +kernel
theorem dX9_unlike_63 : decode cX9_unlike 63 = .ok (.iload 4, 2) := by decide +kernel
theorem dX9_unlike_65 : decode cX9_unlike 65 = .ok (.iaload, 1) := by decide +kernel
theorem dX9_unlike_66 : decode cX9_unlike 66 = .ok (.if_icmp .ne 20, 3) := by decide +kernel
theorem dX9_unlike_69 : decode cX9_unlike 69 = .ok (.aload_n 0, 1) := by decide +kernel
theorem dX9_unlike_70 : decode cX9_unlike 70 = .ok (.getfield 54, 3) := by decide +kernel
theorem dX9_unlike_73 : decode cX9_unlike 73 = .ok (.iload 5, 2) := by decide +kernel
theorem dX9_unlike_75 : decode cX9_unlike 75 = .ok (.iaload, 1) := by decide +kernel
theorem dX9_unlike_76 : decode cX9_unlike 76 = .ok (.aload_n 0, 1) := by decide +kernel
theorem dX9_unlike_77 : decode cX9_unlike 77 = .ok (.getfield 54, 3) := by decide +kernel
theorem dX9_unlike_80 : decode cX9_unlike 80 = .ok (.iload 4, 2) := by decide +kernel
theorem dX9_unlike_82 : decode cX9_unlike 82 = .ok (.iaload, 1) := by decide +kernel
theorem dX9_unlike_83 : decode cX9_unlike 83 = .ok (.if_icmp .eq 7, 3) := by decide +kernel
theorem dX9_unlike_86 : decode cX9_unlike 86 = .ok (.iconst 1, 1) := by decide +kernel
theorem dX9_unlike_87 : decode cX9_unlike 87 = .ok (.goto 4, 3) := by decide +kernel
theorem dX9_unlike_90 : decode cX9_unlike 90 = .ok (.iconst 0, 1) := by decide +kernel
theorem dX9_unlike_91 : decode cX9_unlike 91 = .ok (.iadd, 1) := by decide +kernel
theorem dX9_unlike_92 : decode cX9_unlike 92 = .ok (.istore_n 3, 1) := by decide +kernel
theorem dX9_unlike_93 : decode cX9_unlike 93 = .ok (.iinc 4 1, 3) := by decide +kernel
theorem dX9_unlike_96 : decode cX9_unlike 96 = .ok (.goto (-88), 3) := by decide +kernel
theorem dX9_unlike_99 : decode cX9_unlike 99 = .ok (.iload_n 3, 1) := by decide +kernel
theorem dX9_unlike_100 : decode cX9_unlike 100 = .ok (.ireturn, 1) := by decide +kernel
set_option maxRecDepth 20000 in
theorem ggX9_bringUp_X9_isZone : GoodIn wsX9_bringUp wsX9_isZone := goodIn_r _ [8, 9, 10, 11, 7, 12, 38, 39, 40, 41, 42, 43, 44, 45, 46, 47, 48, 49, 50, 51, 52, 53, 54, 55, 56, 57, 58, 59, 60, 61, 62, 63, 64, 65, 66, 67, 68, 69, 70, 71, 72, 73, 74] (by decide +kernel) (by decide +kernel)
set_option maxRecDepth 20000 in
theorem gX9_bringUp_X9_isZone : GoodIn wsX9_bringUp (wsV RX9 159 RX9 yX9_isZone wsX9_isZone) := goodIn_app (goodIn_of _ (by decide +kernel)) ggX9_bringUp_X9_isZone
set_option maxRecDepth 20000 in
theorem ggX9_bringUp_X9_asked : GoodIn wsX9_bringUp wsX9_asked := goodIn_r _ [16, 17, 38, 39, 40, 41, 42, 43, 44, 45, 46, 47, 48, 49, 50, 51, 52, 53, 54, 55, 56, 57, 58, 59, 60, 61, 62, 63, 64, 65, 66, 67, 68, 69, 70, 71, 72, 73, 74] (by decide +kernel) (by decide +kernel)
set_option maxRecDepth 20000 in
theorem gX9_bringUp_X9_asked : GoodIn wsX9_bringUp (wsV RX9 162 RX9 yX9_asked wsX9_asked) := goodIn_app (goodIn_of _ (by decide +kernel)) ggX9_bringUp_X9_asked
set_option maxRecDepth 20000 in
theorem ggX9_bringUp_X9_unlike : GoodIn wsX9_bringUp wsX9_unlike := goodIn_r _ [21, 3, 22, 23, 24, 25, 26, 27, 28, 7, 29, 38, 39, 40, 41, 42, 43, 44, 45, 46, 47, 48, 49, 50, 51, 52, 53, 54, 55, 56, 57, 58, 59, 60, 61, 62, 63, 64, 65, 66, 67, 68, 69, 70, 71, 72, 73, 74] (by decide +kernel) (by decide +kernel)
set_option maxRecDepth 20000 in
theorem gX9_bringUp_X9_unlike : GoodIn wsX9_bringUp (wsV RX9 184 RX9 yX9_unlike wsX9_unlike) := goodIn_app (goodIn_of _ (by decide +kernel)) ggX9_bringUp_X9_unlike
set_option maxRecDepth 20000 in
theorem ggX9_bringUp_X9_copies : GoodIn wsX9_bringUp wsX9_copies := goodIn_r _ [33, 3, 22, 23, 24, 25, 34, 35, 36, 7, 37, 38, 39, 40, 41, 42, 43, 44, 45, 46, 47, 48, 49, 50, 51, 52, 53, 54, 55, 56, 57, 58, 59, 60, 61, 62, 63, 64, 65, 66, 67, 68, 69, 70, 71, 72, 73, 74] (by decide +kernel) (by decide +kernel)
set_option maxRecDepth 20000 in
theorem gX9_bringUp_X9_copies : GoodIn wsX9_bringUp (wsV RX9 165 RX9 yX9_copies wsX9_copies) := goodIn_app (goodIn_of _ (by decide +kernel)) ggX9_bringUp_X9_copies
theorem dX9_bringUp_0 : decode cX9_bringUp 0 = .ok (.aload_n 0, 1) := by decide +kernel
theorem dX9_bringUp_1 : decode cX9_bringUp 1 = .ok (.aload_n 0, 1) := by decide +kernel
theorem dX9_bringUp_2 : decode cX9_bringUp 2 = .ok (.iload_n 1, 1) := by decide +kernel
theorem dX9_bringUp_3 : decode cX9_bringUp 3 = .ok (.invokevirtual 159, 3) := by decide +kernel
theorem dX9_bringUp_6 : decode cX9_bringUp 6 = .ok (.invokevirtual 162, 3) := by decide +kernel
theorem dX9_bringUp_9 : decode cX9_bringUp 9 = .ok (.ifCond .ne 5, 3) := by decide +kernel
theorem dX9_bringUp_12 : decode cX9_bringUp 12 = .ok (.iconst 0, 1) := by decide +kernel
theorem dX9_bringUp_13 : decode cX9_bringUp 13 = .ok (.ireturn, 1) := by decide +kernel
theorem dX9_bringUp_14 : decode cX9_bringUp 14 = .ok (.aload_n 0, 1) := by decide +kernel
theorem dX9_bringUp_15 : decode cX9_bringUp 15 = .ok (.getfield 20, 3) := by decide +kernel
theorem dX9_bringUp_18 : decode cX9_bringUp 18 = .ok (.iload_n 1, 1) := by decide +kernel
theorem dX9_bringUp_19 : decode cX9_bringUp 19 = .ok (.iaload, 1) := by decide +kernel
theorem dX9_bringUp_20 : decode cX9_bringUp 20 = .ok (.aload_n 0, 1) := by decide +kernel
theorem dX9_bringUp_21 : decode cX9_bringUp 21 = .ok (.getfield 23, 3) := by decide +kernel
theorem dX9_bringUp_24 : decode cX9_bringUp 24 = .ok (.iload_n 1, 1) := by decide +kernel
theorem dX9_bringUp_25 : decode cX9_bringUp 25 = .ok (.iaload, 1) := by decide +kernel
theorem dX9_bringUp_26 : decode cX9_bringUp 26 = .ok (.isub, 1) := by decide +kernel
theorem dX9_bringUp_27 : decode cX9_bringUp 27 = .ok (.bipush 16, 2) := by decide +kernel
theorem dX9_bringUp_29 : decode cX9_bringUp 29 = .ok (.iadd, 1) := by decide +kernel
theorem dX9_bringUp_30 : decode cX9_bringUp 30 = .ok (.bipush 16, 2) := by decide +kernel
theorem dX9_bringUp_32 : decode cX9_bringUp 32 = .ok (.irem, 1) := by decide +kernel
theorem dX9_bringUp_33 : decode cX9_bringUp 33 = .ok (.istore_n 2, 1) := by decide +kernel
theorem dX9_bringUp_34 : decode cX9_bringUp 34 = .ok (.aload_n 0, 1) := by decide +kernel
theorem dX9_bringUp_35 : decode cX9_bringUp 35 = .ok (.getfield 23, 3) := by decide +kernel
theorem dX9_bringUp_38 : decode cX9_bringUp 38 = .ok (.iload_n 1, 1) := by decide +kernel
theorem dX9_bringUp_39 : decode cX9_bringUp 39 = .ok (.iaload, 1) := by decide +kernel
theorem dX9_bringUp_40 : decode cX9_bringUp 40 = .ok (.iconst (-1), 1) := by decide +kernel
theorem dX9_bringUp_41 : decode cX9_bringUp 41 = .ok (.if_icmp .eq 9, 3) := by decide +kernel
theorem dX9_bringUp_44 : decode cX9_bringUp 44 = .ok (.iload_n 2, 1) := by decide +kernel
theorem dX9_bringUp_45 : decode cX9_bringUp 45 = .ok (.ifCond .ne 5, 3) := by decide +kernel
theorem dX9_bringUp_48 : decode cX9_bringUp 48 = .ok (.iconst 0, 1) := by decide +kernel
theorem dX9_bringUp_49 : decode cX9_bringUp 49 = .ok (.ireturn, 1) := by decide +kernel
theorem dX9_bringUp_50 : decode cX9_bringUp 50 = .ok (.aload_n 0, 1) := by decide +kernel
theorem dX9_bringUp_51 : decode cX9_bringUp 51 = .ok (.getfield 23, 3) := by decide +kernel
theorem dX9_bringUp_54 : decode cX9_bringUp 54 = .ok (.iload_n 1, 1) := by decide +kernel
theorem dX9_bringUp_55 : decode cX9_bringUp 55 = .ok (.iaload, 1) := by decide +kernel
theorem dX9_bringUp_56 : decode cX9_bringUp 56 = .ok (.iconst (-1), 1) := by decide +kernel
theorem dX9_bringUp_57 : decode cX9_bringUp 57 = .ok (.if_icmp .eq 12, 3) := by decide +kernel
theorem dX9_bringUp_60 : decode cX9_bringUp 60 = .ok (.iload_n 2, 1) := by decide +kernel
theorem dX9_bringUp_61 : decode cX9_bringUp 61 = .ok (.iconst 4, 1) := by decide +kernel
theorem dX9_bringUp_62 : decode cX9_bringUp 62 = .ok (.if_icmp .gt 7, 3) := by decide +kernel
theorem dX9_bringUp_65 : decode cX9_bringUp 65 = .ok (.iconst 1, 1) := by decide +kernel
theorem dX9_bringUp_66 : decode cX9_bringUp 66 = .ok (.goto 4, 3) := by decide +kernel
theorem dX9_bringUp_69 : decode cX9_bringUp 69 = .ok (.iconst 0, 1) := by decide +kernel
theorem dX9_bringUp_70 : decode cX9_bringUp 70 = .ok (.istore_n 3, 1) := by decide +kernel
theorem dX9_bringUp_71 : decode cX9_bringUp 71 = .ok (.iload_n 3, 1) := by decide +kernel
theorem dX9_bringUp_72 : decode cX9_bringUp 72 = .ok (.ifCond .eq 25, 3) := by decide +kernel
theorem dX9_bringUp_75 : decode cX9_bringUp 75 = .ok (.aload_n 0, 1) := by decide +kernel
theorem dX9_bringUp_76 : decode cX9_bringUp 76 = .ok (.iload_n 1, 1) := by decide +kernel
theorem dX9_bringUp_77 : decode cX9_bringUp 77 = .ok (.bipush 6, 2) := by decide +kernel
theorem dX9_bringUp_79 : decode cX9_bringUp 79 = .ok (.iload_n 1, 1) := by decide +kernel
theorem dX9_bringUp_80 : decode cX9_bringUp 80 = .ok (.iadd, 1) := by decide +kernel
theorem dX9_bringUp_81 : decode cX9_bringUp 81 = .ok (.invokevirtual 184, 3) := by decide +kernel
theorem dX9_bringUp_84 : decode cX9_bringUp 84 = .ok (.aload_n 0, 1) := by decide +kernel
theorem dX9_bringUp_85 : decode cX9_bringUp 85 = .ok (.bipush 6, 2) := by decide +kernel
theorem dX9_bringUp_87 : decode cX9_bringUp 87 = .ok (.iload_n 1, 1) := by decide +kernel
theorem dX9_bringUp_88 : decode cX9_bringUp 88 = .ok (.iadd, 1) := by decide +kernel
theorem dX9_bringUp_89 : decode cX9_bringUp 89 = .ok (.iload_n 1, 1) := by decide +kernel
theorem dX9_bringUp_90 : decode cX9_bringUp 90 = .ok (.invokevirtual 184, 3) := by decide +kernel
theorem dX9_bringUp_93 : decode cX9_bringUp 93 = .ok (.iadd, 1) := by decide +kernel
theorem dX9_bringUp_94 : decode cX9_bringUp 94 = .ok (.goto 9, 3) := by decide +kernel
theorem dX9_bringUp_97 : decode cX9_bringUp 97 = .ok (.aload_n 0, 1) := by decide +kernel
theorem dX9_bringUp_98 : decode cX9_bringUp 98 = .ok (.getfield 42, 3) := by decide +kernel
theorem dX9_bringUp_101 : decode cX9_bringUp 101 = .ok (.iload_n 1, 1) := by decide +kernel
theorem dX9_bringUp_102 : decode cX9_bringUp 102 = .ok (.iaload, 1) := by decide +kernel
theorem dX9_bringUp_103 : decode cX9_bringUp 103 = .ok (.istore 4, 2) := by decide +kernel
theorem dX9_bringUp_105 : decode cX9_bringUp 105 = .ok (.aload_n 0, 1) := by decide +kernel
theorem dX9_bringUp_106 : decode cX9_bringUp 106 = .ok (.iload_n 1, 1) := by decide +kernel
theorem dX9_bringUp_107 : decode cX9_bringUp 107 = .ok (.bipush 6, 2) := by decide +kernel
theorem dX9_bringUp_109 : decode cX9_bringUp 109 = .ok (.iload_n 1, 1) := by decide +kernel
theorem dX9_bringUp_110 : decode cX9_bringUp 110 = .ok (.iadd, 1) := by decide +kernel
theorem dX9_bringUp_111 : decode cX9_bringUp 111 = .ok (.invokevirtual 165, 3) := by decide +kernel
theorem dX9_bringUp_114 : decode cX9_bringUp 114 = .ok (.aload_n 0, 1) := by decide +kernel
theorem dX9_bringUp_115 : decode cX9_bringUp 115 = .ok (.getfield 23, 3) := by decide +kernel
theorem dX9_bringUp_118 : decode cX9_bringUp 118 = .ok (.iload_n 1, 1) := by decide +kernel
theorem dX9_bringUp_119 : decode cX9_bringUp 119 = .ok (.aload_n 0, 1) := by decide +kernel
theorem dX9_bringUp_120 : decode cX9_bringUp 120 = .ok (.getfield 20, 3) := by decide +kernel
theorem dX9_bringUp_123 : decode cX9_bringUp 123 = .ok (.iload_n 1, 1) := by decide +kernel
theorem dX9_bringUp_124 : decode cX9_bringUp 124 = .ok (.iaload, 1) := by decide +kernel
theorem dX9_bringUp_125 : decode cX9_bringUp 125 = .ok (.iastore, 1) := by decide +kernel
theorem dX9_bringUp_126 : decode cX9_bringUp 126 = .ok (.iload 4, 2) := by decide +kernel
theorem dX9_bringUp_128 : decode cX9_bringUp 128 = .ok (.ireturn, 1) := by decide +kernel
set_option maxRecDepth 20000 in
theorem ggX9_setDead_X9_isZone : GoodIn wsX9_setDead wsX9_isZone := goodIn_r _ [6, 7, 8, 9, 5, 10, 16, 17, 18, 19, 20, 21, 22, 23, 24, 25, 26, 27, 28, 29, 30, 31, 32, 33, 34, 35, 36, 37, 38, 39, 40, 41, 42, 43, 44, 45, 46, 47, 48, 49, 50, 51, 52] (by decide +kernel) (by decide +kernel)
set_option maxRecDepth 20000 in
theorem gX9_setDead_X9_isZone : GoodIn wsX9_setDead (wsV RX9 159 RX9 yX9_isZone wsX9_isZone) := goodIn_app (goodIn_of _ (by decide +kernel)) ggX9_setDead_X9_isZone
set_option maxRecDepth 20000 in
theorem ggX9_setDead_X9_asked : GoodIn wsX9_setDead wsX9_asked := goodIn_r _ [14, 15, 16, 17, 18, 19, 20, 21, 22, 23, 24, 25, 26, 27, 28, 29, 30, 31, 32, 33, 34, 35, 36, 37, 38, 39, 40, 41, 42, 43, 44, 45, 46, 47, 48, 49, 50, 51, 52] (by decide +kernel) (by decide +kernel)
set_option maxRecDepth 20000 in
theorem gX9_setDead_X9_asked : GoodIn wsX9_setDead (wsV RX9 162 RX9 yX9_asked wsX9_asked) := goodIn_app (goodIn_of _ (by decide +kernel)) ggX9_setDead_X9_asked
theorem dX9_setDead_0 : decode cX9_setDead 0 = .ok (.aload_n 0, 1) := by decide +kernel
theorem dX9_setDead_1 : decode cX9_setDead 1 = .ok (.aload_n 0, 1) := by decide +kernel
theorem dX9_setDead_2 : decode cX9_setDead 2 = .ok (.iload_n 1, 1) := by decide +kernel
theorem dX9_setDead_3 : decode cX9_setDead 3 = .ok (.invokevirtual 159, 3) := by decide +kernel
theorem dX9_setDead_6 : decode cX9_setDead 6 = .ok (.invokevirtual 162, 3) := by decide +kernel
theorem dX9_setDead_9 : decode cX9_setDead 9 = .ok (.ifCond .eq 10, 3) := by decide +kernel
theorem dX9_setDead_12 : decode cX9_setDead 12 = .ok (.aload_n 0, 1) := by decide +kernel
theorem dX9_setDead_13 : decode cX9_setDead 13 = .ok (.getfield 26, 3) := by decide +kernel
theorem dX9_setDead_16 : decode cX9_setDead 16 = .ok (.iload_n 1, 1) := by decide +kernel
theorem dX9_setDead_17 : decode cX9_setDead 17 = .ok (.iload_n 2, 1) := by decide +kernel
theorem dX9_setDead_18 : decode cX9_setDead 18 = .ok (.bastore, 1) := by decide +kernel
theorem dX9_setDead_19 : decode cX9_setDead 19 = .ok (.return_, 1) := by decide +kernel
theorem dX9_least_0 : decode cX9_least 0 = .ok (.iload_n 1, 1) := by decide +kernel
theorem dX9_least_1 : decode cX9_least 1 = .ok (.iload_n 2, 1) := by decide +kernel
theorem dX9_least_2 : decode cX9_least 2 = .ok (.if_icmp .ge 7, 3) := by decide +kernel
theorem dX9_least_5 : decode cX9_least 5 = .ok (.iload_n 1, 1) := by decide +kernel
theorem dX9_least_6 : decode cX9_least 6 = .ok (.goto 4, 3) := by decide +kernel
theorem dX9_least_9 : decode cX9_least 9 = .ok (.iload_n 2, 1) := by decide +kernel
theorem dX9_least_10 : decode cX9_least 10 = .ok (.ireturn, 1) := by decide +kernel
set_option maxRecDepth 20000 in
theorem ggX9_cutAbove_X9_isUnder : GoodIn wsX9_cutAbove wsX9_isUnder := goodIn_r _ [7, 8, 9, 6, 10, 11, 12, 13, 14, 15, 16] (by decide +kernel) (by decide +kernel)
set_option maxRecDepth 20000 in
theorem gX9_cutAbove_X9_isUnder : GoodIn wsX9_cutAbove (va_wsS RX9 124 yX9_isUnder wsX9_isUnder) := goodIn_app (goodIn_of _ (by decide +kernel)) ggX9_cutAbove_X9_isUnder
set_option maxRecDepth 20000 in
theorem ggX9_cutAbove_X9_figures : GoodIn wsX9_cutAbove wsX9_figures := goodIn_r _ [10] (by decide +kernel) (by decide +kernel)
set_option maxRecDepth 20000 in
theorem gX9_cutAbove_X9_figures : GoodIn wsX9_cutAbove (va_wsS RX9 113 yX9_figures wsX9_figures) := goodIn_app (goodIn_of _ (by decide +kernel)) ggX9_cutAbove_X9_figures
theorem dX9_cutAbove_0 : decode cX9_cutAbove 0 = .ok (.iconst (-1), 1) := by decide +kernel
theorem dX9_cutAbove_1 : decode cX9_cutAbove 1 = .ok (.istore_n 3, 1) := by decide +kernel
theorem dX9_cutAbove_2 : decode cX9_cutAbove 2 = .ok (.bipush 32, 2) := by decide +kernel
theorem dX9_cutAbove_4 : decode cX9_cutAbove 4 = .ok (.iload_n 1, 1) := by decide +kernel
theorem dX9_cutAbove_5 : decode cX9_cutAbove 5 = .ok (.imul, 1) := by decide +kernel
theorem dX9_cutAbove_6 : decode cX9_cutAbove 6 = .ok (.istore 4, 2) := by decide +kernel
theorem dX9_cutAbove_8 : decode cX9_cutAbove 8 = .ok (.iload 4, 2) := by decide +kernel
theorem dX9_cutAbove_10 : decode cX9_cutAbove 10 = .ok (.bipush 32, 2) := by decide +kernel
theorem dX9_cutAbove_12 : decode cX9_cutAbove 12 = .ok (.iload_n 1, 1) := by decide +kernel
theorem dX9_cutAbove_13 : decode cX9_cutAbove 13 = .ok (.imul, 1) := by decide +kernel
theorem dX9_cutAbove_14 : decode cX9_cutAbove 14 = .ok (.aload_n 0, 1) := by decide +kernel
theorem dX9_cutAbove_15 : decode cX9_cutAbove 15 = .ok (.getfield 42, 3) := by decide +kernel
theorem dX9_cutAbove_18 : decode cX9_cutAbove 18 = .ok (.iload_n 1, 1) := by decide +kernel
theorem dX9_cutAbove_19 : decode cX9_cutAbove 19 = .ok (.iaload, 1) := by decide +kernel
theorem dX9_cutAbove_20 : decode cX9_cutAbove 20 = .ok (.iadd, 1) := by decide +kernel
theorem dX9_cutAbove_21 : decode cX9_cutAbove 21 = .ok (.if_icmp .ge 80, 3) := by decide +kernel
theorem dX9_cutAbove_24 : decode cX9_cutAbove 24 = .ok (.aload_n 0, 1) := by decide +kernel
theorem dX9_cutAbove_25 : decode cX9_cutAbove 25 = .ok (.getfield 48, 3) := by decide +kernel
theorem dX9_cutAbove_28 : decode cX9_cutAbove 28 = .ok (.iload 4, 2) := by decide +kernel
theorem dX9_cutAbove_30 : decode cX9_cutAbove 30 = .ok (.iaload, 1) := by decide +kernel
theorem dX9_cutAbove_31 : decode cX9_cutAbove 31 = .ok (.iconst 3, 1) := by decide +kernel
theorem dX9_cutAbove_32 : decode cX9_cutAbove 32 = .ok (.if_icmp .ne 21, 3) := by decide +kernel
theorem dX9_cutAbove_35 : decode cX9_cutAbove 35 = .ok (.iload_n 2, 1) := by decide +kernel
theorem dX9_cutAbove_36 : decode cX9_cutAbove 36 = .ok (.aload_n 0, 1) := by decide +kernel
theorem dX9_cutAbove_37 : decode cX9_cutAbove 37 = .ok (.getfield 45, 3) := by decide +kernel
theorem dX9_cutAbove_40 : decode cX9_cutAbove 40 = .ok (.iload 4, 2) := by decide +kernel
theorem dX9_cutAbove_42 : decode cX9_cutAbove 42 = .ok (.iaload, 1) := by decide +kernel
theorem dX9_cutAbove_43 : decode cX9_cutAbove 43 = .ok (.invokestatic 124, 3) := by decide +kernel
theorem dX9_cutAbove_46 : decode cX9_cutAbove 46 = .ok (.ifCond .eq 7, 3) := by decide +kernel
theorem dX9_cutAbove_49 : decode cX9_cutAbove 49 = .ok (.iconst 1, 1) := by decide +kernel
theorem dX9_cutAbove_50 : decode cX9_cutAbove 50 = .ok (.goto 4, 3) := by decide +kernel
theorem dX9_cutAbove_53 : decode cX9_cutAbove 53 = .ok (.iconst 0, 1) := by decide +kernel
theorem dX9_cutAbove_54 : decode cX9_cutAbove 54 = .ok (.istore 5, 2) := by decide +kernel
theorem dX9_cutAbove_56 : decode cX9_cutAbove 56 = .ok (.iload 5, 2) := by decide +kernel
theorem dX9_cutAbove_58 : decode cX9_cutAbove 58 = .ok (.ifCond .eq 35, 3) := by decide +kernel
theorem dX9_cutAbove_61 : decode cX9_cutAbove 61 = .ok (.iload_n 3, 1) := by decide +kernel
theorem dX9_cutAbove_62 : decode cX9_cutAbove 62 = .ok (.iconst (-1), 1) := by decide +kernel
theorem dX9_cutAbove_63 : decode cX9_cutAbove 63 = .ok (.if_icmp .eq 25, 3) := by decide +kernel
theorem dX9_cutAbove_66 : decode cX9_cutAbove 66 = .ok (.aload_n 0, 1) := by decide +kernel
theorem dX9_cutAbove_67 : decode cX9_cutAbove 67 = .ok (.getfield 45, 3) := by decide +kernel
theorem dX9_cutAbove_70 : decode cX9_cutAbove 70 = .ok (.iload 4, 2) := by decide +kernel
theorem dX9_cutAbove_72 : decode cX9_cutAbove 72 = .ok (.iaload, 1) := by decide +kernel
theorem dX9_cutAbove_73 : decode cX9_cutAbove 73 = .ok (.invokestatic 113, 3) := by decide +kernel
theorem dX9_cutAbove_76 : decode cX9_cutAbove 76 = .ok (.aload_n 0, 1) := by decide +kernel
theorem dX9_cutAbove_77 : decode cX9_cutAbove 77 = .ok (.getfield 45, 3) := by decide +kernel
theorem dX9_cutAbove_80 : decode cX9_cutAbove 80 = .ok (.iload_n 3, 1) := by decide +kernel
theorem dX9_cutAbove_81 : decode cX9_cutAbove 81 = .ok (.iaload, 1) := by decide +kernel
theorem dX9_cutAbove_82 : decode cX9_cutAbove 82 = .ok (.invokestatic 113, 3) := by decide +kernel
theorem dX9_cutAbove_85 : decode cX9_cutAbove 85 = .ok (.if_icmp .ge 8, 3) := by decide +kernel
theorem dX9_cutAbove_88 : decode cX9_cutAbove 88 = .ok (.iload 4, 2) := by decide +kernel
theorem dX9_cutAbove_90 : decode cX9_cutAbove 90 = .ok (.goto 4, 3) := by decide +kernel
theorem dX9_cutAbove_93 : decode cX9_cutAbove 93 = .ok (.iload_n 3, 1) := by decide +kernel
theorem dX9_cutAbove_94 : decode cX9_cutAbove 94 = .ok (.istore_n 3, 1) := by decide +kernel
theorem dX9_cutAbove_95 : decode cX9_cutAbove 95 = .ok (.iinc 4 1, 3) := by decide +kernel
theorem dX9_cutAbove_98 : decode cX9_cutAbove 98 = .ok (.goto (-90), 3) := by decide +kernel
theorem dX9_cutAbove_101 : decode cX9_cutAbove 101 = .ok (.iload_n 3, 1) := by decide +kernel
theorem dX9_cutAbove_102 : decode cX9_cutAbove 102 = .ok (.ireturn, 1) := by decide +kernel
set_option maxRecDepth 20000 in
theorem ggX9_treeAbove_X9_isStrictly : GoodIn wsX9_treeAbove wsX9_isStrictly := goodIn_r _ [7, 8, 9, 6, 10, 11, 12, 13, 14, 15, 16, 17, 18, 19] (by decide +kernel) (by decide +kernel)
set_option maxRecDepth 20000 in
theorem gX9_treeAbove_X9_isStrictly : GoodIn wsX9_treeAbove (va_wsS RX9 187 yX9_isStrictly wsX9_isStrictly) := goodIn_app (goodIn_of _ (by decide +kernel)) ggX9_treeAbove_X9_isStrictly
theorem dX9_treeAbove_0 : decode cX9_treeAbove 0 = .ok (.iconst (-1), 1) := by decide +kernel
theorem dX9_treeAbove_1 : decode cX9_treeAbove 1 = .ok (.istore_n 3, 1) := by decide +kernel
theorem dX9_treeAbove_2 : decode cX9_treeAbove 2 = .ok (.bipush 32, 2) := by decide +kernel
theorem dX9_treeAbove_4 : decode cX9_treeAbove 4 = .ok (.iload_n 1, 1) := by decide +kernel
theorem dX9_treeAbove_5 : decode cX9_treeAbove 5 = .ok (.imul, 1) := by decide +kernel
theorem dX9_treeAbove_6 : decode cX9_treeAbove 6 = .ok (.istore 4, 2) := by decide +kernel
theorem dX9_treeAbove_8 : decode cX9_treeAbove 8 = .ok (.iload 4, 2) := by decide +kernel
theorem dX9_treeAbove_10 : decode cX9_treeAbove 10 = .ok (.bipush 32, 2) := by decide +kernel
theorem dX9_treeAbove_12 : decode cX9_treeAbove 12 = .ok (.iload_n 1, 1) := by decide +kernel
theorem dX9_treeAbove_13 : decode cX9_treeAbove 13 = .ok (.imul, 1) := by decide +kernel
theorem dX9_treeAbove_14 : decode cX9_treeAbove 14 = .ok (.aload_n 0, 1) := by decide +kernel
theorem dX9_treeAbove_15 : decode cX9_treeAbove 15 = .ok (.getfield 42, 3) := by decide +kernel
theorem dX9_treeAbove_18 : decode cX9_treeAbove 18 = .ok (.iload_n 1, 1) := by decide +kernel
theorem dX9_treeAbove_19 : decode cX9_treeAbove 19 = .ok (.iaload, 1) := by decide +kernel
theorem dX9_treeAbove_20 : decode cX9_treeAbove 20 = .ok (.iadd, 1) := by decide +kernel
theorem dX9_treeAbove_21 : decode cX9_treeAbove 21 = .ok (.if_icmp .ge 41, 3) := by decide +kernel
theorem dX9_treeAbove_24 : decode cX9_treeAbove 24 = .ok (.aload_n 0, 1) := by decide +kernel
theorem dX9_treeAbove_25 : decode cX9_treeAbove 25 = .ok (.getfield 48, 3) := by decide +kernel
theorem dX9_treeAbove_28 : decode cX9_treeAbove 28 = .ok (.iload 4, 2) := by decide +kernel
theorem dX9_treeAbove_30 : decode cX9_treeAbove 30 = .ok (.iaload, 1) := by decide +kernel
theorem dX9_treeAbove_31 : decode cX9_treeAbove 31 = .ok (.iconst 2, 1) := by decide +kernel
theorem dX9_treeAbove_32 : decode cX9_treeAbove 32 = .ok (.if_icmp .ne 22, 3) := by decide +kernel
theorem dX9_treeAbove_35 : decode cX9_treeAbove 35 = .ok (.iload_n 2, 1) := by decide +kernel
theorem dX9_treeAbove_36 : decode cX9_treeAbove 36 = .ok (.aload_n 0, 1) := by decide +kernel
theorem dX9_treeAbove_37 : decode cX9_treeAbove 37 = .ok (.getfield 45, 3) := by decide +kernel
theorem dX9_treeAbove_40 : decode cX9_treeAbove 40 = .ok (.iload 4, 2) := by decide +kernel
theorem dX9_treeAbove_42 : decode cX9_treeAbove 42 = .ok (.iaload, 1) := by decide +kernel
theorem dX9_treeAbove_43 : decode cX9_treeAbove 43 = .ok (.invokestatic 187, 3) := by decide +kernel
theorem dX9_treeAbove_46 : decode cX9_treeAbove 46 = .ok (.ifCond .eq 8, 3) := by decide +kernel
theorem dX9_treeAbove_49 : decode cX9_treeAbove 49 = .ok (.iload 4, 2) := by decide +kernel
theorem dX9_treeAbove_51 : decode cX9_treeAbove 51 = .ok (.goto 4, 3) := by decide +kernel
theorem dX9_treeAbove_54 : decode cX9_treeAbove 54 = .ok (.iload_n 3, 1) := by decide +kernel
theorem dX9_treeAbove_55 : decode cX9_treeAbove 55 = .ok (.istore_n 3, 1) := by decide +kernel
theorem dX9_treeAbove_56 : decode cX9_treeAbove 56 = .ok (.iinc 4 1, 3) := by decide +kernel
theorem dX9_treeAbove_59 : decode cX9_treeAbove 59 = .ok (.goto (-51), 3) := by decide +kernel
theorem dX9_treeAbove_62 : decode cX9_treeAbove 62 = .ok (.iload_n 3, 1) := by decide +kernel
theorem dX9_treeAbove_63 : decode cX9_treeAbove 63 = .ok (.ireturn, 1) := by decide +kernel
set_option maxRecDepth 20000 in
theorem ggX9_joined_X9_figures : GoodIn wsX9_joined wsX9_figures := goodIn_r _ [4] (by decide +kernel) (by decide +kernel)
set_option maxRecDepth 20000 in
theorem gX9_joined_X9_figures : GoodIn wsX9_joined (va_wsS RX9 113 yX9_figures wsX9_figures) := goodIn_app (goodIn_of _ (by decide +kernel)) ggX9_joined_X9_figures
set_option maxRecDepth 20000 in
theorem ggX9_joined_X9_ten : GoodIn wsX9_joined wsX9_ten := goodIn_r _ [7] (by decide +kernel) (by decide +kernel)
set_option maxRecDepth 20000 in
theorem gX9_joined_X9_ten : GoodIn wsX9_joined (va_wsS RX9 117 yX9_ten wsX9_ten) := goodIn_app (goodIn_of _ (by decide +kernel)) ggX9_joined_X9_ten
theorem dX9_joined_0 : decode cX9_joined 0 = .ok (.iload_n 1, 1) := by decide +kernel
theorem dX9_joined_1 : decode cX9_joined 1 = .ok (.invokestatic 113, 3) := by decide +kernel
theorem dX9_joined_4 : decode cX9_joined 4 = .ok (.iload_n 2, 1) := by decide +kernel
theorem dX9_joined_5 : decode cX9_joined 5 = .ok (.isub, 1) := by decide +kernel
theorem dX9_joined_6 : decode cX9_joined 6 = .ok (.istore_n 3, 1) := by decide +kernel
theorem dX9_joined_7 : decode cX9_joined 7 = .ok (.iload_n 1, 1) := by decide +kernel
theorem dX9_joined_8 : decode cX9_joined 8 = .ok (.iload_n 3, 1) := by decide +kernel
theorem dX9_joined_9 : decode cX9_joined 9 = .ok (.invokestatic 117, 3) := by decide +kernel
theorem dX9_joined_12 : decode cX9_joined 12 = .ok (.irem, 1) := by decide +kernel
theorem dX9_joined_13 : decode cX9_joined 13 = .ok (.istore 4, 2) := by decide +kernel
theorem dX9_joined_15 : decode cX9_joined 15 = .ok (.iload_n 0, 1) := by decide +kernel
theorem dX9_joined_16 : decode cX9_joined 16 = .ok (.invokestatic 113, 3) := by decide +kernel
theorem dX9_joined_19 : decode cX9_joined 19 = .ok (.iload_n 3, 1) := by decide +kernel
theorem dX9_joined_20 : decode cX9_joined 20 = .ok (.iadd, 1) := by decide +kernel
theorem dX9_joined_21 : decode cX9_joined 21 = .ok (.iconst 4, 1) := by decide +kernel
theorem dX9_joined_22 : decode cX9_joined 22 = .ok (.if_icmp .le 7, 3) := by decide +kernel
theorem dX9_joined_25 : decode cX9_joined 25 = .ok (.iconst (-1), 1) := by decide +kernel
theorem dX9_joined_26 : decode cX9_joined 26 = .ok (.goto 12, 3) := by decide +kernel
theorem dX9_joined_29 : decode cX9_joined 29 = .ok (.iload_n 0, 1) := by decide +kernel
theorem dX9_joined_30 : decode cX9_joined 30 = .ok (.iload_n 3, 1) := by decide +kernel
theorem dX9_joined_31 : decode cX9_joined 31 = .ok (.invokestatic 117, 3) := by decide +kernel
theorem dX9_joined_34 : decode cX9_joined 34 = .ok (.imul, 1) := by decide +kernel
theorem dX9_joined_35 : decode cX9_joined 35 = .ok (.iload 4, 2) := by decide +kernel
theorem dX9_joined_37 : decode cX9_joined 37 = .ok (.iadd, 1) := by decide +kernel
theorem dX9_joined_38 : decode cX9_joined 38 = .ok (.ireturn, 1) := by decide +kernel
set_option maxRecDepth 20000 in
theorem ggX9_asks_X9_cutAbove : GoodIn wsX9_asks wsX9_cutAbove := goodIn_r _ [13, 14, 15, 3, 16, 17, 12, 18, 19, 20, 21, 22, 23, 24, 25, 26, 27, 61, 62, 63, 64, 65, 66, 67, 68, 69, 70, 71, 72, 73, 74, 75, 76, 77, 78, 79, 80, 81, 82, 83, 84, 85, 86, 87, 88, 89, 90, 91, 92, 93, 94, 95, 96, 97] (by decide +kernel) (by decide +kernel)
set_option maxRecDepth 20000 in
theorem gX9_asks_X9_cutAbove : GoodIn wsX9_asks (wsV RX9 196 RX9 yX9_cutAbove wsX9_cutAbove) := goodIn_app (goodIn_of _ (by decide +kernel)) ggX9_asks_X9_cutAbove
set_option maxRecDepth 20000 in
theorem ggX9_asks_X9_treeAbove : GoodIn wsX9_asks wsX9_treeAbove := goodIn_r _ [31, 14, 15, 3, 32, 33, 12, 34, 16, 17, 18, 19, 20, 21, 22, 23, 24, 25, 26, 27, 61, 62, 63, 64, 65, 66, 67, 68, 69, 70, 71, 72, 73, 74, 75, 76, 77, 78, 79, 80, 81, 82, 83, 84, 85, 86, 87, 88, 89, 90, 91, 92, 93, 94, 95, 96, 97] (by decide +kernel) (by decide +kernel)
set_option maxRecDepth 20000 in
theorem gX9_asks_X9_treeAbove : GoodIn wsX9_asks (wsV RX9 202 RX9 yX9_treeAbove wsX9_treeAbove) := goodIn_app (goodIn_of _ (by decide +kernel)) ggX9_asks_X9_treeAbove
set_option maxRecDepth 20000 in
theorem ggX9_asks_X9_figures : GoodIn wsX9_asks wsX9_figures := goodIn_r _ [21] (by decide +kernel) (by decide +kernel)
set_option maxRecDepth 20000 in
theorem gX9_asks_X9_figures : GoodIn wsX9_asks (va_wsS RX9 113 yX9_figures wsX9_figures) := goodIn_app (goodIn_of _ (by decide +kernel)) ggX9_asks_X9_figures
set_option maxRecDepth 20000 in
theorem ggX9_asks_X9_joined : GoodIn wsX9_asks wsX9_joined := goodIn_r _ [37, 19, 20, 12, 21, 25, 26, 27] (by decide +kernel) (by decide +kernel)
set_option maxRecDepth 20000 in
theorem gX9_asks_X9_joined : GoodIn wsX9_asks (va_wsS RX9 205 yX9_joined wsX9_joined) := goodIn_app (goodIn_of _ (by decide +kernel)) ggX9_asks_X9_joined
set_option maxRecDepth 20000 in
theorem ggX9_asks_X9_isThere : GoodIn wsX9_asks wsX9_isThere := goodIn_r _ [41, 14, 3, 42, 43, 12, 44, 16, 17, 18, 19, 20, 21, 22, 23, 24, 25, 26, 27, 61, 62, 63, 64, 65, 66, 67, 68, 69, 70, 71, 72, 73, 74, 75, 76, 77, 78, 79, 80, 81, 82, 83, 84, 85, 86, 87, 88, 89, 90, 91, 92, 93, 94, 95, 96, 97] (by decide +kernel) (by decide +kernel)
set_option maxRecDepth 20000 in
theorem gX9_asks_X9_isThere : GoodIn wsX9_asks (wsV RX9 208 RX9 yX9_isThere wsX9_isThere) := goodIn_app (goodIn_of _ (by decide +kernel)) ggX9_asks_X9_isThere
set_option maxRecDepth 20000 in
theorem ggX9_asks_X9_encloser : GoodIn wsX9_asks wsX9_encloser := goodIn_r _ [48, 8, 19, 20, 12, 21, 22, 23, 24, 25, 26, 27, 38, 39, 40, 41, 14, 3, 42, 43, 44, 16, 17, 18, 61, 62, 63, 64, 65, 66, 67, 68, 69, 70, 71, 72, 73, 74, 75, 76, 77, 78, 79, 80, 81, 82, 83, 84, 85, 86, 87, 88, 89, 90, 91, 92, 93, 94, 95, 96, 97] (by decide +kernel) (by decide +kernel)
set_option maxRecDepth 20000 in
theorem gX9_asks_X9_encloser : GoodIn wsX9_asks (wsV RX9 211 RX9 yX9_encloser wsX9_encloser) := goodIn_app (goodIn_of _ (by decide +kernel)) ggX9_asks_X9_encloser
set_option maxRecDepth 20000 in
theorem ggX9_asks_X9_find : GoodIn wsX9_asks wsX9_find := goodIn_r _ [52, 14, 3, 15, 61, 62, 63, 64, 65, 66, 67, 68, 69, 70, 71, 72, 73, 74, 75, 76, 77, 78, 79, 80, 81, 82, 83, 84, 85, 86, 87, 88, 89, 90, 91, 92, 93, 94, 95, 96, 97] (by decide +kernel) (by decide +kernel)
set_option maxRecDepth 20000 in
theorem gX9_asks_X9_find : GoodIn wsX9_asks (wsV RX9 135 RX9 yX9_find wsX9_find) := goodIn_app (goodIn_of _ (by decide +kernel)) ggX9_asks_X9_find
set_option maxRecDepth 20000 in
theorem ggX9_asks_X9_least : GoodIn wsX9_asks wsX9_least := goodIn_r _ [56] (by decide +kernel) (by decide +kernel)
set_option maxRecDepth 20000 in
theorem gX9_asks_X9_least : GoodIn wsX9_asks (wsV RX9 214 RX9 yX9_least wsX9_least) := goodIn_app (goodIn_of _ (by decide +kernel)) ggX9_asks_X9_least
set_option maxRecDepth 20000 in
theorem ggX9_asks_X9_isStarThere : GoodIn wsX9_asks wsX9_isStarThere := goodIn_r _ [60, 14, 3, 61, 62, 63, 64, 65, 66, 67, 68, 69, 70, 71, 72, 73, 74, 75, 76, 77, 78, 79, 80, 81, 82, 83, 84, 85, 86, 87, 88, 89, 90, 91, 92, 93, 94, 95, 96, 97] (by decide +kernel) (by decide +kernel)
set_option maxRecDepth 20000 in
theorem gX9_asks_X9_isStarThere : GoodIn wsX9_asks (wsV RX9 217 RX9 yX9_isStarThere wsX9_isStarThere) := goodIn_app (goodIn_of _ (by decide +kernel)) ggX9_asks_X9_isStarThere
set_option maxRecDepth 20000 in
theorem ggX9_asks_X9_isUnder : GoodIn wsX9_asks wsX9_isUnder := goodIn_r _ [18, 19, 20, 12, 21, 22, 23, 24, 25, 26, 27] (by decide +kernel) (by decide +kernel)
set_option maxRecDepth 20000 in
theorem gX9_asks_X9_isUnder : GoodIn wsX9_asks (va_wsS RX9 124 yX9_isUnder wsX9_isUnder) := goodIn_app (goodIn_of _ (by decide +kernel)) ggX9_asks_X9_isUnder
theorem dX9_asks_0 : decode cX9_asks 0 = .ok (.aload_n 0, 1) := by decide +kernel
theorem dX9_asks_1 : decode cX9_asks 1 = .ok (.iload_n 3, 1) := by decide +kernel
theorem dX9_asks_2 : decode cX9_asks 2 = .ok (.putfield 190, 3) := by decide +kernel
theorem dX9_asks_5 : decode cX9_asks 5 = .ok (.aload_n 0, 1) := by decide +kernel
theorem dX9_asks_6 : decode cX9_asks 6 = .ok (.iconst (-1), 1) := by decide +kernel
theorem dX9_asks_7 : decode cX9_asks 7 = .ok (.putfield 193, 3) := by decide +kernel
theorem dX9_asks_10 : decode cX9_asks 10 = .ok (.sipush 1000, 3) := by decide +kernel
theorem dX9_asks_13 : decode cX9_asks 13 = .ok (.istore 5, 2) := by decide +kernel
theorem dX9_asks_15 : decode cX9_asks 15 = .ok (.iconst 0, 1) := by decide +kernel
theorem dX9_asks_16 : decode cX9_asks 16 = .ok (.istore 6, 2) := by decide +kernel
theorem dX9_asks_18 : decode cX9_asks 18 = .ok (.aload_n 0, 1) := by decide +kernel
theorem dX9_asks_19 : decode cX9_asks 19 = .ok (.iload_n 1, 1) := by decide +kernel
theorem dX9_asks_20 : decode cX9_asks 20 = .ok (.aload_n 0, 1) := by decide +kernel
theorem dX9_asks_21 : decode cX9_asks 21 = .ok (.getfield 190, 3) := by decide +kernel
theorem dX9_asks_24 : decode cX9_asks 24 = .ok (.invokevirtual 196, 3) := by decide +kernel
theorem dX9_asks_27 : decode cX9_asks 27 = .ok (.istore 7, 2) := by decide +kernel
theorem dX9_asks_29 : decode cX9_asks 29 = .ok (.iload 7, 2) := by decide +kernel
theorem dX9_asks_31 : decode cX9_asks 31 = .ok (.iconst (-1), 1) := by decide +kernel
theorem dX9_asks_32 : decode cX9_asks 32 = .ok (.if_icmp .eq 95, 3) := by decide +kernel
theorem dX9_asks_35 : decode cX9_asks 35 = .ok (.aload_n 0, 1) := by decide +kernel
theorem dX9_asks_36 : decode cX9_asks 36 = .ok (.getfield 45, 3) := by decide +kernel
theorem dX9_asks_39 : decode cX9_asks 39 = .ok (.iload 7, 2) := by decide +kernel
theorem dX9_asks_41 : decode cX9_asks 41 = .ok (.iaload, 1) := by decide +kernel
theorem dX9_asks_42 : decode cX9_asks 42 = .ok (.aload_n 0, 1) := by decide +kernel
theorem dX9_asks_43 : decode cX9_asks 43 = .ok (.getfield 190, 3) := by decide +kernel
theorem dX9_asks_46 : decode cX9_asks 46 = .ok (.if_icmp .ne 15, 3) := by decide +kernel
theorem dX9_asks_49 : decode cX9_asks 49 = .ok (.iload 4, 2) := by decide +kernel
theorem dX9_asks_51 : decode cX9_asks 51 = .ok (.iconst 3, 1) := by decide +kernel
theorem dX9_asks_52 : decode cX9_asks 52 = .ok (.if_icmp .eq 75, 3) := by decide +kernel
theorem dX9_asks_55 : decode cX9_asks 55 = .ok (.iload 4, 2) := by decide +kernel
theorem dX9_asks_57 : decode cX9_asks 57 = .ok (.iconst 4, 1) := by decide +kernel
theorem dX9_asks_58 : decode cX9_asks 58 = .ok (.if_icmp .eq 69, 3) := by decide +kernel
theorem dX9_asks_61 : decode cX9_asks 61 = .ok (.aload_n 0, 1) := by decide +kernel
theorem dX9_asks_62 : decode cX9_asks 62 = .ok (.iload 6, 2) := by decide +kernel
theorem dX9_asks_64 : decode cX9_asks 64 = .ok (.ifCond .le 8, 3) := by decide +kernel
theorem dX9_asks_67 : decode cX9_asks 67 = .ok (.iload 5, 2) := by decide +kernel
theorem dX9_asks_69 : decode cX9_asks 69 = .ok (.goto 10, 3) := by decide +kernel
theorem dX9_asks_72 : decode cX9_asks 72 = .ok (.aload_n 0, 1) := by decide +kernel
theorem dX9_asks_73 : decode cX9_asks 73 = .ok (.getfield 54, 3) := by decide +kernel
theorem dX9_asks_76 : decode cX9_asks 76 = .ok (.iload 7, 2) := by decide +kernel
theorem dX9_asks_78 : decode cX9_asks 78 = .ok (.iaload, 1) := by decide +kernel
theorem dX9_asks_79 : decode cX9_asks 79 = .ok (.putfield 199, 3) := by decide +kernel
theorem dX9_asks_82 : decode cX9_asks 82 = .ok (.aload_n 0, 1) := by decide +kernel
theorem dX9_asks_83 : decode cX9_asks 83 = .ok (.aload_n 0, 1) := by decide +kernel
theorem dX9_asks_84 : decode cX9_asks 84 = .ok (.getfield 51, 3) := by decide +kernel
theorem dX9_asks_87 : decode cX9_asks 87 = .ok (.iload 7, 2) := by decide +kernel
theorem dX9_asks_89 : decode cX9_asks 89 = .ok (.iaload, 1) := by decide +kernel
theorem dX9_asks_90 : decode cX9_asks 90 = .ok (.putfield 193, 3) := by decide +kernel
theorem dX9_asks_93 : decode cX9_asks 93 = .ok (.aload_n 0, 1) := by decide +kernel
theorem dX9_asks_94 : decode cX9_asks 94 = .ok (.iload 6, 2) := by decide +kernel
theorem dX9_asks_96 : decode cX9_asks 96 = .ok (.ifCond .le 10, 3) := by decide +kernel
theorem dX9_asks_99 : decode cX9_asks 99 = .ok (.aload_n 0, 1) := by decide +kernel
theorem dX9_asks_100 : decode cX9_asks 100 = .ok (.getfield 190, 3) := by decide +kernel
theorem dX9_asks_103 : decode cX9_asks 103 = .ok (.goto 10, 3) := by decide +kernel
theorem dX9_asks_106 : decode cX9_asks 106 = .ok (.aload_n 0, 1) := by decide +kernel
theorem dX9_asks_107 : decode cX9_asks 107 = .ok (.getfield 45, 3) := by decide +kernel
theorem dX9_asks_110 : decode cX9_asks 110 = .ok (.iload 7, 2) := by decide +kernel
theorem dX9_asks_112 : decode cX9_asks 112 = .ok (.iaload, 1) := by decide +kernel
theorem dX9_asks_113 : decode cX9_asks 113 = .ok (.putfield 190, 3) := by decide +kernel
theorem dX9_asks_116 : decode cX9_asks 116 = .ok (.iload 6, 2) := by decide +kernel
theorem dX9_asks_118 : decode cX9_asks 118 = .ok (.ifCond .le 7, 3) := by decide +kernel
theorem dX9_asks_121 : decode cX9_asks 121 = .ok (.iconst 4, 1) := by decide +kernel
theorem dX9_asks_122 : decode cX9_asks 122 = .ok (.goto 4, 3) := by decide +kernel
theorem dX9_asks_125 : decode cX9_asks 125 = .ok (.iconst 3, 1) := by decide +kernel
theorem dX9_asks_126 : decode cX9_asks 126 = .ok (.ireturn, 1) := by decide +kernel
theorem dX9_asks_127 : decode cX9_asks 127 = .ok (.aload_n 0, 1) := by decide +kernel
theorem dX9_asks_128 : decode cX9_asks 128 = .ok (.iload_n 1, 1) := by decide +kernel
theorem dX9_asks_129 : decode cX9_asks 129 = .ok (.aload_n 0, 1) := by decide +kernel
theorem dX9_asks_130 : decode cX9_asks 130 = .ok (.getfield 190, 3) := by decide +kernel
theorem dX9_asks_133 : decode cX9_asks 133 = .ok (.invokevirtual 202, 3) := by decide +kernel
theorem dX9_asks_136 : decode cX9_asks 136 = .ok (.istore 8, 2) := by decide +kernel
theorem dX9_asks_138 : decode cX9_asks 138 = .ok (.iconst (-1), 1) := by decide +kernel
theorem dX9_asks_139 : decode cX9_asks 139 = .ok (.istore 9, 2) := by decide +kernel
theorem dX9_asks_141 : decode cX9_asks 141 = .ok (.iconst (-1), 1) := by decide +kernel
theorem dX9_asks_142 : decode cX9_asks 142 = .ok (.istore 10, 2) := by decide +kernel
theorem dX9_asks_144 : decode cX9_asks 144 = .ok (.iload 8, 2) := by decide +kernel
theorem dX9_asks_146 : decode cX9_asks 146 = .ok (.iconst (-1), 1) := by decide +kernel
theorem dX9_asks_147 : decode cX9_asks 147 = .ok (.if_icmp .eq 36, 3) := by decide +kernel
theorem dX9_asks_150 : decode cX9_asks 150 = .ok (.aload_n 0, 1) := by decide +kernel
theorem dX9_asks_151 : decode cX9_asks 151 = .ok (.getfield 51, 3) := by decide +kernel
theorem dX9_asks_154 : decode cX9_asks 154 = .ok (.iload 8, 2) := by decide +kernel
theorem dX9_asks_156 : decode cX9_asks 156 = .ok (.iaload, 1) := by decide +kernel
theorem dX9_asks_157 : decode cX9_asks 157 = .ok (.aload_n 0, 1) := by decide +kernel
theorem dX9_asks_158 : decode cX9_asks 158 = .ok (.getfield 190, 3) := by decide +kernel
theorem dX9_asks_161 : decode cX9_asks 161 = .ok (.aload_n 0, 1) := by decide +kernel
theorem dX9_asks_162 : decode cX9_asks 162 = .ok (.getfield 45, 3) := by decide +kernel
theorem dX9_asks_165 : decode cX9_asks 165 = .ok (.iload 8, 2) := by decide +kernel
theorem dX9_asks_167 : decode cX9_asks 167 = .ok (.iaload, 1) := by decide +kernel
theorem dX9_asks_168 : decode cX9_asks 168 = .ok (.invokestatic 113, 3) := by decide +kernel
theorem dX9_asks_171 : decode cX9_asks 171 = .ok (.invokestatic 205, 3) := by decide +kernel
theorem dX9_asks_174 : decode cX9_asks 174 = .ok (.istore 9, 2) := by decide +kernel
theorem dX9_asks_176 : decode cX9_asks 176 = .ok (.iload 8, 2) := by decide +kernel
theorem dX9_asks_178 : decode cX9_asks 178 = .ok (.istore 10, 2) := by decide +kernel
theorem dX9_asks_180 : decode cX9_asks 180 = .ok (.goto 173, 3) := by decide +kernel
theorem dX9_asks_183 : decode cX9_asks 183 = .ok (.aload_n 0, 1) := by decide +kernel
theorem dX9_asks_184 : decode cX9_asks 184 = .ok (.iload_n 1, 1) := by decide +kernel
theorem dX9_asks_185 : decode cX9_asks 185 = .ok (.aload_n 0, 1) := by decide +kernel
theorem dX9_asks_186 : decode cX9_asks 186 = .ok (.getfield 190, 3) := by decide +kernel
theorem dX9_asks_189 : decode cX9_asks 189 = .ok (.invokevirtual 208, 3) := by decide +kernel
theorem dX9_asks_192 : decode cX9_asks 192 = .ok (.istore 11, 2) := by decide +kernel
theorem dX9_asks_194 : decode cX9_asks 194 = .ok (.iload 11, 2) := by decide +kernel
theorem dX9_asks_196 : decode cX9_asks 196 = .ok (.ifCond .eq 10, 3) := by decide +kernel
theorem dX9_asks_199 : decode cX9_asks 199 = .ok (.aload_n 0, 1) := by decide +kernel
theorem dX9_asks_200 : decode cX9_asks 200 = .ok (.getfield 190, 3) := by decide +kernel
theorem dX9_asks_203 : decode cX9_asks 203 = .ok (.goto 16, 3) := by decide +kernel
theorem dX9_asks_206 : decode cX9_asks 206 = .ok (.bipush 10, 2) := by decide +kernel
theorem dX9_asks_208 : decode cX9_asks 208 = .ok (.aload_n 0, 1) := by decide +kernel
theorem dX9_asks_209 : decode cX9_asks 209 = .ok (.iload_n 1, 1) := by decide +kernel
theorem dX9_asks_210 : decode cX9_asks 210 = .ok (.iload_n 2, 1) := by decide +kernel
theorem dX9_asks_211 : decode cX9_asks 211 = .ok (.aload_n 0, 1) := by decide +kernel
theorem dX9_asks_212 : decode cX9_asks 212 = .ok (.getfield 190, 3) := by decide +kernel
theorem dX9_asks_215 : decode cX9_asks 215 = .ok (.invokevirtual 211, 3) := by decide +kernel
theorem dX9_asks_218 : decode cX9_asks 218 = .ok (.imul, 1) := by decide +kernel
theorem dX9_asks_219 : decode cX9_asks 219 = .ok (.istore 12, 2) := by decide +kernel
theorem dX9_asks_221 : decode cX9_asks 221 = .ok (.aload_n 0, 1) := by decide +kernel
theorem dX9_asks_222 : decode cX9_asks 222 = .ok (.iload_n 1, 1) := by decide +kernel
theorem dX9_asks_223 : decode cX9_asks 223 = .ok (.iload 12, 2) := by decide +kernel
theorem dX9_asks_225 : decode cX9_asks 225 = .ok (.iload 4, 2) := by decide +kernel
theorem dX9_asks_227 : decode cX9_asks 227 = .ok (.invokevirtual 135, 3) := by decide +kernel
theorem dX9_asks_230 : decode cX9_asks 230 = .ok (.istore 13, 2) := by decide +kernel
theorem dX9_asks_232 : decode cX9_asks 232 = .ok (.aload_n 0, 1) := by decide +kernel
theorem dX9_asks_233 : decode cX9_asks 233 = .ok (.iload_n 1, 1) := by decide +kernel
theorem dX9_asks_234 : decode cX9_asks 234 = .ok (.iload 12, 2) := by decide +kernel
theorem dX9_asks_236 : decode cX9_asks 236 = .ok (.iconst 1, 1) := by decide +kernel
theorem dX9_asks_237 : decode cX9_asks 237 = .ok (.invokevirtual 135, 3) := by decide +kernel
theorem dX9_asks_240 : decode cX9_asks 240 = .ok (.istore 14, 2) := by decide +kernel
theorem dX9_asks_242 : decode cX9_asks 242 = .ok (.iload 12, 2) := by decide +kernel
theorem dX9_asks_244 : decode cX9_asks 244 = .ok (.ifCond .gt 8, 3) := by decide +kernel
theorem dX9_asks_247 : decode cX9_asks 247 = .ok (.iload 11, 2) := by decide +kernel
theorem dX9_asks_249 : decode cX9_asks 249 = .ok (.ifCond .eq 58, 3) := by decide +kernel
theorem dX9_asks_252 : decode cX9_asks 252 = .ok (.iload 13, 2) := by decide +kernel
theorem dX9_asks_254 : decode cX9_asks 254 = .ok (.iconst (-1), 1) := by decide +kernel
theorem dX9_asks_255 : decode cX9_asks 255 = .ok (.if_icmp .eq 33, 3) := by decide +kernel
theorem dX9_asks_258 : decode cX9_asks 258 = .ok (.aload_n 0, 1) := by decide +kernel
theorem dX9_asks_259 : decode cX9_asks 259 = .ok (.aload_n 0, 1) := by decide +kernel
theorem dX9_asks_260 : decode cX9_asks 260 = .ok (.getfield 51, 3) := by decide +kernel
theorem dX9_asks_263 : decode cX9_asks 263 = .ok (.iload 13, 2) := by decide +kernel
theorem dX9_asks_265 : decode cX9_asks 265 = .ok (.iaload, 1) := by decide +kernel
theorem dX9_asks_266 : decode cX9_asks 266 = .ok (.putfield 193, 3) := by decide +kernel
theorem dX9_asks_269 : decode cX9_asks 269 = .ok (.aload_n 0, 1) := by decide +kernel
theorem dX9_asks_270 : decode cX9_asks 270 = .ok (.aload_n 0, 1) := by decide +kernel
theorem dX9_asks_271 : decode cX9_asks 271 = .ok (.iload 5, 2) := by decide +kernel
theorem dX9_asks_273 : decode cX9_asks 273 = .ok (.aload_n 0, 1) := by decide +kernel
theorem dX9_asks_274 : decode cX9_asks 274 = .ok (.getfield 54, 3) := by decide +kernel
theorem dX9_asks_277 : decode cX9_asks 277 = .ok (.iload 13, 2) := by decide +kernel
theorem dX9_asks_279 : decode cX9_asks 279 = .ok (.iaload, 1) := by decide +kernel
theorem dX9_asks_280 : decode cX9_asks 280 = .ok (.invokevirtual 214, 3) := by decide +kernel
theorem dX9_asks_283 : decode cX9_asks 283 = .ok (.putfield 199, 3) := by decide +kernel
theorem dX9_asks_286 : decode cX9_asks 286 = .ok (.iconst 0, 1) := by decide +kernel
theorem dX9_asks_287 : decode cX9_asks 287 = .ok (.ireturn, 1) := by decide +kernel
theorem dX9_asks_288 : decode cX9_asks 288 = .ok (.iload 14, 2) := by decide +kernel
theorem dX9_asks_290 : decode cX9_asks 290 = .ok (.iconst (-1), 1) := by decide +kernel
theorem dX9_asks_291 : decode cX9_asks 291 = .ok (.if_icmp .eq 16, 3) := by decide +kernel
theorem dX9_asks_294 : decode cX9_asks 294 = .ok (.iload 14, 2) := by decide +kernel
theorem dX9_asks_296 : decode cX9_asks 296 = .ok (.istore 10, 2) := by decide +kernel
theorem dX9_asks_298 : decode cX9_asks 298 = .ok (.aload_n 0, 1) := by decide +kernel
theorem dX9_asks_299 : decode cX9_asks 299 = .ok (.getfield 51, 3) := by decide +kernel
theorem dX9_asks_302 : decode cX9_asks 302 = .ok (.iload 14, 2) := by decide +kernel
theorem dX9_asks_304 : decode cX9_asks 304 = .ok (.iaload, 1) := by decide +kernel
theorem dX9_asks_305 : decode cX9_asks 305 = .ok (.istore 9, 2) := by decide +kernel
theorem dX9_asks_307 : decode cX9_asks 307 = .ok (.iload 10, 2) := by decide +kernel
theorem dX9_asks_309 : decode cX9_asks 309 = .ok (.iconst (-1), 1) := by decide +kernel
theorem dX9_asks_310 : decode cX9_asks 310 = .ok (.if_icmp .ne 43, 3) := by decide +kernel
theorem dX9_asks_313 : decode cX9_asks 313 = .ok (.aload_n 0, 1) := by decide +kernel
theorem dX9_asks_314 : decode cX9_asks 314 = .ok (.aload_n 0, 1) := by decide +kernel
theorem dX9_asks_315 : decode cX9_asks 315 = .ok (.iload 5, 2) := by decide +kernel
theorem dX9_asks_317 : decode cX9_asks 317 = .ok (.aload_n 0, 1) := by decide +kernel
theorem dX9_asks_318 : decode cX9_asks 318 = .ok (.getfield 17, 3) := by decide +kernel
theorem dX9_asks_321 : decode cX9_asks 321 = .ok (.iload_n 2, 1) := by decide +kernel
theorem dX9_asks_322 : decode cX9_asks 322 = .ok (.iaload, 1) := by decide +kernel
theorem dX9_asks_323 : decode cX9_asks 323 = .ok (.invokevirtual 214, 3) := by decide +kernel
theorem dX9_asks_326 : decode cX9_asks 326 = .ok (.putfield 199, 3) := by decide +kernel
theorem dX9_asks_329 : decode cX9_asks 329 = .ok (.iload 11, 2) := by decide +kernel
theorem dX9_asks_331 : decode cX9_asks 331 = .ok (.ifCond .ne 16, 3) := by decide +kernel
theorem dX9_asks_334 : decode cX9_asks 334 = .ok (.aload_n 0, 1) := by decide +kernel
theorem dX9_asks_335 : decode cX9_asks 335 = .ok (.iload_n 1, 1) := by decide +kernel
theorem dX9_asks_336 : decode cX9_asks 336 = .ok (.iload 12, 2) := by decide +kernel
theorem dX9_asks_338 : decode cX9_asks 338 = .ok (.bipush 10, 2) := by decide +kernel
theorem dX9_asks_340 : decode cX9_asks 340 = .ok (.idiv, 1) := by decide +kernel
theorem dX9_asks_341 : decode cX9_asks 341 = .ok (.invokevirtual 217, 3) := by decide +kernel
theorem dX9_asks_344 : decode cX9_asks 344 = .ok (.ifCond .eq 7, 3) := by decide +kernel
theorem dX9_asks_347 : decode cX9_asks 347 = .ok (.iconst 1, 1) := by decide +kernel
theorem dX9_asks_348 : decode cX9_asks 348 = .ok (.goto 4, 3) := by decide +kernel
theorem dX9_asks_351 : decode cX9_asks 351 = .ok (.iconst 2, 1) := by decide +kernel
theorem dX9_asks_352 : decode cX9_asks 352 = .ok (.ireturn, 1) := by decide +kernel
theorem dX9_asks_353 : decode cX9_asks 353 = .ok (.aload_n 0, 1) := by decide +kernel
theorem dX9_asks_354 : decode cX9_asks 354 = .ok (.iload 5, 2) := by decide +kernel
theorem dX9_asks_356 : decode cX9_asks 356 = .ok (.aload_n 0, 1) := by decide +kernel
theorem dX9_asks_357 : decode cX9_asks 357 = .ok (.getfield 54, 3) := by decide +kernel
theorem dX9_asks_360 : decode cX9_asks 360 = .ok (.iload 10, 2) := by decide +kernel
theorem dX9_asks_362 : decode cX9_asks 362 = .ok (.iaload, 1) := by decide +kernel
theorem dX9_asks_363 : decode cX9_asks 363 = .ok (.invokevirtual 214, 3) := by decide +kernel
theorem dX9_asks_366 : decode cX9_asks 366 = .ok (.istore 5, 2) := by decide +kernel
theorem dX9_asks_368 : decode cX9_asks 368 = .ok (.iinc 6 1, 3) := by decide +kernel
theorem dX9_asks_371 : decode cX9_asks 371 = .ok (.aload_n 0, 1) := by decide +kernel
theorem dX9_asks_372 : decode cX9_asks 372 = .ok (.iload 5, 2) := by decide +kernel
theorem dX9_asks_374 : decode cX9_asks 374 = .ok (.putfield 199, 3) := by decide +kernel
theorem dX9_asks_377 : decode cX9_asks 377 = .ok (.iload 9, 2) := by decide +kernel
theorem dX9_asks_379 : decode cX9_asks 379 = .ok (.iconst (-1), 1) := by decide +kernel
theorem dX9_asks_380 : decode cX9_asks 380 = .ok (.if_icmp .eq 10, 3) := by decide +kernel
theorem dX9_asks_383 : decode cX9_asks 383 = .ok (.iload 6, 2) := by decide +kernel
theorem dX9_asks_385 : decode cX9_asks 385 = .ok (.bipush 8, 2) := by decide +kernel
theorem dX9_asks_387 : decode cX9_asks 387 = .ok (.if_icmp .le 15, 3) := by decide +kernel
theorem dX9_asks_390 : decode cX9_asks 390 = .ok (.aload_n 0, 1) := by decide +kernel
theorem dX9_asks_391 : decode cX9_asks 391 = .ok (.iconst (-1), 1) := by decide +kernel
theorem dX9_asks_392 : decode cX9_asks 392 = .ok (.putfield 190, 3) := by decide +kernel
theorem dX9_asks_395 : decode cX9_asks 395 = .ok (.aload_n 0, 1) := by decide +kernel
theorem dX9_asks_396 : decode cX9_asks 396 = .ok (.iconst 0, 1) := by decide +kernel
theorem dX9_asks_397 : decode cX9_asks 397 = .ok (.putfield 199, 3) := by decide +kernel
theorem dX9_asks_400 : decode cX9_asks 400 = .ok (.iconst 5, 1) := by decide +kernel
theorem dX9_asks_401 : decode cX9_asks 401 = .ok (.ireturn, 1) := by decide +kernel
theorem dX9_asks_402 : decode cX9_asks 402 = .ok (.aload_n 0, 1) := by decide +kernel
theorem dX9_asks_403 : decode cX9_asks 403 = .ok (.iload 9, 2) := by decide +kernel
theorem dX9_asks_405 : decode cX9_asks 405 = .ok (.putfield 190, 3) := by decide +kernel
theorem dX9_asks_408 : decode cX9_asks 408 = .ok (.iload 9, 2) := by decide +kernel
theorem dX9_asks_410 : decode cX9_asks 410 = .ok (.aload_n 0, 1) := by decide +kernel
theorem dX9_asks_411 : decode cX9_asks 411 = .ok (.getfield 13, 3) := by decide +kernel
theorem dX9_asks_414 : decode cX9_asks 414 = .ok (.iload_n 2, 1) := by decide +kernel
theorem dX9_asks_415 : decode cX9_asks 415 = .ok (.iaload, 1) := by decide +kernel
theorem dX9_asks_416 : decode cX9_asks 416 = .ok (.invokestatic 124, 3) := by decide +kernel
theorem dX9_asks_419 : decode cX9_asks 419 = .ok (.ifCond .ne 5, 3) := by decide +kernel
theorem dX9_asks_422 : decode cX9_asks 422 = .ok (.iconst 4, 1) := by decide +kernel
theorem dX9_asks_423 : decode cX9_asks 423 = .ok (.ireturn, 1) := by decide +kernel
theorem dX9_asks_424 : decode cX9_asks 424 = .ok (.goto (-406), 3) := by decide +kernel
set_option maxRecDepth 20000 in
theorem ggX9_encloser_X9_figures : GoodIn wsX9_encloser wsX9_figures := goodIn_r _ [5] (by decide +kernel) (by decide +kernel)
set_option maxRecDepth 20000 in
theorem gX9_encloser_X9_figures : GoodIn wsX9_encloser (va_wsS RX9 113 yX9_figures wsX9_figures) := goodIn_app (goodIn_of _ (by decide +kernel)) ggX9_encloser_X9_figures
set_option maxRecDepth 20000 in
theorem ggX9_encloser_X9_head : GoodIn wsX9_encloser wsX9_head := goodIn_r _ [8, 2, 3, 4, 5, 9, 10, 11] (by decide +kernel) (by decide +kernel)
set_option maxRecDepth 20000 in
theorem gX9_encloser_X9_head : GoodIn wsX9_encloser (va_wsS RX9 120 yX9_head wsX9_head) := goodIn_app (goodIn_of _ (by decide +kernel)) ggX9_encloser_X9_head
set_option maxRecDepth 20000 in
theorem ggX9_encloser_X9_isThere : GoodIn wsX9_encloser wsX9_isThere := goodIn_r _ [15, 16, 17, 18, 19, 4, 20, 21, 22, 23, 2, 3, 5, 6, 7, 8, 9, 10, 11, 24, 25, 26, 27, 28, 29, 30, 31, 32, 33, 34, 35, 36, 37, 38, 39, 40, 41, 42, 43, 44, 45, 46, 47, 48, 49, 50, 51, 52, 53, 54, 55, 56, 57, 58, 59, 60] (by decide +kernel) (by decide +kernel)
set_option maxRecDepth 20000 in
theorem gX9_encloser_X9_isThere : GoodIn wsX9_encloser (wsV RX9 208 RX9 yX9_isThere wsX9_isThere) := goodIn_app (goodIn_of _ (by decide +kernel)) ggX9_encloser_X9_isThere
theorem dX9_encloser_0 : decode cX9_encloser 0 = .ok (.iload_n 3, 1) := by decide +kernel
theorem dX9_encloser_1 : decode cX9_encloser 1 = .ok (.invokestatic 113, 3) := by decide +kernel
theorem dX9_encloser_4 : decode cX9_encloser 4 = .ok (.istore 4, 2) := by decide +kernel
theorem dX9_encloser_6 : decode cX9_encloser 6 = .ok (.iload 4, 2) := by decide +kernel
theorem dX9_encloser_8 : decode cX9_encloser 8 = .ok (.aload_n 0, 1) := by decide +kernel
theorem dX9_encloser_9 : decode cX9_encloser 9 = .ok (.getfield 13, 3) := by decide +kernel
theorem dX9_encloser_12 : decode cX9_encloser 12 = .ok (.iload_n 2, 1) := by decide +kernel
theorem dX9_encloser_13 : decode cX9_encloser 13 = .ok (.iaload, 1) := by decide +kernel
theorem dX9_encloser_14 : decode cX9_encloser 14 = .ok (.invokestatic 113, 3) := by decide +kernel
theorem dX9_encloser_17 : decode cX9_encloser 17 = .ok (.if_icmp .le 30, 3) := by decide +kernel
theorem dX9_encloser_20 : decode cX9_encloser 20 = .ok (.aload_n 0, 1) := by decide +kernel
theorem dX9_encloser_21 : decode cX9_encloser 21 = .ok (.iload_n 1, 1) := by decide +kernel
theorem dX9_encloser_22 : decode cX9_encloser 22 = .ok (.iload_n 3, 1) := by decide +kernel
theorem dX9_encloser_23 : decode cX9_encloser 23 = .ok (.iload 4, 2) := by decide +kernel
theorem dX9_encloser_25 : decode cX9_encloser 25 = .ok (.invokestatic 120, 3) := by decide +kernel
theorem dX9_encloser_28 : decode cX9_encloser 28 = .ok (.invokevirtual 208, 3) := by decide +kernel
theorem dX9_encloser_31 : decode cX9_encloser 31 = .ok (.ifCond .eq 10, 3) := by decide +kernel
theorem dX9_encloser_34 : decode cX9_encloser 34 = .ok (.iload_n 3, 1) := by decide +kernel
theorem dX9_encloser_35 : decode cX9_encloser 35 = .ok (.iload 4, 2) := by decide +kernel
theorem dX9_encloser_37 : decode cX9_encloser 37 = .ok (.invokestatic 120, 3) := by decide +kernel
theorem dX9_encloser_40 : decode cX9_encloser 40 = .ok (.ireturn, 1) := by decide +kernel
theorem dX9_encloser_41 : decode cX9_encloser 41 = .ok (.iinc 4 (-1), 3) := by decide +kernel
theorem dX9_encloser_44 : decode cX9_encloser 44 = .ok (.goto (-38), 3) := by decide +kernel
theorem dX9_encloser_47 : decode cX9_encloser 47 = .ok (.aload_n 0, 1) := by decide +kernel
theorem dX9_encloser_48 : decode cX9_encloser 48 = .ok (.getfield 13, 3) := by decide +kernel
theorem dX9_encloser_51 : decode cX9_encloser 51 = .ok (.iload_n 2, 1) := by decide +kernel
theorem dX9_encloser_52 : decode cX9_encloser 52 = .ok (.iaload, 1) := by decide +kernel
theorem dX9_encloser_53 : decode cX9_encloser 53 = .ok (.ireturn, 1) := by decide +kernel
theorem dX9_tell_0 : decode cX9_tell 0 = .ok (.aload_n 0, 1) := by decide +kernel
theorem dX9_tell_1 : decode cX9_tell 1 = .ok (.getfield 96, 3) := by decide +kernel
theorem dX9_tell_4 : decode cX9_tell 4 = .ok (.iconst 0, 1) := by decide +kernel
theorem dX9_tell_5 : decode cX9_tell 5 = .ok (.iload_n 1, 1) := by decide +kernel
theorem dX9_tell_6 : decode cX9_tell 6 = .ok (.iastore, 1) := by decide +kernel
theorem dX9_tell_7 : decode cX9_tell 7 = .ok (.aload_n 0, 1) := by decide +kernel
theorem dX9_tell_8 : decode cX9_tell 8 = .ok (.getfield 96, 3) := by decide +kernel
theorem dX9_tell_11 : decode cX9_tell 11 = .ok (.iconst 1, 1) := by decide +kernel
theorem dX9_tell_12 : decode cX9_tell 12 = .ok (.iload_n 2, 1) := by decide +kernel
theorem dX9_tell_13 : decode cX9_tell 13 = .ok (.iastore, 1) := by decide +kernel
theorem dX9_tell_14 : decode cX9_tell 14 = .ok (.aload_n 0, 1) := by decide +kernel
theorem dX9_tell_15 : decode cX9_tell 15 = .ok (.getfield 96, 3) := by decide +kernel
theorem dX9_tell_18 : decode cX9_tell 18 = .ok (.iconst 2, 1) := by decide +kernel
theorem dX9_tell_19 : decode cX9_tell 19 = .ok (.iload_n 3, 1) := by decide +kernel
theorem dX9_tell_20 : decode cX9_tell 20 = .ok (.iastore, 1) := by decide +kernel
theorem dX9_tell_21 : decode cX9_tell 21 = .ok (.aload_n 0, 1) := by decide +kernel
theorem dX9_tell_22 : decode cX9_tell 22 = .ok (.getfield 96, 3) := by decide +kernel
theorem dX9_tell_25 : decode cX9_tell 25 = .ok (.iconst 3, 1) := by decide +kernel
theorem dX9_tell_26 : decode cX9_tell 26 = .ok (.iload 4, 2) := by decide +kernel
theorem dX9_tell_28 : decode cX9_tell 28 = .ok (.iastore, 1) := by decide +kernel
theorem dX9_tell_29 : decode cX9_tell 29 = .ok (.aload_n 0, 1) := by decide +kernel
theorem dX9_tell_30 : decode cX9_tell 30 = .ok (.getfield 96, 3) := by decide +kernel
theorem dX9_tell_33 : decode cX9_tell 33 = .ok (.iconst 4, 1) := by decide +kernel
theorem dX9_tell_34 : decode cX9_tell 34 = .ok (.iload 5, 2) := by decide +kernel
theorem dX9_tell_36 : decode cX9_tell 36 = .ok (.iastore, 1) := by decide +kernel
theorem dX9_tell_37 : decode cX9_tell 37 = .ok (.return_, 1) := by decide +kernel
set_option maxRecDepth 20000 in
theorem ggX9_ask_X9_isName : GoodIn wsX9_ask wsX9_isName := goodIn_r _ [8, 9, 10, 7, 11] (by decide +kernel) (by decide +kernel)
set_option maxRecDepth 20000 in
theorem gX9_ask_X9_isName : GoodIn wsX9_ask (va_wsS RX9 106 yX9_isName wsX9_isName) := goodIn_app (goodIn_of _ (by decide +kernel)) ggX9_ask_X9_isName
set_option maxRecDepth 20000 in
theorem ggX9_ask_X9_in : GoodIn wsX9_ask wsX9_in := goodIn_r _ [11] (by decide +kernel) (by decide +kernel)
set_option maxRecDepth 20000 in
theorem gX9_ask_X9_in : GoodIn wsX9_ask (va_wsS RX9 102 yX9_in wsX9_in) := goodIn_app (goodIn_of _ (by decide +kernel)) ggX9_ask_X9_in
set_option maxRecDepth 20000 in
theorem ggX9_ask_X9_isZone : GoodIn wsX9_ask wsX9_isZone := goodIn_r _ [15, 16, 9, 10, 7, 11, 86, 87, 88, 89, 90, 91, 92, 93, 94, 95, 96, 97, 98, 99, 100, 101, 102, 103, 104, 105, 106, 107, 108, 109, 110, 111, 112, 113, 114, 115, 116, 117, 118, 119, 120, 121, 122] (by decide +kernel) (by decide +kernel)
set_option maxRecDepth 20000 in
theorem gX9_ask_X9_isZone : GoodIn wsX9_ask (wsV RX9 159 RX9 yX9_isZone wsX9_isZone) := goodIn_app (goodIn_of _ (by decide +kernel)) ggX9_ask_X9_isZone
set_option maxRecDepth 20000 in
theorem ggX9_ask_X9_isUnder : GoodIn wsX9_ask wsX9_isUnder := goodIn_r _ [19, 20, 21, 7, 22, 23, 24, 25, 26, 27, 28] (by decide +kernel) (by decide +kernel)
set_option maxRecDepth 20000 in
theorem gX9_ask_X9_isUnder : GoodIn wsX9_ask (va_wsS RX9 124 yX9_isUnder wsX9_isUnder) := goodIn_app (goodIn_of _ (by decide +kernel)) ggX9_ask_X9_isUnder
set_option maxRecDepth 20000 in
theorem ggX9_ask_X9_asked__ : GoodIn wsX9_ask wsX9_asked__ := goodIn_r _ [32, 33, 86, 87, 88, 89, 90, 91, 92, 93, 94, 95, 96, 97, 98, 99, 100, 101, 102, 103, 104, 105, 106, 107, 108, 109, 110, 111, 112, 113, 114, 115, 116, 117, 118, 119, 120, 121, 122] (by decide +kernel) (by decide +kernel)
set_option maxRecDepth 20000 in
theorem gX9_ask_X9_asked__ : GoodIn wsX9_ask (wsV RX9 220 RX9 yX9_asked__ wsX9_asked__) := goodIn_app (goodIn_of _ (by decide +kernel)) ggX9_ask_X9_asked__
set_option maxRecDepth 20000 in
theorem ggX9_ask_X9_asks : GoodIn wsX9_ask wsX9_asks := goodIn_r _ [37, 3, 2, 38, 39, 4, 40, 41, 1, 42, 43, 44, 7, 45, 46, 47, 17, 18, 19, 20, 21, 22, 23, 24, 25, 26, 27, 28, 48, 49, 50, 51, 52, 53, 54, 55, 56, 57, 58, 59, 60, 61, 62, 63, 64, 65, 66, 67, 68, 69, 70, 71, 72, 73, 74, 75, 76, 77, 78, 79, 80, 86, 87, 88, 89, 90, 91, 92, 93, 94, 95, 96, 97, 98, 99, 100, 101, 102, 103, 104, 105, 106, 107, 108, 109, 110, 111, 112, 113, 114, 115, 116, 117, 118, 119, 120, 121, 122] (by decide +kernel) (by decide +kernel)
set_option maxRecDepth 20000 in
theorem gX9_ask_X9_asks : GoodIn wsX9_ask (wsV RX9 223 RX9 yX9_asks wsX9_asks) := goodIn_app (goodIn_of _ (by decide +kernel)) ggX9_ask_X9_asks
set_option maxRecDepth 20000 in
theorem ggX9_ask_X9_tell : GoodIn wsX9_ask wsX9_tell := goodIn_r _ [84, 85, 86, 87, 88, 89, 90, 91, 92, 93, 94, 95, 96, 97, 98, 99, 100, 101, 102, 103, 104, 105, 106, 107, 108, 109, 110, 111, 112, 113, 114, 115, 116, 117, 118, 119, 120, 121, 122] (by decide +kernel) (by decide +kernel)
set_option maxRecDepth 20000 in
theorem gX9_ask_X9_tell : GoodIn wsX9_ask (wsV RX9 227 RX9 yX9_tell wsX9_tell) := goodIn_app (goodIn_of _ (by decide +kernel)) ggX9_ask_X9_tell
theorem dX9_ask_0 : decode cX9_ask 0 = .ok (.iload_n 2, 1) := by decide +kernel
theorem dX9_ask_1 : decode cX9_ask 1 = .ok (.invokestatic 106, 3) := by decide +kernel
theorem dX9_ask_4 : decode cX9_ask 4 = .ok (.ifCond .eq 16, 3) := by decide +kernel
theorem dX9_ask_7 : decode cX9_ask 7 = .ok (.iload_n 3, 1) := by decide +kernel
theorem dX9_ask_8 : decode cX9_ask 8 = .ok (.iconst 0, 1) := by decide +kernel
theorem dX9_ask_9 : decode cX9_ask 9 = .ok (.iconst 4, 1) := by decide +kernel
theorem dX9_ask_10 : decode cX9_ask 10 = .ok (.invokestatic 102, 3) := by decide +kernel
theorem dX9_ask_13 : decode cX9_ask 13 = .ok (.ifCond .eq 7, 3) := by decide +kernel
theorem dX9_ask_16 : decode cX9_ask 16 = .ok (.iconst 1, 1) := by decide +kernel
theorem dX9_ask_17 : decode cX9_ask 17 = .ok (.goto 4, 3) := by decide +kernel
theorem dX9_ask_20 : decode cX9_ask 20 = .ok (.iconst 0, 1) := by decide +kernel
theorem dX9_ask_21 : decode cX9_ask 21 = .ok (.istore 4, 2) := by decide +kernel
theorem dX9_ask_23 : decode cX9_ask 23 = .ok (.aload_n 0, 1) := by decide +kernel
theorem dX9_ask_24 : decode cX9_ask 24 = .ok (.aload_n 0, 1) := by decide +kernel
theorem dX9_ask_25 : decode cX9_ask 25 = .ok (.iload_n 1, 1) := by decide +kernel
theorem dX9_ask_26 : decode cX9_ask 26 = .ok (.invokevirtual 159, 3) := by decide +kernel
theorem dX9_ask_29 : decode cX9_ask 29 = .ok (.iload 4, 2) := by decide +kernel
theorem dX9_ask_31 : decode cX9_ask 31 = .ok (.aload_n 0, 1) := by decide +kernel
theorem dX9_ask_32 : decode cX9_ask 32 = .ok (.iload_n 1, 1) := by decide +kernel
theorem dX9_ask_33 : decode cX9_ask 33 = .ok (.invokevirtual 159, 3) := by decide +kernel
theorem dX9_ask_36 : decode cX9_ask 36 = .ok (.ifCond .eq 25, 3) := by decide +kernel
theorem dX9_ask_39 : decode cX9_ask 39 = .ok (.iload 4, 2) := by decide +kernel
theorem dX9_ask_41 : decode cX9_ask 41 = .ok (.ifCond .eq 20, 3) := by decide +kernel
theorem dX9_ask_44 : decode cX9_ask 44 = .ok (.iload_n 2, 1) := by decide +kernel
theorem dX9_ask_45 : decode cX9_ask 45 = .ok (.aload_n 0, 1) := by decide +kernel
theorem dX9_ask_46 : decode cX9_ask 46 = .ok (.getfield 13, 3) := by decide +kernel
theorem dX9_ask_49 : decode cX9_ask 49 = .ok (.iload_n 1, 1) := by decide +kernel
theorem dX9_ask_50 : decode cX9_ask 50 = .ok (.iaload, 1) := by decide +kernel
theorem dX9_ask_51 : decode cX9_ask 51 = .ok (.invokestatic 124, 3) := by decide +kernel
theorem dX9_ask_54 : decode cX9_ask 54 = .ok (.ifCond .eq 7, 3) := by decide +kernel
theorem dX9_ask_57 : decode cX9_ask 57 = .ok (.iconst 1, 1) := by decide +kernel
theorem dX9_ask_58 : decode cX9_ask 58 = .ok (.goto 4, 3) := by decide +kernel
theorem dX9_ask_61 : decode cX9_ask 61 = .ok (.iconst 0, 1) := by decide +kernel
theorem dX9_ask_62 : decode cX9_ask 62 = .ok (.invokevirtual 220, 3) := by decide +kernel
theorem dX9_ask_65 : decode cX9_ask 65 = .ok (.ifCond .ne 5, 3) := by decide +kernel
theorem dX9_ask_68 : decode cX9_ask 68 = .ok (.iconst 0, 1) := by decide +kernel
theorem dX9_ask_69 : decode cX9_ask 69 = .ok (.ireturn, 1) := by decide +kernel
theorem dX9_ask_70 : decode cX9_ask 70 = .ok (.aload_n 0, 1) := by decide +kernel
theorem dX9_ask_71 : decode cX9_ask 71 = .ok (.iload_n 1, 1) := by decide +kernel
theorem dX9_ask_72 : decode cX9_ask 72 = .ok (.iload_n 1, 1) := by decide +kernel
theorem dX9_ask_73 : decode cX9_ask 73 = .ok (.iload_n 2, 1) := by decide +kernel
theorem dX9_ask_74 : decode cX9_ask 74 = .ok (.iload_n 3, 1) := by decide +kernel
theorem dX9_ask_75 : decode cX9_ask 75 = .ok (.invokevirtual 223, 3) := by decide +kernel
theorem dX9_ask_78 : decode cX9_ask 78 = .ok (.istore 5, 2) := by decide +kernel
theorem dX9_ask_80 : decode cX9_ask 80 = .ok (.aload_n 0, 1) := by decide +kernel
theorem dX9_ask_81 : decode cX9_ask 81 = .ok (.iload 5, 2) := by decide +kernel
theorem dX9_ask_83 : decode cX9_ask 83 = .ok (.ifCond .ne 10, 3) := by decide +kernel
theorem dX9_ask_86 : decode cX9_ask 86 = .ok (.aload_n 0, 1) := by decide +kernel
theorem dX9_ask_87 : decode cX9_ask 87 = .ok (.getfield 193, 3) := by decide +kernel
theorem dX9_ask_90 : decode cX9_ask 90 = .ok (.goto 4, 3) := by decide +kernel
theorem dX9_ask_93 : decode cX9_ask 93 = .ok (.iconst (-1), 1) := by decide +kernel
theorem dX9_ask_94 : decode cX9_ask 94 = .ok (.aload_n 0, 1) := by decide +kernel
theorem dX9_ask_95 : decode cX9_ask 95 = .ok (.getfield 190, 3) := by decide +kernel
theorem dX9_ask_98 : decode cX9_ask 98 = .ok (.aload_n 0, 1) := by decide +kernel
theorem dX9_ask_99 : decode cX9_ask 99 = .ok (.getfield 199, 3) := by decide +kernel
theorem dX9_ask_102 : decode cX9_ask 102 = .ok (.iconst 1, 1) := by decide +kernel
theorem dX9_ask_103 : decode cX9_ask 103 = .ok (.iconst 0, 1) := by decide +kernel
theorem dX9_ask_104 : decode cX9_ask 104 = .ok (.invokevirtual 227, 3) := by decide +kernel
theorem dX9_ask_107 : decode cX9_ask 107 = .ok (.iload 5, 2) := by decide +kernel
theorem dX9_ask_109 : decode cX9_ask 109 = .ok (.ireturn, 1) := by decide +kernel
set_option maxRecDepth 20000 in
theorem ggX9_told_X9_in : GoodIn wsX9_told wsX9_in := goodIn_r _ [5] (by decide +kernel) (by decide +kernel)
set_option maxRecDepth 20000 in
theorem gX9_told_X9_in : GoodIn wsX9_told (va_wsS RX9 102 yX9_in wsX9_in) := goodIn_app (goodIn_of _ (by decide +kernel)) ggX9_told_X9_in
set_option maxRecDepth 20000 in
theorem ggX9_told_X9_asked : GoodIn wsX9_told wsX9_asked := goodIn_r _ [9, 10, 11, 12, 13, 14, 15, 16, 17, 18, 19, 20, 21, 22, 23, 24, 25, 26, 27, 28, 29, 30, 31, 32, 33, 34, 35, 36, 37, 38, 39, 40, 41, 42, 43, 44, 45, 46, 47] (by decide +kernel) (by decide +kernel)
set_option maxRecDepth 20000 in
theorem gX9_told_X9_asked : GoodIn wsX9_told (wsV RX9 162 RX9 yX9_asked wsX9_asked) := goodIn_app (goodIn_of _ (by decide +kernel)) ggX9_told_X9_asked
theorem dX9_told_0 : decode cX9_told 0 = .ok (.aload_n 0, 1) := by decide +kernel
theorem dX9_told_1 : decode cX9_told 1 = .ok (.iload_n 1, 1) := by decide +kernel
theorem dX9_told_2 : decode cX9_told 2 = .ok (.iconst 0, 1) := by decide +kernel
theorem dX9_told_3 : decode cX9_told 3 = .ok (.iconst 4, 1) := by decide +kernel
theorem dX9_told_4 : decode cX9_told 4 = .ok (.invokestatic 102, 3) := by decide +kernel
theorem dX9_told_7 : decode cX9_told 7 = .ok (.invokevirtual 162, 3) := by decide +kernel
theorem dX9_told_10 : decode cX9_told 10 = .ok (.ifCond .eq 12, 3) := by decide +kernel
theorem dX9_told_13 : decode cX9_told 13 = .ok (.aload_n 0, 1) := by decide +kernel
theorem dX9_told_14 : decode cX9_told 14 = .ok (.getfield 96, 3) := by decide +kernel
theorem dX9_told_17 : decode cX9_told 17 = .ok (.iload_n 1, 1) := by decide +kernel
theorem dX9_told_18 : decode cX9_told 18 = .ok (.iaload, 1) := by decide +kernel
theorem dX9_told_19 : decode cX9_told 19 = .ok (.goto 4, 3) := by decide +kernel
theorem dX9_told_22 : decode cX9_told 22 = .ok (.iconst 0, 1) := by decide +kernel
theorem dX9_told_23 : decode cX9_told 23 = .ok (.ireturn, 1) := by decide +kernel
set_option maxRecDepth 20000 in
theorem ggX9_neighbour_X9_isZone : GoodIn wsX9_neighbour wsX9_isZone := goodIn_r _ [8, 9, 10, 11, 7, 12, 54, 55, 56, 57, 58, 59, 60, 61, 62, 63, 64, 65, 66, 67, 68, 69, 70, 71, 72, 73, 74, 75, 76, 77, 78, 79, 80, 81, 82, 83, 84, 85, 86, 87, 88, 89, 90] (by decide +kernel) (by decide +kernel)
set_option maxRecDepth 20000 in
theorem gX9_neighbour_X9_isZone : GoodIn wsX9_neighbour (wsV RX9 159 RX9 yX9_isZone wsX9_isZone) := goodIn_app (goodIn_of _ (by decide +kernel)) ggX9_neighbour_X9_isZone
set_option maxRecDepth 20000 in
theorem ggX9_neighbour_X9_isPlace : GoodIn wsX9_neighbour wsX9_isPlace := goodIn_r _ [15, 16, 17, 7, 18, 10, 11, 12, 19, 20, 21] (by decide +kernel) (by decide +kernel)
set_option maxRecDepth 20000 in
theorem gX9_neighbour_X9_isPlace : GoodIn wsX9_neighbour (va_wsS RX9 146 yX9_isPlace wsX9_isPlace) := goodIn_app (goodIn_of _ (by decide +kernel)) ggX9_neighbour_X9_isPlace
set_option maxRecDepth 20000 in
theorem ggX9_neighbour_X9_asked_ : GoodIn wsX9_neighbour wsX9_asked_ := goodIn_r _ [25, 26, 54, 55, 56, 57, 58, 59, 60, 61, 62, 63, 64, 65, 66, 67, 68, 69, 70, 71, 72, 73, 74, 75, 76, 77, 78, 79, 80, 81, 82, 83, 84, 85, 86, 87, 88, 89, 90] (by decide +kernel) (by decide +kernel)
set_option maxRecDepth 20000 in
theorem gX9_neighbour_X9_asked_ : GoodIn wsX9_neighbour (wsV RX9 142 RX9 yX9_asked_ wsX9_asked_) := goodIn_app (goodIn_of _ (by decide +kernel)) ggX9_neighbour_X9_asked_
set_option maxRecDepth 20000 in
theorem ggX9_neighbour_X9_figures : GoodIn wsX9_neighbour wsX9_figures := goodIn_r _ [29] (by decide +kernel) (by decide +kernel)
set_option maxRecDepth 20000 in
theorem gX9_neighbour_X9_figures : GoodIn wsX9_neighbour (va_wsS RX9 113 yX9_figures wsX9_figures) := goodIn_app (goodIn_of _ (by decide +kernel)) ggX9_neighbour_X9_figures
set_option maxRecDepth 20000 in
theorem ggX9_neighbour_X9_base : GoodIn wsX9_neighbour wsX9_base := goodIn_r _ [32] (by decide +kernel) (by decide +kernel)
set_option maxRecDepth 20000 in
theorem gX9_neighbour_X9_base : GoodIn wsX9_neighbour (va_wsS RX9 128 yX9_base wsX9_base) := goodIn_app (goodIn_of _ (by decide +kernel)) ggX9_neighbour_X9_base
set_option maxRecDepth 20000 in
theorem ggX9_neighbour_X9_head : GoodIn wsX9_neighbour wsX9_head := goodIn_r _ [35, 27, 28, 7, 29, 36, 37, 38] (by decide +kernel) (by decide +kernel)
set_option maxRecDepth 20000 in
theorem gX9_neighbour_X9_head : GoodIn wsX9_neighbour (va_wsS RX9 120 yX9_head wsX9_head) := goodIn_app (goodIn_of _ (by decide +kernel)) ggX9_neighbour_X9_head
set_option maxRecDepth 20000 in
theorem ggX9_neighbour_X9_nearer : GoodIn wsX9_neighbour wsX9_nearer := goodIn_r _ [42, 43, 44, 45, 7, 46, 1, 47, 3, 30, 31, 32, 48, 49, 50, 27, 28, 29, 33, 34, 35, 36, 37, 38, 51, 52, 53, 54, 55, 56, 57, 58, 59, 60, 61, 62, 63, 64, 65, 66, 67, 68, 69, 70, 71, 72, 73, 74, 75, 76, 77, 78, 79, 80, 81, 82, 83, 84, 85, 86, 87, 88, 89, 90] (by decide +kernel) (by decide +kernel)
set_option maxRecDepth 20000 in
theorem gX9_neighbour_X9_nearer : GoodIn wsX9_neighbour (wsV RX9 231 RX9 yX9_nearer wsX9_nearer) := goodIn_app (goodIn_of _ (by decide +kernel)) ggX9_neighbour_X9_nearer
theorem dX9_neighbour_0 : decode cX9_neighbour 0 = .ok (.aload_n 0, 1) := by decide +kernel
theorem dX9_neighbour_1 : decode cX9_neighbour 1 = .ok (.aload_n 0, 1) := by decide +kernel
theorem dX9_neighbour_2 : decode cX9_neighbour 2 = .ok (.iload_n 1, 1) := by decide +kernel
theorem dX9_neighbour_3 : decode cX9_neighbour 3 = .ok (.invokevirtual 159, 3) := by decide +kernel
theorem dX9_neighbour_6 : decode cX9_neighbour 6 = .ok (.iload_n 2, 1) := by decide +kernel
theorem dX9_neighbour_7 : decode cX9_neighbour 7 = .ok (.invokestatic 146, 3) := by decide +kernel
theorem dX9_neighbour_10 : decode cX9_neighbour 10 = .ok (.invokevirtual 142, 3) := by decide +kernel
theorem dX9_neighbour_13 : decode cX9_neighbour 13 = .ok (.ifCond .ne 5, 3) := by decide +kernel
theorem dX9_neighbour_16 : decode cX9_neighbour 16 = .ok (.iconst 0, 1) := by decide +kernel
theorem dX9_neighbour_17 : decode cX9_neighbour 17 = .ok (.ireturn, 1) := by decide +kernel
theorem dX9_neighbour_18 : decode cX9_neighbour 18 = .ok (.iconst (-1), 1) := by decide +kernel
theorem dX9_neighbour_19 : decode cX9_neighbour 19 = .ok (.istore 4, 2) := by decide +kernel
theorem dX9_neighbour_21 : decode cX9_neighbour 21 = .ok (.bipush 32, 2) := by decide +kernel
theorem dX9_neighbour_23 : decode cX9_neighbour 23 = .ok (.iload_n 1, 1) := by decide +kernel
theorem dX9_neighbour_24 : decode cX9_neighbour 24 = .ok (.imul, 1) := by decide +kernel
theorem dX9_neighbour_25 : decode cX9_neighbour 25 = .ok (.istore 5, 2) := by decide +kernel
theorem dX9_neighbour_27 : decode cX9_neighbour 27 = .ok (.iload 5, 2) := by decide +kernel
theorem dX9_neighbour_29 : decode cX9_neighbour 29 = .ok (.bipush 32, 2) := by decide +kernel
theorem dX9_neighbour_31 : decode cX9_neighbour 31 = .ok (.iload_n 1, 1) := by decide +kernel
theorem dX9_neighbour_32 : decode cX9_neighbour 32 = .ok (.imul, 1) := by decide +kernel
theorem dX9_neighbour_33 : decode cX9_neighbour 33 = .ok (.aload_n 0, 1) := by decide +kernel
theorem dX9_neighbour_34 : decode cX9_neighbour 34 = .ok (.getfield 42, 3) := by decide +kernel
theorem dX9_neighbour_37 : decode cX9_neighbour 37 = .ok (.iload_n 1, 1) := by decide +kernel
theorem dX9_neighbour_38 : decode cX9_neighbour 38 = .ok (.iaload, 1) := by decide +kernel
theorem dX9_neighbour_39 : decode cX9_neighbour 39 = .ok (.iadd, 1) := by decide +kernel
theorem dX9_neighbour_40 : decode cX9_neighbour 40 = .ok (.if_icmp .ge 88, 3) := by decide +kernel
theorem dX9_neighbour_43 : decode cX9_neighbour 43 = .ok (.aload_n 0, 1) := by decide +kernel
theorem dX9_neighbour_44 : decode cX9_neighbour 44 = .ok (.getfield 13, 3) := by decide +kernel
theorem dX9_neighbour_47 : decode cX9_neighbour 47 = .ok (.iload_n 1, 1) := by decide +kernel
theorem dX9_neighbour_48 : decode cX9_neighbour 48 = .ok (.iaload, 1) := by decide +kernel
theorem dX9_neighbour_49 : decode cX9_neighbour 49 = .ok (.invokestatic 113, 3) := by decide +kernel
theorem dX9_neighbour_52 : decode cX9_neighbour 52 = .ok (.istore 6, 2) := by decide +kernel
theorem dX9_neighbour_54 : decode cX9_neighbour 54 = .ok (.iload 6, 2) := by decide +kernel
theorem dX9_neighbour_56 : decode cX9_neighbour 56 = .ok (.aload_n 0, 1) := by decide +kernel
theorem dX9_neighbour_57 : decode cX9_neighbour 57 = .ok (.getfield 45, 3) := by decide +kernel
theorem dX9_neighbour_60 : decode cX9_neighbour 60 = .ok (.iload 5, 2) := by decide +kernel
theorem dX9_neighbour_62 : decode cX9_neighbour 62 = .ok (.iaload, 1) := by decide +kernel
theorem dX9_neighbour_63 : decode cX9_neighbour 63 = .ok (.invokestatic 128, 3) := by decide +kernel
theorem dX9_neighbour_66 : decode cX9_neighbour 66 = .ok (.invokestatic 113, 3) := by decide +kernel
theorem dX9_neighbour_69 : decode cX9_neighbour 69 = .ok (.if_icmp .gt 35, 3) := by decide +kernel
theorem dX9_neighbour_72 : decode cX9_neighbour 72 = .ok (.aload_n 0, 1) := by decide +kernel
theorem dX9_neighbour_73 : decode cX9_neighbour 73 = .ok (.iload_n 1, 1) := by decide +kernel
theorem dX9_neighbour_74 : decode cX9_neighbour 74 = .ok (.iload_n 2, 1) := by decide +kernel
theorem dX9_neighbour_75 : decode cX9_neighbour 75 = .ok (.iload_n 3, 1) := by decide +kernel
theorem dX9_neighbour_76 : decode cX9_neighbour 76 = .ok (.aload_n 0, 1) := by decide +kernel
theorem dX9_neighbour_77 : decode cX9_neighbour 77 = .ok (.getfield 45, 3) := by decide +kernel
theorem dX9_neighbour_80 : decode cX9_neighbour 80 = .ok (.iload 5, 2) := by decide +kernel
theorem dX9_neighbour_82 : decode cX9_neighbour 82 = .ok (.iaload, 1) := by decide +kernel
theorem dX9_neighbour_83 : decode cX9_neighbour 83 = .ok (.invokestatic 128, 3) := by decide +kernel
theorem dX9_neighbour_86 : decode cX9_neighbour 86 = .ok (.iload 6, 2) := by decide +kernel
theorem dX9_neighbour_88 : decode cX9_neighbour 88 = .ok (.invokestatic 120, 3) := by decide +kernel
theorem dX9_neighbour_91 : decode cX9_neighbour 91 = .ok (.iload 4, 2) := by decide +kernel
theorem dX9_neighbour_93 : decode cX9_neighbour 93 = .ok (.invokevirtual 231, 3) := by decide +kernel
theorem dX9_neighbour_96 : decode cX9_neighbour 96 = .ok (.istore 4, 2) := by decide +kernel
theorem dX9_neighbour_98 : decode cX9_neighbour 98 = .ok (.iinc 6 1, 3) := by decide +kernel
theorem dX9_neighbour_101 : decode cX9_neighbour 101 = .ok (.goto (-47), 3) := by decide +kernel
theorem dX9_neighbour_104 : decode cX9_neighbour 104 = .ok (.aload_n 0, 1) := by decide +kernel
theorem dX9_neighbour_105 : decode cX9_neighbour 105 = .ok (.iload_n 1, 1) := by decide +kernel
theorem dX9_neighbour_106 : decode cX9_neighbour 106 = .ok (.iload_n 2, 1) := by decide +kernel
theorem dX9_neighbour_107 : decode cX9_neighbour 107 = .ok (.iload_n 3, 1) := by decide +kernel
theorem dX9_neighbour_108 : decode cX9_neighbour 108 = .ok (.aload_n 0, 1) := by decide +kernel
theorem dX9_neighbour_109 : decode cX9_neighbour 109 = .ok (.getfield 45, 3) := by decide +kernel
theorem dX9_neighbour_112 : decode cX9_neighbour 112 = .ok (.iload 5, 2) := by decide +kernel
theorem dX9_neighbour_114 : decode cX9_neighbour 114 = .ok (.iaload, 1) := by decide +kernel
theorem dX9_neighbour_115 : decode cX9_neighbour 115 = .ok (.iload 4, 2) := by decide +kernel
theorem dX9_neighbour_117 : decode cX9_neighbour 117 = .ok (.invokevirtual 231, 3) := by decide +kernel
theorem dX9_neighbour_120 : decode cX9_neighbour 120 = .ok (.istore 4, 2) := by decide +kernel
theorem dX9_neighbour_122 : decode cX9_neighbour 122 = .ok (.iinc 5 1, 3) := by decide +kernel
theorem dX9_neighbour_125 : decode cX9_neighbour 125 = .ok (.goto (-98), 3) := by decide +kernel
theorem dX9_neighbour_128 : decode cX9_neighbour 128 = .ok (.iload 4, 2) := by decide +kernel
theorem dX9_neighbour_130 : decode cX9_neighbour 130 = .ok (.ireturn, 1) := by decide +kernel
set_option maxRecDepth 20000 in
theorem ggX9_nearer_X9_isOwn : GoodIn wsX9_nearer wsX9_isOwn := goodIn_r _ [5, 6, 7, 8, 9, 10, 4, 11, 12, 13, 14, 15, 16, 17, 18, 19, 20, 21, 22, 23, 27, 28, 29, 30, 31, 32, 33, 34, 35, 36, 37, 38, 39, 40, 41, 42, 43, 44, 45, 46, 47, 48, 49, 50, 51, 52, 53, 54, 55, 56, 57, 58, 59, 60, 61, 62, 63] (by decide +kernel) (by decide +kernel)
set_option maxRecDepth 20000 in
theorem gX9_nearer_X9_isOwn : GoodIn wsX9_nearer (wsV RX9 175 RX9 yX9_isOwn wsX9_isOwn) := goodIn_app (goodIn_of _ (by decide +kernel)) ggX9_nearer_X9_isOwn
set_option maxRecDepth 20000 in
theorem ggX9_nearer_X9_order : GoodIn wsX9_nearer wsX9_order := goodIn_r _ [26, 15, 16, 4, 17, 21, 22, 23] (by decide +kernel) (by decide +kernel)
set_option maxRecDepth 20000 in
theorem gX9_nearer_X9_order : GoodIn wsX9_nearer (va_wsS RX9 235 yX9_order wsX9_order) := goodIn_app (goodIn_of _ (by decide +kernel)) ggX9_nearer_X9_order
theorem dX9_nearer_0 : decode cX9_nearer 0 = .ok (.aload_n 0, 1) := by decide +kernel
theorem dX9_nearer_1 : decode cX9_nearer 1 = .ok (.iload_n 1, 1) := by decide +kernel
theorem dX9_nearer_2 : decode cX9_nearer 2 = .ok (.iload 4, 2) := by decide +kernel
theorem dX9_nearer_4 : decode cX9_nearer 4 = .ok (.invokevirtual 175, 3) := by decide +kernel
theorem dX9_nearer_7 : decode cX9_nearer 7 = .ok (.ifCond .eq 28, 3) := by decide +kernel
theorem dX9_nearer_10 : decode cX9_nearer 10 = .ok (.iload 4, 2) := by decide +kernel
theorem dX9_nearer_12 : decode cX9_nearer 12 = .ok (.invokestatic 235, 3) := by decide +kernel
theorem dX9_nearer_15 : decode cX9_nearer 15 = .ok (.iload_n 2, 1) := by decide +kernel
theorem dX9_nearer_16 : decode cX9_nearer 16 = .ok (.invokestatic 235, 3) := by decide +kernel
theorem dX9_nearer_19 : decode cX9_nearer 19 = .ok (.if_icmp .le 7, 3) := by decide +kernel
theorem dX9_nearer_22 : decode cX9_nearer 22 = .ok (.iconst 1, 1) := by decide +kernel
theorem dX9_nearer_23 : decode cX9_nearer 23 = .ok (.goto 4, 3) := by decide +kernel
theorem dX9_nearer_26 : decode cX9_nearer 26 = .ok (.iconst 0, 1) := by decide +kernel
theorem dX9_nearer_27 : decode cX9_nearer 27 = .ok (.iload_n 3, 1) := by decide +kernel
theorem dX9_nearer_28 : decode cX9_nearer 28 = .ok (.if_icmp .ne 7, 3) := by decide +kernel
theorem dX9_nearer_31 : decode cX9_nearer 31 = .ok (.iconst 1, 1) := by decide +kernel
theorem dX9_nearer_32 : decode cX9_nearer 32 = .ok (.goto 4, 3) := by decide +kernel
theorem dX9_nearer_35 : decode cX9_nearer 35 = .ok (.iconst 0, 1) := by decide +kernel
theorem dX9_nearer_36 : decode cX9_nearer 36 = .ok (.istore 6, 2) := by decide +kernel
theorem dX9_nearer_38 : decode cX9_nearer 38 = .ok (.iload 6, 2) := by decide +kernel
theorem dX9_nearer_40 : decode cX9_nearer 40 = .ok (.ifCond .eq 36, 3) := by decide +kernel
theorem dX9_nearer_43 : decode cX9_nearer 43 = .ok (.iload 5, 2) := by decide +kernel
theorem dX9_nearer_45 : decode cX9_nearer 45 = .ok (.iconst (-1), 1) := by decide +kernel
theorem dX9_nearer_46 : decode cX9_nearer 46 = .ok (.if_icmp .eq 25, 3) := by decide +kernel
theorem dX9_nearer_49 : decode cX9_nearer 49 = .ok (.iload 4, 2) := by decide +kernel
theorem dX9_nearer_51 : decode cX9_nearer 51 = .ok (.invokestatic 235, 3) := by decide +kernel
theorem dX9_nearer_54 : decode cX9_nearer 54 = .ok (.iload 5, 2) := by decide +kernel
theorem dX9_nearer_56 : decode cX9_nearer 56 = .ok (.invokestatic 235, 3) := by decide +kernel
theorem dX9_nearer_59 : decode cX9_nearer 59 = .ok (.if_icmp .ge 7, 3) := by decide +kernel
theorem dX9_nearer_62 : decode cX9_nearer 62 = .ok (.iconst 1, 1) := by decide +kernel
theorem dX9_nearer_63 : decode cX9_nearer 63 = .ok (.goto 4, 3) := by decide +kernel
theorem dX9_nearer_66 : decode cX9_nearer 66 = .ok (.iconst 0, 1) := by decide +kernel
theorem dX9_nearer_67 : decode cX9_nearer 67 = .ok (.iload_n 3, 1) := by decide +kernel
theorem dX9_nearer_68 : decode cX9_nearer 68 = .ok (.if_icmp .ne 8, 3) := by decide +kernel
theorem dX9_nearer_71 : decode cX9_nearer 71 = .ok (.iload 4, 2) := by decide +kernel
theorem dX9_nearer_73 : decode cX9_nearer 73 = .ok (.goto 5, 3) := by decide +kernel
theorem dX9_nearer_76 : decode cX9_nearer 76 = .ok (.iload 5, 2) := by decide +kernel
theorem dX9_nearer_78 : decode cX9_nearer 78 = .ok (.ireturn, 1) := by decide +kernel
theorem dX9_keptOf_0 : decode cX9_keptOf 0 = .ok (.iconst 0, 1) := by decide +kernel
theorem dX9_keptOf_1 : decode cX9_keptOf 1 = .ok (.istore_n 3, 1) := by decide +kernel
theorem dX9_keptOf_2 : decode cX9_keptOf 2 = .ok (.iload_n 3, 1) := by decide +kernel
theorem dX9_keptOf_3 : decode cX9_keptOf 3 = .ok (.aload_n 0, 1) := by decide +kernel
theorem dX9_keptOf_4 : decode cX9_keptOf 4 = .ok (.getfield 238, 3) := by decide +kernel
theorem dX9_keptOf_7 : decode cX9_keptOf 7 = .ok (.if_icmp .ge 31, 3) := by decide +kernel
theorem dX9_keptOf_10 : decode cX9_keptOf 10 = .ok (.aload_n 0, 1) := by decide +kernel
theorem dX9_keptOf_11 : decode cX9_keptOf 11 = .ok (.getfield 75, 3) := by decide +kernel
theorem dX9_keptOf_14 : decode cX9_keptOf 14 = .ok (.iload_n 3, 1) := by decide +kernel
theorem dX9_keptOf_15 : decode cX9_keptOf 15 = .ok (.iaload, 1) := by decide +kernel
theorem dX9_keptOf_16 : decode cX9_keptOf 16 = .ok (.iload_n 1, 1) := by decide +kernel
theorem dX9_keptOf_17 : decode cX9_keptOf 17 = .ok (.if_icmp .ne 15, 3) := by decide +kernel
theorem dX9_keptOf_20 : decode cX9_keptOf 20 = .ok (.aload_n 0, 1) := by decide +kernel
theorem dX9_keptOf_21 : decode cX9_keptOf 21 = .ok (.getfield 78, 3) := by decide +kernel
theorem dX9_keptOf_24 : decode cX9_keptOf 24 = .ok (.iload_n 3, 1) := by decide +kernel
theorem dX9_keptOf_25 : decode cX9_keptOf 25 = .ok (.iaload, 1) := by decide +kernel
theorem dX9_keptOf_26 : decode cX9_keptOf 26 = .ok (.iload_n 2, 1) := by decide +kernel
theorem dX9_keptOf_27 : decode cX9_keptOf 27 = .ok (.if_icmp .ne 5, 3) := by decide +kernel
theorem dX9_keptOf_30 : decode cX9_keptOf 30 = .ok (.iload_n 3, 1) := by decide +kernel
theorem dX9_keptOf_31 : decode cX9_keptOf 31 = .ok (.ireturn, 1) := by decide +kernel
theorem dX9_keptOf_32 : decode cX9_keptOf 32 = .ok (.iinc 3 1, 3) := by decide +kernel
theorem dX9_keptOf_35 : decode cX9_keptOf 35 = .ok (.goto (-33), 3) := by decide +kernel
theorem dX9_keptOf_38 : decode cX9_keptOf 38 = .ok (.iconst (-1), 1) := by decide +kernel
theorem dX9_keptOf_39 : decode cX9_keptOf 39 = .ok (.ireturn, 1) := by decide +kernel
theorem dX9_shifts_0 : decode cX9_shifts 0 = .ok (.aload_n 0, 1) := by decide +kernel
theorem dX9_shifts_1 : decode cX9_shifts 1 = .ok (.dup, 1) := by decide +kernel
theorem dX9_shifts_2 : decode cX9_shifts 2 = .ok (.getfield 238, 3) := by decide +kernel
theorem dX9_shifts_5 : decode cX9_shifts 5 = .ok (.iconst 1, 1) := by decide +kernel
theorem dX9_shifts_6 : decode cX9_shifts 6 = .ok (.isub, 1) := by decide +kernel
theorem dX9_shifts_7 : decode cX9_shifts 7 = .ok (.putfield 238, 3) := by decide +kernel
theorem dX9_shifts_10 : decode cX9_shifts 10 = .ok (.iload_n 1, 1) := by decide +kernel
theorem dX9_shifts_11 : decode cX9_shifts 11 = .ok (.istore_n 2, 1) := by decide +kernel
theorem dX9_shifts_12 : decode cX9_shifts 12 = .ok (.iload_n 2, 1) := by decide +kernel
theorem dX9_shifts_13 : decode cX9_shifts 13 = .ok (.aload_n 0, 1) := by decide +kernel
theorem dX9_shifts_14 : decode cX9_shifts 14 = .ok (.getfield 238, 3) := by decide +kernel
theorem dX9_shifts_17 : decode cX9_shifts 17 = .ok (.if_icmp .ge 107, 3) := by decide +kernel
theorem dX9_shifts_20 : decode cX9_shifts 20 = .ok (.aload_n 0, 1) := by decide +kernel
theorem dX9_shifts_21 : decode cX9_shifts 21 = .ok (.getfield 75, 3) := by decide +kernel
theorem dX9_shifts_24 : decode cX9_shifts 24 = .ok (.iload_n 2, 1) := by decide +kernel
theorem dX9_shifts_25 : decode cX9_shifts 25 = .ok (.aload_n 0, 1) := by decide +kernel
theorem dX9_shifts_26 : decode cX9_shifts 26 = .ok (.getfield 75, 3) := by decide +kernel
theorem dX9_shifts_29 : decode cX9_shifts 29 = .ok (.iload_n 2, 1) := by decide +kernel
theorem dX9_shifts_30 : decode cX9_shifts 30 = .ok (.iconst 1, 1) := by decide +kernel
theorem dX9_shifts_31 : decode cX9_shifts 31 = .ok (.iadd, 1) := by decide +kernel
theorem dX9_shifts_32 : decode cX9_shifts 32 = .ok (.iaload, 1) := by decide +kernel
theorem dX9_shifts_33 : decode cX9_shifts 33 = .ok (.iastore, 1) := by decide +kernel
theorem dX9_shifts_34 : decode cX9_shifts 34 = .ok (.aload_n 0, 1) := by decide +kernel
theorem dX9_shifts_35 : decode cX9_shifts 35 = .ok (.getfield 78, 3) := by decide +kernel
theorem dX9_shifts_38 : decode cX9_shifts 38 = .ok (.iload_n 2, 1) := by decide +kernel
theorem dX9_shifts_39 : decode cX9_shifts 39 = .ok (.aload_n 0, 1) := by decide +kernel
theorem dX9_shifts_40 : decode cX9_shifts 40 = .ok (.getfield 78, 3) := by decide +kernel
theorem dX9_shifts_43 : decode cX9_shifts 43 = .ok (.iload_n 2, 1) := by decide +kernel
theorem dX9_shifts_44 : decode cX9_shifts 44 = .ok (.iconst 1, 1) := by decide +kernel
theorem dX9_shifts_45 : decode cX9_shifts 45 = .ok (.iadd, 1) := by decide +kernel
theorem dX9_shifts_46 : decode cX9_shifts 46 = .ok (.iaload, 1) := by decide +kernel
theorem dX9_shifts_47 : decode cX9_shifts 47 = .ok (.iastore, 1) := by decide +kernel
theorem dX9_shifts_48 : decode cX9_shifts 48 = .ok (.aload_n 0, 1) := by decide +kernel
theorem dX9_shifts_49 : decode cX9_shifts 49 = .ok (.getfield 81, 3) := by decide +kernel
theorem dX9_shifts_52 : decode cX9_shifts 52 = .ok (.iload_n 2, 1) := by decide +kernel
theorem dX9_shifts_53 : decode cX9_shifts 53 = .ok (.aload_n 0, 1) := by decide +kernel
theorem dX9_shifts_54 : decode cX9_shifts 54 = .ok (.getfield 81, 3) := by decide +kernel
theorem dX9_shifts_57 : decode cX9_shifts 57 = .ok (.iload_n 2, 1) := by decide +kernel
theorem dX9_shifts_58 : decode cX9_shifts 58 = .ok (.iconst 1, 1) := by decide +kernel
theorem dX9_shifts_59 : decode cX9_shifts 59 = .ok (.iadd, 1) := by decide +kernel
theorem dX9_shifts_60 : decode cX9_shifts 60 = .ok (.iaload, 1) := by decide +kernel
theorem dX9_shifts_61 : decode cX9_shifts 61 = .ok (.iastore, 1) := by decide +kernel
theorem dX9_shifts_62 : decode cX9_shifts 62 = .ok (.aload_n 0, 1) := by decide +kernel
theorem dX9_shifts_63 : decode cX9_shifts 63 = .ok (.getfield 84, 3) := by decide +kernel
theorem dX9_shifts_66 : decode cX9_shifts 66 = .ok (.iload_n 2, 1) := by decide +kernel
theorem dX9_shifts_67 : decode cX9_shifts 67 = .ok (.aload_n 0, 1) := by decide +kernel
theorem dX9_shifts_68 : decode cX9_shifts 68 = .ok (.getfield 84, 3) := by decide +kernel
theorem dX9_shifts_71 : decode cX9_shifts 71 = .ok (.iload_n 2, 1) := by decide +kernel
theorem dX9_shifts_72 : decode cX9_shifts 72 = .ok (.iconst 1, 1) := by decide +kernel
theorem dX9_shifts_73 : decode cX9_shifts 73 = .ok (.iadd, 1) := by decide +kernel
theorem dX9_shifts_74 : decode cX9_shifts 74 = .ok (.iaload, 1) := by decide +kernel
theorem dX9_shifts_75 : decode cX9_shifts 75 = .ok (.iastore, 1) := by decide +kernel
theorem dX9_shifts_76 : decode cX9_shifts 76 = .ok (.aload_n 0, 1) := by decide +kernel
theorem dX9_shifts_77 : decode cX9_shifts 77 = .ok (.getfield 87, 3) := by decide +kernel
theorem dX9_shifts_80 : decode cX9_shifts 80 = .ok (.iload_n 2, 1) := by decide +kernel
theorem dX9_shifts_81 : decode cX9_shifts 81 = .ok (.aload_n 0, 1) := by decide +kernel
theorem dX9_shifts_82 : decode cX9_shifts 82 = .ok (.getfield 87, 3) := by decide +kernel
theorem dX9_shifts_85 : decode cX9_shifts 85 = .ok (.iload_n 2, 1) := by decide +kernel
theorem dX9_shifts_86 : decode cX9_shifts 86 = .ok (.iconst 1, 1) := by decide +kernel
theorem dX9_shifts_87 : decode cX9_shifts 87 = .ok (.iadd, 1) := by decide +kernel
theorem dX9_shifts_88 : decode cX9_shifts 88 = .ok (.iaload, 1) := by decide +kernel
theorem dX9_shifts_89 : decode cX9_shifts 89 = .ok (.iastore, 1) := by decide +kernel
theorem dX9_shifts_90 : decode cX9_shifts 90 = .ok (.aload_n 0, 1) := by decide +kernel
theorem dX9_shifts_91 : decode cX9_shifts 91 = .ok (.getfield 90, 3) := by decide +kernel
theorem dX9_shifts_94 : decode cX9_shifts 94 = .ok (.iload_n 2, 1) := by decide +kernel
theorem dX9_shifts_95 : decode cX9_shifts 95 = .ok (.aload_n 0, 1) := by decide +kernel
theorem dX9_shifts_96 : decode cX9_shifts 96 = .ok (.getfield 90, 3) := by decide +kernel
theorem dX9_shifts_99 : decode cX9_shifts 99 = .ok (.iload_n 2, 1) := by decide +kernel
theorem dX9_shifts_100 : decode cX9_shifts 100 = .ok (.iconst 1, 1) := by decide +kernel
theorem dX9_shifts_101 : decode cX9_shifts 101 = .ok (.iadd, 1) := by decide +kernel
theorem dX9_shifts_102 : decode cX9_shifts 102 = .ok (.iaload, 1) := by decide +kernel
theorem dX9_shifts_103 : decode cX9_shifts 103 = .ok (.iastore, 1) := by decide +kernel
theorem dX9_shifts_104 : decode cX9_shifts 104 = .ok (.aload_n 0, 1) := by decide +kernel
theorem dX9_shifts_105 : decode cX9_shifts 105 = .ok (.getfield 93, 3) := by decide +kernel
theorem dX9_shifts_108 : decode cX9_shifts 108 = .ok (.iload_n 2, 1) := by decide +kernel
theorem dX9_shifts_109 : decode cX9_shifts 109 = .ok (.aload_n 0, 1) := by decide +kernel
theorem dX9_shifts_110 : decode cX9_shifts 110 = .ok (.getfield 93, 3) := by decide +kernel
theorem dX9_shifts_113 : decode cX9_shifts 113 = .ok (.iload_n 2, 1) := by decide +kernel
theorem dX9_shifts_114 : decode cX9_shifts 114 = .ok (.iconst 1, 1) := by decide +kernel
theorem dX9_shifts_115 : decode cX9_shifts 115 = .ok (.iadd, 1) := by decide +kernel
theorem dX9_shifts_116 : decode cX9_shifts 116 = .ok (.iaload, 1) := by decide +kernel
theorem dX9_shifts_117 : decode cX9_shifts 117 = .ok (.iastore, 1) := by decide +kernel
theorem dX9_shifts_118 : decode cX9_shifts 118 = .ok (.iinc 2 1, 3) := by decide +kernel
theorem dX9_shifts_121 : decode cX9_shifts 121 = .ok (.goto (-109), 3) := by decide +kernel
theorem dX9_shifts_124 : decode cX9_shifts 124 = .ok (.return_, 1) := by decide +kernel
set_option maxRecDepth 20000 in
theorem ggX9_keeps_X9_keptOf : GoodIn wsX9_keeps wsX9_keptOf := goodIn_r _ [17, 2, 1, 3, 22, 23, 24, 25, 26, 27, 28, 29, 30, 31, 32, 33, 34, 35, 36, 37, 38, 39, 40, 41, 42, 43, 44, 45, 46, 47, 48, 49, 50, 51, 52, 53, 54, 55, 56, 57, 58] (by decide +kernel) (by decide +kernel)
set_option maxRecDepth 20000 in
theorem gX9_keeps_X9_keptOf : GoodIn wsX9_keeps (wsV RX9 241 RX9 yX9_keptOf wsX9_keptOf) := goodIn_app (goodIn_of _ (by decide +kernel)) ggX9_keeps_X9_keptOf
set_option maxRecDepth 20000 in
theorem ggX9_keeps_X9_shifts : GoodIn wsX9_keeps wsX9_shifts := goodIn_r _ [21, 2, 1, 3, 4, 5, 7, 9, 11, 22, 23, 24, 25, 26, 27, 28, 29, 30, 31, 32, 33, 34, 35, 36, 37, 38, 39, 40, 41, 42, 43, 44, 45, 46, 47, 48, 49, 50, 51, 52, 53, 54, 55, 56, 57, 58] (by decide +kernel) (by decide +kernel)
set_option maxRecDepth 20000 in
theorem gX9_keeps_X9_shifts : GoodIn wsX9_keeps (wsV RX9 244 RX9 yX9_shifts wsX9_shifts) := goodIn_app (goodIn_of _ (by decide +kernel)) ggX9_keeps_X9_shifts
theorem dX9_keeps_0 : decode cX9_keeps 0 = .ok (.aload_n 0, 1) := by decide +kernel
theorem dX9_keeps_1 : decode cX9_keeps 1 = .ok (.iload_n 1, 1) := by decide +kernel
theorem dX9_keeps_2 : decode cX9_keeps 2 = .ok (.iload_n 2, 1) := by decide +kernel
theorem dX9_keeps_3 : decode cX9_keeps 3 = .ok (.invokevirtual 241, 3) := by decide +kernel
theorem dX9_keeps_6 : decode cX9_keeps 6 = .ok (.istore 4, 2) := by decide +kernel
theorem dX9_keeps_8 : decode cX9_keeps 8 = .ok (.iload 4, 2) := by decide +kernel
theorem dX9_keeps_10 : decode cX9_keeps 10 = .ok (.iconst (-1), 1) := by decide +kernel
theorem dX9_keeps_11 : decode cX9_keeps 11 = .ok (.if_icmp .eq 9, 3) := by decide +kernel
theorem dX9_keeps_14 : decode cX9_keeps 14 = .ok (.aload_n 0, 1) := by decide +kernel
theorem dX9_keeps_15 : decode cX9_keeps 15 = .ok (.iload 4, 2) := by decide +kernel
theorem dX9_keeps_17 : decode cX9_keeps 17 = .ok (.invokevirtual 244, 3) := by decide +kernel
theorem dX9_keeps_20 : decode cX9_keeps 20 = .ok (.aload_n 0, 1) := by decide +kernel
theorem dX9_keeps_21 : decode cX9_keeps 21 = .ok (.getfield 75, 3) := by decide +kernel
theorem dX9_keeps_24 : decode cX9_keeps 24 = .ok (.aload_n 0, 1) := by decide +kernel
theorem dX9_keeps_25 : decode cX9_keeps 25 = .ok (.getfield 238, 3) := by decide +kernel
theorem dX9_keeps_28 : decode cX9_keeps 28 = .ok (.iload_n 1, 1) := by decide +kernel
theorem dX9_keeps_29 : decode cX9_keeps 29 = .ok (.iastore, 1) := by decide +kernel
theorem dX9_keeps_30 : decode cX9_keeps 30 = .ok (.aload_n 0, 1) := by decide +kernel
theorem dX9_keeps_31 : decode cX9_keeps 31 = .ok (.getfield 78, 3) := by decide +kernel
theorem dX9_keeps_34 : decode cX9_keeps 34 = .ok (.aload_n 0, 1) := by decide +kernel
theorem dX9_keeps_35 : decode cX9_keeps 35 = .ok (.getfield 238, 3) := by decide +kernel
theorem dX9_keeps_38 : decode cX9_keeps 38 = .ok (.iload_n 2, 1) := by decide +kernel
theorem dX9_keeps_39 : decode cX9_keeps 39 = .ok (.iastore, 1) := by decide +kernel
theorem dX9_keeps_40 : decode cX9_keeps 40 = .ok (.aload_n 0, 1) := by decide +kernel
theorem dX9_keeps_41 : decode cX9_keeps 41 = .ok (.getfield 81, 3) := by decide +kernel
theorem dX9_keeps_44 : decode cX9_keeps 44 = .ok (.aload_n 0, 1) := by decide +kernel
theorem dX9_keeps_45 : decode cX9_keeps 45 = .ok (.getfield 238, 3) := by decide +kernel
theorem dX9_keeps_48 : decode cX9_keeps 48 = .ok (.iload_n 3, 1) := by decide +kernel
theorem dX9_keeps_49 : decode cX9_keeps 49 = .ok (.iastore, 1) := by decide +kernel
theorem dX9_keeps_50 : decode cX9_keeps 50 = .ok (.aload_n 0, 1) := by decide +kernel
theorem dX9_keeps_51 : decode cX9_keeps 51 = .ok (.getfield 84, 3) := by decide +kernel
theorem dX9_keeps_54 : decode cX9_keeps 54 = .ok (.aload_n 0, 1) := by decide +kernel
theorem dX9_keeps_55 : decode cX9_keeps 55 = .ok (.getfield 238, 3) := by decide +kernel
theorem dX9_keeps_58 : decode cX9_keeps 58 = .ok (.iload_n 3, 1) := by decide +kernel
theorem dX9_keeps_59 : decode cX9_keeps 59 = .ok (.ifCond .ne 10, 3) := by decide +kernel
theorem dX9_keeps_62 : decode cX9_keeps 62 = .ok (.aload_n 0, 1) := by decide +kernel
theorem dX9_keeps_63 : decode cX9_keeps 63 = .ok (.getfield 193, 3) := by decide +kernel
theorem dX9_keeps_66 : decode cX9_keeps 66 = .ok (.goto 4, 3) := by decide +kernel
theorem dX9_keeps_69 : decode cX9_keeps 69 = .ok (.iconst (-1), 1) := by decide +kernel
theorem dX9_keeps_70 : decode cX9_keeps 70 = .ok (.iastore, 1) := by decide +kernel
theorem dX9_keeps_71 : decode cX9_keeps 71 = .ok (.aload_n 0, 1) := by decide +kernel
theorem dX9_keeps_72 : decode cX9_keeps 72 = .ok (.getfield 87, 3) := by decide +kernel
theorem dX9_keeps_75 : decode cX9_keeps 75 = .ok (.aload_n 0, 1) := by decide +kernel
theorem dX9_keeps_76 : decode cX9_keeps 76 = .ok (.getfield 238, 3) := by decide +kernel
theorem dX9_keeps_79 : decode cX9_keeps 79 = .ok (.aload_n 0, 1) := by decide +kernel
theorem dX9_keeps_80 : decode cX9_keeps 80 = .ok (.getfield 190, 3) := by decide +kernel
theorem dX9_keeps_83 : decode cX9_keeps 83 = .ok (.iastore, 1) := by decide +kernel
theorem dX9_keeps_84 : decode cX9_keeps 84 = .ok (.aload_n 0, 1) := by decide +kernel
theorem dX9_keeps_85 : decode cX9_keeps 85 = .ok (.getfield 90, 3) := by decide +kernel
theorem dX9_keeps_88 : decode cX9_keeps 88 = .ok (.aload_n 0, 1) := by decide +kernel
theorem dX9_keeps_89 : decode cX9_keeps 89 = .ok (.getfield 238, 3) := by decide +kernel
theorem dX9_keeps_92 : decode cX9_keeps 92 = .ok (.aload_n 0, 1) := by decide +kernel
theorem dX9_keeps_93 : decode cX9_keeps 93 = .ok (.getfield 199, 3) := by decide +kernel
theorem dX9_keeps_96 : decode cX9_keeps 96 = .ok (.iastore, 1) := by decide +kernel
theorem dX9_keeps_97 : decode cX9_keeps 97 = .ok (.aload_n 0, 1) := by decide +kernel
theorem dX9_keeps_98 : decode cX9_keeps 98 = .ok (.getfield 93, 3) := by decide +kernel
theorem dX9_keeps_101 : decode cX9_keeps 101 = .ok (.aload_n 0, 1) := by decide +kernel
theorem dX9_keeps_102 : decode cX9_keeps 102 = .ok (.getfield 238, 3) := by decide +kernel
theorem dX9_keeps_105 : decode cX9_keeps 105 = .ok (.aload_n 0, 1) := by decide +kernel
theorem dX9_keeps_106 : decode cX9_keeps 106 = .ok (.getfield 248, 3) := by decide +kernel
theorem dX9_keeps_109 : decode cX9_keeps 109 = .ok (.iastore, 1) := by decide +kernel
theorem dX9_keeps_110 : decode cX9_keeps 110 = .ok (.aload_n 0, 1) := by decide +kernel
theorem dX9_keeps_111 : decode cX9_keeps 111 = .ok (.dup, 1) := by decide +kernel
theorem dX9_keeps_112 : decode cX9_keeps 112 = .ok (.getfield 238, 3) := by decide +kernel
theorem dX9_keeps_115 : decode cX9_keeps 115 = .ok (.iconst 1, 1) := by decide +kernel
theorem dX9_keeps_116 : decode cX9_keeps 116 = .ok (.iadd, 1) := by decide +kernel
theorem dX9_keeps_117 : decode cX9_keeps 117 = .ok (.putfield 238, 3) := by decide +kernel
theorem dX9_keeps_120 : decode cX9_keeps 120 = .ok (.aload_n 0, 1) := by decide +kernel
theorem dX9_keeps_121 : decode cX9_keeps 121 = .ok (.getfield 238, 3) := by decide +kernel
theorem dX9_keeps_124 : decode cX9_keeps 124 = .ok (.bipush 40, 2) := by decide +kernel
theorem dX9_keeps_126 : decode cX9_keeps 126 = .ok (.if_icmp .le 8, 3) := by decide +kernel
theorem dX9_keeps_129 : decode cX9_keeps 129 = .ok (.aload_n 0, 1) := by decide +kernel
theorem dX9_keeps_130 : decode cX9_keeps 130 = .ok (.iconst 0, 1) := by decide +kernel
theorem dX9_keeps_131 : decode cX9_keeps 131 = .ok (.invokevirtual 244, 3) := by decide +kernel
theorem dX9_keeps_134 : decode cX9_keeps 134 = .ok (.return_, 1) := by decide +kernel
set_option maxRecDepth 20000 in
theorem ggX9_bestZone_X9_isUnder : GoodIn wsX9_bestZone wsX9_isUnder := goodIn_r _ [8, 9, 10, 7, 11, 12, 13, 14, 15, 16, 17] (by decide +kernel) (by decide +kernel)
set_option maxRecDepth 20000 in
theorem gX9_bestZone_X9_isUnder : GoodIn wsX9_bestZone (va_wsS RX9 124 yX9_isUnder wsX9_isUnder) := goodIn_app (goodIn_of _ (by decide +kernel)) ggX9_bestZone_X9_isUnder
set_option maxRecDepth 20000 in
theorem ggX9_bestZone_X9_figures : GoodIn wsX9_bestZone wsX9_figures := goodIn_r _ [11] (by decide +kernel) (by decide +kernel)
set_option maxRecDepth 20000 in
theorem gX9_bestZone_X9_figures : GoodIn wsX9_bestZone (va_wsS RX9 113 yX9_figures wsX9_figures) := goodIn_app (goodIn_of _ (by decide +kernel)) ggX9_bestZone_X9_figures
theorem dX9_bestZone_0 : decode cX9_bestZone 0 = .ok (.iconst 0, 1) := by decide +kernel
theorem dX9_bestZone_1 : decode cX9_bestZone 1 = .ok (.istore 4, 2) := by decide +kernel
theorem dX9_bestZone_3 : decode cX9_bestZone 3 = .ok (.iconst 1, 1) := by decide +kernel
theorem dX9_bestZone_4 : decode cX9_bestZone 4 = .ok (.istore 5, 2) := by decide +kernel
theorem dX9_bestZone_6 : decode cX9_bestZone 6 = .ok (.iload 5, 2) := by decide +kernel
theorem dX9_bestZone_8 : decode cX9_bestZone 8 = .ok (.aload_n 0, 1) := by decide +kernel
theorem dX9_bestZone_9 : decode cX9_bestZone 9 = .ok (.getfield 7, 3) := by decide +kernel
theorem dX9_bestZone_12 : decode cX9_bestZone 12 = .ok (.if_icmp .ge 106, 3) := by decide +kernel
theorem dX9_bestZone_15 : decode cX9_bestZone 15 = .ok (.iload_n 3, 1) := by decide +kernel
theorem dX9_bestZone_16 : decode cX9_bestZone 16 = .ok (.ifCond .ne 56, 3) := by decide +kernel
theorem dX9_bestZone_19 : decode cX9_bestZone 19 = .ok (.aload_n 0, 1) := by decide +kernel
theorem dX9_bestZone_20 : decode cX9_bestZone 20 = .ok (.getfield 248, 3) := by decide +kernel
theorem dX9_bestZone_23 : decode cX9_bestZone 23 = .ok (.aload_n 0, 1) := by decide +kernel
theorem dX9_bestZone_24 : decode cX9_bestZone 24 = .ok (.getfield 72, 3) := by decide +kernel
theorem dX9_bestZone_27 : decode cX9_bestZone 27 = .ok (.iload 5, 2) := by decide +kernel
theorem dX9_bestZone_29 : decode cX9_bestZone 29 = .ok (.iaload, 1) := by decide +kernel
theorem dX9_bestZone_30 : decode cX9_bestZone 30 = .ok (.if_icmp .ge 42, 3) := by decide +kernel
theorem dX9_bestZone_33 : decode cX9_bestZone 33 = .ok (.iload_n 1, 1) := by decide +kernel
theorem dX9_bestZone_34 : decode cX9_bestZone 34 = .ok (.aload_n 0, 1) := by decide +kernel
theorem dX9_bestZone_35 : decode cX9_bestZone 35 = .ok (.getfield 13, 3) := by decide +kernel
theorem dX9_bestZone_38 : decode cX9_bestZone 38 = .ok (.iload 5, 2) := by decide +kernel
theorem dX9_bestZone_40 : decode cX9_bestZone 40 = .ok (.iaload, 1) := by decide +kernel
theorem dX9_bestZone_41 : decode cX9_bestZone 41 = .ok (.invokestatic 124, 3) := by decide +kernel
theorem dX9_bestZone_44 : decode cX9_bestZone 44 = .ok (.ifCond .eq 28, 3) := by decide +kernel
theorem dX9_bestZone_47 : decode cX9_bestZone 47 = .ok (.aload_n 0, 1) := by decide +kernel
theorem dX9_bestZone_48 : decode cX9_bestZone 48 = .ok (.getfield 13, 3) := by decide +kernel
theorem dX9_bestZone_51 : decode cX9_bestZone 51 = .ok (.iload 5, 2) := by decide +kernel
theorem dX9_bestZone_53 : decode cX9_bestZone 53 = .ok (.iaload, 1) := by decide +kernel
theorem dX9_bestZone_54 : decode cX9_bestZone 54 = .ok (.iload_n 1, 1) := by decide +kernel
theorem dX9_bestZone_55 : decode cX9_bestZone 55 = .ok (.if_icmp .ne 13, 3) := by decide +kernel
theorem dX9_bestZone_58 : decode cX9_bestZone 58 = .ok (.iload_n 2, 1) := by decide +kernel
theorem dX9_bestZone_59 : decode cX9_bestZone 59 = .ok (.iconst 3, 1) := by decide +kernel
theorem dX9_bestZone_60 : decode cX9_bestZone 60 = .ok (.if_icmp .eq 12, 3) := by decide +kernel
theorem dX9_bestZone_63 : decode cX9_bestZone 63 = .ok (.iload_n 2, 1) := by decide +kernel
theorem dX9_bestZone_64 : decode cX9_bestZone 64 = .ok (.iconst 4, 1) := by decide +kernel
theorem dX9_bestZone_65 : decode cX9_bestZone 65 = .ok (.if_icmp .eq 7, 3) := by decide +kernel
theorem dX9_bestZone_68 : decode cX9_bestZone 68 = .ok (.iconst 1, 1) := by decide +kernel
theorem dX9_bestZone_69 : decode cX9_bestZone 69 = .ok (.goto 4, 3) := by decide +kernel
theorem dX9_bestZone_72 : decode cX9_bestZone 72 = .ok (.iconst 0, 1) := by decide +kernel
theorem dX9_bestZone_73 : decode cX9_bestZone 73 = .ok (.istore 6, 2) := by decide +kernel
theorem dX9_bestZone_75 : decode cX9_bestZone 75 = .ok (.iload 6, 2) := by decide +kernel
theorem dX9_bestZone_77 : decode cX9_bestZone 77 = .ok (.ifCond .eq 31, 3) := by decide +kernel
theorem dX9_bestZone_80 : decode cX9_bestZone 80 = .ok (.aload_n 0, 1) := by decide +kernel
theorem dX9_bestZone_81 : decode cX9_bestZone 81 = .ok (.getfield 13, 3) := by decide +kernel
theorem dX9_bestZone_84 : decode cX9_bestZone 84 = .ok (.iload 5, 2) := by decide +kernel
theorem dX9_bestZone_86 : decode cX9_bestZone 86 = .ok (.iaload, 1) := by decide +kernel
theorem dX9_bestZone_87 : decode cX9_bestZone 87 = .ok (.invokestatic 113, 3) := by decide +kernel
theorem dX9_bestZone_90 : decode cX9_bestZone 90 = .ok (.aload_n 0, 1) := by decide +kernel
theorem dX9_bestZone_91 : decode cX9_bestZone 91 = .ok (.getfield 13, 3) := by decide +kernel
theorem dX9_bestZone_94 : decode cX9_bestZone 94 = .ok (.iload 4, 2) := by decide +kernel
theorem dX9_bestZone_96 : decode cX9_bestZone 96 = .ok (.iaload, 1) := by decide +kernel
theorem dX9_bestZone_97 : decode cX9_bestZone 97 = .ok (.invokestatic 113, 3) := by decide +kernel
theorem dX9_bestZone_100 : decode cX9_bestZone 100 = .ok (.if_icmp .le 8, 3) := by decide +kernel
theorem dX9_bestZone_103 : decode cX9_bestZone 103 = .ok (.iload 5, 2) := by decide +kernel
theorem dX9_bestZone_105 : decode cX9_bestZone 105 = .ok (.goto 5, 3) := by decide +kernel
theorem dX9_bestZone_108 : decode cX9_bestZone 108 = .ok (.iload 4, 2) := by decide +kernel
theorem dX9_bestZone_110 : decode cX9_bestZone 110 = .ok (.istore 4, 2) := by decide +kernel
theorem dX9_bestZone_112 : decode cX9_bestZone 112 = .ok (.iinc 5 1, 3) := by decide +kernel
theorem dX9_bestZone_115 : decode cX9_bestZone 115 = .ok (.goto (-109), 3) := by decide +kernel
theorem dX9_bestZone_118 : decode cX9_bestZone 118 = .ok (.iload 4, 2) := by decide +kernel
theorem dX9_bestZone_120 : decode cX9_bestZone 120 = .ok (.ireturn, 1) := by decide +kernel
theorem dX9_code_0 : decode cX9_code 0 = .ok (.bipush 31, 2) := by decide +kernel
theorem dX9_code_2 : decode cX9_code 2 = .ok (.iload_n 1, 1) := by decide +kernel
theorem dX9_code_3 : decode cX9_code 3 = .ok (.imul, 1) := by decide +kernel
theorem dX9_code_4 : decode cX9_code 4 = .ok (.bipush 7, 2) := by decide +kernel
theorem dX9_code_6 : decode cX9_code 6 = .ok (.iadd, 1) := by decide +kernel
theorem dX9_code_7 : decode cX9_code 7 = .ok (.sipush 997, 3) := by decide +kernel
theorem dX9_code_10 : decode cX9_code 10 = .ok (.irem, 1) := by decide +kernel
theorem dX9_code_11 : decode cX9_code 11 = .ok (.ireturn, 1) := by decide +kernel
set_option maxRecDepth 20000 in
theorem ggX9_isGood_X9_code : GoodIn wsX9_isGood wsX9_code := goodIn_r _ [9] (by decide +kernel) (by decide +kernel)
set_option maxRecDepth 20000 in
theorem gX9_isGood_X9_code : GoodIn wsX9_isGood (wsV RX9 251 RX9 yX9_code wsX9_code) := goodIn_app (goodIn_of _ (by decide +kernel)) ggX9_isGood_X9_code
set_option maxRecDepth 20000 in
theorem ggX9_isGood_X9_in : GoodIn wsX9_isGood wsX9_in := goodIn_r _ [12] (by decide +kernel) (by decide +kernel)
set_option maxRecDepth 20000 in
theorem gX9_isGood_X9_in : GoodIn wsX9_isGood (va_wsS RX9 102 yX9_in wsX9_in) := goodIn_app (goodIn_of _ (by decide +kernel)) ggX9_isGood_X9_in
theorem dX9_isGood_0 : decode cX9_isGood 0 = .ok (.iconst 0, 1) := by decide +kernel
theorem dX9_isGood_1 : decode cX9_isGood 1 = .ok (.istore_n 3, 1) := by decide +kernel
theorem dX9_isGood_2 : decode cX9_isGood 2 = .ok (.iconst 0, 1) := by decide +kernel
theorem dX9_isGood_3 : decode cX9_isGood 3 = .ok (.istore 4, 2) := by decide +kernel
theorem dX9_isGood_5 : decode cX9_isGood 5 = .ok (.iload 4, 2) := by decide +kernel
theorem dX9_isGood_7 : decode cX9_isGood 7 = .ok (.iconst 2, 1) := by decide +kernel
theorem dX9_isGood_8 : decode cX9_isGood 8 = .ok (.if_icmp .ge 51, 3) := by decide +kernel
theorem dX9_isGood_11 : decode cX9_isGood 11 = .ok (.iload_n 3, 1) := by decide +kernel
theorem dX9_isGood_12 : decode cX9_isGood 12 = .ok (.aload_n 0, 1) := by decide +kernel
theorem dX9_isGood_13 : decode cX9_isGood 13 = .ok (.getfield 30, 3) := by decide +kernel
theorem dX9_isGood_16 : decode cX9_isGood 16 = .ok (.iconst 2, 1) := by decide +kernel
theorem dX9_isGood_17 : decode cX9_isGood 17 = .ok (.iload_n 1, 1) := by decide +kernel
theorem dX9_isGood_18 : decode cX9_isGood 18 = .ok (.imul, 1) := by decide +kernel
theorem dX9_isGood_19 : decode cX9_isGood 19 = .ok (.iload 4, 2) := by decide +kernel
theorem dX9_isGood_21 : decode cX9_isGood 21 = .ok (.iadd, 1) := by decide +kernel
theorem dX9_isGood_22 : decode cX9_isGood 22 = .ok (.iaload, 1) := by decide +kernel
theorem dX9_isGood_23 : decode cX9_isGood 23 = .ok (.iconst (-1), 1) := by decide +kernel
theorem dX9_isGood_24 : decode cX9_isGood 24 = .ok (.if_icmp .eq 26, 3) := by decide +kernel
theorem dX9_isGood_27 : decode cX9_isGood 27 = .ok (.aload_n 0, 1) := by decide +kernel
theorem dX9_isGood_28 : decode cX9_isGood 28 = .ok (.aload_n 0, 1) := by decide +kernel
theorem dX9_isGood_29 : decode cX9_isGood 29 = .ok (.getfield 30, 3) := by decide +kernel
theorem dX9_isGood_32 : decode cX9_isGood 32 = .ok (.iconst 2, 1) := by decide +kernel
theorem dX9_isGood_33 : decode cX9_isGood 33 = .ok (.iload_n 1, 1) := by decide +kernel
theorem dX9_isGood_34 : decode cX9_isGood 34 = .ok (.imul, 1) := by decide +kernel
theorem dX9_isGood_35 : decode cX9_isGood 35 = .ok (.iload 4, 2) := by decide +kernel
theorem dX9_isGood_37 : decode cX9_isGood 37 = .ok (.iadd, 1) := by decide +kernel
theorem dX9_isGood_38 : decode cX9_isGood 38 = .ok (.iaload, 1) := by decide +kernel
theorem dX9_isGood_39 : decode cX9_isGood 39 = .ok (.invokevirtual 251, 3) := by decide +kernel
theorem dX9_isGood_42 : decode cX9_isGood 42 = .ok (.iload_n 2, 1) := by decide +kernel
theorem dX9_isGood_43 : decode cX9_isGood 43 = .ok (.if_icmp .ne 7, 3) := by decide +kernel
theorem dX9_isGood_46 : decode cX9_isGood 46 = .ok (.iconst 1, 1) := by decide +kernel
theorem dX9_isGood_47 : decode cX9_isGood 47 = .ok (.goto 4, 3) := by decide +kernel
theorem dX9_isGood_50 : decode cX9_isGood 50 = .ok (.iconst 0, 1) := by decide +kernel
theorem dX9_isGood_51 : decode cX9_isGood 51 = .ok (.ior, 1) := by decide +kernel
theorem dX9_isGood_52 : decode cX9_isGood 52 = .ok (.istore_n 3, 1) := by decide +kernel
theorem dX9_isGood_53 : decode cX9_isGood 53 = .ok (.iinc 4 1, 3) := by decide +kernel
theorem dX9_isGood_56 : decode cX9_isGood 56 = .ok (.goto (-51), 3) := by decide +kernel
theorem dX9_isGood_59 : decode cX9_isGood 59 = .ok (.iload_n 3, 1) := by decide +kernel
theorem dX9_isGood_60 : decode cX9_isGood 60 = .ok (.ifCond .eq 29, 3) := by decide +kernel
theorem dX9_isGood_63 : decode cX9_isGood 63 = .ok (.aload_n 0, 1) := by decide +kernel
theorem dX9_isGood_64 : decode cX9_isGood 64 = .ok (.getfield 248, 3) := by decide +kernel
theorem dX9_isGood_67 : decode cX9_isGood 67 = .ok (.aload_n 0, 1) := by decide +kernel
theorem dX9_isGood_68 : decode cX9_isGood 68 = .ok (.getfield 33, 3) := by decide +kernel
theorem dX9_isGood_71 : decode cX9_isGood 71 = .ok (.iload_n 1, 1) := by decide +kernel
theorem dX9_isGood_72 : decode cX9_isGood 72 = .ok (.iaload, 1) := by decide +kernel
theorem dX9_isGood_73 : decode cX9_isGood 73 = .ok (.aload_n 0, 1) := by decide +kernel
theorem dX9_isGood_74 : decode cX9_isGood 74 = .ok (.getfield 36, 3) := by decide +kernel
theorem dX9_isGood_77 : decode cX9_isGood 77 = .ok (.iload_n 1, 1) := by decide +kernel
theorem dX9_isGood_78 : decode cX9_isGood 78 = .ok (.iaload, 1) := by decide +kernel
theorem dX9_isGood_79 : decode cX9_isGood 79 = .ok (.invokestatic 102, 3) := by decide +kernel
theorem dX9_isGood_82 : decode cX9_isGood 82 = .ok (.ifCond .eq 7, 3) := by decide +kernel
theorem dX9_isGood_85 : decode cX9_isGood 85 = .ok (.iconst 1, 1) := by decide +kernel
theorem dX9_isGood_86 : decode cX9_isGood 86 = .ok (.goto 4, 3) := by decide +kernel
theorem dX9_isGood_89 : decode cX9_isGood 89 = .ok (.iconst 0, 1) := by decide +kernel
theorem dX9_isGood_90 : decode cX9_isGood 90 = .ok (.ireturn, 1) := by decide +kernel
set_option maxRecDepth 20000 in
theorem ggX9_resolves_X9_keptOf : GoodIn wsX9_resolves wsX9_keptOf := goodIn_r _ [18, 19, 20, 21, 123, 124, 125, 126, 127, 128, 129, 130, 131, 132, 133, 134, 135, 136, 137, 138, 139, 140, 141, 142, 143, 144, 145, 146, 147, 148, 149, 150, 151, 152, 153, 154, 155, 156, 157, 158, 159] (by decide +kernel) (by decide +kernel)
set_option maxRecDepth 20000 in
theorem gX9_resolves_X9_keptOf : GoodIn wsX9_resolves (wsV RX9 241 RX9 yX9_keptOf wsX9_keptOf) := goodIn_app (goodIn_of _ (by decide +kernel)) ggX9_resolves_X9_keptOf
set_option maxRecDepth 20000 in
theorem ggX9_resolves_X9_takes : GoodIn wsX9_resolves wsX9_takes := goodIn_r _ [25, 26, 11, 27, 10, 6, 123, 124, 125, 126, 127, 128, 129, 130, 131, 132, 133, 134, 135, 136, 137, 138, 139, 140, 141, 142, 143, 144, 145, 146, 147, 148, 149, 150, 151, 152, 153, 154, 155, 156, 157, 158, 159] (by decide +kernel) (by decide +kernel)
set_option maxRecDepth 20000 in
theorem gX9_resolves_X9_takes : GoodIn wsX9_resolves (wsV RX9 257 RX9 yX9_takes wsX9_takes) := goodIn_app (goodIn_of _ (by decide +kernel)) ggX9_resolves_X9_takes
set_option maxRecDepth 20000 in
theorem ggX9_resolves_X9_bestZone : GoodIn wsX9_resolves wsX9_bestZone := goodIn_r _ [31, 32, 2, 13, 33, 34, 35, 17, 36, 37, 38, 39, 40, 41, 42, 43, 44, 45, 123, 124, 125, 126, 127, 128, 129, 130, 131, 132, 133, 134, 135, 136, 137, 138, 139, 140, 141, 142, 143, 144, 145, 146, 147, 148, 149, 150, 151, 152, 153, 154, 155, 156, 157, 158, 159] (by decide +kernel) (by decide +kernel)
set_option maxRecDepth 20000 in
theorem gX9_resolves_X9_bestZone : GoodIn wsX9_resolves (wsV RX9 260 RX9 yX9_bestZone wsX9_bestZone) := goodIn_app (goodIn_of _ (by decide +kernel)) ggX9_resolves_X9_bestZone
set_option maxRecDepth 20000 in
theorem ggX9_resolves_X9_code : GoodIn wsX9_resolves wsX9_code := goodIn_r _ [49] (by decide +kernel) (by decide +kernel)
set_option maxRecDepth 20000 in
theorem gX9_resolves_X9_code : GoodIn wsX9_resolves (wsV RX9 251 RX9 yX9_code wsX9_code) := goodIn_app (goodIn_of _ (by decide +kernel)) ggX9_resolves_X9_code
set_option maxRecDepth 20000 in
theorem ggX9_resolves_X9_isGood : GoodIn wsX9_resolves wsX9_isGood := goodIn_r _ [53, 54, 2, 55, 56, 46, 47, 48, 17, 49, 57, 58, 59, 123, 124, 125, 126, 127, 128, 129, 130, 131, 132, 133, 134, 135, 136, 137, 138, 139, 140, 141, 142, 143, 144, 145, 146, 147, 148, 149, 150, 151, 152, 153, 154, 155, 156, 157, 158, 159] (by decide +kernel) (by decide +kernel)
set_option maxRecDepth 20000 in
theorem gX9_resolves_X9_isGood : GoodIn wsX9_resolves (wsV RX9 264 RX9 yX9_isGood wsX9_isGood) := goodIn_app (goodIn_of _ (by decide +kernel)) ggX9_resolves_X9_isGood
set_option maxRecDepth 20000 in
theorem ggX9_resolves_X9_fails : GoodIn wsX9_resolves wsX9_fails := goodIn_r _ [63, 64, 65, 66, 17, 67, 68, 123, 124, 125, 126, 127, 128, 129, 130, 131, 132, 133, 134, 135, 136, 137, 138, 139, 140, 141, 142, 143, 144, 145, 146, 147, 148, 149, 150, 151, 152, 153, 154, 155, 156, 157, 158, 159] (by decide +kernel) (by decide +kernel)
set_option maxRecDepth 20000 in
theorem gX9_resolves_X9_fails : GoodIn wsX9_resolves (wsV RX9 267 RX9 yX9_fails wsX9_fails) := goodIn_app (goodIn_of _ (by decide +kernel)) ggX9_resolves_X9_fails
set_option maxRecDepth 20000 in
theorem ggX9_resolves_X9_asks : GoodIn wsX9_resolves wsX9_asks := goodIn_r _ [72, 10, 11, 73, 74, 6, 12, 75, 33, 76, 77, 78, 17, 79, 80, 81, 34, 35, 36, 37, 38, 39, 40, 41, 42, 43, 44, 45, 82, 83, 84, 85, 86, 87, 88, 89, 90, 91, 92, 93, 94, 95, 96, 97, 98, 99, 100, 101, 102, 103, 104, 105, 106, 107, 108, 109, 110, 111, 112, 113, 114, 123, 124, 125, 126, 127, 128, 129, 130, 131, 132, 133, 134, 135, 136, 137, 138, 139, 140, 141, 142, 143, 144, 145, 146, 147, 148, 149, 150, 151, 152, 153, 154, 155, 156, 157, 158, 159] (by decide +kernel) (by decide +kernel)
set_option maxRecDepth 20000 in
theorem gX9_resolves_X9_asks : GoodIn wsX9_resolves (wsV RX9 223 RX9 yX9_asks wsX9_asks) := goodIn_app (goodIn_of _ (by decide +kernel)) ggX9_resolves_X9_asks
set_option maxRecDepth 20000 in
theorem ggX9_resolves_X9_find : GoodIn wsX9_resolves wsX9_find := goodIn_r _ [106, 80, 73, 81, 123, 124, 125, 126, 127, 128, 129, 130, 131, 132, 133, 134, 135, 136, 137, 138, 139, 140, 141, 142, 143, 144, 145, 146, 147, 148, 149, 150, 151, 152, 153, 154, 155, 156, 157, 158, 159] (by decide +kernel) (by decide +kernel)
set_option maxRecDepth 20000 in
theorem gX9_resolves_X9_find : GoodIn wsX9_resolves (wsV RX9 135 RX9 yX9_find wsX9_find) := goodIn_app (goodIn_of _ (by decide +kernel)) ggX9_resolves_X9_find
set_option maxRecDepth 20000 in
theorem ggX9_resolves_X9_keeps : GoodIn wsX9_resolves wsX9_keeps := goodIn_r _ [118, 20, 19, 21, 5, 26, 11, 27, 10, 4, 6, 3, 2, 14, 15, 16, 17, 18, 119, 120, 121, 122, 123, 124, 125, 126, 127, 128, 129, 130, 131, 132, 133, 134, 135, 136, 137, 138, 139, 140, 141, 142, 143, 144, 145, 146, 147, 148, 149, 150, 151, 152, 153, 154, 155, 156, 157, 158, 159] (by decide +kernel) (by decide +kernel)
set_option maxRecDepth 20000 in
theorem gX9_resolves_X9_keeps : GoodIn wsX9_resolves (wsV RX9 270 RX9 yX9_keeps wsX9_keeps) := goodIn_app (goodIn_of _ (by decide +kernel)) ggX9_resolves_X9_keeps
set_option maxRecDepth 20000 in
theorem ggX9_resolves_X9_least : GoodIn wsX9_resolves wsX9_least := goodIn_r _ [110] (by decide +kernel) (by decide +kernel)
set_option maxRecDepth 20000 in
theorem gX9_resolves_X9_least : GoodIn wsX9_resolves (wsV RX9 214 RX9 yX9_least wsX9_least) := goodIn_app (goodIn_of _ (by decide +kernel)) ggX9_resolves_X9_least
set_option maxRecDepth 20000 in
theorem ggX9_resolves_X9_tell : GoodIn wsX9_resolves wsX9_tell := goodIn_r _ [67, 68, 123, 124, 125, 126, 127, 128, 129, 130, 131, 132, 133, 134, 135, 136, 137, 138, 139, 140, 141, 142, 143, 144, 145, 146, 147, 148, 149, 150, 151, 152, 153, 154, 155, 156, 157, 158, 159] (by decide +kernel) (by decide +kernel)
set_option maxRecDepth 20000 in
theorem gX9_resolves_X9_tell : GoodIn wsX9_resolves (wsV RX9 227 RX9 yX9_tell wsX9_tell) := goodIn_app (goodIn_of _ (by decide +kernel)) ggX9_resolves_X9_tell
theorem dX9_resolves_0 : decode cX9_resolves 0 = .ok (.iload_n 1, 1) := by decide +kernel
theorem dX9_resolves_1 : decode cX9_resolves 1 = .ok (.istore 5, 2) := by decide +kernel
theorem dX9_resolves_3 : decode cX9_resolves 3 = .ok (.iconst 0, 1) := by decide +kernel
theorem dX9_resolves_4 : decode cX9_resolves 4 = .ok (.istore 6, 2) := by decide +kernel
theorem dX9_resolves_6 : decode cX9_resolves 6 = .ok (.iconst 0, 1) := by decide +kernel
theorem dX9_resolves_7 : decode cX9_resolves 7 = .ok (.istore 7, 2) := by decide +kernel
theorem dX9_resolves_9 : decode cX9_resolves 9 = .ok (.sipush 1000, 3) := by decide +kernel
theorem dX9_resolves_12 : decode cX9_resolves 12 = .ok (.istore 8, 2) := by decide +kernel
theorem dX9_resolves_14 : decode cX9_resolves 14 = .ok (.iconst 0, 1) := by decide +kernel
theorem dX9_resolves_15 : decode cX9_resolves 15 = .ok (.istore 9, 2) := by decide +kernel
theorem dX9_resolves_17 : decode cX9_resolves 17 = .ok (.aload_n 0, 1) := by decide +kernel
theorem dX9_resolves_18 : decode cX9_resolves 18 = .ok (.iconst 0, 1) := by decide +kernel
theorem dX9_resolves_19 : decode cX9_resolves 19 = .ok (.putfield 254, 3) := by decide +kernel
theorem dX9_resolves_22 : decode cX9_resolves 22 = .ok (.iconst (-1), 1) := by decide +kernel
theorem dX9_resolves_23 : decode cX9_resolves 23 = .ok (.istore 10, 2) := by decide +kernel
theorem dX9_resolves_25 : decode cX9_resolves 25 = .ok (.iconst 0, 1) := by decide +kernel
theorem dX9_resolves_26 : decode cX9_resolves 26 = .ok (.istore 11, 2) := by decide +kernel
theorem dX9_resolves_28 : decode cX9_resolves 28 = .ok (.iload_n 3, 1) := by decide +kernel
theorem dX9_resolves_29 : decode cX9_resolves 29 = .ok (.ifCond .ne 9, 3) := by decide +kernel
theorem dX9_resolves_32 : decode cX9_resolves 32 = .ok (.iload 10, 2) := by decide +kernel
theorem dX9_resolves_34 : decode cX9_resolves 34 = .ok (.iconst (-1), 1) := by decide +kernel
theorem dX9_resolves_35 : decode cX9_resolves 35 = .ok (.if_icmp .eq 7, 3) := by decide +kernel
theorem dX9_resolves_38 : decode cX9_resolves 38 = .ok (.iconst (-1), 1) := by decide +kernel
theorem dX9_resolves_39 : decode cX9_resolves 39 = .ok (.goto 10, 3) := by decide +kernel
theorem dX9_resolves_42 : decode cX9_resolves 42 = .ok (.aload_n 0, 1) := by decide +kernel
theorem dX9_resolves_43 : decode cX9_resolves 43 = .ok (.iload 5, 2) := by decide +kernel
theorem dX9_resolves_45 : decode cX9_resolves 45 = .ok (.iload_n 2, 1) := by decide +kernel
theorem dX9_resolves_46 : decode cX9_resolves 46 = .ok (.invokevirtual 241, 3) := by decide +kernel
theorem dX9_resolves_49 : decode cX9_resolves 49 = .ok (.istore 12, 2) := by decide +kernel
theorem dX9_resolves_51 : decode cX9_resolves 51 = .ok (.iconst (-1), 1) := by decide +kernel
theorem dX9_resolves_52 : decode cX9_resolves 52 = .ok (.istore 13, 2) := by decide +kernel
theorem dX9_resolves_54 : decode cX9_resolves 54 = .ok (.iload 12, 2) := by decide +kernel
theorem dX9_resolves_56 : decode cX9_resolves 56 = .ok (.iconst (-1), 1) := by decide +kernel
theorem dX9_resolves_57 : decode cX9_resolves 57 = .ok (.if_icmp .eq 67, 3) := by decide +kernel
theorem dX9_resolves_60 : decode cX9_resolves 60 = .ok (.aload_n 0, 1) := by decide +kernel
theorem dX9_resolves_61 : decode cX9_resolves 61 = .ok (.getfield 248, 3) := by decide +kernel
theorem dX9_resolves_64 : decode cX9_resolves 64 = .ok (.aload_n 0, 1) := by decide +kernel
theorem dX9_resolves_65 : decode cX9_resolves 65 = .ok (.getfield 93, 3) := by decide +kernel
theorem dX9_resolves_68 : decode cX9_resolves 68 = .ok (.iload 12, 2) := by decide +kernel
theorem dX9_resolves_70 : decode cX9_resolves 70 = .ok (.iaload, 1) := by decide +kernel
theorem dX9_resolves_71 : decode cX9_resolves 71 = .ok (.aload_n 0, 1) := by decide +kernel
theorem dX9_resolves_72 : decode cX9_resolves 72 = .ok (.getfield 90, 3) := by decide +kernel
theorem dX9_resolves_75 : decode cX9_resolves 75 = .ok (.iload 12, 2) := by decide +kernel
theorem dX9_resolves_77 : decode cX9_resolves 77 = .ok (.iaload, 1) := by decide +kernel
theorem dX9_resolves_78 : decode cX9_resolves 78 = .ok (.iadd, 1) := by decide +kernel
theorem dX9_resolves_79 : decode cX9_resolves 79 = .ok (.if_icmp .ge 45, 3) := by decide +kernel
theorem dX9_resolves_82 : decode cX9_resolves 82 = .ok (.aload_n 0, 1) := by decide +kernel
theorem dX9_resolves_83 : decode cX9_resolves 83 = .ok (.getfield 81, 3) := by decide +kernel
theorem dX9_resolves_86 : decode cX9_resolves 86 = .ok (.iload 12, 2) := by decide +kernel
theorem dX9_resolves_88 : decode cX9_resolves 88 = .ok (.iaload, 1) := by decide +kernel
theorem dX9_resolves_89 : decode cX9_resolves 89 = .ok (.istore 13, 2) := by decide +kernel
theorem dX9_resolves_91 : decode cX9_resolves 91 = .ok (.aload_n 0, 1) := by decide +kernel
theorem dX9_resolves_92 : decode cX9_resolves 92 = .ok (.iload 12, 2) := by decide +kernel
theorem dX9_resolves_94 : decode cX9_resolves 94 = .ok (.invokevirtual 257, 3) := by decide +kernel
theorem dX9_resolves_97 : decode cX9_resolves 97 = .ok (.aload_n 0, 1) := by decide +kernel
theorem dX9_resolves_98 : decode cX9_resolves 98 = .ok (.aload_n 0, 1) := by decide +kernel
theorem dX9_resolves_99 : decode cX9_resolves 99 = .ok (.getfield 93, 3) := by decide +kernel
theorem dX9_resolves_102 : decode cX9_resolves 102 = .ok (.iload 12, 2) := by decide +kernel
theorem dX9_resolves_104 : decode cX9_resolves 104 = .ok (.iaload, 1) := by decide +kernel
theorem dX9_resolves_105 : decode cX9_resolves 105 = .ok (.aload_n 0, 1) := by decide +kernel
theorem dX9_resolves_106 : decode cX9_resolves 106 = .ok (.getfield 90, 3) := by decide +kernel
theorem dX9_resolves_109 : decode cX9_resolves 109 = .ok (.iload 12, 2) := by decide +kernel
theorem dX9_resolves_111 : decode cX9_resolves 111 = .ok (.iaload, 1) := by decide +kernel
theorem dX9_resolves_112 : decode cX9_resolves 112 = .ok (.iadd, 1) := by decide +kernel
theorem dX9_resolves_113 : decode cX9_resolves 113 = .ok (.aload_n 0, 1) := by decide +kernel
theorem dX9_resolves_114 : decode cX9_resolves 114 = .ok (.getfield 248, 3) := by decide +kernel
theorem dX9_resolves_117 : decode cX9_resolves 117 = .ok (.isub, 1) := by decide +kernel
theorem dX9_resolves_118 : decode cX9_resolves 118 = .ok (.putfield 199, 3) := by decide +kernel
theorem dX9_resolves_121 : decode cX9_resolves 121 = .ok (.goto 328, 3) := by decide +kernel
theorem dX9_resolves_124 : decode cX9_resolves 124 = .ok (.iload 10, 2) := by decide +kernel
theorem dX9_resolves_126 : decode cX9_resolves 126 = .ok (.iconst (-1), 1) := by decide +kernel
theorem dX9_resolves_127 : decode cX9_resolves 127 = .ok (.if_icmp .ne 48, 3) := by decide +kernel
theorem dX9_resolves_130 : decode cX9_resolves 130 = .ok (.aload_n 0, 1) := by decide +kernel
theorem dX9_resolves_131 : decode cX9_resolves 131 = .ok (.iload 5, 2) := by decide +kernel
theorem dX9_resolves_133 : decode cX9_resolves 133 = .ok (.iload_n 2, 1) := by decide +kernel
theorem dX9_resolves_134 : decode cX9_resolves 134 = .ok (.iload_n 3, 1) := by decide +kernel
theorem dX9_resolves_135 : decode cX9_resolves 135 = .ok (.invokevirtual 260, 3) := by decide +kernel
theorem dX9_resolves_138 : decode cX9_resolves 138 = .ok (.istore 10, 2) := by decide +kernel
theorem dX9_resolves_140 : decode cX9_resolves 140 = .ok (.aload_n 0, 1) := by decide +kernel
theorem dX9_resolves_141 : decode cX9_resolves 141 = .ok (.getfield 39, 3) := by decide +kernel
theorem dX9_resolves_144 : decode cX9_resolves 144 = .ok (.iconst (-1), 1) := by decide +kernel
theorem dX9_resolves_145 : decode cX9_resolves 145 = .ok (.if_icmp .ne 7, 3) := by decide +kernel
theorem dX9_resolves_148 : decode cX9_resolves 148 = .ok (.iconst 1, 1) := by decide +kernel
theorem dX9_resolves_149 : decode cX9_resolves 149 = .ok (.goto 24, 3) := by decide +kernel
theorem dX9_resolves_152 : decode cX9_resolves 152 = .ok (.aload_n 0, 1) := by decide +kernel
theorem dX9_resolves_153 : decode cX9_resolves 153 = .ok (.iconst 0, 1) := by decide +kernel
theorem dX9_resolves_154 : decode cX9_resolves 154 = .ok (.aload_n 0, 1) := by decide +kernel
theorem dX9_resolves_155 : decode cX9_resolves 155 = .ok (.aload_n 0, 1) := by decide +kernel
theorem dX9_resolves_156 : decode cX9_resolves 156 = .ok (.getfield 39, 3) := by decide +kernel
theorem dX9_resolves_159 : decode cX9_resolves 159 = .ok (.invokevirtual 251, 3) := by decide +kernel
theorem dX9_resolves_162 : decode cX9_resolves 162 = .ok (.invokevirtual 264, 3) := by decide +kernel
theorem dX9_resolves_165 : decode cX9_resolves 165 = .ok (.ifCond .eq 7, 3) := by decide +kernel
theorem dX9_resolves_168 : decode cX9_resolves 168 = .ok (.iconst 0, 1) := by decide +kernel
theorem dX9_resolves_169 : decode cX9_resolves 169 = .ok (.goto 4, 3) := by decide +kernel
theorem dX9_resolves_172 : decode cX9_resolves 172 = .ok (.iconst 2, 1) := by decide +kernel
theorem dX9_resolves_173 : decode cX9_resolves 173 = .ok (.istore 11, 2) := by decide +kernel
theorem dX9_resolves_175 : decode cX9_resolves 175 = .ok (.iload 6, 2) := by decide +kernel
theorem dX9_resolves_177 : decode cX9_resolves 177 = .ok (.bipush 12, 2) := by decide +kernel
theorem dX9_resolves_179 : decode cX9_resolves 179 = .ok (.if_icmp .ne 14, 3) := by decide +kernel
theorem dX9_resolves_182 : decode cX9_resolves 182 = .ok (.aload_n 0, 1) := by decide +kernel
theorem dX9_resolves_183 : decode cX9_resolves 183 = .ok (.iload 6, 2) := by decide +kernel
theorem dX9_resolves_185 : decode cX9_resolves 185 = .ok (.iload 9, 2) := by decide +kernel
theorem dX9_resolves_187 : decode cX9_resolves 187 = .ok (.iload 4, 2) := by decide +kernel
theorem dX9_resolves_189 : decode cX9_resolves 189 = .ok (.invokevirtual 267, 3) := by decide +kernel
theorem dX9_resolves_192 : decode cX9_resolves 192 = .ok (.ireturn, 1) := by decide +kernel
theorem dX9_resolves_193 : decode cX9_resolves 193 = .ok (.iinc 6 1, 3) := by decide +kernel
theorem dX9_resolves_196 : decode cX9_resolves 196 = .ok (.aload_n 0, 1) := by decide +kernel
theorem dX9_resolves_197 : decode cX9_resolves 197 = .ok (.getfield 26, 3) := by decide +kernel
theorem dX9_resolves_200 : decode cX9_resolves 200 = .ok (.iload 10, 2) := by decide +kernel
theorem dX9_resolves_202 : decode cX9_resolves 202 = .ok (.baload, 1) := by decide +kernel
theorem dX9_resolves_203 : decode cX9_resolves 203 = .ok (.ifCond .ne 8, 3) := by decide +kernel
theorem dX9_resolves_206 : decode cX9_resolves 206 = .ok (.iload 10, 2) := by decide +kernel
theorem dX9_resolves_208 : decode cX9_resolves 208 = .ok (.goto 23, 3) := by decide +kernel
theorem dX9_resolves_211 : decode cX9_resolves 211 = .ok (.aload_n 0, 1) := by decide +kernel
theorem dX9_resolves_212 : decode cX9_resolves 212 = .ok (.getfield 23, 3) := by decide +kernel
theorem dX9_resolves_215 : decode cX9_resolves 215 = .ok (.iload 10, 2) := by decide +kernel
theorem dX9_resolves_217 : decode cX9_resolves 217 = .ok (.iaload, 1) := by decide +kernel
theorem dX9_resolves_218 : decode cX9_resolves 218 = .ok (.iconst (-1), 1) := by decide +kernel
theorem dX9_resolves_219 : decode cX9_resolves 219 = .ok (.if_icmp .eq 11, 3) := by decide +kernel
theorem dX9_resolves_222 : decode cX9_resolves 222 = .ok (.bipush 6, 2) := by decide +kernel
theorem dX9_resolves_224 : decode cX9_resolves 224 = .ok (.iload 10, 2) := by decide +kernel
theorem dX9_resolves_226 : decode cX9_resolves 226 = .ok (.iadd, 1) := by decide +kernel
theorem dX9_resolves_227 : decode cX9_resolves 227 = .ok (.goto 4, 3) := by decide +kernel
theorem dX9_resolves_230 : decode cX9_resolves 230 = .ok (.iconst (-1), 1) := by decide +kernel
theorem dX9_resolves_231 : decode cX9_resolves 231 = .ok (.istore 14, 2) := by decide +kernel
theorem dX9_resolves_233 : decode cX9_resolves 233 = .ok (.iload 14, 2) := by decide +kernel
theorem dX9_resolves_235 : decode cX9_resolves 235 = .ok (.iconst (-1), 1) := by decide +kernel
theorem dX9_resolves_236 : decode cX9_resolves 236 = .ok (.if_icmp .ne 75, 3) := by decide +kernel
theorem dX9_resolves_239 : decode cX9_resolves 239 = .ok (.iload_n 3, 1) := by decide +kernel
theorem dX9_resolves_240 : decode cX9_resolves 240 = .ok (.ifCond .eq 7, 3) := by decide +kernel
theorem dX9_resolves_243 : decode cX9_resolves 243 = .ok (.iconst (-1), 1) := by decide +kernel
theorem dX9_resolves_244 : decode cX9_resolves 244 = .ok (.goto 10, 3) := by decide +kernel
theorem dX9_resolves_247 : decode cX9_resolves 247 = .ok (.aload_n 0, 1) := by decide +kernel
theorem dX9_resolves_248 : decode cX9_resolves 248 = .ok (.iload 5, 2) := by decide +kernel
theorem dX9_resolves_250 : decode cX9_resolves 250 = .ok (.iload_n 2, 1) := by decide +kernel
theorem dX9_resolves_251 : decode cX9_resolves 251 = .ok (.invokevirtual 241, 3) := by decide +kernel
theorem dX9_resolves_254 : decode cX9_resolves 254 = .ok (.istore 15, 2) := by decide +kernel
theorem dX9_resolves_256 : decode cX9_resolves 256 = .ok (.iload 15, 2) := by decide +kernel
theorem dX9_resolves_258 : decode cX9_resolves 258 = .ok (.iconst (-1), 1) := by decide +kernel
theorem dX9_resolves_259 : decode cX9_resolves 259 = .ok (.if_icmp .eq 20, 3) := by decide +kernel
theorem dX9_resolves_262 : decode cX9_resolves 262 = .ok (.aload_n 0, 1) := by decide +kernel
theorem dX9_resolves_263 : decode cX9_resolves 263 = .ok (.getfield 248, 3) := by decide +kernel
theorem dX9_resolves_266 : decode cX9_resolves 266 = .ok (.aload_n 0, 1) := by decide +kernel
theorem dX9_resolves_267 : decode cX9_resolves 267 = .ok (.getfield 93, 3) := by decide +kernel
theorem dX9_resolves_270 : decode cX9_resolves 270 = .ok (.iload 15, 2) := by decide +kernel
theorem dX9_resolves_272 : decode cX9_resolves 272 = .ok (.iaload, 1) := by decide +kernel
theorem dX9_resolves_273 : decode cX9_resolves 273 = .ok (.bipush 60, 2) := by decide +kernel
theorem dX9_resolves_275 : decode cX9_resolves 275 = .ok (.iadd, 1) := by decide +kernel
theorem dX9_resolves_276 : decode cX9_resolves 276 = .ok (.if_icmp .lt 14, 3) := by decide +kernel
theorem dX9_resolves_279 : decode cX9_resolves 279 = .ok (.aload_n 0, 1) := by decide +kernel
theorem dX9_resolves_280 : decode cX9_resolves 280 = .ok (.iload 6, 2) := by decide +kernel
theorem dX9_resolves_282 : decode cX9_resolves 282 = .ok (.iload 9, 2) := by decide +kernel
theorem dX9_resolves_284 : decode cX9_resolves 284 = .ok (.iload 4, 2) := by decide +kernel
theorem dX9_resolves_286 : decode cX9_resolves 286 = .ok (.invokevirtual 267, 3) := by decide +kernel
theorem dX9_resolves_289 : decode cX9_resolves 289 = .ok (.ireturn, 1) := by decide +kernel
theorem dX9_resolves_290 : decode cX9_resolves 290 = .ok (.aload_n 0, 1) := by decide +kernel
theorem dX9_resolves_291 : decode cX9_resolves 291 = .ok (.getfield 81, 3) := by decide +kernel
theorem dX9_resolves_294 : decode cX9_resolves 294 = .ok (.iload 15, 2) := by decide +kernel
theorem dX9_resolves_296 : decode cX9_resolves 296 = .ok (.iaload, 1) := by decide +kernel
theorem dX9_resolves_297 : decode cX9_resolves 297 = .ok (.istore 13, 2) := by decide +kernel
theorem dX9_resolves_299 : decode cX9_resolves 299 = .ok (.aload_n 0, 1) := by decide +kernel
theorem dX9_resolves_300 : decode cX9_resolves 300 = .ok (.iload 15, 2) := by decide +kernel
theorem dX9_resolves_302 : decode cX9_resolves 302 = .ok (.invokevirtual 257, 3) := by decide +kernel
theorem dX9_resolves_305 : decode cX9_resolves 305 = .ok (.iconst 1, 1) := by decide +kernel
theorem dX9_resolves_306 : decode cX9_resolves 306 = .ok (.istore 9, 2) := by decide +kernel
theorem dX9_resolves_308 : decode cX9_resolves 308 = .ok (.goto 141, 3) := by decide +kernel
theorem dX9_resolves_311 : decode cX9_resolves 311 = .ok (.aload_n 0, 1) := by decide +kernel
theorem dX9_resolves_312 : decode cX9_resolves 312 = .ok (.iload 14, 2) := by decide +kernel
theorem dX9_resolves_314 : decode cX9_resolves 314 = .ok (.iload 10, 2) := by decide +kernel
theorem dX9_resolves_316 : decode cX9_resolves 316 = .ok (.iload 5, 2) := by decide +kernel
theorem dX9_resolves_318 : decode cX9_resolves 318 = .ok (.iload_n 2, 1) := by decide +kernel
theorem dX9_resolves_319 : decode cX9_resolves 319 = .ok (.invokevirtual 223, 3) := by decide +kernel
theorem dX9_resolves_322 : decode cX9_resolves 322 = .ok (.istore 13, 2) := by decide +kernel
theorem dX9_resolves_324 : decode cX9_resolves 324 = .ok (.iload 13, 2) := by decide +kernel
theorem dX9_resolves_326 : decode cX9_resolves 326 = .ok (.iconst 5, 1) := by decide +kernel
theorem dX9_resolves_327 : decode cX9_resolves 327 = .ok (.if_icmp .ne 14, 3) := by decide +kernel
theorem dX9_resolves_330 : decode cX9_resolves 330 = .ok (.aload_n 0, 1) := by decide +kernel
theorem dX9_resolves_331 : decode cX9_resolves 331 = .ok (.iload 6, 2) := by decide +kernel
theorem dX9_resolves_333 : decode cX9_resolves 333 = .ok (.iload 9, 2) := by decide +kernel
theorem dX9_resolves_335 : decode cX9_resolves 335 = .ok (.iload 4, 2) := by decide +kernel
theorem dX9_resolves_337 : decode cX9_resolves 337 = .ok (.invokevirtual 267, 3) := by decide +kernel
theorem dX9_resolves_340 : decode cX9_resolves 340 = .ok (.ireturn, 1) := by decide +kernel
theorem dX9_resolves_341 : decode cX9_resolves 341 = .ok (.iload 13, 2) := by decide +kernel
theorem dX9_resolves_343 : decode cX9_resolves 343 = .ok (.iconst 3, 1) := by decide +kernel
theorem dX9_resolves_344 : decode cX9_resolves 344 = .ok (.if_icmp .ne 92, 3) := by decide +kernel
theorem dX9_resolves_347 : decode cX9_resolves 347 = .ok (.aload_n 0, 1) := by decide +kernel
theorem dX9_resolves_348 : decode cX9_resolves 348 = .ok (.iload 14, 2) := by decide +kernel
theorem dX9_resolves_350 : decode cX9_resolves 350 = .ok (.aload_n 0, 1) := by decide +kernel
theorem dX9_resolves_351 : decode cX9_resolves 351 = .ok (.getfield 190, 3) := by decide +kernel
theorem dX9_resolves_354 : decode cX9_resolves 354 = .ok (.iconst 4, 1) := by decide +kernel
theorem dX9_resolves_355 : decode cX9_resolves 355 = .ok (.invokevirtual 135, 3) := by decide +kernel
theorem dX9_resolves_358 : decode cX9_resolves 358 = .ok (.istore 15, 2) := by decide +kernel
theorem dX9_resolves_360 : decode cX9_resolves 360 = .ok (.aload_n 0, 1) := by decide +kernel
theorem dX9_resolves_361 : decode cX9_resolves 361 = .ok (.getfield 193, 3) := by decide +kernel
theorem dX9_resolves_364 : decode cX9_resolves 364 = .ok (.istore 16, 2) := by decide +kernel
theorem dX9_resolves_366 : decode cX9_resolves 366 = .ok (.iload 11, 2) := by decide +kernel
theorem dX9_resolves_368 : decode cX9_resolves 368 = .ok (.ifCond .eq 8, 3) := by decide +kernel
theorem dX9_resolves_371 : decode cX9_resolves 371 = .ok (.iload 11, 2) := by decide +kernel
theorem dX9_resolves_373 : decode cX9_resolves 373 = .ok (.goto 34, 3) := by decide +kernel
theorem dX9_resolves_376 : decode cX9_resolves 376 = .ok (.iload 15, 2) := by decide +kernel
theorem dX9_resolves_378 : decode cX9_resolves 378 = .ok (.iconst (-1), 1) := by decide +kernel
theorem dX9_resolves_379 : decode cX9_resolves 379 = .ok (.if_icmp .ne 7, 3) := by decide +kernel
theorem dX9_resolves_382 : decode cX9_resolves 382 = .ok (.iconst 1, 1) := by decide +kernel
theorem dX9_resolves_383 : decode cX9_resolves 383 = .ok (.goto 24, 3) := by decide +kernel
theorem dX9_resolves_386 : decode cX9_resolves 386 = .ok (.aload_n 0, 1) := by decide +kernel
theorem dX9_resolves_387 : decode cX9_resolves 387 = .ok (.iload 16, 2) := by decide +kernel
theorem dX9_resolves_389 : decode cX9_resolves 389 = .ok (.aload_n 0, 1) := by decide +kernel
theorem dX9_resolves_390 : decode cX9_resolves 390 = .ok (.getfield 51, 3) := by decide +kernel
theorem dX9_resolves_393 : decode cX9_resolves 393 = .ok (.iload 15, 2) := by decide +kernel
theorem dX9_resolves_395 : decode cX9_resolves 395 = .ok (.iaload, 1) := by decide +kernel
theorem dX9_resolves_396 : decode cX9_resolves 396 = .ok (.invokevirtual 264, 3) := by decide +kernel
theorem dX9_resolves_399 : decode cX9_resolves 399 = .ok (.ifCond .eq 7, 3) := by decide +kernel
theorem dX9_resolves_402 : decode cX9_resolves 402 = .ok (.iconst 0, 1) := by decide +kernel
theorem dX9_resolves_403 : decode cX9_resolves 403 = .ok (.goto 4, 3) := by decide +kernel
theorem dX9_resolves_406 : decode cX9_resolves 406 = .ok (.iconst 2, 1) := by decide +kernel
theorem dX9_resolves_407 : decode cX9_resolves 407 = .ok (.istore 11, 2) := by decide +kernel
theorem dX9_resolves_409 : decode cX9_resolves 409 = .ok (.iload_n 3, 1) := by decide +kernel
theorem dX9_resolves_410 : decode cX9_resolves 410 = .ok (.ifCond .ne 19, 3) := by decide +kernel
theorem dX9_resolves_413 : decode cX9_resolves 413 = .ok (.aload_n 0, 1) := by decide +kernel
theorem dX9_resolves_414 : decode cX9_resolves 414 = .ok (.getfield 72, 3) := by decide +kernel
theorem dX9_resolves_417 : decode cX9_resolves 417 = .ok (.iload 16, 2) := by decide +kernel
theorem dX9_resolves_419 : decode cX9_resolves 419 = .ok (.aload_n 0, 1) := by decide +kernel
theorem dX9_resolves_420 : decode cX9_resolves 420 = .ok (.getfield 248, 3) := by decide +kernel
theorem dX9_resolves_423 : decode cX9_resolves 423 = .ok (.aload_n 0, 1) := by decide +kernel
theorem dX9_resolves_424 : decode cX9_resolves 424 = .ok (.getfield 199, 3) := by decide +kernel
theorem dX9_resolves_427 : decode cX9_resolves 427 = .ok (.iadd, 1) := by decide +kernel
theorem dX9_resolves_428 : decode cX9_resolves 428 = .ok (.iastore, 1) := by decide +kernel
theorem dX9_resolves_429 : decode cX9_resolves 429 = .ok (.iload 16, 2) := by decide +kernel
theorem dX9_resolves_431 : decode cX9_resolves 431 = .ok (.istore 10, 2) := by decide +kernel
theorem dX9_resolves_433 : decode cX9_resolves 433 = .ok (.goto 16, 3) := by decide +kernel
theorem dX9_resolves_436 : decode cX9_resolves 436 = .ok (.iload_n 3, 1) := by decide +kernel
theorem dX9_resolves_437 : decode cX9_resolves 437 = .ok (.ifCond .ne 12, 3) := by decide +kernel
theorem dX9_resolves_440 : decode cX9_resolves 440 = .ok (.aload_n 0, 1) := by decide +kernel
theorem dX9_resolves_441 : decode cX9_resolves 441 = .ok (.iload 5, 2) := by decide +kernel
theorem dX9_resolves_443 : decode cX9_resolves 443 = .ok (.iload_n 2, 1) := by decide +kernel
theorem dX9_resolves_444 : decode cX9_resolves 444 = .ok (.iload 13, 2) := by decide +kernel
theorem dX9_resolves_446 : decode cX9_resolves 446 = .ok (.invokevirtual 270, 3) := by decide +kernel
theorem dX9_resolves_449 : decode cX9_resolves 449 = .ok (.iload 13, 2) := by decide +kernel
theorem dX9_resolves_451 : decode cX9_resolves 451 = .ok (.iconst 3, 1) := by decide +kernel
theorem dX9_resolves_452 : decode cX9_resolves 452 = .ok (.if_icmp .eq 118, 3) := by decide +kernel
theorem dX9_resolves_455 : decode cX9_resolves 455 = .ok (.aload_n 0, 1) := by decide +kernel
theorem dX9_resolves_456 : decode cX9_resolves 456 = .ok (.iload 11, 2) := by decide +kernel
theorem dX9_resolves_458 : decode cX9_resolves 458 = .ok (.aload_n 0, 1) := by decide +kernel
theorem dX9_resolves_459 : decode cX9_resolves 459 = .ok (.getfield 254, 3) := by decide +kernel
theorem dX9_resolves_462 : decode cX9_resolves 462 = .ok (.if_icmp .le 8, 3) := by decide +kernel
theorem dX9_resolves_465 : decode cX9_resolves 465 = .ok (.iload 11, 2) := by decide +kernel
theorem dX9_resolves_467 : decode cX9_resolves 467 = .ok (.goto 7, 3) := by decide +kernel
theorem dX9_resolves_470 : decode cX9_resolves 470 = .ok (.aload_n 0, 1) := by decide +kernel
theorem dX9_resolves_471 : decode cX9_resolves 471 = .ok (.getfield 254, 3) := by decide +kernel
theorem dX9_resolves_474 : decode cX9_resolves 474 = .ok (.putfield 254, 3) := by decide +kernel
theorem dX9_resolves_477 : decode cX9_resolves 477 = .ok (.aload_n 0, 1) := by decide +kernel
theorem dX9_resolves_478 : decode cX9_resolves 478 = .ok (.iload 8, 2) := by decide +kernel
theorem dX9_resolves_480 : decode cX9_resolves 480 = .ok (.aload_n 0, 1) := by decide +kernel
theorem dX9_resolves_481 : decode cX9_resolves 481 = .ok (.getfield 199, 3) := by decide +kernel
theorem dX9_resolves_484 : decode cX9_resolves 484 = .ok (.invokevirtual 214, 3) := by decide +kernel
theorem dX9_resolves_487 : decode cX9_resolves 487 = .ok (.istore 8, 2) := by decide +kernel
theorem dX9_resolves_489 : decode cX9_resolves 489 = .ok (.iconst (-1), 1) := by decide +kernel
theorem dX9_resolves_490 : decode cX9_resolves 490 = .ok (.istore 10, 2) := by decide +kernel
theorem dX9_resolves_492 : decode cX9_resolves 492 = .ok (.iload 13, 2) := by decide +kernel
theorem dX9_resolves_494 : decode cX9_resolves 494 = .ok (.iconst 4, 1) := by decide +kernel
theorem dX9_resolves_495 : decode cX9_resolves 495 = .ok (.if_icmp .eq 48, 3) := by decide +kernel
theorem dX9_resolves_498 : decode cX9_resolves 498 = .ok (.iload 4, 2) := by decide +kernel
theorem dX9_resolves_500 : decode cX9_resolves 500 = .ok (.ifCond .eq 40, 3) := by decide +kernel
theorem dX9_resolves_503 : decode cX9_resolves 503 = .ok (.aload_n 0, 1) := by decide +kernel
theorem dX9_resolves_504 : decode cX9_resolves 504 = .ok (.iload 13, 2) := by decide +kernel
theorem dX9_resolves_506 : decode cX9_resolves 506 = .ok (.ifCond .ne 10, 3) := by decide +kernel
theorem dX9_resolves_509 : decode cX9_resolves 509 = .ok (.aload_n 0, 1) := by decide +kernel
theorem dX9_resolves_510 : decode cX9_resolves 510 = .ok (.getfield 193, 3) := by decide +kernel
theorem dX9_resolves_513 : decode cX9_resolves 513 = .ok (.goto 4, 3) := by decide +kernel
theorem dX9_resolves_516 : decode cX9_resolves 516 = .ok (.iconst (-1), 1) := by decide +kernel
theorem dX9_resolves_517 : decode cX9_resolves 517 = .ok (.aload_n 0, 1) := by decide +kernel
theorem dX9_resolves_518 : decode cX9_resolves 518 = .ok (.getfield 190, 3) := by decide +kernel
theorem dX9_resolves_521 : decode cX9_resolves 521 = .ok (.iload 9, 2) := by decide +kernel
theorem dX9_resolves_523 : decode cX9_resolves 523 = .ok (.iconst 1, 1) := by decide +kernel
theorem dX9_resolves_524 : decode cX9_resolves 524 = .ok (.if_icmp .ne 7, 3) := by decide +kernel
theorem dX9_resolves_527 : decode cX9_resolves 527 = .ok (.iconst 0, 1) := by decide +kernel
theorem dX9_resolves_528 : decode cX9_resolves 528 = .ok (.goto 5, 3) := by decide +kernel
theorem dX9_resolves_531 : decode cX9_resolves 531 = .ok (.iload 8, 2) := by decide +kernel
theorem dX9_resolves_533 : decode cX9_resolves 533 = .ok (.iload 6, 2) := by decide +kernel
theorem dX9_resolves_535 : decode cX9_resolves 535 = .ok (.iload 9, 2) := by decide +kernel
theorem dX9_resolves_537 : decode cX9_resolves 537 = .ok (.invokevirtual 227, 3) := by decide +kernel
theorem dX9_resolves_540 : decode cX9_resolves 540 = .ok (.iload 13, 2) := by decide +kernel
theorem dX9_resolves_542 : decode cX9_resolves 542 = .ok (.ireturn, 1) := by decide +kernel
theorem dX9_resolves_543 : decode cX9_resolves 543 = .ok (.iinc 7 1, 3) := by decide +kernel
theorem dX9_resolves_546 : decode cX9_resolves 546 = .ok (.iload 7, 2) := by decide +kernel
theorem dX9_resolves_548 : decode cX9_resolves 548 = .ok (.bipush 8, 2) := by decide +kernel
theorem dX9_resolves_550 : decode cX9_resolves 550 = .ok (.if_icmp .le 14, 3) := by decide +kernel
theorem dX9_resolves_553 : decode cX9_resolves 553 = .ok (.aload_n 0, 1) := by decide +kernel
theorem dX9_resolves_554 : decode cX9_resolves 554 = .ok (.iload 6, 2) := by decide +kernel
theorem dX9_resolves_556 : decode cX9_resolves 556 = .ok (.iload 9, 2) := by decide +kernel
theorem dX9_resolves_558 : decode cX9_resolves 558 = .ok (.iload 4, 2) := by decide +kernel
theorem dX9_resolves_560 : decode cX9_resolves 560 = .ok (.invokevirtual 267, 3) := by decide +kernel
theorem dX9_resolves_563 : decode cX9_resolves 563 = .ok (.ireturn, 1) := by decide +kernel
theorem dX9_resolves_564 : decode cX9_resolves 564 = .ok (.aload_n 0, 1) := by decide +kernel
theorem dX9_resolves_565 : decode cX9_resolves 565 = .ok (.getfield 190, 3) := by decide +kernel
theorem dX9_resolves_568 : decode cX9_resolves 568 = .ok (.istore 5, 2) := by decide +kernel
theorem dX9_resolves_570 : decode cX9_resolves 570 = .ok (.goto (-542), 3) := by decide +kernel
theorem dX9_takes_0 : decode cX9_takes 0 = .ok (.aload_n 0, 1) := by decide +kernel
theorem dX9_takes_1 : decode cX9_takes 1 = .ok (.aload_n 0, 1) := by decide +kernel
theorem dX9_takes_2 : decode cX9_takes 2 = .ok (.getfield 84, 3) := by decide +kernel
theorem dX9_takes_5 : decode cX9_takes 5 = .ok (.iload_n 1, 1) := by decide +kernel
theorem dX9_takes_6 : decode cX9_takes 6 = .ok (.iaload, 1) := by decide +kernel
theorem dX9_takes_7 : decode cX9_takes 7 = .ok (.putfield 193, 3) := by decide +kernel
theorem dX9_takes_10 : decode cX9_takes 10 = .ok (.aload_n 0, 1) := by decide +kernel
theorem dX9_takes_11 : decode cX9_takes 11 = .ok (.aload_n 0, 1) := by decide +kernel
theorem dX9_takes_12 : decode cX9_takes 12 = .ok (.getfield 87, 3) := by decide +kernel
theorem dX9_takes_15 : decode cX9_takes 15 = .ok (.iload_n 1, 1) := by decide +kernel
theorem dX9_takes_16 : decode cX9_takes 16 = .ok (.iaload, 1) := by decide +kernel
theorem dX9_takes_17 : decode cX9_takes 17 = .ok (.putfield 190, 3) := by decide +kernel
theorem dX9_takes_20 : decode cX9_takes 20 = .ok (.aload_n 0, 1) := by decide +kernel
theorem dX9_takes_21 : decode cX9_takes 21 = .ok (.iconst 0, 1) := by decide +kernel
theorem dX9_takes_22 : decode cX9_takes 22 = .ok (.putfield 199, 3) := by decide +kernel
theorem dX9_takes_25 : decode cX9_takes 25 = .ok (.return_, 1) := by decide +kernel
set_option maxRecDepth 20000 in
theorem ggX9_fails_X9_tell : GoodIn wsX9_fails wsX9_tell := goodIn_r _ [5, 6, 7, 8, 9, 10, 11, 12, 13, 14, 15, 16, 17, 18, 19, 20, 21, 22, 23, 24, 25, 26, 27, 28, 29, 30, 31, 32, 33, 34, 35, 36, 37, 38, 39, 40, 41, 42, 43] (by decide +kernel) (by decide +kernel)
set_option maxRecDepth 20000 in
theorem gX9_fails_X9_tell : GoodIn wsX9_fails (wsV RX9 227 RX9 yX9_tell wsX9_tell) := goodIn_app (goodIn_of _ (by decide +kernel)) ggX9_fails_X9_tell
theorem dX9_fails_0 : decode cX9_fails 0 = .ok (.iload_n 3, 1) := by decide +kernel
theorem dX9_fails_1 : decode cX9_fails 1 = .ok (.ifCond .eq 12, 3) := by decide +kernel
theorem dX9_fails_4 : decode cX9_fails 4 = .ok (.aload_n 0, 1) := by decide +kernel
theorem dX9_fails_5 : decode cX9_fails 5 = .ok (.iconst (-1), 1) := by decide +kernel
theorem dX9_fails_6 : decode cX9_fails 6 = .ok (.iconst (-1), 1) := by decide +kernel
theorem dX9_fails_7 : decode cX9_fails 7 = .ok (.iconst 0, 1) := by decide +kernel
theorem dX9_fails_8 : decode cX9_fails 8 = .ok (.iload_n 1, 1) := by decide +kernel
theorem dX9_fails_9 : decode cX9_fails 9 = .ok (.iload_n 2, 1) := by decide +kernel
theorem dX9_fails_10 : decode cX9_fails 10 = .ok (.invokevirtual 227, 3) := by decide +kernel
theorem dX9_fails_13 : decode cX9_fails 13 = .ok (.bipush 6, 2) := by decide +kernel
theorem dX9_fails_15 : decode cX9_fails 15 = .ok (.ireturn, 1) := by decide +kernel
set_option maxRecDepth 20000 in
theorem ggX9_isAsked_X9_isName : GoodIn wsX9_isAsked wsX9_isName := goodIn_r _ [4, 5, 6, 3, 7] (by decide +kernel) (by decide +kernel)
set_option maxRecDepth 20000 in
theorem gX9_isAsked_X9_isName : GoodIn wsX9_isAsked (va_wsS RX9 106 yX9_isName wsX9_isName) := goodIn_app (goodIn_of _ (by decide +kernel)) ggX9_isAsked_X9_isName
set_option maxRecDepth 20000 in
theorem ggX9_isAsked_X9_in : GoodIn wsX9_isAsked wsX9_in := goodIn_r _ [7] (by decide +kernel) (by decide +kernel)
set_option maxRecDepth 20000 in
theorem gX9_isAsked_X9_in : GoodIn wsX9_isAsked (va_wsS RX9 102 yX9_in wsX9_in) := goodIn_app (goodIn_of _ (by decide +kernel)) ggX9_isAsked_X9_in
theorem dX9_isAsked_0 : decode cX9_isAsked 0 = .ok (.iload_n 0, 1) := by decide +kernel
theorem dX9_isAsked_1 : decode cX9_isAsked 1 = .ok (.invokestatic 106, 3) := by decide +kernel
theorem dX9_isAsked_4 : decode cX9_isAsked 4 = .ok (.ifCond .eq 16, 3) := by decide +kernel
theorem dX9_isAsked_7 : decode cX9_isAsked 7 = .ok (.iload_n 1, 1) := by decide +kernel
theorem dX9_isAsked_8 : decode cX9_isAsked 8 = .ok (.iconst 0, 1) := by decide +kernel
theorem dX9_isAsked_9 : decode cX9_isAsked 9 = .ok (.iconst 4, 1) := by decide +kernel
theorem dX9_isAsked_10 : decode cX9_isAsked 10 = .ok (.invokestatic 102, 3) := by decide +kernel
theorem dX9_isAsked_13 : decode cX9_isAsked 13 = .ok (.ifCond .eq 7, 3) := by decide +kernel
theorem dX9_isAsked_16 : decode cX9_isAsked 16 = .ok (.iconst 1, 1) := by decide +kernel
theorem dX9_isAsked_17 : decode cX9_isAsked 17 = .ok (.goto 4, 3) := by decide +kernel
theorem dX9_isAsked_20 : decode cX9_isAsked 20 = .ok (.iconst 0, 1) := by decide +kernel
theorem dX9_isAsked_21 : decode cX9_isAsked 21 = .ok (.ireturn, 1) := by decide +kernel
set_option maxRecDepth 20000 in
theorem ggX9_resolve_X9_isAsked : GoodIn wsX9_resolve wsX9_isAsked := goodIn_r _ [4, 5, 6, 3, 7, 8, 9, 10] (by decide +kernel) (by decide +kernel)
set_option maxRecDepth 20000 in
theorem gX9_resolve_X9_isAsked : GoodIn wsX9_resolve (va_wsS RX9 274 yX9_isAsked wsX9_isAsked) := goodIn_app (goodIn_of _ (by decide +kernel)) ggX9_resolve_X9_isAsked
set_option maxRecDepth 20000 in
theorem ggX9_resolve_X9_asked : GoodIn wsX9_resolve wsX9_asked := goodIn_r _ [14, 15, 138, 139, 140, 141, 142, 143, 144, 145, 146, 147, 148, 149, 150, 151, 152, 153, 154, 155, 156, 157, 158, 159, 160, 161, 162, 163, 164, 165, 166, 167, 168, 169, 170, 171, 172, 173, 174] (by decide +kernel) (by decide +kernel)
set_option maxRecDepth 20000 in
theorem gX9_resolve_X9_asked : GoodIn wsX9_resolve (wsV RX9 162 RX9 yX9_asked wsX9_asked) := goodIn_app (goodIn_of _ (by decide +kernel)) ggX9_resolve_X9_asked
set_option maxRecDepth 20000 in
theorem ggX9_resolve_X9_resolves : GoodIn wsX9_resolve wsX9_resolves := goodIn_r _ [19, 20, 21, 22, 23, 24, 25, 26, 27, 28, 29, 30, 31, 32, 33, 34, 35, 3, 36, 37, 38, 39, 40, 41, 42, 43, 44, 45, 46, 47, 48, 49, 50, 51, 52, 53, 54, 55, 56, 57, 58, 59, 60, 61, 62, 63, 64, 65, 66, 67, 68, 69, 70, 71, 72, 73, 74, 8, 9, 10, 75, 76, 77, 78, 79, 80, 81, 82, 83, 84, 85, 86, 87, 88, 89, 90, 91, 92, 93, 94, 95, 96, 97, 98, 99, 100, 101, 102, 103, 104, 105, 106, 107, 108, 109, 110, 111, 112, 113, 114, 115, 116, 117, 118, 119, 120, 121, 122, 123, 124, 125, 126, 127, 128, 129, 130, 131, 132, 133, 134, 135, 136, 137, 138, 139, 140, 141, 142, 143, 144, 145, 146, 147, 148, 149, 150, 151, 152, 153, 154, 155, 156, 157, 158, 159, 160, 161, 162, 163, 164, 165, 166, 167, 168, 169, 170, 171, 172, 173, 174] (by decide +kernel) (by decide +kernel)
set_option maxRecDepth 20000 in
theorem gX9_resolve_X9_resolves : GoodIn wsX9_resolve (wsV RX9 277 RX9 yX9_resolves wsX9_resolves) := goodIn_app (goodIn_of _ (by decide +kernel)) ggX9_resolve_X9_resolves
theorem dX9_resolve_0 : decode cX9_resolve 0 = .ok (.aload_n 0, 1) := by decide +kernel
theorem dX9_resolve_1 : decode cX9_resolve 1 = .ok (.iload_n 1, 1) := by decide +kernel
theorem dX9_resolve_2 : decode cX9_resolve 2 = .ok (.iload_n 2, 1) := by decide +kernel
theorem dX9_resolve_3 : decode cX9_resolve 3 = .ok (.invokestatic 274, 3) := by decide +kernel
theorem dX9_resolve_6 : decode cX9_resolve 6 = .ok (.invokevirtual 162, 3) := by decide +kernel
theorem dX9_resolve_9 : decode cX9_resolve 9 = .ok (.ifCond .eq 14, 3) := by decide +kernel
theorem dX9_resolve_12 : decode cX9_resolve 12 = .ok (.aload_n 0, 1) := by decide +kernel
theorem dX9_resolve_13 : decode cX9_resolve 13 = .ok (.iload_n 1, 1) := by decide +kernel
theorem dX9_resolve_14 : decode cX9_resolve 14 = .ok (.iload_n 2, 1) := by decide +kernel
theorem dX9_resolve_15 : decode cX9_resolve 15 = .ok (.iconst 0, 1) := by decide +kernel
theorem dX9_resolve_16 : decode cX9_resolve 16 = .ok (.iconst 1, 1) := by decide +kernel
theorem dX9_resolve_17 : decode cX9_resolve 17 = .ok (.invokevirtual 277, 3) := by decide +kernel
theorem dX9_resolve_20 : decode cX9_resolve 20 = .ok (.goto 4, 3) := by decide +kernel
theorem dX9_resolve_23 : decode cX9_resolve 23 = .ok (.iconst 0, 1) := by decide +kernel
theorem dX9_resolve_24 : decode cX9_resolve 24 = .ok (.ireturn, 1) := by decide +kernel
set_option maxRecDepth 20000 in
theorem ggX9_resolveAnew_X9_isAsked : GoodIn wsX9_resolveAnew wsX9_isAsked := goodIn_r _ [4, 5, 6, 3, 7, 8, 9, 10] (by decide +kernel) (by decide +kernel)
set_option maxRecDepth 20000 in
theorem gX9_resolveAnew_X9_isAsked : GoodIn wsX9_resolveAnew (va_wsS RX9 274 yX9_isAsked wsX9_isAsked) := goodIn_app (goodIn_of _ (by decide +kernel)) ggX9_resolveAnew_X9_isAsked
set_option maxRecDepth 20000 in
theorem ggX9_resolveAnew_X9_asked : GoodIn wsX9_resolveAnew wsX9_asked := goodIn_r _ [14, 15, 138, 139, 140, 141, 142, 143, 144, 145, 146, 147, 148, 149, 150, 151, 152, 153, 154, 155, 156, 157, 158, 159, 160, 161, 162, 163, 164, 165, 166, 167, 168, 169, 170, 171, 172, 173, 174] (by decide +kernel) (by decide +kernel)
set_option maxRecDepth 20000 in
theorem gX9_resolveAnew_X9_asked : GoodIn wsX9_resolveAnew (wsV RX9 162 RX9 yX9_asked wsX9_asked) := goodIn_app (goodIn_of _ (by decide +kernel)) ggX9_resolveAnew_X9_asked
set_option maxRecDepth 20000 in
theorem ggX9_resolveAnew_X9_resolves : GoodIn wsX9_resolveAnew wsX9_resolves := goodIn_r _ [19, 20, 21, 22, 23, 24, 25, 26, 27, 28, 29, 30, 31, 32, 33, 34, 35, 3, 36, 37, 38, 39, 40, 41, 42, 43, 44, 45, 46, 47, 48, 49, 50, 51, 52, 53, 54, 55, 56, 57, 58, 59, 60, 61, 62, 63, 64, 65, 66, 67, 68, 69, 70, 71, 72, 73, 74, 8, 9, 10, 75, 76, 77, 78, 79, 80, 81, 82, 83, 84, 85, 86, 87, 88, 89, 90, 91, 92, 93, 94, 95, 96, 97, 98, 99, 100, 101, 102, 103, 104, 105, 106, 107, 108, 109, 110, 111, 112, 113, 114, 115, 116, 117, 118, 119, 120, 121, 122, 123, 124, 125, 126, 127, 128, 129, 130, 131, 132, 133, 134, 135, 136, 137, 138, 139, 140, 141, 142, 143, 144, 145, 146, 147, 148, 149, 150, 151, 152, 153, 154, 155, 156, 157, 158, 159, 160, 161, 162, 163, 164, 165, 166, 167, 168, 169, 170, 171, 172, 173, 174] (by decide +kernel) (by decide +kernel)
set_option maxRecDepth 20000 in
theorem gX9_resolveAnew_X9_resolves : GoodIn wsX9_resolveAnew (wsV RX9 277 RX9 yX9_resolves wsX9_resolves) := goodIn_app (goodIn_of _ (by decide +kernel)) ggX9_resolveAnew_X9_resolves
theorem dX9_resolveAnew_0 : decode cX9_resolveAnew 0 = .ok (.aload_n 0, 1) := by decide +kernel
theorem dX9_resolveAnew_1 : decode cX9_resolveAnew 1 = .ok (.iload_n 1, 1) := by decide +kernel
theorem dX9_resolveAnew_2 : decode cX9_resolveAnew 2 = .ok (.iload_n 2, 1) := by decide +kernel
theorem dX9_resolveAnew_3 : decode cX9_resolveAnew 3 = .ok (.invokestatic 274, 3) := by decide +kernel
theorem dX9_resolveAnew_6 : decode cX9_resolveAnew 6 = .ok (.invokevirtual 162, 3) := by decide +kernel
theorem dX9_resolveAnew_9 : decode cX9_resolveAnew 9 = .ok (.ifCond .eq 14, 3) := by decide +kernel
theorem dX9_resolveAnew_12 : decode cX9_resolveAnew 12 = .ok (.aload_n 0, 1) := by decide +kernel
theorem dX9_resolveAnew_13 : decode cX9_resolveAnew 13 = .ok (.iload_n 1, 1) := by decide +kernel
theorem dX9_resolveAnew_14 : decode cX9_resolveAnew 14 = .ok (.iload_n 2, 1) := by decide +kernel
theorem dX9_resolveAnew_15 : decode cX9_resolveAnew 15 = .ok (.iconst 1, 1) := by decide +kernel
theorem dX9_resolveAnew_16 : decode cX9_resolveAnew 16 = .ok (.iconst 1, 1) := by decide +kernel
theorem dX9_resolveAnew_17 : decode cX9_resolveAnew 17 = .ok (.invokevirtual 277, 3) := by decide +kernel
theorem dX9_resolveAnew_20 : decode cX9_resolveAnew 20 = .ok (.goto 4, 3) := by decide +kernel
theorem dX9_resolveAnew_23 : decode cX9_resolveAnew 23 = .ok (.iconst 0, 1) := by decide +kernel
theorem dX9_resolveAnew_24 : decode cX9_resolveAnew 24 = .ok (.ireturn, 1) := by decide +kernel
theorem dX9_forget_0 : decode cX9_forget 0 = .ok (.aload_n 0, 1) := by decide +kernel
theorem dX9_forget_1 : decode cX9_forget 1 = .ok (.iconst 0, 1) := by decide +kernel
theorem dX9_forget_2 : decode cX9_forget 2 = .ok (.putfield 99, 3) := by decide +kernel
theorem dX9_forget_5 : decode cX9_forget 5 = .ok (.iconst 0, 1) := by decide +kernel
theorem dX9_forget_6 : decode cX9_forget 6 = .ok (.istore_n 1, 1) := by decide +kernel
theorem dX9_forget_7 : decode cX9_forget 7 = .ok (.iconst 0, 1) := by decide +kernel
theorem dX9_forget_8 : decode cX9_forget 8 = .ok (.istore_n 2, 1) := by decide +kernel
theorem dX9_forget_9 : decode cX9_forget 9 = .ok (.iload_n 2, 1) := by decide +kernel
theorem dX9_forget_10 : decode cX9_forget 10 = .ok (.aload_n 0, 1) := by decide +kernel
theorem dX9_forget_11 : decode cX9_forget 11 = .ok (.getfield 238, 3) := by decide +kernel
theorem dX9_forget_14 : decode cX9_forget 14 = .ok (.if_icmp .ge 37, 3) := by decide +kernel
theorem dX9_forget_17 : decode cX9_forget 17 = .ok (.iload_n 1, 1) := by decide +kernel
theorem dX9_forget_18 : decode cX9_forget 18 = .ok (.aload_n 0, 1) := by decide +kernel
theorem dX9_forget_19 : decode cX9_forget 19 = .ok (.getfield 248, 3) := by decide +kernel
theorem dX9_forget_22 : decode cX9_forget 22 = .ok (.aload_n 0, 1) := by decide +kernel
theorem dX9_forget_23 : decode cX9_forget 23 = .ok (.getfield 93, 3) := by decide +kernel
theorem dX9_forget_26 : decode cX9_forget 26 = .ok (.iload_n 2, 1) := by decide +kernel
theorem dX9_forget_27 : decode cX9_forget 27 = .ok (.iaload, 1) := by decide +kernel
theorem dX9_forget_28 : decode cX9_forget 28 = .ok (.aload_n 0, 1) := by decide +kernel
theorem dX9_forget_29 : decode cX9_forget 29 = .ok (.getfield 90, 3) := by decide +kernel
theorem dX9_forget_32 : decode cX9_forget 32 = .ok (.iload_n 2, 1) := by decide +kernel
theorem dX9_forget_33 : decode cX9_forget 33 = .ok (.iaload, 1) := by decide +kernel
theorem dX9_forget_34 : decode cX9_forget 34 = .ok (.iadd, 1) := by decide +kernel
theorem dX9_forget_35 : decode cX9_forget 35 = .ok (.if_icmp .ge 7, 3) := by decide +kernel
theorem dX9_forget_38 : decode cX9_forget 38 = .ok (.iconst 1, 1) := by decide +kernel
theorem dX9_forget_39 : decode cX9_forget 39 = .ok (.goto 4, 3) := by decide +kernel
theorem dX9_forget_42 : decode cX9_forget 42 = .ok (.iconst 0, 1) := by decide +kernel
theorem dX9_forget_43 : decode cX9_forget 43 = .ok (.iadd, 1) := by decide +kernel
theorem dX9_forget_44 : decode cX9_forget 44 = .ok (.istore_n 1, 1) := by decide +kernel
theorem dX9_forget_45 : decode cX9_forget 45 = .ok (.iinc 2 1, 3) := by decide +kernel
theorem dX9_forget_48 : decode cX9_forget 48 = .ok (.goto (-39), 3) := by decide +kernel
theorem dX9_forget_51 : decode cX9_forget 51 = .ok (.aload_n 0, 1) := by decide +kernel
theorem dX9_forget_52 : decode cX9_forget 52 = .ok (.iconst 0, 1) := by decide +kernel
theorem dX9_forget_53 : decode cX9_forget 53 = .ok (.putfield 238, 3) := by decide +kernel
theorem dX9_forget_56 : decode cX9_forget 56 = .ok (.iconst 0, 1) := by decide +kernel
theorem dX9_forget_57 : decode cX9_forget 57 = .ok (.istore_n 2, 1) := by decide +kernel
theorem dX9_forget_58 : decode cX9_forget 58 = .ok (.iload_n 2, 1) := by decide +kernel
theorem dX9_forget_59 : decode cX9_forget 59 = .ok (.bipush 6, 2) := by decide +kernel
theorem dX9_forget_61 : decode cX9_forget 61 = .ok (.if_icmp .ge 16, 3) := by decide +kernel
theorem dX9_forget_64 : decode cX9_forget 64 = .ok (.aload_n 0, 1) := by decide +kernel
theorem dX9_forget_65 : decode cX9_forget 65 = .ok (.getfield 72, 3) := by decide +kernel
theorem dX9_forget_68 : decode cX9_forget 68 = .ok (.iload_n 2, 1) := by decide +kernel
theorem dX9_forget_69 : decode cX9_forget 69 = .ok (.iconst 0, 1) := by decide +kernel
theorem dX9_forget_70 : decode cX9_forget 70 = .ok (.iastore, 1) := by decide +kernel
theorem dX9_forget_71 : decode cX9_forget 71 = .ok (.iinc 2 1, 3) := by decide +kernel
theorem dX9_forget_74 : decode cX9_forget 74 = .ok (.goto (-16), 3) := by decide +kernel
theorem dX9_forget_77 : decode cX9_forget 77 = .ok (.iload_n 1, 1) := by decide +kernel
theorem dX9_forget_78 : decode cX9_forget 78 = .ok (.ireturn, 1) := by decide +kernel
set_option maxRecDepth 20000 in
theorem ggX9_pass_X9_in : GoodIn wsX9_pass wsX9_in := goodIn_r _ [5] (by decide +kernel) (by decide +kernel)
set_option maxRecDepth 20000 in
theorem gX9_pass_X9_in : GoodIn wsX9_pass (va_wsS RX9 102 yX9_in wsX9_in) := goodIn_app (goodIn_of _ (by decide +kernel)) ggX9_pass_X9_in
set_option maxRecDepth 20000 in
theorem ggX9_pass_X9_asked : GoodIn wsX9_pass wsX9_asked := goodIn_r _ [9, 10, 11, 12, 13, 14, 15, 16, 17, 18, 19, 20, 21, 22, 23, 24, 25, 26, 27, 28, 29, 30, 31, 32, 33, 34, 35, 36, 37, 38, 39, 40, 41, 42, 43, 44, 45, 46, 47] (by decide +kernel) (by decide +kernel)
set_option maxRecDepth 20000 in
theorem gX9_pass_X9_asked : GoodIn wsX9_pass (wsV RX9 162 RX9 yX9_asked wsX9_asked) := goodIn_app (goodIn_of _ (by decide +kernel)) ggX9_pass_X9_asked
theorem dX9_pass_0 : decode cX9_pass 0 = .ok (.aload_n 0, 1) := by decide +kernel
theorem dX9_pass_1 : decode cX9_pass 1 = .ok (.iload_n 1, 1) := by decide +kernel
theorem dX9_pass_2 : decode cX9_pass 2 = .ok (.iconst 1, 1) := by decide +kernel
theorem dX9_pass_3 : decode cX9_pass 3 = .ok (.bipush 100, 2) := by decide +kernel
theorem dX9_pass_5 : decode cX9_pass 5 = .ok (.invokestatic 102, 3) := by decide +kernel
theorem dX9_pass_8 : decode cX9_pass 8 = .ok (.invokevirtual 162, 3) := by decide +kernel
theorem dX9_pass_11 : decode cX9_pass 11 = .ok (.ifCond .ne 5, 3) := by decide +kernel
theorem dX9_pass_14 : decode cX9_pass 14 = .ok (.iconst 0, 1) := by decide +kernel
theorem dX9_pass_15 : decode cX9_pass 15 = .ok (.ireturn, 1) := by decide +kernel
theorem dX9_pass_16 : decode cX9_pass 16 = .ok (.aload_n 0, 1) := by decide +kernel
theorem dX9_pass_17 : decode cX9_pass 17 = .ok (.dup, 1) := by decide +kernel
theorem dX9_pass_18 : decode cX9_pass 18 = .ok (.getfield 248, 3) := by decide +kernel
theorem dX9_pass_21 : decode cX9_pass 21 = .ok (.iload_n 1, 1) := by decide +kernel
theorem dX9_pass_22 : decode cX9_pass 22 = .ok (.iadd, 1) := by decide +kernel
theorem dX9_pass_23 : decode cX9_pass 23 = .ok (.putfield 248, 3) := by decide +kernel
theorem dX9_pass_26 : decode cX9_pass 26 = .ok (.aload_n 0, 1) := by decide +kernel
theorem dX9_pass_27 : decode cX9_pass 27 = .ok (.getfield 248, 3) := by decide +kernel
theorem dX9_pass_30 : decode cX9_pass 30 = .ok (.ireturn, 1) := by decide +kernel
set_option maxRecDepth 20000 in
theorem ggX9_setKey_X9_isZone : GoodIn wsX9_setKey wsX9_isZone := goodIn_r _ [6, 7, 8, 9, 5, 10, 16, 17, 18, 19, 20, 21, 22, 23, 24, 25, 26, 27, 28, 29, 30, 31, 32, 33, 34, 35, 36, 37, 38, 39, 40, 41, 42, 43, 44, 45, 46, 47, 48, 49, 50, 51, 52] (by decide +kernel) (by decide +kernel)
set_option maxRecDepth 20000 in
theorem gX9_setKey_X9_isZone : GoodIn wsX9_setKey (wsV RX9 159 RX9 yX9_isZone wsX9_isZone) := goodIn_app (goodIn_of _ (by decide +kernel)) ggX9_setKey_X9_isZone
set_option maxRecDepth 20000 in
theorem ggX9_setKey_X9_in : GoodIn wsX9_setKey wsX9_in := goodIn_r _ [10] (by decide +kernel) (by decide +kernel)
set_option maxRecDepth 20000 in
theorem gX9_setKey_X9_in : GoodIn wsX9_setKey (va_wsS RX9 102 yX9_in wsX9_in) := goodIn_app (goodIn_of _ (by decide +kernel)) ggX9_setKey_X9_in
set_option maxRecDepth 20000 in
theorem ggX9_setKey_X9_asked_ : GoodIn wsX9_setKey wsX9_asked_ := goodIn_r _ [14, 15, 16, 17, 18, 19, 20, 21, 22, 23, 24, 25, 26, 27, 28, 29, 30, 31, 32, 33, 34, 35, 36, 37, 38, 39, 40, 41, 42, 43, 44, 45, 46, 47, 48, 49, 50, 51, 52] (by decide +kernel) (by decide +kernel)
set_option maxRecDepth 20000 in
theorem gX9_setKey_X9_asked_ : GoodIn wsX9_setKey (wsV RX9 142 RX9 yX9_asked_ wsX9_asked_) := goodIn_app (goodIn_of _ (by decide +kernel)) ggX9_setKey_X9_asked_
theorem dX9_setKey_0 : decode cX9_setKey 0 = .ok (.aload_n 0, 1) := by decide +kernel
theorem dX9_setKey_1 : decode cX9_setKey 1 = .ok (.aload_n 0, 1) := by decide +kernel
theorem dX9_setKey_2 : decode cX9_setKey 2 = .ok (.iload_n 1, 1) := by decide +kernel
theorem dX9_setKey_3 : decode cX9_setKey 3 = .ok (.invokevirtual 159, 3) := by decide +kernel
theorem dX9_setKey_6 : decode cX9_setKey 6 = .ok (.iload_n 2, 1) := by decide +kernel
theorem dX9_setKey_7 : decode cX9_setKey 7 = .ok (.iconst 0, 1) := by decide +kernel
theorem dX9_setKey_8 : decode cX9_setKey 8 = .ok (.iconst 1, 1) := by decide +kernel
theorem dX9_setKey_9 : decode cX9_setKey 9 = .ok (.invokestatic 102, 3) := by decide +kernel
theorem dX9_setKey_12 : decode cX9_setKey 12 = .ok (.ifCond .eq 17, 3) := by decide +kernel
theorem dX9_setKey_15 : decode cX9_setKey 15 = .ok (.iload_n 3, 1) := by decide +kernel
theorem dX9_setKey_16 : decode cX9_setKey 16 = .ok (.iconst (-1), 1) := by decide +kernel
theorem dX9_setKey_17 : decode cX9_setKey 17 = .ok (.bipush 99, 2) := by decide +kernel
theorem dX9_setKey_19 : decode cX9_setKey 19 = .ok (.invokestatic 102, 3) := by decide +kernel
theorem dX9_setKey_22 : decode cX9_setKey 22 = .ok (.ifCond .eq 7, 3) := by decide +kernel
theorem dX9_setKey_25 : decode cX9_setKey 25 = .ok (.iconst 1, 1) := by decide +kernel
theorem dX9_setKey_26 : decode cX9_setKey 26 = .ok (.goto 4, 3) := by decide +kernel
theorem dX9_setKey_29 : decode cX9_setKey 29 = .ok (.iconst 0, 1) := by decide +kernel
theorem dX9_setKey_30 : decode cX9_setKey 30 = .ok (.invokevirtual 142, 3) := by decide +kernel
theorem dX9_setKey_33 : decode cX9_setKey 33 = .ok (.ifCond .ne 5, 3) := by decide +kernel
theorem dX9_setKey_36 : decode cX9_setKey 36 = .ok (.iconst 0, 1) := by decide +kernel
theorem dX9_setKey_37 : decode cX9_setKey 37 = .ok (.ireturn, 1) := by decide +kernel
theorem dX9_setKey_38 : decode cX9_setKey 38 = .ok (.aload_n 0, 1) := by decide +kernel
theorem dX9_setKey_39 : decode cX9_setKey 39 = .ok (.getfield 30, 3) := by decide +kernel
theorem dX9_setKey_42 : decode cX9_setKey 42 = .ok (.iconst 2, 1) := by decide +kernel
theorem dX9_setKey_43 : decode cX9_setKey 43 = .ok (.iload_n 1, 1) := by decide +kernel
theorem dX9_setKey_44 : decode cX9_setKey 44 = .ok (.imul, 1) := by decide +kernel
theorem dX9_setKey_45 : decode cX9_setKey 45 = .ok (.iload_n 2, 1) := by decide +kernel
theorem dX9_setKey_46 : decode cX9_setKey 46 = .ok (.iadd, 1) := by decide +kernel
theorem dX9_setKey_47 : decode cX9_setKey 47 = .ok (.iaload, 1) := by decide +kernel
theorem dX9_setKey_48 : decode cX9_setKey 48 = .ok (.istore 4, 2) := by decide +kernel
theorem dX9_setKey_50 : decode cX9_setKey 50 = .ok (.aload_n 0, 1) := by decide +kernel
theorem dX9_setKey_51 : decode cX9_setKey 51 = .ok (.getfield 30, 3) := by decide +kernel
theorem dX9_setKey_54 : decode cX9_setKey 54 = .ok (.iconst 2, 1) := by decide +kernel
theorem dX9_setKey_55 : decode cX9_setKey 55 = .ok (.iload_n 1, 1) := by decide +kernel
theorem dX9_setKey_56 : decode cX9_setKey 56 = .ok (.imul, 1) := by decide +kernel
theorem dX9_setKey_57 : decode cX9_setKey 57 = .ok (.iload_n 2, 1) := by decide +kernel
theorem dX9_setKey_58 : decode cX9_setKey 58 = .ok (.iadd, 1) := by decide +kernel
theorem dX9_setKey_59 : decode cX9_setKey 59 = .ok (.iload_n 3, 1) := by decide +kernel
theorem dX9_setKey_60 : decode cX9_setKey 60 = .ok (.iastore, 1) := by decide +kernel
theorem dX9_setKey_61 : decode cX9_setKey 61 = .ok (.iload 4, 2) := by decide +kernel
theorem dX9_setKey_63 : decode cX9_setKey 63 = .ok (.ireturn, 1) := by decide +kernel
set_option maxRecDepth 20000 in
theorem ggX9_setWindow_X9_isZone : GoodIn wsX9_setWindow wsX9_isZone := goodIn_r _ [7, 8, 9, 10, 6, 11, 17, 18, 19, 20, 21, 22, 23, 24, 25, 26, 27, 28, 29, 30, 31, 32, 33, 34, 35, 36, 37, 38, 39, 40, 41, 42, 43, 44, 45, 46, 47, 48, 49, 50, 51, 52, 53] (by decide +kernel) (by decide +kernel)
set_option maxRecDepth 20000 in
theorem gX9_setWindow_X9_isZone : GoodIn wsX9_setWindow (wsV RX9 159 RX9 yX9_isZone wsX9_isZone) := goodIn_app (goodIn_of _ (by decide +kernel)) ggX9_setWindow_X9_isZone
set_option maxRecDepth 20000 in
theorem ggX9_setWindow_X9_in : GoodIn wsX9_setWindow wsX9_in := goodIn_r _ [11] (by decide +kernel) (by decide +kernel)
set_option maxRecDepth 20000 in
theorem gX9_setWindow_X9_in : GoodIn wsX9_setWindow (va_wsS RX9 102 yX9_in wsX9_in) := goodIn_app (goodIn_of _ (by decide +kernel)) ggX9_setWindow_X9_in
set_option maxRecDepth 20000 in
theorem ggX9_setWindow_X9_asked_ : GoodIn wsX9_setWindow wsX9_asked_ := goodIn_r _ [15, 16, 17, 18, 19, 20, 21, 22, 23, 24, 25, 26, 27, 28, 29, 30, 31, 32, 33, 34, 35, 36, 37, 38, 39, 40, 41, 42, 43, 44, 45, 46, 47, 48, 49, 50, 51, 52, 53] (by decide +kernel) (by decide +kernel)
set_option maxRecDepth 20000 in
theorem gX9_setWindow_X9_asked_ : GoodIn wsX9_setWindow (wsV RX9 142 RX9 yX9_asked_ wsX9_asked_) := goodIn_app (goodIn_of _ (by decide +kernel)) ggX9_setWindow_X9_asked_
theorem dX9_setWindow_0 : decode cX9_setWindow 0 = .ok (.aload_n 0, 1) := by decide +kernel
theorem dX9_setWindow_1 : decode cX9_setWindow 1 = .ok (.aload_n 0, 1) := by decide +kernel
theorem dX9_setWindow_2 : decode cX9_setWindow 2 = .ok (.iload_n 1, 1) := by decide +kernel
theorem dX9_setWindow_3 : decode cX9_setWindow 3 = .ok (.invokevirtual 159, 3) := by decide +kernel
theorem dX9_setWindow_6 : decode cX9_setWindow 6 = .ok (.iload_n 2, 1) := by decide +kernel
theorem dX9_setWindow_7 : decode cX9_setWindow 7 = .ok (.iconst 0, 1) := by decide +kernel
theorem dX9_setWindow_8 : decode cX9_setWindow 8 = .ok (.sipush 10000, 3) := by decide +kernel
theorem dX9_setWindow_11 : decode cX9_setWindow 11 = .ok (.invokestatic 102, 3) := by decide +kernel
theorem dX9_setWindow_14 : decode cX9_setWindow 14 = .ok (.ifCond .eq 18, 3) := by decide +kernel
theorem dX9_setWindow_17 : decode cX9_setWindow 17 = .ok (.iload_n 3, 1) := by decide +kernel
theorem dX9_setWindow_18 : decode cX9_setWindow 18 = .ok (.iload_n 2, 1) := by decide +kernel
theorem dX9_setWindow_19 : decode cX9_setWindow 19 = .ok (.sipush 10000, 3) := by decide +kernel
theorem dX9_setWindow_22 : decode cX9_setWindow 22 = .ok (.invokestatic 102, 3) := by decide +kernel
theorem dX9_setWindow_25 : decode cX9_setWindow 25 = .ok (.ifCond .eq 7, 3) := by decide +kernel
theorem dX9_setWindow_28 : decode cX9_setWindow 28 = .ok (.iconst 1, 1) := by decide +kernel
theorem dX9_setWindow_29 : decode cX9_setWindow 29 = .ok (.goto 4, 3) := by decide +kernel
theorem dX9_setWindow_32 : decode cX9_setWindow 32 = .ok (.iconst 0, 1) := by decide +kernel
theorem dX9_setWindow_33 : decode cX9_setWindow 33 = .ok (.invokevirtual 142, 3) := by decide +kernel
theorem dX9_setWindow_36 : decode cX9_setWindow 36 = .ok (.ifCond .eq 17, 3) := by decide +kernel
theorem dX9_setWindow_39 : decode cX9_setWindow 39 = .ok (.aload_n 0, 1) := by decide +kernel
theorem dX9_setWindow_40 : decode cX9_setWindow 40 = .ok (.getfield 33, 3) := by decide +kernel
theorem dX9_setWindow_43 : decode cX9_setWindow 43 = .ok (.iload_n 1, 1) := by decide +kernel
theorem dX9_setWindow_44 : decode cX9_setWindow 44 = .ok (.iload_n 2, 1) := by decide +kernel
theorem dX9_setWindow_45 : decode cX9_setWindow 45 = .ok (.iastore, 1) := by decide +kernel
theorem dX9_setWindow_46 : decode cX9_setWindow 46 = .ok (.aload_n 0, 1) := by decide +kernel
theorem dX9_setWindow_47 : decode cX9_setWindow 47 = .ok (.getfield 36, 3) := by decide +kernel
theorem dX9_setWindow_50 : decode cX9_setWindow 50 = .ok (.iload_n 1, 1) := by decide +kernel
theorem dX9_setWindow_51 : decode cX9_setWindow 51 = .ok (.iload_n 3, 1) := by decide +kernel
theorem dX9_setWindow_52 : decode cX9_setWindow 52 = .ok (.iastore, 1) := by decide +kernel
theorem dX9_setWindow_53 : decode cX9_setWindow 53 = .ok (.return_, 1) := by decide +kernel
set_option maxRecDepth 20000 in
theorem ggX9_setAnchor_X9_in : GoodIn wsX9_setAnchor wsX9_in := goodIn_r _ [5] (by decide +kernel) (by decide +kernel)
set_option maxRecDepth 20000 in
theorem gX9_setAnchor_X9_in : GoodIn wsX9_setAnchor (va_wsS RX9 102 yX9_in wsX9_in) := goodIn_app (goodIn_of _ (by decide +kernel)) ggX9_setAnchor_X9_in
set_option maxRecDepth 20000 in
theorem ggX9_setAnchor_X9_asked : GoodIn wsX9_setAnchor wsX9_asked := goodIn_r _ [9, 10, 11, 12, 13, 14, 15, 16, 17, 18, 19, 20, 21, 22, 23, 24, 25, 26, 27, 28, 29, 30, 31, 32, 33, 34, 35, 36, 37, 38, 39, 40, 41, 42, 43, 44, 45, 46, 47] (by decide +kernel) (by decide +kernel)
set_option maxRecDepth 20000 in
theorem gX9_setAnchor_X9_asked : GoodIn wsX9_setAnchor (wsV RX9 162 RX9 yX9_asked wsX9_asked) := goodIn_app (goodIn_of _ (by decide +kernel)) ggX9_setAnchor_X9_asked
theorem dX9_setAnchor_0 : decode cX9_setAnchor 0 = .ok (.aload_n 0, 1) := by decide +kernel
theorem dX9_setAnchor_1 : decode cX9_setAnchor 1 = .ok (.iload_n 1, 1) := by decide +kernel
theorem dX9_setAnchor_2 : decode cX9_setAnchor 2 = .ok (.iconst (-1), 1) := by decide +kernel
theorem dX9_setAnchor_3 : decode cX9_setAnchor 3 = .ok (.bipush 99, 2) := by decide +kernel
theorem dX9_setAnchor_5 : decode cX9_setAnchor 5 = .ok (.invokestatic 102, 3) := by decide +kernel
theorem dX9_setAnchor_8 : decode cX9_setAnchor 8 = .ok (.invokevirtual 162, 3) := by decide +kernel
theorem dX9_setAnchor_11 : decode cX9_setAnchor 11 = .ok (.ifCond .ne 5, 3) := by decide +kernel
theorem dX9_setAnchor_14 : decode cX9_setAnchor 14 = .ok (.iconst 0, 1) := by decide +kernel
theorem dX9_setAnchor_15 : decode cX9_setAnchor 15 = .ok (.ireturn, 1) := by decide +kernel
theorem dX9_setAnchor_16 : decode cX9_setAnchor 16 = .ok (.aload_n 0, 1) := by decide +kernel
theorem dX9_setAnchor_17 : decode cX9_setAnchor 17 = .ok (.getfield 39, 3) := by decide +kernel
theorem dX9_setAnchor_20 : decode cX9_setAnchor 20 = .ok (.istore_n 2, 1) := by decide +kernel
theorem dX9_setAnchor_21 : decode cX9_setAnchor 21 = .ok (.aload_n 0, 1) := by decide +kernel
theorem dX9_setAnchor_22 : decode cX9_setAnchor 22 = .ok (.iload_n 1, 1) := by decide +kernel
theorem dX9_setAnchor_23 : decode cX9_setAnchor 23 = .ok (.putfield 39, 3) := by decide +kernel
theorem dX9_setAnchor_26 : decode cX9_setAnchor 26 = .ok (.iload_n 2, 1) := by decide +kernel
theorem dX9_setAnchor_27 : decode cX9_setAnchor 27 = .ok (.ireturn, 1) := by decide +kernel
set_option maxRecDepth 20000 in
theorem ggX9_trust_X9_isAsked : GoodIn wsX9_trust wsX9_isAsked := goodIn_r _ [5, 6, 7, 4, 8, 9, 10, 11] (by decide +kernel) (by decide +kernel)
set_option maxRecDepth 20000 in
theorem gX9_trust_X9_isAsked : GoodIn wsX9_trust (va_wsS RX9 274 yX9_isAsked wsX9_isAsked) := goodIn_app (goodIn_of _ (by decide +kernel)) ggX9_trust_X9_isAsked
set_option maxRecDepth 20000 in
theorem ggX9_trust_X9_asked : GoodIn wsX9_trust wsX9_asked := goodIn_r _ [15, 16, 138, 139, 140, 141, 142, 143, 144, 145, 146, 147, 148, 149, 150, 151, 152, 153, 154, 155, 156, 157, 158, 159, 160, 161, 162, 163, 164, 165, 166, 167, 168, 169, 170, 171, 172, 173, 174] (by decide +kernel) (by decide +kernel)
set_option maxRecDepth 20000 in
theorem gX9_trust_X9_asked : GoodIn wsX9_trust (wsV RX9 162 RX9 yX9_asked wsX9_asked) := goodIn_app (goodIn_of _ (by decide +kernel)) ggX9_trust_X9_asked
set_option maxRecDepth 20000 in
theorem ggX9_trust_X9_resolves : GoodIn wsX9_trust wsX9_resolves := goodIn_r _ [20, 1, 21, 22, 23, 24, 25, 26, 27, 28, 29, 30, 31, 32, 33, 34, 35, 4, 36, 37, 38, 39, 40, 41, 42, 43, 44, 45, 46, 47, 48, 49, 50, 51, 52, 53, 54, 55, 56, 57, 58, 59, 60, 61, 62, 63, 64, 65, 66, 67, 68, 69, 70, 71, 72, 73, 74, 9, 10, 11, 75, 76, 77, 78, 79, 80, 81, 82, 83, 84, 85, 86, 87, 88, 89, 90, 91, 92, 93, 94, 95, 96, 97, 98, 99, 100, 101, 102, 103, 104, 105, 106, 107, 108, 109, 110, 111, 112, 113, 114, 115, 116, 117, 118, 119, 120, 121, 122, 123, 124, 125, 126, 127, 128, 129, 130, 131, 132, 133, 134, 135, 136, 137, 138, 139, 140, 141, 142, 143, 144, 145, 146, 147, 148, 149, 150, 151, 152, 153, 154, 155, 156, 157, 158, 159, 160, 161, 162, 163, 164, 165, 166, 167, 168, 169, 170, 171, 172, 173, 174] (by decide +kernel) (by decide +kernel)
set_option maxRecDepth 20000 in
theorem gX9_trust_X9_resolves : GoodIn wsX9_trust (wsV RX9 277 RX9 yX9_resolves wsX9_resolves) := goodIn_app (goodIn_of _ (by decide +kernel)) ggX9_trust_X9_resolves
theorem dX9_trust_0 : decode cX9_trust 0 = .ok (.aload_n 0, 1) := by decide +kernel
theorem dX9_trust_1 : decode cX9_trust 1 = .ok (.iload_n 1, 1) := by decide +kernel
theorem dX9_trust_2 : decode cX9_trust 2 = .ok (.iload_n 2, 1) := by decide +kernel
theorem dX9_trust_3 : decode cX9_trust 3 = .ok (.invokestatic 274, 3) := by decide +kernel
theorem dX9_trust_6 : decode cX9_trust 6 = .ok (.invokevirtual 162, 3) := by decide +kernel
theorem dX9_trust_9 : decode cX9_trust 9 = .ok (.ifCond .ne 5, 3) := by decide +kernel
theorem dX9_trust_12 : decode cX9_trust 12 = .ok (.iconst 0, 1) := by decide +kernel
theorem dX9_trust_13 : decode cX9_trust 13 = .ok (.ireturn, 1) := by decide +kernel
theorem dX9_trust_14 : decode cX9_trust 14 = .ok (.aload_n 0, 1) := by decide +kernel
theorem dX9_trust_15 : decode cX9_trust 15 = .ok (.iload_n 1, 1) := by decide +kernel
theorem dX9_trust_16 : decode cX9_trust 16 = .ok (.iload_n 2, 1) := by decide +kernel
theorem dX9_trust_17 : decode cX9_trust 17 = .ok (.iconst 1, 1) := by decide +kernel
theorem dX9_trust_18 : decode cX9_trust 18 = .ok (.iconst 0, 1) := by decide +kernel
theorem dX9_trust_19 : decode cX9_trust 19 = .ok (.invokevirtual 277, 3) := by decide +kernel
theorem dX9_trust_22 : decode cX9_trust 22 = .ok (.bipush 6, 2) := by decide +kernel
theorem dX9_trust_24 : decode cX9_trust 24 = .ok (.if_icmp .ne 7, 3) := by decide +kernel
theorem dX9_trust_27 : decode cX9_trust 27 = .ok (.iconst (-1), 1) := by decide +kernel
theorem dX9_trust_28 : decode cX9_trust 28 = .ok (.goto 7, 3) := by decide +kernel
theorem dX9_trust_31 : decode cX9_trust 31 = .ok (.aload_n 0, 1) := by decide +kernel
theorem dX9_trust_32 : decode cX9_trust 32 = .ok (.getfield 254, 3) := by decide +kernel
theorem dX9_trust_35 : decode cX9_trust 35 = .ok (.ireturn, 1) := by decide +kernel
