theorem dX9_init_0 : decode cX9_init 0 = .ok (.aload_n 0, 1) := by decide +kernel
theorem dX9_init_1 : decode cX9_init 1 = .ok (.invokespecial 1, 3) := by decide +kernel
theorem dX9_init_4 : decode cX9_init 4 = .ok (.aload_n 0, 1) := by decide +kernel
theorem dX9_init_5 : decode cX9_init 5 = .ok (.iconst 1, 1) := by decide +kernel
theorem dX9_init_6 : decode cX9_init 6 = .ok (.putfield 7, 3) := by decide +kernel
theorem dX9_init_9 : decode cX9_init 9 = .ok (.aload_n 0, 1) := by decide +kernel
theorem dX9_init_10 : decode cX9_init 10 = .ok (.bipush 6, 2) := by decide +kernel
theorem dX9_init_12 : decode cX9_init 12 = .ok (.newarray .int, 2) := by decide +kernel
theorem dX9_init_14 : decode cX9_init 14 = .ok (.putfield 13, 3) := by decide +kernel
theorem dX9_init_17 : decode cX9_init 17 = .ok (.aload_n 0, 1) := by decide +kernel
theorem dX9_init_18 : decode cX9_init 18 = .ok (.bipush 6, 2) := by decide +kernel
theorem dX9_init_20 : decode cX9_init 20 = .ok (.newarray .int, 2) := by decide +kernel
theorem dX9_init_22 : decode cX9_init 22 = .ok (.putfield 17, 3) := by decide +kernel
theorem dX9_init_25 : decode cX9_init 25 = .ok (.aload_n 0, 1) := by decide +kernel
theorem dX9_init_26 : decode cX9_init 26 = .ok (.bipush 6, 2) := by decide +kernel
theorem dX9_init_28 : decode cX9_init 28 = .ok (.newarray .int, 2) := by decide +kernel
theorem dX9_init_30 : decode cX9_init 30 = .ok (.putfield 20, 3) := by decide +kernel
theorem dX9_init_33 : decode cX9_init 33 = .ok (.aload_n 0, 1) := by decide +kernel
theorem dX9_init_34 : decode cX9_init 34 = .ok (.bipush 6, 2) := by decide +kernel
theorem dX9_init_36 : decode cX9_init 36 = .ok (.newarray .int, 2) := by decide +kernel
theorem dX9_init_38 : decode cX9_init 38 = .ok (.putfield 23, 3) := by decide +kernel
theorem dX9_init_41 : decode cX9_init 41 = .ok (.aload_n 0, 1) := by decide +kernel
theorem dX9_init_42 : decode cX9_init 42 = .ok (.bipush 6, 2) := by decide +kernel
theorem dX9_init_44 : decode cX9_init 44 = .ok (.newarray .boolean, 2) := by decide +kernel
theorem dX9_init_46 : decode cX9_init 46 = .ok (.putfield 26, 3) := by decide +kernel
theorem dX9_init_49 : decode cX9_init 49 = .ok (.aload_n 0, 1) := by decide +kernel
theorem dX9_init_50 : decode cX9_init 50 = .ok (.bipush 12, 2) := by decide +kernel
theorem dX9_init_52 : decode cX9_init 52 = .ok (.newarray .int, 2) := by decide +kernel
theorem dX9_init_54 : decode cX9_init 54 = .ok (.putfield 30, 3) := by decide +kernel
theorem dX9_init_57 : decode cX9_init 57 = .ok (.aload_n 0, 1) := by decide +kernel
theorem dX9_init_58 : decode cX9_init 58 = .ok (.bipush 6, 2) := by decide +kernel
theorem dX9_init_60 : decode cX9_init 60 = .ok (.newarray .int, 2) := by decide +kernel
theorem dX9_init_62 : decode cX9_init 62 = .ok (.putfield 33, 3) := by decide +kernel
theorem dX9_init_65 : decode cX9_init 65 = .ok (.aload_n 0, 1) := by decide +kernel
theorem dX9_init_66 : decode cX9_init 66 = .ok (.bipush 6, 2) := by decide +kernel
theorem dX9_init_68 : decode cX9_init 68 = .ok (.newarray .int, 2) := by decide +kernel
theorem dX9_init_70 : decode cX9_init 70 = .ok (.putfield 36, 3) := by decide +kernel
theorem dX9_init_73 : decode cX9_init 73 = .ok (.aload_n 0, 1) := by decide +kernel
theorem dX9_init_74 : decode cX9_init 74 = .ok (.iconst (-1), 1) := by decide +kernel
theorem dX9_init_75 : decode cX9_init 75 = .ok (.putfield 39, 3) := by decide +kernel
theorem dX9_init_78 : decode cX9_init 78 = .ok (.aload_n 0, 1) := by decide +kernel
theorem dX9_init_79 : decode cX9_init 79 = .ok (.bipush 13, 2) := by decide +kernel
theorem dX9_init_81 : decode cX9_init 81 = .ok (.newarray .int, 2) := by decide +kernel
theorem dX9_init_83 : decode cX9_init 83 = .ok (.putfield 42, 3) := by decide +kernel
theorem dX9_init_86 : decode cX9_init 86 = .ok (.aload_n 0, 1) := by decide +kernel
theorem dX9_init_87 : decode cX9_init 87 = .ok (.sipush 416, 3) := by decide +kernel
theorem dX9_init_90 : decode cX9_init 90 = .ok (.newarray .int, 2) := by decide +kernel
theorem dX9_init_92 : decode cX9_init 92 = .ok (.putfield 45, 3) := by decide +kernel
theorem dX9_init_95 : decode cX9_init 95 = .ok (.aload_n 0, 1) := by decide +kernel
theorem dX9_init_96 : decode cX9_init 96 = .ok (.sipush 416, 3) := by decide +kernel
theorem dX9_init_99 : decode cX9_init 99 = .ok (.newarray .int, 2) := by decide +kernel
theorem dX9_init_101 : decode cX9_init 101 = .ok (.putfield 48, 3) := by decide +kernel
theorem dX9_init_104 : decode cX9_init 104 = .ok (.aload_n 0, 1) := by decide +kernel
theorem dX9_init_105 : decode cX9_init 105 = .ok (.sipush 416, 3) := by decide +kernel
theorem dX9_init_108 : decode cX9_init 108 = .ok (.newarray .int, 2) := by decide +kernel
theorem dX9_init_110 : decode cX9_init 110 = .ok (.putfield 51, 3) := by decide +kernel
theorem dX9_init_113 : decode cX9_init 113 = .ok (.aload_n 0, 1) := by decide +kernel
theorem dX9_init_114 : decode cX9_init 114 = .ok (.sipush 416, 3) := by decide +kernel
theorem dX9_init_117 : decode cX9_init 117 = .ok (.newarray .int, 2) := by decide +kernel
theorem dX9_init_119 : decode cX9_init 119 = .ok (.putfield 54, 3) := by decide +kernel
theorem dX9_init_122 : decode cX9_init 122 = .ok (.aload_n 0, 1) := by decide +kernel
theorem dX9_init_123 : decode cX9_init 123 = .ok (.bipush 10, 2) := by decide +kernel
theorem dX9_init_125 : decode cX9_init 125 = .ok (.newarray .int, 2) := by decide +kernel
theorem dX9_init_127 : decode cX9_init 127 = .ok (.putfield 57, 3) := by decide +kernel
theorem dX9_init_130 : decode cX9_init 130 = .ok (.aload_n 0, 1) := by decide +kernel
theorem dX9_init_131 : decode cX9_init 131 = .ok (.bipush 10, 2) := by decide +kernel
theorem dX9_init_133 : decode cX9_init 133 = .ok (.newarray .int, 2) := by decide +kernel
theorem dX9_init_135 : decode cX9_init 135 = .ok (.putfield 60, 3) := by decide +kernel
theorem dX9_init_138 : decode cX9_init 138 = .ok (.aload_n 0, 1) := by decide +kernel
theorem dX9_init_139 : decode cX9_init 139 = .ok (.bipush 10, 2) := by decide +kernel
theorem dX9_init_141 : decode cX9_init 141 = .ok (.newarray .int, 2) := by decide +kernel
theorem dX9_init_143 : decode cX9_init 143 = .ok (.putfield 63, 3) := by decide +kernel
theorem dX9_init_146 : decode cX9_init 146 = .ok (.aload_n 0, 1) := by decide +kernel
theorem dX9_init_147 : decode cX9_init 147 = .ok (.bipush 10, 2) := by decide +kernel
theorem dX9_init_149 : decode cX9_init 149 = .ok (.newarray .int, 2) := by decide +kernel
theorem dX9_init_151 : decode cX9_init 151 = .ok (.putfield 66, 3) := by decide +kernel
theorem dX9_init_154 : decode cX9_init 154 = .ok (.aload_n 0, 1) := by decide +kernel
theorem dX9_init_155 : decode cX9_init 155 = .ok (.bipush 10, 2) := by decide +kernel
theorem dX9_init_157 : decode cX9_init 157 = .ok (.newarray .int, 2) := by decide +kernel
theorem dX9_init_159 : decode cX9_init 159 = .ok (.putfield 69, 3) := by decide +kernel
theorem dX9_init_162 : decode cX9_init 162 = .ok (.aload_n 0, 1) := by decide +kernel
theorem dX9_init_163 : decode cX9_init 163 = .ok (.bipush 6, 2) := by decide +kernel
theorem dX9_init_165 : decode cX9_init 165 = .ok (.newarray .int, 2) := by decide +kernel
theorem dX9_init_167 : decode cX9_init 167 = .ok (.putfield 72, 3) := by decide +kernel
theorem dX9_init_170 : decode cX9_init 170 = .ok (.aload_n 0, 1) := by decide +kernel
theorem dX9_init_171 : decode cX9_init 171 = .ok (.bipush 41, 2) := by decide +kernel
theorem dX9_init_173 : decode cX9_init 173 = .ok (.newarray .int, 2) := by decide +kernel
theorem dX9_init_175 : decode cX9_init 175 = .ok (.putfield 75, 3) := by decide +kernel
theorem dX9_init_178 : decode cX9_init 178 = .ok (.aload_n 0, 1) := by decide +kernel
theorem dX9_init_179 : decode cX9_init 179 = .ok (.bipush 41, 2) := by decide +kernel
theorem dX9_init_181 : decode cX9_init 181 = .ok (.newarray .int, 2) := by decide +kernel
theorem dX9_init_183 : decode cX9_init 183 = .ok (.putfield 78, 3) := by decide +kernel
theorem dX9_init_186 : decode cX9_init 186 = .ok (.aload_n 0, 1) := by decide +kernel
theorem dX9_init_187 : decode cX9_init 187 = .ok (.bipush 41, 2) := by decide +kernel
theorem dX9_init_189 : decode cX9_init 189 = .ok (.newarray .int, 2) := by decide +kernel
theorem dX9_init_191 : decode cX9_init 191 = .ok (.putfield 81, 3) := by decide +kernel
theorem dX9_init_194 : decode cX9_init 194 = .ok (.aload_n 0, 1) := by decide +kernel
theorem dX9_init_195 : decode cX9_init 195 = .ok (.bipush 41, 2) := by decide +kernel
theorem dX9_init_197 : decode cX9_init 197 = .ok (.newarray .int, 2) := by decide +kernel
theorem dX9_init_199 : decode cX9_init 199 = .ok (.putfield 84, 3) := by decide +kernel
theorem dX9_init_202 : decode cX9_init 202 = .ok (.aload_n 0, 1) := by decide +kernel
theorem dX9_init_203 : decode cX9_init 203 = .ok (.bipush 41, 2) := by decide +kernel
theorem dX9_init_205 : decode cX9_init 205 = .ok (.newarray .int, 2) := by decide +kernel
theorem dX9_init_207 : decode cX9_init 207 = .ok (.putfield 87, 3) := by decide +kernel
theorem dX9_init_210 : decode cX9_init 210 = .ok (.aload_n 0, 1) := by decide +kernel
theorem dX9_init_211 : decode cX9_init 211 = .ok (.bipush 41, 2) := by decide +kernel
theorem dX9_init_213 : decode cX9_init 213 = .ok (.newarray .int, 2) := by decide +kernel
theorem dX9_init_215 : decode cX9_init 215 = .ok (.putfield 90, 3) := by decide +kernel
theorem dX9_init_218 : decode cX9_init 218 = .ok (.aload_n 0, 1) := by decide +kernel
theorem dX9_init_219 : decode cX9_init 219 = .ok (.bipush 41, 2) := by decide +kernel
theorem dX9_init_221 : decode cX9_init 221 = .ok (.newarray .int, 2) := by decide +kernel
theorem dX9_init_223 : decode cX9_init 223 = .ok (.putfield 93, 3) := by decide +kernel
theorem dX9_init_226 : decode cX9_init 226 = .ok (.aload_n 0, 1) := by decide +kernel
theorem dX9_init_227 : decode cX9_init 227 = .ok (.iconst 5, 1) := by decide +kernel
theorem dX9_init_228 : decode cX9_init 228 = .ok (.newarray .int, 2) := by decide +kernel
theorem dX9_init_230 : decode cX9_init 230 = .ok (.putfield 96, 3) := by decide +kernel
theorem dX9_init_233 : decode cX9_init 233 = .ok (.aload_n 0, 1) := by decide +kernel
theorem dX9_init_234 : decode cX9_init 234 = .ok (.getfield 17, 3) := by decide +kernel
theorem dX9_init_237 : decode cX9_init 237 = .ok (.iconst 0, 1) := by decide +kernel
theorem dX9_init_238 : decode cX9_init 238 = .ok (.bipush 10, 2) := by decide +kernel
theorem dX9_init_240 : decode cX9_init 240 = .ok (.iastore, 1) := by decide +kernel
theorem dX9_init_241 : decode cX9_init 241 = .ok (.iconst 0, 1) := by decide +kernel
theorem dX9_init_242 : decode cX9_init 242 = .ok (.istore_n 1, 1) := by decide +kernel
theorem dX9_init_243 : decode cX9_init 243 = .ok (.iload_n 1, 1) := by decide +kernel
theorem dX9_init_244 : decode cX9_init 244 = .ok (.bipush 12, 2) := by decide +kernel
theorem dX9_init_246 : decode cX9_init 246 = .ok (.if_icmp .ge 16, 3) := by decide +kernel
theorem dX9_init_249 : decode cX9_init 249 = .ok (.aload_n 0, 1) := by decide +kernel
theorem dX9_init_250 : decode cX9_init 250 = .ok (.getfield 30, 3) := by decide +kernel
theorem dX9_init_253 : decode cX9_init 253 = .ok (.iload_n 1, 1) := by decide +kernel
theorem dX9_init_254 : decode cX9_init 254 = .ok (.iconst (-1), 1) := by decide +kernel
theorem dX9_init_255 : decode cX9_init 255 = .ok (.iastore, 1) := by decide +kernel
theorem dX9_init_256 : decode cX9_init 256 = .ok (.iinc 1 1, 3) := by decide +kernel
theorem dX9_init_259 : decode cX9_init 259 = .ok (.goto (-16), 3) := by decide +kernel
theorem dX9_init_262 : decode cX9_init 262 = .ok (.iconst 0, 1) := by decide +kernel
theorem dX9_init_263 : decode cX9_init 263 = .ok (.istore_n 1, 1) := by decide +kernel
theorem dX9_init_264 : decode cX9_init 264 = .ok (.iload_n 1, 1) := by decide +kernel
theorem dX9_init_265 : decode cX9_init 265 = .ok (.bipush 6, 2) := by decide +kernel
theorem dX9_init_267 : decode cX9_init 267 = .ok (.if_icmp .ge 16, 3) := by decide +kernel
theorem dX9_init_270 : decode cX9_init 270 = .ok (.aload_n 0, 1) := by decide +kernel
theorem dX9_init_271 : decode cX9_init 271 = .ok (.getfield 23, 3) := by decide +kernel
theorem dX9_init_274 : decode cX9_init 274 = .ok (.iload_n 1, 1) := by decide +kernel
theorem dX9_init_275 : decode cX9_init 275 = .ok (.iconst (-1), 1) := by decide +kernel
theorem dX9_init_276 : decode cX9_init 276 = .ok (.iastore, 1) := by decide +kernel
theorem dX9_init_277 : decode cX9_init 277 = .ok (.iinc 1 1, 3) := by decide +kernel
theorem dX9_init_280 : decode cX9_init 280 = .ok (.goto (-16), 3) := by decide +kernel
theorem dX9_init_283 : decode cX9_init 283 = .ok (.iconst 0, 1) := by decide +kernel
theorem dX9_init_284 : decode cX9_init 284 = .ok (.istore_n 1, 1) := by decide +kernel
theorem dX9_init_285 : decode cX9_init 285 = .ok (.iload_n 1, 1) := by decide +kernel
theorem dX9_init_286 : decode cX9_init 286 = .ok (.iconst 5, 1) := by decide +kernel
theorem dX9_init_287 : decode cX9_init 287 = .ok (.if_icmp .ge 16, 3) := by decide +kernel
theorem dX9_init_290 : decode cX9_init 290 = .ok (.aload_n 0, 1) := by decide +kernel
theorem dX9_init_291 : decode cX9_init 291 = .ok (.getfield 96, 3) := by decide +kernel
theorem dX9_init_294 : decode cX9_init 294 = .ok (.iload_n 1, 1) := by decide +kernel
theorem dX9_init_295 : decode cX9_init 295 = .ok (.iconst (-1), 1) := by decide +kernel
theorem dX9_init_296 : decode cX9_init 296 = .ok (.iastore, 1) := by decide +kernel
theorem dX9_init_297 : decode cX9_init 297 = .ok (.iinc 1 1, 3) := by decide +kernel
theorem dX9_init_300 : decode cX9_init 300 = .ok (.goto (-15), 3) := by decide +kernel
theorem dX9_init_303 : decode cX9_init 303 = .ok (.return_, 1) := by decide +kernel
theorem dX9_thrown_0 : decode cX9_thrown 0 = .ok (.aload_n 0, 1) := by decide +kernel
theorem dX9_thrown_1 : decode cX9_thrown 1 = .ok (.getfield 99, 3) := by decide +kernel
theorem dX9_thrown_4 : decode cX9_thrown 4 = .ok (.ireturn, 1) := by decide +kernel
theorem dX9_asked_0 : decode cX9_asked 0 = .ok (.aload_n 0, 1) := by decide +kernel
theorem dX9_asked_1 : decode cX9_asked 1 = .ok (.iload_n 1, 1) := by decide +kernel
theorem dX9_asked_2 : decode cX9_asked 2 = .ok (.ifCond .eq 7, 3) := by decide +kernel
theorem dX9_asked_5 : decode cX9_asked 5 = .ok (.iconst 0, 1) := by decide +kernel
theorem dX9_asked_6 : decode cX9_asked 6 = .ok (.goto 4, 3) := by decide +kernel
theorem dX9_asked_9 : decode cX9_asked 9 = .ok (.iconst 1, 1) := by decide +kernel
theorem dX9_asked_10 : decode cX9_asked 10 = .ok (.putfield 99, 3) := by decide +kernel
theorem dX9_asked_13 : decode cX9_asked 13 = .ok (.iload_n 1, 1) := by decide +kernel
theorem dX9_asked_14 : decode cX9_asked 14 = .ok (.ireturn, 1) := by decide +kernel
theorem dX9_asked__0 : decode cX9_asked_ 0 = .ok (.aload_n 0, 1) := by decide +kernel
theorem dX9_asked__1 : decode cX9_asked_ 1 = .ok (.iload_n 1, 1) := by decide +kernel
theorem dX9_asked__2 : decode cX9_asked_ 2 = .ok (.ifCond .ne 7, 3) := by decide +kernel
theorem dX9_asked__5 : decode cX9_asked_ 5 = .ok (.iconst 1, 1) := by decide +kernel
theorem dX9_asked__6 : decode cX9_asked_ 6 = .ok (.goto 12, 3) := by decide +kernel
theorem dX9_asked__9 : decode cX9_asked_ 9 = .ok (.iload_n 2, 1) := by decide +kernel
theorem dX9_asked__10 : decode cX9_asked_ 10 = .ok (.ifCond .eq 7, 3) := by decide +kernel
theorem dX9_asked__13 : decode cX9_asked_ 13 = .ok (.iconst 0, 1) := by decide +kernel
theorem dX9_asked__14 : decode cX9_asked_ 14 = .ok (.goto 4, 3) := by decide +kernel
theorem dX9_asked__17 : decode cX9_asked_ 17 = .ok (.iconst 2, 1) := by decide +kernel
theorem dX9_asked__18 : decode cX9_asked_ 18 = .ok (.putfield 99, 3) := by decide +kernel
theorem dX9_asked__21 : decode cX9_asked_ 21 = .ok (.aload_n 0, 1) := by decide +kernel
theorem dX9_asked__22 : decode cX9_asked_ 22 = .ok (.getfield 99, 3) := by decide +kernel
theorem dX9_asked__25 : decode cX9_asked_ 25 = .ok (.ifCond .ne 7, 3) := by decide +kernel
theorem dX9_asked__28 : decode cX9_asked_ 28 = .ok (.iconst 1, 1) := by decide +kernel
theorem dX9_asked__29 : decode cX9_asked_ 29 = .ok (.goto 4, 3) := by decide +kernel
theorem dX9_asked__32 : decode cX9_asked_ 32 = .ok (.iconst 0, 1) := by decide +kernel
theorem dX9_asked__33 : decode cX9_asked_ 33 = .ok (.ireturn, 1) := by decide +kernel
theorem dX9_asked___0 : decode cX9_asked__ 0 = .ok (.aload_n 0, 1) := by decide +kernel
theorem dX9_asked___1 : decode cX9_asked__ 1 = .ok (.iload_n 1, 1) := by decide +kernel
theorem dX9_asked___2 : decode cX9_asked__ 2 = .ok (.ifCond .ne 7, 3) := by decide +kernel
theorem dX9_asked___5 : decode cX9_asked__ 5 = .ok (.iconst 1, 1) := by decide +kernel
theorem dX9_asked___6 : decode cX9_asked__ 6 = .ok (.goto 20, 3) := by decide +kernel
theorem dX9_asked___9 : decode cX9_asked__ 9 = .ok (.iload_n 2, 1) := by decide +kernel
theorem dX9_asked___10 : decode cX9_asked__ 10 = .ok (.ifCond .ne 7, 3) := by decide +kernel
theorem dX9_asked___13 : decode cX9_asked__ 13 = .ok (.iconst 2, 1) := by decide +kernel
theorem dX9_asked___14 : decode cX9_asked__ 14 = .ok (.goto 12, 3) := by decide +kernel
theorem dX9_asked___17 : decode cX9_asked__ 17 = .ok (.iload_n 3, 1) := by decide +kernel
theorem dX9_asked___18 : decode cX9_asked__ 18 = .ok (.ifCond .eq 7, 3) := by decide +kernel
theorem dX9_asked___21 : decode cX9_asked__ 21 = .ok (.iconst 0, 1) := by decide +kernel
theorem dX9_asked___22 : decode cX9_asked__ 22 = .ok (.goto 4, 3) := by decide +kernel
theorem dX9_asked___25 : decode cX9_asked__ 25 = .ok (.iconst 3, 1) := by decide +kernel
theorem dX9_asked___26 : decode cX9_asked__ 26 = .ok (.putfield 99, 3) := by decide +kernel
theorem dX9_asked___29 : decode cX9_asked__ 29 = .ok (.aload_n 0, 1) := by decide +kernel
theorem dX9_asked___30 : decode cX9_asked__ 30 = .ok (.getfield 99, 3) := by decide +kernel
theorem dX9_asked___33 : decode cX9_asked__ 33 = .ok (.ifCond .ne 7, 3) := by decide +kernel
theorem dX9_asked___36 : decode cX9_asked__ 36 = .ok (.iconst 1, 1) := by decide +kernel
theorem dX9_asked___37 : decode cX9_asked__ 37 = .ok (.goto 4, 3) := by decide +kernel
theorem dX9_asked___40 : decode cX9_asked__ 40 = .ok (.iconst 0, 1) := by decide +kernel
theorem dX9_asked___41 : decode cX9_asked__ 41 = .ok (.ireturn, 1) := by decide +kernel
theorem dX9_in_0 : decode cX9_in 0 = .ok (.iload_n 0, 1) := by decide +kernel
theorem dX9_in_1 : decode cX9_in 1 = .ok (.iload_n 1, 1) := by decide +kernel
theorem dX9_in_2 : decode cX9_in 2 = .ok (.if_icmp .lt 12, 3) := by decide +kernel
theorem dX9_in_5 : decode cX9_in 5 = .ok (.iload_n 0, 1) := by decide +kernel
theorem dX9_in_6 : decode cX9_in 6 = .ok (.iload_n 2, 1) := by decide +kernel
theorem dX9_in_7 : decode cX9_in 7 = .ok (.if_icmp .gt 7, 3) := by decide +kernel
theorem dX9_in_10 : decode cX9_in 10 = .ok (.iconst 1, 1) := by decide +kernel
theorem dX9_in_11 : decode cX9_in 11 = .ok (.goto 4, 3) := by decide +kernel
theorem dX9_in_14 : decode cX9_in 14 = .ok (.iconst 0, 1) := by decide +kernel
theorem dX9_in_15 : decode cX9_in 15 = .ok (.ireturn, 1) := by decide +kernel
theorem dX9_figures_0 : decode cX9_figures 0 = .ok (.iconst 0, 1) := by decide +kernel
theorem dX9_figures_1 : decode cX9_figures 1 = .ok (.istore_n 1, 1) := by decide +kernel
theorem dX9_figures_2 : decode cX9_figures 2 = .ok (.iload_n 0, 1) := by decide +kernel
theorem dX9_figures_3 : decode cX9_figures 3 = .ok (.istore_n 2, 1) := by decide +kernel
theorem dX9_figures_4 : decode cX9_figures 4 = .ok (.iload_n 2, 1) := by decide +kernel
theorem dX9_figures_5 : decode cX9_figures 5 = .ok (.ifCond .le 14, 3) := by decide +kernel
theorem dX9_figures_8 : decode cX9_figures 8 = .ok (.iinc 1 1, 3) := by decide +kernel
theorem dX9_figures_11 : decode cX9_figures 11 = .ok (.iload_n 2, 1) := by decide +kernel
theorem dX9_figures_12 : decode cX9_figures 12 = .ok (.bipush 10, 2) := by decide +kernel
theorem dX9_figures_14 : decode cX9_figures 14 = .ok (.idiv, 1) := by decide +kernel
theorem dX9_figures_15 : decode cX9_figures 15 = .ok (.istore_n 2, 1) := by decide +kernel
theorem dX9_figures_16 : decode cX9_figures 16 = .ok (.goto (-12), 3) := by decide +kernel
theorem dX9_figures_19 : decode cX9_figures 19 = .ok (.iload_n 1, 1) := by decide +kernel
theorem dX9_figures_20 : decode cX9_figures 20 = .ok (.ireturn, 1) := by decide +kernel
set_option maxRecDepth 20000 in
theorem ggX9_isName_X9_in : GoodIn wsX9_isName wsX9_in := goodIn_r _ [4] (by decide +kernel) (by decide +kernel)
set_option maxRecDepth 20000 in
theorem gX9_isName_X9_in : GoodIn wsX9_isName (va_wsS RX9 102 yX9_in wsX9_in) := goodIn_app (goodIn_of _ (by decide +kernel)) ggX9_isName_X9_in
theorem dX9_isName_0 : decode cX9_isName 0 = .ok (.iload_n 0, 1) := by decide +kernel
theorem dX9_isName_1 : decode cX9_isName 1 = .ok (.iconst 0, 1) := by decide +kernel
theorem dX9_isName_2 : decode cX9_isName 2 = .ok (.sipush 9999, 3) := by decide +kernel
theorem dX9_isName_5 : decode cX9_isName 5 = .ok (.invokestatic 102, 3) := by decide +kernel
theorem dX9_isName_8 : decode cX9_isName 8 = .ok (.istore_n 1, 1) := by decide +kernel
theorem dX9_isName_9 : decode cX9_isName 9 = .ok (.iload_n 0, 1) := by decide +kernel
theorem dX9_isName_10 : decode cX9_isName 10 = .ok (.istore_n 2, 1) := by decide +kernel
theorem dX9_isName_11 : decode cX9_isName 11 = .ok (.iload_n 2, 1) := by decide +kernel
theorem dX9_isName_12 : decode cX9_isName 12 = .ok (.ifCond .le 28, 3) := by decide +kernel
theorem dX9_isName_15 : decode cX9_isName 15 = .ok (.iload_n 1, 1) := by decide +kernel
theorem dX9_isName_16 : decode cX9_isName 16 = .ok (.ifCond .eq 24, 3) := by decide +kernel
theorem dX9_isName_19 : decode cX9_isName 19 = .ok (.iload_n 2, 1) := by decide +kernel
theorem dX9_isName_20 : decode cX9_isName 20 = .ok (.bipush 10, 2) := by decide +kernel
theorem dX9_isName_22 : decode cX9_isName 22 = .ok (.irem, 1) := by decide +kernel
theorem dX9_isName_23 : decode cX9_isName 23 = .ok (.ifCond .le 7, 3) := by decide +kernel
theorem dX9_isName_26 : decode cX9_isName 26 = .ok (.iconst 1, 1) := by decide +kernel
theorem dX9_isName_27 : decode cX9_isName 27 = .ok (.goto 4, 3) := by decide +kernel
theorem dX9_isName_30 : decode cX9_isName 30 = .ok (.iconst 0, 1) := by decide +kernel
theorem dX9_isName_31 : decode cX9_isName 31 = .ok (.istore_n 1, 1) := by decide +kernel
theorem dX9_isName_32 : decode cX9_isName 32 = .ok (.iload_n 2, 1) := by decide +kernel
theorem dX9_isName_33 : decode cX9_isName 33 = .ok (.bipush 10, 2) := by decide +kernel
theorem dX9_isName_35 : decode cX9_isName 35 = .ok (.idiv, 1) := by decide +kernel
theorem dX9_isName_36 : decode cX9_isName 36 = .ok (.istore_n 2, 1) := by decide +kernel
theorem dX9_isName_37 : decode cX9_isName 37 = .ok (.goto (-26), 3) := by decide +kernel
theorem dX9_isName_40 : decode cX9_isName 40 = .ok (.iload_n 1, 1) := by decide +kernel
theorem dX9_isName_41 : decode cX9_isName 41 = .ok (.ireturn, 1) := by decide +kernel
set_option maxRecDepth 20000 in
theorem ggX9_isStar_X9_isName : GoodIn wsX9_isStar wsX9_isName := goodIn_r _ [4, 5, 6, 3, 7] (by decide +kernel) (by decide +kernel)
set_option maxRecDepth 20000 in
theorem gX9_isStar_X9_isName : GoodIn wsX9_isStar (va_wsS RX9 106 yX9_isName wsX9_isName) := goodIn_app (goodIn_of _ (by decide +kernel)) ggX9_isStar_X9_isName
theorem dX9_isStar_0 : decode cX9_isStar 0 = .ok (.iload_n 0, 1) := by decide +kernel
theorem dX9_isStar_1 : decode cX9_isStar 1 = .ok (.ifCond .le 34, 3) := by decide +kernel
theorem dX9_isStar_4 : decode cX9_isStar 4 = .ok (.iload_n 0, 1) := by decide +kernel
theorem dX9_isStar_5 : decode cX9_isStar 5 = .ok (.bipush 10, 2) := by decide +kernel
theorem dX9_isStar_7 : decode cX9_isStar 7 = .ok (.irem, 1) := by decide +kernel
theorem dX9_isStar_8 : decode cX9_isStar 8 = .ok (.ifCond .ne 27, 3) := by decide +kernel
theorem dX9_isStar_11 : decode cX9_isStar 11 = .ok (.iload_n 0, 1) := by decide +kernel
theorem dX9_isStar_12 : decode cX9_isStar 12 = .ok (.bipush 10, 2) := by decide +kernel
theorem dX9_isStar_14 : decode cX9_isStar 14 = .ok (.idiv, 1) := by decide +kernel
theorem dX9_isStar_15 : decode cX9_isStar 15 = .ok (.sipush 1000, 3) := by decide +kernel
theorem dX9_isStar_18 : decode cX9_isStar 18 = .ok (.if_icmp .ge 17, 3) := by decide +kernel
theorem dX9_isStar_21 : decode cX9_isStar 21 = .ok (.iload_n 0, 1) := by decide +kernel
theorem dX9_isStar_22 : decode cX9_isStar 22 = .ok (.bipush 10, 2) := by decide +kernel
theorem dX9_isStar_24 : decode cX9_isStar 24 = .ok (.idiv, 1) := by decide +kernel
theorem dX9_isStar_25 : decode cX9_isStar 25 = .ok (.invokestatic 106, 3) := by decide +kernel
theorem dX9_isStar_28 : decode cX9_isStar 28 = .ok (.ifCond .eq 7, 3) := by decide +kernel
theorem dX9_isStar_31 : decode cX9_isStar 31 = .ok (.iconst 1, 1) := by decide +kernel
theorem dX9_isStar_32 : decode cX9_isStar 32 = .ok (.goto 4, 3) := by decide +kernel
theorem dX9_isStar_35 : decode cX9_isStar 35 = .ok (.iconst 0, 1) := by decide +kernel
theorem dX9_isStar_36 : decode cX9_isStar 36 = .ok (.ireturn, 1) := by decide +kernel
set_option maxRecDepth 20000 in
theorem ggX9_isPlace_X9_isName : GoodIn wsX9_isPlace wsX9_isName := goodIn_r _ [4, 5, 6, 3, 7] (by decide +kernel) (by decide +kernel)
set_option maxRecDepth 20000 in
theorem gX9_isPlace_X9_isName : GoodIn wsX9_isPlace (va_wsS RX9 106 yX9_isName wsX9_isName) := goodIn_app (goodIn_of _ (by decide +kernel)) ggX9_isPlace_X9_isName
set_option maxRecDepth 20000 in
theorem ggX9_isPlace_X9_isStar : GoodIn wsX9_isPlace wsX9_isStar := goodIn_r _ [10, 1, 2, 3, 4, 5, 6, 7] (by decide +kernel) (by decide +kernel)
set_option maxRecDepth 20000 in
theorem gX9_isPlace_X9_isStar : GoodIn wsX9_isPlace (va_wsS RX9 110 yX9_isStar wsX9_isStar) := goodIn_app (goodIn_of _ (by decide +kernel)) ggX9_isPlace_X9_isStar
theorem dX9_isPlace_0 : decode cX9_isPlace 0 = .ok (.iload_n 0, 1) := by decide +kernel
theorem dX9_isPlace_1 : decode cX9_isPlace 1 = .ok (.invokestatic 106, 3) := by decide +kernel
theorem dX9_isPlace_4 : decode cX9_isPlace 4 = .ok (.ifCond .ne 10, 3) := by decide +kernel
theorem dX9_isPlace_7 : decode cX9_isPlace 7 = .ok (.iload_n 0, 1) := by decide +kernel
theorem dX9_isPlace_8 : decode cX9_isPlace 8 = .ok (.invokestatic 110, 3) := by decide +kernel
theorem dX9_isPlace_11 : decode cX9_isPlace 11 = .ok (.ifCond .eq 7, 3) := by decide +kernel
theorem dX9_isPlace_14 : decode cX9_isPlace 14 = .ok (.iconst 1, 1) := by decide +kernel
theorem dX9_isPlace_15 : decode cX9_isPlace 15 = .ok (.goto 4, 3) := by decide +kernel
theorem dX9_isPlace_18 : decode cX9_isPlace 18 = .ok (.iconst 0, 1) := by decide +kernel
theorem dX9_isPlace_19 : decode cX9_isPlace 19 = .ok (.ireturn, 1) := by decide +kernel
theorem dX9_base_0 : decode cX9_base 0 = .ok (.iload_n 0, 1) := by decide +kernel
theorem dX9_base_1 : decode cX9_base 1 = .ok (.ifCond .le 17, 3) := by decide +kernel
theorem dX9_base_4 : decode cX9_base 4 = .ok (.iload_n 0, 1) := by decide +kernel
theorem dX9_base_5 : decode cX9_base 5 = .ok (.bipush 10, 2) := by decide +kernel
theorem dX9_base_7 : decode cX9_base 7 = .ok (.irem, 1) := by decide +kernel
theorem dX9_base_8 : decode cX9_base 8 = .ok (.ifCond .ne 10, 3) := by decide +kernel
theorem dX9_base_11 : decode cX9_base 11 = .ok (.iload_n 0, 1) := by decide +kernel
theorem dX9_base_12 : decode cX9_base 12 = .ok (.bipush 10, 2) := by decide +kernel
theorem dX9_base_14 : decode cX9_base 14 = .ok (.idiv, 1) := by decide +kernel
theorem dX9_base_15 : decode cX9_base 15 = .ok (.goto 4, 3) := by decide +kernel
theorem dX9_base_18 : decode cX9_base 18 = .ok (.iload_n 0, 1) := by decide +kernel
theorem dX9_base_19 : decode cX9_base 19 = .ok (.ireturn, 1) := by decide +kernel
theorem dX9_ten_0 : decode cX9_ten 0 = .ok (.iconst 1, 1) := by decide +kernel
theorem dX9_ten_1 : decode cX9_ten 1 = .ok (.istore_n 1, 1) := by decide +kernel
theorem dX9_ten_2 : decode cX9_ten 2 = .ok (.iconst 0, 1) := by decide +kernel
theorem dX9_ten_3 : decode cX9_ten 3 = .ok (.istore_n 2, 1) := by decide +kernel
theorem dX9_ten_4 : decode cX9_ten 4 = .ok (.iload_n 2, 1) := by decide +kernel
theorem dX9_ten_5 : decode cX9_ten 5 = .ok (.iload_n 0, 1) := by decide +kernel
theorem dX9_ten_6 : decode cX9_ten 6 = .ok (.if_icmp .ge 14, 3) := by decide +kernel
theorem dX9_ten_9 : decode cX9_ten 9 = .ok (.iload_n 1, 1) := by decide +kernel
theorem dX9_ten_10 : decode cX9_ten 10 = .ok (.bipush 10, 2) := by decide +kernel
theorem dX9_ten_12 : decode cX9_ten 12 = .ok (.imul, 1) := by decide +kernel
theorem dX9_ten_13 : decode cX9_ten 13 = .ok (.istore_n 1, 1) := by decide +kernel
theorem dX9_ten_14 : decode cX9_ten 14 = .ok (.iinc 2 1, 3) := by decide +kernel
theorem dX9_ten_17 : decode cX9_ten 17 = .ok (.goto (-13), 3) := by decide +kernel
theorem dX9_ten_20 : decode cX9_ten 20 = .ok (.iload_n 1, 1) := by decide +kernel
theorem dX9_ten_21 : decode cX9_ten 21 = .ok (.ireturn, 1) := by decide +kernel
set_option maxRecDepth 20000 in
theorem ggX9_head_X9_figures : GoodIn wsX9_head wsX9_figures := goodIn_r _ [4] (by decide +kernel) (by decide +kernel)
set_option maxRecDepth 20000 in
theorem gX9_head_X9_figures : GoodIn wsX9_head (va_wsS RX9 113 yX9_figures wsX9_figures) := goodIn_app (goodIn_of _ (by decide +kernel)) ggX9_head_X9_figures
set_option maxRecDepth 20000 in
theorem ggX9_head_X9_ten : GoodIn wsX9_head wsX9_ten := goodIn_r _ [7] (by decide +kernel) (by decide +kernel)
set_option maxRecDepth 20000 in
theorem gX9_head_X9_ten : GoodIn wsX9_head (va_wsS RX9 117 yX9_ten wsX9_ten) := goodIn_app (goodIn_of _ (by decide +kernel)) ggX9_head_X9_ten
theorem dX9_head_0 : decode cX9_head 0 = .ok (.iload_n 0, 1) := by decide +kernel
theorem dX9_head_1 : decode cX9_head 1 = .ok (.iload_n 0, 1) := by decide +kernel
theorem dX9_head_2 : decode cX9_head 2 = .ok (.invokestatic 113, 3) := by decide +kernel
theorem dX9_head_5 : decode cX9_head 5 = .ok (.iload_n 1, 1) := by decide +kernel
theorem dX9_head_6 : decode cX9_head 6 = .ok (.isub, 1) := by decide +kernel
theorem dX9_head_7 : decode cX9_head 7 = .ok (.invokestatic 117, 3) := by decide +kernel
theorem dX9_head_10 : decode cX9_head 10 = .ok (.idiv, 1) := by decide +kernel
theorem dX9_head_11 : decode cX9_head 11 = .ok (.ireturn, 1) := by decide +kernel
set_option maxRecDepth 20000 in
theorem ggX9_isUnder_X9_figures : GoodIn wsX9_isUnder wsX9_figures := goodIn_r _ [4] (by decide +kernel) (by decide +kernel)
set_option maxRecDepth 20000 in
theorem gX9_isUnder_X9_figures : GoodIn wsX9_isUnder (va_wsS RX9 113 yX9_figures wsX9_figures) := goodIn_app (goodIn_of _ (by decide +kernel)) ggX9_isUnder_X9_figures
set_option maxRecDepth 20000 in
theorem ggX9_isUnder_X9_head : GoodIn wsX9_isUnder wsX9_head := goodIn_r _ [7, 1, 2, 3, 4, 8, 9, 10] (by decide +kernel) (by decide +kernel)
set_option maxRecDepth 20000 in
theorem gX9_isUnder_X9_head : GoodIn wsX9_isUnder (va_wsS RX9 120 yX9_head wsX9_head) := goodIn_app (goodIn_of _ (by decide +kernel)) ggX9_isUnder_X9_head
theorem dX9_isUnder_0 : decode cX9_isUnder 0 = .ok (.iload_n 1, 1) := by decide +kernel
theorem dX9_isUnder_1 : decode cX9_isUnder 1 = .ok (.invokestatic 113, 3) := by decide +kernel
theorem dX9_isUnder_4 : decode cX9_isUnder 4 = .ok (.istore_n 2, 1) := by decide +kernel
theorem dX9_isUnder_5 : decode cX9_isUnder 5 = .ok (.iload_n 0, 1) := by decide +kernel
theorem dX9_isUnder_6 : decode cX9_isUnder 6 = .ok (.invokestatic 113, 3) := by decide +kernel
theorem dX9_isUnder_9 : decode cX9_isUnder 9 = .ok (.iload_n 2, 1) := by decide +kernel
theorem dX9_isUnder_10 : decode cX9_isUnder 10 = .ok (.if_icmp .lt 16, 3) := by decide +kernel
theorem dX9_isUnder_13 : decode cX9_isUnder 13 = .ok (.iload_n 0, 1) := by decide +kernel
theorem dX9_isUnder_14 : decode cX9_isUnder 14 = .ok (.iload_n 2, 1) := by decide +kernel
theorem dX9_isUnder_15 : decode cX9_isUnder 15 = .ok (.invokestatic 120, 3) := by decide +kernel
theorem dX9_isUnder_18 : decode cX9_isUnder 18 = .ok (.iload_n 1, 1) := by decide +kernel
theorem dX9_isUnder_19 : decode cX9_isUnder 19 = .ok (.if_icmp .ne 7, 3) := by decide +kernel
theorem dX9_isUnder_22 : decode cX9_isUnder 22 = .ok (.iconst 1, 1) := by decide +kernel
theorem dX9_isUnder_23 : decode cX9_isUnder 23 = .ok (.goto 4, 3) := by decide +kernel
theorem dX9_isUnder_26 : decode cX9_isUnder 26 = .ok (.iconst 0, 1) := by decide +kernel
theorem dX9_isUnder_27 : decode cX9_isUnder 27 = .ok (.ireturn, 1) := by decide +kernel
set_option maxRecDepth 20000 in
theorem ggX9_isStrictly_X9_isUnder : GoodIn wsX9_isStrictly wsX9_isUnder := goodIn_r _ [4, 5, 6, 3, 7, 8, 9, 10, 11, 12, 13] (by decide +kernel) (by decide +kernel)
set_option maxRecDepth 20000 in
theorem gX9_isStrictly_X9_isUnder : GoodIn wsX9_isStrictly (va_wsS RX9 124 yX9_isUnder wsX9_isUnder) := goodIn_app (goodIn_of _ (by decide +kernel)) ggX9_isStrictly_X9_isUnder
theorem dX9_isStrictly_0 : decode cX9_isStrictly 0 = .ok (.iload_n 0, 1) := by decide +kernel
theorem dX9_isStrictly_1 : decode cX9_isStrictly 1 = .ok (.iload_n 1, 1) := by decide +kernel
theorem dX9_isStrictly_2 : decode cX9_isStrictly 2 = .ok (.if_icmp .eq 15, 3) := by decide +kernel
theorem dX9_isStrictly_5 : decode cX9_isStrictly 5 = .ok (.iload_n 0, 1) := by decide +kernel
theorem dX9_isStrictly_6 : decode cX9_isStrictly 6 = .ok (.iload_n 1, 1) := by decide +kernel
theorem dX9_isStrictly_7 : decode cX9_isStrictly 7 = .ok (.invokestatic 124, 3) := by decide +kernel
theorem dX9_isStrictly_10 : decode cX9_isStrictly 10 = .ok (.ifCond .eq 7, 3) := by decide +kernel
theorem dX9_isStrictly_13 : decode cX9_isStrictly 13 = .ok (.iconst 1, 1) := by decide +kernel
theorem dX9_isStrictly_14 : decode cX9_isStrictly 14 = .ok (.goto 4, 3) := by decide +kernel
theorem dX9_isStrictly_17 : decode cX9_isStrictly 17 = .ok (.iconst 0, 1) := by decide +kernel
theorem dX9_isStrictly_18 : decode cX9_isStrictly 18 = .ok (.ireturn, 1) := by decide +kernel
set_option maxRecDepth 20000 in
theorem ggX9_order_X9_figures : GoodIn wsX9_order wsX9_figures := goodIn_r _ [4] (by decide +kernel) (by decide +kernel)
set_option maxRecDepth 20000 in
theorem gX9_order_X9_figures : GoodIn wsX9_order (va_wsS RX9 113 yX9_figures wsX9_figures) := goodIn_app (goodIn_of _ (by decide +kernel)) ggX9_order_X9_figures
set_option maxRecDepth 20000 in
theorem ggX9_order_X9_ten : GoodIn wsX9_order wsX9_ten := goodIn_r _ [7] (by decide +kernel) (by decide +kernel)
set_option maxRecDepth 20000 in
theorem gX9_order_X9_ten : GoodIn wsX9_order (va_wsS RX9 117 yX9_ten wsX9_ten) := goodIn_app (goodIn_of _ (by decide +kernel)) ggX9_order_X9_ten
theorem dX9_order_0 : decode cX9_order 0 = .ok (.iload_n 0, 1) := by decide +kernel
theorem dX9_order_1 : decode cX9_order 1 = .ok (.invokestatic 113, 3) := by decide +kernel
theorem dX9_order_4 : decode cX9_order 4 = .ok (.istore_n 1, 1) := by decide +kernel
theorem dX9_order_5 : decode cX9_order 5 = .ok (.iconst 0, 1) := by decide +kernel
theorem dX9_order_6 : decode cX9_order 6 = .ok (.istore_n 2, 1) := by decide +kernel
theorem dX9_order_7 : decode cX9_order 7 = .ok (.iconst 0, 1) := by decide +kernel
theorem dX9_order_8 : decode cX9_order 8 = .ok (.istore_n 3, 1) := by decide +kernel
theorem dX9_order_9 : decode cX9_order 9 = .ok (.iload_n 3, 1) := by decide +kernel
theorem dX9_order_10 : decode cX9_order 10 = .ok (.iconst 5, 1) := by decide +kernel
theorem dX9_order_11 : decode cX9_order 11 = .ok (.if_icmp .ge 39, 3) := by decide +kernel
theorem dX9_order_14 : decode cX9_order 14 = .ok (.bipush 11, 2) := by decide +kernel
theorem dX9_order_16 : decode cX9_order 16 = .ok (.iload_n 2, 1) := by decide +kernel
theorem dX9_order_17 : decode cX9_order 17 = .ok (.imul, 1) := by decide +kernel
theorem dX9_order_18 : decode cX9_order 18 = .ok (.iload_n 3, 1) := by decide +kernel
theorem dX9_order_19 : decode cX9_order 19 = .ok (.iload_n 1, 1) := by decide +kernel
theorem dX9_order_20 : decode cX9_order 20 = .ok (.if_icmp .ge 21, 3) := by decide +kernel
theorem dX9_order_23 : decode cX9_order 23 = .ok (.iload_n 0, 1) := by decide +kernel
theorem dX9_order_24 : decode cX9_order 24 = .ok (.iload_n 1, 1) := by decide +kernel
theorem dX9_order_25 : decode cX9_order 25 = .ok (.iconst 1, 1) := by decide +kernel
theorem dX9_order_26 : decode cX9_order 26 = .ok (.isub, 1) := by decide +kernel
theorem dX9_order_27 : decode cX9_order 27 = .ok (.iload_n 3, 1) := by decide +kernel
theorem dX9_order_28 : decode cX9_order 28 = .ok (.isub, 1) := by decide +kernel
theorem dX9_order_29 : decode cX9_order 29 = .ok (.invokestatic 117, 3) := by decide +kernel
theorem dX9_order_32 : decode cX9_order 32 = .ok (.idiv, 1) := by decide +kernel
theorem dX9_order_33 : decode cX9_order 33 = .ok (.bipush 10, 2) := by decide +kernel
theorem dX9_order_35 : decode cX9_order 35 = .ok (.irem, 1) := by decide +kernel
theorem dX9_order_36 : decode cX9_order 36 = .ok (.iconst 1, 1) := by decide +kernel
theorem dX9_order_37 : decode cX9_order 37 = .ok (.iadd, 1) := by decide +kernel
theorem dX9_order_38 : decode cX9_order 38 = .ok (.goto 4, 3) := by decide +kernel
theorem dX9_order_41 : decode cX9_order 41 = .ok (.iconst 0, 1) := by decide +kernel
theorem dX9_order_42 : decode cX9_order 42 = .ok (.iadd, 1) := by decide +kernel
theorem dX9_order_43 : decode cX9_order 43 = .ok (.istore_n 2, 1) := by decide +kernel
theorem dX9_order_44 : decode cX9_order 44 = .ok (.iinc 3 1, 3) := by decide +kernel
theorem dX9_order_47 : decode cX9_order 47 = .ok (.goto (-38), 3) := by decide +kernel
theorem dX9_order_50 : decode cX9_order 50 = .ok (.iload_n 2, 1) := by decide +kernel
theorem dX9_order_51 : decode cX9_order 51 = .ok (.ireturn, 1) := by decide +kernel
theorem dX9_find_0 : decode cX9_find 0 = .ok (.bipush 32, 2) := by decide +kernel
theorem dX9_find_2 : decode cX9_find 2 = .ok (.iload_n 1, 1) := by decide +kernel
theorem dX9_find_3 : decode cX9_find 3 = .ok (.imul, 1) := by decide +kernel
theorem dX9_find_4 : decode cX9_find 4 = .ok (.istore 4, 2) := by decide +kernel
theorem dX9_find_6 : decode cX9_find 6 = .ok (.iload 4, 2) := by decide +kernel
theorem dX9_find_8 : decode cX9_find 8 = .ok (.bipush 32, 2) := by decide +kernel
theorem dX9_find_10 : decode cX9_find 10 = .ok (.iload_n 1, 1) := by decide +kernel
theorem dX9_find_11 : decode cX9_find 11 = .ok (.imul, 1) := by decide +kernel
theorem dX9_find_12 : decode cX9_find 12 = .ok (.aload_n 0, 1) := by decide +kernel
theorem dX9_find_13 : decode cX9_find 13 = .ok (.getfield 42, 3) := by decide +kernel
theorem dX9_find_16 : decode cX9_find 16 = .ok (.iload_n 1, 1) := by decide +kernel
theorem dX9_find_17 : decode cX9_find 17 = .ok (.iaload, 1) := by decide +kernel
theorem dX9_find_18 : decode cX9_find 18 = .ok (.iadd, 1) := by decide +kernel
theorem dX9_find_19 : decode cX9_find 19 = .ok (.if_icmp .ge 34, 3) := by decide +kernel
theorem dX9_find_22 : decode cX9_find 22 = .ok (.aload_n 0, 1) := by decide +kernel
theorem dX9_find_23 : decode cX9_find 23 = .ok (.getfield 45, 3) := by decide +kernel
theorem dX9_find_26 : decode cX9_find 26 = .ok (.iload 4, 2) := by decide +kernel
theorem dX9_find_28 : decode cX9_find 28 = .ok (.iaload, 1) := by decide +kernel
theorem dX9_find_29 : decode cX9_find 29 = .ok (.iload_n 2, 1) := by decide +kernel
theorem dX9_find_30 : decode cX9_find 30 = .ok (.if_icmp .ne 17, 3) := by decide +kernel
theorem dX9_find_33 : decode cX9_find 33 = .ok (.aload_n 0, 1) := by decide +kernel
theorem dX9_find_34 : decode cX9_find 34 = .ok (.getfield 48, 3) := by decide +kernel
theorem dX9_find_37 : decode cX9_find 37 = .ok (.iload 4, 2) := by decide +kernel
theorem dX9_find_39 : decode cX9_find 39 = .ok (.iaload, 1) := by decide +kernel
theorem dX9_find_40 : decode cX9_find 40 = .ok (.iload_n 3, 1) := by decide +kernel
theorem dX9_find_41 : decode cX9_find 41 = .ok (.if_icmp .ne 6, 3) := by decide +kernel
theorem dX9_find_44 : decode cX9_find 44 = .ok (.iload 4, 2) := by decide +kernel
theorem dX9_find_46 : decode cX9_find 46 = .ok (.ireturn, 1) := by decide +kernel
theorem dX9_find_47 : decode cX9_find 47 = .ok (.iinc 4 1, 3) := by decide +kernel
theorem dX9_find_50 : decode cX9_find 50 = .ok (.goto (-44), 3) := by decide +kernel
theorem dX9_find_53 : decode cX9_find 53 = .ok (.iconst (-1), 1) := by decide +kernel
theorem dX9_find_54 : decode cX9_find 54 = .ok (.ireturn, 1) := by decide +kernel
set_option maxRecDepth 20000 in
theorem ggX9_isThere_X9_base : GoodIn wsX9_isThere wsX9_base := goodIn_r _ [6] (by decide +kernel) (by decide +kernel)
set_option maxRecDepth 20000 in
theorem gX9_isThere_X9_base : GoodIn wsX9_isThere (va_wsS RX9 128 yX9_base wsX9_base) := goodIn_app (goodIn_of _ (by decide +kernel)) ggX9_isThere_X9_base
set_option maxRecDepth 20000 in
theorem ggX9_isThere_X9_isUnder : GoodIn wsX9_isThere wsX9_isUnder := goodIn_r _ [9, 10, 11, 5, 12, 13, 14, 15, 16, 17, 18] (by decide +kernel) (by decide +kernel)
set_option maxRecDepth 20000 in
theorem gX9_isThere_X9_isUnder : GoodIn wsX9_isThere (va_wsS RX9 124 yX9_isUnder wsX9_isUnder) := goodIn_app (goodIn_of _ (by decide +kernel)) ggX9_isThere_X9_isUnder
theorem dX9_isThere_0 : decode cX9_isThere 0 = .ok (.iconst 0, 1) := by decide +kernel
theorem dX9_isThere_1 : decode cX9_isThere 1 = .ok (.istore_n 3, 1) := by decide +kernel
theorem dX9_isThere_2 : decode cX9_isThere 2 = .ok (.bipush 32, 2) := by decide +kernel
theorem dX9_isThere_4 : decode cX9_isThere 4 = .ok (.iload_n 1, 1) := by decide +kernel
theorem dX9_isThere_5 : decode cX9_isThere 5 = .ok (.imul, 1) := by decide +kernel
theorem dX9_isThere_6 : decode cX9_isThere 6 = .ok (.istore 4, 2) := by decide +kernel
theorem dX9_isThere_8 : decode cX9_isThere 8 = .ok (.iload 4, 2) := by decide +kernel
theorem dX9_isThere_10 : decode cX9_isThere 10 = .ok (.bipush 32, 2) := by decide +kernel
theorem dX9_isThere_12 : decode cX9_isThere 12 = .ok (.iload_n 1, 1) := by decide +kernel
theorem dX9_isThere_13 : decode cX9_isThere 13 = .ok (.imul, 1) := by decide +kernel
theorem dX9_isThere_14 : decode cX9_isThere 14 = .ok (.aload_n 0, 1) := by decide +kernel
theorem dX9_isThere_15 : decode cX9_isThere 15 = .ok (.getfield 42, 3) := by decide +kernel
theorem dX9_isThere_18 : decode cX9_isThere 18 = .ok (.iload_n 1, 1) := by decide +kernel
theorem dX9_isThere_19 : decode cX9_isThere 19 = .ok (.iaload, 1) := by decide +kernel
theorem dX9_isThere_20 : decode cX9_isThere 20 = .ok (.iadd, 1) := by decide +kernel
theorem dX9_isThere_21 : decode cX9_isThere 21 = .ok (.if_icmp .ge 26, 3) := by decide +kernel
theorem dX9_isThere_24 : decode cX9_isThere 24 = .ok (.iload_n 3, 1) := by decide +kernel
theorem dX9_isThere_25 : decode cX9_isThere 25 = .ok (.aload_n 0, 1) := by decide +kernel
theorem dX9_isThere_26 : decode cX9_isThere 26 = .ok (.getfield 45, 3) := by decide +kernel
theorem dX9_isThere_29 : decode cX9_isThere 29 = .ok (.iload 4, 2) := by decide +kernel
theorem dX9_isThere_31 : decode cX9_isThere 31 = .ok (.iaload, 1) := by decide +kernel
theorem dX9_isThere_32 : decode cX9_isThere 32 = .ok (.invokestatic 128, 3) := by decide +kernel
theorem dX9_isThere_35 : decode cX9_isThere 35 = .ok (.iload_n 2, 1) := by decide +kernel
theorem dX9_isThere_36 : decode cX9_isThere 36 = .ok (.invokestatic 124, 3) := by decide +kernel
theorem dX9_isThere_39 : decode cX9_isThere 39 = .ok (.ior, 1) := by decide +kernel
theorem dX9_isThere_40 : decode cX9_isThere 40 = .ok (.istore_n 3, 1) := by decide +kernel
theorem dX9_isThere_41 : decode cX9_isThere 41 = .ok (.iinc 4 1, 3) := by decide +kernel
theorem dX9_isThere_44 : decode cX9_isThere 44 = .ok (.goto (-36), 3) := by decide +kernel
theorem dX9_isThere_47 : decode cX9_isThere 47 = .ok (.iload_n 3, 1) := by decide +kernel
theorem dX9_isThere_48 : decode cX9_isThere 48 = .ok (.ireturn, 1) := by decide +kernel
theorem dX9_isStarThere_0 : decode cX9_isStarThere 0 = .ok (.iconst 0, 1) := by decide +kernel
theorem dX9_isStarThere_1 : decode cX9_isStarThere 1 = .ok (.istore_n 3, 1) := by decide +kernel
theorem dX9_isStarThere_2 : decode cX9_isStarThere 2 = .ok (.bipush 32, 2) := by decide +kernel
theorem dX9_isStarThere_4 : decode cX9_isStarThere 4 = .ok (.iload_n 1, 1) := by decide +kernel
theorem dX9_isStarThere_5 : decode cX9_isStarThere 5 = .ok (.imul, 1) := by decide +kernel
theorem dX9_isStarThere_6 : decode cX9_isStarThere 6 = .ok (.istore 4, 2) := by decide +kernel
theorem dX9_isStarThere_8 : decode cX9_isStarThere 8 = .ok (.iload 4, 2) := by decide +kernel
theorem dX9_isStarThere_10 : decode cX9_isStarThere 10 = .ok (.bipush 32, 2) := by decide +kernel
theorem dX9_isStarThere_12 : decode cX9_isStarThere 12 = .ok (.iload_n 1, 1) := by decide +kernel
theorem dX9_isStarThere_13 : decode cX9_isStarThere 13 = .ok (.imul, 1) := by decide +kernel
theorem dX9_isStarThere_14 : decode cX9_isStarThere 14 = .ok (.aload_n 0, 1) := by decide +kernel
theorem dX9_isStarThere_15 : decode cX9_isStarThere 15 = .ok (.getfield 42, 3) := by decide +kernel
theorem dX9_isStarThere_18 : decode cX9_isStarThere 18 = .ok (.iload_n 1, 1) := by decide +kernel
theorem dX9_isStarThere_19 : decode cX9_isStarThere 19 = .ok (.iaload, 1) := by decide +kernel
theorem dX9_isStarThere_20 : decode cX9_isStarThere 20 = .ok (.iadd, 1) := by decide +kernel
theorem dX9_isStarThere_21 : decode cX9_isStarThere 21 = .ok (.if_icmp .ge 35, 3) := by decide +kernel
theorem dX9_isStarThere_24 : decode cX9_isStarThere 24 = .ok (.iload_n 3, 1) := by decide +kernel
theorem dX9_isStarThere_25 : decode cX9_isStarThere 25 = .ok (.iload_n 2, 1) := by decide +kernel
theorem dX9_isStarThere_26 : decode cX9_isStarThere 26 = .ok (.ifCond .le 21, 3) := by decide +kernel
theorem dX9_isStarThere_29 : decode cX9_isStarThere 29 = .ok (.aload_n 0, 1) := by decide +kernel
theorem dX9_isStarThere_30 : decode cX9_isStarThere 30 = .ok (.getfield 45, 3) := by decide +kernel
theorem dX9_isStarThere_33 : decode cX9_isStarThere 33 = .ok (.iload 4, 2) := by decide +kernel
theorem dX9_isStarThere_35 : decode cX9_isStarThere 35 = .ok (.iaload, 1) := by decide +kernel
theorem dX9_isStarThere_36 : decode cX9_isStarThere 36 = .ok (.bipush 10, 2) := by decide +kernel
theorem dX9_isStarThere_38 : decode cX9_isStarThere 38 = .ok (.iload_n 2, 1) := by decide +kernel
theorem dX9_isStarThere_39 : decode cX9_isStarThere 39 = .ok (.imul, 1) := by decide +kernel
theorem dX9_isStarThere_40 : decode cX9_isStarThere 40 = .ok (.if_icmp .ne 7, 3) := by decide +kernel
theorem dX9_isStarThere_43 : decode cX9_isStarThere 43 = .ok (.iconst 1, 1) := by decide +kernel
theorem dX9_isStarThere_44 : decode cX9_isStarThere 44 = .ok (.goto 4, 3) := by decide +kernel
theorem dX9_isStarThere_47 : decode cX9_isStarThere 47 = .ok (.iconst 0, 1) := by decide +kernel
theorem dX9_isStarThere_48 : decode cX9_isStarThere 48 = .ok (.ior, 1) := by decide +kernel
theorem dX9_isStarThere_49 : decode cX9_isStarThere 49 = .ok (.istore_n 3, 1) := by decide +kernel
theorem dX9_isStarThere_50 : decode cX9_isStarThere 50 = .ok (.iinc 4 1, 3) := by decide +kernel
theorem dX9_isStarThere_53 : decode cX9_isStarThere 53 = .ok (.goto (-45), 3) := by decide +kernel
theorem dX9_isStarThere_56 : decode cX9_isStarThere 56 = .ok (.iload_n 3, 1) := by decide +kernel
theorem dX9_isStarThere_57 : decode cX9_isStarThere 57 = .ok (.ireturn, 1) := by decide +kernel
set_option maxRecDepth 20000 in
theorem ggX9_isOwn_X9_base : GoodIn wsX9_isOwn wsX9_base := goodIn_r _ [7] (by decide +kernel) (by decide +kernel)
set_option maxRecDepth 20000 in
theorem gX9_isOwn_X9_base : GoodIn wsX9_isOwn (va_wsS RX9 128 yX9_base wsX9_base) := goodIn_app (goodIn_of _ (by decide +kernel)) ggX9_isOwn_X9_base
set_option maxRecDepth 20000 in
theorem ggX9_isOwn_X9_isUnder : GoodIn wsX9_isOwn wsX9_isUnder := goodIn_r _ [10, 11, 12, 6, 13, 14, 15, 16, 17, 18, 19] (by decide +kernel) (by decide +kernel)
set_option maxRecDepth 20000 in
theorem gX9_isOwn_X9_isUnder : GoodIn wsX9_isOwn (va_wsS RX9 124 yX9_isUnder wsX9_isUnder) := goodIn_app (goodIn_of _ (by decide +kernel)) ggX9_isOwn_X9_isUnder
theorem dX9_isOwn_0 : decode cX9_isOwn 0 = .ok (.iconst 1, 1) := by decide +kernel
theorem dX9_isOwn_1 : decode cX9_isOwn 1 = .ok (.istore_n 3, 1) := by decide +kernel
theorem dX9_isOwn_2 : decode cX9_isOwn 2 = .ok (.bipush 32, 2) := by decide +kernel
theorem dX9_isOwn_4 : decode cX9_isOwn 4 = .ok (.iload_n 1, 1) := by decide +kernel
theorem dX9_isOwn_5 : decode cX9_isOwn 5 = .ok (.imul, 1) := by decide +kernel
theorem dX9_isOwn_6 : decode cX9_isOwn 6 = .ok (.istore 4, 2) := by decide +kernel
theorem dX9_isOwn_8 : decode cX9_isOwn 8 = .ok (.iload 4, 2) := by decide +kernel
theorem dX9_isOwn_10 : decode cX9_isOwn 10 = .ok (.bipush 32, 2) := by decide +kernel
theorem dX9_isOwn_12 : decode cX9_isOwn 12 = .ok (.iload_n 1, 1) := by decide +kernel
theorem dX9_isOwn_13 : decode cX9_isOwn 13 = .ok (.imul, 1) := by decide +kernel
theorem dX9_isOwn_14 : decode cX9_isOwn 14 = .ok (.aload_n 0, 1) := by decide +kernel
theorem dX9_isOwn_15 : decode cX9_isOwn 15 = .ok (.getfield 42, 3) := by decide +kernel
theorem dX9_isOwn_18 : decode cX9_isOwn 18 = .ok (.iload_n 1, 1) := by decide +kernel
theorem dX9_isOwn_19 : decode cX9_isOwn 19 = .ok (.iaload, 1) := by decide +kernel
theorem dX9_isOwn_20 : decode cX9_isOwn 20 = .ok (.iadd, 1) := by decide +kernel
theorem dX9_isOwn_21 : decode cX9_isOwn 21 = .ok (.if_icmp .ge 56, 3) := by decide +kernel
theorem dX9_isOwn_24 : decode cX9_isOwn 24 = .ok (.iload_n 3, 1) := by decide +kernel
theorem dX9_isOwn_25 : decode cX9_isOwn 25 = .ok (.aload_n 0, 1) := by decide +kernel
theorem dX9_isOwn_26 : decode cX9_isOwn 26 = .ok (.getfield 48, 3) := by decide +kernel
theorem dX9_isOwn_29 : decode cX9_isOwn 29 = .ok (.iload 4, 2) := by decide +kernel
theorem dX9_isOwn_31 : decode cX9_isOwn 31 = .ok (.iaload, 1) := by decide +kernel
theorem dX9_isOwn_32 : decode cX9_isOwn 32 = .ok (.iconst 3, 1) := by decide +kernel
theorem dX9_isOwn_33 : decode cX9_isOwn 33 = .ok (.if_icmp .ne 31, 3) := by decide +kernel
theorem dX9_isOwn_36 : decode cX9_isOwn 36 = .ok (.iload_n 2, 1) := by decide +kernel
theorem dX9_isOwn_37 : decode cX9_isOwn 37 = .ok (.invokestatic 128, 3) := by decide +kernel
theorem dX9_isOwn_40 : decode cX9_isOwn 40 = .ok (.aload_n 0, 1) := by decide +kernel
theorem dX9_isOwn_41 : decode cX9_isOwn 41 = .ok (.getfield 45, 3) := by decide +kernel
theorem dX9_isOwn_44 : decode cX9_isOwn 44 = .ok (.iload 4, 2) := by decide +kernel
theorem dX9_isOwn_46 : decode cX9_isOwn 46 = .ok (.iaload, 1) := by decide +kernel
theorem dX9_isOwn_47 : decode cX9_isOwn 47 = .ok (.invokestatic 124, 3) := by decide +kernel
theorem dX9_isOwn_50 : decode cX9_isOwn 50 = .ok (.ifCond .eq 14, 3) := by decide +kernel
theorem dX9_isOwn_53 : decode cX9_isOwn 53 = .ok (.iload_n 2, 1) := by decide +kernel
theorem dX9_isOwn_54 : decode cX9_isOwn 54 = .ok (.aload_n 0, 1) := by decide +kernel
theorem dX9_isOwn_55 : decode cX9_isOwn 55 = .ok (.getfield 45, 3) := by decide +kernel
theorem dX9_isOwn_58 : decode cX9_isOwn 58 = .ok (.iload 4, 2) := by decide +kernel
theorem dX9_isOwn_60 : decode cX9_isOwn 60 = .ok (.iaload, 1) := by decide +kernel
theorem dX9_isOwn_61 : decode cX9_isOwn 61 = .ok (.if_icmp .ne 7, 3) := by decide +kernel
theorem dX9_isOwn_64 : decode cX9_isOwn 64 = .ok (.iconst 1, 1) := by decide +kernel
theorem dX9_isOwn_65 : decode cX9_isOwn 65 = .ok (.goto 4, 3) := by decide +kernel
theorem dX9_isOwn_68 : decode cX9_isOwn 68 = .ok (.iconst 0, 1) := by decide +kernel
theorem dX9_isOwn_69 : decode cX9_isOwn 69 = .ok (.iand, 1) := by decide +kernel
theorem dX9_isOwn_70 : decode cX9_isOwn 70 = .ok (.istore_n 3, 1) := by decide +kernel
theorem dX9_isOwn_71 : decode cX9_isOwn 71 = .ok (.iinc 4 1, 3) := by decide +kernel
theorem dX9_isOwn_74 : decode cX9_isOwn 74 = .ok (.goto (-66), 3) := by decide +kernel
theorem dX9_isOwn_77 : decode cX9_isOwn 77 = .ok (.iload_n 3, 1) := by decide +kernel
theorem dX9_isOwn_78 : decode cX9_isOwn 78 = .ok (.ireturn, 1) := by decide +kernel
set_option maxRecDepth 20000 in
theorem ggX9_copies_X9_lays : GoodIn wsX9_copies wsX9_lays := goodIn_r _ [10, 2, 3, 4, 5, 11, 12, 13, 14, 15, 16, 17, 18, 19, 20, 21, 22, 23, 24, 25, 26, 27, 28, 29, 30, 31, 32, 33, 34, 35, 36, 37, 38, 39, 40, 41, 42, 43, 44, 45, 46, 47] (by decide +kernel) (by decide +kernel)
set_option maxRecDepth 20000 in
theorem gX9_copies_X9_lays : GoodIn wsX9_copies (wsV RX9 131 RX9 yX9_lays wsX9_lays) := goodIn_app (goodIn_of _ (by decide +kernel)) ggX9_copies_X9_lays
theorem dX9_copies_0 : decode cX9_copies 0 = .ok (.aload_n 0, 1) := by decide +kernel
theorem dX9_copies_1 : decode cX9_copies 1 = .ok (.getfield 42, 3) := by decide +kernel
theorem dX9_copies_4 : decode cX9_copies 4 = .ok (.iload_n 2, 1) := by decide +kernel
theorem dX9_copies_5 : decode cX9_copies 5 = .ok (.aload_n 0, 1) := by decide +kernel
theorem dX9_copies_6 : decode cX9_copies 6 = .ok (.getfield 42, 3) := by decide +kernel
theorem dX9_copies_9 : decode cX9_copies 9 = .ok (.iload_n 1, 1) := by decide +kernel
theorem dX9_copies_10 : decode cX9_copies 10 = .ok (.iaload, 1) := by decide +kernel
theorem dX9_copies_11 : decode cX9_copies 11 = .ok (.iastore, 1) := by decide +kernel
theorem dX9_copies_12 : decode cX9_copies 12 = .ok (.iconst 0, 1) := by decide +kernel
theorem dX9_copies_13 : decode cX9_copies 13 = .ok (.istore_n 3, 1) := by decide +kernel
theorem dX9_copies_14 : decode cX9_copies 14 = .ok (.iload_n 3, 1) := by decide +kernel
theorem dX9_copies_15 : decode cX9_copies 15 = .ok (.aload_n 0, 1) := by decide +kernel
theorem dX9_copies_16 : decode cX9_copies 16 = .ok (.getfield 42, 3) := by decide +kernel
theorem dX9_copies_19 : decode cX9_copies 19 = .ok (.iload_n 1, 1) := by decide +kernel
theorem dX9_copies_20 : decode cX9_copies 20 = .ok (.iaload, 1) := by decide +kernel
theorem dX9_copies_21 : decode cX9_copies 21 = .ok (.if_icmp .ge 59, 3) := by decide +kernel
theorem dX9_copies_24 : decode cX9_copies 24 = .ok (.aload_n 0, 1) := by decide +kernel
theorem dX9_copies_25 : decode cX9_copies 25 = .ok (.iload_n 2, 1) := by decide +kernel
theorem dX9_copies_26 : decode cX9_copies 26 = .ok (.iload_n 3, 1) := by decide +kernel
theorem dX9_copies_27 : decode cX9_copies 27 = .ok (.aload_n 0, 1) := by decide +kernel
theorem dX9_copies_28 : decode cX9_copies 28 = .ok (.getfield 45, 3) := by decide +kernel
theorem dX9_copies_31 : decode cX9_copies 31 = .ok (.bipush 32, 2) := by decide +kernel
theorem dX9_copies_33 : decode cX9_copies 33 = .ok (.iload_n 1, 1) := by decide +kernel
theorem dX9_copies_34 : decode cX9_copies 34 = .ok (.imul, 1) := by decide +kernel
theorem dX9_copies_35 : decode cX9_copies 35 = .ok (.iload_n 3, 1) := by decide +kernel
theorem dX9_copies_36 : decode cX9_copies 36 = .ok (.iadd, 1) := by decide +kernel
theorem dX9_copies_37 : decode cX9_copies 37 = .ok (.iaload, 1) := by decide +kernel
theorem dX9_copies_38 : decode cX9_copies 38 = .ok (.aload_n 0, 1) := by decide +kernel
theorem dX9_copies_39 : decode cX9_copies 39 = .ok (.getfield 48, 3) := by decide +kernel
theorem dX9_copies_42 : decode cX9_copies 42 = .ok (.bipush 32, 2) := by decide +kernel
theorem dX9_copies_44 : decode cX9_copies 44 = .ok (.iload_n 1, 1) := by decide +kernel
theorem dX9_copies_45 : decode cX9_copies 45 = .ok (.imul, 1) := by decide +kernel
theorem dX9_copies_46 : decode cX9_copies 46 = .ok (.iload_n 3, 1) := by decide +kernel
theorem dX9_copies_47 : decode cX9_copies 47 = .ok (.iadd, 1) := by decide +kernel
theorem dX9_copies_48 : decode cX9_copies 48 = .ok (.iaload, 1) := by decide +kernel
theorem dX9_copies_49 : decode cX9_copies 49 = .ok (.aload_n 0, 1) := by decide +kernel
theorem dX9_copies_50 : decode cX9_copies 50 = .ok (.getfield 51, 3) := by decide +kernel
theorem dX9_copies_53 : decode cX9_copies 53 = .ok (.bipush 32, 2) := by decide +kernel
theorem dX9_copies_55 : decode cX9_copies 55 = .ok (.iload_n 1, 1) := by decide +kernel
theorem dX9_copies_56 : decode cX9_copies 56 = .ok (.imul, 1) := by decide +kernel
theorem dX9_copies_57 : decode cX9_copies 57 = .ok (.iload_n 3, 1) := by decide +kernel
theorem dX9_copies_58 : decode cX9_copies 58 = .ok (.iadd, 1) := by decide +kernel
theorem dX9_copies_59 : decode cX9_copies 59 = .ok (.iaload, 1) := by decide +kernel
theorem dX9_copies_60 : decode cX9_copies 60 = .ok (.aload_n 0, 1) := by decide +kernel
theorem dX9_copies_61 : decode cX9_copies 61 = .ok (.getfield 54, 3) := by decide +kernel
theorem dX9_copies_64 : decode cX9_copies 64 = .ok (.bipush 32, 2) := by decide +kernel
theorem dX9_copies_66 : decode cX9_copies 66 = .ok (.iload_n 1, 1) := by decide +kernel
theorem dX9_copies_67 : decode cX9_copies 67 = .ok (.imul, 1) := by decide +kernel
theorem dX9_copies_68 : decode cX9_copies 68 = .ok (.iload_n 3, 1) := by decide +kernel
theorem dX9_copies_69 : decode cX9_copies 69 = .ok (.iadd, 1) := by decide +kernel
theorem dX9_copies_70 : decode cX9_copies 70 = .ok (.iaload, 1) := by decide +kernel
theorem dX9_copies_71 : decode cX9_copies 71 = .ok (.invokevirtual 131, 3) := by decide +kernel
theorem dX9_copies_74 : decode cX9_copies 74 = .ok (.iinc 3 1, 3) := by decide +kernel
theorem dX9_copies_77 : decode cX9_copies 77 = .ok (.goto (-63), 3) := by decide +kernel
theorem dX9_copies_80 : decode cX9_copies 80 = .ok (.return_, 1) := by decide +kernel
theorem dX9_lays_0 : decode cX9_lays 0 = .ok (.aload_n 0, 1) := by decide +kernel
theorem dX9_lays_1 : decode cX9_lays 1 = .ok (.getfield 45, 3) := by decide +kernel
theorem dX9_lays_4 : decode cX9_lays 4 = .ok (.bipush 32, 2) := by decide +kernel
theorem dX9_lays_6 : decode cX9_lays 6 = .ok (.iload_n 1, 1) := by decide +kernel
theorem dX9_lays_7 : decode cX9_lays 7 = .ok (.imul, 1) := by decide +kernel
theorem dX9_lays_8 : decode cX9_lays 8 = .ok (.iload_n 2, 1) := by decide +kernel
theorem dX9_lays_9 : decode cX9_lays 9 = .ok (.iadd, 1) := by decide +kernel
theorem dX9_lays_10 : decode cX9_lays 10 = .ok (.iload_n 3, 1) := by decide +kernel
theorem dX9_lays_11 : decode cX9_lays 11 = .ok (.iastore, 1) := by decide +kernel
theorem dX9_lays_12 : decode cX9_lays 12 = .ok (.aload_n 0, 1) := by decide +kernel
theorem dX9_lays_13 : decode cX9_lays 13 = .ok (.getfield 48, 3) := by decide +kernel
theorem dX9_lays_16 : decode cX9_lays 16 = .ok (.bipush 32, 2) := by decide +kernel
theorem dX9_lays_18 : decode cX9_lays 18 = .ok (.iload_n 1, 1) := by decide +kernel
theorem dX9_lays_19 : decode cX9_lays 19 = .ok (.imul, 1) := by decide +kernel
theorem dX9_lays_20 : decode cX9_lays 20 = .ok (.iload_n 2, 1) := by decide +kernel
theorem dX9_lays_21 : decode cX9_lays 21 = .ok (.iadd, 1) := by decide +kernel
theorem dX9_lays_22 : decode cX9_lays 22 = .ok (.iload 4, 2) := by decide +kernel
theorem dX9_lays_24 : decode cX9_lays 24 = .ok (.iastore, 1) := by decide +kernel
theorem dX9_lays_25 : decode cX9_lays 25 = .ok (.aload_n 0, 1) := by decide +kernel
theorem dX9_lays_26 : decode cX9_lays 26 = .ok (.getfield 51, 3) := by decide +kernel
theorem dX9_lays_29 : decode cX9_lays 29 = .ok (.bipush 32, 2) := by decide +kernel
theorem dX9_lays_31 : decode cX9_lays 31 = .ok (.iload_n 1, 1) := by decide +kernel
theorem dX9_lays_32 : decode cX9_lays 32 = .ok (.imul, 1) := by decide +kernel
theorem dX9_lays_33 : decode cX9_lays 33 = .ok (.iload_n 2, 1) := by decide +kernel
theorem dX9_lays_34 : decode cX9_lays 34 = .ok (.iadd, 1) := by decide +kernel
theorem dX9_lays_35 : decode cX9_lays 35 = .ok (.iload 5, 2) := by decide +kernel
theorem dX9_lays_37 : decode cX9_lays 37 = .ok (.iastore, 1) := by decide +kernel
theorem dX9_lays_38 : decode cX9_lays 38 = .ok (.aload_n 0, 1) := by decide +kernel
theorem dX9_lays_39 : decode cX9_lays 39 = .ok (.getfield 54, 3) := by decide +kernel
theorem dX9_lays_42 : decode cX9_lays 42 = .ok (.bipush 32, 2) := by decide +kernel
theorem dX9_lays_44 : decode cX9_lays 44 = .ok (.iload_n 1, 1) := by decide +kernel
theorem dX9_lays_45 : decode cX9_lays 45 = .ok (.imul, 1) := by decide +kernel
theorem dX9_lays_46 : decode cX9_lays 46 = .ok (.iload_n 2, 1) := by decide +kernel
theorem dX9_lays_47 : decode cX9_lays 47 = .ok (.iadd, 1) := by decide +kernel
theorem dX9_lays_48 : decode cX9_lays 48 = .ok (.iload 6, 2) := by decide +kernel
theorem dX9_lays_50 : decode cX9_lays 50 = .ok (.iastore, 1) := by decide +kernel
theorem dX9_lays_51 : decode cX9_lays 51 = .ok (.return_, 1) := by decide +kernel
set_option maxRecDepth 20000 in
theorem ggX9_fitsAt_X9_base : GoodIn wsX9_fitsAt wsX9_base := goodIn_r _ [10] (by decide +kernel) (by decide +kernel)
set_option maxRecDepth 20000 in
theorem gX9_fitsAt_X9_base : GoodIn wsX9_fitsAt (va_wsS RX9 128 yX9_base wsX9_base) := goodIn_app (goodIn_of _ (by decide +kernel)) ggX9_fitsAt_X9_base
set_option maxRecDepth 20000 in
theorem ggX9_fitsAt_X9_isUnder : GoodIn wsX9_fitsAt wsX9_isUnder := goodIn_r _ [13, 14, 15, 9, 16, 17, 18, 19, 20, 21, 22] (by decide +kernel) (by decide +kernel)
set_option maxRecDepth 20000 in
theorem gX9_fitsAt_X9_isUnder : GoodIn wsX9_fitsAt (va_wsS RX9 124 yX9_isUnder wsX9_isUnder) := goodIn_app (goodIn_of _ (by decide +kernel)) ggX9_fitsAt_X9_isUnder
set_option maxRecDepth 20000 in
theorem ggX9_fitsAt_X9_find : GoodIn wsX9_fitsAt wsX9_find := goodIn_r _ [26, 3, 1, 4, 27, 28, 29, 30, 31, 32, 33, 34, 35, 36, 37, 38, 39, 40, 41, 42, 43, 44, 45, 46, 47, 48, 49, 50, 51, 52, 53, 54, 55, 56, 57, 58, 59, 60, 61, 62, 63] (by decide +kernel) (by decide +kernel)
set_option maxRecDepth 20000 in
theorem gX9_fitsAt_X9_find : GoodIn wsX9_fitsAt (wsV RX9 135 RX9 yX9_find wsX9_find) := goodIn_app (goodIn_of _ (by decide +kernel)) ggX9_fitsAt_X9_find
theorem dX9_fitsAt_0 : decode cX9_fitsAt 0 = .ok (.aload_n 0, 1) := by decide +kernel
theorem dX9_fitsAt_1 : decode cX9_fitsAt 1 = .ok (.getfield 45, 3) := by decide +kernel
theorem dX9_fitsAt_4 : decode cX9_fitsAt 4 = .ok (.iload_n 2, 1) := by decide +kernel
theorem dX9_fitsAt_5 : decode cX9_fitsAt 5 = .ok (.iaload, 1) := by decide +kernel
theorem dX9_fitsAt_6 : decode cX9_fitsAt 6 = .ok (.istore_n 3, 1) := by decide +kernel
theorem dX9_fitsAt_7 : decode cX9_fitsAt 7 = .ok (.iload_n 3, 1) := by decide +kernel
theorem dX9_fitsAt_8 : decode cX9_fitsAt 8 = .ok (.invokestatic 128, 3) := by decide +kernel
theorem dX9_fitsAt_11 : decode cX9_fitsAt 11 = .ok (.aload_n 0, 1) := by decide +kernel
theorem dX9_fitsAt_12 : decode cX9_fitsAt 12 = .ok (.getfield 13, 3) := by decide +kernel
theorem dX9_fitsAt_15 : decode cX9_fitsAt 15 = .ok (.iload_n 1, 1) := by decide +kernel
theorem dX9_fitsAt_16 : decode cX9_fitsAt 16 = .ok (.iaload, 1) := by decide +kernel
theorem dX9_fitsAt_17 : decode cX9_fitsAt 17 = .ok (.invokestatic 124, 3) := by decide +kernel
theorem dX9_fitsAt_20 : decode cX9_fitsAt 20 = .ok (.istore 4, 2) := by decide +kernel
theorem dX9_fitsAt_22 : decode cX9_fitsAt 22 = .ok (.sipush 384, 3) := by decide +kernel
theorem dX9_fitsAt_25 : decode cX9_fitsAt 25 = .ok (.istore 5, 2) := by decide +kernel
theorem dX9_fitsAt_27 : decode cX9_fitsAt 27 = .ok (.iload 5, 2) := by decide +kernel
theorem dX9_fitsAt_29 : decode cX9_fitsAt 29 = .ok (.sipush 384, 3) := by decide +kernel
theorem dX9_fitsAt_32 : decode cX9_fitsAt 32 = .ok (.aload_n 0, 1) := by decide +kernel
theorem dX9_fitsAt_33 : decode cX9_fitsAt 33 = .ok (.getfield 42, 3) := by decide +kernel
theorem dX9_fitsAt_36 : decode cX9_fitsAt 36 = .ok (.bipush 12, 2) := by decide +kernel
theorem dX9_fitsAt_38 : decode cX9_fitsAt 38 = .ok (.iaload, 1) := by decide +kernel
theorem dX9_fitsAt_39 : decode cX9_fitsAt 39 = .ok (.iadd, 1) := by decide +kernel
theorem dX9_fitsAt_40 : decode cX9_fitsAt 40 = .ok (.if_icmp .ge 106, 3) := by decide +kernel
theorem dX9_fitsAt_43 : decode cX9_fitsAt 43 = .ok (.iload 5, 2) := by decide +kernel
theorem dX9_fitsAt_45 : decode cX9_fitsAt 45 = .ok (.iload_n 2, 1) := by decide +kernel
theorem dX9_fitsAt_46 : decode cX9_fitsAt 46 = .ok (.if_icmp .eq 18, 3) := by decide +kernel
theorem dX9_fitsAt_49 : decode cX9_fitsAt 49 = .ok (.aload_n 0, 1) := by decide +kernel
theorem dX9_fitsAt_50 : decode cX9_fitsAt 50 = .ok (.getfield 45, 3) := by decide +kernel
theorem dX9_fitsAt_53 : decode cX9_fitsAt 53 = .ok (.iload 5, 2) := by decide +kernel
theorem dX9_fitsAt_55 : decode cX9_fitsAt 55 = .ok (.iaload, 1) := by decide +kernel
theorem dX9_fitsAt_56 : decode cX9_fitsAt 56 = .ok (.iload_n 3, 1) := by decide +kernel
theorem dX9_fitsAt_57 : decode cX9_fitsAt 57 = .ok (.if_icmp .ne 7, 3) := by decide +kernel
theorem dX9_fitsAt_60 : decode cX9_fitsAt 60 = .ok (.iconst 1, 1) := by decide +kernel
theorem dX9_fitsAt_61 : decode cX9_fitsAt 61 = .ok (.goto 4, 3) := by decide +kernel
theorem dX9_fitsAt_64 : decode cX9_fitsAt 64 = .ok (.iconst 0, 1) := by decide +kernel
theorem dX9_fitsAt_65 : decode cX9_fitsAt 65 = .ok (.istore 6, 2) := by decide +kernel
theorem dX9_fitsAt_67 : decode cX9_fitsAt 67 = .ok (.iload 4, 2) := by decide +kernel
theorem dX9_fitsAt_69 : decode cX9_fitsAt 69 = .ok (.aload_n 0, 1) := by decide +kernel
theorem dX9_fitsAt_70 : decode cX9_fitsAt 70 = .ok (.getfield 48, 3) := by decide +kernel
theorem dX9_fitsAt_73 : decode cX9_fitsAt 73 = .ok (.iload_n 2, 1) := by decide +kernel
theorem dX9_fitsAt_74 : decode cX9_fitsAt 74 = .ok (.iaload, 1) := by decide +kernel
theorem dX9_fitsAt_75 : decode cX9_fitsAt 75 = .ok (.iconst 1, 1) := by decide +kernel
theorem dX9_fitsAt_76 : decode cX9_fitsAt 76 = .ok (.if_icmp .ne 8, 3) := by decide +kernel
theorem dX9_fitsAt_79 : decode cX9_fitsAt 79 = .ok (.iload 6, 2) := by decide +kernel
theorem dX9_fitsAt_81 : decode cX9_fitsAt 81 = .ok (.ifCond .ne 7, 3) := by decide +kernel
theorem dX9_fitsAt_84 : decode cX9_fitsAt 84 = .ok (.iconst 1, 1) := by decide +kernel
theorem dX9_fitsAt_85 : decode cX9_fitsAt 85 = .ok (.goto 4, 3) := by decide +kernel
theorem dX9_fitsAt_88 : decode cX9_fitsAt 88 = .ok (.iconst 0, 1) := by decide +kernel
theorem dX9_fitsAt_89 : decode cX9_fitsAt 89 = .ok (.iand, 1) := by decide +kernel
theorem dX9_fitsAt_90 : decode cX9_fitsAt 90 = .ok (.istore 4, 2) := by decide +kernel
theorem dX9_fitsAt_92 : decode cX9_fitsAt 92 = .ok (.iload 4, 2) := by decide +kernel
theorem dX9_fitsAt_94 : decode cX9_fitsAt 94 = .ok (.aload_n 0, 1) := by decide +kernel
theorem dX9_fitsAt_95 : decode cX9_fitsAt 95 = .ok (.getfield 48, 3) := by decide +kernel
theorem dX9_fitsAt_98 : decode cX9_fitsAt 98 = .ok (.iload_n 2, 1) := by decide +kernel
theorem dX9_fitsAt_99 : decode cX9_fitsAt 99 = .ok (.iaload, 1) := by decide +kernel
theorem dX9_fitsAt_100 : decode cX9_fitsAt 100 = .ok (.iconst 2, 1) := by decide +kernel
theorem dX9_fitsAt_101 : decode cX9_fitsAt 101 = .ok (.if_icmp .ne 31, 3) := by decide +kernel
theorem dX9_fitsAt_104 : decode cX9_fitsAt 104 = .ok (.aload_n 0, 1) := by decide +kernel
theorem dX9_fitsAt_105 : decode cX9_fitsAt 105 = .ok (.getfield 45, 3) := by decide +kernel
theorem dX9_fitsAt_108 : decode cX9_fitsAt 108 = .ok (.iload 5, 2) := by decide +kernel
theorem dX9_fitsAt_110 : decode cX9_fitsAt 110 = .ok (.iaload, 1) := by decide +kernel
theorem dX9_fitsAt_111 : decode cX9_fitsAt 111 = .ok (.iload_n 3, 1) := by decide +kernel
theorem dX9_fitsAt_112 : decode cX9_fitsAt 112 = .ok (.if_icmp .eq 20, 3) := by decide +kernel
theorem dX9_fitsAt_115 : decode cX9_fitsAt 115 = .ok (.aload_n 0, 1) := by decide +kernel
theorem dX9_fitsAt_116 : decode cX9_fitsAt 116 = .ok (.getfield 45, 3) := by decide +kernel
theorem dX9_fitsAt_119 : decode cX9_fitsAt 119 = .ok (.iload 5, 2) := by decide +kernel
theorem dX9_fitsAt_121 : decode cX9_fitsAt 121 = .ok (.iaload, 1) := by decide +kernel
theorem dX9_fitsAt_122 : decode cX9_fitsAt 122 = .ok (.invokestatic 128, 3) := by decide +kernel
theorem dX9_fitsAt_125 : decode cX9_fitsAt 125 = .ok (.iload_n 3, 1) := by decide +kernel
theorem dX9_fitsAt_126 : decode cX9_fitsAt 126 = .ok (.invokestatic 124, 3) := by decide +kernel
theorem dX9_fitsAt_129 : decode cX9_fitsAt 129 = .ok (.ifCond .ne 7, 3) := by decide +kernel
theorem dX9_fitsAt_132 : decode cX9_fitsAt 132 = .ok (.iconst 1, 1) := by decide +kernel
theorem dX9_fitsAt_133 : decode cX9_fitsAt 133 = .ok (.goto 4, 3) := by decide +kernel
theorem dX9_fitsAt_136 : decode cX9_fitsAt 136 = .ok (.iconst 0, 1) := by decide +kernel
theorem dX9_fitsAt_137 : decode cX9_fitsAt 137 = .ok (.iand, 1) := by decide +kernel
theorem dX9_fitsAt_138 : decode cX9_fitsAt 138 = .ok (.istore 4, 2) := by decide +kernel
theorem dX9_fitsAt_140 : decode cX9_fitsAt 140 = .ok (.iinc 5 1, 3) := by decide +kernel
theorem dX9_fitsAt_143 : decode cX9_fitsAt 143 = .ok (.goto (-116), 3) := by decide +kernel
theorem dX9_fitsAt_146 : decode cX9_fitsAt 146 = .ok (.iload 4, 2) := by decide +kernel
theorem dX9_fitsAt_148 : decode cX9_fitsAt 148 = .ok (.aload_n 0, 1) := by decide +kernel
theorem dX9_fitsAt_149 : decode cX9_fitsAt 149 = .ok (.getfield 48, 3) := by decide +kernel
theorem dX9_fitsAt_152 : decode cX9_fitsAt 152 = .ok (.iload_n 2, 1) := by decide +kernel
theorem dX9_fitsAt_153 : decode cX9_fitsAt 153 = .ok (.iaload, 1) := by decide +kernel
theorem dX9_fitsAt_154 : decode cX9_fitsAt 154 = .ok (.iconst 2, 1) := by decide +kernel
theorem dX9_fitsAt_155 : decode cX9_fitsAt 155 = .ok (.if_icmp .eq 23, 3) := by decide +kernel
theorem dX9_fitsAt_158 : decode cX9_fitsAt 158 = .ok (.aload_n 0, 1) := by decide +kernel
theorem dX9_fitsAt_159 : decode cX9_fitsAt 159 = .ok (.getfield 48, 3) := by decide +kernel
theorem dX9_fitsAt_162 : decode cX9_fitsAt 162 = .ok (.iload_n 2, 1) := by decide +kernel
theorem dX9_fitsAt_163 : decode cX9_fitsAt 163 = .ok (.iaload, 1) := by decide +kernel
theorem dX9_fitsAt_164 : decode cX9_fitsAt 164 = .ok (.iconst 3, 1) := by decide +kernel
theorem dX9_fitsAt_165 : decode cX9_fitsAt 165 = .ok (.if_icmp .eq 13, 3) := by decide +kernel
theorem dX9_fitsAt_168 : decode cX9_fitsAt 168 = .ok (.aload_n 0, 1) := by decide +kernel
theorem dX9_fitsAt_169 : decode cX9_fitsAt 169 = .ok (.getfield 48, 3) := by decide +kernel
theorem dX9_fitsAt_172 : decode cX9_fitsAt 172 = .ok (.iload_n 2, 1) := by decide +kernel
theorem dX9_fitsAt_173 : decode cX9_fitsAt 173 = .ok (.iaload, 1) := by decide +kernel
theorem dX9_fitsAt_174 : decode cX9_fitsAt 174 = .ok (.iconst 4, 1) := by decide +kernel
theorem dX9_fitsAt_175 : decode cX9_fitsAt 175 = .ok (.if_icmp .ne 14, 3) := by decide +kernel
theorem dX9_fitsAt_178 : decode cX9_fitsAt 178 = .ok (.iload_n 3, 1) := by decide +kernel
theorem dX9_fitsAt_179 : decode cX9_fitsAt 179 = .ok (.ifCond .eq 10, 3) := by decide +kernel
theorem dX9_fitsAt_182 : decode cX9_fitsAt 182 = .ok (.iload_n 3, 1) := by decide +kernel
theorem dX9_fitsAt_183 : decode cX9_fitsAt 183 = .ok (.bipush 10, 2) := by decide +kernel
theorem dX9_fitsAt_185 : decode cX9_fitsAt 185 = .ok (.irem, 1) := by decide +kernel
theorem dX9_fitsAt_186 : decode cX9_fitsAt 186 = .ok (.ifCond .eq 7, 3) := by decide +kernel
theorem dX9_fitsAt_189 : decode cX9_fitsAt 189 = .ok (.iconst 1, 1) := by decide +kernel
theorem dX9_fitsAt_190 : decode cX9_fitsAt 190 = .ok (.goto 4, 3) := by decide +kernel
theorem dX9_fitsAt_193 : decode cX9_fitsAt 193 = .ok (.iconst 0, 1) := by decide +kernel
theorem dX9_fitsAt_194 : decode cX9_fitsAt 194 = .ok (.iand, 1) := by decide +kernel
theorem dX9_fitsAt_195 : decode cX9_fitsAt 195 = .ok (.istore 4, 2) := by decide +kernel
theorem dX9_fitsAt_197 : decode cX9_fitsAt 197 = .ok (.iload 4, 2) := by decide +kernel
theorem dX9_fitsAt_199 : decode cX9_fitsAt 199 = .ok (.aload_n 0, 1) := by decide +kernel
theorem dX9_fitsAt_200 : decode cX9_fitsAt 200 = .ok (.getfield 48, 3) := by decide +kernel
theorem dX9_fitsAt_203 : decode cX9_fitsAt 203 = .ok (.iload_n 2, 1) := by decide +kernel
theorem dX9_fitsAt_204 : decode cX9_fitsAt 204 = .ok (.iaload, 1) := by decide +kernel
theorem dX9_fitsAt_205 : decode cX9_fitsAt 205 = .ok (.iconst 3, 1) := by decide +kernel
theorem dX9_fitsAt_206 : decode cX9_fitsAt 206 = .ok (.if_icmp .ne 41, 3) := by decide +kernel
theorem dX9_fitsAt_209 : decode cX9_fitsAt 209 = .ok (.iload_n 3, 1) := by decide +kernel
theorem dX9_fitsAt_210 : decode cX9_fitsAt 210 = .ok (.aload_n 0, 1) := by decide +kernel
theorem dX9_fitsAt_211 : decode cX9_fitsAt 211 = .ok (.getfield 13, 3) := by decide +kernel
theorem dX9_fitsAt_214 : decode cX9_fitsAt 214 = .ok (.iload_n 1, 1) := by decide +kernel
theorem dX9_fitsAt_215 : decode cX9_fitsAt 215 = .ok (.iaload, 1) := by decide +kernel
theorem dX9_fitsAt_216 : decode cX9_fitsAt 216 = .ok (.if_icmp .eq 35, 3) := by decide +kernel
theorem dX9_fitsAt_219 : decode cX9_fitsAt 219 = .ok (.aload_n 0, 1) := by decide +kernel
theorem dX9_fitsAt_220 : decode cX9_fitsAt 220 = .ok (.getfield 51, 3) := by decide +kernel
theorem dX9_fitsAt_223 : decode cX9_fitsAt 223 = .ok (.iload_n 2, 1) := by decide +kernel
theorem dX9_fitsAt_224 : decode cX9_fitsAt 224 = .ok (.iaload, 1) := by decide +kernel
theorem dX9_fitsAt_225 : decode cX9_fitsAt 225 = .ok (.aload_n 0, 1) := by decide +kernel
theorem dX9_fitsAt_226 : decode cX9_fitsAt 226 = .ok (.getfield 7, 3) := by decide +kernel
theorem dX9_fitsAt_229 : decode cX9_fitsAt 229 = .ok (.if_icmp .ge 22, 3) := by decide +kernel
theorem dX9_fitsAt_232 : decode cX9_fitsAt 232 = .ok (.aload_n 0, 1) := by decide +kernel
theorem dX9_fitsAt_233 : decode cX9_fitsAt 233 = .ok (.getfield 13, 3) := by decide +kernel
theorem dX9_fitsAt_236 : decode cX9_fitsAt 236 = .ok (.aload_n 0, 1) := by decide +kernel
theorem dX9_fitsAt_237 : decode cX9_fitsAt 237 = .ok (.getfield 51, 3) := by decide +kernel
theorem dX9_fitsAt_240 : decode cX9_fitsAt 240 = .ok (.iload_n 2, 1) := by decide +kernel
theorem dX9_fitsAt_241 : decode cX9_fitsAt 241 = .ok (.iaload, 1) := by decide +kernel
theorem dX9_fitsAt_242 : decode cX9_fitsAt 242 = .ok (.iaload, 1) := by decide +kernel
theorem dX9_fitsAt_243 : decode cX9_fitsAt 243 = .ok (.iload_n 3, 1) := by decide +kernel
theorem dX9_fitsAt_244 : decode cX9_fitsAt 244 = .ok (.if_icmp .ne 7, 3) := by decide +kernel
theorem dX9_fitsAt_247 : decode cX9_fitsAt 247 = .ok (.iconst 1, 1) := by decide +kernel
theorem dX9_fitsAt_248 : decode cX9_fitsAt 248 = .ok (.goto 4, 3) := by decide +kernel
theorem dX9_fitsAt_251 : decode cX9_fitsAt 251 = .ok (.iconst 0, 1) := by decide +kernel
theorem dX9_fitsAt_252 : decode cX9_fitsAt 252 = .ok (.iand, 1) := by decide +kernel
theorem dX9_fitsAt_253 : decode cX9_fitsAt 253 = .ok (.istore 4, 2) := by decide +kernel
theorem dX9_fitsAt_255 : decode cX9_fitsAt 255 = .ok (.iload 4, 2) := by decide +kernel
theorem dX9_fitsAt_257 : decode cX9_fitsAt 257 = .ok (.ifCond .eq 29, 3) := by decide +kernel
theorem dX9_fitsAt_260 : decode cX9_fitsAt 260 = .ok (.aload_n 0, 1) := by decide +kernel
theorem dX9_fitsAt_261 : decode cX9_fitsAt 261 = .ok (.getfield 48, 3) := by decide +kernel
theorem dX9_fitsAt_264 : decode cX9_fitsAt 264 = .ok (.iload_n 2, 1) := by decide +kernel
theorem dX9_fitsAt_265 : decode cX9_fitsAt 265 = .ok (.iaload, 1) := by decide +kernel
theorem dX9_fitsAt_266 : decode cX9_fitsAt 266 = .ok (.iconst 4, 1) := by decide +kernel
theorem dX9_fitsAt_267 : decode cX9_fitsAt 267 = .ok (.if_icmp .ne 15, 3) := by decide +kernel
theorem dX9_fitsAt_270 : decode cX9_fitsAt 270 = .ok (.aload_n 0, 1) := by decide +kernel
theorem dX9_fitsAt_271 : decode cX9_fitsAt 271 = .ok (.bipush 12, 2) := by decide +kernel
theorem dX9_fitsAt_273 : decode cX9_fitsAt 273 = .ok (.iload_n 3, 1) := by decide +kernel
theorem dX9_fitsAt_274 : decode cX9_fitsAt 274 = .ok (.iconst 3, 1) := by decide +kernel
theorem dX9_fitsAt_275 : decode cX9_fitsAt 275 = .ok (.invokevirtual 135, 3) := by decide +kernel
theorem dX9_fitsAt_278 : decode cX9_fitsAt 278 = .ok (.iconst (-1), 1) := by decide +kernel
theorem dX9_fitsAt_279 : decode cX9_fitsAt 279 = .ok (.if_icmp .eq 7, 3) := by decide +kernel
theorem dX9_fitsAt_282 : decode cX9_fitsAt 282 = .ok (.iconst 1, 1) := by decide +kernel
theorem dX9_fitsAt_283 : decode cX9_fitsAt 283 = .ok (.goto 4, 3) := by decide +kernel
theorem dX9_fitsAt_286 : decode cX9_fitsAt 286 = .ok (.iconst 0, 1) := by decide +kernel
theorem dX9_fitsAt_287 : decode cX9_fitsAt 287 = .ok (.ireturn, 1) := by decide +kernel
set_option maxRecDepth 20000 in
theorem ggX9_fits_X9_fitsAt : GoodIn wsX9_fits wsX9_fitsAt := goodIn_r _ [6, 7, 8, 1, 9, 10, 11, 12, 13, 5, 14, 15, 16, 17, 18, 19, 20, 21, 22, 23, 24, 25, 26, 27, 28, 29, 30, 31, 32, 33, 34, 35, 36, 37, 38, 39, 40, 41, 42, 43, 44, 45, 46, 47, 48, 49, 50, 51, 52, 53, 54, 55, 56, 57, 58, 59, 60, 61, 62, 63, 64, 65, 66, 67] (by decide +kernel) (by decide +kernel)
set_option maxRecDepth 20000 in
theorem gX9_fits_X9_fitsAt : GoodIn wsX9_fits (wsV RX9 139 RX9 yX9_fitsAt wsX9_fitsAt) := goodIn_app (goodIn_of _ (by decide +kernel)) ggX9_fits_X9_fitsAt
theorem dX9_fits_0 : decode cX9_fits 0 = .ok (.aload_n 0, 1) := by decide +kernel
theorem dX9_fits_1 : decode cX9_fits 1 = .ok (.getfield 42, 3) := by decide +kernel
theorem dX9_fits_4 : decode cX9_fits 4 = .ok (.bipush 12, 2) := by decide +kernel
theorem dX9_fits_6 : decode cX9_fits 6 = .ok (.iaload, 1) := by decide +kernel
theorem dX9_fits_7 : decode cX9_fits 7 = .ok (.bipush 20, 2) := by decide +kernel
theorem dX9_fits_9 : decode cX9_fits 9 = .ok (.if_icmp .gt 7, 3) := by decide +kernel
theorem dX9_fits_12 : decode cX9_fits 12 = .ok (.iconst 1, 1) := by decide +kernel
theorem dX9_fits_13 : decode cX9_fits 13 = .ok (.goto 4, 3) := by decide +kernel
theorem dX9_fits_16 : decode cX9_fits 16 = .ok (.iconst 0, 1) := by decide +kernel
theorem dX9_fits_17 : decode cX9_fits 17 = .ok (.istore_n 2, 1) := by decide +kernel
theorem dX9_fits_18 : decode cX9_fits 18 = .ok (.sipush 384, 3) := by decide +kernel
theorem dX9_fits_21 : decode cX9_fits 21 = .ok (.istore_n 3, 1) := by decide +kernel
theorem dX9_fits_22 : decode cX9_fits 22 = .ok (.iload_n 3, 1) := by decide +kernel
theorem dX9_fits_23 : decode cX9_fits 23 = .ok (.sipush 384, 3) := by decide +kernel
theorem dX9_fits_26 : decode cX9_fits 26 = .ok (.aload_n 0, 1) := by decide +kernel
theorem dX9_fits_27 : decode cX9_fits 27 = .ok (.getfield 42, 3) := by decide +kernel
theorem dX9_fits_30 : decode cX9_fits 30 = .ok (.bipush 12, 2) := by decide +kernel
theorem dX9_fits_32 : decode cX9_fits 32 = .ok (.iaload, 1) := by decide +kernel
theorem dX9_fits_33 : decode cX9_fits 33 = .ok (.iadd, 1) := by decide +kernel
theorem dX9_fits_34 : decode cX9_fits 34 = .ok (.if_icmp .ge 28, 3) := by decide +kernel
theorem dX9_fits_37 : decode cX9_fits 37 = .ok (.iload_n 2, 1) := by decide +kernel
theorem dX9_fits_38 : decode cX9_fits 38 = .ok (.ifCond .eq 16, 3) := by decide +kernel
theorem dX9_fits_41 : decode cX9_fits 41 = .ok (.aload_n 0, 1) := by decide +kernel
theorem dX9_fits_42 : decode cX9_fits 42 = .ok (.iload_n 1, 1) := by decide +kernel
theorem dX9_fits_43 : decode cX9_fits 43 = .ok (.iload_n 3, 1) := by decide +kernel
theorem dX9_fits_44 : decode cX9_fits 44 = .ok (.invokevirtual 139, 3) := by decide +kernel
theorem dX9_fits_47 : decode cX9_fits 47 = .ok (.ifCond .eq 7, 3) := by decide +kernel
theorem dX9_fits_50 : decode cX9_fits 50 = .ok (.iconst 1, 1) := by decide +kernel
theorem dX9_fits_51 : decode cX9_fits 51 = .ok (.goto 4, 3) := by decide +kernel
theorem dX9_fits_54 : decode cX9_fits 54 = .ok (.iconst 0, 1) := by decide +kernel
theorem dX9_fits_55 : decode cX9_fits 55 = .ok (.istore_n 2, 1) := by decide +kernel
theorem dX9_fits_56 : decode cX9_fits 56 = .ok (.iinc 3 1, 3) := by decide +kernel
theorem dX9_fits_59 : decode cX9_fits 59 = .ok (.goto (-37), 3) := by decide +kernel
theorem dX9_fits_62 : decode cX9_fits 62 = .ok (.iload_n 2, 1) := by decide +kernel
theorem dX9_fits_63 : decode cX9_fits 63 = .ok (.ireturn, 1) := by decide +kernel
