theorem d_Y_matches_20 : decode b_Y_matches 20 = .ok (.if_icmp .ge 26, 3) := by decide +kernel
theorem d_Y_matches_23 : decode b_Y_matches 23 = .ok (.aload_n 0, 1) := by decide +kernel
theorem d_Y_matches_24 : decode b_Y_matches 24 = .ok (.getfield 9, 3) := by decide +kernel
theorem d_Y_matches_27 : decode b_Y_matches 27 = .ok (.iload_n 2, 1) := by decide +kernel
theorem d_Y_matches_28 : decode b_Y_matches 28 = .ok (.baload, 1) := by decide +kernel
theorem d_Y_matches_29 : decode b_Y_matches 29 = .ok (.aload_n 1, 1) := by decide +kernel
theorem d_Y_matches_30 : decode b_Y_matches 30 = .ok (.getfield 9, 3) := by decide +kernel
theorem d_Y_matches_33 : decode b_Y_matches 33 = .ok (.iload_n 2, 1) := by decide +kernel
theorem d_Y_matches_34 : decode b_Y_matches 34 = .ok (.baload, 1) := by decide +kernel
theorem d_Y_matches_35 : decode b_Y_matches 35 = .ok (.if_icmp .eq 5, 3) := by decide +kernel
theorem d_Y_matches_38 : decode b_Y_matches 38 = .ok (.iconst 0, 1) := by decide +kernel
theorem d_Y_matches_39 : decode b_Y_matches 39 = .ok (.ireturn, 1) := by decide +kernel
theorem d_Y_matches_40 : decode b_Y_matches 40 = .ok (.iinc 2 1, 3) := by decide +kernel
theorem d_Y_matches_43 : decode b_Y_matches 43 = .ok (.goto (-28), 3) := by decide +kernel
theorem d_Y_matches_46 : decode b_Y_matches 46 = .ok (.iconst 1, 1) := by decide +kernel
theorem d_Y_matches_47 : decode b_Y_matches 47 = .ok (.ireturn, 1) := by decide +kernel
theorem d_L_digest_0 : decode b_L_digest 0 = .ok (.aload_n 3, 1) := by decide +kernel
theorem d_L_digest_1 : decode b_L_digest 1 = .ok (.iconst 0, 1) := by decide +kernel
theorem d_L_digest_2 : decode b_L_digest 2 = .ok (.aload_n 0, 1) := by decide +kernel
theorem d_L_digest_3 : decode b_L_digest 3 = .ok (.iload_n 1, 1) := by decide +kernel
theorem d_L_digest_4 : decode b_L_digest 4 = .ok (.iload_n 2, 1) := by decide +kernel
theorem d_L_digest_5 : decode b_L_digest 5 = .ok (.invokevirtual 43, 3) := by decide +kernel
theorem d_L_digest_8 : decode b_L_digest 8 = .ok (.i2l, 1) := by decide +kernel
theorem d_L_digest_9 : decode b_L_digest 9 = .ok (.lastore, 1) := by decide +kernel
theorem d_L_digest_10 : decode b_L_digest 10 = .ok (.goto 7, 3) := by decide +kernel
theorem d_L_digest_13 : decode b_L_digest 13 = .ok (.astore 4, 2) := by decide +kernel
theorem d_L_digest_15 : decode b_L_digest 15 = .ok (.iconst 1, 1) := by decide +kernel
theorem d_L_digest_16 : decode b_L_digest 16 = .ok (.ireturn, 1) := by decide +kernel
theorem d_L_digest_17 : decode b_L_digest 17 = .ok (.iconst 0, 1) := by decide +kernel
theorem d_L_digest_18 : decode b_L_digest 18 = .ok (.ireturn, 1) := by decide +kernel
theorem d_D_digest_0 : decode b_D_digest 0 = .ok (.iload_n 1, 1) := by decide +kernel
theorem d_D_digest_1 : decode b_D_digest 1 = .ok (.iconst 1, 1) := by decide +kernel
theorem d_D_digest_2 : decode b_D_digest 2 = .ok (.bipush 16, 2) := by decide +kernel
theorem d_D_digest_4 : decode b_D_digest 4 = .ok (.invokestatic 84, 3) := by decide +kernel
theorem d_D_digest_7 : decode b_D_digest 7 = .ok (.iload_n 2, 1) := by decide +kernel
theorem d_D_digest_8 : decode b_D_digest 8 = .ok (.iconst 0, 1) := by decide +kernel
theorem d_D_digest_9 : decode b_D_digest 9 = .ok (.sipush 8192, 3) := by decide +kernel
theorem d_D_digest_12 : decode b_D_digest 12 = .ok (.invokestatic 84, 3) := by decide +kernel
theorem d_D_digest_15 : decode b_D_digest 15 = .ok (.iload_n 1, 1) := by decide +kernel
theorem d_D_digest_16 : decode b_D_digest 16 = .ok (.tableswitch 295 1 15 #[76, 92, 108, 124, 140, 156, 172, 186, 200, 213, 226, 239, 252, 266, 280], 76) := by decide +kernel
theorem d_D_digest_92 : decode b_D_digest 92 = .ok (.aload_n 0, 1) := by decide +kernel
theorem d_D_digest_93 : decode b_D_digest 93 = .ok (.aload_n 0, 1) := by decide +kernel
theorem d_D_digest_94 : decode b_D_digest 94 = .ok (.getfield 36, 3) := by decide +kernel
theorem d_D_digest_97 : decode b_D_digest 97 = .ok (.getstatic 111, 3) := by decide +kernel
theorem d_D_digest_100 : decode b_D_digest 100 = .ok (.bipush 32, 2) := by decide +kernel
theorem d_D_digest_102 : decode b_D_digest 102 = .ok (.invokevirtual 115, 3) := by decide +kernel
theorem d_D_digest_105 : decode b_D_digest 105 = .ok (.goto 218, 3) := by decide +kernel
theorem d_D_digest_108 : decode b_D_digest 108 = .ok (.aload_n 0, 1) := by decide +kernel
theorem d_D_digest_109 : decode b_D_digest 109 = .ok (.aload_n 0, 1) := by decide +kernel
theorem d_D_digest_110 : decode b_D_digest 110 = .ok (.getfield 43, 3) := by decide +kernel
theorem d_D_digest_113 : decode b_D_digest 113 = .ok (.getstatic 119, 3) := by decide +kernel
theorem d_D_digest_116 : decode b_D_digest 116 = .ok (.bipush 48, 2) := by decide +kernel
theorem d_D_digest_118 : decode b_D_digest 118 = .ok (.invokevirtual 115, 3) := by decide +kernel
theorem d_D_digest_121 : decode b_D_digest 121 = .ok (.goto 202, 3) := by decide +kernel
theorem d_D_digest_124 : decode b_D_digest 124 = .ok (.aload_n 0, 1) := by decide +kernel
theorem d_D_digest_125 : decode b_D_digest 125 = .ok (.aload_n 0, 1) := by decide +kernel
theorem d_D_digest_126 : decode b_D_digest 126 = .ok (.getfield 43, 3) := by decide +kernel
theorem d_D_digest_129 : decode b_D_digest 129 = .ok (.getstatic 122, 3) := by decide +kernel
theorem d_D_digest_132 : decode b_D_digest 132 = .ok (.bipush 64, 2) := by decide +kernel
theorem d_D_digest_134 : decode b_D_digest 134 = .ok (.invokevirtual 115, 3) := by decide +kernel
theorem d_D_digest_137 : decode b_D_digest 137 = .ok (.goto 186, 3) := by decide +kernel
theorem d_D_digest_140 : decode b_D_digest 140 = .ok (.aload_n 0, 1) := by decide +kernel
theorem d_D_digest_141 : decode b_D_digest 141 = .ok (.aload_n 0, 1) := by decide +kernel
theorem d_D_digest_142 : decode b_D_digest 142 = .ok (.getfield 36, 3) := by decide +kernel
theorem d_D_digest_145 : decode b_D_digest 145 = .ok (.getstatic 125, 3) := by decide +kernel
theorem d_D_digest_148 : decode b_D_digest 148 = .ok (.bipush 28, 2) := by decide +kernel
theorem d_D_digest_150 : decode b_D_digest 150 = .ok (.invokevirtual 115, 3) := by decide +kernel
theorem d_D_digest_153 : decode b_D_digest 153 = .ok (.goto 170, 3) := by decide +kernel
theorem d_D_digest_156 : decode b_D_digest 156 = .ok (.aload_n 0, 1) := by decide +kernel
theorem d_D_digest_157 : decode b_D_digest 157 = .ok (.aload_n 0, 1) := by decide +kernel
theorem d_D_digest_158 : decode b_D_digest 158 = .ok (.getfield 43, 3) := by decide +kernel
theorem d_D_digest_161 : decode b_D_digest 161 = .ok (.getstatic 128, 3) := by decide +kernel
theorem d_D_digest_164 : decode b_D_digest 164 = .ok (.bipush 28, 2) := by decide +kernel
theorem d_D_digest_166 : decode b_D_digest 166 = .ok (.invokevirtual 115, 3) := by decide +kernel
theorem d_D_digest_169 : decode b_D_digest 169 = .ok (.goto 154, 3) := by decide +kernel
theorem d_D_digest_172 : decode b_D_digest 172 = .ok (.aload_n 0, 1) := by decide +kernel
theorem d_D_digest_173 : decode b_D_digest 173 = .ok (.aload_n 0, 1) := by decide +kernel
theorem d_D_digest_174 : decode b_D_digest 174 = .ok (.getfield 43, 3) := by decide +kernel
theorem d_D_digest_177 : decode b_D_digest 177 = .ok (.getstatic 131, 3) := by decide +kernel
theorem d_D_digest_180 : decode b_D_digest 180 = .ok (.bipush 32, 2) := by decide +kernel
theorem d_D_digest_182 : decode b_D_digest 182 = .ok (.invokevirtual 115, 3) := by decide +kernel
theorem d_D_digest_185 : decode b_D_digest 185 = .ok (.goto 138, 3) := by decide +kernel
theorem d_D_digest_188 : decode b_D_digest 188 = .ok (.aload_n 0, 1) := by decide +kernel
theorem d_D_digest_189 : decode b_D_digest 189 = .ok (.sipush 144, 3) := by decide +kernel
theorem d_D_digest_192 : decode b_D_digest 192 = .ok (.bipush 6, 2) := by decide +kernel
theorem d_D_digest_194 : decode b_D_digest 194 = .ok (.bipush 28, 2) := by decide +kernel
theorem d_D_digest_196 : decode b_D_digest 196 = .ok (.invokevirtual 134, 3) := by decide +kernel
theorem d_D_digest_199 : decode b_D_digest 199 = .ok (.goto 124, 3) := by decide +kernel
theorem d_D_digest_202 : decode b_D_digest 202 = .ok (.aload_n 0, 1) := by decide +kernel
theorem d_D_digest_203 : decode b_D_digest 203 = .ok (.sipush 136, 3) := by decide +kernel
theorem d_D_digest_206 : decode b_D_digest 206 = .ok (.bipush 6, 2) := by decide +kernel
theorem d_D_digest_208 : decode b_D_digest 208 = .ok (.bipush 32, 2) := by decide +kernel
theorem d_D_digest_210 : decode b_D_digest 210 = .ok (.invokevirtual 134, 3) := by decide +kernel
theorem d_D_digest_213 : decode b_D_digest 213 = .ok (.goto 110, 3) := by decide +kernel
theorem d_D_digest_216 : decode b_D_digest 216 = .ok (.aload_n 0, 1) := by decide +kernel
theorem d_D_digest_217 : decode b_D_digest 217 = .ok (.bipush 104, 2) := by decide +kernel
theorem d_D_digest_219 : decode b_D_digest 219 = .ok (.bipush 6, 2) := by decide +kernel
theorem d_D_digest_221 : decode b_D_digest 221 = .ok (.bipush 48, 2) := by decide +kernel
theorem d_D_digest_223 : decode b_D_digest 223 = .ok (.invokevirtual 134, 3) := by decide +kernel
theorem d_D_digest_226 : decode b_D_digest 226 = .ok (.goto 97, 3) := by decide +kernel
theorem d_D_digest_229 : decode b_D_digest 229 = .ok (.aload_n 0, 1) := by decide +kernel
theorem d_D_digest_230 : decode b_D_digest 230 = .ok (.bipush 72, 2) := by decide +kernel
theorem d_D_digest_232 : decode b_D_digest 232 = .ok (.bipush 6, 2) := by decide +kernel
theorem d_D_digest_234 : decode b_D_digest 234 = .ok (.bipush 64, 2) := by decide +kernel
theorem d_D_digest_236 : decode b_D_digest 236 = .ok (.invokevirtual 134, 3) := by decide +kernel
theorem d_D_digest_239 : decode b_D_digest 239 = .ok (.goto 84, 3) := by decide +kernel
theorem d_D_digest_242 : decode b_D_digest 242 = .ok (.aload_n 0, 1) := by decide +kernel
theorem d_D_digest_243 : decode b_D_digest 243 = .ok (.sipush 168, 3) := by decide +kernel
theorem d_D_digest_246 : decode b_D_digest 246 = .ok (.bipush 31, 2) := by decide +kernel
theorem d_D_digest_248 : decode b_D_digest 248 = .ok (.iload_n 2, 1) := by decide +kernel
theorem d_D_digest_249 : decode b_D_digest 249 = .ok (.invokevirtual 134, 3) := by decide +kernel
theorem d_D_digest_252 : decode b_D_digest 252 = .ok (.goto 71, 3) := by decide +kernel
theorem d_D_digest_255 : decode b_D_digest 255 = .ok (.aload_n 0, 1) := by decide +kernel
theorem d_D_digest_256 : decode b_D_digest 256 = .ok (.sipush 136, 3) := by decide +kernel
theorem d_D_digest_259 : decode b_D_digest 259 = .ok (.bipush 31, 2) := by decide +kernel
theorem d_D_digest_261 : decode b_D_digest 261 = .ok (.iload_n 2, 1) := by decide +kernel
theorem d_D_digest_262 : decode b_D_digest 262 = .ok (.invokevirtual 134, 3) := by decide +kernel
theorem d_D_digest_265 : decode b_D_digest 265 = .ok (.goto 58, 3) := by decide +kernel
theorem d_D_digest_268 : decode b_D_digest 268 = .ok (.aload_n 0, 1) := by decide +kernel
theorem d_D_digest_269 : decode b_D_digest 269 = .ok (.aload_n 0, 1) := by decide +kernel
theorem d_D_digest_270 : decode b_D_digest 270 = .ok (.getfield 36, 3) := by decide +kernel
theorem d_D_digest_273 : decode b_D_digest 273 = .ok (.getstatic 111, 3) := by decide +kernel
theorem d_D_digest_276 : decode b_D_digest 276 = .ok (.invokevirtual 137, 3) := by decide +kernel
theorem d_D_digest_279 : decode b_D_digest 279 = .ok (.goto 44, 3) := by decide +kernel
theorem d_D_digest_282 : decode b_D_digest 282 = .ok (.aload_n 0, 1) := by decide +kernel
theorem d_D_digest_283 : decode b_D_digest 283 = .ok (.aload_n 0, 1) := by decide +kernel
theorem d_D_digest_284 : decode b_D_digest 284 = .ok (.getfield 43, 3) := by decide +kernel
theorem d_D_digest_287 : decode b_D_digest 287 = .ok (.getstatic 122, 3) := by decide +kernel
theorem d_D_digest_290 : decode b_D_digest 290 = .ok (.invokevirtual 137, 3) := by decide +kernel
theorem d_D_digest_293 : decode b_D_digest 293 = .ok (.goto 30, 3) := by decide +kernel
theorem d_D_digest_296 : decode b_D_digest 296 = .ok (.aload_n 0, 1) := by decide +kernel
theorem d_D_digest_297 : decode b_D_digest 297 = .ok (.aload_n 0, 1) := by decide +kernel
theorem d_D_digest_298 : decode b_D_digest 298 = .ok (.getfield 36, 3) := by decide +kernel
theorem d_D_digest_301 : decode b_D_digest 301 = .ok (.getstatic 111, 3) := by decide +kernel
theorem d_D_digest_304 : decode b_D_digest 304 = .ok (.iload_n 2, 1) := by decide +kernel
theorem d_D_digest_305 : decode b_D_digest 305 = .ok (.invokevirtual 141, 3) := by decide +kernel
theorem d_D_digest_308 : decode b_D_digest 308 = .ok (.goto 15, 3) := by decide +kernel
theorem d_D_digest_311 : decode b_D_digest 311 = .ok (.aload_n 0, 1) := by decide +kernel
theorem d_D_digest_312 : decode b_D_digest 312 = .ok (.aload_n 0, 1) := by decide +kernel
theorem d_D_digest_313 : decode b_D_digest 313 = .ok (.getfield 43, 3) := by decide +kernel
theorem d_D_digest_316 : decode b_D_digest 316 = .ok (.getstatic 122, 3) := by decide +kernel
theorem d_D_digest_319 : decode b_D_digest 319 = .ok (.iload_n 2, 1) := by decide +kernel
theorem d_D_digest_320 : decode b_D_digest 320 = .ok (.invokevirtual 141, 3) := by decide +kernel
theorem d_D_digest_323 : decode b_D_digest 323 = .ok (.aload_n 0, 1) := by decide +kernel
theorem d_D_digest_324 : decode b_D_digest 324 = .ok (.getfield 11, 3) := by decide +kernel
theorem d_D_digest_327 : decode b_D_digest 327 = .ok (.bipush 6, 2) := by decide +kernel
theorem d_D_digest_329 : decode b_D_digest 329 = .ok (.aaload, 1) := by decide +kernel
theorem d_D_digest_330 : decode b_D_digest 330 = .ok (.getfield 66, 3) := by decide +kernel
theorem d_D_digest_333 : decode b_D_digest 333 = .ok (.ireturn, 1) := by decide +kernel
theorem d_D_hashInBlocks_0 : decode b_D_hashInBlocks 0 = .ok (.aload_n 0, 1) := by decide +kernel
theorem d_D_hashInBlocks_1 : decode b_D_hashInBlocks 1 = .ok (.getfield 11, 3) := by decide +kernel
theorem d_D_hashInBlocks_4 : decode b_D_hashInBlocks 4 = .ok (.iconst 3, 1) := by decide +kernel
theorem d_D_hashInBlocks_5 : decode b_D_hashInBlocks 5 = .ok (.aaload, 1) := by decide +kernel
theorem d_D_hashInBlocks_6 : decode b_D_hashInBlocks 6 = .ok (.astore 4, 2) := by decide +kernel
theorem d_D_hashInBlocks_8 : decode b_D_hashInBlocks 8 = .ok (.aload_n 1, 1) := by decide +kernel
theorem d_D_hashInBlocks_9 : decode b_D_hashInBlocks 9 = .ok (.aload_n 2, 1) := by decide +kernel
theorem d_D_hashInBlocks_10 : decode b_D_hashInBlocks 10 = .ok (.invokevirtual 151, 3) := by decide +kernel
theorem d_D_hashInBlocks_13 : decode b_D_hashInBlocks 13 = .ok (.aload_n 1, 1) := by decide +kernel
theorem d_D_hashInBlocks_14 : decode b_D_hashInBlocks 14 = .ok (.aload 4, 2) := by decide +kernel
theorem d_D_hashInBlocks_16 : decode b_D_hashInBlocks 16 = .ok (.getfield 100, 3) := by decide +kernel
theorem d_D_hashInBlocks_19 : decode b_D_hashInBlocks 19 = .ok (.iconst 0, 1) := by decide +kernel
theorem d_D_hashInBlocks_20 : decode b_D_hashInBlocks 20 = .ok (.aload 4, 2) := by decide +kernel
theorem d_D_hashInBlocks_22 : decode b_D_hashInBlocks 22 = .ok (.getfield 66, 3) := by decide +kernel
theorem d_D_hashInBlocks_25 : decode b_D_hashInBlocks 25 = .ok (.invokevirtual 155, 3) := by decide +kernel
theorem d_D_hashInBlocks_28 : decode b_D_hashInBlocks 28 = .ok (.aload_n 1, 1) := by decide +kernel
theorem d_D_hashInBlocks_29 : decode b_D_hashInBlocks 29 = .ok (.aload_n 0, 1) := by decide +kernel
theorem d_D_hashInBlocks_30 : decode b_D_hashInBlocks 30 = .ok (.getfield 11, 3) := by decide +kernel
theorem d_D_hashInBlocks_33 : decode b_D_hashInBlocks 33 = .ok (.bipush 6, 2) := by decide +kernel
theorem d_D_hashInBlocks_35 : decode b_D_hashInBlocks 35 = .ok (.aaload, 1) := by decide +kernel
theorem d_D_hashInBlocks_36 : decode b_D_hashInBlocks 36 = .ok (.getfield 100, 3) := by decide +kernel
theorem d_D_hashInBlocks_39 : decode b_D_hashInBlocks 39 = .ok (.iconst 0, 1) := by decide +kernel
theorem d_D_hashInBlocks_40 : decode b_D_hashInBlocks 40 = .ok (.iload_n 3, 1) := by decide +kernel
theorem d_D_hashInBlocks_41 : decode b_D_hashInBlocks 41 = .ok (.invokevirtual 159, 3) := by decide +kernel
theorem d_D_hashInBlocks_44 : decode b_D_hashInBlocks 44 = .ok (.aload_n 0, 1) := by decide +kernel
theorem d_D_hashInBlocks_45 : decode b_D_hashInBlocks 45 = .ok (.getfield 11, 3) := by decide +kernel
theorem d_D_hashInBlocks_48 : decode b_D_hashInBlocks 48 = .ok (.bipush 6, 2) := by decide +kernel
theorem d_D_hashInBlocks_50 : decode b_D_hashInBlocks 50 = .ok (.aaload, 1) := by decide +kernel
theorem d_D_hashInBlocks_51 : decode b_D_hashInBlocks 51 = .ok (.iload_n 3, 1) := by decide +kernel
theorem d_D_hashInBlocks_52 : decode b_D_hashInBlocks 52 = .ok (.putfield 66, 3) := by decide +kernel
theorem d_D_hashInBlocks_55 : decode b_D_hashInBlocks 55 = .ok (.return_, 1) := by decide +kernel
theorem d_H_begin_0 : decode b_H_begin 0 = .ok (.aload_n 1, 1) := by decide +kernel
theorem d_H_begin_1 : decode b_H_begin 1 = .ok (.iconst 0, 1) := by decide +kernel
theorem d_H_begin_2 : decode b_H_begin 2 = .ok (.aload_n 0, 1) := by decide +kernel
theorem d_H_begin_3 : decode b_H_begin 3 = .ok (.getfield 41, 3) := by decide +kernel
theorem d_H_begin_6 : decode b_H_begin 6 = .ok (.iconst 0, 1) := by decide +kernel
theorem d_H_begin_7 : decode b_H_begin 7 = .ok (.bipush 8, 2) := by decide +kernel
theorem d_H_begin_9 : decode b_H_begin 9 = .ok (.invokestatic 51, 3) := by decide +kernel
theorem d_H_begin_12 : decode b_H_begin 12 = .ok (.aload_n 0, 1) := by decide +kernel
theorem d_H_begin_13 : decode b_H_begin 13 = .ok (.iconst 0, 1) := by decide +kernel
theorem d_H_begin_14 : decode b_H_begin 14 = .ok (.putfield 57, 3) := by decide +kernel
theorem d_H_begin_17 : decode b_H_begin 17 = .ok (.aload_n 0, 1) := by decide +kernel
theorem d_H_begin_18 : decode b_H_begin 18 = .ok (.lconst 0, 1) := by decide +kernel
theorem d_H_begin_19 : decode b_H_begin 19 = .ok (.putfield 60, 3) := by decide +kernel
theorem d_H_begin_22 : decode b_H_begin 22 = .ok (.return_, 1) := by decide +kernel
theorem d_H_absorb_0 : decode b_H_absorb 0 = .ok (.iconst 0, 1) := by decide +kernel
theorem d_H_absorb_1 : decode b_H_absorb 1 = .ok (.istore 4, 2) := by decide +kernel
theorem d_H_absorb_3 : decode b_H_absorb 3 = .ok (.iload 4, 2) := by decide +kernel
theorem d_H_absorb_5 : decode b_H_absorb 5 = .ok (.iload_n 3, 1) := by decide +kernel
theorem d_H_absorb_6 : decode b_H_absorb 6 = .ok (.if_icmp .ge 54, 3) := by decide +kernel
theorem d_H_absorb_9 : decode b_H_absorb 9 = .ok (.aload_n 0, 1) := by decide +kernel
theorem d_H_absorb_10 : decode b_H_absorb 10 = .ok (.getfield 37, 3) := by decide +kernel
theorem d_H_absorb_13 : decode b_H_absorb 13 = .ok (.aload_n 0, 1) := by decide +kernel
theorem d_H_absorb_14 : decode b_H_absorb 14 = .ok (.getfield 57, 3) := by decide +kernel
theorem d_H_absorb_17 : decode b_H_absorb 17 = .ok (.aload_n 1, 1) := by decide +kernel
theorem d_H_absorb_18 : decode b_H_absorb 18 = .ok (.iload_n 2, 1) := by decide +kernel
theorem d_H_absorb_19 : decode b_H_absorb 19 = .ok (.iload 4, 2) := by decide +kernel
theorem d_H_absorb_21 : decode b_H_absorb 21 = .ok (.iadd, 1) := by decide +kernel
theorem d_H_absorb_22 : decode b_H_absorb 22 = .ok (.baload, 1) := by decide +kernel
theorem d_H_absorb_23 : decode b_H_absorb 23 = .ok (.bastore, 1) := by decide +kernel
theorem d_H_absorb_24 : decode b_H_absorb 24 = .ok (.aload_n 0, 1) := by decide +kernel
theorem d_H_absorb_25 : decode b_H_absorb 25 = .ok (.dup, 1) := by decide +kernel
theorem d_H_absorb_26 : decode b_H_absorb 26 = .ok (.getfield 57, 3) := by decide +kernel
theorem d_H_absorb_29 : decode b_H_absorb 29 = .ok (.iconst 1, 1) := by decide +kernel
theorem d_H_absorb_30 : decode b_H_absorb 30 = .ok (.iadd, 1) := by decide +kernel
theorem d_H_absorb_31 : decode b_H_absorb 31 = .ok (.putfield 57, 3) := by decide +kernel
theorem d_H_absorb_34 : decode b_H_absorb 34 = .ok (.aload_n 0, 1) := by decide +kernel
theorem d_H_absorb_35 : decode b_H_absorb 35 = .ok (.getfield 57, 3) := by decide +kernel
theorem d_H_absorb_38 : decode b_H_absorb 38 = .ok (.aload_n 0, 1) := by decide +kernel
theorem d_H_absorb_39 : decode b_H_absorb 39 = .ok (.getfield 31, 3) := by decide +kernel
theorem d_H_absorb_42 : decode b_H_absorb 42 = .ok (.if_icmp .ne 12, 3) := by decide +kernel
theorem d_H_absorb_45 : decode b_H_absorb 45 = .ok (.aload_n 0, 1) := by decide +kernel
theorem d_H_absorb_46 : decode b_H_absorb 46 = .ok (.invokevirtual 63, 3) := by decide +kernel
theorem d_H_absorb_49 : decode b_H_absorb 49 = .ok (.aload_n 0, 1) := by decide +kernel
theorem d_H_absorb_50 : decode b_H_absorb 50 = .ok (.iconst 0, 1) := by decide +kernel
theorem d_H_absorb_51 : decode b_H_absorb 51 = .ok (.putfield 57, 3) := by decide +kernel
theorem d_H_absorb_54 : decode b_H_absorb 54 = .ok (.iinc 4 1, 3) := by decide +kernel
theorem d_H_absorb_57 : decode b_H_absorb 57 = .ok (.goto (-54), 3) := by decide +kernel
theorem d_H_absorb_60 : decode b_H_absorb 60 = .ok (.aload_n 0, 1) := by decide +kernel
theorem d_H_absorb_61 : decode b_H_absorb 61 = .ok (.dup, 1) := by decide +kernel
theorem d_H_absorb_62 : decode b_H_absorb 62 = .ok (.getfield 60, 3) := by decide +kernel
theorem d_H_absorb_65 : decode b_H_absorb 65 = .ok (.iload_n 3, 1) := by decide +kernel
theorem d_H_absorb_66 : decode b_H_absorb 66 = .ok (.i2l, 1) := by decide +kernel
theorem d_H_absorb_67 : decode b_H_absorb 67 = .ok (.ladd, 1) := by decide +kernel
theorem d_H_absorb_68 : decode b_H_absorb 68 = .ok (.putfield 60, 3) := by decide +kernel
theorem d_H_absorb_71 : decode b_H_absorb 71 = .ok (.return_, 1) := by decide +kernel
theorem d_H_compress_0 : decode b_H_compress 0 = .ok (.aload_n 0, 1) := by decide +kernel
theorem d_H_compress_1 : decode b_H_compress 1 = .ok (.invokevirtual 81, 3) := by decide +kernel
theorem d_H_compress_4 : decode b_H_compress 4 = .ok (.aload_n 0, 1) := by decide +kernel
theorem d_H_compress_5 : decode b_H_compress 5 = .ok (.getfield 41, 3) := by decide +kernel
theorem d_H_compress_8 : decode b_H_compress 8 = .ok (.iconst 0, 1) := by decide +kernel
theorem d_H_compress_9 : decode b_H_compress 9 = .ok (.laload, 1) := by decide +kernel
theorem d_H_compress_10 : decode b_H_compress 10 = .ok (.lstore_n 1, 1) := by decide +kernel
theorem d_H_compress_11 : decode b_H_compress 11 = .ok (.aload_n 0, 1) := by decide +kernel
theorem d_H_compress_12 : decode b_H_compress 12 = .ok (.getfield 41, 3) := by decide +kernel
theorem d_H_compress_15 : decode b_H_compress 15 = .ok (.iconst 1, 1) := by decide +kernel
theorem d_H_compress_16 : decode b_H_compress 16 = .ok (.laload, 1) := by decide +kernel
theorem d_H_compress_17 : decode b_H_compress 17 = .ok (.lstore_n 3, 1) := by decide +kernel
theorem d_H_compress_18 : decode b_H_compress 18 = .ok (.aload_n 0, 1) := by decide +kernel
theorem d_H_compress_19 : decode b_H_compress 19 = .ok (.getfield 41, 3) := by decide +kernel
theorem d_H_compress_22 : decode b_H_compress 22 = .ok (.iconst 2, 1) := by decide +kernel
theorem d_H_compress_23 : decode b_H_compress 23 = .ok (.laload, 1) := by decide +kernel
theorem d_H_compress_24 : decode b_H_compress 24 = .ok (.lstore 5, 2) := by decide +kernel
theorem d_H_compress_26 : decode b_H_compress 26 = .ok (.aload_n 0, 1) := by decide +kernel
theorem d_H_compress_27 : decode b_H_compress 27 = .ok (.getfield 41, 3) := by decide +kernel
theorem d_H_compress_30 : decode b_H_compress 30 = .ok (.iconst 3, 1) := by decide +kernel
theorem d_H_compress_31 : decode b_H_compress 31 = .ok (.laload, 1) := by decide +kernel
theorem d_H_compress_32 : decode b_H_compress 32 = .ok (.lstore 7, 2) := by decide +kernel
theorem d_H_compress_34 : decode b_H_compress 34 = .ok (.aload_n 0, 1) := by decide +kernel
theorem d_H_compress_35 : decode b_H_compress 35 = .ok (.getfield 41, 3) := by decide +kernel
theorem d_H_compress_38 : decode b_H_compress 38 = .ok (.iconst 4, 1) := by decide +kernel
theorem d_H_compress_39 : decode b_H_compress 39 = .ok (.laload, 1) := by decide +kernel
theorem d_H_compress_40 : decode b_H_compress 40 = .ok (.lstore 9, 2) := by decide +kernel
theorem d_H_compress_42 : decode b_H_compress 42 = .ok (.aload_n 0, 1) := by decide +kernel
theorem d_H_compress_43 : decode b_H_compress 43 = .ok (.getfield 41, 3) := by decide +kernel
theorem d_H_compress_46 : decode b_H_compress 46 = .ok (.iconst 5, 1) := by decide +kernel
theorem d_H_compress_47 : decode b_H_compress 47 = .ok (.laload, 1) := by decide +kernel
theorem d_H_compress_48 : decode b_H_compress 48 = .ok (.lstore 11, 2) := by decide +kernel
theorem d_H_compress_50 : decode b_H_compress 50 = .ok (.aload_n 0, 1) := by decide +kernel
theorem d_H_compress_51 : decode b_H_compress 51 = .ok (.getfield 41, 3) := by decide +kernel
theorem d_H_compress_54 : decode b_H_compress 54 = .ok (.bipush 6, 2) := by decide +kernel
theorem d_H_compress_56 : decode b_H_compress 56 = .ok (.laload, 1) := by decide +kernel
theorem d_H_compress_57 : decode b_H_compress 57 = .ok (.lstore 13, 2) := by decide +kernel
theorem d_H_compress_59 : decode b_H_compress 59 = .ok (.aload_n 0, 1) := by decide +kernel
theorem d_H_compress_60 : decode b_H_compress 60 = .ok (.getfield 41, 3) := by decide +kernel
theorem d_H_compress_63 : decode b_H_compress 63 = .ok (.bipush 7, 2) := by decide +kernel
theorem d_H_compress_65 : decode b_H_compress 65 = .ok (.laload, 1) := by decide +kernel
theorem d_H_compress_66 : decode b_H_compress 66 = .ok (.lstore 15, 2) := by decide +kernel
theorem d_H_compress_68 : decode b_H_compress 68 = .ok (.iconst 0, 1) := by decide +kernel
theorem d_H_compress_69 : decode b_H_compress 69 = .ok (.istore 17, 2) := by decide +kernel
theorem d_H_compress_71 : decode b_H_compress 71 = .ok (.iload 17, 2) := by decide +kernel
theorem d_H_compress_73 : decode b_H_compress 73 = .ok (.aload_n 0, 1) := by decide +kernel
theorem d_H_compress_74 : decode b_H_compress 74 = .ok (.getfield 15, 3) := by decide +kernel
theorem d_H_compress_77 : decode b_H_compress 77 = .ok (.if_icmp .ge 130, 3) := by decide +kernel
theorem d_H_compress_80 : decode b_H_compress 80 = .ok (.getstatic 84, 3) := by decide +kernel
theorem d_H_compress_83 : decode b_H_compress 83 = .ok (.iload 17, 2) := by decide +kernel
theorem d_H_compress_85 : decode b_H_compress 85 = .ok (.laload, 1) := by decide +kernel
theorem d_H_compress_86 : decode b_H_compress 86 = .ok (.bipush 64, 2) := by decide +kernel
theorem d_H_compress_88 : decode b_H_compress 88 = .ok (.aload_n 0, 1) := by decide +kernel
theorem d_H_compress_89 : decode b_H_compress 89 = .ok (.getfield 22, 3) := by decide +kernel
theorem d_H_compress_92 : decode b_H_compress 92 = .ok (.isub, 1) := by decide +kernel
theorem d_H_compress_93 : decode b_H_compress 93 = .ok (.lushr, 1) := by decide +kernel
theorem d_H_compress_94 : decode b_H_compress 94 = .ok (.lstore 18, 2) := by decide +kernel
theorem d_H_compress_96 : decode b_H_compress 96 = .ok (.lload 15, 2) := by decide +kernel
theorem d_H_compress_98 : decode b_H_compress 98 = .ok (.aload_n 0, 1) := by decide +kernel
theorem d_H_compress_99 : decode b_H_compress 99 = .ok (.lload 9, 2) := by decide +kernel
theorem d_H_compress_101 : decode b_H_compress 101 = .ok (.iconst 3, 1) := by decide +kernel
theorem d_H_compress_102 : decode b_H_compress 102 = .ok (.invokevirtual 87, 3) := by decide +kernel
theorem d_H_compress_105 : decode b_H_compress 105 = .ok (.ladd, 1) := by decide +kernel
theorem d_H_compress_106 : decode b_H_compress 106 = .ok (.lload 9, 2) := by decide +kernel
theorem d_H_compress_108 : decode b_H_compress 108 = .ok (.lload 11, 2) := by decide +kernel
