theorem d_O_permute_51 : decode b_O_permute 51 = .ok (.goto (-27), 3) := by decide +kernel
theorem d_O_permute_54 : decode b_O_permute 54 = .ok (.iinc 2 1, 3) := by decide +kernel
theorem d_O_permute_57 : decode b_O_permute 57 = .ok (.goto (-47), 3) := by decide +kernel
theorem d_O_permute_60 : decode b_O_permute 60 = .ok (.iconst 0, 1) := by decide +kernel
theorem d_O_permute_61 : decode b_O_permute 61 = .ok (.istore_n 2, 1) := by decide +kernel
theorem d_O_permute_62 : decode b_O_permute 62 = .ok (.iload_n 2, 1) := by decide +kernel
theorem d_O_permute_63 : decode b_O_permute 63 = .ok (.iconst 5, 1) := by decide +kernel
theorem d_O_permute_64 : decode b_O_permute 64 = .ok (.if_icmp .ge 60, 3) := by decide +kernel
theorem d_O_permute_67 : decode b_O_permute 67 = .ok (.iconst 0, 1) := by decide +kernel
theorem d_O_permute_68 : decode b_O_permute 68 = .ok (.istore_n 3, 1) := by decide +kernel
theorem d_O_permute_69 : decode b_O_permute 69 = .ok (.iload_n 3, 1) := by decide +kernel
theorem d_O_permute_70 : decode b_O_permute 70 = .ok (.iconst 5, 1) := by decide +kernel
theorem d_O_permute_71 : decode b_O_permute 71 = .ok (.if_icmp .ge 47, 3) := by decide +kernel
theorem d_O_permute_74 : decode b_O_permute 74 = .ok (.aload_n 0, 1) := by decide +kernel
theorem d_O_permute_75 : decode b_O_permute 75 = .ok (.getfield 47, 3) := by decide +kernel
theorem d_O_permute_78 : decode b_O_permute 78 = .ok (.iload_n 2, 1) := by decide +kernel
theorem d_O_permute_79 : decode b_O_permute 79 = .ok (.iconst 5, 1) := by decide +kernel
theorem d_O_permute_80 : decode b_O_permute 80 = .ok (.iload_n 3, 1) := by decide +kernel
theorem d_O_permute_81 : decode b_O_permute 81 = .ok (.imul, 1) := by decide +kernel
theorem d_O_permute_82 : decode b_O_permute 82 = .ok (.iadd, 1) := by decide +kernel
theorem d_O_permute_83 : decode b_O_permute 83 = .ok (.dup2, 1) := by decide +kernel
theorem d_O_permute_84 : decode b_O_permute 84 = .ok (.laload, 1) := by decide +kernel
theorem d_O_permute_85 : decode b_O_permute 85 = .ok (.aload_n 0, 1) := by decide +kernel
theorem d_O_permute_86 : decode b_O_permute 86 = .ok (.getfield 53, 3) := by decide +kernel
theorem d_O_permute_89 : decode b_O_permute 89 = .ok (.iload_n 2, 1) := by decide +kernel
theorem d_O_permute_90 : decode b_O_permute 90 = .ok (.iconst 4, 1) := by decide +kernel
theorem d_O_permute_91 : decode b_O_permute 91 = .ok (.iadd, 1) := by decide +kernel
theorem d_O_permute_92 : decode b_O_permute 92 = .ok (.iconst 5, 1) := by decide +kernel
theorem d_O_permute_93 : decode b_O_permute 93 = .ok (.irem, 1) := by decide +kernel
theorem d_O_permute_94 : decode b_O_permute 94 = .ok (.laload, 1) := by decide +kernel
theorem d_O_permute_95 : decode b_O_permute 95 = .ok (.aload_n 0, 1) := by decide +kernel
theorem d_O_permute_96 : decode b_O_permute 96 = .ok (.getfield 53, 3) := by decide +kernel
theorem d_O_permute_99 : decode b_O_permute 99 = .ok (.iload_n 2, 1) := by decide +kernel
theorem d_O_permute_100 : decode b_O_permute 100 = .ok (.iconst 1, 1) := by decide +kernel
theorem d_O_permute_101 : decode b_O_permute 101 = .ok (.iadd, 1) := by decide +kernel
theorem d_O_permute_102 : decode b_O_permute 102 = .ok (.iconst 5, 1) := by decide +kernel
theorem d_O_permute_103 : decode b_O_permute 103 = .ok (.irem, 1) := by decide +kernel
theorem d_O_permute_104 : decode b_O_permute 104 = .ok (.laload, 1) := by decide +kernel
theorem d_O_permute_105 : decode b_O_permute 105 = .ok (.iconst 1, 1) := by decide +kernel
theorem d_O_permute_106 : decode b_O_permute 106 = .ok (.invokestatic 163, 3) := by decide +kernel
theorem d_O_permute_109 : decode b_O_permute 109 = .ok (.lxor, 1) := by decide +kernel
theorem d_O_permute_110 : decode b_O_permute 110 = .ok (.lxor, 1) := by decide +kernel
theorem d_O_permute_111 : decode b_O_permute 111 = .ok (.lastore, 1) := by decide +kernel
theorem d_O_permute_112 : decode b_O_permute 112 = .ok (.iinc 3 1, 3) := by decide +kernel
theorem d_O_permute_115 : decode b_O_permute 115 = .ok (.goto (-46), 3) := by decide +kernel
theorem d_O_permute_118 : decode b_O_permute 118 = .ok (.iinc 2 1, 3) := by decide +kernel
theorem d_O_permute_121 : decode b_O_permute 121 = .ok (.goto (-59), 3) := by decide +kernel
theorem d_O_permute_124 : decode b_O_permute 124 = .ok (.iconst 0, 1) := by decide +kernel
theorem d_O_permute_125 : decode b_O_permute 125 = .ok (.istore_n 2, 1) := by decide +kernel
theorem d_O_permute_126 : decode b_O_permute 126 = .ok (.iload_n 2, 1) := by decide +kernel
theorem d_O_permute_127 : decode b_O_permute 127 = .ok (.iconst 5, 1) := by decide +kernel
theorem d_O_permute_128 : decode b_O_permute 128 = .ok (.if_icmp .ge 63, 3) := by decide +kernel
theorem d_O_permute_131 : decode b_O_permute 131 = .ok (.iconst 0, 1) := by decide +kernel
theorem d_O_permute_132 : decode b_O_permute 132 = .ok (.istore_n 3, 1) := by decide +kernel
theorem d_O_permute_133 : decode b_O_permute 133 = .ok (.iload_n 3, 1) := by decide +kernel
theorem d_O_permute_134 : decode b_O_permute 134 = .ok (.iconst 5, 1) := by decide +kernel
theorem d_O_permute_135 : decode b_O_permute 135 = .ok (.if_icmp .ge 50, 3) := by decide +kernel
theorem d_O_permute_138 : decode b_O_permute 138 = .ok (.aload_n 0, 1) := by decide +kernel
theorem d_O_permute_139 : decode b_O_permute 139 = .ok (.getfield 50, 3) := by decide +kernel
theorem d_O_permute_142 : decode b_O_permute 142 = .ok (.iload_n 3, 1) := by decide +kernel
theorem d_O_permute_143 : decode b_O_permute 143 = .ok (.iconst 5, 1) := by decide +kernel
theorem d_O_permute_144 : decode b_O_permute 144 = .ok (.iconst 2, 1) := by decide +kernel
theorem d_O_permute_145 : decode b_O_permute 145 = .ok (.iload_n 2, 1) := by decide +kernel
theorem d_O_permute_146 : decode b_O_permute 146 = .ok (.imul, 1) := by decide +kernel
theorem d_O_permute_147 : decode b_O_permute 147 = .ok (.iconst 3, 1) := by decide +kernel
theorem d_O_permute_148 : decode b_O_permute 148 = .ok (.iload_n 3, 1) := by decide +kernel
theorem d_O_permute_149 : decode b_O_permute 149 = .ok (.imul, 1) := by decide +kernel
theorem d_O_permute_150 : decode b_O_permute 150 = .ok (.iadd, 1) := by decide +kernel
theorem d_O_permute_151 : decode b_O_permute 151 = .ok (.iconst 5, 1) := by decide +kernel
theorem d_O_permute_152 : decode b_O_permute 152 = .ok (.irem, 1) := by decide +kernel
theorem d_O_permute_153 : decode b_O_permute 153 = .ok (.imul, 1) := by decide +kernel
theorem d_O_permute_154 : decode b_O_permute 154 = .ok (.iadd, 1) := by decide +kernel
theorem d_O_permute_155 : decode b_O_permute 155 = .ok (.aload_n 0, 1) := by decide +kernel
theorem d_O_permute_156 : decode b_O_permute 156 = .ok (.getfield 47, 3) := by decide +kernel
theorem d_O_permute_159 : decode b_O_permute 159 = .ok (.iload_n 2, 1) := by decide +kernel
theorem d_O_permute_160 : decode b_O_permute 160 = .ok (.iconst 5, 1) := by decide +kernel
theorem d_O_permute_161 : decode b_O_permute 161 = .ok (.iload_n 3, 1) := by decide +kernel
theorem d_O_permute_162 : decode b_O_permute 162 = .ok (.imul, 1) := by decide +kernel
theorem d_O_permute_163 : decode b_O_permute 163 = .ok (.iadd, 1) := by decide +kernel
theorem d_O_permute_164 : decode b_O_permute 164 = .ok (.laload, 1) := by decide +kernel
theorem d_O_permute_165 : decode b_O_permute 165 = .ok (.aload_n 0, 1) := by decide +kernel
theorem d_O_permute_166 : decode b_O_permute 166 = .ok (.getfield 41, 3) := by decide +kernel
theorem d_O_permute_169 : decode b_O_permute 169 = .ok (.iload_n 2, 1) := by decide +kernel
theorem d_O_permute_170 : decode b_O_permute 170 = .ok (.iconst 5, 1) := by decide +kernel
theorem d_O_permute_171 : decode b_O_permute 171 = .ok (.iload_n 3, 1) := by decide +kernel
theorem d_O_permute_172 : decode b_O_permute 172 = .ok (.imul, 1) := by decide +kernel
theorem d_O_permute_173 : decode b_O_permute 173 = .ok (.iadd, 1) := by decide +kernel
theorem d_O_permute_174 : decode b_O_permute 174 = .ok (.iaload, 1) := by decide +kernel
theorem d_O_permute_175 : decode b_O_permute 175 = .ok (.invokestatic 163, 3) := by decide +kernel
theorem d_O_permute_178 : decode b_O_permute 178 = .ok (.lastore, 1) := by decide +kernel
theorem d_O_permute_179 : decode b_O_permute 179 = .ok (.iinc 3 1, 3) := by decide +kernel
theorem d_O_permute_182 : decode b_O_permute 182 = .ok (.goto (-49), 3) := by decide +kernel
theorem d_O_permute_185 : decode b_O_permute 185 = .ok (.iinc 2 1, 3) := by decide +kernel
theorem d_O_permute_188 : decode b_O_permute 188 = .ok (.goto (-62), 3) := by decide +kernel
theorem d_O_permute_191 : decode b_O_permute 191 = .ok (.iconst 0, 1) := by decide +kernel
theorem d_O_permute_192 : decode b_O_permute 192 = .ok (.istore_n 2, 1) := by decide +kernel
theorem d_O_permute_193 : decode b_O_permute 193 = .ok (.iload_n 2, 1) := by decide +kernel
theorem d_O_permute_194 : decode b_O_permute 194 = .ok (.iconst 5, 1) := by decide +kernel
theorem d_O_permute_195 : decode b_O_permute 195 = .ok (.if_icmp .ge 76, 3) := by decide +kernel
theorem d_O_permute_198 : decode b_O_permute 198 = .ok (.iconst 0, 1) := by decide +kernel
theorem d_O_permute_199 : decode b_O_permute 199 = .ok (.istore_n 3, 1) := by decide +kernel
theorem d_O_permute_200 : decode b_O_permute 200 = .ok (.iload_n 3, 1) := by decide +kernel
theorem d_O_permute_201 : decode b_O_permute 201 = .ok (.iconst 5, 1) := by decide +kernel
theorem d_O_permute_202 : decode b_O_permute 202 = .ok (.if_icmp .ge 63, 3) := by decide +kernel
theorem d_O_permute_205 : decode b_O_permute 205 = .ok (.aload_n 0, 1) := by decide +kernel
theorem d_O_permute_206 : decode b_O_permute 206 = .ok (.getfield 47, 3) := by decide +kernel
theorem d_O_permute_209 : decode b_O_permute 209 = .ok (.iload_n 2, 1) := by decide +kernel
theorem d_O_permute_210 : decode b_O_permute 210 = .ok (.iconst 5, 1) := by decide +kernel
theorem d_O_permute_211 : decode b_O_permute 211 = .ok (.iload_n 3, 1) := by decide +kernel
theorem d_O_permute_212 : decode b_O_permute 212 = .ok (.imul, 1) := by decide +kernel
theorem d_O_permute_213 : decode b_O_permute 213 = .ok (.iadd, 1) := by decide +kernel
theorem d_O_permute_214 : decode b_O_permute 214 = .ok (.aload_n 0, 1) := by decide +kernel
theorem d_O_permute_215 : decode b_O_permute 215 = .ok (.getfield 50, 3) := by decide +kernel
theorem d_O_permute_218 : decode b_O_permute 218 = .ok (.iload_n 2, 1) := by decide +kernel
theorem d_O_permute_219 : decode b_O_permute 219 = .ok (.iconst 5, 1) := by decide +kernel
theorem d_O_permute_220 : decode b_O_permute 220 = .ok (.iload_n 3, 1) := by decide +kernel
theorem d_O_permute_221 : decode b_O_permute 221 = .ok (.imul, 1) := by decide +kernel
theorem d_O_permute_222 : decode b_O_permute 222 = .ok (.iadd, 1) := by decide +kernel
theorem d_O_permute_223 : decode b_O_permute 223 = .ok (.laload, 1) := by decide +kernel
theorem d_O_permute_224 : decode b_O_permute 224 = .ok (.aload_n 0, 1) := by decide +kernel
theorem d_O_permute_225 : decode b_O_permute 225 = .ok (.getfield 50, 3) := by decide +kernel
theorem d_O_permute_228 : decode b_O_permute 228 = .ok (.iload_n 2, 1) := by decide +kernel
theorem d_O_permute_229 : decode b_O_permute 229 = .ok (.iconst 1, 1) := by decide +kernel
theorem d_O_permute_230 : decode b_O_permute 230 = .ok (.iadd, 1) := by decide +kernel
theorem d_O_permute_231 : decode b_O_permute 231 = .ok (.iconst 5, 1) := by decide +kernel
theorem d_O_permute_232 : decode b_O_permute 232 = .ok (.irem, 1) := by decide +kernel
theorem d_O_permute_233 : decode b_O_permute 233 = .ok (.iconst 5, 1) := by decide +kernel
theorem d_O_permute_234 : decode b_O_permute 234 = .ok (.iload_n 3, 1) := by decide +kernel
theorem d_O_permute_235 : decode b_O_permute 235 = .ok (.imul, 1) := by decide +kernel
theorem d_O_permute_236 : decode b_O_permute 236 = .ok (.iadd, 1) := by decide +kernel
theorem d_O_permute_237 : decode b_O_permute 237 = .ok (.laload, 1) := by decide +kernel
theorem d_O_permute_238 : decode b_O_permute 238 = .ok (.ldc2_w 167, 3) := by decide +kernel
theorem d_O_permute_241 : decode b_O_permute 241 = .ok (.lxor, 1) := by decide +kernel
theorem d_O_permute_242 : decode b_O_permute 242 = .ok (.aload_n 0, 1) := by decide +kernel
theorem d_O_permute_243 : decode b_O_permute 243 = .ok (.getfield 50, 3) := by decide +kernel
theorem d_O_permute_246 : decode b_O_permute 246 = .ok (.iload_n 2, 1) := by decide +kernel
theorem d_O_permute_247 : decode b_O_permute 247 = .ok (.iconst 2, 1) := by decide +kernel
theorem d_O_permute_248 : decode b_O_permute 248 = .ok (.iadd, 1) := by decide +kernel
theorem d_O_permute_249 : decode b_O_permute 249 = .ok (.iconst 5, 1) := by decide +kernel
theorem d_O_permute_250 : decode b_O_permute 250 = .ok (.irem, 1) := by decide +kernel
theorem d_O_permute_251 : decode b_O_permute 251 = .ok (.iconst 5, 1) := by decide +kernel
theorem d_O_permute_252 : decode b_O_permute 252 = .ok (.iload_n 3, 1) := by decide +kernel
theorem d_O_permute_253 : decode b_O_permute 253 = .ok (.imul, 1) := by decide +kernel
theorem d_O_permute_254 : decode b_O_permute 254 = .ok (.iadd, 1) := by decide +kernel
theorem d_O_permute_255 : decode b_O_permute 255 = .ok (.laload, 1) := by decide +kernel
theorem d_O_permute_256 : decode b_O_permute 256 = .ok (.land, 1) := by decide +kernel
theorem d_O_permute_257 : decode b_O_permute 257 = .ok (.lxor, 1) := by decide +kernel
theorem d_O_permute_258 : decode b_O_permute 258 = .ok (.lastore, 1) := by decide +kernel
theorem d_O_permute_259 : decode b_O_permute 259 = .ok (.iinc 3 1, 3) := by decide +kernel
theorem d_O_permute_262 : decode b_O_permute 262 = .ok (.goto (-62), 3) := by decide +kernel
theorem d_O_permute_265 : decode b_O_permute 265 = .ok (.iinc 2 1, 3) := by decide +kernel
theorem d_O_permute_268 : decode b_O_permute 268 = .ok (.goto (-75), 3) := by decide +kernel
theorem d_O_permute_271 : decode b_O_permute 271 = .ok (.aload_n 0, 1) := by decide +kernel
theorem d_O_permute_272 : decode b_O_permute 272 = .ok (.getfield 47, 3) := by decide +kernel
theorem d_O_permute_275 : decode b_O_permute 275 = .ok (.iconst 0, 1) := by decide +kernel
theorem d_O_permute_276 : decode b_O_permute 276 = .ok (.dup2, 1) := by decide +kernel
theorem d_O_permute_277 : decode b_O_permute 277 = .ok (.laload, 1) := by decide +kernel
theorem d_O_permute_278 : decode b_O_permute 278 = .ok (.aload_n 0, 1) := by decide +kernel
theorem d_O_permute_279 : decode b_O_permute 279 = .ok (.getfield 44, 3) := by decide +kernel
theorem d_O_permute_282 : decode b_O_permute 282 = .ok (.iload_n 1, 1) := by decide +kernel
theorem d_O_permute_283 : decode b_O_permute 283 = .ok (.laload, 1) := by decide +kernel
theorem d_O_permute_284 : decode b_O_permute 284 = .ok (.lxor, 1) := by decide +kernel
theorem d_O_permute_285 : decode b_O_permute 285 = .ok (.lastore, 1) := by decide +kernel
theorem d_O_permute_286 : decode b_O_permute 286 = .ok (.iinc 1 1, 3) := by decide +kernel
theorem d_O_permute_289 : decode b_O_permute 289 = .ok (.goto (-287), 3) := by decide +kernel
theorem d_O_permute_292 : decode b_O_permute 292 = .ok (.return_, 1) := by decide +kernel
theorem d_O_left_0 : decode b_O_left 0 = .ok (.iload_n 2, 1) := by decide +kernel
theorem d_O_left_1 : decode b_O_left 1 = .ok (.ifCond .ne 7, 3) := by decide +kernel
theorem d_O_left_4 : decode b_O_left 4 = .ok (.lload_n 0, 1) := by decide +kernel
theorem d_O_left_5 : decode b_O_left 5 = .ok (.goto 13, 3) := by decide +kernel
theorem d_O_left_8 : decode b_O_left 8 = .ok (.lload_n 0, 1) := by decide +kernel
theorem d_O_left_9 : decode b_O_left 9 = .ok (.iload_n 2, 1) := by decide +kernel
theorem d_O_left_10 : decode b_O_left 10 = .ok (.lshl, 1) := by decide +kernel
theorem d_O_left_11 : decode b_O_left 11 = .ok (.lload_n 0, 1) := by decide +kernel
theorem d_O_left_12 : decode b_O_left 12 = .ok (.bipush 64, 2) := by decide +kernel
theorem d_O_left_14 : decode b_O_left 14 = .ok (.iload_n 2, 1) := by decide +kernel
theorem d_O_left_15 : decode b_O_left 15 = .ok (.isub, 1) := by decide +kernel
theorem d_O_left_16 : decode b_O_left 16 = .ok (.lushr, 1) := by decide +kernel
theorem d_O_left_17 : decode b_O_left 17 = .ok (.lor, 1) := by decide +kernel
theorem d_O_left_18 : decode b_O_left 18 = .ok (.lreturn, 1) := by decide +kernel
theorem d_O_compress32_0 : decode b_O_compress32 0 = .ok (.iconst 0, 1) := by decide +kernel
theorem d_O_compress32_1 : decode b_O_compress32 1 = .ok (.istore_n 1, 1) := by decide +kernel
theorem d_O_compress32_2 : decode b_O_compress32 2 = .ok (.iload_n 1, 1) := by decide +kernel
theorem d_O_compress32_3 : decode b_O_compress32 3 = .ok (.bipush 16, 2) := by decide +kernel
theorem d_O_compress32_5 : decode b_O_compress32 5 = .ok (.if_icmp .ge 52, 3) := by decide +kernel
theorem d_O_compress32_8 : decode b_O_compress32 8 = .ok (.iconst 0, 1) := by decide +kernel
theorem d_O_compress32_9 : decode b_O_compress32 9 = .ok (.istore_n 2, 1) := by decide +kernel
theorem d_O_compress32_10 : decode b_O_compress32 10 = .ok (.iconst 0, 1) := by decide +kernel
theorem d_O_compress32_11 : decode b_O_compress32 11 = .ok (.istore_n 3, 1) := by decide +kernel
theorem d_O_compress32_12 : decode b_O_compress32 12 = .ok (.iload_n 3, 1) := by decide +kernel
theorem d_O_compress32_13 : decode b_O_compress32 13 = .ok (.iconst 4, 1) := by decide +kernel
theorem d_O_compress32_14 : decode b_O_compress32 14 = .ok (.if_icmp .ge 29, 3) := by decide +kernel
theorem d_O_compress32_17 : decode b_O_compress32 17 = .ok (.iload_n 2, 1) := by decide +kernel
theorem d_O_compress32_18 : decode b_O_compress32 18 = .ok (.bipush 8, 2) := by decide +kernel
theorem d_O_compress32_20 : decode b_O_compress32 20 = .ok (.ishl, 1) := by decide +kernel
theorem d_O_compress32_21 : decode b_O_compress32 21 = .ok (.aload_n 0, 1) := by decide +kernel
theorem d_O_compress32_22 : decode b_O_compress32 22 = .ok (.getfield 59, 3) := by decide +kernel
theorem d_O_compress32_25 : decode b_O_compress32 25 = .ok (.iconst 4, 1) := by decide +kernel
theorem d_O_compress32_26 : decode b_O_compress32 26 = .ok (.iload_n 1, 1) := by decide +kernel
theorem d_O_compress32_27 : decode b_O_compress32 27 = .ok (.imul, 1) := by decide +kernel
theorem d_O_compress32_28 : decode b_O_compress32 28 = .ok (.iload_n 3, 1) := by decide +kernel
theorem d_O_compress32_29 : decode b_O_compress32 29 = .ok (.iadd, 1) := by decide +kernel
theorem d_O_compress32_30 : decode b_O_compress32 30 = .ok (.baload, 1) := by decide +kernel
theorem d_O_compress32_31 : decode b_O_compress32 31 = .ok (.sipush 255, 3) := by decide +kernel
theorem d_O_compress32_34 : decode b_O_compress32 34 = .ok (.iand, 1) := by decide +kernel
theorem d_O_compress32_35 : decode b_O_compress32 35 = .ok (.ior, 1) := by decide +kernel
theorem d_O_compress32_36 : decode b_O_compress32 36 = .ok (.istore_n 2, 1) := by decide +kernel
theorem d_O_compress32_37 : decode b_O_compress32 37 = .ok (.iinc 3 1, 3) := by decide +kernel
theorem d_O_compress32_40 : decode b_O_compress32 40 = .ok (.goto (-28), 3) := by decide +kernel
theorem d_O_compress32_43 : decode b_O_compress32 43 = .ok (.aload_n 0, 1) := by decide +kernel
theorem d_O_compress32_44 : decode b_O_compress32 44 = .ok (.getfield 56, 3) := by decide +kernel
theorem d_O_compress32_47 : decode b_O_compress32 47 = .ok (.iload_n 1, 1) := by decide +kernel
theorem d_O_compress32_48 : decode b_O_compress32 48 = .ok (.iload_n 2, 1) := by decide +kernel
theorem d_O_compress32_49 : decode b_O_compress32 49 = .ok (.i2l, 1) := by decide +kernel
theorem d_O_compress32_50 : decode b_O_compress32 50 = .ok (.lastore, 1) := by decide +kernel
theorem d_O_compress32_51 : decode b_O_compress32 51 = .ok (.iinc 1 1, 3) := by decide +kernel
theorem d_O_compress32_54 : decode b_O_compress32 54 = .ok (.goto (-52), 3) := by decide +kernel
theorem d_O_compress32_57 : decode b_O_compress32 57 = .ok (.bipush 16, 2) := by decide +kernel
theorem d_O_compress32_59 : decode b_O_compress32 59 = .ok (.istore_n 1, 1) := by decide +kernel
theorem d_O_compress32_60 : decode b_O_compress32 60 = .ok (.iload_n 1, 1) := by decide +kernel
theorem d_O_compress32_61 : decode b_O_compress32 61 = .ok (.bipush 64, 2) := by decide +kernel
theorem d_O_compress32_63 : decode b_O_compress32 63 = .ok (.if_icmp .ge 95, 3) := by decide +kernel
theorem d_O_compress32_66 : decode b_O_compress32 66 = .ok (.aload_n 0, 1) := by decide +kernel
theorem d_O_compress32_67 : decode b_O_compress32 67 = .ok (.getfield 56, 3) := by decide +kernel
theorem d_O_compress32_70 : decode b_O_compress32 70 = .ok (.iload_n 1, 1) := by decide +kernel
theorem d_O_compress32_71 : decode b_O_compress32 71 = .ok (.iconst 2, 1) := by decide +kernel
theorem d_O_compress32_72 : decode b_O_compress32 72 = .ok (.isub, 1) := by decide +kernel
theorem d_O_compress32_73 : decode b_O_compress32 73 = .ok (.laload, 1) := by decide +kernel
theorem d_O_compress32_74 : decode b_O_compress32 74 = .ok (.l2i, 1) := by decide +kernel
theorem d_O_compress32_75 : decode b_O_compress32 75 = .ok (.istore_n 2, 1) := by decide +kernel
theorem d_O_compress32_76 : decode b_O_compress32 76 = .ok (.aload_n 0, 1) := by decide +kernel
theorem d_O_compress32_77 : decode b_O_compress32 77 = .ok (.getfield 56, 3) := by decide +kernel
theorem d_O_compress32_80 : decode b_O_compress32 80 = .ok (.iload_n 1, 1) := by decide +kernel
theorem d_O_compress32_81 : decode b_O_compress32 81 = .ok (.bipush 15, 2) := by decide +kernel
theorem d_O_compress32_83 : decode b_O_compress32 83 = .ok (.isub, 1) := by decide +kernel
theorem d_O_compress32_84 : decode b_O_compress32 84 = .ok (.laload, 1) := by decide +kernel
theorem d_O_compress32_85 : decode b_O_compress32 85 = .ok (.l2i, 1) := by decide +kernel
theorem d_O_compress32_86 : decode b_O_compress32 86 = .ok (.istore_n 3, 1) := by decide +kernel
theorem d_O_compress32_87 : decode b_O_compress32 87 = .ok (.aload_n 0, 1) := by decide +kernel
theorem d_O_compress32_88 : decode b_O_compress32 88 = .ok (.getfield 56, 3) := by decide +kernel
theorem d_O_compress32_91 : decode b_O_compress32 91 = .ok (.iload_n 1, 1) := by decide +kernel
theorem d_O_compress32_92 : decode b_O_compress32 92 = .ok (.iload_n 2, 1) := by decide +kernel
theorem d_O_compress32_93 : decode b_O_compress32 93 = .ok (.bipush 17, 2) := by decide +kernel
theorem d_O_compress32_95 : decode b_O_compress32 95 = .ok (.invokestatic 172, 3) := by decide +kernel
theorem d_O_compress32_98 : decode b_O_compress32 98 = .ok (.iload_n 2, 1) := by decide +kernel
theorem d_O_compress32_99 : decode b_O_compress32 99 = .ok (.bipush 19, 2) := by decide +kernel
theorem d_O_compress32_101 : decode b_O_compress32 101 = .ok (.invokestatic 172, 3) := by decide +kernel
theorem d_O_compress32_104 : decode b_O_compress32 104 = .ok (.ixor, 1) := by decide +kernel
theorem d_O_compress32_105 : decode b_O_compress32 105 = .ok (.iload_n 2, 1) := by decide +kernel
theorem d_O_compress32_106 : decode b_O_compress32 106 = .ok (.bipush 10, 2) := by decide +kernel
theorem d_O_compress32_108 : decode b_O_compress32 108 = .ok (.iushr, 1) := by decide +kernel
theorem d_O_compress32_109 : decode b_O_compress32 109 = .ok (.ixor, 1) := by decide +kernel
theorem d_O_compress32_110 : decode b_O_compress32 110 = .ok (.aload_n 0, 1) := by decide +kernel
theorem d_O_compress32_111 : decode b_O_compress32 111 = .ok (.getfield 56, 3) := by decide +kernel
theorem d_O_compress32_114 : decode b_O_compress32 114 = .ok (.iload_n 1, 1) := by decide +kernel
theorem d_O_compress32_115 : decode b_O_compress32 115 = .ok (.bipush 7, 2) := by decide +kernel
theorem d_O_compress32_117 : decode b_O_compress32 117 = .ok (.isub, 1) := by decide +kernel
theorem d_O_compress32_118 : decode b_O_compress32 118 = .ok (.laload, 1) := by decide +kernel
theorem d_O_compress32_119 : decode b_O_compress32 119 = .ok (.l2i, 1) := by decide +kernel
theorem d_O_compress32_120 : decode b_O_compress32 120 = .ok (.iadd, 1) := by decide +kernel
theorem d_O_compress32_121 : decode b_O_compress32 121 = .ok (.iload_n 3, 1) := by decide +kernel
theorem d_O_compress32_122 : decode b_O_compress32 122 = .ok (.bipush 7, 2) := by decide +kernel
theorem d_O_compress32_124 : decode b_O_compress32 124 = .ok (.invokestatic 172, 3) := by decide +kernel
theorem d_O_compress32_127 : decode b_O_compress32 127 = .ok (.iload_n 3, 1) := by decide +kernel
theorem d_O_compress32_128 : decode b_O_compress32 128 = .ok (.bipush 18, 2) := by decide +kernel
theorem d_O_compress32_130 : decode b_O_compress32 130 = .ok (.invokestatic 172, 3) := by decide +kernel
theorem d_O_compress32_133 : decode b_O_compress32 133 = .ok (.ixor, 1) := by decide +kernel
theorem d_O_compress32_134 : decode b_O_compress32 134 = .ok (.iload_n 3, 1) := by decide +kernel
theorem d_O_compress32_135 : decode b_O_compress32 135 = .ok (.iconst 3, 1) := by decide +kernel
theorem d_O_compress32_136 : decode b_O_compress32 136 = .ok (.iushr, 1) := by decide +kernel
theorem d_O_compress32_137 : decode b_O_compress32 137 = .ok (.ixor, 1) := by decide +kernel
theorem d_O_compress32_138 : decode b_O_compress32 138 = .ok (.iadd, 1) := by decide +kernel
theorem d_O_compress32_139 : decode b_O_compress32 139 = .ok (.aload_n 0, 1) := by decide +kernel
theorem d_O_compress32_140 : decode b_O_compress32 140 = .ok (.getfield 56, 3) := by decide +kernel
theorem d_O_compress32_143 : decode b_O_compress32 143 = .ok (.iload_n 1, 1) := by decide +kernel
theorem d_O_compress32_144 : decode b_O_compress32 144 = .ok (.bipush 16, 2) := by decide +kernel
theorem d_O_compress32_146 : decode b_O_compress32 146 = .ok (.isub, 1) := by decide +kernel
theorem d_O_compress32_147 : decode b_O_compress32 147 = .ok (.laload, 1) := by decide +kernel
theorem d_O_compress32_148 : decode b_O_compress32 148 = .ok (.l2i, 1) := by decide +kernel
theorem d_O_compress32_149 : decode b_O_compress32 149 = .ok (.iadd, 1) := by decide +kernel
theorem d_O_compress32_150 : decode b_O_compress32 150 = .ok (.i2l, 1) := by decide +kernel
theorem d_O_compress32_151 : decode b_O_compress32 151 = .ok (.lastore, 1) := by decide +kernel
theorem d_O_compress32_152 : decode b_O_compress32 152 = .ok (.iinc 1 1, 3) := by decide +kernel
theorem d_O_compress32_155 : decode b_O_compress32 155 = .ok (.goto (-95), 3) := by decide +kernel
theorem d_O_compress32_158 : decode b_O_compress32 158 = .ok (.aload_n 0, 1) := by decide +kernel
theorem d_O_compress32_159 : decode b_O_compress32 159 = .ok (.getfield 47, 3) := by decide +kernel
theorem d_O_compress32_162 : decode b_O_compress32 162 = .ok (.iconst 0, 1) := by decide +kernel
theorem d_O_compress32_163 : decode b_O_compress32 163 = .ok (.laload, 1) := by decide +kernel
theorem d_O_compress32_164 : decode b_O_compress32 164 = .ok (.l2i, 1) := by decide +kernel
theorem d_O_compress32_165 : decode b_O_compress32 165 = .ok (.istore_n 1, 1) := by decide +kernel
theorem d_O_compress32_166 : decode b_O_compress32 166 = .ok (.aload_n 0, 1) := by decide +kernel
theorem d_O_compress32_167 : decode b_O_compress32 167 = .ok (.getfield 47, 3) := by decide +kernel
theorem d_O_compress32_170 : decode b_O_compress32 170 = .ok (.iconst 1, 1) := by decide +kernel
theorem d_O_compress32_171 : decode b_O_compress32 171 = .ok (.laload, 1) := by decide +kernel
theorem d_O_compress32_172 : decode b_O_compress32 172 = .ok (.l2i, 1) := by decide +kernel
theorem d_O_compress32_173 : decode b_O_compress32 173 = .ok (.istore_n 2, 1) := by decide +kernel
theorem d_O_compress32_174 : decode b_O_compress32 174 = .ok (.aload_n 0, 1) := by decide +kernel
theorem d_O_compress32_175 : decode b_O_compress32 175 = .ok (.getfield 47, 3) := by decide +kernel
theorem d_O_compress32_178 : decode b_O_compress32 178 = .ok (.iconst 2, 1) := by decide +kernel
theorem d_O_compress32_179 : decode b_O_compress32 179 = .ok (.laload, 1) := by decide +kernel
