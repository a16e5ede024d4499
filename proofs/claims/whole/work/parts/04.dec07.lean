theorem d_O_constants_146 : decode b_O_constants 146 = .ok (.iadd, 1) := by decide +kernel
theorem d_O_constants_147 : decode b_O_constants 147 = .ok (.invokestatic 106, 3) := by decide +kernel
theorem d_O_constants_150 : decode b_O_constants 150 = .ok (.iconst 1, 1) := by decide +kernel
theorem d_O_constants_151 : decode b_O_constants 151 = .ok (.if_icmp .ne 21, 3) := by decide +kernel
theorem d_O_constants_154 : decode b_O_constants 154 = .ok (.aload_n 0, 1) := by decide +kernel
theorem d_O_constants_155 : decode b_O_constants 155 = .ok (.getfield 44, 3) := by decide +kernel
theorem d_O_constants_158 : decode b_O_constants 158 = .ok (.iload 4, 2) := by decide +kernel
theorem d_O_constants_160 : decode b_O_constants 160 = .ok (.dup2, 1) := by decide +kernel
theorem d_O_constants_161 : decode b_O_constants 161 = .ok (.laload, 1) := by decide +kernel
theorem d_O_constants_162 : decode b_O_constants 162 = .ok (.lconst 1, 1) := by decide +kernel
theorem d_O_constants_163 : decode b_O_constants 163 = .ok (.iconst 1, 1) := by decide +kernel
theorem d_O_constants_164 : decode b_O_constants 164 = .ok (.iload 5, 2) := by decide +kernel
theorem d_O_constants_166 : decode b_O_constants 166 = .ok (.ishl, 1) := by decide +kernel
theorem d_O_constants_167 : decode b_O_constants 167 = .ok (.iconst 1, 1) := by decide +kernel
theorem d_O_constants_168 : decode b_O_constants 168 = .ok (.isub, 1) := by decide +kernel
theorem d_O_constants_169 : decode b_O_constants 169 = .ok (.lshl, 1) := by decide +kernel
theorem d_O_constants_170 : decode b_O_constants 170 = .ok (.lor, 1) := by decide +kernel
theorem d_O_constants_171 : decode b_O_constants 171 = .ok (.lastore, 1) := by decide +kernel
theorem d_O_constants_172 : decode b_O_constants 172 = .ok (.iinc 5 1, 3) := by decide +kernel
theorem d_O_constants_175 : decode b_O_constants 175 = .ok (.goto (-43), 3) := by decide +kernel
theorem d_O_constants_178 : decode b_O_constants 178 = .ok (.iinc 4 1, 3) := by decide +kernel
theorem d_O_constants_181 : decode b_O_constants 181 = .ok (.goto (-59), 3) := by decide +kernel
theorem d_O_constants_184 : decode b_O_constants 184 = .ok (.aload_n 0, 1) := by decide +kernel
theorem d_O_constants_185 : decode b_O_constants 185 = .ok (.aload_n 0, 1) := by decide +kernel
theorem d_O_constants_186 : decode b_O_constants 186 = .ok (.getfield 29, 3) := by decide +kernel
theorem d_O_constants_189 : decode b_O_constants 189 = .ok (.bipush 50, 2) := by decide +kernel
theorem d_O_constants_191 : decode b_O_constants 191 = .ok (.bipush 52, 2) := by decide +kernel
theorem d_O_constants_193 : decode b_O_constants 193 = .ok (.invokevirtual 110, 3) := by decide +kernel
theorem d_O_constants_196 : decode b_O_constants 196 = .ok (.aload_n 0, 1) := by decide +kernel
theorem d_O_constants_197 : decode b_O_constants 197 = .ok (.aload_n 0, 1) := by decide +kernel
theorem d_O_constants_198 : decode b_O_constants 198 = .ok (.getfield 32, 3) := by decide +kernel
theorem d_O_constants_201 : decode b_O_constants 201 = .ok (.bipush 53, 2) := by decide +kernel
theorem d_O_constants_203 : decode b_O_constants 203 = .ok (.bipush 54, 2) := by decide +kernel
theorem d_O_constants_205 : decode b_O_constants 205 = .ok (.invokevirtual 110, 3) := by decide +kernel
theorem d_O_constants_208 : decode b_O_constants 208 = .ok (.return_, 1) := by decide +kernel
theorem d_O_prime_0 : decode b_O_prime 0 = .ok (.iconst 2, 1) := by decide +kernel
theorem d_O_prime_1 : decode b_O_prime 1 = .ok (.istore_n 1, 1) := by decide +kernel
theorem d_O_prime_2 : decode b_O_prime 2 = .ok (.iload_n 1, 1) := by decide +kernel
theorem d_O_prime_3 : decode b_O_prime 3 = .ok (.iload_n 1, 1) := by decide +kernel
theorem d_O_prime_4 : decode b_O_prime 4 = .ok (.imul, 1) := by decide +kernel
theorem d_O_prime_5 : decode b_O_prime 5 = .ok (.iload_n 0, 1) := by decide +kernel
theorem d_O_prime_6 : decode b_O_prime 6 = .ok (.if_icmp .gt 17, 3) := by decide +kernel
theorem d_O_prime_9 : decode b_O_prime 9 = .ok (.iload_n 0, 1) := by decide +kernel
theorem d_O_prime_10 : decode b_O_prime 10 = .ok (.iload_n 1, 1) := by decide +kernel
theorem d_O_prime_11 : decode b_O_prime 11 = .ok (.irem, 1) := by decide +kernel
theorem d_O_prime_12 : decode b_O_prime 12 = .ok (.ifCond .ne 5, 3) := by decide +kernel
theorem d_O_prime_15 : decode b_O_prime 15 = .ok (.iconst 0, 1) := by decide +kernel
theorem d_O_prime_16 : decode b_O_prime 16 = .ok (.ireturn, 1) := by decide +kernel
theorem d_O_prime_17 : decode b_O_prime 17 = .ok (.iinc 1 1, 3) := by decide +kernel
theorem d_O_prime_20 : decode b_O_prime 20 = .ok (.goto (-18), 3) := by decide +kernel
theorem d_O_prime_23 : decode b_O_prime 23 = .ok (.iconst 1, 1) := by decide +kernel
theorem d_O_prime_24 : decode b_O_prime 24 = .ok (.ireturn, 1) := by decide +kernel
theorem d_O_root_0 : decode b_O_root 0 = .ok (.iconst 1, 1) := by decide +kernel
theorem d_O_root_1 : decode b_O_root 1 = .ok (.istore_n 3, 1) := by decide +kernel
theorem d_O_root_2 : decode b_O_root 2 = .ok (.aload_n 0, 1) := by decide +kernel
theorem d_O_root_3 : decode b_O_root 3 = .ok (.iload_n 3, 1) := by decide +kernel
theorem d_O_root_4 : decode b_O_root 4 = .ok (.iconst 1, 1) := by decide +kernel
theorem d_O_root_5 : decode b_O_root 5 = .ok (.iadd, 1) := by decide +kernel
theorem d_O_root_6 : decode b_O_root 6 = .ok (.lconst 0, 1) := by decide +kernel
theorem d_O_root_7 : decode b_O_root 7 = .ok (.iload_n 2, 1) := by decide +kernel
theorem d_O_root_8 : decode b_O_root 8 = .ok (.iload_n 1, 1) := by decide +kernel
theorem d_O_root_9 : decode b_O_root 9 = .ok (.invokevirtual 94, 3) := by decide +kernel
theorem d_O_root_12 : decode b_O_root 12 = .ok (.ifCond .ne 9, 3) := by decide +kernel
theorem d_O_root_15 : decode b_O_root 15 = .ok (.iinc 3 1, 3) := by decide +kernel
theorem d_O_root_18 : decode b_O_root 18 = .ok (.goto (-16), 3) := by decide +kernel
theorem d_O_root_21 : decode b_O_root 21 = .ok (.lconst 0, 1) := by decide +kernel
theorem d_O_root_22 : decode b_O_root 22 = .ok (.lstore 4, 2) := by decide +kernel
theorem d_O_root_24 : decode b_O_root 24 = .ok (.bipush 63, 2) := by decide +kernel
theorem d_O_root_26 : decode b_O_root 26 = .ok (.istore 6, 2) := by decide +kernel
theorem d_O_root_28 : decode b_O_root 28 = .ok (.iload 6, 2) := by decide +kernel
theorem d_O_root_30 : decode b_O_root 30 = .ok (.ifCond .lt 35, 3) := by decide +kernel
theorem d_O_root_33 : decode b_O_root 33 = .ok (.aload_n 0, 1) := by decide +kernel
theorem d_O_root_34 : decode b_O_root 34 = .ok (.iload_n 3, 1) := by decide +kernel
theorem d_O_root_35 : decode b_O_root 35 = .ok (.lload 4, 2) := by decide +kernel
theorem d_O_root_37 : decode b_O_root 37 = .ok (.lconst 1, 1) := by decide +kernel
theorem d_O_root_38 : decode b_O_root 38 = .ok (.iload 6, 2) := by decide +kernel
theorem d_O_root_40 : decode b_O_root 40 = .ok (.lshl, 1) := by decide +kernel
theorem d_O_root_41 : decode b_O_root 41 = .ok (.lor, 1) := by decide +kernel
theorem d_O_root_42 : decode b_O_root 42 = .ok (.iload_n 2, 1) := by decide +kernel
theorem d_O_root_43 : decode b_O_root 43 = .ok (.iload_n 1, 1) := by decide +kernel
theorem d_O_root_44 : decode b_O_root 44 = .ok (.invokevirtual 94, 3) := by decide +kernel
theorem d_O_root_47 : decode b_O_root 47 = .ok (.ifCond .ne 12, 3) := by decide +kernel
theorem d_O_root_50 : decode b_O_root 50 = .ok (.lload 4, 2) := by decide +kernel
theorem d_O_root_52 : decode b_O_root 52 = .ok (.lconst 1, 1) := by decide +kernel
theorem d_O_root_53 : decode b_O_root 53 = .ok (.iload 6, 2) := by decide +kernel
theorem d_O_root_55 : decode b_O_root 55 = .ok (.lshl, 1) := by decide +kernel
theorem d_O_root_56 : decode b_O_root 56 = .ok (.lor, 1) := by decide +kernel
theorem d_O_root_57 : decode b_O_root 57 = .ok (.lstore 4, 2) := by decide +kernel
theorem d_O_root_59 : decode b_O_root 59 = .ok (.iinc 6 (-1), 3) := by decide +kernel
theorem d_O_root_62 : decode b_O_root 62 = .ok (.goto (-34), 3) := by decide +kernel
theorem d_O_root_65 : decode b_O_root 65 = .ok (.lload 4, 2) := by decide +kernel
theorem d_O_root_67 : decode b_O_root 67 = .ok (.lreturn, 1) := by decide +kernel
theorem d_O_above_0 : decode b_O_above 0 = .ok (.iconst 0, 1) := by decide +kernel
theorem d_O_above_1 : decode b_O_above 1 = .ok (.istore 6, 2) := by decide +kernel
theorem d_O_above_3 : decode b_O_above 3 = .ok (.iload 6, 2) := by decide +kernel
theorem d_O_above_5 : decode b_O_above 5 = .ok (.bipush 16, 2) := by decide +kernel
theorem d_O_above_7 : decode b_O_above 7 = .ok (.if_icmp .ge 26, 3) := by decide +kernel
theorem d_O_above_10 : decode b_O_above 10 = .ok (.aload_n 0, 1) := by decide +kernel
theorem d_O_above_11 : decode b_O_above 11 = .ok (.getfield 38, 3) := by decide +kernel
theorem d_O_above_14 : decode b_O_above 14 = .ok (.iload 6, 2) := by decide +kernel
theorem d_O_above_16 : decode b_O_above 16 = .ok (.iload 6, 2) := by decide +kernel
theorem d_O_above_18 : decode b_O_above 18 = .ok (.ifCond .ne 7, 3) := by decide +kernel
theorem d_O_above_21 : decode b_O_above 21 = .ok (.lconst 1, 1) := by decide +kernel
theorem d_O_above_22 : decode b_O_above 22 = .ok (.goto 4, 3) := by decide +kernel
theorem d_O_above_25 : decode b_O_above 25 = .ok (.lconst 0, 1) := by decide +kernel
theorem d_O_above_26 : decode b_O_above 26 = .ok (.lastore, 1) := by decide +kernel
theorem d_O_above_27 : decode b_O_above 27 = .ok (.iinc 6 1, 3) := by decide +kernel
theorem d_O_above_30 : decode b_O_above 30 = .ok (.goto (-27), 3) := by decide +kernel
theorem d_O_above_33 : decode b_O_above 33 = .ok (.iconst 0, 1) := by decide +kernel
theorem d_O_above_34 : decode b_O_above 34 = .ok (.istore 6, 2) := by decide +kernel
theorem d_O_above_36 : decode b_O_above 36 = .ok (.iload 6, 2) := by decide +kernel
theorem d_O_above_38 : decode b_O_above 38 = .ok (.iload 4, 2) := by decide +kernel
theorem d_O_above_40 : decode b_O_above 40 = .ok (.if_icmp .ge 168, 3) := by decide +kernel
theorem d_O_above_43 : decode b_O_above 43 = .ok (.iconst 0, 1) := by decide +kernel
theorem d_O_above_44 : decode b_O_above 44 = .ok (.istore 7, 2) := by decide +kernel
theorem d_O_above_46 : decode b_O_above 46 = .ok (.iload 7, 2) := by decide +kernel
theorem d_O_above_48 : decode b_O_above 48 = .ok (.bipush 16, 2) := by decide +kernel
theorem d_O_above_50 : decode b_O_above 50 = .ok (.if_icmp .ge 17, 3) := by decide +kernel
theorem d_O_above_53 : decode b_O_above 53 = .ok (.aload_n 0, 1) := by decide +kernel
theorem d_O_above_54 : decode b_O_above 54 = .ok (.getfield 35, 3) := by decide +kernel
theorem d_O_above_57 : decode b_O_above 57 = .ok (.iload 7, 2) := by decide +kernel
theorem d_O_above_59 : decode b_O_above 59 = .ok (.lconst 0, 1) := by decide +kernel
theorem d_O_above_60 : decode b_O_above 60 = .ok (.lastore, 1) := by decide +kernel
theorem d_O_above_61 : decode b_O_above 61 = .ok (.iinc 7 1, 3) := by decide +kernel
theorem d_O_above_64 : decode b_O_above 64 = .ok (.goto (-18), 3) := by decide +kernel
theorem d_O_above_67 : decode b_O_above 67 = .ok (.iconst 0, 1) := by decide +kernel
theorem d_O_above_68 : decode b_O_above 68 = .ok (.istore 7, 2) := by decide +kernel
theorem d_O_above_70 : decode b_O_above 70 = .ok (.iload 7, 2) := by decide +kernel
theorem d_O_above_72 : decode b_O_above 72 = .ok (.bipush 16, 2) := by decide +kernel
theorem d_O_above_74 : decode b_O_above 74 = .ok (.if_icmp .ge 77, 3) := by decide +kernel
theorem d_O_above_77 : decode b_O_above 77 = .ok (.iconst 0, 1) := by decide +kernel
theorem d_O_above_78 : decode b_O_above 78 = .ok (.istore 8, 2) := by decide +kernel
theorem d_O_above_80 : decode b_O_above 80 = .ok (.iload 8, 2) := by decide +kernel
theorem d_O_above_82 : decode b_O_above 82 = .ok (.iconst 5, 1) := by decide +kernel
theorem d_O_above_83 : decode b_O_above 83 = .ok (.if_icmp .ge 62, 3) := by decide +kernel
theorem d_O_above_86 : decode b_O_above 86 = .ok (.iload 7, 2) := by decide +kernel
theorem d_O_above_88 : decode b_O_above 88 = .ok (.iload 8, 2) := by decide +kernel
theorem d_O_above_90 : decode b_O_above 90 = .ok (.iadd, 1) := by decide +kernel
theorem d_O_above_91 : decode b_O_above 91 = .ok (.bipush 16, 2) := by decide +kernel
theorem d_O_above_93 : decode b_O_above 93 = .ok (.if_icmp .ge 52, 3) := by decide +kernel
theorem d_O_above_96 : decode b_O_above 96 = .ok (.aload_n 0, 1) := by decide +kernel
theorem d_O_above_97 : decode b_O_above 97 = .ok (.getfield 35, 3) := by decide +kernel
theorem d_O_above_100 : decode b_O_above 100 = .ok (.iload 7, 2) := by decide +kernel
theorem d_O_above_102 : decode b_O_above 102 = .ok (.iload 8, 2) := by decide +kernel
theorem d_O_above_104 : decode b_O_above 104 = .ok (.iadd, 1) := by decide +kernel
theorem d_O_above_105 : decode b_O_above 105 = .ok (.dup2, 1) := by decide +kernel
theorem d_O_above_106 : decode b_O_above 106 = .ok (.laload, 1) := by decide +kernel
theorem d_O_above_107 : decode b_O_above 107 = .ok (.aload_n 0, 1) := by decide +kernel
theorem d_O_above_108 : decode b_O_above 108 = .ok (.getfield 38, 3) := by decide +kernel
theorem d_O_above_111 : decode b_O_above 111 = .ok (.iload 7, 2) := by decide +kernel
theorem d_O_above_113 : decode b_O_above 113 = .ok (.laload, 1) := by decide +kernel
theorem d_O_above_114 : decode b_O_above 114 = .ok (.iload 8, 2) := by decide +kernel
theorem d_O_above_116 : decode b_O_above 116 = .ok (.iconst 4, 1) := by decide +kernel
theorem d_O_above_117 : decode b_O_above 117 = .ok (.if_icmp .ge 17, 3) := by decide +kernel
theorem d_O_above_120 : decode b_O_above 120 = .ok (.lload_n 2, 1) := by decide +kernel
theorem d_O_above_121 : decode b_O_above 121 = .ok (.bipush 16, 2) := by decide +kernel
theorem d_O_above_123 : decode b_O_above 123 = .ok (.iload 8, 2) := by decide +kernel
theorem d_O_above_125 : decode b_O_above 125 = .ok (.imul, 1) := by decide +kernel
theorem d_O_above_126 : decode b_O_above 126 = .ok (.lushr, 1) := by decide +kernel
theorem d_O_above_127 : decode b_O_above 127 = .ok (.ldc2_w 92, 3) := by decide +kernel
theorem d_O_above_130 : decode b_O_above 130 = .ok (.land, 1) := by decide +kernel
theorem d_O_above_131 : decode b_O_above 131 = .ok (.goto 5, 3) := by decide +kernel
theorem d_O_above_134 : decode b_O_above 134 = .ok (.iload_n 1, 1) := by decide +kernel
theorem d_O_above_135 : decode b_O_above 135 = .ok (.i2l, 1) := by decide +kernel
theorem d_O_above_136 : decode b_O_above 136 = .ok (.lmul, 1) := by decide +kernel
theorem d_O_above_137 : decode b_O_above 137 = .ok (.ladd, 1) := by decide +kernel
theorem d_O_above_138 : decode b_O_above 138 = .ok (.lastore, 1) := by decide +kernel
theorem d_O_above_139 : decode b_O_above 139 = .ok (.iinc 8 1, 3) := by decide +kernel
theorem d_O_above_142 : decode b_O_above 142 = .ok (.goto (-62), 3) := by decide +kernel
theorem d_O_above_145 : decode b_O_above 145 = .ok (.iinc 7 1, 3) := by decide +kernel
theorem d_O_above_148 : decode b_O_above 148 = .ok (.goto (-78), 3) := by decide +kernel
theorem d_O_above_151 : decode b_O_above 151 = .ok (.lconst 0, 1) := by decide +kernel
theorem d_O_above_152 : decode b_O_above 152 = .ok (.lstore 7, 2) := by decide +kernel
theorem d_O_above_154 : decode b_O_above 154 = .ok (.iconst 0, 1) := by decide +kernel
theorem d_O_above_155 : decode b_O_above 155 = .ok (.istore 9, 2) := by decide +kernel
theorem d_O_above_157 : decode b_O_above 157 = .ok (.iload 9, 2) := by decide +kernel
theorem d_O_above_159 : decode b_O_above 159 = .ok (.bipush 16, 2) := by decide +kernel
theorem d_O_above_161 : decode b_O_above 161 = .ok (.if_icmp .ge 41, 3) := by decide +kernel
theorem d_O_above_164 : decode b_O_above 164 = .ok (.lload 7, 2) := by decide +kernel
theorem d_O_above_166 : decode b_O_above 166 = .ok (.aload_n 0, 1) := by decide +kernel
theorem d_O_above_167 : decode b_O_above 167 = .ok (.getfield 35, 3) := by decide +kernel
theorem d_O_above_170 : decode b_O_above 170 = .ok (.iload 9, 2) := by decide +kernel
theorem d_O_above_172 : decode b_O_above 172 = .ok (.laload, 1) := by decide +kernel
theorem d_O_above_173 : decode b_O_above 173 = .ok (.ladd, 1) := by decide +kernel
theorem d_O_above_174 : decode b_O_above 174 = .ok (.lstore 7, 2) := by decide +kernel
theorem d_O_above_176 : decode b_O_above 176 = .ok (.aload_n 0, 1) := by decide +kernel
theorem d_O_above_177 : decode b_O_above 177 = .ok (.getfield 38, 3) := by decide +kernel
theorem d_O_above_180 : decode b_O_above 180 = .ok (.iload 9, 2) := by decide +kernel
theorem d_O_above_182 : decode b_O_above 182 = .ok (.lload 7, 2) := by decide +kernel
theorem d_O_above_184 : decode b_O_above 184 = .ok (.ldc2_w 92, 3) := by decide +kernel
theorem d_O_above_187 : decode b_O_above 187 = .ok (.land, 1) := by decide +kernel
theorem d_O_above_188 : decode b_O_above 188 = .ok (.lastore, 1) := by decide +kernel
theorem d_O_above_189 : decode b_O_above 189 = .ok (.lload 7, 2) := by decide +kernel
theorem d_O_above_191 : decode b_O_above 191 = .ok (.bipush 16, 2) := by decide +kernel
theorem d_O_above_193 : decode b_O_above 193 = .ok (.lushr, 1) := by decide +kernel
theorem d_O_above_194 : decode b_O_above 194 = .ok (.lstore 7, 2) := by decide +kernel
theorem d_O_above_196 : decode b_O_above 196 = .ok (.iinc 9 1, 3) := by decide +kernel
theorem d_O_above_199 : decode b_O_above 199 = .ok (.goto (-42), 3) := by decide +kernel
theorem d_O_above_202 : decode b_O_above 202 = .ok (.iinc 6 1, 3) := by decide +kernel
theorem d_O_above_205 : decode b_O_above 205 = .ok (.goto (-169), 3) := by decide +kernel
theorem d_O_above_208 : decode b_O_above 208 = .ok (.aload_n 0, 1) := by decide +kernel
theorem d_O_above_209 : decode b_O_above 209 = .ok (.getfield 38, 3) := by decide +kernel
theorem d_O_above_212 : decode b_O_above 212 = .ok (.iconst 4, 1) := by decide +kernel
theorem d_O_above_213 : decode b_O_above 213 = .ok (.iload 4, 2) := by decide +kernel
theorem d_O_above_215 : decode b_O_above 215 = .ok (.imul, 1) := by decide +kernel
theorem d_O_above_216 : decode b_O_above 216 = .ok (.laload, 1) := by decide +kernel
theorem d_O_above_217 : decode b_O_above 217 = .ok (.aload_n 0, 1) := by decide +kernel
theorem d_O_above_218 : decode b_O_above 218 = .ok (.getfield 38, 3) := by decide +kernel
theorem d_O_above_221 : decode b_O_above 221 = .ok (.iconst 4, 1) := by decide +kernel
theorem d_O_above_222 : decode b_O_above 222 = .ok (.iload 4, 2) := by decide +kernel
theorem d_O_above_224 : decode b_O_above 224 = .ok (.imul, 1) := by decide +kernel
theorem d_O_above_225 : decode b_O_above 225 = .ok (.iconst 1, 1) := by decide +kernel
theorem d_O_above_226 : decode b_O_above 226 = .ok (.iadd, 1) := by decide +kernel
theorem d_O_above_227 : decode b_O_above 227 = .ok (.laload, 1) := by decide +kernel
theorem d_O_above_228 : decode b_O_above 228 = .ok (.bipush 16, 2) := by decide +kernel
theorem d_O_above_230 : decode b_O_above 230 = .ok (.lshl, 1) := by decide +kernel
theorem d_O_above_231 : decode b_O_above 231 = .ok (.ladd, 1) := by decide +kernel
theorem d_O_above_232 : decode b_O_above 232 = .ok (.lstore 6, 2) := by decide +kernel
theorem d_O_above_234 : decode b_O_above 234 = .ok (.iconst 0, 1) := by decide +kernel
theorem d_O_above_235 : decode b_O_above 235 = .ok (.istore 8, 2) := by decide +kernel
theorem d_O_above_237 : decode b_O_above 237 = .ok (.iconst 0, 1) := by decide +kernel
theorem d_O_above_238 : decode b_O_above 238 = .ok (.istore 9, 2) := by decide +kernel
theorem d_O_above_240 : decode b_O_above 240 = .ok (.iload 9, 2) := by decide +kernel
theorem d_O_above_242 : decode b_O_above 242 = .ok (.iconst 4, 1) := by decide +kernel
theorem d_O_above_243 : decode b_O_above 243 = .ok (.iload 4, 2) := by decide +kernel
theorem d_O_above_245 : decode b_O_above 245 = .ok (.imul, 1) := by decide +kernel
theorem d_O_above_246 : decode b_O_above 246 = .ok (.if_icmp .ge 24, 3) := by decide +kernel
theorem d_O_above_249 : decode b_O_above 249 = .ok (.aload_n 0, 1) := by decide +kernel
theorem d_O_above_250 : decode b_O_above 250 = .ok (.getfield 38, 3) := by decide +kernel
theorem d_O_above_253 : decode b_O_above 253 = .ok (.iload 9, 2) := by decide +kernel
theorem d_O_above_255 : decode b_O_above 255 = .ok (.laload, 1) := by decide +kernel
theorem d_O_above_256 : decode b_O_above 256 = .ok (.lconst 0, 1) := by decide +kernel
theorem d_O_above_257 : decode b_O_above 257 = .ok (.lcmp, 1) := by decide +kernel
theorem d_O_above_258 : decode b_O_above 258 = .ok (.ifCond .eq 6, 3) := by decide +kernel
theorem d_O_above_261 : decode b_O_above 261 = .ok (.iconst 1, 1) := by decide +kernel
theorem d_O_above_262 : decode b_O_above 262 = .ok (.istore 8, 2) := by decide +kernel
theorem d_O_above_264 : decode b_O_above 264 = .ok (.iinc 9 1, 3) := by decide +kernel
theorem d_O_above_267 : decode b_O_above 267 = .ok (.goto (-27), 3) := by decide +kernel
theorem d_O_above_270 : decode b_O_above 270 = .ok (.lload 6, 2) := by decide +kernel
theorem d_O_above_272 : decode b_O_above 272 = .ok (.iload 5, 2) := by decide +kernel
theorem d_O_above_274 : decode b_O_above 274 = .ok (.i2l, 1) := by decide +kernel
theorem d_O_above_275 : decode b_O_above 275 = .ok (.lcmp, 1) := by decide +kernel
theorem d_O_above_276 : decode b_O_above 276 = .ok (.ifCond .gt 17, 3) := by decide +kernel
theorem d_O_above_279 : decode b_O_above 279 = .ok (.lload 6, 2) := by decide +kernel
theorem d_O_above_281 : decode b_O_above 281 = .ok (.iload 5, 2) := by decide +kernel
theorem d_O_above_283 : decode b_O_above 283 = .ok (.i2l, 1) := by decide +kernel
theorem d_O_above_284 : decode b_O_above 284 = .ok (.lcmp, 1) := by decide +kernel
theorem d_O_above_285 : decode b_O_above 285 = .ok (.ifCond .ne 12, 3) := by decide +kernel
theorem d_O_above_288 : decode b_O_above 288 = .ok (.iload 8, 2) := by decide +kernel
theorem d_O_above_290 : decode b_O_above 290 = .ok (.ifCond .eq 7, 3) := by decide +kernel
theorem d_O_above_293 : decode b_O_above 293 = .ok (.iconst 1, 1) := by decide +kernel
theorem d_O_above_294 : decode b_O_above 294 = .ok (.goto 4, 3) := by decide +kernel
theorem d_O_above_297 : decode b_O_above 297 = .ok (.iconst 0, 1) := by decide +kernel
theorem d_O_above_298 : decode b_O_above 298 = .ok (.ireturn, 1) := by decide +kernel
theorem d_O_bit_0 : decode b_O_bit 0 = .ok (.iconst 1, 1) := by decide +kernel
theorem d_O_bit_1 : decode b_O_bit 1 = .ok (.istore_n 1, 1) := by decide +kernel
theorem d_O_bit_2 : decode b_O_bit 2 = .ok (.iconst 0, 1) := by decide +kernel
theorem d_O_bit_3 : decode b_O_bit 3 = .ok (.istore_n 2, 1) := by decide +kernel
theorem d_O_bit_4 : decode b_O_bit 4 = .ok (.iload_n 2, 1) := by decide +kernel
theorem d_O_bit_5 : decode b_O_bit 5 = .ok (.iload_n 0, 1) := by decide +kernel
theorem d_O_bit_6 : decode b_O_bit 6 = .ok (.sipush 255, 3) := by decide +kernel
theorem d_O_bit_9 : decode b_O_bit 9 = .ok (.irem, 1) := by decide +kernel
theorem d_O_bit_10 : decode b_O_bit 10 = .ok (.if_icmp .ge 33, 3) := by decide +kernel
theorem d_O_bit_13 : decode b_O_bit 13 = .ok (.iload_n 1, 1) := by decide +kernel
theorem d_O_bit_14 : decode b_O_bit 14 = .ok (.sipush 128, 3) := by decide +kernel
theorem d_O_bit_17 : decode b_O_bit 17 = .ok (.if_icmp .ge 9, 3) := by decide +kernel
theorem d_O_bit_20 : decode b_O_bit 20 = .ok (.iconst 2, 1) := by decide +kernel
theorem d_O_bit_21 : decode b_O_bit 21 = .ok (.iload_n 1, 1) := by decide +kernel
theorem d_O_bit_22 : decode b_O_bit 22 = .ok (.imul, 1) := by decide +kernel
theorem d_O_bit_23 : decode b_O_bit 23 = .ok (.goto 13, 3) := by decide +kernel
theorem d_O_bit_26 : decode b_O_bit 26 = .ok (.iconst 2, 1) := by decide +kernel
theorem d_O_bit_27 : decode b_O_bit 27 = .ok (.iload_n 1, 1) := by decide +kernel
theorem d_O_bit_28 : decode b_O_bit 28 = .ok (.imul, 1) := by decide +kernel
theorem d_O_bit_29 : decode b_O_bit 29 = .ok (.sipush 255, 3) := by decide +kernel
theorem d_O_bit_32 : decode b_O_bit 32 = .ok (.iand, 1) := by decide +kernel
theorem d_O_bit_33 : decode b_O_bit 33 = .ok (.bipush 113, 2) := by decide +kernel
theorem d_O_bit_35 : decode b_O_bit 35 = .ok (.ixor, 1) := by decide +kernel
theorem d_O_bit_36 : decode b_O_bit 36 = .ok (.istore_n 1, 1) := by decide +kernel
theorem d_O_bit_37 : decode b_O_bit 37 = .ok (.iinc 2 1, 3) := by decide +kernel
theorem d_O_bit_40 : decode b_O_bit 40 = .ok (.goto (-36), 3) := by decide +kernel
theorem d_O_bit_43 : decode b_O_bit 43 = .ok (.iload_n 1, 1) := by decide +kernel
theorem d_O_bit_44 : decode b_O_bit 44 = .ok (.iconst 1, 1) := by decide +kernel
theorem d_O_bit_45 : decode b_O_bit 45 = .ok (.iand, 1) := by decide +kernel
theorem d_O_bit_46 : decode b_O_bit 46 = .ok (.ireturn, 1) := by decide +kernel
theorem d_O_named_0 : decode b_O_named 0 = .ok (.aload_n 0, 1) := by decide +kernel
theorem d_O_named_1 : decode b_O_named 1 = .ok (.iconst 3, 1) := by decide +kernel
theorem d_O_named_2 : decode b_O_named 2 = .ok (.invokevirtual 114, 3) := by decide +kernel
theorem d_O_named_5 : decode b_O_named 5 = .ok (.iconst 0, 1) := by decide +kernel
theorem d_O_named_6 : decode b_O_named 6 = .ok (.istore 4, 2) := by decide +kernel
theorem d_O_named_8 : decode b_O_named 8 = .ok (.iload 4, 2) := by decide +kernel
theorem d_O_named_10 : decode b_O_named 10 = .ok (.bipush 8, 2) := by decide +kernel
theorem d_O_named_12 : decode b_O_named 12 = .ok (.if_icmp .ge 22, 3) := by decide +kernel
theorem d_O_named_15 : decode b_O_named 15 = .ok (.aload_n 0, 1) := by decide +kernel
theorem d_O_named_16 : decode b_O_named 16 = .ok (.getfield 47, 3) := by decide +kernel
theorem d_O_named_19 : decode b_O_named 19 = .ok (.iload 4, 2) := by decide +kernel
theorem d_O_named_21 : decode b_O_named 21 = .ok (.dup2, 1) := by decide +kernel
theorem d_O_named_22 : decode b_O_named 22 = .ok (.laload, 1) := by decide +kernel
theorem d_O_named_23 : decode b_O_named 23 = .ok (.ldc2_w 117, 3) := by decide +kernel
theorem d_O_named_26 : decode b_O_named 26 = .ok (.lxor, 1) := by decide +kernel
theorem d_O_named_27 : decode b_O_named 27 = .ok (.lastore, 1) := by decide +kernel
