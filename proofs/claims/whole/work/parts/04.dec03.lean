theorem d_H_compress_110 : decode b_H_compress 110 = .ok (.land, 1) := by decide +kernel
theorem d_H_compress_111 : decode b_H_compress 111 = .ok (.lload 9, 2) := by decide +kernel
theorem d_H_compress_113 : decode b_H_compress 113 = .ok (.ldc2_w 25, 3) := by decide +kernel
theorem d_H_compress_116 : decode b_H_compress 116 = .ok (.lxor, 1) := by decide +kernel
theorem d_H_compress_117 : decode b_H_compress 117 = .ok (.lload 13, 2) := by decide +kernel
theorem d_H_compress_119 : decode b_H_compress 119 = .ok (.land, 1) := by decide +kernel
theorem d_H_compress_120 : decode b_H_compress 120 = .ok (.lxor, 1) := by decide +kernel
theorem d_H_compress_121 : decode b_H_compress 121 = .ok (.ladd, 1) := by decide +kernel
theorem d_H_compress_122 : decode b_H_compress 122 = .ok (.lload 18, 2) := by decide +kernel
theorem d_H_compress_124 : decode b_H_compress 124 = .ok (.ladd, 1) := by decide +kernel
theorem d_H_compress_125 : decode b_H_compress 125 = .ok (.aload_n 0, 1) := by decide +kernel
theorem d_H_compress_126 : decode b_H_compress 126 = .ok (.getfield 45, 3) := by decide +kernel
theorem d_H_compress_129 : decode b_H_compress 129 = .ok (.iload 17, 2) := by decide +kernel
theorem d_H_compress_131 : decode b_H_compress 131 = .ok (.laload, 1) := by decide +kernel
theorem d_H_compress_132 : decode b_H_compress 132 = .ok (.ladd, 1) := by decide +kernel
theorem d_H_compress_133 : decode b_H_compress 133 = .ok (.lstore 20, 2) := by decide +kernel
theorem d_H_compress_135 : decode b_H_compress 135 = .ok (.aload_n 0, 1) := by decide +kernel
theorem d_H_compress_136 : decode b_H_compress 136 = .ok (.lload_n 1, 1) := by decide +kernel
theorem d_H_compress_137 : decode b_H_compress 137 = .ok (.iconst 0, 1) := by decide +kernel
theorem d_H_compress_138 : decode b_H_compress 138 = .ok (.invokevirtual 87, 3) := by decide +kernel
theorem d_H_compress_141 : decode b_H_compress 141 = .ok (.lload_n 1, 1) := by decide +kernel
theorem d_H_compress_142 : decode b_H_compress 142 = .ok (.lload_n 3, 1) := by decide +kernel
theorem d_H_compress_143 : decode b_H_compress 143 = .ok (.land, 1) := by decide +kernel
theorem d_H_compress_144 : decode b_H_compress 144 = .ok (.lload_n 1, 1) := by decide +kernel
theorem d_H_compress_145 : decode b_H_compress 145 = .ok (.lload 5, 2) := by decide +kernel
theorem d_H_compress_147 : decode b_H_compress 147 = .ok (.land, 1) := by decide +kernel
theorem d_H_compress_148 : decode b_H_compress 148 = .ok (.lxor, 1) := by decide +kernel
theorem d_H_compress_149 : decode b_H_compress 149 = .ok (.lload_n 3, 1) := by decide +kernel
theorem d_H_compress_150 : decode b_H_compress 150 = .ok (.lload 5, 2) := by decide +kernel
theorem d_H_compress_152 : decode b_H_compress 152 = .ok (.land, 1) := by decide +kernel
theorem d_H_compress_153 : decode b_H_compress 153 = .ok (.lxor, 1) := by decide +kernel
theorem d_H_compress_154 : decode b_H_compress 154 = .ok (.ladd, 1) := by decide +kernel
theorem d_H_compress_155 : decode b_H_compress 155 = .ok (.lstore 22, 2) := by decide +kernel
theorem d_H_compress_157 : decode b_H_compress 157 = .ok (.lload 13, 2) := by decide +kernel
theorem d_H_compress_159 : decode b_H_compress 159 = .ok (.lstore 15, 2) := by decide +kernel
theorem d_H_compress_161 : decode b_H_compress 161 = .ok (.lload 11, 2) := by decide +kernel
theorem d_H_compress_163 : decode b_H_compress 163 = .ok (.lstore 13, 2) := by decide +kernel
theorem d_H_compress_165 : decode b_H_compress 165 = .ok (.lload 9, 2) := by decide +kernel
theorem d_H_compress_167 : decode b_H_compress 167 = .ok (.lstore 11, 2) := by decide +kernel
theorem d_H_compress_169 : decode b_H_compress 169 = .ok (.lload 7, 2) := by decide +kernel
theorem d_H_compress_171 : decode b_H_compress 171 = .ok (.lload 20, 2) := by decide +kernel
theorem d_H_compress_173 : decode b_H_compress 173 = .ok (.ladd, 1) := by decide +kernel
theorem d_H_compress_174 : decode b_H_compress 174 = .ok (.aload_n 0, 1) := by decide +kernel
theorem d_H_compress_175 : decode b_H_compress 175 = .ok (.getfield 27, 3) := by decide +kernel
theorem d_H_compress_178 : decode b_H_compress 178 = .ok (.land, 1) := by decide +kernel
theorem d_H_compress_179 : decode b_H_compress 179 = .ok (.lstore 9, 2) := by decide +kernel
theorem d_H_compress_181 : decode b_H_compress 181 = .ok (.lload 5, 2) := by decide +kernel
theorem d_H_compress_183 : decode b_H_compress 183 = .ok (.lstore 7, 2) := by decide +kernel
theorem d_H_compress_185 : decode b_H_compress 185 = .ok (.lload_n 3, 1) := by decide +kernel
theorem d_H_compress_186 : decode b_H_compress 186 = .ok (.lstore 5, 2) := by decide +kernel
theorem d_H_compress_188 : decode b_H_compress 188 = .ok (.lload_n 1, 1) := by decide +kernel
theorem d_H_compress_189 : decode b_H_compress 189 = .ok (.lstore_n 3, 1) := by decide +kernel
theorem d_H_compress_190 : decode b_H_compress 190 = .ok (.lload 20, 2) := by decide +kernel
theorem d_H_compress_192 : decode b_H_compress 192 = .ok (.lload 22, 2) := by decide +kernel
theorem d_H_compress_194 : decode b_H_compress 194 = .ok (.ladd, 1) := by decide +kernel
theorem d_H_compress_195 : decode b_H_compress 195 = .ok (.aload_n 0, 1) := by decide +kernel
theorem d_H_compress_196 : decode b_H_compress 196 = .ok (.getfield 27, 3) := by decide +kernel
theorem d_H_compress_199 : decode b_H_compress 199 = .ok (.land, 1) := by decide +kernel
theorem d_H_compress_200 : decode b_H_compress 200 = .ok (.lstore_n 1, 1) := by decide +kernel
theorem d_H_compress_201 : decode b_H_compress 201 = .ok (.iinc 17 1, 3) := by decide +kernel
theorem d_H_compress_204 : decode b_H_compress 204 = .ok (.goto (-133), 3) := by decide +kernel
theorem d_H_compress_207 : decode b_H_compress 207 = .ok (.aload_n 0, 1) := by decide +kernel
theorem d_H_compress_208 : decode b_H_compress 208 = .ok (.iconst 0, 1) := by decide +kernel
theorem d_H_compress_209 : decode b_H_compress 209 = .ok (.lload_n 1, 1) := by decide +kernel
theorem d_H_compress_210 : decode b_H_compress 210 = .ok (.lload_n 3, 1) := by decide +kernel
theorem d_H_compress_211 : decode b_H_compress 211 = .ok (.lload 5, 2) := by decide +kernel
theorem d_H_compress_213 : decode b_H_compress 213 = .ok (.lload 7, 2) := by decide +kernel
theorem d_H_compress_215 : decode b_H_compress 215 = .ok (.invokevirtual 91, 3) := by decide +kernel
theorem d_H_compress_218 : decode b_H_compress 218 = .ok (.aload_n 0, 1) := by decide +kernel
theorem d_H_compress_219 : decode b_H_compress 219 = .ok (.iconst 4, 1) := by decide +kernel
theorem d_H_compress_220 : decode b_H_compress 220 = .ok (.lload 9, 2) := by decide +kernel
theorem d_H_compress_222 : decode b_H_compress 222 = .ok (.lload 11, 2) := by decide +kernel
theorem d_H_compress_224 : decode b_H_compress 224 = .ok (.lload 13, 2) := by decide +kernel
theorem d_H_compress_226 : decode b_H_compress 226 = .ok (.lload 15, 2) := by decide +kernel
theorem d_H_compress_228 : decode b_H_compress 228 = .ok (.invokevirtual 91, 3) := by decide +kernel
theorem d_H_compress_231 : decode b_H_compress 231 = .ok (.return_, 1) := by decide +kernel
theorem d_H_fillSchedule_0 : decode b_H_fillSchedule 0 = .ok (.iconst 0, 1) := by decide +kernel
theorem d_H_fillSchedule_1 : decode b_H_fillSchedule 1 = .ok (.istore_n 1, 1) := by decide +kernel
theorem d_H_fillSchedule_2 : decode b_H_fillSchedule 2 = .ok (.iload_n 1, 1) := by decide +kernel
theorem d_H_fillSchedule_3 : decode b_H_fillSchedule 3 = .ok (.bipush 16, 2) := by decide +kernel
theorem d_H_fillSchedule_5 : decode b_H_fillSchedule 5 = .ok (.if_icmp .ge 61, 3) := by decide +kernel
theorem d_H_fillSchedule_8 : decode b_H_fillSchedule 8 = .ok (.lconst 0, 1) := by decide +kernel
theorem d_H_fillSchedule_9 : decode b_H_fillSchedule 9 = .ok (.lstore_n 2, 1) := by decide +kernel
theorem d_H_fillSchedule_10 : decode b_H_fillSchedule 10 = .ok (.iconst 0, 1) := by decide +kernel
theorem d_H_fillSchedule_11 : decode b_H_fillSchedule 11 = .ok (.istore 4, 2) := by decide +kernel
theorem d_H_fillSchedule_13 : decode b_H_fillSchedule 13 = .ok (.iload 4, 2) := by decide +kernel
theorem d_H_fillSchedule_15 : decode b_H_fillSchedule 15 = .ok (.aload_n 0, 1) := by decide +kernel
theorem d_H_fillSchedule_16 : decode b_H_fillSchedule 16 = .ok (.getfield 9, 3) := by decide +kernel
theorem d_H_fillSchedule_19 : decode b_H_fillSchedule 19 = .ok (.if_icmp .ge 34, 3) := by decide +kernel
theorem d_H_fillSchedule_22 : decode b_H_fillSchedule 22 = .ok (.lload_n 2, 1) := by decide +kernel
theorem d_H_fillSchedule_23 : decode b_H_fillSchedule 23 = .ok (.bipush 8, 2) := by decide +kernel
theorem d_H_fillSchedule_25 : decode b_H_fillSchedule 25 = .ok (.lshl, 1) := by decide +kernel
theorem d_H_fillSchedule_26 : decode b_H_fillSchedule 26 = .ok (.aload_n 0, 1) := by decide +kernel
theorem d_H_fillSchedule_27 : decode b_H_fillSchedule 27 = .ok (.getfield 37, 3) := by decide +kernel
theorem d_H_fillSchedule_30 : decode b_H_fillSchedule 30 = .ok (.iload_n 1, 1) := by decide +kernel
theorem d_H_fillSchedule_31 : decode b_H_fillSchedule 31 = .ok (.aload_n 0, 1) := by decide +kernel
theorem d_H_fillSchedule_32 : decode b_H_fillSchedule 32 = .ok (.getfield 9, 3) := by decide +kernel
theorem d_H_fillSchedule_35 : decode b_H_fillSchedule 35 = .ok (.imul, 1) := by decide +kernel
theorem d_H_fillSchedule_36 : decode b_H_fillSchedule 36 = .ok (.iload 4, 2) := by decide +kernel
theorem d_H_fillSchedule_38 : decode b_H_fillSchedule 38 = .ok (.iadd, 1) := by decide +kernel
theorem d_H_fillSchedule_39 : decode b_H_fillSchedule 39 = .ok (.baload, 1) := by decide +kernel
theorem d_H_fillSchedule_40 : decode b_H_fillSchedule 40 = .ok (.sipush 255, 3) := by decide +kernel
theorem d_H_fillSchedule_43 : decode b_H_fillSchedule 43 = .ok (.iand, 1) := by decide +kernel
theorem d_H_fillSchedule_44 : decode b_H_fillSchedule 44 = .ok (.i2l, 1) := by decide +kernel
theorem d_H_fillSchedule_45 : decode b_H_fillSchedule 45 = .ok (.lor, 1) := by decide +kernel
theorem d_H_fillSchedule_46 : decode b_H_fillSchedule 46 = .ok (.lstore_n 2, 1) := by decide +kernel
theorem d_H_fillSchedule_47 : decode b_H_fillSchedule 47 = .ok (.iinc 4 1, 3) := by decide +kernel
theorem d_H_fillSchedule_50 : decode b_H_fillSchedule 50 = .ok (.goto (-37), 3) := by decide +kernel
theorem d_H_fillSchedule_53 : decode b_H_fillSchedule 53 = .ok (.aload_n 0, 1) := by decide +kernel
theorem d_H_fillSchedule_54 : decode b_H_fillSchedule 54 = .ok (.getfield 45, 3) := by decide +kernel
theorem d_H_fillSchedule_57 : decode b_H_fillSchedule 57 = .ok (.iload_n 1, 1) := by decide +kernel
theorem d_H_fillSchedule_58 : decode b_H_fillSchedule 58 = .ok (.lload_n 2, 1) := by decide +kernel
theorem d_H_fillSchedule_59 : decode b_H_fillSchedule 59 = .ok (.lastore, 1) := by decide +kernel
theorem d_H_fillSchedule_60 : decode b_H_fillSchedule 60 = .ok (.iinc 1 1, 3) := by decide +kernel
theorem d_H_fillSchedule_63 : decode b_H_fillSchedule 63 = .ok (.goto (-61), 3) := by decide +kernel
theorem d_H_fillSchedule_66 : decode b_H_fillSchedule 66 = .ok (.bipush 16, 2) := by decide +kernel
theorem d_H_fillSchedule_68 : decode b_H_fillSchedule 68 = .ok (.istore_n 1, 1) := by decide +kernel
theorem d_H_fillSchedule_69 : decode b_H_fillSchedule 69 = .ok (.iload_n 1, 1) := by decide +kernel
theorem d_H_fillSchedule_70 : decode b_H_fillSchedule 70 = .ok (.aload_n 0, 1) := by decide +kernel
theorem d_H_fillSchedule_71 : decode b_H_fillSchedule 71 = .ok (.getfield 15, 3) := by decide +kernel
theorem d_H_fillSchedule_74 : decode b_H_fillSchedule 74 = .ok (.if_icmp .ge 76, 3) := by decide +kernel
theorem d_H_fillSchedule_77 : decode b_H_fillSchedule 77 = .ok (.aload_n 0, 1) := by decide +kernel
theorem d_H_fillSchedule_78 : decode b_H_fillSchedule 78 = .ok (.aload_n 0, 1) := by decide +kernel
theorem d_H_fillSchedule_79 : decode b_H_fillSchedule 79 = .ok (.getfield 45, 3) := by decide +kernel
theorem d_H_fillSchedule_82 : decode b_H_fillSchedule 82 = .ok (.iload_n 1, 1) := by decide +kernel
theorem d_H_fillSchedule_83 : decode b_H_fillSchedule 83 = .ok (.iconst 2, 1) := by decide +kernel
theorem d_H_fillSchedule_84 : decode b_H_fillSchedule 84 = .ok (.isub, 1) := by decide +kernel
theorem d_H_fillSchedule_85 : decode b_H_fillSchedule 85 = .ok (.laload, 1) := by decide +kernel
theorem d_H_fillSchedule_86 : decode b_H_fillSchedule 86 = .ok (.bipush 9, 2) := by decide +kernel
theorem d_H_fillSchedule_88 : decode b_H_fillSchedule 88 = .ok (.invokevirtual 95, 3) := by decide +kernel
theorem d_H_fillSchedule_91 : decode b_H_fillSchedule 91 = .ok (.lstore_n 2, 1) := by decide +kernel
theorem d_H_fillSchedule_92 : decode b_H_fillSchedule 92 = .ok (.aload_n 0, 1) := by decide +kernel
theorem d_H_fillSchedule_93 : decode b_H_fillSchedule 93 = .ok (.aload_n 0, 1) := by decide +kernel
theorem d_H_fillSchedule_94 : decode b_H_fillSchedule 94 = .ok (.getfield 45, 3) := by decide +kernel
theorem d_H_fillSchedule_97 : decode b_H_fillSchedule 97 = .ok (.iload_n 1, 1) := by decide +kernel
theorem d_H_fillSchedule_98 : decode b_H_fillSchedule 98 = .ok (.bipush 15, 2) := by decide +kernel
theorem d_H_fillSchedule_100 : decode b_H_fillSchedule 100 = .ok (.isub, 1) := by decide +kernel
theorem d_H_fillSchedule_101 : decode b_H_fillSchedule 101 = .ok (.laload, 1) := by decide +kernel
theorem d_H_fillSchedule_102 : decode b_H_fillSchedule 102 = .ok (.bipush 6, 2) := by decide +kernel
theorem d_H_fillSchedule_104 : decode b_H_fillSchedule 104 = .ok (.invokevirtual 95, 3) := by decide +kernel
theorem d_H_fillSchedule_107 : decode b_H_fillSchedule 107 = .ok (.lstore 4, 2) := by decide +kernel
theorem d_H_fillSchedule_109 : decode b_H_fillSchedule 109 = .ok (.aload_n 0, 1) := by decide +kernel
theorem d_H_fillSchedule_110 : decode b_H_fillSchedule 110 = .ok (.getfield 45, 3) := by decide +kernel
theorem d_H_fillSchedule_113 : decode b_H_fillSchedule 113 = .ok (.iload_n 1, 1) := by decide +kernel
theorem d_H_fillSchedule_114 : decode b_H_fillSchedule 114 = .ok (.lload_n 2, 1) := by decide +kernel
theorem d_H_fillSchedule_115 : decode b_H_fillSchedule 115 = .ok (.aload_n 0, 1) := by decide +kernel
theorem d_H_fillSchedule_116 : decode b_H_fillSchedule 116 = .ok (.getfield 45, 3) := by decide +kernel
theorem d_H_fillSchedule_119 : decode b_H_fillSchedule 119 = .ok (.iload_n 1, 1) := by decide +kernel
theorem d_H_fillSchedule_120 : decode b_H_fillSchedule 120 = .ok (.bipush 7, 2) := by decide +kernel
theorem d_H_fillSchedule_122 : decode b_H_fillSchedule 122 = .ok (.isub, 1) := by decide +kernel
theorem d_H_fillSchedule_123 : decode b_H_fillSchedule 123 = .ok (.laload, 1) := by decide +kernel
theorem d_H_fillSchedule_124 : decode b_H_fillSchedule 124 = .ok (.ladd, 1) := by decide +kernel
theorem d_H_fillSchedule_125 : decode b_H_fillSchedule 125 = .ok (.lload 4, 2) := by decide +kernel
theorem d_H_fillSchedule_127 : decode b_H_fillSchedule 127 = .ok (.ladd, 1) := by decide +kernel
theorem d_H_fillSchedule_128 : decode b_H_fillSchedule 128 = .ok (.aload_n 0, 1) := by decide +kernel
theorem d_H_fillSchedule_129 : decode b_H_fillSchedule 129 = .ok (.getfield 45, 3) := by decide +kernel
theorem d_H_fillSchedule_132 : decode b_H_fillSchedule 132 = .ok (.iload_n 1, 1) := by decide +kernel
theorem d_H_fillSchedule_133 : decode b_H_fillSchedule 133 = .ok (.bipush 16, 2) := by decide +kernel
theorem d_H_fillSchedule_135 : decode b_H_fillSchedule 135 = .ok (.isub, 1) := by decide +kernel
theorem d_H_fillSchedule_136 : decode b_H_fillSchedule 136 = .ok (.laload, 1) := by decide +kernel
theorem d_H_fillSchedule_137 : decode b_H_fillSchedule 137 = .ok (.ladd, 1) := by decide +kernel
theorem d_H_fillSchedule_138 : decode b_H_fillSchedule 138 = .ok (.aload_n 0, 1) := by decide +kernel
theorem d_H_fillSchedule_139 : decode b_H_fillSchedule 139 = .ok (.getfield 27, 3) := by decide +kernel
theorem d_H_fillSchedule_142 : decode b_H_fillSchedule 142 = .ok (.land, 1) := by decide +kernel
theorem d_H_fillSchedule_143 : decode b_H_fillSchedule 143 = .ok (.lastore, 1) := by decide +kernel
theorem d_H_fillSchedule_144 : decode b_H_fillSchedule 144 = .ok (.iinc 1 1, 3) := by decide +kernel
theorem d_H_fillSchedule_147 : decode b_H_fillSchedule 147 = .ok (.goto (-78), 3) := by decide +kernel
theorem d_H_fillSchedule_150 : decode b_H_fillSchedule 150 = .ok (.return_, 1) := by decide +kernel
theorem d_H_twoTurnsAndShift_0 : decode b_H_twoTurnsAndShift 0 = .ok (.aload_n 0, 1) := by decide +kernel
theorem d_H_twoTurnsAndShift_1 : decode b_H_twoTurnsAndShift 1 = .ok (.lload_n 1, 1) := by decide +kernel
theorem d_H_twoTurnsAndShift_2 : decode b_H_twoTurnsAndShift 2 = .ok (.aload_n 0, 1) := by decide +kernel
theorem d_H_twoTurnsAndShift_3 : decode b_H_twoTurnsAndShift 3 = .ok (.getfield 18, 3) := by decide +kernel
theorem d_H_twoTurnsAndShift_6 : decode b_H_twoTurnsAndShift 6 = .ok (.iload_n 3, 1) := by decide +kernel
theorem d_H_twoTurnsAndShift_7 : decode b_H_twoTurnsAndShift 7 = .ok (.iaload, 1) := by decide +kernel
theorem d_H_twoTurnsAndShift_8 : decode b_H_twoTurnsAndShift 8 = .ok (.invokevirtual 98, 3) := by decide +kernel
theorem d_H_twoTurnsAndShift_11 : decode b_H_twoTurnsAndShift 11 = .ok (.aload_n 0, 1) := by decide +kernel
theorem d_H_twoTurnsAndShift_12 : decode b_H_twoTurnsAndShift 12 = .ok (.lload_n 1, 1) := by decide +kernel
theorem d_H_twoTurnsAndShift_13 : decode b_H_twoTurnsAndShift 13 = .ok (.aload_n 0, 1) := by decide +kernel
theorem d_H_twoTurnsAndShift_14 : decode b_H_twoTurnsAndShift 14 = .ok (.getfield 18, 3) := by decide +kernel
theorem d_H_twoTurnsAndShift_17 : decode b_H_twoTurnsAndShift 17 = .ok (.iload_n 3, 1) := by decide +kernel
theorem d_H_twoTurnsAndShift_18 : decode b_H_twoTurnsAndShift 18 = .ok (.iconst 1, 1) := by decide +kernel
theorem d_H_twoTurnsAndShift_19 : decode b_H_twoTurnsAndShift 19 = .ok (.iadd, 1) := by decide +kernel
theorem d_H_twoTurnsAndShift_20 : decode b_H_twoTurnsAndShift 20 = .ok (.iaload, 1) := by decide +kernel
theorem d_H_twoTurnsAndShift_21 : decode b_H_twoTurnsAndShift 21 = .ok (.invokevirtual 98, 3) := by decide +kernel
theorem d_H_twoTurnsAndShift_24 : decode b_H_twoTurnsAndShift 24 = .ok (.lxor, 1) := by decide +kernel
theorem d_H_twoTurnsAndShift_25 : decode b_H_twoTurnsAndShift 25 = .ok (.lload_n 1, 1) := by decide +kernel
theorem d_H_twoTurnsAndShift_26 : decode b_H_twoTurnsAndShift 26 = .ok (.aload_n 0, 1) := by decide +kernel
theorem d_H_twoTurnsAndShift_27 : decode b_H_twoTurnsAndShift 27 = .ok (.getfield 18, 3) := by decide +kernel
theorem d_H_twoTurnsAndShift_30 : decode b_H_twoTurnsAndShift 30 = .ok (.iload_n 3, 1) := by decide +kernel
theorem d_H_twoTurnsAndShift_31 : decode b_H_twoTurnsAndShift 31 = .ok (.iconst 2, 1) := by decide +kernel
theorem d_H_twoTurnsAndShift_32 : decode b_H_twoTurnsAndShift 32 = .ok (.iadd, 1) := by decide +kernel
theorem d_H_twoTurnsAndShift_33 : decode b_H_twoTurnsAndShift 33 = .ok (.iaload, 1) := by decide +kernel
theorem d_H_twoTurnsAndShift_34 : decode b_H_twoTurnsAndShift 34 = .ok (.lushr, 1) := by decide +kernel
theorem d_H_twoTurnsAndShift_35 : decode b_H_twoTurnsAndShift 35 = .ok (.lxor, 1) := by decide +kernel
theorem d_H_twoTurnsAndShift_36 : decode b_H_twoTurnsAndShift 36 = .ok (.lreturn, 1) := by decide +kernel
theorem d_H_rotr_0 : decode b_H_rotr 0 = .ok (.lload_n 1, 1) := by decide +kernel
theorem d_H_rotr_1 : decode b_H_rotr 1 = .ok (.iload_n 3, 1) := by decide +kernel
theorem d_H_rotr_2 : decode b_H_rotr 2 = .ok (.lushr, 1) := by decide +kernel
theorem d_H_rotr_3 : decode b_H_rotr 3 = .ok (.lload_n 1, 1) := by decide +kernel
theorem d_H_rotr_4 : decode b_H_rotr 4 = .ok (.aload_n 0, 1) := by decide +kernel
theorem d_H_rotr_5 : decode b_H_rotr 5 = .ok (.getfield 22, 3) := by decide +kernel
theorem d_H_rotr_8 : decode b_H_rotr 8 = .ok (.iload_n 3, 1) := by decide +kernel
theorem d_H_rotr_9 : decode b_H_rotr 9 = .ok (.isub, 1) := by decide +kernel
theorem d_H_rotr_10 : decode b_H_rotr 10 = .ok (.lshl, 1) := by decide +kernel
theorem d_H_rotr_11 : decode b_H_rotr 11 = .ok (.lor, 1) := by decide +kernel
theorem d_H_rotr_12 : decode b_H_rotr 12 = .ok (.aload_n 0, 1) := by decide +kernel
theorem d_H_rotr_13 : decode b_H_rotr 13 = .ok (.getfield 27, 3) := by decide +kernel
theorem d_H_rotr_16 : decode b_H_rotr 16 = .ok (.land, 1) := by decide +kernel
theorem d_H_rotr_17 : decode b_H_rotr 17 = .ok (.lreturn, 1) := by decide +kernel
theorem d_H_threeTurns_0 : decode b_H_threeTurns 0 = .ok (.aload_n 0, 1) := by decide +kernel
theorem d_H_threeTurns_1 : decode b_H_threeTurns 1 = .ok (.lload_n 1, 1) := by decide +kernel
theorem d_H_threeTurns_2 : decode b_H_threeTurns 2 = .ok (.aload_n 0, 1) := by decide +kernel
theorem d_H_threeTurns_3 : decode b_H_threeTurns 3 = .ok (.getfield 18, 3) := by decide +kernel
theorem d_H_threeTurns_6 : decode b_H_threeTurns 6 = .ok (.iload_n 3, 1) := by decide +kernel
theorem d_H_threeTurns_7 : decode b_H_threeTurns 7 = .ok (.iaload, 1) := by decide +kernel
theorem d_H_threeTurns_8 : decode b_H_threeTurns 8 = .ok (.invokevirtual 98, 3) := by decide +kernel
theorem d_H_threeTurns_11 : decode b_H_threeTurns 11 = .ok (.aload_n 0, 1) := by decide +kernel
theorem d_H_threeTurns_12 : decode b_H_threeTurns 12 = .ok (.lload_n 1, 1) := by decide +kernel
theorem d_H_threeTurns_13 : decode b_H_threeTurns 13 = .ok (.aload_n 0, 1) := by decide +kernel
theorem d_H_threeTurns_14 : decode b_H_threeTurns 14 = .ok (.getfield 18, 3) := by decide +kernel
theorem d_H_threeTurns_17 : decode b_H_threeTurns 17 = .ok (.iload_n 3, 1) := by decide +kernel
theorem d_H_threeTurns_18 : decode b_H_threeTurns 18 = .ok (.iconst 1, 1) := by decide +kernel
theorem d_H_threeTurns_19 : decode b_H_threeTurns 19 = .ok (.iadd, 1) := by decide +kernel
theorem d_H_threeTurns_20 : decode b_H_threeTurns 20 = .ok (.iaload, 1) := by decide +kernel
theorem d_H_threeTurns_21 : decode b_H_threeTurns 21 = .ok (.invokevirtual 98, 3) := by decide +kernel
theorem d_H_threeTurns_24 : decode b_H_threeTurns 24 = .ok (.lxor, 1) := by decide +kernel
theorem d_H_threeTurns_25 : decode b_H_threeTurns 25 = .ok (.aload_n 0, 1) := by decide +kernel
theorem d_H_threeTurns_26 : decode b_H_threeTurns 26 = .ok (.lload_n 1, 1) := by decide +kernel
theorem d_H_threeTurns_27 : decode b_H_threeTurns 27 = .ok (.aload_n 0, 1) := by decide +kernel
theorem d_H_threeTurns_28 : decode b_H_threeTurns 28 = .ok (.getfield 18, 3) := by decide +kernel
theorem d_H_threeTurns_31 : decode b_H_threeTurns 31 = .ok (.iload_n 3, 1) := by decide +kernel
theorem d_H_threeTurns_32 : decode b_H_threeTurns 32 = .ok (.iconst 2, 1) := by decide +kernel
theorem d_H_threeTurns_33 : decode b_H_threeTurns 33 = .ok (.iadd, 1) := by decide +kernel
theorem d_H_threeTurns_34 : decode b_H_threeTurns 34 = .ok (.iaload, 1) := by decide +kernel
theorem d_H_threeTurns_35 : decode b_H_threeTurns 35 = .ok (.invokevirtual 98, 3) := by decide +kernel
theorem d_H_threeTurns_38 : decode b_H_threeTurns 38 = .ok (.lxor, 1) := by decide +kernel
theorem d_H_threeTurns_39 : decode b_H_threeTurns 39 = .ok (.lreturn, 1) := by decide +kernel
theorem d_H_addToState_0 : decode b_H_addToState 0 = .ok (.aload_n 0, 1) := by decide +kernel
theorem d_H_addToState_1 : decode b_H_addToState 1 = .ok (.getfield 41, 3) := by decide +kernel
theorem d_H_addToState_4 : decode b_H_addToState 4 = .ok (.iload_n 1, 1) := by decide +kernel
theorem d_H_addToState_5 : decode b_H_addToState 5 = .ok (.aload_n 0, 1) := by decide +kernel
theorem d_H_addToState_6 : decode b_H_addToState 6 = .ok (.getfield 41, 3) := by decide +kernel
theorem d_H_addToState_9 : decode b_H_addToState 9 = .ok (.iload_n 1, 1) := by decide +kernel
theorem d_H_addToState_10 : decode b_H_addToState 10 = .ok (.laload, 1) := by decide +kernel
theorem d_H_addToState_11 : decode b_H_addToState 11 = .ok (.lload_n 2, 1) := by decide +kernel
theorem d_H_addToState_12 : decode b_H_addToState 12 = .ok (.ladd, 1) := by decide +kernel
theorem d_H_addToState_13 : decode b_H_addToState 13 = .ok (.aload_n 0, 1) := by decide +kernel
theorem d_H_addToState_14 : decode b_H_addToState 14 = .ok (.getfield 27, 3) := by decide +kernel
theorem d_H_addToState_17 : decode b_H_addToState 17 = .ok (.land, 1) := by decide +kernel
theorem d_H_addToState_18 : decode b_H_addToState 18 = .ok (.lastore, 1) := by decide +kernel
theorem d_H_addToState_19 : decode b_H_addToState 19 = .ok (.aload_n 0, 1) := by decide +kernel
theorem d_H_addToState_20 : decode b_H_addToState 20 = .ok (.getfield 41, 3) := by decide +kernel
theorem d_H_addToState_23 : decode b_H_addToState 23 = .ok (.iload_n 1, 1) := by decide +kernel
theorem d_H_addToState_24 : decode b_H_addToState 24 = .ok (.iconst 1, 1) := by decide +kernel
theorem d_H_addToState_25 : decode b_H_addToState 25 = .ok (.iadd, 1) := by decide +kernel
theorem d_H_addToState_26 : decode b_H_addToState 26 = .ok (.aload_n 0, 1) := by decide +kernel
theorem d_H_addToState_27 : decode b_H_addToState 27 = .ok (.getfield 41, 3) := by decide +kernel
theorem d_H_addToState_30 : decode b_H_addToState 30 = .ok (.iload_n 1, 1) := by decide +kernel
theorem d_H_addToState_31 : decode b_H_addToState 31 = .ok (.iconst 1, 1) := by decide +kernel
theorem d_H_addToState_32 : decode b_H_addToState 32 = .ok (.iadd, 1) := by decide +kernel
theorem d_H_addToState_33 : decode b_H_addToState 33 = .ok (.laload, 1) := by decide +kernel
theorem d_H_addToState_34 : decode b_H_addToState 34 = .ok (.lload 4, 2) := by decide +kernel
theorem d_H_addToState_36 : decode b_H_addToState 36 = .ok (.ladd, 1) := by decide +kernel
theorem d_H_addToState_37 : decode b_H_addToState 37 = .ok (.aload_n 0, 1) := by decide +kernel
theorem d_H_addToState_38 : decode b_H_addToState 38 = .ok (.getfield 27, 3) := by decide +kernel
theorem d_H_addToState_41 : decode b_H_addToState 41 = .ok (.land, 1) := by decide +kernel
theorem d_H_addToState_42 : decode b_H_addToState 42 = .ok (.lastore, 1) := by decide +kernel
theorem d_H_addToState_43 : decode b_H_addToState 43 = .ok (.aload_n 0, 1) := by decide +kernel
theorem d_H_addToState_44 : decode b_H_addToState 44 = .ok (.getfield 41, 3) := by decide +kernel
theorem d_H_addToState_47 : decode b_H_addToState 47 = .ok (.iload_n 1, 1) := by decide +kernel
theorem d_H_addToState_48 : decode b_H_addToState 48 = .ok (.iconst 2, 1) := by decide +kernel
theorem d_H_addToState_49 : decode b_H_addToState 49 = .ok (.iadd, 1) := by decide +kernel
theorem d_H_addToState_50 : decode b_H_addToState 50 = .ok (.aload_n 0, 1) := by decide +kernel
theorem d_H_addToState_51 : decode b_H_addToState 51 = .ok (.getfield 41, 3) := by decide +kernel
theorem d_H_addToState_54 : decode b_H_addToState 54 = .ok (.iload_n 1, 1) := by decide +kernel
theorem d_H_addToState_55 : decode b_H_addToState 55 = .ok (.iconst 2, 1) := by decide +kernel
theorem d_H_addToState_56 : decode b_H_addToState 56 = .ok (.iadd, 1) := by decide +kernel
theorem d_H_addToState_57 : decode b_H_addToState 57 = .ok (.laload, 1) := by decide +kernel
theorem d_H_addToState_58 : decode b_H_addToState 58 = .ok (.lload 6, 2) := by decide +kernel
theorem d_H_addToState_60 : decode b_H_addToState 60 = .ok (.ladd, 1) := by decide +kernel
theorem d_H_addToState_61 : decode b_H_addToState 61 = .ok (.aload_n 0, 1) := by decide +kernel
theorem d_H_addToState_62 : decode b_H_addToState 62 = .ok (.getfield 27, 3) := by decide +kernel
theorem d_H_addToState_65 : decode b_H_addToState 65 = .ok (.land, 1) := by decide +kernel
theorem d_H_addToState_66 : decode b_H_addToState 66 = .ok (.lastore, 1) := by decide +kernel
theorem d_H_addToState_67 : decode b_H_addToState 67 = .ok (.aload_n 0, 1) := by decide +kernel
theorem d_H_addToState_68 : decode b_H_addToState 68 = .ok (.getfield 41, 3) := by decide +kernel
theorem d_H_addToState_71 : decode b_H_addToState 71 = .ok (.iload_n 1, 1) := by decide +kernel
theorem d_H_addToState_72 : decode b_H_addToState 72 = .ok (.iconst 3, 1) := by decide +kernel
theorem d_H_addToState_73 : decode b_H_addToState 73 = .ok (.iadd, 1) := by decide +kernel
theorem d_H_addToState_74 : decode b_H_addToState 74 = .ok (.aload_n 0, 1) := by decide +kernel
theorem d_H_addToState_75 : decode b_H_addToState 75 = .ok (.getfield 41, 3) := by decide +kernel
theorem d_H_addToState_78 : decode b_H_addToState 78 = .ok (.iload_n 1, 1) := by decide +kernel
theorem d_H_addToState_79 : decode b_H_addToState 79 = .ok (.iconst 3, 1) := by decide +kernel
theorem d_H_addToState_80 : decode b_H_addToState 80 = .ok (.iadd, 1) := by decide +kernel
theorem d_H_addToState_81 : decode b_H_addToState 81 = .ok (.laload, 1) := by decide +kernel
theorem d_H_addToState_82 : decode b_H_addToState 82 = .ok (.lload 8, 2) := by decide +kernel
theorem d_H_addToState_84 : decode b_H_addToState 84 = .ok (.ladd, 1) := by decide +kernel
theorem d_H_addToState_85 : decode b_H_addToState 85 = .ok (.aload_n 0, 1) := by decide +kernel
theorem d_H_addToState_86 : decode b_H_addToState 86 = .ok (.getfield 27, 3) := by decide +kernel
theorem d_H_addToState_89 : decode b_H_addToState 89 = .ok (.land, 1) := by decide +kernel
