theorem d_O_word2_18 : decode b_O_word2 18 = .ok (.aload_n 0, 1) := by decide +kernel
theorem d_O_word2_19 : decode b_O_word2 19 = .ok (.getfield 18, 3) := by decide +kernel
theorem d_O_word2_22 : decode b_O_word2 22 = .ok (.iload_n 1, 1) := by decide +kernel
theorem d_O_word2_23 : decode b_O_word2 23 = .ok (.iaload, 1) := by decide +kernel
theorem d_O_word2_24 : decode b_O_word2 24 = .ok (.iconst 1, 1) := by decide +kernel
theorem d_O_word2_25 : decode b_O_word2 25 = .ok (.isub, 1) := by decide +kernel
theorem d_O_word2_26 : decode b_O_word2 26 = .ok (.invokestatic 86, 3) := by decide +kernel
theorem d_O_word2_29 : decode b_O_word2 29 = .ok (.iconst 2, 1) := by decide +kernel
theorem d_O_word2_30 : decode b_O_word2 30 = .ok (.invokevirtual 78, 3) := by decide +kernel
theorem d_O_word2_33 : decode b_O_word2 33 = .ok (.ifCond .ne 5, 3) := by decide +kernel
theorem d_O_word2_36 : decode b_O_word2 36 = .ok (.lconst 0, 1) := by decide +kernel
theorem d_O_word2_37 : decode b_O_word2 37 = .ok (.lreturn, 1) := by decide +kernel
theorem d_O_word2_38 : decode b_O_word2 38 = .ok (.lconst 0, 1) := by decide +kernel
theorem d_O_word2_39 : decode b_O_word2 39 = .ok (.lstore_n 3, 1) := by decide +kernel
theorem d_O_word2_40 : decode b_O_word2 40 = .ok (.iload_n 2, 1) := by decide +kernel
theorem d_O_word2_41 : decode b_O_word2 41 = .ok (.istore 5, 2) := by decide +kernel
theorem d_O_word2_43 : decode b_O_word2 43 = .ok (.iload 5, 2) := by decide +kernel
theorem d_O_word2_45 : decode b_O_word2 45 = .ok (.iload_n 2, 1) := by decide +kernel
theorem d_O_word2_46 : decode b_O_word2 46 = .ok (.bipush 8, 2) := by decide +kernel
theorem d_O_word2_48 : decode b_O_word2 48 = .ok (.iadd, 1) := by decide +kernel
theorem d_O_word2_49 : decode b_O_word2 49 = .ok (.if_icmp .ge 44, 3) := by decide +kernel
theorem d_O_word2_52 : decode b_O_word2 52 = .ok (.lload_n 3, 1) := by decide +kernel
theorem d_O_word2_53 : decode b_O_word2 53 = .ok (.bipush 8, 2) := by decide +kernel
theorem d_O_word2_55 : decode b_O_word2 55 = .ok (.lshl, 1) := by decide +kernel
theorem d_O_word2_56 : decode b_O_word2 56 = .ok (.iload 5, 2) := by decide +kernel
theorem d_O_word2_58 : decode b_O_word2 58 = .ok (.aload_n 0, 1) := by decide +kernel
theorem d_O_word2_59 : decode b_O_word2 59 = .ok (.getfield 18, 3) := by decide +kernel
theorem d_O_word2_62 : decode b_O_word2 62 = .ok (.iload_n 1, 1) := by decide +kernel
theorem d_O_word2_63 : decode b_O_word2 63 = .ok (.iaload, 1) := by decide +kernel
theorem d_O_word2_64 : decode b_O_word2 64 = .ok (.if_icmp .ge 20, 3) := by decide +kernel
theorem d_O_word2_67 : decode b_O_word2 67 = .ok (.aload_n 0, 1) := by decide +kernel
theorem d_O_word2_68 : decode b_O_word2 68 = .ok (.getfield 15, 3) := by decide +kernel
theorem d_O_word2_71 : decode b_O_word2 71 = .ok (.iload_n 1, 1) := by decide +kernel
theorem d_O_word2_72 : decode b_O_word2 72 = .ok (.aaload, 1) := by decide +kernel
theorem d_O_word2_73 : decode b_O_word2 73 = .ok (.iload 5, 2) := by decide +kernel
theorem d_O_word2_75 : decode b_O_word2 75 = .ok (.baload, 1) := by decide +kernel
theorem d_O_word2_76 : decode b_O_word2 76 = .ok (.i2l, 1) := by decide +kernel
theorem d_O_word2_77 : decode b_O_word2 77 = .ok (.ldc2_w 90, 3) := by decide +kernel
theorem d_O_word2_80 : decode b_O_word2 80 = .ok (.land, 1) := by decide +kernel
theorem d_O_word2_81 : decode b_O_word2 81 = .ok (.goto 4, 3) := by decide +kernel
theorem d_O_word2_84 : decode b_O_word2 84 = .ok (.lconst 0, 1) := by decide +kernel
theorem d_O_word2_85 : decode b_O_word2 85 = .ok (.lor, 1) := by decide +kernel
theorem d_O_word2_86 : decode b_O_word2 86 = .ok (.lstore_n 3, 1) := by decide +kernel
theorem d_O_word2_87 : decode b_O_word2 87 = .ok (.iinc 5 1, 3) := by decide +kernel
theorem d_O_word2_90 : decode b_O_word2 90 = .ok (.goto (-47), 3) := by decide +kernel
theorem d_O_word2_93 : decode b_O_word2 93 = .ok (.lload_n 3, 1) := by decide +kernel
theorem d_O_word2_94 : decode b_O_word2 94 = .ok (.lreturn, 1) := by decide +kernel
theorem d_O_same_0 : decode b_O_same 0 = .ok (.aload_n 0, 1) := by decide +kernel
theorem d_O_same_1 : decode b_O_same 1 = .ok (.iload_n 1, 1) := by decide +kernel
theorem d_O_same_2 : decode b_O_same 2 = .ok (.iconst 0, 1) := by decide +kernel
theorem d_O_same_3 : decode b_O_same 3 = .ok (.bipush 7, 2) := by decide +kernel
theorem d_O_same_5 : decode b_O_same 5 = .ok (.invokestatic 86, 3) := by decide +kernel
theorem d_O_same_8 : decode b_O_same 8 = .ok (.ifCond .eq 17, 3) := by decide +kernel
theorem d_O_same_11 : decode b_O_same 11 = .ok (.iload_n 2, 1) := by decide +kernel
theorem d_O_same_12 : decode b_O_same 12 = .ok (.iconst 0, 1) := by decide +kernel
theorem d_O_same_13 : decode b_O_same 13 = .ok (.bipush 7, 2) := by decide +kernel
theorem d_O_same_15 : decode b_O_same 15 = .ok (.invokestatic 86, 3) := by decide +kernel
theorem d_O_same_18 : decode b_O_same 18 = .ok (.ifCond .eq 7, 3) := by decide +kernel
theorem d_O_same_21 : decode b_O_same 21 = .ok (.iconst 1, 1) := by decide +kernel
theorem d_O_same_22 : decode b_O_same 22 = .ok (.goto 4, 3) := by decide +kernel
theorem d_O_same_25 : decode b_O_same 25 = .ok (.iconst 0, 1) := by decide +kernel
theorem d_O_same_26 : decode b_O_same 26 = .ok (.iconst 1, 1) := by decide +kernel
theorem d_O_same_27 : decode b_O_same 27 = .ok (.invokevirtual 78, 3) := by decide +kernel
theorem d_O_same_30 : decode b_O_same 30 = .ok (.ifCond .ne 5, 3) := by decide +kernel
theorem d_O_same_33 : decode b_O_same 33 = .ok (.iconst 0, 1) := by decide +kernel
theorem d_O_same_34 : decode b_O_same 34 = .ok (.ireturn, 1) := by decide +kernel
theorem d_O_same_35 : decode b_O_same 35 = .ok (.aload_n 0, 1) := by decide +kernel
theorem d_O_same_36 : decode b_O_same 36 = .ok (.getfield 18, 3) := by decide +kernel
theorem d_O_same_39 : decode b_O_same 39 = .ok (.iload_n 1, 1) := by decide +kernel
theorem d_O_same_40 : decode b_O_same 40 = .ok (.iaload, 1) := by decide +kernel
theorem d_O_same_41 : decode b_O_same 41 = .ok (.aload_n 0, 1) := by decide +kernel
theorem d_O_same_42 : decode b_O_same 42 = .ok (.getfield 18, 3) := by decide +kernel
theorem d_O_same_45 : decode b_O_same 45 = .ok (.iload_n 2, 1) := by decide +kernel
theorem d_O_same_46 : decode b_O_same 46 = .ok (.iaload, 1) := by decide +kernel
theorem d_O_same_47 : decode b_O_same 47 = .ok (.if_icmp .eq 5, 3) := by decide +kernel
theorem d_O_same_50 : decode b_O_same 50 = .ok (.iconst 0, 1) := by decide +kernel
theorem d_O_same_51 : decode b_O_same 51 = .ok (.ireturn, 1) := by decide +kernel
theorem d_O_same_52 : decode b_O_same 52 = .ok (.iconst 1, 1) := by decide +kernel
theorem d_O_same_53 : decode b_O_same 53 = .ok (.istore_n 3, 1) := by decide +kernel
theorem d_O_same_54 : decode b_O_same 54 = .ok (.iconst 0, 1) := by decide +kernel
theorem d_O_same_55 : decode b_O_same 55 = .ok (.istore 4, 2) := by decide +kernel
theorem d_O_same_57 : decode b_O_same 57 = .ok (.iload 4, 2) := by decide +kernel
theorem d_O_same_59 : decode b_O_same 59 = .ok (.aload_n 0, 1) := by decide +kernel
theorem d_O_same_60 : decode b_O_same 60 = .ok (.getfield 18, 3) := by decide +kernel
theorem d_O_same_63 : decode b_O_same 63 = .ok (.iload_n 1, 1) := by decide +kernel
theorem d_O_same_64 : decode b_O_same 64 = .ok (.iaload, 1) := by decide +kernel
theorem d_O_same_65 : decode b_O_same 65 = .ok (.if_icmp .ge 32, 3) := by decide +kernel
theorem d_O_same_68 : decode b_O_same 68 = .ok (.aload_n 0, 1) := by decide +kernel
theorem d_O_same_69 : decode b_O_same 69 = .ok (.getfield 15, 3) := by decide +kernel
theorem d_O_same_72 : decode b_O_same 72 = .ok (.iload_n 1, 1) := by decide +kernel
theorem d_O_same_73 : decode b_O_same 73 = .ok (.aaload, 1) := by decide +kernel
theorem d_O_same_74 : decode b_O_same 74 = .ok (.iload 4, 2) := by decide +kernel
theorem d_O_same_76 : decode b_O_same 76 = .ok (.baload, 1) := by decide +kernel
theorem d_O_same_77 : decode b_O_same 77 = .ok (.aload_n 0, 1) := by decide +kernel
theorem d_O_same_78 : decode b_O_same 78 = .ok (.getfield 15, 3) := by decide +kernel
theorem d_O_same_81 : decode b_O_same 81 = .ok (.iload_n 2, 1) := by decide +kernel
theorem d_O_same_82 : decode b_O_same 82 = .ok (.aaload, 1) := by decide +kernel
theorem d_O_same_83 : decode b_O_same 83 = .ok (.iload 4, 2) := by decide +kernel
theorem d_O_same_85 : decode b_O_same 85 = .ok (.baload, 1) := by decide +kernel
theorem d_O_same_86 : decode b_O_same 86 = .ok (.if_icmp .eq 5, 3) := by decide +kernel
theorem d_O_same_89 : decode b_O_same 89 = .ok (.iconst 0, 1) := by decide +kernel
theorem d_O_same_90 : decode b_O_same 90 = .ok (.istore_n 3, 1) := by decide +kernel
theorem d_O_same_91 : decode b_O_same 91 = .ok (.iinc 4 1, 3) := by decide +kernel
theorem d_O_same_94 : decode b_O_same 94 = .ok (.goto (-37), 3) := by decide +kernel
theorem d_O_same_97 : decode b_O_same 97 = .ok (.iload_n 3, 1) := by decide +kernel
theorem d_O_same_98 : decode b_O_same 98 = .ok (.ireturn, 1) := by decide +kernel
theorem d_O_digest_0 : decode b_O_digest 0 = .ok (.aload_n 0, 1) := by decide +kernel
theorem d_O_digest_1 : decode b_O_digest 1 = .ok (.iload_n 1, 1) := by decide +kernel
theorem d_O_digest_2 : decode b_O_digest 2 = .ok (.iconst 1, 1) := by decide +kernel
theorem d_O_digest_3 : decode b_O_digest 3 = .ok (.bipush 16, 2) := by decide +kernel
theorem d_O_digest_5 : decode b_O_digest 5 = .ok (.invokestatic 86, 3) := by decide +kernel
theorem d_O_digest_8 : decode b_O_digest 8 = .ok (.ifCond .eq 18, 3) := by decide +kernel
theorem d_O_digest_11 : decode b_O_digest 11 = .ok (.iload_n 2, 1) := by decide +kernel
theorem d_O_digest_12 : decode b_O_digest 12 = .ok (.iconst 0, 1) := by decide +kernel
theorem d_O_digest_13 : decode b_O_digest 13 = .ok (.sipush 8192, 3) := by decide +kernel
theorem d_O_digest_16 : decode b_O_digest 16 = .ok (.invokestatic 86, 3) := by decide +kernel
theorem d_O_digest_19 : decode b_O_digest 19 = .ok (.ifCond .eq 7, 3) := by decide +kernel
theorem d_O_digest_22 : decode b_O_digest 22 = .ok (.iconst 1, 1) := by decide +kernel
theorem d_O_digest_23 : decode b_O_digest 23 = .ok (.goto 4, 3) := by decide +kernel
theorem d_O_digest_26 : decode b_O_digest 26 = .ok (.iconst 0, 1) := by decide +kernel
theorem d_O_digest_27 : decode b_O_digest 27 = .ok (.iconst 1, 1) := by decide +kernel
theorem d_O_digest_28 : decode b_O_digest 28 = .ok (.invokevirtual 78, 3) := by decide +kernel
theorem d_O_digest_31 : decode b_O_digest 31 = .ok (.ifCond .ne 5, 3) := by decide +kernel
theorem d_O_digest_34 : decode b_O_digest 34 = .ok (.iconst 0, 1) := by decide +kernel
theorem d_O_digest_35 : decode b_O_digest 35 = .ok (.ireturn, 1) := by decide +kernel
theorem d_O_digest_36 : decode b_O_digest 36 = .ok (.iload_n 1, 1) := by decide +kernel
theorem d_O_digest_37 : decode b_O_digest 37 = .ok (.bipush 13, 2) := by decide +kernel
theorem d_O_digest_39 : decode b_O_digest 39 = .ok (.if_icmp .ne 8, 3) := by decide +kernel
theorem d_O_digest_42 : decode b_O_digest 42 = .ok (.bipush 32, 2) := by decide +kernel
theorem d_O_digest_44 : decode b_O_digest 44 = .ok (.goto 40, 3) := by decide +kernel
theorem d_O_digest_47 : decode b_O_digest 47 = .ok (.iload_n 1, 1) := by decide +kernel
theorem d_O_digest_48 : decode b_O_digest 48 = .ok (.bipush 14, 2) := by decide +kernel
theorem d_O_digest_50 : decode b_O_digest 50 = .ok (.if_icmp .ne 8, 3) := by decide +kernel
theorem d_O_digest_53 : decode b_O_digest 53 = .ok (.bipush 64, 2) := by decide +kernel
theorem d_O_digest_55 : decode b_O_digest 55 = .ok (.goto 29, 3) := by decide +kernel
theorem d_O_digest_58 : decode b_O_digest 58 = .ok (.iload_n 1, 1) := by decide +kernel
theorem d_O_digest_59 : decode b_O_digest 59 = .ok (.bipush 14, 2) := by decide +kernel
theorem d_O_digest_61 : decode b_O_digest 61 = .ok (.if_icmp .gt 15, 3) := by decide +kernel
theorem d_O_digest_64 : decode b_O_digest 64 = .ok (.iload_n 1, 1) := by decide +kernel
theorem d_O_digest_65 : decode b_O_digest 65 = .ok (.bipush 10, 2) := by decide +kernel
theorem d_O_digest_67 : decode b_O_digest 67 = .ok (.if_icmp .le 13, 3) := by decide +kernel
theorem d_O_digest_70 : decode b_O_digest 70 = .ok (.iload_n 1, 1) := by decide +kernel
theorem d_O_digest_71 : decode b_O_digest 71 = .ok (.bipush 13, 2) := by decide +kernel
theorem d_O_digest_73 : decode b_O_digest 73 = .ok (.if_icmp .ge 7, 3) := by decide +kernel
theorem d_O_digest_76 : decode b_O_digest 76 = .ok (.iload_n 2, 1) := by decide +kernel
theorem d_O_digest_77 : decode b_O_digest 77 = .ok (.goto 7, 3) := by decide +kernel
theorem d_O_digest_80 : decode b_O_digest 80 = .ok (.iload_n 1, 1) := by decide +kernel
theorem d_O_digest_81 : decode b_O_digest 81 = .ok (.invokestatic 135, 3) := by decide +kernel
theorem d_O_digest_84 : decode b_O_digest 84 = .ok (.istore_n 3, 1) := by decide +kernel
theorem d_O_digest_85 : decode b_O_digest 85 = .ok (.iload_n 1, 1) := by decide +kernel
theorem d_O_digest_86 : decode b_O_digest 86 = .ok (.bipush 13, 2) := by decide +kernel
theorem d_O_digest_88 : decode b_O_digest 88 = .ok (.if_icmp .ge 41, 3) := by decide +kernel
theorem d_O_digest_91 : decode b_O_digest 91 = .ok (.aload_n 0, 1) := by decide +kernel
theorem d_O_digest_92 : decode b_O_digest 92 = .ok (.iload_n 1, 1) := by decide +kernel
theorem d_O_digest_93 : decode b_O_digest 93 = .ok (.invokevirtual 114, 3) := by decide +kernel
theorem d_O_digest_96 : decode b_O_digest 96 = .ok (.aload_n 0, 1) := by decide +kernel
theorem d_O_digest_97 : decode b_O_digest 97 = .ok (.aload_n 0, 1) := by decide +kernel
theorem d_O_digest_98 : decode b_O_digest 98 = .ok (.getfield 15, 3) := by decide +kernel
theorem d_O_digest_101 : decode b_O_digest 101 = .ok (.iconst 3, 1) := by decide +kernel
theorem d_O_digest_102 : decode b_O_digest 102 = .ok (.aaload, 1) := by decide +kernel
theorem d_O_digest_103 : decode b_O_digest 103 = .ok (.iconst 0, 1) := by decide +kernel
theorem d_O_digest_104 : decode b_O_digest 104 = .ok (.aload_n 0, 1) := by decide +kernel
theorem d_O_digest_105 : decode b_O_digest 105 = .ok (.getfield 18, 3) := by decide +kernel
theorem d_O_digest_108 : decode b_O_digest 108 = .ok (.iconst 3, 1) := by decide +kernel
theorem d_O_digest_109 : decode b_O_digest 109 = .ok (.iaload, 1) := by decide +kernel
theorem d_O_digest_110 : decode b_O_digest 110 = .ok (.invokevirtual 182, 3) := by decide +kernel
theorem d_O_digest_113 : decode b_O_digest 113 = .ok (.aload_n 0, 1) := by decide +kernel
theorem d_O_digest_114 : decode b_O_digest 114 = .ok (.aload_n 0, 1) := by decide +kernel
theorem d_O_digest_115 : decode b_O_digest 115 = .ok (.getfield 15, 3) := by decide +kernel
theorem d_O_digest_118 : decode b_O_digest 118 = .ok (.bipush 6, 2) := by decide +kernel
theorem d_O_digest_120 : decode b_O_digest 120 = .ok (.aaload, 1) := by decide +kernel
theorem d_O_digest_121 : decode b_O_digest 121 = .ok (.iconst 0, 1) := by decide +kernel
theorem d_O_digest_122 : decode b_O_digest 122 = .ok (.iload_n 3, 1) := by decide +kernel
theorem d_O_digest_123 : decode b_O_digest 123 = .ok (.invokevirtual 185, 3) := by decide +kernel
theorem d_O_digest_126 : decode b_O_digest 126 = .ok (.goto 112, 3) := by decide +kernel
theorem d_O_digest_129 : decode b_O_digest 129 = .ok (.iload_n 1, 1) := by decide +kernel
theorem d_O_digest_130 : decode b_O_digest 130 = .ok (.bipush 15, 2) := by decide +kernel
theorem d_O_digest_132 : decode b_O_digest 132 = .ok (.if_icmp .ge 70, 3) := by decide +kernel
theorem d_O_digest_135 : decode b_O_digest 135 = .ok (.iload_n 1, 1) := by decide +kernel
theorem d_O_digest_136 : decode b_O_digest 136 = .ok (.bipush 13, 2) := by decide +kernel
theorem d_O_digest_138 : decode b_O_digest 138 = .ok (.if_icmp .ne 7, 3) := by decide +kernel
theorem d_O_digest_141 : decode b_O_digest 141 = .ok (.iconst 1, 1) := by decide +kernel
theorem d_O_digest_142 : decode b_O_digest 142 = .ok (.goto 4, 3) := by decide +kernel
theorem d_O_digest_145 : decode b_O_digest 145 = .ok (.iconst 3, 1) := by decide +kernel
theorem d_O_digest_146 : decode b_O_digest 146 = .ok (.istore 4, 2) := by decide +kernel
theorem d_O_digest_148 : decode b_O_digest 148 = .ok (.aload_n 0, 1) := by decide +kernel
theorem d_O_digest_149 : decode b_O_digest 149 = .ok (.iload 4, 2) := by decide +kernel
theorem d_O_digest_151 : decode b_O_digest 151 = .ok (.aload_n 0, 1) := by decide +kernel
theorem d_O_digest_152 : decode b_O_digest 152 = .ok (.getfield 15, 3) := by decide +kernel
theorem d_O_digest_155 : decode b_O_digest 155 = .ok (.iconst 0, 1) := by decide +kernel
theorem d_O_digest_156 : decode b_O_digest 156 = .ok (.aaload, 1) := by decide +kernel
theorem d_O_digest_157 : decode b_O_digest 157 = .ok (.iconst 0, 1) := by decide +kernel
theorem d_O_digest_158 : decode b_O_digest 158 = .ok (.aload_n 0, 1) := by decide +kernel
theorem d_O_digest_159 : decode b_O_digest 159 = .ok (.getfield 18, 3) := by decide +kernel
theorem d_O_digest_162 : decode b_O_digest 162 = .ok (.iconst 0, 1) := by decide +kernel
theorem d_O_digest_163 : decode b_O_digest 163 = .ok (.iaload, 1) := by decide +kernel
theorem d_O_digest_164 : decode b_O_digest 164 = .ok (.invokevirtual 192, 3) := by decide +kernel
theorem d_O_digest_167 : decode b_O_digest 167 = .ok (.aload_n 0, 1) := by decide +kernel
theorem d_O_digest_168 : decode b_O_digest 168 = .ok (.aload_n 0, 1) := by decide +kernel
theorem d_O_digest_169 : decode b_O_digest 169 = .ok (.getfield 15, 3) := by decide +kernel
theorem d_O_digest_172 : decode b_O_digest 172 = .ok (.iconst 3, 1) := by decide +kernel
theorem d_O_digest_173 : decode b_O_digest 173 = .ok (.aaload, 1) := by decide +kernel
theorem d_O_digest_174 : decode b_O_digest 174 = .ok (.iconst 0, 1) := by decide +kernel
theorem d_O_digest_175 : decode b_O_digest 175 = .ok (.aload_n 0, 1) := by decide +kernel
theorem d_O_digest_176 : decode b_O_digest 176 = .ok (.getfield 18, 3) := by decide +kernel
theorem d_O_digest_179 : decode b_O_digest 179 = .ok (.iconst 3, 1) := by decide +kernel
theorem d_O_digest_180 : decode b_O_digest 180 = .ok (.iaload, 1) := by decide +kernel
theorem d_O_digest_181 : decode b_O_digest 181 = .ok (.invokevirtual 182, 3) := by decide +kernel
theorem d_O_digest_184 : decode b_O_digest 184 = .ok (.aload_n 0, 1) := by decide +kernel
theorem d_O_digest_185 : decode b_O_digest 185 = .ok (.iload 4, 2) := by decide +kernel
theorem d_O_digest_187 : decode b_O_digest 187 = .ok (.aload_n 0, 1) := by decide +kernel
theorem d_O_digest_188 : decode b_O_digest 188 = .ok (.getfield 15, 3) := by decide +kernel
theorem d_O_digest_191 : decode b_O_digest 191 = .ok (.bipush 6, 2) := by decide +kernel
theorem d_O_digest_193 : decode b_O_digest 193 = .ok (.aaload, 1) := by decide +kernel
theorem d_O_digest_194 : decode b_O_digest 194 = .ok (.iconst 0, 1) := by decide +kernel
theorem d_O_digest_195 : decode b_O_digest 195 = .ok (.iload_n 3, 1) := by decide +kernel
theorem d_O_digest_196 : decode b_O_digest 196 = .ok (.invokevirtual 196, 3) := by decide +kernel
theorem d_O_digest_199 : decode b_O_digest 199 = .ok (.goto 39, 3) := by decide +kernel
theorem d_O_digest_202 : decode b_O_digest 202 = .ok (.aload_n 0, 1) := by decide +kernel
theorem d_O_digest_203 : decode b_O_digest 203 = .ok (.iload_n 1, 1) := by decide +kernel
theorem d_O_digest_204 : decode b_O_digest 204 = .ok (.bipush 15, 2) := by decide +kernel
theorem d_O_digest_206 : decode b_O_digest 206 = .ok (.if_icmp .ne 7, 3) := by decide +kernel
theorem d_O_digest_209 : decode b_O_digest 209 = .ok (.iconst 1, 1) := by decide +kernel
theorem d_O_digest_210 : decode b_O_digest 210 = .ok (.goto 4, 3) := by decide +kernel
theorem d_O_digest_213 : decode b_O_digest 213 = .ok (.iconst 3, 1) := by decide +kernel
theorem d_O_digest_214 : decode b_O_digest 214 = .ok (.aload_n 0, 1) := by decide +kernel
theorem d_O_digest_215 : decode b_O_digest 215 = .ok (.getfield 15, 3) := by decide +kernel
theorem d_O_digest_218 : decode b_O_digest 218 = .ok (.iconst 3, 1) := by decide +kernel
theorem d_O_digest_219 : decode b_O_digest 219 = .ok (.aaload, 1) := by decide +kernel
theorem d_O_digest_220 : decode b_O_digest 220 = .ok (.aload_n 0, 1) := by decide +kernel
theorem d_O_digest_221 : decode b_O_digest 221 = .ok (.getfield 18, 3) := by decide +kernel
theorem d_O_digest_224 : decode b_O_digest 224 = .ok (.iconst 3, 1) := by decide +kernel
theorem d_O_digest_225 : decode b_O_digest 225 = .ok (.iaload, 1) := by decide +kernel
theorem d_O_digest_226 : decode b_O_digest 226 = .ok (.aload_n 0, 1) := by decide +kernel
theorem d_O_digest_227 : decode b_O_digest 227 = .ok (.getfield 15, 3) := by decide +kernel
theorem d_O_digest_230 : decode b_O_digest 230 = .ok (.bipush 6, 2) := by decide +kernel
theorem d_O_digest_232 : decode b_O_digest 232 = .ok (.aaload, 1) := by decide +kernel
theorem d_O_digest_233 : decode b_O_digest 233 = .ok (.iconst 0, 1) := by decide +kernel
theorem d_O_digest_234 : decode b_O_digest 234 = .ok (.iload_n 3, 1) := by decide +kernel
theorem d_O_digest_235 : decode b_O_digest 235 = .ok (.invokevirtual 199, 3) := by decide +kernel
theorem d_O_digest_238 : decode b_O_digest 238 = .ok (.aload_n 0, 1) := by decide +kernel
theorem d_O_digest_239 : decode b_O_digest 239 = .ok (.getfield 18, 3) := by decide +kernel
theorem d_O_digest_242 : decode b_O_digest 242 = .ok (.bipush 6, 2) := by decide +kernel
theorem d_O_digest_244 : decode b_O_digest 244 = .ok (.iload_n 3, 1) := by decide +kernel
theorem d_O_digest_245 : decode b_O_digest 245 = .ok (.iastore, 1) := by decide +kernel
theorem d_O_digest_246 : decode b_O_digest 246 = .ok (.iload_n 3, 1) := by decide +kernel
theorem d_O_digest_247 : decode b_O_digest 247 = .ok (.ireturn, 1) := by decide +kernel
theorem d_O_put2_0 : decode b_O_put2 0 = .ok (.iconst 0, 1) := by decide +kernel
theorem d_O_put2_1 : decode b_O_put2 1 = .ok (.istore 4, 2) := by decide +kernel
theorem d_O_put2_3 : decode b_O_put2 3 = .ok (.iload 4, 2) := by decide +kernel
theorem d_O_put2_5 : decode b_O_put2 5 = .ok (.iload_n 3, 1) := by decide +kernel
theorem d_O_put2_6 : decode b_O_put2 6 = .ok (.if_icmp .ge 19, 3) := by decide +kernel
theorem d_O_put2_9 : decode b_O_put2 9 = .ok (.aload_n 0, 1) := by decide +kernel
theorem d_O_put2_10 : decode b_O_put2 10 = .ok (.aload_n 1, 1) := by decide +kernel
theorem d_O_put2_11 : decode b_O_put2 11 = .ok (.iload_n 2, 1) := by decide +kernel
theorem d_O_put2_12 : decode b_O_put2 12 = .ok (.iload 4, 2) := by decide +kernel
theorem d_O_put2_14 : decode b_O_put2 14 = .ok (.iadd, 1) := by decide +kernel
theorem d_O_put2_15 : decode b_O_put2 15 = .ok (.baload, 1) := by decide +kernel
theorem d_O_put2_16 : decode b_O_put2 16 = .ok (.invokevirtual 119, 3) := by decide +kernel
theorem d_O_put2_19 : decode b_O_put2 19 = .ok (.iinc 4 1, 3) := by decide +kernel
theorem d_O_put2_22 : decode b_O_put2 22 = .ok (.goto (-19), 3) := by decide +kernel
theorem d_O_put2_25 : decode b_O_put2 25 = .ok (.return_, 1) := by decide +kernel
theorem d_O_give_0 : decode b_O_give 0 = .ok (.aload_n 0, 1) := by decide +kernel
theorem d_O_give_1 : decode b_O_give 1 = .ok (.invokevirtual 122, 3) := by decide +kernel
theorem d_O_give_4 : decode b_O_give 4 = .ok (.iconst 0, 1) := by decide +kernel
theorem d_O_give_5 : decode b_O_give 5 = .ok (.istore 4, 2) := by decide +kernel
theorem d_O_give_7 : decode b_O_give 7 = .ok (.iload 4, 2) := by decide +kernel
theorem d_O_give_9 : decode b_O_give 9 = .ok (.iload_n 3, 1) := by decide +kernel
theorem d_O_give_10 : decode b_O_give 10 = .ok (.if_icmp .ge 92, 3) := by decide +kernel
theorem d_O_give_13 : decode b_O_give 13 = .ok (.aload_n 0, 1) := by decide +kernel
theorem d_O_give_14 : decode b_O_give 14 = .ok (.invokevirtual 146, 3) := by decide +kernel
theorem d_O_give_17 : decode b_O_give 17 = .ok (.ifCond .eq 17, 3) := by decide +kernel
theorem d_O_give_20 : decode b_O_give 20 = .ok (.aload_n 1, 1) := by decide +kernel
theorem d_O_give_21 : decode b_O_give 21 = .ok (.iload_n 2, 1) := by decide +kernel
theorem d_O_give_22 : decode b_O_give 22 = .ok (.iload 4, 2) := by decide +kernel
theorem d_O_give_24 : decode b_O_give 24 = .ok (.iadd, 1) := by decide +kernel
theorem d_O_give_25 : decode b_O_give 25 = .ok (.aload_n 0, 1) := by decide +kernel
theorem d_O_give_26 : decode b_O_give 26 = .ok (.invokevirtual 178, 3) := by decide +kernel
theorem d_O_give_29 : decode b_O_give 29 = .ok (.i2b, 1) := by decide +kernel
theorem d_O_give_30 : decode b_O_give 30 = .ok (.bastore, 1) := by decide +kernel
theorem d_O_give_31 : decode b_O_give 31 = .ok (.goto 65, 3) := by decide +kernel
theorem d_O_give_34 : decode b_O_give 34 = .ok (.aload_n 1, 1) := by decide +kernel
theorem d_O_give_35 : decode b_O_give 35 = .ok (.iload_n 2, 1) := by decide +kernel
theorem d_O_give_36 : decode b_O_give 36 = .ok (.iload 4, 2) := by decide +kernel
theorem d_O_give_38 : decode b_O_give 38 = .ok (.iadd, 1) := by decide +kernel
theorem d_O_give_39 : decode b_O_give 39 = .ok (.aload_n 0, 1) := by decide +kernel
theorem d_O_give_40 : decode b_O_give 40 = .ok (.getfield 141, 3) := by decide +kernel
theorem d_O_give_43 : decode b_O_give 43 = .ok (.bipush 64, 2) := by decide +kernel
theorem d_O_give_45 : decode b_O_give 45 = .ok (.if_icmp .ne 26, 3) := by decide +kernel
theorem d_O_give_48 : decode b_O_give 48 = .ok (.aload_n 0, 1) := by decide +kernel
theorem d_O_give_49 : decode b_O_give 49 = .ok (.getfield 47, 3) := by decide +kernel
theorem d_O_give_52 : decode b_O_give 52 = .ok (.iload 4, 2) := by decide +kernel
theorem d_O_give_54 : decode b_O_give 54 = .ok (.iconst 4, 1) := by decide +kernel
theorem d_O_give_55 : decode b_O_give 55 = .ok (.idiv, 1) := by decide +kernel
theorem d_O_give_56 : decode b_O_give 56 = .ok (.laload, 1) := by decide +kernel
theorem d_O_give_57 : decode b_O_give 57 = .ok (.bipush 24, 2) := by decide +kernel
theorem d_O_give_59 : decode b_O_give 59 = .ok (.bipush 8, 2) := by decide +kernel
theorem d_O_give_61 : decode b_O_give 61 = .ok (.iload 4, 2) := by decide +kernel
theorem d_O_give_63 : decode b_O_give 63 = .ok (.iconst 4, 1) := by decide +kernel
theorem d_O_give_64 : decode b_O_give 64 = .ok (.irem, 1) := by decide +kernel
