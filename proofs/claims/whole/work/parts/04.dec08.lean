theorem d_O_named_28 : decode b_O_named 28 = .ok (.iinc 4 1, 3) := by decide +kernel
theorem d_O_named_31 : decode b_O_named 31 = .ok (.goto (-23), 3) := by decide +kernel
theorem d_O_named_34 : decode b_O_named 34 = .ok (.aload_n 0, 1) := by decide +kernel
theorem d_O_named_35 : decode b_O_named 35 = .ok (.bipush 83, 2) := by decide +kernel
theorem d_O_named_37 : decode b_O_named 37 = .ok (.invokevirtual 119, 3) := by decide +kernel
theorem d_O_named_40 : decode b_O_named 40 = .ok (.aload_n 0, 1) := by decide +kernel
theorem d_O_named_41 : decode b_O_named 41 = .ok (.bipush 72, 2) := by decide +kernel
theorem d_O_named_43 : decode b_O_named 43 = .ok (.invokevirtual 119, 3) := by decide +kernel
theorem d_O_named_46 : decode b_O_named 46 = .ok (.aload_n 0, 1) := by decide +kernel
theorem d_O_named_47 : decode b_O_named 47 = .ok (.bipush 65, 2) := by decide +kernel
theorem d_O_named_49 : decode b_O_named 49 = .ok (.invokevirtual 119, 3) := by decide +kernel
theorem d_O_named_52 : decode b_O_named 52 = .ok (.aload_n 0, 1) := by decide +kernel
theorem d_O_named_53 : decode b_O_named 53 = .ok (.bipush 45, 2) := by decide +kernel
theorem d_O_named_55 : decode b_O_named 55 = .ok (.invokevirtual 119, 3) := by decide +kernel
theorem d_O_named_58 : decode b_O_named 58 = .ok (.aload_n 0, 1) := by decide +kernel
theorem d_O_named_59 : decode b_O_named 59 = .ok (.bipush 53, 2) := by decide +kernel
theorem d_O_named_61 : decode b_O_named 61 = .ok (.invokevirtual 119, 3) := by decide +kernel
theorem d_O_named_64 : decode b_O_named 64 = .ok (.aload_n 0, 1) := by decide +kernel
theorem d_O_named_65 : decode b_O_named 65 = .ok (.bipush 49, 2) := by decide +kernel
theorem d_O_named_67 : decode b_O_named 67 = .ok (.invokevirtual 119, 3) := by decide +kernel
theorem d_O_named_70 : decode b_O_named 70 = .ok (.aload_n 0, 1) := by decide +kernel
theorem d_O_named_71 : decode b_O_named 71 = .ok (.bipush 50, 2) := by decide +kernel
theorem d_O_named_73 : decode b_O_named 73 = .ok (.invokevirtual 119, 3) := by decide +kernel
theorem d_O_named_76 : decode b_O_named 76 = .ok (.aload_n 0, 1) := by decide +kernel
theorem d_O_named_77 : decode b_O_named 77 = .ok (.bipush 47, 2) := by decide +kernel
theorem d_O_named_79 : decode b_O_named 79 = .ok (.invokevirtual 119, 3) := by decide +kernel
theorem d_O_named_82 : decode b_O_named 82 = .ok (.aload_n 0, 1) := by decide +kernel
theorem d_O_named_83 : decode b_O_named 83 = .ok (.bipush 50, 2) := by decide +kernel
theorem d_O_named_85 : decode b_O_named 85 = .ok (.invokevirtual 119, 3) := by decide +kernel
theorem d_O_named_88 : decode b_O_named 88 = .ok (.aload_n 0, 1) := by decide +kernel
theorem d_O_named_89 : decode b_O_named 89 = .ok (.iload_n 2, 1) := by decide +kernel
theorem d_O_named_90 : decode b_O_named 90 = .ok (.invokevirtual 119, 3) := by decide +kernel
theorem d_O_named_93 : decode b_O_named 93 = .ok (.aload_n 0, 1) := by decide +kernel
theorem d_O_named_94 : decode b_O_named 94 = .ok (.iload_n 3, 1) := by decide +kernel
theorem d_O_named_95 : decode b_O_named 95 = .ok (.invokevirtual 119, 3) := by decide +kernel
theorem d_O_named_98 : decode b_O_named 98 = .ok (.aload_n 0, 1) := by decide +kernel
theorem d_O_named_99 : decode b_O_named 99 = .ok (.invokevirtual 122, 3) := by decide +kernel
theorem d_O_named_102 : decode b_O_named 102 = .ok (.iconst 0, 1) := by decide +kernel
theorem d_O_named_103 : decode b_O_named 103 = .ok (.istore 4, 2) := by decide +kernel
theorem d_O_named_105 : decode b_O_named 105 = .ok (.iload 4, 2) := by decide +kernel
theorem d_O_named_107 : decode b_O_named 107 = .ok (.bipush 8, 2) := by decide +kernel
theorem d_O_named_109 : decode b_O_named 109 = .ok (.if_icmp .ge 20, 3) := by decide +kernel
theorem d_O_named_112 : decode b_O_named 112 = .ok (.aload_n 1, 1) := by decide +kernel
theorem d_O_named_113 : decode b_O_named 113 = .ok (.iload 4, 2) := by decide +kernel
theorem d_O_named_115 : decode b_O_named 115 = .ok (.aload_n 0, 1) := by decide +kernel
theorem d_O_named_116 : decode b_O_named 116 = .ok (.getfield 47, 3) := by decide +kernel
theorem d_O_named_119 : decode b_O_named 119 = .ok (.iload 4, 2) := by decide +kernel
theorem d_O_named_121 : decode b_O_named 121 = .ok (.laload, 1) := by decide +kernel
theorem d_O_named_122 : decode b_O_named 122 = .ok (.lastore, 1) := by decide +kernel
theorem d_O_named_123 : decode b_O_named 123 = .ok (.iinc 4 1, 3) := by decide +kernel
theorem d_O_named_126 : decode b_O_named 126 = .ok (.goto (-21), 3) := by decide +kernel
theorem d_O_named_129 : decode b_O_named 129 = .ok (.return_, 1) := by decide +kernel
theorem d_O_begin_0 : decode b_O_begin 0 = .ok (.aload_n 0, 1) := by decide +kernel
theorem d_O_begin_1 : decode b_O_begin 1 = .ok (.iload_n 1, 1) := by decide +kernel
theorem d_O_begin_2 : decode b_O_begin 2 = .ok (.putfield 125, 3) := by decide +kernel
theorem d_O_begin_5 : decode b_O_begin 5 = .ok (.aload_n 0, 1) := by decide +kernel
theorem d_O_begin_6 : decode b_O_begin 6 = .ok (.iconst 0, 1) := by decide +kernel
theorem d_O_begin_7 : decode b_O_begin 7 = .ok (.putfield 128, 3) := by decide +kernel
theorem d_O_begin_10 : decode b_O_begin 10 = .ok (.aload_n 0, 1) := by decide +kernel
theorem d_O_begin_11 : decode b_O_begin 11 = .ok (.lconst 0, 1) := by decide +kernel
theorem d_O_begin_12 : decode b_O_begin 12 = .ok (.putfield 131, 3) := by decide +kernel
theorem d_O_begin_15 : decode b_O_begin 15 = .ok (.iconst 0, 1) := by decide +kernel
theorem d_O_begin_16 : decode b_O_begin 16 = .ok (.istore_n 2, 1) := by decide +kernel
theorem d_O_begin_17 : decode b_O_begin 17 = .ok (.iload_n 2, 1) := by decide +kernel
theorem d_O_begin_18 : decode b_O_begin 18 = .ok (.bipush 25, 2) := by decide +kernel
theorem d_O_begin_20 : decode b_O_begin 20 = .ok (.if_icmp .ge 16, 3) := by decide +kernel
theorem d_O_begin_23 : decode b_O_begin 23 = .ok (.aload_n 0, 1) := by decide +kernel
theorem d_O_begin_24 : decode b_O_begin 24 = .ok (.getfield 47, 3) := by decide +kernel
theorem d_O_begin_27 : decode b_O_begin 27 = .ok (.iload_n 2, 1) := by decide +kernel
theorem d_O_begin_28 : decode b_O_begin 28 = .ok (.lconst 0, 1) := by decide +kernel
theorem d_O_begin_29 : decode b_O_begin 29 = .ok (.lastore, 1) := by decide +kernel
theorem d_O_begin_30 : decode b_O_begin 30 = .ok (.iinc 2 1, 3) := by decide +kernel
theorem d_O_begin_33 : decode b_O_begin 33 = .ok (.goto (-16), 3) := by decide +kernel
theorem d_O_begin_36 : decode b_O_begin 36 = .ok (.aload_n 0, 1) := by decide +kernel
theorem d_O_begin_37 : decode b_O_begin 37 = .ok (.iload_n 1, 1) := by decide +kernel
theorem d_O_begin_38 : decode b_O_begin 38 = .ok (.bipush 11, 2) := by decide +kernel
theorem d_O_begin_40 : decode b_O_begin 40 = .ok (.if_icmp .ne 9, 3) := by decide +kernel
theorem d_O_begin_43 : decode b_O_begin 43 = .ok (.sipush 168, 3) := by decide +kernel
theorem d_O_begin_46 : decode b_O_begin 46 = .ok (.goto 38, 3) := by decide +kernel
theorem d_O_begin_49 : decode b_O_begin 49 = .ok (.iload_n 1, 1) := by decide +kernel
theorem d_O_begin_50 : decode b_O_begin 50 = .ok (.bipush 12, 2) := by decide +kernel
theorem d_O_begin_52 : decode b_O_begin 52 = .ok (.if_icmp .ne 9, 3) := by decide +kernel
theorem d_O_begin_55 : decode b_O_begin 55 = .ok (.sipush 136, 3) := by decide +kernel
theorem d_O_begin_58 : decode b_O_begin 58 = .ok (.goto 26, 3) := by decide +kernel
theorem d_O_begin_61 : decode b_O_begin 61 = .ok (.iload_n 1, 1) := by decide +kernel
theorem d_O_begin_62 : decode b_O_begin 62 = .ok (.bipush 6, 2) := by decide +kernel
theorem d_O_begin_64 : decode b_O_begin 64 = .ok (.if_icmp .le 16, 3) := by decide +kernel
theorem d_O_begin_67 : decode b_O_begin 67 = .ok (.sipush 200, 3) := by decide +kernel
theorem d_O_begin_70 : decode b_O_begin 70 = .ok (.iconst 2, 1) := by decide +kernel
theorem d_O_begin_71 : decode b_O_begin 71 = .ok (.iload_n 1, 1) := by decide +kernel
theorem d_O_begin_72 : decode b_O_begin 72 = .ok (.invokestatic 135, 3) := by decide +kernel
theorem d_O_begin_75 : decode b_O_begin 75 = .ok (.imul, 1) := by decide +kernel
theorem d_O_begin_76 : decode b_O_begin 76 = .ok (.isub, 1) := by decide +kernel
theorem d_O_begin_77 : decode b_O_begin 77 = .ok (.goto 7, 3) := by decide +kernel
theorem d_O_begin_80 : decode b_O_begin 80 = .ok (.iload_n 1, 1) := by decide +kernel
theorem d_O_begin_81 : decode b_O_begin 81 = .ok (.invokestatic 138, 3) := by decide +kernel
theorem d_O_begin_84 : decode b_O_begin 84 = .ok (.putfield 141, 3) := by decide +kernel
theorem d_O_begin_87 : decode b_O_begin 87 = .ok (.iconst 0, 1) := by decide +kernel
theorem d_O_begin_88 : decode b_O_begin 88 = .ok (.istore_n 2, 1) := by decide +kernel
theorem d_O_begin_89 : decode b_O_begin 89 = .ok (.iload_n 2, 1) := by decide +kernel
theorem d_O_begin_90 : decode b_O_begin 90 = .ok (.bipush 8, 2) := by decide +kernel
theorem d_O_begin_92 : decode b_O_begin 92 = .ok (.if_icmp .ge 111, 3) := by decide +kernel
theorem d_O_begin_95 : decode b_O_begin 95 = .ok (.iload_n 1, 1) := by decide +kernel
theorem d_O_begin_96 : decode b_O_begin 96 = .ok (.bipush 7, 2) := by decide +kernel
theorem d_O_begin_98 : decode b_O_begin 98 = .ok (.if_icmp .ge 105, 3) := by decide +kernel
theorem d_O_begin_101 : decode b_O_begin 101 = .ok (.aload_n 0, 1) := by decide +kernel
theorem d_O_begin_102 : decode b_O_begin 102 = .ok (.getfield 47, 3) := by decide +kernel
theorem d_O_begin_105 : decode b_O_begin 105 = .ok (.iload_n 2, 1) := by decide +kernel
theorem d_O_begin_106 : decode b_O_begin 106 = .ok (.iload_n 1, 1) := by decide +kernel
theorem d_O_begin_107 : decode b_O_begin 107 = .ok (.iconst 1, 1) := by decide +kernel
theorem d_O_begin_108 : decode b_O_begin 108 = .ok (.if_icmp .ne 15, 3) := by decide +kernel
theorem d_O_begin_111 : decode b_O_begin 111 = .ok (.aload_n 0, 1) := by decide +kernel
theorem d_O_begin_112 : decode b_O_begin 112 = .ok (.getfield 22, 3) := by decide +kernel
theorem d_O_begin_115 : decode b_O_begin 115 = .ok (.iload_n 2, 1) := by decide +kernel
theorem d_O_begin_116 : decode b_O_begin 116 = .ok (.laload, 1) := by decide +kernel
theorem d_O_begin_117 : decode b_O_begin 117 = .ok (.bipush 32, 2) := by decide +kernel
theorem d_O_begin_119 : decode b_O_begin 119 = .ok (.lushr, 1) := by decide +kernel
theorem d_O_begin_120 : decode b_O_begin 120 = .ok (.goto 76, 3) := by decide +kernel
theorem d_O_begin_123 : decode b_O_begin 123 = .ok (.iload_n 1, 1) := by decide +kernel
theorem d_O_begin_124 : decode b_O_begin 124 = .ok (.iconst 4, 1) := by decide +kernel
theorem d_O_begin_125 : decode b_O_begin 125 = .ok (.if_icmp .ne 19, 3) := by decide +kernel
theorem d_O_begin_128 : decode b_O_begin 128 = .ok (.aload_n 0, 1) := by decide +kernel
theorem d_O_begin_129 : decode b_O_begin 129 = .ok (.getfield 22, 3) := by decide +kernel
theorem d_O_begin_132 : decode b_O_begin 132 = .ok (.bipush 8, 2) := by decide +kernel
theorem d_O_begin_134 : decode b_O_begin 134 = .ok (.iload_n 2, 1) := by decide +kernel
theorem d_O_begin_135 : decode b_O_begin 135 = .ok (.iadd, 1) := by decide +kernel
theorem d_O_begin_136 : decode b_O_begin 136 = .ok (.laload, 1) := by decide +kernel
theorem d_O_begin_137 : decode b_O_begin 137 = .ok (.ldc2_w 144, 3) := by decide +kernel
theorem d_O_begin_140 : decode b_O_begin 140 = .ok (.land, 1) := by decide +kernel
theorem d_O_begin_141 : decode b_O_begin 141 = .ok (.goto 55, 3) := by decide +kernel
theorem d_O_begin_144 : decode b_O_begin 144 = .ok (.iload_n 1, 1) := by decide +kernel
theorem d_O_begin_145 : decode b_O_begin 145 = .ok (.iconst 2, 1) := by decide +kernel
theorem d_O_begin_146 : decode b_O_begin 146 = .ok (.if_icmp .ne 15, 3) := by decide +kernel
theorem d_O_begin_149 : decode b_O_begin 149 = .ok (.aload_n 0, 1) := by decide +kernel
theorem d_O_begin_150 : decode b_O_begin 150 = .ok (.getfield 22, 3) := by decide +kernel
theorem d_O_begin_153 : decode b_O_begin 153 = .ok (.bipush 8, 2) := by decide +kernel
theorem d_O_begin_155 : decode b_O_begin 155 = .ok (.iload_n 2, 1) := by decide +kernel
theorem d_O_begin_156 : decode b_O_begin 156 = .ok (.iadd, 1) := by decide +kernel
theorem d_O_begin_157 : decode b_O_begin 157 = .ok (.laload, 1) := by decide +kernel
theorem d_O_begin_158 : decode b_O_begin 158 = .ok (.goto 38, 3) := by decide +kernel
theorem d_O_begin_161 : decode b_O_begin 161 = .ok (.iload_n 1, 1) := by decide +kernel
theorem d_O_begin_162 : decode b_O_begin 162 = .ok (.iconst 5, 1) := by decide +kernel
theorem d_O_begin_163 : decode b_O_begin 163 = .ok (.if_icmp .ne 12, 3) := by decide +kernel
theorem d_O_begin_166 : decode b_O_begin 166 = .ok (.aload_n 0, 1) := by decide +kernel
theorem d_O_begin_167 : decode b_O_begin 167 = .ok (.getfield 29, 3) := by decide +kernel
theorem d_O_begin_170 : decode b_O_begin 170 = .ok (.iload_n 2, 1) := by decide +kernel
theorem d_O_begin_171 : decode b_O_begin 171 = .ok (.laload, 1) := by decide +kernel
theorem d_O_begin_172 : decode b_O_begin 172 = .ok (.goto 24, 3) := by decide +kernel
theorem d_O_begin_175 : decode b_O_begin 175 = .ok (.iload_n 1, 1) := by decide +kernel
theorem d_O_begin_176 : decode b_O_begin 176 = .ok (.bipush 6, 2) := by decide +kernel
theorem d_O_begin_178 : decode b_O_begin 178 = .ok (.if_icmp .ne 12, 3) := by decide +kernel
theorem d_O_begin_181 : decode b_O_begin 181 = .ok (.aload_n 0, 1) := by decide +kernel
theorem d_O_begin_182 : decode b_O_begin 182 = .ok (.getfield 32, 3) := by decide +kernel
theorem d_O_begin_185 : decode b_O_begin 185 = .ok (.iload_n 2, 1) := by decide +kernel
theorem d_O_begin_186 : decode b_O_begin 186 = .ok (.laload, 1) := by decide +kernel
theorem d_O_begin_187 : decode b_O_begin 187 = .ok (.goto 9, 3) := by decide +kernel
theorem d_O_begin_190 : decode b_O_begin 190 = .ok (.aload_n 0, 1) := by decide +kernel
theorem d_O_begin_191 : decode b_O_begin 191 = .ok (.getfield 22, 3) := by decide +kernel
theorem d_O_begin_194 : decode b_O_begin 194 = .ok (.iload_n 2, 1) := by decide +kernel
theorem d_O_begin_195 : decode b_O_begin 195 = .ok (.laload, 1) := by decide +kernel
theorem d_O_begin_196 : decode b_O_begin 196 = .ok (.lastore, 1) := by decide +kernel
theorem d_O_begin_197 : decode b_O_begin 197 = .ok (.iinc 2 1, 3) := by decide +kernel
theorem d_O_begin_200 : decode b_O_begin 200 = .ok (.goto (-111), 3) := by decide +kernel
theorem d_O_begin_203 : decode b_O_begin 203 = .ok (.return_, 1) := by decide +kernel
theorem d_O_digestOf_0 : decode b_O_digestOf 0 = .ok (.iload_n 0, 1) := by decide +kernel
theorem d_O_digestOf_1 : decode b_O_digestOf 1 = .ok (.tableswitch 72 1 12 #[63, 66, 69, 72, 72, 63, 72, 63, 66, 69, 63, 69], 63) := by decide +kernel
theorem d_O_digestOf_64 : decode b_O_digestOf 64 = .ok (.bipush 32, 2) := by decide +kernel
theorem d_O_digestOf_66 : decode b_O_digestOf 66 = .ok (.ireturn, 1) := by decide +kernel
theorem d_O_digestOf_67 : decode b_O_digestOf 67 = .ok (.bipush 48, 2) := by decide +kernel
theorem d_O_digestOf_69 : decode b_O_digestOf 69 = .ok (.ireturn, 1) := by decide +kernel
theorem d_O_digestOf_70 : decode b_O_digestOf 70 = .ok (.bipush 64, 2) := by decide +kernel
theorem d_O_digestOf_72 : decode b_O_digestOf 72 = .ok (.ireturn, 1) := by decide +kernel
theorem d_O_digestOf_73 : decode b_O_digestOf 73 = .ok (.bipush 28, 2) := by decide +kernel
theorem d_O_digestOf_75 : decode b_O_digestOf 75 = .ok (.ireturn, 1) := by decide +kernel
theorem d_O_blockOf_0 : decode b_O_blockOf 0 = .ok (.iload_n 0, 1) := by decide +kernel
theorem d_O_blockOf_1 : decode b_O_blockOf 1 = .ok (.iconst 1, 1) := by decide +kernel
theorem d_O_blockOf_2 : decode b_O_blockOf 2 = .ok (.if_icmp .eq 8, 3) := by decide +kernel
theorem d_O_blockOf_5 : decode b_O_blockOf 5 = .ok (.iload_n 0, 1) := by decide +kernel
theorem d_O_blockOf_6 : decode b_O_blockOf 6 = .ok (.iconst 4, 1) := by decide +kernel
theorem d_O_blockOf_7 : decode b_O_blockOf 7 = .ok (.if_icmp .ne 8, 3) := by decide +kernel
theorem d_O_blockOf_10 : decode b_O_blockOf 10 = .ok (.bipush 64, 2) := by decide +kernel
theorem d_O_blockOf_12 : decode b_O_blockOf 12 = .ok (.goto 6, 3) := by decide +kernel
theorem d_O_blockOf_15 : decode b_O_blockOf 15 = .ok (.sipush 128, 3) := by decide +kernel
theorem d_O_blockOf_18 : decode b_O_blockOf 18 = .ok (.ireturn, 1) := by decide +kernel
theorem d_O_put_0 : decode b_O_put 0 = .ok (.aload_n 0, 1) := by decide +kernel
theorem d_O_put_1 : decode b_O_put 1 = .ok (.invokevirtual 146, 3) := by decide +kernel
theorem d_O_put_4 : decode b_O_put 4 = .ok (.ifCond .eq 15, 3) := by decide +kernel
theorem d_O_put_7 : decode b_O_put 7 = .ok (.aload_n 0, 1) := by decide +kernel
theorem d_O_put_8 : decode b_O_put 8 = .ok (.aload_n 0, 1) := by decide +kernel
theorem d_O_put_9 : decode b_O_put 9 = .ok (.getfield 128, 3) := by decide +kernel
theorem d_O_put_12 : decode b_O_put 12 = .ok (.iload_n 1, 1) := by decide +kernel
theorem d_O_put_13 : decode b_O_put 13 = .ok (.invokevirtual 150, 3) := by decide +kernel
theorem d_O_put_16 : decode b_O_put 16 = .ok (.goto 14, 3) := by decide +kernel
theorem d_O_put_19 : decode b_O_put 19 = .ok (.aload_n 0, 1) := by decide +kernel
theorem d_O_put_20 : decode b_O_put 20 = .ok (.getfield 59, 3) := by decide +kernel
theorem d_O_put_23 : decode b_O_put 23 = .ok (.aload_n 0, 1) := by decide +kernel
theorem d_O_put_24 : decode b_O_put 24 = .ok (.getfield 128, 3) := by decide +kernel
theorem d_O_put_27 : decode b_O_put 27 = .ok (.iload_n 1, 1) := by decide +kernel
theorem d_O_put_28 : decode b_O_put 28 = .ok (.i2b, 1) := by decide +kernel
theorem d_O_put_29 : decode b_O_put 29 = .ok (.bastore, 1) := by decide +kernel
theorem d_O_put_30 : decode b_O_put 30 = .ok (.aload_n 0, 1) := by decide +kernel
theorem d_O_put_31 : decode b_O_put 31 = .ok (.dup, 1) := by decide +kernel
theorem d_O_put_32 : decode b_O_put 32 = .ok (.getfield 128, 3) := by decide +kernel
theorem d_O_put_35 : decode b_O_put 35 = .ok (.iconst 1, 1) := by decide +kernel
theorem d_O_put_36 : decode b_O_put 36 = .ok (.iadd, 1) := by decide +kernel
theorem d_O_put_37 : decode b_O_put 37 = .ok (.putfield 128, 3) := by decide +kernel
theorem d_O_put_40 : decode b_O_put 40 = .ok (.aload_n 0, 1) := by decide +kernel
theorem d_O_put_41 : decode b_O_put 41 = .ok (.dup, 1) := by decide +kernel
theorem d_O_put_42 : decode b_O_put 42 = .ok (.getfield 131, 3) := by decide +kernel
theorem d_O_put_45 : decode b_O_put 45 = .ok (.lconst 1, 1) := by decide +kernel
theorem d_O_put_46 : decode b_O_put 46 = .ok (.ladd, 1) := by decide +kernel
theorem d_O_put_47 : decode b_O_put 47 = .ok (.putfield 131, 3) := by decide +kernel
theorem d_O_put_50 : decode b_O_put 50 = .ok (.aload_n 0, 1) := by decide +kernel
theorem d_O_put_51 : decode b_O_put 51 = .ok (.getfield 128, 3) := by decide +kernel
theorem d_O_put_54 : decode b_O_put 54 = .ok (.aload_n 0, 1) := by decide +kernel
theorem d_O_put_55 : decode b_O_put 55 = .ok (.getfield 141, 3) := by decide +kernel
theorem d_O_put_58 : decode b_O_put 58 = .ok (.if_icmp .ne 42, 3) := by decide +kernel
theorem d_O_put_61 : decode b_O_put 61 = .ok (.aload_n 0, 1) := by decide +kernel
theorem d_O_put_62 : decode b_O_put 62 = .ok (.invokevirtual 146, 3) := by decide +kernel
theorem d_O_put_65 : decode b_O_put 65 = .ok (.ifCond .eq 10, 3) := by decide +kernel
theorem d_O_put_68 : decode b_O_put 68 = .ok (.aload_n 0, 1) := by decide +kernel
theorem d_O_put_69 : decode b_O_put 69 = .ok (.invokevirtual 154, 3) := by decide +kernel
theorem d_O_put_72 : decode b_O_put 72 = .ok (.goto 23, 3) := by decide +kernel
theorem d_O_put_75 : decode b_O_put 75 = .ok (.aload_n 0, 1) := by decide +kernel
theorem d_O_put_76 : decode b_O_put 76 = .ok (.getfield 141, 3) := by decide +kernel
theorem d_O_put_79 : decode b_O_put 79 = .ok (.bipush 64, 2) := by decide +kernel
theorem d_O_put_81 : decode b_O_put 81 = .ok (.if_icmp .ne 10, 3) := by decide +kernel
theorem d_O_put_84 : decode b_O_put 84 = .ok (.aload_n 0, 1) := by decide +kernel
theorem d_O_put_85 : decode b_O_put 85 = .ok (.invokevirtual 157, 3) := by decide +kernel
theorem d_O_put_88 : decode b_O_put 88 = .ok (.goto 7, 3) := by decide +kernel
theorem d_O_put_91 : decode b_O_put 91 = .ok (.aload_n 0, 1) := by decide +kernel
theorem d_O_put_92 : decode b_O_put 92 = .ok (.invokevirtual 160, 3) := by decide +kernel
theorem d_O_put_95 : decode b_O_put 95 = .ok (.aload_n 0, 1) := by decide +kernel
theorem d_O_put_96 : decode b_O_put 96 = .ok (.iconst 0, 1) := by decide +kernel
theorem d_O_put_97 : decode b_O_put 97 = .ok (.putfield 128, 3) := by decide +kernel
theorem d_O_put_100 : decode b_O_put 100 = .ok (.return_, 1) := by decide +kernel
theorem d_O_sponge_0 : decode b_O_sponge 0 = .ok (.aload_n 0, 1) := by decide +kernel
theorem d_O_sponge_1 : decode b_O_sponge 1 = .ok (.getfield 125, 3) := by decide +kernel
theorem d_O_sponge_4 : decode b_O_sponge 4 = .ok (.bipush 6, 2) := by decide +kernel
theorem d_O_sponge_6 : decode b_O_sponge 6 = .ok (.if_icmp .le 7, 3) := by decide +kernel
theorem d_O_sponge_9 : decode b_O_sponge 9 = .ok (.iconst 1, 1) := by decide +kernel
theorem d_O_sponge_10 : decode b_O_sponge 10 = .ok (.goto 4, 3) := by decide +kernel
theorem d_O_sponge_13 : decode b_O_sponge 13 = .ok (.iconst 0, 1) := by decide +kernel
theorem d_O_sponge_14 : decode b_O_sponge 14 = .ok (.ireturn, 1) := by decide +kernel
theorem d_O_flip_0 : decode b_O_flip 0 = .ok (.aload_n 0, 1) := by decide +kernel
theorem d_O_flip_1 : decode b_O_flip 1 = .ok (.getfield 47, 3) := by decide +kernel
theorem d_O_flip_4 : decode b_O_flip 4 = .ok (.iload_n 1, 1) := by decide +kernel
theorem d_O_flip_5 : decode b_O_flip 5 = .ok (.bipush 8, 2) := by decide +kernel
theorem d_O_flip_7 : decode b_O_flip 7 = .ok (.idiv, 1) := by decide +kernel
theorem d_O_flip_8 : decode b_O_flip 8 = .ok (.dup2, 1) := by decide +kernel
theorem d_O_flip_9 : decode b_O_flip 9 = .ok (.laload, 1) := by decide +kernel
theorem d_O_flip_10 : decode b_O_flip 10 = .ok (.iload_n 2, 1) := by decide +kernel
theorem d_O_flip_11 : decode b_O_flip 11 = .ok (.i2l, 1) := by decide +kernel
theorem d_O_flip_12 : decode b_O_flip 12 = .ok (.ldc2_w 90, 3) := by decide +kernel
theorem d_O_flip_15 : decode b_O_flip 15 = .ok (.land, 1) := by decide +kernel
theorem d_O_flip_16 : decode b_O_flip 16 = .ok (.bipush 8, 2) := by decide +kernel
theorem d_O_flip_18 : decode b_O_flip 18 = .ok (.iload_n 1, 1) := by decide +kernel
theorem d_O_flip_19 : decode b_O_flip 19 = .ok (.bipush 8, 2) := by decide +kernel
theorem d_O_flip_21 : decode b_O_flip 21 = .ok (.irem, 1) := by decide +kernel
theorem d_O_flip_22 : decode b_O_flip 22 = .ok (.imul, 1) := by decide +kernel
theorem d_O_flip_23 : decode b_O_flip 23 = .ok (.lshl, 1) := by decide +kernel
theorem d_O_flip_24 : decode b_O_flip 24 = .ok (.lxor, 1) := by decide +kernel
theorem d_O_flip_25 : decode b_O_flip 25 = .ok (.lastore, 1) := by decide +kernel
theorem d_O_flip_26 : decode b_O_flip 26 = .ok (.return_, 1) := by decide +kernel
theorem d_O_permute_0 : decode b_O_permute 0 = .ok (.iconst 0, 1) := by decide +kernel
theorem d_O_permute_1 : decode b_O_permute 1 = .ok (.istore_n 1, 1) := by decide +kernel
theorem d_O_permute_2 : decode b_O_permute 2 = .ok (.iload_n 1, 1) := by decide +kernel
theorem d_O_permute_3 : decode b_O_permute 3 = .ok (.bipush 24, 2) := by decide +kernel
theorem d_O_permute_5 : decode b_O_permute 5 = .ok (.if_icmp .ge 287, 3) := by decide +kernel
theorem d_O_permute_8 : decode b_O_permute 8 = .ok (.iconst 0, 1) := by decide +kernel
theorem d_O_permute_9 : decode b_O_permute 9 = .ok (.istore_n 2, 1) := by decide +kernel
theorem d_O_permute_10 : decode b_O_permute 10 = .ok (.iload_n 2, 1) := by decide +kernel
theorem d_O_permute_11 : decode b_O_permute 11 = .ok (.iconst 5, 1) := by decide +kernel
theorem d_O_permute_12 : decode b_O_permute 12 = .ok (.if_icmp .ge 48, 3) := by decide +kernel
theorem d_O_permute_15 : decode b_O_permute 15 = .ok (.aload_n 0, 1) := by decide +kernel
theorem d_O_permute_16 : decode b_O_permute 16 = .ok (.getfield 53, 3) := by decide +kernel
theorem d_O_permute_19 : decode b_O_permute 19 = .ok (.iload_n 2, 1) := by decide +kernel
theorem d_O_permute_20 : decode b_O_permute 20 = .ok (.lconst 0, 1) := by decide +kernel
theorem d_O_permute_21 : decode b_O_permute 21 = .ok (.lastore, 1) := by decide +kernel
theorem d_O_permute_22 : decode b_O_permute 22 = .ok (.iconst 0, 1) := by decide +kernel
theorem d_O_permute_23 : decode b_O_permute 23 = .ok (.istore_n 3, 1) := by decide +kernel
theorem d_O_permute_24 : decode b_O_permute 24 = .ok (.iload_n 3, 1) := by decide +kernel
theorem d_O_permute_25 : decode b_O_permute 25 = .ok (.iconst 5, 1) := by decide +kernel
theorem d_O_permute_26 : decode b_O_permute 26 = .ok (.if_icmp .ge 28, 3) := by decide +kernel
theorem d_O_permute_29 : decode b_O_permute 29 = .ok (.aload_n 0, 1) := by decide +kernel
theorem d_O_permute_30 : decode b_O_permute 30 = .ok (.getfield 53, 3) := by decide +kernel
theorem d_O_permute_33 : decode b_O_permute 33 = .ok (.iload_n 2, 1) := by decide +kernel
theorem d_O_permute_34 : decode b_O_permute 34 = .ok (.dup2, 1) := by decide +kernel
theorem d_O_permute_35 : decode b_O_permute 35 = .ok (.laload, 1) := by decide +kernel
theorem d_O_permute_36 : decode b_O_permute 36 = .ok (.aload_n 0, 1) := by decide +kernel
theorem d_O_permute_37 : decode b_O_permute 37 = .ok (.getfield 47, 3) := by decide +kernel
theorem d_O_permute_40 : decode b_O_permute 40 = .ok (.iload_n 2, 1) := by decide +kernel
theorem d_O_permute_41 : decode b_O_permute 41 = .ok (.iconst 5, 1) := by decide +kernel
theorem d_O_permute_42 : decode b_O_permute 42 = .ok (.iload_n 3, 1) := by decide +kernel
theorem d_O_permute_43 : decode b_O_permute 43 = .ok (.imul, 1) := by decide +kernel
theorem d_O_permute_44 : decode b_O_permute 44 = .ok (.iadd, 1) := by decide +kernel
theorem d_O_permute_45 : decode b_O_permute 45 = .ok (.laload, 1) := by decide +kernel
theorem d_O_permute_46 : decode b_O_permute 46 = .ok (.lxor, 1) := by decide +kernel
theorem d_O_permute_47 : decode b_O_permute 47 = .ok (.lastore, 1) := by decide +kernel
theorem d_O_permute_48 : decode b_O_permute 48 = .ok (.iinc 3 1, 3) := by decide +kernel
