theorem d_D_hashWithCounter_5 : decode b_D_hashWithCounter 5 = .ok (.aaload, 1) := by decide +kernel
theorem d_D_hashWithCounter_6 : decode b_D_hashWithCounter 6 = .ok (.astore 4, 2) := by decide +kernel
theorem d_D_hashWithCounter_8 : decode b_D_hashWithCounter 8 = .ok (.aload_n 0, 1) := by decide +kernel
theorem d_D_hashWithCounter_9 : decode b_D_hashWithCounter 9 = .ok (.getfield 11, 3) := by decide +kernel
theorem d_D_hashWithCounter_12 : decode b_D_hashWithCounter 12 = .ok (.bipush 6, 2) := by decide +kernel
theorem d_D_hashWithCounter_14 : decode b_D_hashWithCounter 14 = .ok (.aaload, 1) := by decide +kernel
theorem d_D_hashWithCounter_15 : decode b_D_hashWithCounter 15 = .ok (.astore 5, 2) := by decide +kernel
theorem d_D_hashWithCounter_17 : decode b_D_hashWithCounter 17 = .ok (.aload 4, 2) := by decide +kernel
theorem d_D_hashWithCounter_19 : decode b_D_hashWithCounter 19 = .ok (.getfield 66, 3) := by decide +kernel
theorem d_D_hashWithCounter_22 : decode b_D_hashWithCounter 22 = .ok (.aload_n 1, 1) := by decide +kernel
theorem d_D_hashWithCounter_23 : decode b_D_hashWithCounter 23 = .ok (.getfield 46, 3) := by decide +kernel
theorem d_D_hashWithCounter_26 : decode b_D_hashWithCounter 26 = .ok (.iconst 1, 1) := by decide +kernel
theorem d_D_hashWithCounter_27 : decode b_D_hashWithCounter 27 = .ok (.isub, 1) := by decide +kernel
theorem d_D_hashWithCounter_28 : decode b_D_hashWithCounter 28 = .ok (.iand, 1) := by decide +kernel
theorem d_D_hashWithCounter_29 : decode b_D_hashWithCounter 29 = .ok (.istore 6, 2) := by decide +kernel
theorem d_D_hashWithCounter_31 : decode b_D_hashWithCounter 31 = .ok (.aload_n 1, 1) := by decide +kernel
theorem d_D_hashWithCounter_32 : decode b_D_hashWithCounter 32 = .ok (.aload_n 2, 1) := by decide +kernel
theorem d_D_hashWithCounter_33 : decode b_D_hashWithCounter 33 = .ok (.invokevirtual 151, 3) := by decide +kernel
theorem d_D_hashWithCounter_36 : decode b_D_hashWithCounter 36 = .ok (.aload_n 1, 1) := by decide +kernel
theorem d_D_hashWithCounter_37 : decode b_D_hashWithCounter 37 = .ok (.aload 4, 2) := by decide +kernel
theorem d_D_hashWithCounter_39 : decode b_D_hashWithCounter 39 = .ok (.getfield 100, 3) := by decide +kernel
theorem d_D_hashWithCounter_42 : decode b_D_hashWithCounter 42 = .ok (.iconst 0, 1) := by decide +kernel
theorem d_D_hashWithCounter_43 : decode b_D_hashWithCounter 43 = .ok (.aload 4, 2) := by decide +kernel
theorem d_D_hashWithCounter_45 : decode b_D_hashWithCounter 45 = .ok (.getfield 66, 3) := by decide +kernel
theorem d_D_hashWithCounter_48 : decode b_D_hashWithCounter 48 = .ok (.iload 6, 2) := by decide +kernel
theorem d_D_hashWithCounter_50 : decode b_D_hashWithCounter 50 = .ok (.isub, 1) := by decide +kernel
theorem d_D_hashWithCounter_51 : decode b_D_hashWithCounter 51 = .ok (.invokevirtual 155, 3) := by decide +kernel
theorem d_D_hashWithCounter_54 : decode b_D_hashWithCounter 54 = .ok (.aload_n 1, 1) := by decide +kernel
theorem d_D_hashWithCounter_55 : decode b_D_hashWithCounter 55 = .ok (.invokevirtual 187, 3) := by decide +kernel
theorem d_D_hashWithCounter_58 : decode b_D_hashWithCounter 58 = .ok (.iconst 0, 1) := by decide +kernel
theorem d_D_hashWithCounter_59 : decode b_D_hashWithCounter 59 = .ok (.istore 7, 2) := by decide +kernel
theorem d_D_hashWithCounter_61 : decode b_D_hashWithCounter 61 = .ok (.iconst 0, 1) := by decide +kernel
theorem d_D_hashWithCounter_62 : decode b_D_hashWithCounter 62 = .ok (.istore 8, 2) := by decide +kernel
theorem d_D_hashWithCounter_64 : decode b_D_hashWithCounter 64 = .ok (.iload 8, 2) := by decide +kernel
theorem d_D_hashWithCounter_66 : decode b_D_hashWithCounter 66 = .ok (.sipush 256, 3) := by decide +kernel
theorem d_D_hashWithCounter_69 : decode b_D_hashWithCounter 69 = .ok (.if_icmp .ge 87, 3) := by decide +kernel
theorem d_D_hashWithCounter_72 : decode b_D_hashWithCounter 72 = .ok (.iload 7, 2) := by decide +kernel
theorem d_D_hashWithCounter_74 : decode b_D_hashWithCounter 74 = .ok (.iload_n 3, 1) := by decide +kernel
theorem d_D_hashWithCounter_75 : decode b_D_hashWithCounter 75 = .ok (.if_icmp .ge 81, 3) := by decide +kernel
theorem d_D_hashWithCounter_78 : decode b_D_hashWithCounter 78 = .ok (.aload_n 1, 1) := by decide +kernel
theorem d_D_hashWithCounter_79 : decode b_D_hashWithCounter 79 = .ok (.getfield 57, 3) := by decide +kernel
theorem d_D_hashWithCounter_82 : decode b_D_hashWithCounter 82 = .ok (.iload_n 3, 1) := by decide +kernel
theorem d_D_hashWithCounter_83 : decode b_D_hashWithCounter 83 = .ok (.iload 7, 2) := by decide +kernel
theorem d_D_hashWithCounter_85 : decode b_D_hashWithCounter 85 = .ok (.isub, 1) := by decide +kernel
theorem d_D_hashWithCounter_86 : decode b_D_hashWithCounter 86 = .ok (.invokestatic 190, 3) := by decide +kernel
theorem d_D_hashWithCounter_89 : decode b_D_hashWithCounter 89 = .ok (.istore 9, 2) := by decide +kernel
theorem d_D_hashWithCounter_91 : decode b_D_hashWithCounter 91 = .ok (.aload_n 0, 1) := by decide +kernel
theorem d_D_hashWithCounter_92 : decode b_D_hashWithCounter 92 = .ok (.iload 8, 2) := by decide +kernel
theorem d_D_hashWithCounter_94 : decode b_D_hashWithCounter 94 = .ok (.invokevirtual 196, 3) := by decide +kernel
theorem d_D_hashWithCounter_97 : decode b_D_hashWithCounter 97 = .ok (.aload_n 1, 1) := by decide +kernel
theorem d_D_hashWithCounter_98 : decode b_D_hashWithCounter 98 = .ok (.invokevirtual 199, 3) := by decide +kernel
theorem d_D_hashWithCounter_101 : decode b_D_hashWithCounter 101 = .ok (.aload_n 1, 1) := by decide +kernel
theorem d_D_hashWithCounter_102 : decode b_D_hashWithCounter 102 = .ok (.aload 4, 2) := by decide +kernel
theorem d_D_hashWithCounter_104 : decode b_D_hashWithCounter 104 = .ok (.getfield 100, 3) := by decide +kernel
theorem d_D_hashWithCounter_107 : decode b_D_hashWithCounter 107 = .ok (.aload 4, 2) := by decide +kernel
theorem d_D_hashWithCounter_109 : decode b_D_hashWithCounter 109 = .ok (.getfield 66, 3) := by decide +kernel
theorem d_D_hashWithCounter_112 : decode b_D_hashWithCounter 112 = .ok (.iload 6, 2) := by decide +kernel
theorem d_D_hashWithCounter_114 : decode b_D_hashWithCounter 114 = .ok (.isub, 1) := by decide +kernel
theorem d_D_hashWithCounter_115 : decode b_D_hashWithCounter 115 = .ok (.iload 6, 2) := by decide +kernel
theorem d_D_hashWithCounter_117 : decode b_D_hashWithCounter 117 = .ok (.invokevirtual 155, 3) := by decide +kernel
theorem d_D_hashWithCounter_120 : decode b_D_hashWithCounter 120 = .ok (.aload_n 1, 1) := by decide +kernel
theorem d_D_hashWithCounter_121 : decode b_D_hashWithCounter 121 = .ok (.aload_n 0, 1) := by decide +kernel
theorem d_D_hashWithCounter_122 : decode b_D_hashWithCounter 122 = .ok (.getfield 63, 3) := by decide +kernel
theorem d_D_hashWithCounter_125 : decode b_D_hashWithCounter 125 = .ok (.iconst 0, 1) := by decide +kernel
theorem d_D_hashWithCounter_126 : decode b_D_hashWithCounter 126 = .ok (.iconst 4, 1) := by decide +kernel
theorem d_D_hashWithCounter_127 : decode b_D_hashWithCounter 127 = .ok (.invokevirtual 155, 3) := by decide +kernel
theorem d_D_hashWithCounter_130 : decode b_D_hashWithCounter 130 = .ok (.aload_n 1, 1) := by decide +kernel
theorem d_D_hashWithCounter_131 : decode b_D_hashWithCounter 131 = .ok (.aload 5, 2) := by decide +kernel
theorem d_D_hashWithCounter_133 : decode b_D_hashWithCounter 133 = .ok (.getfield 100, 3) := by decide +kernel
theorem d_D_hashWithCounter_136 : decode b_D_hashWithCounter 136 = .ok (.iload 7, 2) := by decide +kernel
theorem d_D_hashWithCounter_138 : decode b_D_hashWithCounter 138 = .ok (.iload 9, 2) := by decide +kernel
theorem d_D_hashWithCounter_140 : decode b_D_hashWithCounter 140 = .ok (.invokevirtual 159, 3) := by decide +kernel
theorem d_D_hashWithCounter_143 : decode b_D_hashWithCounter 143 = .ok (.iload 7, 2) := by decide +kernel
theorem d_D_hashWithCounter_145 : decode b_D_hashWithCounter 145 = .ok (.iload 9, 2) := by decide +kernel
theorem d_D_hashWithCounter_147 : decode b_D_hashWithCounter 147 = .ok (.iadd, 1) := by decide +kernel
theorem d_D_hashWithCounter_148 : decode b_D_hashWithCounter 148 = .ok (.istore 7, 2) := by decide +kernel
theorem d_D_hashWithCounter_150 : decode b_D_hashWithCounter 150 = .ok (.iinc 8 1, 3) := by decide +kernel
theorem d_D_hashWithCounter_153 : decode b_D_hashWithCounter 153 = .ok (.goto (-89), 3) := by decide +kernel
theorem d_D_hashWithCounter_156 : decode b_D_hashWithCounter 156 = .ok (.aload 5, 2) := by decide +kernel
theorem d_D_hashWithCounter_158 : decode b_D_hashWithCounter 158 = .ok (.iload_n 3, 1) := by decide +kernel
theorem d_D_hashWithCounter_159 : decode b_D_hashWithCounter 159 = .ok (.putfield 66, 3) := by decide +kernel
theorem d_D_hashWithCounter_162 : decode b_D_hashWithCounter 162 = .ok (.return_, 1) := by decide +kernel
theorem d_H_setMark_0 : decode b_H_setMark 0 = .ok (.aload_n 0, 1) := by decide +kernel
theorem d_H_setMark_1 : decode b_H_setMark 1 = .ok (.getfield 41, 3) := by decide +kernel
theorem d_H_setMark_4 : decode b_H_setMark 4 = .ok (.iconst 0, 1) := by decide +kernel
theorem d_H_setMark_5 : decode b_H_setMark 5 = .ok (.aload_n 0, 1) := by decide +kernel
theorem d_H_setMark_6 : decode b_H_setMark 6 = .ok (.getfield 48, 3) := by decide +kernel
theorem d_H_setMark_9 : decode b_H_setMark 9 = .ok (.iconst 0, 1) := by decide +kernel
theorem d_H_setMark_10 : decode b_H_setMark 10 = .ok (.bipush 8, 2) := by decide +kernel
theorem d_H_setMark_12 : decode b_H_setMark 12 = .ok (.invokestatic 51, 3) := by decide +kernel
theorem d_H_setMark_15 : decode b_H_setMark 15 = .ok (.aload_n 0, 1) := by decide +kernel
theorem d_H_setMark_16 : decode b_H_setMark 16 = .ok (.aload_n 0, 1) := by decide +kernel
theorem d_H_setMark_17 : decode b_H_setMark 17 = .ok (.getfield 60, 3) := by decide +kernel
theorem d_H_setMark_20 : decode b_H_setMark 20 = .ok (.putfield 66, 3) := by decide +kernel
theorem d_H_setMark_23 : decode b_H_setMark 23 = .ok (.return_, 1) := by decide +kernel
theorem d_D_setCounter_0 : decode b_D_setCounter 0 = .ok (.iconst 0, 1) := by decide +kernel
theorem d_D_setCounter_1 : decode b_D_setCounter 1 = .ok (.istore_n 2, 1) := by decide +kernel
theorem d_D_setCounter_2 : decode b_D_setCounter 2 = .ok (.iload_n 2, 1) := by decide +kernel
theorem d_D_setCounter_3 : decode b_D_setCounter 3 = .ok (.iconst 4, 1) := by decide +kernel
theorem d_D_setCounter_4 : decode b_D_setCounter 4 = .ok (.if_icmp .ge 24, 3) := by decide +kernel
theorem d_D_setCounter_7 : decode b_D_setCounter 7 = .ok (.aload_n 0, 1) := by decide +kernel
theorem d_D_setCounter_8 : decode b_D_setCounter 8 = .ok (.getfield 63, 3) := by decide +kernel
theorem d_D_setCounter_11 : decode b_D_setCounter 11 = .ok (.iload_n 2, 1) := by decide +kernel
theorem d_D_setCounter_12 : decode b_D_setCounter 12 = .ok (.iload_n 1, 1) := by decide +kernel
theorem d_D_setCounter_13 : decode b_D_setCounter 13 = .ok (.bipush 8, 2) := by decide +kernel
theorem d_D_setCounter_15 : decode b_D_setCounter 15 = .ok (.iconst 3, 1) := by decide +kernel
theorem d_D_setCounter_16 : decode b_D_setCounter 16 = .ok (.iload_n 2, 1) := by decide +kernel
theorem d_D_setCounter_17 : decode b_D_setCounter 17 = .ok (.isub, 1) := by decide +kernel
theorem d_D_setCounter_18 : decode b_D_setCounter 18 = .ok (.imul, 1) := by decide +kernel
theorem d_D_setCounter_19 : decode b_D_setCounter 19 = .ok (.iushr, 1) := by decide +kernel
theorem d_D_setCounter_20 : decode b_D_setCounter 20 = .ok (.i2b, 1) := by decide +kernel
theorem d_D_setCounter_21 : decode b_D_setCounter 21 = .ok (.bastore, 1) := by decide +kernel
theorem d_D_setCounter_22 : decode b_D_setCounter 22 = .ok (.iinc 2 1, 3) := by decide +kernel
theorem d_D_setCounter_25 : decode b_D_setCounter 25 = .ok (.goto (-23), 3) := by decide +kernel
theorem d_D_setCounter_28 : decode b_D_setCounter 28 = .ok (.return_, 1) := by decide +kernel
theorem d_H_goToMark_0 : decode b_H_goToMark 0 = .ok (.aload_n 0, 1) := by decide +kernel
theorem d_H_goToMark_1 : decode b_H_goToMark 1 = .ok (.getfield 48, 3) := by decide +kernel
theorem d_H_goToMark_4 : decode b_H_goToMark 4 = .ok (.iconst 0, 1) := by decide +kernel
theorem d_H_goToMark_5 : decode b_H_goToMark 5 = .ok (.aload_n 0, 1) := by decide +kernel
theorem d_H_goToMark_6 : decode b_H_goToMark 6 = .ok (.getfield 41, 3) := by decide +kernel
theorem d_H_goToMark_9 : decode b_H_goToMark 9 = .ok (.iconst 0, 1) := by decide +kernel
theorem d_H_goToMark_10 : decode b_H_goToMark 10 = .ok (.bipush 8, 2) := by decide +kernel
theorem d_H_goToMark_12 : decode b_H_goToMark 12 = .ok (.invokestatic 51, 3) := by decide +kernel
theorem d_H_goToMark_15 : decode b_H_goToMark 15 = .ok (.aload_n 0, 1) := by decide +kernel
theorem d_H_goToMark_16 : decode b_H_goToMark 16 = .ok (.aload_n 0, 1) := by decide +kernel
theorem d_H_goToMark_17 : decode b_H_goToMark 17 = .ok (.getfield 66, 3) := by decide +kernel
theorem d_H_goToMark_20 : decode b_H_goToMark 20 = .ok (.putfield 60, 3) := by decide +kernel
theorem d_H_goToMark_23 : decode b_H_goToMark 23 = .ok (.aload_n 0, 1) := by decide +kernel
theorem d_H_goToMark_24 : decode b_H_goToMark 24 = .ok (.iconst 0, 1) := by decide +kernel
theorem d_H_goToMark_25 : decode b_H_goToMark 25 = .ok (.putfield 57, 3) := by decide +kernel
theorem d_H_goToMark_28 : decode b_H_goToMark 28 = .ok (.return_, 1) := by decide +kernel
theorem d_O_init_0 : decode b_O_init 0 = .ok (.aload_n 0, 1) := by decide +kernel
theorem d_O_init_1 : decode b_O_init 1 = .ok (.invokespecial 1, 3) := by decide +kernel
theorem d_O_init_4 : decode b_O_init 4 = .ok (.aload_n 0, 1) := by decide +kernel
theorem d_O_init_5 : decode b_O_init 5 = .ok (.sipush 8192, 3) := by decide +kernel
theorem d_O_init_8 : decode b_O_init 8 = .ok (.newarray .byte, 2) := by decide +kernel
theorem d_O_init_10 : decode b_O_init 10 = .ok (.putfield 9, 3) := by decide +kernel
theorem d_O_init_13 : decode b_O_init 13 = .ok (.aload_n 0, 1) := by decide +kernel
theorem d_O_init_14 : decode b_O_init 14 = .ok (.bipush 8, 2) := by decide +kernel
theorem d_O_init_16 : decode b_O_init 16 = .ok (.sipush 8192, 3) := by decide +kernel
theorem d_O_init_19 : decode b_O_init 19 = .ok (.multianewarray 13 2, 4) := by decide +kernel
theorem d_O_init_23 : decode b_O_init 23 = .ok (.putfield 15, 3) := by decide +kernel
theorem d_O_init_26 : decode b_O_init 26 = .ok (.aload_n 0, 1) := by decide +kernel
theorem d_O_init_27 : decode b_O_init 27 = .ok (.bipush 8, 2) := by decide +kernel
theorem d_O_init_29 : decode b_O_init 29 = .ok (.newarray .int, 2) := by decide +kernel
theorem d_O_init_31 : decode b_O_init 31 = .ok (.putfield 18, 3) := by decide +kernel
theorem d_O_init_34 : decode b_O_init 34 = .ok (.aload_n 0, 1) := by decide +kernel
theorem d_O_init_35 : decode b_O_init 35 = .ok (.bipush 16, 2) := by decide +kernel
theorem d_O_init_37 : decode b_O_init 37 = .ok (.newarray .long, 2) := by decide +kernel
theorem d_O_init_39 : decode b_O_init 39 = .ok (.putfield 22, 3) := by decide +kernel
theorem d_O_init_42 : decode b_O_init 42 = .ok (.aload_n 0, 1) := by decide +kernel
theorem d_O_init_43 : decode b_O_init 43 = .ok (.bipush 80, 2) := by decide +kernel
theorem d_O_init_45 : decode b_O_init 45 = .ok (.newarray .long, 2) := by decide +kernel
theorem d_O_init_47 : decode b_O_init 47 = .ok (.putfield 26, 3) := by decide +kernel
theorem d_O_init_50 : decode b_O_init 50 = .ok (.aload_n 0, 1) := by decide +kernel
theorem d_O_init_51 : decode b_O_init 51 = .ok (.bipush 8, 2) := by decide +kernel
theorem d_O_init_53 : decode b_O_init 53 = .ok (.newarray .long, 2) := by decide +kernel
theorem d_O_init_55 : decode b_O_init 55 = .ok (.putfield 29, 3) := by decide +kernel
theorem d_O_init_58 : decode b_O_init 58 = .ok (.aload_n 0, 1) := by decide +kernel
theorem d_O_init_59 : decode b_O_init 59 = .ok (.bipush 8, 2) := by decide +kernel
theorem d_O_init_61 : decode b_O_init 61 = .ok (.newarray .long, 2) := by decide +kernel
theorem d_O_init_63 : decode b_O_init 63 = .ok (.putfield 32, 3) := by decide +kernel
theorem d_O_init_66 : decode b_O_init 66 = .ok (.aload_n 0, 1) := by decide +kernel
theorem d_O_init_67 : decode b_O_init 67 = .ok (.bipush 16, 2) := by decide +kernel
theorem d_O_init_69 : decode b_O_init 69 = .ok (.newarray .long, 2) := by decide +kernel
theorem d_O_init_71 : decode b_O_init 71 = .ok (.putfield 35, 3) := by decide +kernel
theorem d_O_init_74 : decode b_O_init 74 = .ok (.aload_n 0, 1) := by decide +kernel
theorem d_O_init_75 : decode b_O_init 75 = .ok (.bipush 16, 2) := by decide +kernel
theorem d_O_init_77 : decode b_O_init 77 = .ok (.newarray .long, 2) := by decide +kernel
theorem d_O_init_79 : decode b_O_init 79 = .ok (.putfield 38, 3) := by decide +kernel
theorem d_O_init_82 : decode b_O_init 82 = .ok (.aload_n 0, 1) := by decide +kernel
theorem d_O_init_83 : decode b_O_init 83 = .ok (.bipush 25, 2) := by decide +kernel
theorem d_O_init_85 : decode b_O_init 85 = .ok (.newarray .int, 2) := by decide +kernel
theorem d_O_init_87 : decode b_O_init 87 = .ok (.putfield 41, 3) := by decide +kernel
theorem d_O_init_90 : decode b_O_init 90 = .ok (.aload_n 0, 1) := by decide +kernel
theorem d_O_init_91 : decode b_O_init 91 = .ok (.bipush 24, 2) := by decide +kernel
theorem d_O_init_93 : decode b_O_init 93 = .ok (.newarray .long, 2) := by decide +kernel
theorem d_O_init_95 : decode b_O_init 95 = .ok (.putfield 44, 3) := by decide +kernel
theorem d_O_init_98 : decode b_O_init 98 = .ok (.aload_n 0, 1) := by decide +kernel
theorem d_O_init_99 : decode b_O_init 99 = .ok (.bipush 25, 2) := by decide +kernel
theorem d_O_init_101 : decode b_O_init 101 = .ok (.newarray .long, 2) := by decide +kernel
theorem d_O_init_103 : decode b_O_init 103 = .ok (.putfield 47, 3) := by decide +kernel
theorem d_O_init_106 : decode b_O_init 106 = .ok (.aload_n 0, 1) := by decide +kernel
theorem d_O_init_107 : decode b_O_init 107 = .ok (.bipush 25, 2) := by decide +kernel
theorem d_O_init_109 : decode b_O_init 109 = .ok (.newarray .long, 2) := by decide +kernel
theorem d_O_init_111 : decode b_O_init 111 = .ok (.putfield 50, 3) := by decide +kernel
theorem d_O_init_114 : decode b_O_init 114 = .ok (.aload_n 0, 1) := by decide +kernel
theorem d_O_init_115 : decode b_O_init 115 = .ok (.iconst 5, 1) := by decide +kernel
theorem d_O_init_116 : decode b_O_init 116 = .ok (.newarray .long, 2) := by decide +kernel
theorem d_O_init_118 : decode b_O_init 118 = .ok (.putfield 53, 3) := by decide +kernel
theorem d_O_init_121 : decode b_O_init 121 = .ok (.aload_n 0, 1) := by decide +kernel
theorem d_O_init_122 : decode b_O_init 122 = .ok (.bipush 80, 2) := by decide +kernel
theorem d_O_init_124 : decode b_O_init 124 = .ok (.newarray .long, 2) := by decide +kernel
theorem d_O_init_126 : decode b_O_init 126 = .ok (.putfield 56, 3) := by decide +kernel
theorem d_O_init_129 : decode b_O_init 129 = .ok (.aload_n 0, 1) := by decide +kernel
theorem d_O_init_130 : decode b_O_init 130 = .ok (.sipush 128, 3) := by decide +kernel
theorem d_O_init_133 : decode b_O_init 133 = .ok (.newarray .byte, 2) := by decide +kernel
theorem d_O_init_135 : decode b_O_init 135 = .ok (.putfield 59, 3) := by decide +kernel
theorem d_O_init_138 : decode b_O_init 138 = .ok (.aload_n 0, 1) := by decide +kernel
theorem d_O_init_139 : decode b_O_init 139 = .ok (.sipush 128, 3) := by decide +kernel
theorem d_O_init_142 : decode b_O_init 142 = .ok (.newarray .byte, 2) := by decide +kernel
theorem d_O_init_144 : decode b_O_init 144 = .ok (.putfield 62, 3) := by decide +kernel
theorem d_O_init_147 : decode b_O_init 147 = .ok (.aload_n 0, 1) := by decide +kernel
theorem d_O_init_148 : decode b_O_init 148 = .ok (.bipush 64, 2) := by decide +kernel
theorem d_O_init_150 : decode b_O_init 150 = .ok (.newarray .byte, 2) := by decide +kernel
theorem d_O_init_152 : decode b_O_init 152 = .ok (.putfield 65, 3) := by decide +kernel
theorem d_O_init_155 : decode b_O_init 155 = .ok (.aload_n 0, 1) := by decide +kernel
theorem d_O_init_156 : decode b_O_init 156 = .ok (.invokevirtual 68, 3) := by decide +kernel
theorem d_O_init_159 : decode b_O_init 159 = .ok (.return_, 1) := by decide +kernel
theorem d_O_constants_0 : decode b_O_constants 0 = .ok (.iconst 0, 1) := by decide +kernel
theorem d_O_constants_1 : decode b_O_constants 1 = .ok (.istore_n 1, 1) := by decide +kernel
theorem d_O_constants_2 : decode b_O_constants 2 = .ok (.iconst 2, 1) := by decide +kernel
theorem d_O_constants_3 : decode b_O_constants 3 = .ok (.istore_n 2, 1) := by decide +kernel
theorem d_O_constants_4 : decode b_O_constants 4 = .ok (.iload_n 1, 1) := by decide +kernel
theorem d_O_constants_5 : decode b_O_constants 5 = .ok (.bipush 80, 2) := by decide +kernel
theorem d_O_constants_7 : decode b_O_constants 7 = .ok (.if_icmp .ge 52, 3) := by decide +kernel
theorem d_O_constants_10 : decode b_O_constants 10 = .ok (.iload_n 2, 1) := by decide +kernel
theorem d_O_constants_11 : decode b_O_constants 11 = .ok (.invokestatic 98, 3) := by decide +kernel
theorem d_O_constants_14 : decode b_O_constants 14 = .ok (.ifCond .ne 6, 3) := by decide +kernel
theorem d_O_constants_17 : decode b_O_constants 17 = .ok (.goto 36, 3) := by decide +kernel
theorem d_O_constants_20 : decode b_O_constants 20 = .ok (.iload_n 1, 1) := by decide +kernel
theorem d_O_constants_21 : decode b_O_constants 21 = .ok (.bipush 16, 2) := by decide +kernel
theorem d_O_constants_23 : decode b_O_constants 23 = .ok (.if_icmp .ge 15, 3) := by decide +kernel
theorem d_O_constants_26 : decode b_O_constants 26 = .ok (.aload_n 0, 1) := by decide +kernel
theorem d_O_constants_27 : decode b_O_constants 27 = .ok (.getfield 22, 3) := by decide +kernel
theorem d_O_constants_30 : decode b_O_constants 30 = .ok (.iload_n 1, 1) := by decide +kernel
theorem d_O_constants_31 : decode b_O_constants 31 = .ok (.aload_n 0, 1) := by decide +kernel
theorem d_O_constants_32 : decode b_O_constants 32 = .ok (.iload_n 2, 1) := by decide +kernel
theorem d_O_constants_33 : decode b_O_constants 33 = .ok (.iconst 2, 1) := by decide +kernel
theorem d_O_constants_34 : decode b_O_constants 34 = .ok (.invokevirtual 102, 3) := by decide +kernel
theorem d_O_constants_37 : decode b_O_constants 37 = .ok (.lastore, 1) := by decide +kernel
theorem d_O_constants_38 : decode b_O_constants 38 = .ok (.aload_n 0, 1) := by decide +kernel
theorem d_O_constants_39 : decode b_O_constants 39 = .ok (.getfield 26, 3) := by decide +kernel
theorem d_O_constants_42 : decode b_O_constants 42 = .ok (.iload_n 1, 1) := by decide +kernel
theorem d_O_constants_43 : decode b_O_constants 43 = .ok (.aload_n 0, 1) := by decide +kernel
theorem d_O_constants_44 : decode b_O_constants 44 = .ok (.iload_n 2, 1) := by decide +kernel
theorem d_O_constants_45 : decode b_O_constants 45 = .ok (.iconst 3, 1) := by decide +kernel
theorem d_O_constants_46 : decode b_O_constants 46 = .ok (.invokevirtual 102, 3) := by decide +kernel
theorem d_O_constants_49 : decode b_O_constants 49 = .ok (.lastore, 1) := by decide +kernel
theorem d_O_constants_50 : decode b_O_constants 50 = .ok (.iinc 1 1, 3) := by decide +kernel
theorem d_O_constants_53 : decode b_O_constants 53 = .ok (.iinc 2 1, 3) := by decide +kernel
theorem d_O_constants_56 : decode b_O_constants 56 = .ok (.goto (-52), 3) := by decide +kernel
theorem d_O_constants_59 : decode b_O_constants 59 = .ok (.iconst 1, 1) := by decide +kernel
theorem d_O_constants_60 : decode b_O_constants 60 = .ok (.istore_n 2, 1) := by decide +kernel
theorem d_O_constants_61 : decode b_O_constants 61 = .ok (.iconst 0, 1) := by decide +kernel
theorem d_O_constants_62 : decode b_O_constants 62 = .ok (.istore_n 3, 1) := by decide +kernel
theorem d_O_constants_63 : decode b_O_constants 63 = .ok (.iconst 0, 1) := by decide +kernel
theorem d_O_constants_64 : decode b_O_constants 64 = .ok (.istore 4, 2) := by decide +kernel
theorem d_O_constants_66 : decode b_O_constants 66 = .ok (.iload 4, 2) := by decide +kernel
theorem d_O_constants_68 : decode b_O_constants 68 = .ok (.bipush 24, 2) := by decide +kernel
theorem d_O_constants_70 : decode b_O_constants 70 = .ok (.if_icmp .ge 49, 3) := by decide +kernel
theorem d_O_constants_73 : decode b_O_constants 73 = .ok (.aload_n 0, 1) := by decide +kernel
theorem d_O_constants_74 : decode b_O_constants 74 = .ok (.getfield 41, 3) := by decide +kernel
theorem d_O_constants_77 : decode b_O_constants 77 = .ok (.iload_n 2, 1) := by decide +kernel
theorem d_O_constants_78 : decode b_O_constants 78 = .ok (.iconst 5, 1) := by decide +kernel
theorem d_O_constants_79 : decode b_O_constants 79 = .ok (.iload_n 3, 1) := by decide +kernel
theorem d_O_constants_80 : decode b_O_constants 80 = .ok (.imul, 1) := by decide +kernel
theorem d_O_constants_81 : decode b_O_constants 81 = .ok (.iadd, 1) := by decide +kernel
theorem d_O_constants_82 : decode b_O_constants 82 = .ok (.iload 4, 2) := by decide +kernel
theorem d_O_constants_84 : decode b_O_constants 84 = .ok (.iconst 1, 1) := by decide +kernel
theorem d_O_constants_85 : decode b_O_constants 85 = .ok (.iadd, 1) := by decide +kernel
theorem d_O_constants_86 : decode b_O_constants 86 = .ok (.iload 4, 2) := by decide +kernel
theorem d_O_constants_88 : decode b_O_constants 88 = .ok (.iconst 2, 1) := by decide +kernel
theorem d_O_constants_89 : decode b_O_constants 89 = .ok (.iadd, 1) := by decide +kernel
theorem d_O_constants_90 : decode b_O_constants 90 = .ok (.imul, 1) := by decide +kernel
theorem d_O_constants_91 : decode b_O_constants 91 = .ok (.iconst 2, 1) := by decide +kernel
theorem d_O_constants_92 : decode b_O_constants 92 = .ok (.idiv, 1) := by decide +kernel
theorem d_O_constants_93 : decode b_O_constants 93 = .ok (.bipush 64, 2) := by decide +kernel
theorem d_O_constants_95 : decode b_O_constants 95 = .ok (.irem, 1) := by decide +kernel
theorem d_O_constants_96 : decode b_O_constants 96 = .ok (.iastore, 1) := by decide +kernel
theorem d_O_constants_97 : decode b_O_constants 97 = .ok (.iconst 2, 1) := by decide +kernel
theorem d_O_constants_98 : decode b_O_constants 98 = .ok (.iload_n 2, 1) := by decide +kernel
theorem d_O_constants_99 : decode b_O_constants 99 = .ok (.imul, 1) := by decide +kernel
theorem d_O_constants_100 : decode b_O_constants 100 = .ok (.iconst 3, 1) := by decide +kernel
theorem d_O_constants_101 : decode b_O_constants 101 = .ok (.iload_n 3, 1) := by decide +kernel
theorem d_O_constants_102 : decode b_O_constants 102 = .ok (.imul, 1) := by decide +kernel
theorem d_O_constants_103 : decode b_O_constants 103 = .ok (.iadd, 1) := by decide +kernel
theorem d_O_constants_104 : decode b_O_constants 104 = .ok (.iconst 5, 1) := by decide +kernel
theorem d_O_constants_105 : decode b_O_constants 105 = .ok (.irem, 1) := by decide +kernel
theorem d_O_constants_106 : decode b_O_constants 106 = .ok (.istore 5, 2) := by decide +kernel
theorem d_O_constants_108 : decode b_O_constants 108 = .ok (.iload_n 3, 1) := by decide +kernel
theorem d_O_constants_109 : decode b_O_constants 109 = .ok (.istore_n 2, 1) := by decide +kernel
theorem d_O_constants_110 : decode b_O_constants 110 = .ok (.iload 5, 2) := by decide +kernel
theorem d_O_constants_112 : decode b_O_constants 112 = .ok (.istore_n 3, 1) := by decide +kernel
theorem d_O_constants_113 : decode b_O_constants 113 = .ok (.iinc 4 1, 3) := by decide +kernel
theorem d_O_constants_116 : decode b_O_constants 116 = .ok (.goto (-50), 3) := by decide +kernel
theorem d_O_constants_119 : decode b_O_constants 119 = .ok (.iconst 0, 1) := by decide +kernel
theorem d_O_constants_120 : decode b_O_constants 120 = .ok (.istore 4, 2) := by decide +kernel
theorem d_O_constants_122 : decode b_O_constants 122 = .ok (.iload 4, 2) := by decide +kernel
theorem d_O_constants_124 : decode b_O_constants 124 = .ok (.bipush 24, 2) := by decide +kernel
theorem d_O_constants_126 : decode b_O_constants 126 = .ok (.if_icmp .ge 58, 3) := by decide +kernel
theorem d_O_constants_129 : decode b_O_constants 129 = .ok (.iconst 0, 1) := by decide +kernel
theorem d_O_constants_130 : decode b_O_constants 130 = .ok (.istore 5, 2) := by decide +kernel
theorem d_O_constants_132 : decode b_O_constants 132 = .ok (.iload 5, 2) := by decide +kernel
theorem d_O_constants_134 : decode b_O_constants 134 = .ok (.bipush 6, 2) := by decide +kernel
theorem d_O_constants_136 : decode b_O_constants 136 = .ok (.if_icmp .gt 42, 3) := by decide +kernel
theorem d_O_constants_139 : decode b_O_constants 139 = .ok (.iload 5, 2) := by decide +kernel
theorem d_O_constants_141 : decode b_O_constants 141 = .ok (.bipush 7, 2) := by decide +kernel
theorem d_O_constants_143 : decode b_O_constants 143 = .ok (.iload 4, 2) := by decide +kernel
theorem d_O_constants_145 : decode b_O_constants 145 = .ok (.imul, 1) := by decide +kernel
