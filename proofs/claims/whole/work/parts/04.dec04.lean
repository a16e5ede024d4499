theorem d_H_addToState_90 : decode b_H_addToState 90 = .ok (.lastore, 1) := by decide +kernel
theorem d_H_addToState_91 : decode b_H_addToState 91 = .ok (.return_, 1) := by decide +kernel
theorem d_H_finish_0 : decode b_H_finish 0 = .ok (.aload_n 0, 1) := by decide +kernel
theorem d_H_finish_1 : decode b_H_finish 1 = .ok (.getfield 37, 3) := by decide +kernel
theorem d_H_finish_4 : decode b_H_finish 4 = .ok (.aload_n 0, 1) := by decide +kernel
theorem d_H_finish_5 : decode b_H_finish 5 = .ok (.getfield 57, 3) := by decide +kernel
theorem d_H_finish_8 : decode b_H_finish 8 = .ok (.bipush (-128), 2) := by decide +kernel
theorem d_H_finish_10 : decode b_H_finish 10 = .ok (.bastore, 1) := by decide +kernel
theorem d_H_finish_11 : decode b_H_finish 11 = .ok (.aload_n 0, 1) := by decide +kernel
theorem d_H_finish_12 : decode b_H_finish 12 = .ok (.dup, 1) := by decide +kernel
theorem d_H_finish_13 : decode b_H_finish 13 = .ok (.getfield 57, 3) := by decide +kernel
theorem d_H_finish_16 : decode b_H_finish 16 = .ok (.iconst 1, 1) := by decide +kernel
theorem d_H_finish_17 : decode b_H_finish 17 = .ok (.iadd, 1) := by decide +kernel
theorem d_H_finish_18 : decode b_H_finish 18 = .ok (.putfield 57, 3) := by decide +kernel
theorem d_H_finish_21 : decode b_H_finish 21 = .ok (.aload_n 0, 1) := by decide +kernel
theorem d_H_finish_22 : decode b_H_finish 22 = .ok (.getfield 57, 3) := by decide +kernel
theorem d_H_finish_25 : decode b_H_finish 25 = .ok (.aload_n 0, 1) := by decide +kernel
theorem d_H_finish_26 : decode b_H_finish 26 = .ok (.getfield 31, 3) := by decide +kernel
theorem d_H_finish_29 : decode b_H_finish 29 = .ok (.aload_n 0, 1) := by decide +kernel
theorem d_H_finish_30 : decode b_H_finish 30 = .ok (.getfield 31, 3) := by decide +kernel
theorem d_H_finish_33 : decode b_H_finish 33 = .ok (.bipush 8, 2) := by decide +kernel
theorem d_H_finish_35 : decode b_H_finish 35 = .ok (.idiv, 1) := by decide +kernel
theorem d_H_finish_36 : decode b_H_finish 36 = .ok (.isub, 1) := by decide +kernel
theorem d_H_finish_37 : decode b_H_finish 37 = .ok (.if_icmp .le 28, 3) := by decide +kernel
theorem d_H_finish_40 : decode b_H_finish 40 = .ok (.aload_n 0, 1) := by decide +kernel
theorem d_H_finish_41 : decode b_H_finish 41 = .ok (.getfield 37, 3) := by decide +kernel
theorem d_H_finish_44 : decode b_H_finish 44 = .ok (.aload_n 0, 1) := by decide +kernel
theorem d_H_finish_45 : decode b_H_finish 45 = .ok (.getfield 57, 3) := by decide +kernel
theorem d_H_finish_48 : decode b_H_finish 48 = .ok (.aload_n 0, 1) := by decide +kernel
theorem d_H_finish_49 : decode b_H_finish 49 = .ok (.getfield 31, 3) := by decide +kernel
theorem d_H_finish_52 : decode b_H_finish 52 = .ok (.iconst 0, 1) := by decide +kernel
theorem d_H_finish_53 : decode b_H_finish 53 = .ok (.invokestatic 69, 3) := by decide +kernel
theorem d_H_finish_56 : decode b_H_finish 56 = .ok (.aload_n 0, 1) := by decide +kernel
theorem d_H_finish_57 : decode b_H_finish 57 = .ok (.invokevirtual 63, 3) := by decide +kernel
theorem d_H_finish_60 : decode b_H_finish 60 = .ok (.aload_n 0, 1) := by decide +kernel
theorem d_H_finish_61 : decode b_H_finish 61 = .ok (.iconst 0, 1) := by decide +kernel
theorem d_H_finish_62 : decode b_H_finish 62 = .ok (.putfield 57, 3) := by decide +kernel
theorem d_H_finish_65 : decode b_H_finish 65 = .ok (.aload_n 0, 1) := by decide +kernel
theorem d_H_finish_66 : decode b_H_finish 66 = .ok (.getfield 37, 3) := by decide +kernel
theorem d_H_finish_69 : decode b_H_finish 69 = .ok (.aload_n 0, 1) := by decide +kernel
theorem d_H_finish_70 : decode b_H_finish 70 = .ok (.getfield 57, 3) := by decide +kernel
theorem d_H_finish_73 : decode b_H_finish 73 = .ok (.aload_n 0, 1) := by decide +kernel
theorem d_H_finish_74 : decode b_H_finish 74 = .ok (.getfield 31, 3) := by decide +kernel
theorem d_H_finish_77 : decode b_H_finish 77 = .ok (.iconst 0, 1) := by decide +kernel
theorem d_H_finish_78 : decode b_H_finish 78 = .ok (.invokestatic 69, 3) := by decide +kernel
theorem d_H_finish_81 : decode b_H_finish 81 = .ok (.ldc2_w 75, 3) := by decide +kernel
theorem d_H_finish_84 : decode b_H_finish 84 = .ok (.aload_n 0, 1) := by decide +kernel
theorem d_H_finish_85 : decode b_H_finish 85 = .ok (.getfield 60, 3) := by decide +kernel
theorem d_H_finish_88 : decode b_H_finish 88 = .ok (.lmul, 1) := by decide +kernel
theorem d_H_finish_89 : decode b_H_finish 89 = .ok (.lstore 4, 2) := by decide +kernel
theorem d_H_finish_91 : decode b_H_finish 91 = .ok (.iconst 0, 1) := by decide +kernel
theorem d_H_finish_92 : decode b_H_finish 92 = .ok (.istore 6, 2) := by decide +kernel
theorem d_H_finish_94 : decode b_H_finish 94 = .ok (.iload 6, 2) := by decide +kernel
theorem d_H_finish_96 : decode b_H_finish 96 = .ok (.bipush 8, 2) := by decide +kernel
theorem d_H_finish_98 : decode b_H_finish 98 = .ok (.if_icmp .ge 33, 3) := by decide +kernel
theorem d_H_finish_101 : decode b_H_finish 101 = .ok (.aload_n 0, 1) := by decide +kernel
theorem d_H_finish_102 : decode b_H_finish 102 = .ok (.getfield 37, 3) := by decide +kernel
theorem d_H_finish_105 : decode b_H_finish 105 = .ok (.aload_n 0, 1) := by decide +kernel
theorem d_H_finish_106 : decode b_H_finish 106 = .ok (.getfield 31, 3) := by decide +kernel
theorem d_H_finish_109 : decode b_H_finish 109 = .ok (.iconst 1, 1) := by decide +kernel
theorem d_H_finish_110 : decode b_H_finish 110 = .ok (.isub, 1) := by decide +kernel
theorem d_H_finish_111 : decode b_H_finish 111 = .ok (.iload 6, 2) := by decide +kernel
theorem d_H_finish_113 : decode b_H_finish 113 = .ok (.isub, 1) := by decide +kernel
theorem d_H_finish_114 : decode b_H_finish 114 = .ok (.lload 4, 2) := by decide +kernel
theorem d_H_finish_116 : decode b_H_finish 116 = .ok (.bipush 8, 2) := by decide +kernel
theorem d_H_finish_118 : decode b_H_finish 118 = .ok (.iload 6, 2) := by decide +kernel
theorem d_H_finish_120 : decode b_H_finish 120 = .ok (.imul, 1) := by decide +kernel
theorem d_H_finish_121 : decode b_H_finish 121 = .ok (.lushr, 1) := by decide +kernel
theorem d_H_finish_122 : decode b_H_finish 122 = .ok (.l2i, 1) := by decide +kernel
theorem d_H_finish_123 : decode b_H_finish 123 = .ok (.i2b, 1) := by decide +kernel
theorem d_H_finish_124 : decode b_H_finish 124 = .ok (.bastore, 1) := by decide +kernel
theorem d_H_finish_125 : decode b_H_finish 125 = .ok (.iinc 6 1, 3) := by decide +kernel
theorem d_H_finish_128 : decode b_H_finish 128 = .ok (.goto (-34), 3) := by decide +kernel
theorem d_H_finish_131 : decode b_H_finish 131 = .ok (.aload_n 0, 1) := by decide +kernel
theorem d_H_finish_132 : decode b_H_finish 132 = .ok (.invokevirtual 63, 3) := by decide +kernel
theorem d_H_finish_135 : decode b_H_finish 135 = .ok (.aload_n 0, 1) := by decide +kernel
theorem d_H_finish_136 : decode b_H_finish 136 = .ok (.aload_n 1, 1) := by decide +kernel
theorem d_H_finish_137 : decode b_H_finish 137 = .ok (.iload_n 2, 1) := by decide +kernel
theorem d_H_finish_138 : decode b_H_finish 138 = .ok (.iload_n 3, 1) := by decide +kernel
theorem d_H_finish_139 : decode b_H_finish 139 = .ok (.invokevirtual 77, 3) := by decide +kernel
theorem d_H_finish_142 : decode b_H_finish 142 = .ok (.return_, 1) := by decide +kernel
theorem d_H_writeState_0 : decode b_H_writeState 0 = .ok (.iconst 0, 1) := by decide +kernel
theorem d_H_writeState_1 : decode b_H_writeState 1 = .ok (.istore 4, 2) := by decide +kernel
theorem d_H_writeState_3 : decode b_H_writeState 3 = .ok (.iconst 0, 1) := by decide +kernel
theorem d_H_writeState_4 : decode b_H_writeState 4 = .ok (.istore 5, 2) := by decide +kernel
theorem d_H_writeState_6 : decode b_H_writeState 6 = .ok (.iload 5, 2) := by decide +kernel
theorem d_H_writeState_8 : decode b_H_writeState 8 = .ok (.bipush 8, 2) := by decide +kernel
theorem d_H_writeState_10 : decode b_H_writeState 10 = .ok (.if_icmp .ge 56, 3) := by decide +kernel
theorem d_H_writeState_13 : decode b_H_writeState 13 = .ok (.aload_n 0, 1) := by decide +kernel
theorem d_H_writeState_14 : decode b_H_writeState 14 = .ok (.getfield 22, 3) := by decide +kernel
theorem d_H_writeState_17 : decode b_H_writeState 17 = .ok (.bipush 8, 2) := by decide +kernel
theorem d_H_writeState_19 : decode b_H_writeState 19 = .ok (.isub, 1) := by decide +kernel
theorem d_H_writeState_20 : decode b_H_writeState 20 = .ok (.istore 6, 2) := by decide +kernel
theorem d_H_writeState_22 : decode b_H_writeState 22 = .ok (.iload 6, 2) := by decide +kernel
theorem d_H_writeState_24 : decode b_H_writeState 24 = .ok (.ifCond .lt 36, 3) := by decide +kernel
theorem d_H_writeState_27 : decode b_H_writeState 27 = .ok (.iload 4, 2) := by decide +kernel
theorem d_H_writeState_29 : decode b_H_writeState 29 = .ok (.iload_n 3, 1) := by decide +kernel
theorem d_H_writeState_30 : decode b_H_writeState 30 = .ok (.if_icmp .ge 30, 3) := by decide +kernel
theorem d_H_writeState_33 : decode b_H_writeState 33 = .ok (.aload_n 1, 1) := by decide +kernel
theorem d_H_writeState_34 : decode b_H_writeState 34 = .ok (.iload_n 2, 1) := by decide +kernel
theorem d_H_writeState_35 : decode b_H_writeState 35 = .ok (.iload 4, 2) := by decide +kernel
theorem d_H_writeState_37 : decode b_H_writeState 37 = .ok (.iadd, 1) := by decide +kernel
theorem d_H_writeState_38 : decode b_H_writeState 38 = .ok (.aload_n 0, 1) := by decide +kernel
theorem d_H_writeState_39 : decode b_H_writeState 39 = .ok (.getfield 41, 3) := by decide +kernel
theorem d_H_writeState_42 : decode b_H_writeState 42 = .ok (.iload 5, 2) := by decide +kernel
theorem d_H_writeState_44 : decode b_H_writeState 44 = .ok (.laload, 1) := by decide +kernel
theorem d_H_writeState_45 : decode b_H_writeState 45 = .ok (.iload 6, 2) := by decide +kernel
theorem d_H_writeState_47 : decode b_H_writeState 47 = .ok (.lushr, 1) := by decide +kernel
theorem d_H_writeState_48 : decode b_H_writeState 48 = .ok (.l2i, 1) := by decide +kernel
theorem d_H_writeState_49 : decode b_H_writeState 49 = .ok (.i2b, 1) := by decide +kernel
theorem d_H_writeState_50 : decode b_H_writeState 50 = .ok (.bastore, 1) := by decide +kernel
theorem d_H_writeState_51 : decode b_H_writeState 51 = .ok (.iinc 4 1, 3) := by decide +kernel
theorem d_H_writeState_54 : decode b_H_writeState 54 = .ok (.iinc 6 (-8), 3) := by decide +kernel
theorem d_H_writeState_57 : decode b_H_writeState 57 = .ok (.goto (-35), 3) := by decide +kernel
theorem d_H_writeState_60 : decode b_H_writeState 60 = .ok (.iinc 5 1, 3) := by decide +kernel
theorem d_H_writeState_63 : decode b_H_writeState 63 = .ok (.goto (-57), 3) := by decide +kernel
theorem d_H_writeState_66 : decode b_H_writeState 66 = .ok (.return_, 1) := by decide +kernel
theorem d_D_hashInSponge_0 : decode b_D_hashInSponge 0 = .ok (.aload_n 0, 1) := by decide +kernel
theorem d_D_hashInSponge_1 : decode b_D_hashInSponge 1 = .ok (.getfield 11, 3) := by decide +kernel
theorem d_D_hashInSponge_4 : decode b_D_hashInSponge 4 = .ok (.iconst 3, 1) := by decide +kernel
theorem d_D_hashInSponge_5 : decode b_D_hashInSponge 5 = .ok (.aaload, 1) := by decide +kernel
theorem d_D_hashInSponge_6 : decode b_D_hashInSponge 6 = .ok (.astore 4, 2) := by decide +kernel
theorem d_D_hashInSponge_8 : decode b_D_hashInSponge 8 = .ok (.aload_n 0, 1) := by decide +kernel
theorem d_D_hashInSponge_9 : decode b_D_hashInSponge 9 = .ok (.getfield 23, 3) := by decide +kernel
theorem d_D_hashInSponge_12 : decode b_D_hashInSponge 12 = .ok (.iload_n 1, 1) := by decide +kernel
theorem d_D_hashInSponge_13 : decode b_D_hashInSponge 13 = .ok (.iload_n 2, 1) := by decide +kernel
theorem d_D_hashInSponge_14 : decode b_D_hashInSponge 14 = .ok (.aload 4, 2) := by decide +kernel
theorem d_D_hashInSponge_16 : decode b_D_hashInSponge 16 = .ok (.getfield 100, 3) := by decide +kernel
theorem d_D_hashInSponge_19 : decode b_D_hashInSponge 19 = .ok (.aload 4, 2) := by decide +kernel
theorem d_D_hashInSponge_21 : decode b_D_hashInSponge 21 = .ok (.getfield 66, 3) := by decide +kernel
theorem d_D_hashInSponge_24 : decode b_D_hashInSponge 24 = .ok (.invokevirtual 162, 3) := by decide +kernel
theorem d_D_hashInSponge_27 : decode b_D_hashInSponge 27 = .ok (.aload_n 0, 1) := by decide +kernel
theorem d_D_hashInSponge_28 : decode b_D_hashInSponge 28 = .ok (.getfield 23, 3) := by decide +kernel
theorem d_D_hashInSponge_31 : decode b_D_hashInSponge 31 = .ok (.iload_n 1, 1) := by decide +kernel
theorem d_D_hashInSponge_32 : decode b_D_hashInSponge 32 = .ok (.aload_n 0, 1) := by decide +kernel
theorem d_D_hashInSponge_33 : decode b_D_hashInSponge 33 = .ok (.getfield 11, 3) := by decide +kernel
theorem d_D_hashInSponge_36 : decode b_D_hashInSponge 36 = .ok (.bipush 6, 2) := by decide +kernel
theorem d_D_hashInSponge_38 : decode b_D_hashInSponge 38 = .ok (.aaload, 1) := by decide +kernel
theorem d_D_hashInSponge_39 : decode b_D_hashInSponge 39 = .ok (.getfield 100, 3) := by decide +kernel
theorem d_D_hashInSponge_42 : decode b_D_hashInSponge 42 = .ok (.iload_n 3, 1) := by decide +kernel
theorem d_D_hashInSponge_43 : decode b_D_hashInSponge 43 = .ok (.invokevirtual 165, 3) := by decide +kernel
theorem d_D_hashInSponge_46 : decode b_D_hashInSponge 46 = .ok (.aload_n 0, 1) := by decide +kernel
theorem d_D_hashInSponge_47 : decode b_D_hashInSponge 47 = .ok (.getfield 11, 3) := by decide +kernel
theorem d_D_hashInSponge_50 : decode b_D_hashInSponge 50 = .ok (.bipush 6, 2) := by decide +kernel
theorem d_D_hashInSponge_52 : decode b_D_hashInSponge 52 = .ok (.aaload, 1) := by decide +kernel
theorem d_D_hashInSponge_53 : decode b_D_hashInSponge 53 = .ok (.iload_n 3, 1) := by decide +kernel
theorem d_D_hashInSponge_54 : decode b_D_hashInSponge 54 = .ok (.putfield 66, 3) := by decide +kernel
theorem d_D_hashInSponge_57 : decode b_D_hashInSponge 57 = .ok (.return_, 1) := by decide +kernel
theorem d_P_absorb_0 : decode b_P_absorb 0 = .ok (.aload_n 0, 1) := by decide +kernel
theorem d_P_absorb_1 : decode b_P_absorb 1 = .ok (.getfield 9, 3) := by decide +kernel
theorem d_P_absorb_4 : decode b_P_absorb 4 = .ok (.lconst 0, 1) := by decide +kernel
theorem d_P_absorb_5 : decode b_P_absorb 5 = .ok (.invokestatic 21, 3) := by decide +kernel
theorem d_P_absorb_8 : decode b_P_absorb 8 = .ok (.iconst 0, 1) := by decide +kernel
theorem d_P_absorb_9 : decode b_P_absorb 9 = .ok (.istore 5, 2) := by decide +kernel
theorem d_P_absorb_11 : decode b_P_absorb 11 = .ok (.iconst 0, 1) := by decide +kernel
theorem d_P_absorb_12 : decode b_P_absorb 12 = .ok (.istore 6, 2) := by decide +kernel
theorem d_P_absorb_14 : decode b_P_absorb 14 = .ok (.iload 6, 2) := by decide +kernel
theorem d_P_absorb_16 : decode b_P_absorb 16 = .ok (.iload 4, 2) := by decide +kernel
theorem d_P_absorb_18 : decode b_P_absorb 18 = .ok (.if_icmp .ge 39, 3) := by decide +kernel
theorem d_P_absorb_21 : decode b_P_absorb 21 = .ok (.aload_n 0, 1) := by decide +kernel
theorem d_P_absorb_22 : decode b_P_absorb 22 = .ok (.iload 5, 2) := by decide +kernel
theorem d_P_absorb_24 : decode b_P_absorb 24 = .ok (.aload_n 3, 1) := by decide +kernel
theorem d_P_absorb_25 : decode b_P_absorb 25 = .ok (.iload 6, 2) := by decide +kernel
theorem d_P_absorb_27 : decode b_P_absorb 27 = .ok (.baload, 1) := by decide +kernel
theorem d_P_absorb_28 : decode b_P_absorb 28 = .ok (.sipush 255, 3) := by decide +kernel
theorem d_P_absorb_31 : decode b_P_absorb 31 = .ok (.iand, 1) := by decide +kernel
theorem d_P_absorb_32 : decode b_P_absorb 32 = .ok (.invokevirtual 27, 3) := by decide +kernel
theorem d_P_absorb_35 : decode b_P_absorb 35 = .ok (.iinc 5 1, 3) := by decide +kernel
theorem d_P_absorb_38 : decode b_P_absorb 38 = .ok (.iload 5, 2) := by decide +kernel
theorem d_P_absorb_40 : decode b_P_absorb 40 = .ok (.iload_n 1, 1) := by decide +kernel
theorem d_P_absorb_41 : decode b_P_absorb 41 = .ok (.if_icmp .ne 10, 3) := by decide +kernel
theorem d_P_absorb_44 : decode b_P_absorb 44 = .ok (.aload_n 0, 1) := by decide +kernel
theorem d_P_absorb_45 : decode b_P_absorb 45 = .ok (.invokevirtual 31, 3) := by decide +kernel
theorem d_P_absorb_48 : decode b_P_absorb 48 = .ok (.iconst 0, 1) := by decide +kernel
theorem d_P_absorb_49 : decode b_P_absorb 49 = .ok (.istore 5, 2) := by decide +kernel
theorem d_P_absorb_51 : decode b_P_absorb 51 = .ok (.iinc 6 1, 3) := by decide +kernel
theorem d_P_absorb_54 : decode b_P_absorb 54 = .ok (.goto (-40), 3) := by decide +kernel
theorem d_P_absorb_57 : decode b_P_absorb 57 = .ok (.aload_n 0, 1) := by decide +kernel
theorem d_P_absorb_58 : decode b_P_absorb 58 = .ok (.iload 5, 2) := by decide +kernel
theorem d_P_absorb_60 : decode b_P_absorb 60 = .ok (.iload_n 2, 1) := by decide +kernel
theorem d_P_absorb_61 : decode b_P_absorb 61 = .ok (.invokevirtual 27, 3) := by decide +kernel
theorem d_P_absorb_64 : decode b_P_absorb 64 = .ok (.aload_n 0, 1) := by decide +kernel
theorem d_P_absorb_65 : decode b_P_absorb 65 = .ok (.iload_n 1, 1) := by decide +kernel
theorem d_P_absorb_66 : decode b_P_absorb 66 = .ok (.iconst 1, 1) := by decide +kernel
theorem d_P_absorb_67 : decode b_P_absorb 67 = .ok (.isub, 1) := by decide +kernel
theorem d_P_absorb_68 : decode b_P_absorb 68 = .ok (.sipush 128, 3) := by decide +kernel
theorem d_P_absorb_71 : decode b_P_absorb 71 = .ok (.invokevirtual 27, 3) := by decide +kernel
theorem d_P_absorb_74 : decode b_P_absorb 74 = .ok (.aload_n 0, 1) := by decide +kernel
theorem d_P_absorb_75 : decode b_P_absorb 75 = .ok (.invokevirtual 31, 3) := by decide +kernel
theorem d_P_absorb_78 : decode b_P_absorb 78 = .ok (.return_, 1) := by decide +kernel
theorem d_J_fill2_0 : decode b_J_fill2 0 = .ok (.iconst 0, 1) := by decide +kernel
theorem d_J_fill2_1 : decode b_J_fill2 1 = .ok (.istore_n 3, 1) := by decide +kernel
theorem d_J_fill2_2 : decode b_J_fill2 2 = .ok (.aload_n 0, 1) := by decide +kernel
theorem d_J_fill2_3 : decode b_J_fill2 3 = .ok (.arraylength, 1) := by decide +kernel
theorem d_J_fill2_4 : decode b_J_fill2 4 = .ok (.istore 4, 2) := by decide +kernel
theorem d_J_fill2_6 : decode b_J_fill2 6 = .ok (.iload_n 3, 1) := by decide +kernel
theorem d_J_fill2_7 : decode b_J_fill2 7 = .ok (.iload 4, 2) := by decide +kernel
theorem d_J_fill2_9 : decode b_J_fill2 9 = .ok (.if_icmp .ge 13, 3) := by decide +kernel
theorem d_J_fill2_12 : decode b_J_fill2 12 = .ok (.aload_n 0, 1) := by decide +kernel
theorem d_J_fill2_13 : decode b_J_fill2 13 = .ok (.iload_n 3, 1) := by decide +kernel
theorem d_J_fill2_14 : decode b_J_fill2 14 = .ok (.lload_n 1, 1) := by decide +kernel
theorem d_J_fill2_15 : decode b_J_fill2 15 = .ok (.lastore, 1) := by decide +kernel
theorem d_J_fill2_16 : decode b_J_fill2 16 = .ok (.iinc 3 1, 3) := by decide +kernel
theorem d_J_fill2_19 : decode b_J_fill2 19 = .ok (.goto (-13), 3) := by decide +kernel
theorem d_J_fill2_22 : decode b_J_fill2 22 = .ok (.return_, 1) := by decide +kernel
theorem d_P_mixIn_0 : decode b_P_mixIn 0 = .ok (.aload_n 0, 1) := by decide +kernel
theorem d_P_mixIn_1 : decode b_P_mixIn 1 = .ok (.getfield 9, 3) := by decide +kernel
theorem d_P_mixIn_4 : decode b_P_mixIn 4 = .ok (.iload_n 1, 1) := by decide +kernel
theorem d_P_mixIn_5 : decode b_P_mixIn 5 = .ok (.iconst 3, 1) := by decide +kernel
theorem d_P_mixIn_6 : decode b_P_mixIn 6 = .ok (.ishr, 1) := by decide +kernel
theorem d_P_mixIn_7 : decode b_P_mixIn 7 = .ok (.dup2, 1) := by decide +kernel
theorem d_P_mixIn_8 : decode b_P_mixIn 8 = .ok (.laload, 1) := by decide +kernel
theorem d_P_mixIn_9 : decode b_P_mixIn 9 = .ok (.iload_n 2, 1) := by decide +kernel
theorem d_P_mixIn_10 : decode b_P_mixIn 10 = .ok (.i2l, 1) := by decide +kernel
theorem d_P_mixIn_11 : decode b_P_mixIn 11 = .ok (.bipush 8, 2) := by decide +kernel
theorem d_P_mixIn_13 : decode b_P_mixIn 13 = .ok (.iload_n 1, 1) := by decide +kernel
theorem d_P_mixIn_14 : decode b_P_mixIn 14 = .ok (.bipush 7, 2) := by decide +kernel
theorem d_P_mixIn_16 : decode b_P_mixIn 16 = .ok (.iand, 1) := by decide +kernel
theorem d_P_mixIn_17 : decode b_P_mixIn 17 = .ok (.imul, 1) := by decide +kernel
theorem d_P_mixIn_18 : decode b_P_mixIn 18 = .ok (.lshl, 1) := by decide +kernel
theorem d_P_mixIn_19 : decode b_P_mixIn 19 = .ok (.lxor, 1) := by decide +kernel
theorem d_P_mixIn_20 : decode b_P_mixIn 20 = .ok (.lastore, 1) := by decide +kernel
theorem d_P_mixIn_21 : decode b_P_mixIn 21 = .ok (.return_, 1) := by decide +kernel
theorem d_P_permute_0 : decode b_P_permute 0 = .ok (.iconst 0, 1) := by decide +kernel
theorem d_P_permute_1 : decode b_P_permute 1 = .ok (.istore_n 1, 1) := by decide +kernel
theorem d_P_permute_2 : decode b_P_permute 2 = .ok (.iload_n 1, 1) := by decide +kernel
theorem d_P_permute_3 : decode b_P_permute 3 = .ok (.bipush 24, 2) := by decide +kernel
theorem d_P_permute_5 : decode b_P_permute 5 = .ok (.if_icmp .ge 35, 3) := by decide +kernel
theorem d_P_permute_8 : decode b_P_permute 8 = .ok (.aload_n 0, 1) := by decide +kernel
theorem d_P_permute_9 : decode b_P_permute 9 = .ok (.invokevirtual 34, 3) := by decide +kernel
theorem d_P_permute_12 : decode b_P_permute 12 = .ok (.aload_n 0, 1) := by decide +kernel
theorem d_P_permute_13 : decode b_P_permute 13 = .ok (.invokevirtual 37, 3) := by decide +kernel
theorem d_P_permute_16 : decode b_P_permute 16 = .ok (.aload_n 0, 1) := by decide +kernel
theorem d_P_permute_17 : decode b_P_permute 17 = .ok (.invokevirtual 40, 3) := by decide +kernel
theorem d_P_permute_20 : decode b_P_permute 20 = .ok (.aload_n 0, 1) := by decide +kernel
theorem d_P_permute_21 : decode b_P_permute 21 = .ok (.getfield 9, 3) := by decide +kernel
theorem d_P_permute_24 : decode b_P_permute 24 = .ok (.iconst 0, 1) := by decide +kernel
theorem d_P_permute_25 : decode b_P_permute 25 = .ok (.dup2, 1) := by decide +kernel
theorem d_P_permute_26 : decode b_P_permute 26 = .ok (.laload, 1) := by decide +kernel
theorem d_P_permute_27 : decode b_P_permute 27 = .ok (.getstatic 43, 3) := by decide +kernel
theorem d_P_permute_30 : decode b_P_permute 30 = .ok (.iload_n 1, 1) := by decide +kernel
theorem d_P_permute_31 : decode b_P_permute 31 = .ok (.laload, 1) := by decide +kernel
theorem d_P_permute_32 : decode b_P_permute 32 = .ok (.lxor, 1) := by decide +kernel
theorem d_P_permute_33 : decode b_P_permute 33 = .ok (.lastore, 1) := by decide +kernel
theorem d_P_permute_34 : decode b_P_permute 34 = .ok (.iinc 1 1, 3) := by decide +kernel
theorem d_P_permute_37 : decode b_P_permute 37 = .ok (.goto (-35), 3) := by decide +kernel
theorem d_P_permute_40 : decode b_P_permute 40 = .ok (.return_, 1) := by decide +kernel
theorem d_P_mixColumns_0 : decode b_P_mixColumns 0 = .ok (.iconst 0, 1) := by decide +kernel
theorem d_P_mixColumns_1 : decode b_P_mixColumns 1 = .ok (.istore_n 1, 1) := by decide +kernel
theorem d_P_mixColumns_2 : decode b_P_mixColumns 2 = .ok (.iload_n 1, 1) := by decide +kernel
theorem d_P_mixColumns_3 : decode b_P_mixColumns 3 = .ok (.iconst 5, 1) := by decide +kernel
theorem d_P_mixColumns_4 : decode b_P_mixColumns 4 = .ok (.if_icmp .ge 60, 3) := by decide +kernel
theorem d_P_mixColumns_7 : decode b_P_mixColumns 7 = .ok (.aload_n 0, 1) := by decide +kernel
theorem d_P_mixColumns_8 : decode b_P_mixColumns 8 = .ok (.getfield 18, 3) := by decide +kernel
theorem d_P_mixColumns_11 : decode b_P_mixColumns 11 = .ok (.iload_n 1, 1) := by decide +kernel
theorem d_P_mixColumns_12 : decode b_P_mixColumns 12 = .ok (.aload_n 0, 1) := by decide +kernel
theorem d_P_mixColumns_13 : decode b_P_mixColumns 13 = .ok (.getfield 9, 3) := by decide +kernel
theorem d_P_mixColumns_16 : decode b_P_mixColumns 16 = .ok (.iload_n 1, 1) := by decide +kernel
theorem d_P_mixColumns_17 : decode b_P_mixColumns 17 = .ok (.laload, 1) := by decide +kernel
theorem d_P_mixColumns_18 : decode b_P_mixColumns 18 = .ok (.aload_n 0, 1) := by decide +kernel
theorem d_P_mixColumns_19 : decode b_P_mixColumns 19 = .ok (.getfield 9, 3) := by decide +kernel
theorem d_P_mixColumns_22 : decode b_P_mixColumns 22 = .ok (.iload_n 1, 1) := by decide +kernel
theorem d_P_mixColumns_23 : decode b_P_mixColumns 23 = .ok (.iconst 5, 1) := by decide +kernel
theorem d_P_mixColumns_24 : decode b_P_mixColumns 24 = .ok (.iadd, 1) := by decide +kernel
theorem d_P_mixColumns_25 : decode b_P_mixColumns 25 = .ok (.laload, 1) := by decide +kernel
theorem d_P_mixColumns_26 : decode b_P_mixColumns 26 = .ok (.lxor, 1) := by decide +kernel
theorem d_P_mixColumns_27 : decode b_P_mixColumns 27 = .ok (.aload_n 0, 1) := by decide +kernel
theorem d_P_mixColumns_28 : decode b_P_mixColumns 28 = .ok (.getfield 9, 3) := by decide +kernel
theorem d_P_mixColumns_31 : decode b_P_mixColumns 31 = .ok (.iload_n 1, 1) := by decide +kernel
theorem d_P_mixColumns_32 : decode b_P_mixColumns 32 = .ok (.bipush 10, 2) := by decide +kernel
theorem d_P_mixColumns_34 : decode b_P_mixColumns 34 = .ok (.iadd, 1) := by decide +kernel
theorem d_P_mixColumns_35 : decode b_P_mixColumns 35 = .ok (.laload, 1) := by decide +kernel
theorem d_P_mixColumns_36 : decode b_P_mixColumns 36 = .ok (.lxor, 1) := by decide +kernel
theorem d_P_mixColumns_37 : decode b_P_mixColumns 37 = .ok (.aload_n 0, 1) := by decide +kernel
theorem d_P_mixColumns_38 : decode b_P_mixColumns 38 = .ok (.getfield 9, 3) := by decide +kernel
theorem d_P_mixColumns_41 : decode b_P_mixColumns 41 = .ok (.iload_n 1, 1) := by decide +kernel
theorem d_P_mixColumns_42 : decode b_P_mixColumns 42 = .ok (.bipush 15, 2) := by decide +kernel
theorem d_P_mixColumns_44 : decode b_P_mixColumns 44 = .ok (.iadd, 1) := by decide +kernel
theorem d_P_mixColumns_45 : decode b_P_mixColumns 45 = .ok (.laload, 1) := by decide +kernel
theorem d_P_mixColumns_46 : decode b_P_mixColumns 46 = .ok (.lxor, 1) := by decide +kernel
theorem d_P_mixColumns_47 : decode b_P_mixColumns 47 = .ok (.aload_n 0, 1) := by decide +kernel
theorem d_P_mixColumns_48 : decode b_P_mixColumns 48 = .ok (.getfield 9, 3) := by decide +kernel
theorem d_P_mixColumns_51 : decode b_P_mixColumns 51 = .ok (.iload_n 1, 1) := by decide +kernel
theorem d_P_mixColumns_52 : decode b_P_mixColumns 52 = .ok (.bipush 20, 2) := by decide +kernel
theorem d_P_mixColumns_54 : decode b_P_mixColumns 54 = .ok (.iadd, 1) := by decide +kernel
theorem d_P_mixColumns_55 : decode b_P_mixColumns 55 = .ok (.laload, 1) := by decide +kernel
theorem d_P_mixColumns_56 : decode b_P_mixColumns 56 = .ok (.lxor, 1) := by decide +kernel
theorem d_P_mixColumns_57 : decode b_P_mixColumns 57 = .ok (.lastore, 1) := by decide +kernel
theorem d_P_mixColumns_58 : decode b_P_mixColumns 58 = .ok (.iinc 1 1, 3) := by decide +kernel
theorem d_P_mixColumns_61 : decode b_P_mixColumns 61 = .ok (.goto (-59), 3) := by decide +kernel
theorem d_P_mixColumns_64 : decode b_P_mixColumns 64 = .ok (.iconst 0, 1) := by decide +kernel
theorem d_P_mixColumns_65 : decode b_P_mixColumns 65 = .ok (.istore_n 1, 1) := by decide +kernel
theorem d_P_mixColumns_66 : decode b_P_mixColumns 66 = .ok (.iload_n 1, 1) := by decide +kernel
theorem d_P_mixColumns_67 : decode b_P_mixColumns 67 = .ok (.iconst 5, 1) := by decide +kernel
theorem d_P_mixColumns_68 : decode b_P_mixColumns 68 = .ok (.if_icmp .ge 64, 3) := by decide +kernel
theorem d_P_mixColumns_71 : decode b_P_mixColumns 71 = .ok (.aload_n 0, 1) := by decide +kernel
theorem d_P_mixColumns_72 : decode b_P_mixColumns 72 = .ok (.getfield 18, 3) := by decide +kernel
theorem d_P_mixColumns_75 : decode b_P_mixColumns 75 = .ok (.iload_n 1, 1) := by decide +kernel
theorem d_P_mixColumns_76 : decode b_P_mixColumns 76 = .ok (.iconst 4, 1) := by decide +kernel
theorem d_P_mixColumns_77 : decode b_P_mixColumns 77 = .ok (.iadd, 1) := by decide +kernel
