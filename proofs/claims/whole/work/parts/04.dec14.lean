theorem d_O_give_65 : decode b_O_give 65 = .ok (.imul, 1) := by decide +kernel
theorem d_O_give_66 : decode b_O_give 66 = .ok (.isub, 1) := by decide +kernel
theorem d_O_give_67 : decode b_O_give 67 = .ok (.lushr, 1) := by decide +kernel
theorem d_O_give_68 : decode b_O_give 68 = .ok (.goto 25, 3) := by decide +kernel
theorem d_O_give_71 : decode b_O_give 71 = .ok (.aload_n 0, 1) := by decide +kernel
theorem d_O_give_72 : decode b_O_give 72 = .ok (.getfield 47, 3) := by decide +kernel
theorem d_O_give_75 : decode b_O_give 75 = .ok (.iload 4, 2) := by decide +kernel
theorem d_O_give_77 : decode b_O_give 77 = .ok (.bipush 8, 2) := by decide +kernel
theorem d_O_give_79 : decode b_O_give 79 = .ok (.idiv, 1) := by decide +kernel
theorem d_O_give_80 : decode b_O_give 80 = .ok (.laload, 1) := by decide +kernel
theorem d_O_give_81 : decode b_O_give 81 = .ok (.bipush 56, 2) := by decide +kernel
theorem d_O_give_83 : decode b_O_give 83 = .ok (.bipush 8, 2) := by decide +kernel
theorem d_O_give_85 : decode b_O_give 85 = .ok (.iload 4, 2) := by decide +kernel
theorem d_O_give_87 : decode b_O_give 87 = .ok (.bipush 8, 2) := by decide +kernel
theorem d_O_give_89 : decode b_O_give 89 = .ok (.irem, 1) := by decide +kernel
theorem d_O_give_90 : decode b_O_give 90 = .ok (.imul, 1) := by decide +kernel
theorem d_O_give_91 : decode b_O_give 91 = .ok (.isub, 1) := by decide +kernel
theorem d_O_give_92 : decode b_O_give 92 = .ok (.lushr, 1) := by decide +kernel
theorem d_O_give_93 : decode b_O_give 93 = .ok (.l2i, 1) := by decide +kernel
theorem d_O_give_94 : decode b_O_give 94 = .ok (.i2b, 1) := by decide +kernel
theorem d_O_give_95 : decode b_O_give 95 = .ok (.bastore, 1) := by decide +kernel
theorem d_O_give_96 : decode b_O_give 96 = .ok (.iinc 4 1, 3) := by decide +kernel
theorem d_O_give_99 : decode b_O_give 99 = .ok (.goto (-92), 3) := by decide +kernel
theorem d_O_give_102 : decode b_O_give 102 = .ok (.return_, 1) := by decide +kernel
theorem d_O_squeeze_0 : decode b_O_squeeze 0 = .ok (.aload_n 0, 1) := by decide +kernel
theorem d_O_squeeze_1 : decode b_O_squeeze 1 = .ok (.getfield 128, 3) := by decide +kernel
theorem d_O_squeeze_4 : decode b_O_squeeze 4 = .ok (.aload_n 0, 1) := by decide +kernel
theorem d_O_squeeze_5 : decode b_O_squeeze 5 = .ok (.getfield 141, 3) := by decide +kernel
theorem d_O_squeeze_8 : decode b_O_squeeze 8 = .ok (.if_icmp .ne 12, 3) := by decide +kernel
theorem d_O_squeeze_11 : decode b_O_squeeze 11 = .ok (.aload_n 0, 1) := by decide +kernel
theorem d_O_squeeze_12 : decode b_O_squeeze 12 = .ok (.invokevirtual 154, 3) := by decide +kernel
theorem d_O_squeeze_15 : decode b_O_squeeze 15 = .ok (.aload_n 0, 1) := by decide +kernel
theorem d_O_squeeze_16 : decode b_O_squeeze 16 = .ok (.iconst 0, 1) := by decide +kernel
theorem d_O_squeeze_17 : decode b_O_squeeze 17 = .ok (.putfield 128, 3) := by decide +kernel
theorem d_O_squeeze_20 : decode b_O_squeeze 20 = .ok (.aload_n 0, 1) := by decide +kernel
theorem d_O_squeeze_21 : decode b_O_squeeze 21 = .ok (.getfield 47, 3) := by decide +kernel
theorem d_O_squeeze_24 : decode b_O_squeeze 24 = .ok (.aload_n 0, 1) := by decide +kernel
theorem d_O_squeeze_25 : decode b_O_squeeze 25 = .ok (.getfield 128, 3) := by decide +kernel
theorem d_O_squeeze_28 : decode b_O_squeeze 28 = .ok (.bipush 8, 2) := by decide +kernel
theorem d_O_squeeze_30 : decode b_O_squeeze 30 = .ok (.idiv, 1) := by decide +kernel
theorem d_O_squeeze_31 : decode b_O_squeeze 31 = .ok (.laload, 1) := by decide +kernel
theorem d_O_squeeze_32 : decode b_O_squeeze 32 = .ok (.bipush 8, 2) := by decide +kernel
theorem d_O_squeeze_34 : decode b_O_squeeze 34 = .ok (.aload_n 0, 1) := by decide +kernel
theorem d_O_squeeze_35 : decode b_O_squeeze 35 = .ok (.getfield 128, 3) := by decide +kernel
theorem d_O_squeeze_38 : decode b_O_squeeze 38 = .ok (.bipush 8, 2) := by decide +kernel
theorem d_O_squeeze_40 : decode b_O_squeeze 40 = .ok (.irem, 1) := by decide +kernel
theorem d_O_squeeze_41 : decode b_O_squeeze 41 = .ok (.imul, 1) := by decide +kernel
theorem d_O_squeeze_42 : decode b_O_squeeze 42 = .ok (.lushr, 1) := by decide +kernel
theorem d_O_squeeze_43 : decode b_O_squeeze 43 = .ok (.l2i, 1) := by decide +kernel
theorem d_O_squeeze_44 : decode b_O_squeeze 44 = .ok (.sipush 255, 3) := by decide +kernel
theorem d_O_squeeze_47 : decode b_O_squeeze 47 = .ok (.iand, 1) := by decide +kernel
theorem d_O_squeeze_48 : decode b_O_squeeze 48 = .ok (.istore_n 1, 1) := by decide +kernel
theorem d_O_squeeze_49 : decode b_O_squeeze 49 = .ok (.aload_n 0, 1) := by decide +kernel
theorem d_O_squeeze_50 : decode b_O_squeeze 50 = .ok (.dup, 1) := by decide +kernel
theorem d_O_squeeze_51 : decode b_O_squeeze 51 = .ok (.getfield 128, 3) := by decide +kernel
theorem d_O_squeeze_54 : decode b_O_squeeze 54 = .ok (.iconst 1, 1) := by decide +kernel
theorem d_O_squeeze_55 : decode b_O_squeeze 55 = .ok (.iadd, 1) := by decide +kernel
theorem d_O_squeeze_56 : decode b_O_squeeze 56 = .ok (.putfield 128, 3) := by decide +kernel
theorem d_O_squeeze_59 : decode b_O_squeeze 59 = .ok (.iload_n 1, 1) := by decide +kernel
theorem d_O_squeeze_60 : decode b_O_squeeze 60 = .ok (.ireturn, 1) := by decide +kernel
theorem d_O_startMac_0 : decode b_O_startMac 0 = .ok (.iload_n 1, 1) := by decide +kernel
theorem d_O_startMac_1 : decode b_O_startMac 1 = .ok (.invokestatic 138, 3) := by decide +kernel
theorem d_O_startMac_4 : decode b_O_startMac 4 = .ok (.istore 5, 2) := by decide +kernel
theorem d_O_startMac_6 : decode b_O_startMac 6 = .ok (.iconst 0, 1) := by decide +kernel
theorem d_O_startMac_7 : decode b_O_startMac 7 = .ok (.istore 6, 2) := by decide +kernel
theorem d_O_startMac_9 : decode b_O_startMac 9 = .ok (.iload 6, 2) := by decide +kernel
theorem d_O_startMac_11 : decode b_O_startMac 11 = .ok (.sipush 128, 3) := by decide +kernel
theorem d_O_startMac_14 : decode b_O_startMac 14 = .ok (.if_icmp .ge 17, 3) := by decide +kernel
theorem d_O_startMac_17 : decode b_O_startMac 17 = .ok (.aload_n 0, 1) := by decide +kernel
theorem d_O_startMac_18 : decode b_O_startMac 18 = .ok (.getfield 62, 3) := by decide +kernel
theorem d_O_startMac_21 : decode b_O_startMac 21 = .ok (.iload 6, 2) := by decide +kernel
theorem d_O_startMac_23 : decode b_O_startMac 23 = .ok (.iconst 0, 1) := by decide +kernel
theorem d_O_startMac_24 : decode b_O_startMac 24 = .ok (.bastore, 1) := by decide +kernel
theorem d_O_startMac_25 : decode b_O_startMac 25 = .ok (.iinc 6 1, 3) := by decide +kernel
theorem d_O_startMac_28 : decode b_O_startMac 28 = .ok (.goto (-19), 3) := by decide +kernel
theorem d_O_startMac_31 : decode b_O_startMac 31 = .ok (.iload 4, 2) := by decide +kernel
theorem d_O_startMac_33 : decode b_O_startMac 33 = .ok (.iload 5, 2) := by decide +kernel
theorem d_O_startMac_35 : decode b_O_startMac 35 = .ok (.if_icmp .le 32, 3) := by decide +kernel
theorem d_O_startMac_38 : decode b_O_startMac 38 = .ok (.aload_n 0, 1) := by decide +kernel
theorem d_O_startMac_39 : decode b_O_startMac 39 = .ok (.iload_n 1, 1) := by decide +kernel
theorem d_O_startMac_40 : decode b_O_startMac 40 = .ok (.invokevirtual 114, 3) := by decide +kernel
theorem d_O_startMac_43 : decode b_O_startMac 43 = .ok (.aload_n 0, 1) := by decide +kernel
theorem d_O_startMac_44 : decode b_O_startMac 44 = .ok (.aload_n 2, 1) := by decide +kernel
theorem d_O_startMac_45 : decode b_O_startMac 45 = .ok (.iload_n 3, 1) := by decide +kernel
theorem d_O_startMac_46 : decode b_O_startMac 46 = .ok (.iload 4, 2) := by decide +kernel
theorem d_O_startMac_48 : decode b_O_startMac 48 = .ok (.invokevirtual 182, 3) := by decide +kernel
theorem d_O_startMac_51 : decode b_O_startMac 51 = .ok (.aload_n 0, 1) := by decide +kernel
theorem d_O_startMac_52 : decode b_O_startMac 52 = .ok (.aload_n 0, 1) := by decide +kernel
theorem d_O_startMac_53 : decode b_O_startMac 53 = .ok (.getfield 62, 3) := by decide +kernel
theorem d_O_startMac_56 : decode b_O_startMac 56 = .ok (.iconst 0, 1) := by decide +kernel
theorem d_O_startMac_57 : decode b_O_startMac 57 = .ok (.iload_n 1, 1) := by decide +kernel
theorem d_O_startMac_58 : decode b_O_startMac 58 = .ok (.invokestatic 135, 3) := by decide +kernel
theorem d_O_startMac_61 : decode b_O_startMac 61 = .ok (.invokevirtual 185, 3) := by decide +kernel
theorem d_O_startMac_64 : decode b_O_startMac 64 = .ok (.goto 15, 3) := by decide +kernel
theorem d_O_startMac_67 : decode b_O_startMac 67 = .ok (.aload_n 2, 1) := by decide +kernel
theorem d_O_startMac_68 : decode b_O_startMac 68 = .ok (.iload_n 3, 1) := by decide +kernel
theorem d_O_startMac_69 : decode b_O_startMac 69 = .ok (.aload_n 0, 1) := by decide +kernel
theorem d_O_startMac_70 : decode b_O_startMac 70 = .ok (.getfield 62, 3) := by decide +kernel
theorem d_O_startMac_73 : decode b_O_startMac 73 = .ok (.iconst 0, 1) := by decide +kernel
theorem d_O_startMac_74 : decode b_O_startMac 74 = .ok (.iload 4, 2) := by decide +kernel
theorem d_O_startMac_76 : decode b_O_startMac 76 = .ok (.invokestatic 188, 3) := by decide +kernel
theorem d_O_startMac_79 : decode b_O_startMac 79 = .ok (.aload_n 0, 1) := by decide +kernel
theorem d_O_startMac_80 : decode b_O_startMac 80 = .ok (.iload_n 1, 1) := by decide +kernel
theorem d_O_startMac_81 : decode b_O_startMac 81 = .ok (.invokevirtual 114, 3) := by decide +kernel
theorem d_O_startMac_84 : decode b_O_startMac 84 = .ok (.iconst 0, 1) := by decide +kernel
theorem d_O_startMac_85 : decode b_O_startMac 85 = .ok (.istore 6, 2) := by decide +kernel
theorem d_O_startMac_87 : decode b_O_startMac 87 = .ok (.iload 6, 2) := by decide +kernel
theorem d_O_startMac_89 : decode b_O_startMac 89 = .ok (.iload 5, 2) := by decide +kernel
theorem d_O_startMac_91 : decode b_O_startMac 91 = .ok (.if_icmp .ge 23, 3) := by decide +kernel
theorem d_O_startMac_94 : decode b_O_startMac 94 = .ok (.aload_n 0, 1) := by decide +kernel
theorem d_O_startMac_95 : decode b_O_startMac 95 = .ok (.aload_n 0, 1) := by decide +kernel
theorem d_O_startMac_96 : decode b_O_startMac 96 = .ok (.getfield 62, 3) := by decide +kernel
theorem d_O_startMac_99 : decode b_O_startMac 99 = .ok (.iload 6, 2) := by decide +kernel
theorem d_O_startMac_101 : decode b_O_startMac 101 = .ok (.baload, 1) := by decide +kernel
theorem d_O_startMac_102 : decode b_O_startMac 102 = .ok (.bipush 54, 2) := by decide +kernel
theorem d_O_startMac_104 : decode b_O_startMac 104 = .ok (.ixor, 1) := by decide +kernel
theorem d_O_startMac_105 : decode b_O_startMac 105 = .ok (.invokevirtual 119, 3) := by decide +kernel
theorem d_O_startMac_108 : decode b_O_startMac 108 = .ok (.iinc 6 1, 3) := by decide +kernel
theorem d_O_startMac_111 : decode b_O_startMac 111 = .ok (.goto (-24), 3) := by decide +kernel
theorem d_O_startMac_114 : decode b_O_startMac 114 = .ok (.return_, 1) := by decide +kernel
theorem d_O_move_0 : decode b_O_move 0 = .ok (.iconst 0, 1) := by decide +kernel
theorem d_O_move_1 : decode b_O_move 1 = .ok (.istore 5, 2) := by decide +kernel
theorem d_O_move_3 : decode b_O_move 3 = .ok (.iload 5, 2) := by decide +kernel
theorem d_O_move_5 : decode b_O_move 5 = .ok (.iload 4, 2) := by decide +kernel
theorem d_O_move_7 : decode b_O_move 7 = .ok (.if_icmp .ge 21, 3) := by decide +kernel
theorem d_O_move_10 : decode b_O_move 10 = .ok (.aload_n 2, 1) := by decide +kernel
theorem d_O_move_11 : decode b_O_move 11 = .ok (.iload_n 3, 1) := by decide +kernel
theorem d_O_move_12 : decode b_O_move 12 = .ok (.iload 5, 2) := by decide +kernel
theorem d_O_move_14 : decode b_O_move 14 = .ok (.iadd, 1) := by decide +kernel
theorem d_O_move_15 : decode b_O_move 15 = .ok (.aload_n 0, 1) := by decide +kernel
theorem d_O_move_16 : decode b_O_move 16 = .ok (.iload_n 1, 1) := by decide +kernel
theorem d_O_move_17 : decode b_O_move 17 = .ok (.iload 5, 2) := by decide +kernel
theorem d_O_move_19 : decode b_O_move 19 = .ok (.iadd, 1) := by decide +kernel
theorem d_O_move_20 : decode b_O_move 20 = .ok (.baload, 1) := by decide +kernel
theorem d_O_move_21 : decode b_O_move 21 = .ok (.bastore, 1) := by decide +kernel
theorem d_O_move_22 : decode b_O_move 22 = .ok (.iinc 5 1, 3) := by decide +kernel
theorem d_O_move_25 : decode b_O_move 25 = .ok (.goto (-22), 3) := by decide +kernel
theorem d_O_move_28 : decode b_O_move 28 = .ok (.return_, 1) := by decide +kernel
theorem d_O_endMac_0 : decode b_O_endMac 0 = .ok (.iload_n 1, 1) := by decide +kernel
theorem d_O_endMac_1 : decode b_O_endMac 1 = .ok (.invokestatic 138, 3) := by decide +kernel
theorem d_O_endMac_4 : decode b_O_endMac 4 = .ok (.istore 5, 2) := by decide +kernel
theorem d_O_endMac_6 : decode b_O_endMac 6 = .ok (.aload_n 0, 1) := by decide +kernel
theorem d_O_endMac_7 : decode b_O_endMac 7 = .ok (.aload_n 0, 1) := by decide +kernel
theorem d_O_endMac_8 : decode b_O_endMac 8 = .ok (.getfield 65, 3) := by decide +kernel
theorem d_O_endMac_11 : decode b_O_endMac 11 = .ok (.iconst 0, 1) := by decide +kernel
theorem d_O_endMac_12 : decode b_O_endMac 12 = .ok (.iload_n 1, 1) := by decide +kernel
theorem d_O_endMac_13 : decode b_O_endMac 13 = .ok (.invokestatic 135, 3) := by decide +kernel
theorem d_O_endMac_16 : decode b_O_endMac 16 = .ok (.invokevirtual 185, 3) := by decide +kernel
theorem d_O_endMac_19 : decode b_O_endMac 19 = .ok (.aload_n 0, 1) := by decide +kernel
theorem d_O_endMac_20 : decode b_O_endMac 20 = .ok (.iload_n 1, 1) := by decide +kernel
theorem d_O_endMac_21 : decode b_O_endMac 21 = .ok (.invokevirtual 114, 3) := by decide +kernel
theorem d_O_endMac_24 : decode b_O_endMac 24 = .ok (.iconst 0, 1) := by decide +kernel
theorem d_O_endMac_25 : decode b_O_endMac 25 = .ok (.istore 6, 2) := by decide +kernel
theorem d_O_endMac_27 : decode b_O_endMac 27 = .ok (.iload 6, 2) := by decide +kernel
theorem d_O_endMac_29 : decode b_O_endMac 29 = .ok (.iload 5, 2) := by decide +kernel
theorem d_O_endMac_31 : decode b_O_endMac 31 = .ok (.if_icmp .ge 23, 3) := by decide +kernel
theorem d_O_endMac_34 : decode b_O_endMac 34 = .ok (.aload_n 0, 1) := by decide +kernel
theorem d_O_endMac_35 : decode b_O_endMac 35 = .ok (.aload_n 0, 1) := by decide +kernel
theorem d_O_endMac_36 : decode b_O_endMac 36 = .ok (.getfield 62, 3) := by decide +kernel
theorem d_O_endMac_39 : decode b_O_endMac 39 = .ok (.iload 6, 2) := by decide +kernel
theorem d_O_endMac_41 : decode b_O_endMac 41 = .ok (.baload, 1) := by decide +kernel
theorem d_O_endMac_42 : decode b_O_endMac 42 = .ok (.bipush 92, 2) := by decide +kernel
theorem d_O_endMac_44 : decode b_O_endMac 44 = .ok (.ixor, 1) := by decide +kernel
theorem d_O_endMac_45 : decode b_O_endMac 45 = .ok (.invokevirtual 119, 3) := by decide +kernel
theorem d_O_endMac_48 : decode b_O_endMac 48 = .ok (.iinc 6 1, 3) := by decide +kernel
theorem d_O_endMac_51 : decode b_O_endMac 51 = .ok (.goto (-24), 3) := by decide +kernel
theorem d_O_endMac_54 : decode b_O_endMac 54 = .ok (.aload_n 0, 1) := by decide +kernel
theorem d_O_endMac_55 : decode b_O_endMac 55 = .ok (.aload_n 0, 1) := by decide +kernel
theorem d_O_endMac_56 : decode b_O_endMac 56 = .ok (.getfield 65, 3) := by decide +kernel
theorem d_O_endMac_59 : decode b_O_endMac 59 = .ok (.iconst 0, 1) := by decide +kernel
theorem d_O_endMac_60 : decode b_O_endMac 60 = .ok (.iload_n 1, 1) := by decide +kernel
theorem d_O_endMac_61 : decode b_O_endMac 61 = .ok (.invokestatic 135, 3) := by decide +kernel
theorem d_O_endMac_64 : decode b_O_endMac 64 = .ok (.invokevirtual 182, 3) := by decide +kernel
theorem d_O_endMac_67 : decode b_O_endMac 67 = .ok (.aload_n 0, 1) := by decide +kernel
theorem d_O_endMac_68 : decode b_O_endMac 68 = .ok (.aload_n 2, 1) := by decide +kernel
theorem d_O_endMac_69 : decode b_O_endMac 69 = .ok (.iload_n 3, 1) := by decide +kernel
theorem d_O_endMac_70 : decode b_O_endMac 70 = .ok (.iload 4, 2) := by decide +kernel
theorem d_O_endMac_72 : decode b_O_endMac 72 = .ok (.invokevirtual 185, 3) := by decide +kernel
theorem d_O_endMac_75 : decode b_O_endMac 75 = .ok (.return_, 1) := by decide +kernel
theorem d_O_mask_0 : decode b_O_mask 0 = .ok (.iload_n 1, 1) := by decide +kernel
theorem d_O_mask_1 : decode b_O_mask 1 = .ok (.invokestatic 135, 3) := by decide +kernel
theorem d_O_mask_4 : decode b_O_mask 4 = .ok (.istore 7, 2) := by decide +kernel
theorem d_O_mask_6 : decode b_O_mask 6 = .ok (.iconst 0, 1) := by decide +kernel
theorem d_O_mask_7 : decode b_O_mask 7 = .ok (.istore 8, 2) := by decide +kernel
theorem d_O_mask_9 : decode b_O_mask 9 = .ok (.iload 8, 2) := by decide +kernel
theorem d_O_mask_11 : decode b_O_mask 11 = .ok (.iload 7, 2) := by decide +kernel
theorem d_O_mask_13 : decode b_O_mask 13 = .ok (.imul, 1) := by decide +kernel
theorem d_O_mask_14 : decode b_O_mask 14 = .ok (.iload 6, 2) := by decide +kernel
theorem d_O_mask_16 : decode b_O_mask 16 = .ok (.if_icmp .ge 100, 3) := by decide +kernel
theorem d_O_mask_19 : decode b_O_mask 19 = .ok (.aload_n 0, 1) := by decide +kernel
theorem d_O_mask_20 : decode b_O_mask 20 = .ok (.iload_n 1, 1) := by decide +kernel
theorem d_O_mask_21 : decode b_O_mask 21 = .ok (.invokevirtual 114, 3) := by decide +kernel
theorem d_O_mask_24 : decode b_O_mask 24 = .ok (.aload_n 0, 1) := by decide +kernel
theorem d_O_mask_25 : decode b_O_mask 25 = .ok (.aload_n 2, 1) := by decide +kernel
theorem d_O_mask_26 : decode b_O_mask 26 = .ok (.iconst 0, 1) := by decide +kernel
theorem d_O_mask_27 : decode b_O_mask 27 = .ok (.iload_n 3, 1) := by decide +kernel
theorem d_O_mask_28 : decode b_O_mask 28 = .ok (.invokevirtual 182, 3) := by decide +kernel
theorem d_O_mask_31 : decode b_O_mask 31 = .ok (.bipush 24, 2) := by decide +kernel
theorem d_O_mask_33 : decode b_O_mask 33 = .ok (.istore 9, 2) := by decide +kernel
theorem d_O_mask_35 : decode b_O_mask 35 = .ok (.iload 9, 2) := by decide +kernel
theorem d_O_mask_37 : decode b_O_mask 37 = .ok (.ifCond .lt 18, 3) := by decide +kernel
theorem d_O_mask_40 : decode b_O_mask 40 = .ok (.aload_n 0, 1) := by decide +kernel
theorem d_O_mask_41 : decode b_O_mask 41 = .ok (.iload 8, 2) := by decide +kernel
theorem d_O_mask_43 : decode b_O_mask 43 = .ok (.iload 9, 2) := by decide +kernel
theorem d_O_mask_45 : decode b_O_mask 45 = .ok (.ishr, 1) := by decide +kernel
theorem d_O_mask_46 : decode b_O_mask 46 = .ok (.invokevirtual 119, 3) := by decide +kernel
theorem d_O_mask_49 : decode b_O_mask 49 = .ok (.iinc 9 (-8), 3) := by decide +kernel
theorem d_O_mask_52 : decode b_O_mask 52 = .ok (.goto (-17), 3) := by decide +kernel
theorem d_O_mask_55 : decode b_O_mask 55 = .ok (.aload_n 0, 1) := by decide +kernel
theorem d_O_mask_56 : decode b_O_mask 56 = .ok (.aload_n 0, 1) := by decide +kernel
theorem d_O_mask_57 : decode b_O_mask 57 = .ok (.getfield 65, 3) := by decide +kernel
theorem d_O_mask_60 : decode b_O_mask 60 = .ok (.iconst 0, 1) := by decide +kernel
theorem d_O_mask_61 : decode b_O_mask 61 = .ok (.iload 7, 2) := by decide +kernel
theorem d_O_mask_63 : decode b_O_mask 63 = .ok (.invokevirtual 185, 3) := by decide +kernel
theorem d_O_mask_66 : decode b_O_mask 66 = .ok (.aload_n 0, 1) := by decide +kernel
theorem d_O_mask_67 : decode b_O_mask 67 = .ok (.getfield 65, 3) := by decide +kernel
theorem d_O_mask_70 : decode b_O_mask 70 = .ok (.iconst 0, 1) := by decide +kernel
theorem d_O_mask_71 : decode b_O_mask 71 = .ok (.aload 4, 2) := by decide +kernel
theorem d_O_mask_73 : decode b_O_mask 73 = .ok (.iload 5, 2) := by decide +kernel
theorem d_O_mask_75 : decode b_O_mask 75 = .ok (.iload 8, 2) := by decide +kernel
theorem d_O_mask_77 : decode b_O_mask 77 = .ok (.iload 7, 2) := by decide +kernel
theorem d_O_mask_79 : decode b_O_mask 79 = .ok (.imul, 1) := by decide +kernel
theorem d_O_mask_80 : decode b_O_mask 80 = .ok (.iadd, 1) := by decide +kernel
theorem d_O_mask_81 : decode b_O_mask 81 = .ok (.iload 6, 2) := by decide +kernel
theorem d_O_mask_83 : decode b_O_mask 83 = .ok (.iload 8, 2) := by decide +kernel
theorem d_O_mask_85 : decode b_O_mask 85 = .ok (.iload 7, 2) := by decide +kernel
theorem d_O_mask_87 : decode b_O_mask 87 = .ok (.imul, 1) := by decide +kernel
theorem d_O_mask_88 : decode b_O_mask 88 = .ok (.isub, 1) := by decide +kernel
theorem d_O_mask_89 : decode b_O_mask 89 = .ok (.iload 7, 2) := by decide +kernel
theorem d_O_mask_91 : decode b_O_mask 91 = .ok (.if_icmp .ge 14, 3) := by decide +kernel
theorem d_O_mask_94 : decode b_O_mask 94 = .ok (.iload 6, 2) := by decide +kernel
theorem d_O_mask_96 : decode b_O_mask 96 = .ok (.iload 8, 2) := by decide +kernel
theorem d_O_mask_98 : decode b_O_mask 98 = .ok (.iload 7, 2) := by decide +kernel
theorem d_O_mask_100 : decode b_O_mask 100 = .ok (.imul, 1) := by decide +kernel
theorem d_O_mask_101 : decode b_O_mask 101 = .ok (.isub, 1) := by decide +kernel
theorem d_O_mask_102 : decode b_O_mask 102 = .ok (.goto 5, 3) := by decide +kernel
theorem d_O_mask_105 : decode b_O_mask 105 = .ok (.iload 7, 2) := by decide +kernel
theorem d_O_mask_107 : decode b_O_mask 107 = .ok (.invokestatic 188, 3) := by decide +kernel
theorem d_O_mask_110 : decode b_O_mask 110 = .ok (.iinc 8 1, 3) := by decide +kernel
theorem d_O_mask_113 : decode b_O_mask 113 = .ok (.goto (-104), 3) := by decide +kernel
theorem d_O_mask_116 : decode b_O_mask 116 = .ok (.return_, 1) := by decide +kernel
theorem d_law_0 : decode code 0 = .ok (.new 8, 3) := by decide +kernel
theorem d_law_3 : decode code 3 = .ok (.dup, 1) := by decide +kernel
theorem d_law_4 : decode code 4 = .ok (.invokespecial 46, 3) := by decide +kernel
theorem d_law_7 : decode code 7 = .ok (.astore_n 1, 1) := by decide +kernel
theorem d_law_8 : decode code 8 = .ok (.new 47, 3) := by decide +kernel
theorem d_law_11 : decode code 11 = .ok (.dup, 1) := by decide +kernel
theorem d_law_12 : decode code 12 = .ok (.invokespecial 49, 3) := by decide +kernel
theorem d_law_15 : decode code 15 = .ok (.astore_n 2, 1) := by decide +kernel
theorem d_law_16 : decode code 16 = .ok (.iconst 1, 1) := by decide +kernel
theorem d_law_17 : decode code 17 = .ok (.newarray .long, 2) := by decide +kernel
theorem d_law_19 : decode code 19 = .ok (.astore_n 3, 1) := by decide +kernel
theorem d_law_20 : decode code 20 = .ok (.iconst 0, 1) := by decide +kernel
theorem d_law_21 : decode code 21 = .ok (.istore 4, 2) := by decide +kernel
theorem d_law_23 : decode code 23 = .ok (.iload 4, 2) := by decide +kernel
theorem d_law_25 : decode code 25 = .ok (.aload_n 0, 1) := by decide +kernel
theorem d_law_26 : decode code 26 = .ok (.arraylength, 1) := by decide +kernel
theorem d_law_27 : decode code 27 = .ok (.bipush 6, 2) := by decide +kernel
theorem d_law_29 : decode code 29 = .ok (.isub, 1) := by decide +kernel
theorem d_law_30 : decode code 30 = .ok (.if_icmp .gt 722, 3) := by decide +kernel
theorem d_law_33 : decode code 33 = .ok (.aload_n 0, 1) := by decide +kernel
theorem d_law_34 : decode code 34 = .ok (.iload 4, 2) := by decide +kernel
theorem d_law_36 : decode code 36 = .ok (.iaload, 1) := by decide +kernel
theorem d_law_37 : decode code 37 = .ok (.bipush 15, 2) := by decide +kernel
theorem d_law_39 : decode code 39 = .ok (.iand, 1) := by decide +kernel
theorem d_law_40 : decode code 40 = .ok (.tableswitch 706 0 8 #[52, 156, 224, 292, 360, 440, 496, 563, 638], 52) := by decide +kernel
theorem d_law_92 : decode code 92 = .ok (.aload_n 1, 1) := by decide +kernel
theorem d_law_93 : decode code 93 = .ok (.aload_n 0, 1) := by decide +kernel
theorem d_law_94 : decode code 94 = .ok (.iload 4, 2) := by decide +kernel
theorem d_law_96 : decode code 96 = .ok (.iconst 1, 1) := by decide +kernel
theorem d_law_97 : decode code 97 = .ok (.iadd, 1) := by decide +kernel
theorem d_law_98 : decode code 98 = .ok (.iaload, 1) := by decide +kernel
theorem d_law_99 : decode code 99 = .ok (.aload_n 0, 1) := by decide +kernel
theorem d_law_100 : decode code 100 = .ok (.iload 4, 2) := by decide +kernel
theorem d_law_102 : decode code 102 = .ok (.iconst 2, 1) := by decide +kernel
theorem d_law_103 : decode code 103 = .ok (.iadd, 1) := by decide +kernel
theorem d_law_104 : decode code 104 = .ok (.iaload, 1) := by decide +kernel
theorem d_law_105 : decode code 105 = .ok (.aload_n 0, 1) := by decide +kernel
theorem d_law_106 : decode code 106 = .ok (.iload 4, 2) := by decide +kernel
theorem d_law_108 : decode code 108 = .ok (.iconst 3, 1) := by decide +kernel
theorem d_law_109 : decode code 109 = .ok (.iadd, 1) := by decide +kernel
theorem d_law_110 : decode code 110 = .ok (.iaload, 1) := by decide +kernel
theorem d_law_111 : decode code 111 = .ok (.aload_n 0, 1) := by decide +kernel
theorem d_law_112 : decode code 112 = .ok (.iload 4, 2) := by decide +kernel
theorem d_law_114 : decode code 114 = .ok (.iconst 4, 1) := by decide +kernel
theorem d_law_115 : decode code 115 = .ok (.iadd, 1) := by decide +kernel
theorem d_law_116 : decode code 116 = .ok (.iaload, 1) := by decide +kernel
theorem d_law_117 : decode code 117 = .ok (.aload_n 0, 1) := by decide +kernel
theorem d_law_118 : decode code 118 = .ok (.iload 4, 2) := by decide +kernel
theorem d_law_120 : decode code 120 = .ok (.iconst 5, 1) := by decide +kernel
theorem d_law_121 : decode code 121 = .ok (.iadd, 1) := by decide +kernel
theorem d_law_122 : decode code 122 = .ok (.iaload, 1) := by decide +kernel
theorem d_law_123 : decode code 123 = .ok (.aload_n 3, 1) := by decide +kernel
theorem d_law_124 : decode code 124 = .ok (.invokestatic 50, 3) := by decide +kernel
theorem d_law_127 : decode code 127 = .ok (.istore 5, 2) := by decide +kernel
theorem d_law_129 : decode code 129 = .ok (.aload_n 2, 1) := by decide +kernel
theorem d_law_130 : decode code 130 = .ok (.aload_n 0, 1) := by decide +kernel
theorem d_law_131 : decode code 131 = .ok (.iload 4, 2) := by decide +kernel
theorem d_law_133 : decode code 133 = .ok (.iconst 1, 1) := by decide +kernel
theorem d_law_134 : decode code 134 = .ok (.iadd, 1) := by decide +kernel
