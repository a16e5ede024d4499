theorem d_D_init_0 : decode b_D_init 0 = .ok (.aload_n 0, 1) := by decide +kernel
theorem d_D_init_1 : decode b_D_init 1 = .ok (.invokespecial 3, 3) := by decide +kernel
theorem d_D_init_4 : decode b_D_init 4 = .ok (.aload_n 0, 1) := by decide +kernel
theorem d_D_init_5 : decode b_D_init 5 = .ok (.bipush 8, 2) := by decide +kernel
theorem d_D_init_7 : decode b_D_init 7 = .ok (.anewarray 9, 3) := by decide +kernel
theorem d_D_init_10 : decode b_D_init 10 = .ok (.putfield 11, 3) := by decide +kernel
theorem d_D_init_13 : decode b_D_init 13 = .ok (.iconst 0, 1) := by decide +kernel
theorem d_D_init_14 : decode b_D_init 14 = .ok (.istore_n 1, 1) := by decide +kernel
theorem d_D_init_15 : decode b_D_init 15 = .ok (.iload_n 1, 1) := by decide +kernel
theorem d_D_init_16 : decode b_D_init 16 = .ok (.bipush 8, 2) := by decide +kernel
theorem d_D_init_18 : decode b_D_init 18 = .ok (.if_icmp .ge 22, 3) := by decide +kernel
theorem d_D_init_21 : decode b_D_init 21 = .ok (.aload_n 0, 1) := by decide +kernel
theorem d_D_init_22 : decode b_D_init 22 = .ok (.getfield 11, 3) := by decide +kernel
theorem d_D_init_25 : decode b_D_init 25 = .ok (.iload_n 1, 1) := by decide +kernel
theorem d_D_init_26 : decode b_D_init 26 = .ok (.new 9, 3) := by decide +kernel
theorem d_D_init_29 : decode b_D_init 29 = .ok (.dup, 1) := by decide +kernel
theorem d_D_init_30 : decode b_D_init 30 = .ok (.invokespecial 15, 3) := by decide +kernel
theorem d_D_init_33 : decode b_D_init 33 = .ok (.aastore, 1) := by decide +kernel
theorem d_D_init_34 : decode b_D_init 34 = .ok (.iinc 1 1, 3) := by decide +kernel
theorem d_D_init_37 : decode b_D_init 37 = .ok (.goto (-22), 3) := by decide +kernel
theorem d_D_init_40 : decode b_D_init 40 = .ok (.aload_n 0, 1) := by decide +kernel
theorem d_D_init_41 : decode b_D_init 41 = .ok (.new 9, 3) := by decide +kernel
theorem d_D_init_44 : decode b_D_init 44 = .ok (.dup, 1) := by decide +kernel
theorem d_D_init_45 : decode b_D_init 45 = .ok (.invokespecial 15, 3) := by decide +kernel
theorem d_D_init_48 : decode b_D_init 48 = .ok (.putfield 16, 3) := by decide +kernel
theorem d_D_init_51 : decode b_D_init 51 = .ok (.aload_n 0, 1) := by decide +kernel
theorem d_D_init_52 : decode b_D_init 52 = .ok (.new 20, 3) := by decide +kernel
theorem d_D_init_55 : decode b_D_init 55 = .ok (.dup, 1) := by decide +kernel
theorem d_D_init_56 : decode b_D_init 56 = .ok (.invokespecial 22, 3) := by decide +kernel
theorem d_D_init_59 : decode b_D_init 59 = .ok (.putfield 23, 3) := by decide +kernel
theorem d_D_init_62 : decode b_D_init 62 = .ok (.aload_n 0, 1) := by decide +kernel
theorem d_D_init_63 : decode b_D_init 63 = .ok (.new 27, 3) := by decide +kernel
theorem d_D_init_66 : decode b_D_init 66 = .ok (.dup, 1) := by decide +kernel
theorem d_D_init_67 : decode b_D_init 67 = .ok (.iconst 4, 1) := by decide +kernel
theorem d_D_init_68 : decode b_D_init 68 = .ok (.bipush 64, 2) := by decide +kernel
theorem d_D_init_70 : decode b_D_init 70 = .ok (.getstatic 29, 3) := by decide +kernel
theorem d_D_init_73 : decode b_D_init 73 = .ok (.invokespecial 33, 3) := by decide +kernel
theorem d_D_init_76 : decode b_D_init 76 = .ok (.putfield 36, 3) := by decide +kernel
theorem d_D_init_79 : decode b_D_init 79 = .ok (.aload_n 0, 1) := by decide +kernel
theorem d_D_init_80 : decode b_D_init 80 = .ok (.new 27, 3) := by decide +kernel
theorem d_D_init_83 : decode b_D_init 83 = .ok (.dup, 1) := by decide +kernel
theorem d_D_init_84 : decode b_D_init 84 = .ok (.bipush 8, 2) := by decide +kernel
theorem d_D_init_86 : decode b_D_init 86 = .ok (.bipush 80, 2) := by decide +kernel
theorem d_D_init_88 : decode b_D_init 88 = .ok (.getstatic 40, 3) := by decide +kernel
theorem d_D_init_91 : decode b_D_init 91 = .ok (.invokespecial 33, 3) := by decide +kernel
theorem d_D_init_94 : decode b_D_init 94 = .ok (.putfield 43, 3) := by decide +kernel
theorem d_D_init_97 : decode b_D_init 97 = .ok (.aload_n 0, 1) := by decide +kernel
theorem d_D_init_98 : decode b_D_init 98 = .ok (.aload_n 0, 1) := by decide +kernel
theorem d_D_init_99 : decode b_D_init 99 = .ok (.getfield 43, 3) := by decide +kernel
theorem d_D_init_102 : decode b_D_init 102 = .ok (.getfield 46, 3) := by decide +kernel
theorem d_D_init_105 : decode b_D_init 105 = .ok (.newarray .byte, 2) := by decide +kernel
theorem d_D_init_107 : decode b_D_init 107 = .ok (.putfield 50, 3) := by decide +kernel
theorem d_D_init_110 : decode b_D_init 110 = .ok (.aload_n 0, 1) := by decide +kernel
theorem d_D_init_111 : decode b_D_init 111 = .ok (.aload_n 0, 1) := by decide +kernel
theorem d_D_init_112 : decode b_D_init 112 = .ok (.getfield 43, 3) := by decide +kernel
theorem d_D_init_115 : decode b_D_init 115 = .ok (.getfield 46, 3) := by decide +kernel
theorem d_D_init_118 : decode b_D_init 118 = .ok (.newarray .byte, 2) := by decide +kernel
theorem d_D_init_120 : decode b_D_init 120 = .ok (.putfield 54, 3) := by decide +kernel
theorem d_D_init_123 : decode b_D_init 123 = .ok (.aload_n 0, 1) := by decide +kernel
theorem d_D_init_124 : decode b_D_init 124 = .ok (.aload_n 0, 1) := by decide +kernel
theorem d_D_init_125 : decode b_D_init 125 = .ok (.getfield 43, 3) := by decide +kernel
theorem d_D_init_128 : decode b_D_init 128 = .ok (.getfield 57, 3) := by decide +kernel
theorem d_D_init_131 : decode b_D_init 131 = .ok (.newarray .byte, 2) := by decide +kernel
theorem d_D_init_133 : decode b_D_init 133 = .ok (.putfield 60, 3) := by decide +kernel
theorem d_D_init_136 : decode b_D_init 136 = .ok (.aload_n 0, 1) := by decide +kernel
theorem d_D_init_137 : decode b_D_init 137 = .ok (.iconst 4, 1) := by decide +kernel
theorem d_D_init_138 : decode b_D_init 138 = .ok (.newarray .byte, 2) := by decide +kernel
theorem d_D_init_140 : decode b_D_init 140 = .ok (.putfield 63, 3) := by decide +kernel
theorem d_D_init_143 : decode b_D_init 143 = .ok (.return_, 1) := by decide +kernel
theorem d_Y_init_0 : decode b_Y_init 0 = .ok (.aload_n 0, 1) := by decide +kernel
theorem d_Y_init_1 : decode b_Y_init 1 = .ok (.invokespecial 3, 3) := by decide +kernel
theorem d_Y_init_4 : decode b_Y_init 4 = .ok (.aload_n 0, 1) := by decide +kernel
theorem d_Y_init_5 : decode b_Y_init 5 = .ok (.sipush 8192, 3) := by decide +kernel
theorem d_Y_init_8 : decode b_Y_init 8 = .ok (.newarray .byte, 2) := by decide +kernel
theorem d_Y_init_10 : decode b_Y_init 10 = .ok (.putfield 9, 3) := by decide +kernel
theorem d_Y_init_13 : decode b_Y_init 13 = .ok (.return_, 1) := by decide +kernel
theorem d_P_init_0 : decode b_P_init 0 = .ok (.aload_n 0, 1) := by decide +kernel
theorem d_P_init_1 : decode b_P_init 1 = .ok (.invokespecial 3, 3) := by decide +kernel
theorem d_P_init_4 : decode b_P_init 4 = .ok (.aload_n 0, 1) := by decide +kernel
theorem d_P_init_5 : decode b_P_init 5 = .ok (.bipush 25, 2) := by decide +kernel
theorem d_P_init_7 : decode b_P_init 7 = .ok (.newarray .long, 2) := by decide +kernel
theorem d_P_init_9 : decode b_P_init 9 = .ok (.putfield 9, 3) := by decide +kernel
theorem d_P_init_12 : decode b_P_init 12 = .ok (.aload_n 0, 1) := by decide +kernel
theorem d_P_init_13 : decode b_P_init 13 = .ok (.bipush 25, 2) := by decide +kernel
theorem d_P_init_15 : decode b_P_init 15 = .ok (.newarray .long, 2) := by decide +kernel
theorem d_P_init_17 : decode b_P_init 17 = .ok (.putfield 15, 3) := by decide +kernel
theorem d_P_init_20 : decode b_P_init 20 = .ok (.aload_n 0, 1) := by decide +kernel
theorem d_P_init_21 : decode b_P_init 21 = .ok (.iconst 5, 1) := by decide +kernel
theorem d_P_init_22 : decode b_P_init 22 = .ok (.newarray .long, 2) := by decide +kernel
theorem d_P_init_24 : decode b_P_init 24 = .ok (.putfield 18, 3) := by decide +kernel
theorem d_P_init_27 : decode b_P_init 27 = .ok (.return_, 1) := by decide +kernel
theorem d_H_init_0 : decode b_H_init 0 = .ok (.aload_n 0, 1) := by decide +kernel
theorem d_H_init_1 : decode b_H_init 1 = .ok (.invokespecial 3, 3) := by decide +kernel
theorem d_H_init_4 : decode b_H_init 4 = .ok (.aload_n 0, 1) := by decide +kernel
theorem d_H_init_5 : decode b_H_init 5 = .ok (.iload_n 1, 1) := by decide +kernel
theorem d_H_init_6 : decode b_H_init 6 = .ok (.putfield 9, 3) := by decide +kernel
theorem d_H_init_9 : decode b_H_init 9 = .ok (.aload_n 0, 1) := by decide +kernel
theorem d_H_init_10 : decode b_H_init 10 = .ok (.iload_n 2, 1) := by decide +kernel
theorem d_H_init_11 : decode b_H_init 11 = .ok (.putfield 15, 3) := by decide +kernel
theorem d_H_init_14 : decode b_H_init 14 = .ok (.aload_n 0, 1) := by decide +kernel
theorem d_H_init_15 : decode b_H_init 15 = .ok (.aload_n 3, 1) := by decide +kernel
theorem d_H_init_16 : decode b_H_init 16 = .ok (.putfield 18, 3) := by decide +kernel
theorem d_H_init_19 : decode b_H_init 19 = .ok (.aload_n 0, 1) := by decide +kernel
theorem d_H_init_20 : decode b_H_init 20 = .ok (.bipush 8, 2) := by decide +kernel
theorem d_H_init_22 : decode b_H_init 22 = .ok (.iload_n 1, 1) := by decide +kernel
theorem d_H_init_23 : decode b_H_init 23 = .ok (.imul, 1) := by decide +kernel
theorem d_H_init_24 : decode b_H_init 24 = .ok (.putfield 22, 3) := by decide +kernel
theorem d_H_init_27 : decode b_H_init 27 = .ok (.aload_n 0, 1) := by decide +kernel
theorem d_H_init_28 : decode b_H_init 28 = .ok (.ldc2_w 25, 3) := by decide +kernel
theorem d_H_init_31 : decode b_H_init 31 = .ok (.bipush 64, 2) := by decide +kernel
theorem d_H_init_33 : decode b_H_init 33 = .ok (.aload_n 0, 1) := by decide +kernel
theorem d_H_init_34 : decode b_H_init 34 = .ok (.getfield 22, 3) := by decide +kernel
theorem d_H_init_37 : decode b_H_init 37 = .ok (.isub, 1) := by decide +kernel
theorem d_H_init_38 : decode b_H_init 38 = .ok (.lushr, 1) := by decide +kernel
theorem d_H_init_39 : decode b_H_init 39 = .ok (.putfield 27, 3) := by decide +kernel
theorem d_H_init_42 : decode b_H_init 42 = .ok (.aload_n 0, 1) := by decide +kernel
theorem d_H_init_43 : decode b_H_init 43 = .ok (.bipush 16, 2) := by decide +kernel
theorem d_H_init_45 : decode b_H_init 45 = .ok (.iload_n 1, 1) := by decide +kernel
theorem d_H_init_46 : decode b_H_init 46 = .ok (.imul, 1) := by decide +kernel
theorem d_H_init_47 : decode b_H_init 47 = .ok (.putfield 31, 3) := by decide +kernel
theorem d_H_init_50 : decode b_H_init 50 = .ok (.aload_n 0, 1) := by decide +kernel
theorem d_H_init_51 : decode b_H_init 51 = .ok (.bipush 8, 2) := by decide +kernel
theorem d_H_init_53 : decode b_H_init 53 = .ok (.iload_n 1, 1) := by decide +kernel
theorem d_H_init_54 : decode b_H_init 54 = .ok (.imul, 1) := by decide +kernel
theorem d_H_init_55 : decode b_H_init 55 = .ok (.putfield 34, 3) := by decide +kernel
theorem d_H_init_58 : decode b_H_init 58 = .ok (.aload_n 0, 1) := by decide +kernel
theorem d_H_init_59 : decode b_H_init 59 = .ok (.aload_n 0, 1) := by decide +kernel
theorem d_H_init_60 : decode b_H_init 60 = .ok (.getfield 31, 3) := by decide +kernel
theorem d_H_init_63 : decode b_H_init 63 = .ok (.newarray .byte, 2) := by decide +kernel
theorem d_H_init_65 : decode b_H_init 65 = .ok (.putfield 37, 3) := by decide +kernel
theorem d_H_init_68 : decode b_H_init 68 = .ok (.aload_n 0, 1) := by decide +kernel
theorem d_H_init_69 : decode b_H_init 69 = .ok (.bipush 8, 2) := by decide +kernel
theorem d_H_init_71 : decode b_H_init 71 = .ok (.newarray .long, 2) := by decide +kernel
theorem d_H_init_73 : decode b_H_init 73 = .ok (.putfield 41, 3) := by decide +kernel
theorem d_H_init_76 : decode b_H_init 76 = .ok (.aload_n 0, 1) := by decide +kernel
theorem d_H_init_77 : decode b_H_init 77 = .ok (.iload_n 2, 1) := by decide +kernel
theorem d_H_init_78 : decode b_H_init 78 = .ok (.newarray .long, 2) := by decide +kernel
theorem d_H_init_80 : decode b_H_init 80 = .ok (.putfield 45, 3) := by decide +kernel
theorem d_H_init_83 : decode b_H_init 83 = .ok (.aload_n 0, 1) := by decide +kernel
theorem d_H_init_84 : decode b_H_init 84 = .ok (.bipush 8, 2) := by decide +kernel
theorem d_H_init_86 : decode b_H_init 86 = .ok (.newarray .long, 2) := by decide +kernel
theorem d_H_init_88 : decode b_H_init 88 = .ok (.putfield 48, 3) := by decide +kernel
theorem d_H_init_91 : decode b_H_init 91 = .ok (.return_, 1) := by decide +kernel
theorem d_L_feed_0 : decode b_L_feed 0 = .ok (.aload 6, 2) := by decide +kernel
theorem d_L_feed_2 : decode b_L_feed 2 = .ok (.iconst 0, 1) := by decide +kernel
theorem d_L_feed_3 : decode b_L_feed 3 = .ok (.aload_n 0, 1) := by decide +kernel
theorem d_L_feed_4 : decode b_L_feed 4 = .ok (.iload_n 1, 1) := by decide +kernel
theorem d_L_feed_5 : decode b_L_feed 5 = .ok (.iload_n 2, 1) := by decide +kernel
theorem d_L_feed_6 : decode b_L_feed 6 = .ok (.iload_n 3, 1) := by decide +kernel
theorem d_L_feed_7 : decode b_L_feed 7 = .ok (.iload 4, 2) := by decide +kernel
theorem d_L_feed_9 : decode b_L_feed 9 = .ok (.iload 5, 2) := by decide +kernel
theorem d_L_feed_11 : decode b_L_feed 11 = .ok (.invokevirtual 7, 3) := by decide +kernel
theorem d_L_feed_14 : decode b_L_feed 14 = .ok (.i2l, 1) := by decide +kernel
theorem d_L_feed_15 : decode b_L_feed 15 = .ok (.lastore, 1) := by decide +kernel
theorem d_L_feed_16 : decode b_L_feed 16 = .ok (.goto 7, 3) := by decide +kernel
theorem d_L_feed_19 : decode b_L_feed 19 = .ok (.astore 7, 2) := by decide +kernel
theorem d_L_feed_21 : decode b_L_feed 21 = .ok (.iconst 1, 1) := by decide +kernel
theorem d_L_feed_22 : decode b_L_feed 22 = .ok (.ireturn, 1) := by decide +kernel
theorem d_L_feed_23 : decode b_L_feed 23 = .ok (.iconst 0, 1) := by decide +kernel
theorem d_L_feed_24 : decode b_L_feed 24 = .ok (.ireturn, 1) := by decide +kernel
theorem d_D_feed_0 : decode b_D_feed 0 = .ok (.aload_n 0, 1) := by decide +kernel
theorem d_D_feed_1 : decode b_D_feed 1 = .ok (.getfield 16, 3) := by decide +kernel
theorem d_D_feed_4 : decode b_D_feed 4 = .ok (.getfield 66, 3) := by decide +kernel
theorem d_D_feed_7 : decode b_D_feed 7 = .ok (.sipush 8172, 3) := by decide +kernel
theorem d_D_feed_10 : decode b_D_feed 10 = .ok (.if_icmp .le 13, 3) := by decide +kernel
theorem d_D_feed_13 : decode b_D_feed 13 = .ok (.new 69, 3) := by decide +kernel
theorem d_D_feed_16 : decode b_D_feed 16 = .ok (.dup, 1) := by decide +kernel
theorem d_D_feed_17 : decode b_D_feed 17 = .ok (.ldc 71, 2) := by decide +kernel
theorem d_D_feed_19 : decode b_D_feed 19 = .ok (.invokespecial 73, 3) := by decide +kernel
theorem d_D_feed_22 : decode b_D_feed 22 = .ok (.athrow, 1) := by decide +kernel
theorem d_D_feed_23 : decode b_D_feed 23 = .ok (.aload_n 0, 1) := by decide +kernel
theorem d_D_feed_24 : decode b_D_feed 24 = .ok (.getfield 16, 3) := by decide +kernel
theorem d_D_feed_27 : decode b_D_feed 27 = .ok (.iload_n 1, 1) := by decide +kernel
theorem d_D_feed_28 : decode b_D_feed 28 = .ok (.invokevirtual 76, 3) := by decide +kernel
theorem d_D_feed_31 : decode b_D_feed 31 = .ok (.aload_n 0, 1) := by decide +kernel
theorem d_D_feed_32 : decode b_D_feed 32 = .ok (.getfield 16, 3) := by decide +kernel
theorem d_D_feed_35 : decode b_D_feed 35 = .ok (.iload_n 2, 1) := by decide +kernel
theorem d_D_feed_36 : decode b_D_feed 36 = .ok (.invokevirtual 76, 3) := by decide +kernel
theorem d_D_feed_39 : decode b_D_feed 39 = .ok (.aload_n 0, 1) := by decide +kernel
theorem d_D_feed_40 : decode b_D_feed 40 = .ok (.getfield 16, 3) := by decide +kernel
theorem d_D_feed_43 : decode b_D_feed 43 = .ok (.iload_n 3, 1) := by decide +kernel
theorem d_D_feed_44 : decode b_D_feed 44 = .ok (.invokevirtual 76, 3) := by decide +kernel
theorem d_D_feed_47 : decode b_D_feed 47 = .ok (.aload_n 0, 1) := by decide +kernel
theorem d_D_feed_48 : decode b_D_feed 48 = .ok (.getfield 16, 3) := by decide +kernel
theorem d_D_feed_51 : decode b_D_feed 51 = .ok (.iload 4, 2) := by decide +kernel
theorem d_D_feed_53 : decode b_D_feed 53 = .ok (.invokevirtual 76, 3) := by decide +kernel
theorem d_D_feed_56 : decode b_D_feed 56 = .ok (.aload_n 0, 1) := by decide +kernel
theorem d_D_feed_57 : decode b_D_feed 57 = .ok (.getfield 16, 3) := by decide +kernel
theorem d_D_feed_60 : decode b_D_feed 60 = .ok (.iload 5, 2) := by decide +kernel
theorem d_D_feed_62 : decode b_D_feed 62 = .ok (.invokevirtual 76, 3) := by decide +kernel
theorem d_D_feed_65 : decode b_D_feed 65 = .ok (.aload_n 0, 1) := by decide +kernel
theorem d_D_feed_66 : decode b_D_feed 66 = .ok (.getfield 16, 3) := by decide +kernel
theorem d_D_feed_69 : decode b_D_feed 69 = .ok (.getfield 66, 3) := by decide +kernel
theorem d_D_feed_72 : decode b_D_feed 72 = .ok (.ireturn, 1) := by decide +kernel
theorem d_Y_append_0 : decode b_Y_append 0 = .ok (.bipush 24, 2) := by decide +kernel
theorem d_Y_append_2 : decode b_Y_append 2 = .ok (.istore_n 2, 1) := by decide +kernel
theorem d_Y_append_3 : decode b_Y_append 3 = .ok (.iload_n 2, 1) := by decide +kernel
theorem d_Y_append_4 : decode b_Y_append 4 = .ok (.ifCond .lt 32, 3) := by decide +kernel
theorem d_Y_append_7 : decode b_Y_append 7 = .ok (.aload_n 0, 1) := by decide +kernel
theorem d_Y_append_8 : decode b_Y_append 8 = .ok (.getfield 9, 3) := by decide +kernel
theorem d_Y_append_11 : decode b_Y_append 11 = .ok (.aload_n 0, 1) := by decide +kernel
theorem d_Y_append_12 : decode b_Y_append 12 = .ok (.getfield 15, 3) := by decide +kernel
theorem d_Y_append_15 : decode b_Y_append 15 = .ok (.iload_n 1, 1) := by decide +kernel
theorem d_Y_append_16 : decode b_Y_append 16 = .ok (.iload_n 2, 1) := by decide +kernel
theorem d_Y_append_17 : decode b_Y_append 17 = .ok (.iushr, 1) := by decide +kernel
theorem d_Y_append_18 : decode b_Y_append 18 = .ok (.i2b, 1) := by decide +kernel
theorem d_Y_append_19 : decode b_Y_append 19 = .ok (.bastore, 1) := by decide +kernel
theorem d_Y_append_20 : decode b_Y_append 20 = .ok (.aload_n 0, 1) := by decide +kernel
theorem d_Y_append_21 : decode b_Y_append 21 = .ok (.dup, 1) := by decide +kernel
theorem d_Y_append_22 : decode b_Y_append 22 = .ok (.getfield 15, 3) := by decide +kernel
theorem d_Y_append_25 : decode b_Y_append 25 = .ok (.iconst 1, 1) := by decide +kernel
theorem d_Y_append_26 : decode b_Y_append 26 = .ok (.iadd, 1) := by decide +kernel
theorem d_Y_append_27 : decode b_Y_append 27 = .ok (.putfield 15, 3) := by decide +kernel
theorem d_Y_append_30 : decode b_Y_append 30 = .ok (.iinc 2 (-8), 3) := by decide +kernel
theorem d_Y_append_33 : decode b_Y_append 33 = .ok (.goto (-30), 3) := by decide +kernel
theorem d_Y_append_36 : decode b_Y_append 36 = .ok (.return_, 1) := by decide +kernel
theorem d_L_end_0 : decode b_L_end 0 = .ok (.aload_n 3, 1) := by decide +kernel
theorem d_L_end_1 : decode b_L_end 1 = .ok (.iconst 0, 1) := by decide +kernel
theorem d_L_end_2 : decode b_L_end 2 = .ok (.aload_n 0, 1) := by decide +kernel
theorem d_L_end_3 : decode b_L_end 3 = .ok (.iload_n 1, 1) := by decide +kernel
theorem d_L_end_4 : decode b_L_end 4 = .ok (.iload_n 2, 1) := by decide +kernel
theorem d_L_end_5 : decode b_L_end 5 = .ok (.invokevirtual 15, 3) := by decide +kernel
theorem d_L_end_8 : decode b_L_end 8 = .ok (.i2l, 1) := by decide +kernel
theorem d_L_end_9 : decode b_L_end 9 = .ok (.lastore, 1) := by decide +kernel
theorem d_L_end_10 : decode b_L_end 10 = .ok (.goto 11, 3) := by decide +kernel
theorem d_L_end_13 : decode b_L_end 13 = .ok (.astore 4, 2) := by decide +kernel
theorem d_L_end_15 : decode b_L_end 15 = .ok (.iconst 1, 1) := by decide +kernel
theorem d_L_end_16 : decode b_L_end 16 = .ok (.ireturn, 1) := by decide +kernel
theorem d_L_end_17 : decode b_L_end 17 = .ok (.astore 4, 2) := by decide +kernel
theorem d_L_end_19 : decode b_L_end 19 = .ok (.iconst 2, 1) := by decide +kernel
theorem d_L_end_20 : decode b_L_end 20 = .ok (.ireturn, 1) := by decide +kernel
theorem d_L_end_21 : decode b_L_end 21 = .ok (.iconst 0, 1) := by decide +kernel
theorem d_L_end_22 : decode b_L_end 22 = .ok (.ireturn, 1) := by decide +kernel
theorem d_D_end_0 : decode b_D_end 0 = .ok (.aload_n 0, 1) := by decide +kernel
theorem d_D_end_1 : decode b_D_end 1 = .ok (.iload_n 1, 1) := by decide +kernel
theorem d_D_end_2 : decode b_D_end 2 = .ok (.invokevirtual 80, 3) := by decide +kernel
theorem d_D_end_5 : decode b_D_end 5 = .ok (.astore_n 3, 1) := by decide +kernel
theorem d_D_end_6 : decode b_D_end 6 = .ok (.iload_n 2, 1) := by decide +kernel
theorem d_D_end_7 : decode b_D_end 7 = .ok (.iconst 0, 1) := by decide +kernel
theorem d_D_end_8 : decode b_D_end 8 = .ok (.sipush 8192, 3) := by decide +kernel
theorem d_D_end_11 : decode b_D_end 11 = .ok (.invokestatic 84, 3) := by decide +kernel
theorem d_D_end_14 : decode b_D_end 14 = .ok (.aload_n 0, 1) := by decide +kernel
theorem d_D_end_15 : decode b_D_end 15 = .ok (.getfield 16, 3) := by decide +kernel
theorem d_D_end_18 : decode b_D_end 18 = .ok (.getfield 66, 3) := by decide +kernel
theorem d_D_end_21 : decode b_D_end 21 = .ok (.iload_n 2, 1) := by decide +kernel
theorem d_D_end_22 : decode b_D_end 22 = .ok (.if_icmp .ge 13, 3) := by decide +kernel
theorem d_D_end_25 : decode b_D_end 25 = .ok (.new 69, 3) := by decide +kernel
theorem d_D_end_28 : decode b_D_end 28 = .ok (.dup, 1) := by decide +kernel
theorem d_D_end_29 : decode b_D_end 29 = .ok (.ldc 88, 2) := by decide +kernel
theorem d_D_end_31 : decode b_D_end 31 = .ok (.invokespecial 73, 3) := by decide +kernel
theorem d_D_end_34 : decode b_D_end 34 = .ok (.athrow, 1) := by decide +kernel
theorem d_D_end_35 : decode b_D_end 35 = .ok (.aload_n 3, 1) := by decide +kernel
theorem d_D_end_36 : decode b_D_end 36 = .ok (.aload_n 0, 1) := by decide +kernel
theorem d_D_end_37 : decode b_D_end 37 = .ok (.getfield 16, 3) := by decide +kernel
theorem d_D_end_40 : decode b_D_end 40 = .ok (.iload_n 2, 1) := by decide +kernel
theorem d_D_end_41 : decode b_D_end 41 = .ok (.invokevirtual 90, 3) := by decide +kernel
theorem d_D_end_44 : decode b_D_end 44 = .ok (.aload_n 0, 1) := by decide +kernel
theorem d_D_end_45 : decode b_D_end 45 = .ok (.getfield 16, 3) := by decide +kernel
theorem d_D_end_48 : decode b_D_end 48 = .ok (.iconst 0, 1) := by decide +kernel
theorem d_D_end_49 : decode b_D_end 49 = .ok (.putfield 66, 3) := by decide +kernel
theorem d_D_end_52 : decode b_D_end 52 = .ok (.iload_n 2, 1) := by decide +kernel
theorem d_D_end_53 : decode b_D_end 53 = .ok (.ireturn, 1) := by decide +kernel
theorem d_D_slotAt_0 : decode b_D_slotAt 0 = .ok (.iload_n 1, 1) := by decide +kernel
theorem d_D_slotAt_1 : decode b_D_slotAt 1 = .ok (.iconst 0, 1) := by decide +kernel
theorem d_D_slotAt_2 : decode b_D_slotAt 2 = .ok (.bipush 7, 2) := by decide +kernel
theorem d_D_slotAt_4 : decode b_D_slotAt 4 = .ok (.invokestatic 84, 3) := by decide +kernel
theorem d_D_slotAt_7 : decode b_D_slotAt 7 = .ok (.aload_n 0, 1) := by decide +kernel
theorem d_D_slotAt_8 : decode b_D_slotAt 8 = .ok (.getfield 11, 3) := by decide +kernel
theorem d_D_slotAt_11 : decode b_D_slotAt 11 = .ok (.iload_n 1, 1) := by decide +kernel
theorem d_D_slotAt_12 : decode b_D_slotAt 12 = .ok (.aaload, 1) := by decide +kernel
theorem d_D_slotAt_13 : decode b_D_slotAt 13 = .ok (.areturn, 1) := by decide +kernel
theorem d_D_requireWithin_0 : decode b_D_requireWithin 0 = .ok (.iload_n 0, 1) := by decide +kernel
theorem d_D_requireWithin_1 : decode b_D_requireWithin 1 = .ok (.iload_n 1, 1) := by decide +kernel
theorem d_D_requireWithin_2 : decode b_D_requireWithin 2 = .ok (.if_icmp .lt 8, 3) := by decide +kernel
theorem d_D_requireWithin_5 : decode b_D_requireWithin 5 = .ok (.iload_n 0, 1) := by decide +kernel
theorem d_D_requireWithin_6 : decode b_D_requireWithin 6 = .ok (.iload_n 2, 1) := by decide +kernel
theorem d_D_requireWithin_7 : decode b_D_requireWithin 7 = .ok (.if_icmp .le 13, 3) := by decide +kernel
theorem d_D_requireWithin_10 : decode b_D_requireWithin 10 = .ok (.new 144, 3) := by decide +kernel
theorem d_D_requireWithin_13 : decode b_D_requireWithin 13 = .ok (.dup, 1) := by decide +kernel
theorem d_D_requireWithin_14 : decode b_D_requireWithin 14 = .ok (.ldc 146, 2) := by decide +kernel
theorem d_D_requireWithin_16 : decode b_D_requireWithin 16 = .ok (.invokespecial 148, 3) := by decide +kernel
theorem d_D_requireWithin_19 : decode b_D_requireWithin 19 = .ok (.athrow, 1) := by decide +kernel
theorem d_D_requireWithin_20 : decode b_D_requireWithin 20 = .ok (.return_, 1) := by decide +kernel
theorem d_Y_take_0 : decode b_Y_take 0 = .ok (.aload_n 1, 1) := by decide +kernel
theorem d_Y_take_1 : decode b_Y_take 1 = .ok (.getfield 9, 3) := by decide +kernel
theorem d_Y_take_4 : decode b_Y_take 4 = .ok (.iconst 0, 1) := by decide +kernel
theorem d_Y_take_5 : decode b_Y_take 5 = .ok (.aload_n 0, 1) := by decide +kernel
theorem d_Y_take_6 : decode b_Y_take 6 = .ok (.getfield 9, 3) := by decide +kernel
theorem d_Y_take_9 : decode b_Y_take 9 = .ok (.iconst 0, 1) := by decide +kernel
theorem d_Y_take_10 : decode b_Y_take 10 = .ok (.iload_n 2, 1) := by decide +kernel
theorem d_Y_take_11 : decode b_Y_take 11 = .ok (.invokestatic 19, 3) := by decide +kernel
theorem d_Y_take_14 : decode b_Y_take 14 = .ok (.aload_n 0, 1) := by decide +kernel
theorem d_Y_take_15 : decode b_Y_take 15 = .ok (.iload_n 2, 1) := by decide +kernel
theorem d_Y_take_16 : decode b_Y_take 16 = .ok (.putfield 15, 3) := by decide +kernel
theorem d_Y_take_19 : decode b_Y_take 19 = .ok (.return_, 1) := by decide +kernel
theorem d_L_copy_0 : decode b_L_copy 0 = .ok (.aload_n 3, 1) := by decide +kernel
theorem d_L_copy_1 : decode b_L_copy 1 = .ok (.iconst 0, 1) := by decide +kernel
theorem d_L_copy_2 : decode b_L_copy 2 = .ok (.aload_n 0, 1) := by decide +kernel
theorem d_L_copy_3 : decode b_L_copy 3 = .ok (.iload_n 1, 1) := by decide +kernel
theorem d_L_copy_4 : decode b_L_copy 4 = .ok (.iload_n 2, 1) := by decide +kernel
