theorem d_L_copy_5 : decode b_L_copy 5 = .ok (.invokevirtual 21, 3) := by decide +kernel
theorem d_L_copy_8 : decode b_L_copy 8 = .ok (.i2l, 1) := by decide +kernel
theorem d_L_copy_9 : decode b_L_copy 9 = .ok (.lastore, 1) := by decide +kernel
theorem d_L_copy_10 : decode b_L_copy 10 = .ok (.goto 7, 3) := by decide +kernel
theorem d_L_copy_13 : decode b_L_copy 13 = .ok (.astore 4, 2) := by decide +kernel
theorem d_L_copy_15 : decode b_L_copy 15 = .ok (.iconst 1, 1) := by decide +kernel
theorem d_L_copy_16 : decode b_L_copy 16 = .ok (.ireturn, 1) := by decide +kernel
theorem d_L_copy_17 : decode b_L_copy 17 = .ok (.iconst 0, 1) := by decide +kernel
theorem d_L_copy_18 : decode b_L_copy 18 = .ok (.ireturn, 1) := by decide +kernel
theorem d_D_copy_0 : decode b_D_copy 0 = .ok (.aload_n 0, 1) := by decide +kernel
theorem d_D_copy_1 : decode b_D_copy 1 = .ok (.iload_n 1, 1) := by decide +kernel
theorem d_D_copy_2 : decode b_D_copy 2 = .ok (.invokevirtual 80, 3) := by decide +kernel
theorem d_D_copy_5 : decode b_D_copy 5 = .ok (.astore_n 3, 1) := by decide +kernel
theorem d_D_copy_6 : decode b_D_copy 6 = .ok (.aload_n 0, 1) := by decide +kernel
theorem d_D_copy_7 : decode b_D_copy 7 = .ok (.iload_n 2, 1) := by decide +kernel
theorem d_D_copy_8 : decode b_D_copy 8 = .ok (.invokevirtual 80, 3) := by decide +kernel
theorem d_D_copy_11 : decode b_D_copy 11 = .ok (.astore 4, 2) := by decide +kernel
theorem d_D_copy_13 : decode b_D_copy 13 = .ok (.aload 4, 2) := by decide +kernel
theorem d_D_copy_15 : decode b_D_copy 15 = .ok (.aload_n 3, 1) := by decide +kernel
theorem d_D_copy_16 : decode b_D_copy 16 = .ok (.aload_n 3, 1) := by decide +kernel
theorem d_D_copy_17 : decode b_D_copy 17 = .ok (.getfield 66, 3) := by decide +kernel
theorem d_D_copy_20 : decode b_D_copy 20 = .ok (.invokevirtual 90, 3) := by decide +kernel
theorem d_D_copy_23 : decode b_D_copy 23 = .ok (.aload 4, 2) := by decide +kernel
theorem d_D_copy_25 : decode b_D_copy 25 = .ok (.getfield 66, 3) := by decide +kernel
theorem d_D_copy_28 : decode b_D_copy 28 = .ok (.ireturn, 1) := by decide +kernel
theorem d_L_resize_0 : decode b_L_resize 0 = .ok (.aload_n 3, 1) := by decide +kernel
theorem d_L_resize_1 : decode b_L_resize 1 = .ok (.iconst 0, 1) := by decide +kernel
theorem d_L_resize_2 : decode b_L_resize 2 = .ok (.aload_n 0, 1) := by decide +kernel
theorem d_L_resize_3 : decode b_L_resize 3 = .ok (.iload_n 1, 1) := by decide +kernel
theorem d_L_resize_4 : decode b_L_resize 4 = .ok (.iload_n 2, 1) := by decide +kernel
theorem d_L_resize_5 : decode b_L_resize 5 = .ok (.invokevirtual 24, 3) := by decide +kernel
theorem d_L_resize_8 : decode b_L_resize 8 = .ok (.i2l, 1) := by decide +kernel
theorem d_L_resize_9 : decode b_L_resize 9 = .ok (.lastore, 1) := by decide +kernel
theorem d_L_resize_10 : decode b_L_resize 10 = .ok (.goto 7, 3) := by decide +kernel
theorem d_L_resize_13 : decode b_L_resize 13 = .ok (.astore 4, 2) := by decide +kernel
theorem d_L_resize_15 : decode b_L_resize 15 = .ok (.iconst 1, 1) := by decide +kernel
theorem d_L_resize_16 : decode b_L_resize 16 = .ok (.ireturn, 1) := by decide +kernel
theorem d_L_resize_17 : decode b_L_resize 17 = .ok (.iconst 0, 1) := by decide +kernel
theorem d_L_resize_18 : decode b_L_resize 18 = .ok (.ireturn, 1) := by decide +kernel
theorem d_D_resize_0 : decode b_D_resize 0 = .ok (.aload_n 0, 1) := by decide +kernel
theorem d_D_resize_1 : decode b_D_resize 1 = .ok (.iload_n 1, 1) := by decide +kernel
theorem d_D_resize_2 : decode b_D_resize 2 = .ok (.invokevirtual 80, 3) := by decide +kernel
theorem d_D_resize_5 : decode b_D_resize 5 = .ok (.astore_n 3, 1) := by decide +kernel
theorem d_D_resize_6 : decode b_D_resize 6 = .ok (.iload_n 2, 1) := by decide +kernel
theorem d_D_resize_7 : decode b_D_resize 7 = .ok (.iconst 0, 1) := by decide +kernel
theorem d_D_resize_8 : decode b_D_resize 8 = .ok (.sipush 8192, 3) := by decide +kernel
theorem d_D_resize_11 : decode b_D_resize 11 = .ok (.invokestatic 84, 3) := by decide +kernel
theorem d_D_resize_14 : decode b_D_resize 14 = .ok (.aload_n 3, 1) := by decide +kernel
theorem d_D_resize_15 : decode b_D_resize 15 = .ok (.getfield 66, 3) := by decide +kernel
theorem d_D_resize_18 : decode b_D_resize 18 = .ok (.istore 4, 2) := by decide +kernel
theorem d_D_resize_20 : decode b_D_resize 20 = .ok (.aload_n 3, 1) := by decide +kernel
theorem d_D_resize_21 : decode b_D_resize 21 = .ok (.iload_n 2, 1) := by decide +kernel
theorem d_D_resize_22 : decode b_D_resize 22 = .ok (.invokevirtual 94, 3) := by decide +kernel
theorem d_D_resize_25 : decode b_D_resize 25 = .ok (.iload 4, 2) := by decide +kernel
theorem d_D_resize_27 : decode b_D_resize 27 = .ok (.ireturn, 1) := by decide +kernel
theorem d_Y_cutOrFill_0 : decode b_Y_cutOrFill 0 = .ok (.iload_n 1, 1) := by decide +kernel
theorem d_Y_cutOrFill_1 : decode b_Y_cutOrFill 1 = .ok (.aload_n 0, 1) := by decide +kernel
theorem d_Y_cutOrFill_2 : decode b_Y_cutOrFill 2 = .ok (.getfield 15, 3) := by decide +kernel
theorem d_Y_cutOrFill_5 : decode b_Y_cutOrFill 5 = .ok (.if_icmp .le 16, 3) := by decide +kernel
theorem d_Y_cutOrFill_8 : decode b_Y_cutOrFill 8 = .ok (.aload_n 0, 1) := by decide +kernel
theorem d_Y_cutOrFill_9 : decode b_Y_cutOrFill 9 = .ok (.getfield 9, 3) := by decide +kernel
theorem d_Y_cutOrFill_12 : decode b_Y_cutOrFill 12 = .ok (.aload_n 0, 1) := by decide +kernel
theorem d_Y_cutOrFill_13 : decode b_Y_cutOrFill 13 = .ok (.getfield 15, 3) := by decide +kernel
theorem d_Y_cutOrFill_16 : decode b_Y_cutOrFill 16 = .ok (.iload_n 1, 1) := by decide +kernel
theorem d_Y_cutOrFill_17 : decode b_Y_cutOrFill 17 = .ok (.iconst 0, 1) := by decide +kernel
theorem d_Y_cutOrFill_18 : decode b_Y_cutOrFill 18 = .ok (.invokestatic 25, 3) := by decide +kernel
theorem d_Y_cutOrFill_21 : decode b_Y_cutOrFill 21 = .ok (.aload_n 0, 1) := by decide +kernel
theorem d_Y_cutOrFill_22 : decode b_Y_cutOrFill 22 = .ok (.iload_n 1, 1) := by decide +kernel
theorem d_Y_cutOrFill_23 : decode b_Y_cutOrFill 23 = .ok (.putfield 15, 3) := by decide +kernel
theorem d_Y_cutOrFill_26 : decode b_Y_cutOrFill 26 = .ok (.return_, 1) := by decide +kernel
theorem d_J_fill_0 : decode b_J_fill 0 = .ok (.aload_n 0, 1) := by decide +kernel
theorem d_J_fill_1 : decode b_J_fill 1 = .ok (.arraylength, 1) := by decide +kernel
theorem d_J_fill_2 : decode b_J_fill 2 = .ok (.iload_n 1, 1) := by decide +kernel
theorem d_J_fill_3 : decode b_J_fill 3 = .ok (.iload_n 2, 1) := by decide +kernel
theorem d_J_fill_4 : decode b_J_fill 4 = .ok (.invokestatic 13, 3) := by decide +kernel
theorem d_J_fill_7 : decode b_J_fill 7 = .ok (.iload_n 1, 1) := by decide +kernel
theorem d_J_fill_8 : decode b_J_fill 8 = .ok (.istore 4, 2) := by decide +kernel
theorem d_J_fill_10 : decode b_J_fill 10 = .ok (.iload 4, 2) := by decide +kernel
theorem d_J_fill_12 : decode b_J_fill 12 = .ok (.iload_n 2, 1) := by decide +kernel
theorem d_J_fill_13 : decode b_J_fill 13 = .ok (.if_icmp .ge 14, 3) := by decide +kernel
theorem d_J_fill_16 : decode b_J_fill 16 = .ok (.aload_n 0, 1) := by decide +kernel
theorem d_J_fill_17 : decode b_J_fill 17 = .ok (.iload 4, 2) := by decide +kernel
theorem d_J_fill_19 : decode b_J_fill 19 = .ok (.iload_n 3, 1) := by decide +kernel
theorem d_J_fill_20 : decode b_J_fill 20 = .ok (.bastore, 1) := by decide +kernel
theorem d_J_fill_21 : decode b_J_fill 21 = .ok (.iinc 4 1, 3) := by decide +kernel
theorem d_J_fill_24 : decode b_J_fill 24 = .ok (.goto (-14), 3) := by decide +kernel
theorem d_J_fill_27 : decode b_J_fill 27 = .ok (.return_, 1) := by decide +kernel
theorem d_J_rangeCheck_0 : decode b_J_rangeCheck 0 = .ok (.iload_n 1, 1) := by decide +kernel
theorem d_J_rangeCheck_1 : decode b_J_rangeCheck 1 = .ok (.iload_n 2, 1) := by decide +kernel
theorem d_J_rangeCheck_2 : decode b_J_rangeCheck 2 = .ok (.if_icmp .le 44, 3) := by decide +kernel
theorem d_J_rangeCheck_5 : decode b_J_rangeCheck 5 = .ok (.new 43, 3) := by decide +kernel
theorem d_J_rangeCheck_8 : decode b_J_rangeCheck 8 = .ok (.dup, 1) := by decide +kernel
theorem d_J_rangeCheck_9 : decode b_J_rangeCheck 9 = .ok (.new 45, 3) := by decide +kernel
theorem d_J_rangeCheck_12 : decode b_J_rangeCheck 12 = .ok (.dup, 1) := by decide +kernel
theorem d_J_rangeCheck_13 : decode b_J_rangeCheck 13 = .ok (.invokespecial 47, 3) := by decide +kernel
theorem d_J_rangeCheck_16 : decode b_J_rangeCheck 16 = .ok (.ldc 48, 2) := by decide +kernel
theorem d_J_rangeCheck_18 : decode b_J_rangeCheck 18 = .ok (.invokevirtual 50, 3) := by decide +kernel
theorem d_J_rangeCheck_21 : decode b_J_rangeCheck 21 = .ok (.iload_n 1, 1) := by decide +kernel
theorem d_J_rangeCheck_22 : decode b_J_rangeCheck 22 = .ok (.invokevirtual 54, 3) := by decide +kernel
theorem d_J_rangeCheck_25 : decode b_J_rangeCheck 25 = .ok (.ldc 57, 2) := by decide +kernel
theorem d_J_rangeCheck_27 : decode b_J_rangeCheck 27 = .ok (.invokevirtual 50, 3) := by decide +kernel
theorem d_J_rangeCheck_30 : decode b_J_rangeCheck 30 = .ok (.iload_n 2, 1) := by decide +kernel
theorem d_J_rangeCheck_31 : decode b_J_rangeCheck 31 = .ok (.invokevirtual 54, 3) := by decide +kernel
theorem d_J_rangeCheck_34 : decode b_J_rangeCheck 34 = .ok (.ldc 59, 2) := by decide +kernel
theorem d_J_rangeCheck_36 : decode b_J_rangeCheck 36 = .ok (.invokevirtual 50, 3) := by decide +kernel
theorem d_J_rangeCheck_39 : decode b_J_rangeCheck 39 = .ok (.invokevirtual 61, 3) := by decide +kernel
theorem d_J_rangeCheck_42 : decode b_J_rangeCheck 42 = .ok (.invokespecial 65, 3) := by decide +kernel
theorem d_J_rangeCheck_45 : decode b_J_rangeCheck 45 = .ok (.athrow, 1) := by decide +kernel
theorem d_J_rangeCheck_46 : decode b_J_rangeCheck 46 = .ok (.iload_n 1, 1) := by decide +kernel
theorem d_J_rangeCheck_47 : decode b_J_rangeCheck 47 = .ok (.ifCond .ge 12, 3) := by decide +kernel
theorem d_J_rangeCheck_50 : decode b_J_rangeCheck 50 = .ok (.new 68, 3) := by decide +kernel
theorem d_J_rangeCheck_53 : decode b_J_rangeCheck 53 = .ok (.dup, 1) := by decide +kernel
theorem d_J_rangeCheck_54 : decode b_J_rangeCheck 54 = .ok (.iload_n 1, 1) := by decide +kernel
theorem d_J_rangeCheck_55 : decode b_J_rangeCheck 55 = .ok (.invokespecial 70, 3) := by decide +kernel
theorem d_J_rangeCheck_58 : decode b_J_rangeCheck 58 = .ok (.athrow, 1) := by decide +kernel
theorem d_J_rangeCheck_59 : decode b_J_rangeCheck 59 = .ok (.iload_n 2, 1) := by decide +kernel
theorem d_J_rangeCheck_60 : decode b_J_rangeCheck 60 = .ok (.iload_n 0, 1) := by decide +kernel
theorem d_J_rangeCheck_61 : decode b_J_rangeCheck 61 = .ok (.if_icmp .le 12, 3) := by decide +kernel
theorem d_J_rangeCheck_64 : decode b_J_rangeCheck 64 = .ok (.new 68, 3) := by decide +kernel
theorem d_J_rangeCheck_67 : decode b_J_rangeCheck 67 = .ok (.dup, 1) := by decide +kernel
theorem d_J_rangeCheck_68 : decode b_J_rangeCheck 68 = .ok (.iload_n 2, 1) := by decide +kernel
theorem d_J_rangeCheck_69 : decode b_J_rangeCheck 69 = .ok (.invokespecial 70, 3) := by decide +kernel
theorem d_J_rangeCheck_72 : decode b_J_rangeCheck 72 = .ok (.athrow, 1) := by decide +kernel
theorem d_J_rangeCheck_73 : decode b_J_rangeCheck 73 = .ok (.return_, 1) := by decide +kernel
theorem d_L_alter_0 : decode b_L_alter 0 = .ok (.aload 4, 2) := by decide +kernel
theorem d_L_alter_2 : decode b_L_alter 2 = .ok (.iconst 0, 1) := by decide +kernel
theorem d_L_alter_3 : decode b_L_alter 3 = .ok (.aload_n 0, 1) := by decide +kernel
theorem d_L_alter_4 : decode b_L_alter 4 = .ok (.iload_n 1, 1) := by decide +kernel
theorem d_L_alter_5 : decode b_L_alter 5 = .ok (.iload_n 2, 1) := by decide +kernel
theorem d_L_alter_6 : decode b_L_alter 6 = .ok (.iload_n 3, 1) := by decide +kernel
theorem d_L_alter_7 : decode b_L_alter 7 = .ok (.invokevirtual 27, 3) := by decide +kernel
theorem d_L_alter_10 : decode b_L_alter 10 = .ok (.i2l, 1) := by decide +kernel
theorem d_L_alter_11 : decode b_L_alter 11 = .ok (.lastore, 1) := by decide +kernel
theorem d_L_alter_12 : decode b_L_alter 12 = .ok (.goto 11, 3) := by decide +kernel
theorem d_L_alter_15 : decode b_L_alter 15 = .ok (.astore 5, 2) := by decide +kernel
theorem d_L_alter_17 : decode b_L_alter 17 = .ok (.iconst 1, 1) := by decide +kernel
theorem d_L_alter_18 : decode b_L_alter 18 = .ok (.ireturn, 1) := by decide +kernel
theorem d_L_alter_19 : decode b_L_alter 19 = .ok (.astore 5, 2) := by decide +kernel
theorem d_L_alter_21 : decode b_L_alter 21 = .ok (.iconst 2, 1) := by decide +kernel
theorem d_L_alter_22 : decode b_L_alter 22 = .ok (.ireturn, 1) := by decide +kernel
theorem d_L_alter_23 : decode b_L_alter 23 = .ok (.iconst 0, 1) := by decide +kernel
theorem d_L_alter_24 : decode b_L_alter 24 = .ok (.ireturn, 1) := by decide +kernel
theorem d_D_alter_0 : decode b_D_alter 0 = .ok (.aload_n 0, 1) := by decide +kernel
theorem d_D_alter_1 : decode b_D_alter 1 = .ok (.iload_n 1, 1) := by decide +kernel
theorem d_D_alter_2 : decode b_D_alter 2 = .ok (.invokevirtual 80, 3) := by decide +kernel
theorem d_D_alter_5 : decode b_D_alter 5 = .ok (.astore 4, 2) := by decide +kernel
theorem d_D_alter_7 : decode b_D_alter 7 = .ok (.iload_n 3, 1) := by decide +kernel
theorem d_D_alter_8 : decode b_D_alter 8 = .ok (.iconst 0, 1) := by decide +kernel
theorem d_D_alter_9 : decode b_D_alter 9 = .ok (.sipush 255, 3) := by decide +kernel
theorem d_D_alter_12 : decode b_D_alter 12 = .ok (.invokestatic 84, 3) := by decide +kernel
theorem d_D_alter_15 : decode b_D_alter 15 = .ok (.aload 4, 2) := by decide +kernel
theorem d_D_alter_17 : decode b_D_alter 17 = .ok (.iload_n 2, 1) := by decide +kernel
theorem d_D_alter_18 : decode b_D_alter 18 = .ok (.invokestatic 97, 3) := by decide +kernel
theorem d_D_alter_21 : decode b_D_alter 21 = .ok (.aload 4, 2) := by decide +kernel
theorem d_D_alter_23 : decode b_D_alter 23 = .ok (.getfield 100, 3) := by decide +kernel
theorem d_D_alter_26 : decode b_D_alter 26 = .ok (.iload_n 2, 1) := by decide +kernel
theorem d_D_alter_27 : decode b_D_alter 27 = .ok (.aload 4, 2) := by decide +kernel
theorem d_D_alter_29 : decode b_D_alter 29 = .ok (.getfield 100, 3) := by decide +kernel
theorem d_D_alter_32 : decode b_D_alter 32 = .ok (.iload_n 2, 1) := by decide +kernel
theorem d_D_alter_33 : decode b_D_alter 33 = .ok (.baload, 1) := by decide +kernel
theorem d_D_alter_34 : decode b_D_alter 34 = .ok (.iload_n 3, 1) := by decide +kernel
theorem d_D_alter_35 : decode b_D_alter 35 = .ok (.ixor, 1) := by decide +kernel
theorem d_D_alter_36 : decode b_D_alter 36 = .ok (.i2b, 1) := by decide +kernel
theorem d_D_alter_37 : decode b_D_alter 37 = .ok (.bastore, 1) := by decide +kernel
theorem d_D_alter_38 : decode b_D_alter 38 = .ok (.aload 4, 2) := by decide +kernel
theorem d_D_alter_40 : decode b_D_alter 40 = .ok (.getfield 100, 3) := by decide +kernel
theorem d_D_alter_43 : decode b_D_alter 43 = .ok (.iload_n 2, 1) := by decide +kernel
theorem d_D_alter_44 : decode b_D_alter 44 = .ok (.baload, 1) := by decide +kernel
theorem d_D_alter_45 : decode b_D_alter 45 = .ok (.sipush 255, 3) := by decide +kernel
theorem d_D_alter_48 : decode b_D_alter 48 = .ok (.iand, 1) := by decide +kernel
theorem d_D_alter_49 : decode b_D_alter 49 = .ok (.ireturn, 1) := by decide +kernel
theorem d_D_requirePlace_0 : decode b_D_requirePlace 0 = .ok (.iload_n 1, 1) := by decide +kernel
theorem d_D_requirePlace_1 : decode b_D_requirePlace 1 = .ok (.ifCond .lt 11, 3) := by decide +kernel
theorem d_D_requirePlace_4 : decode b_D_requirePlace 4 = .ok (.iload_n 1, 1) := by decide +kernel
theorem d_D_requirePlace_5 : decode b_D_requirePlace 5 = .ok (.aload_n 0, 1) := by decide +kernel
theorem d_D_requirePlace_6 : decode b_D_requirePlace 6 = .ok (.getfield 66, 3) := by decide +kernel
theorem d_D_requirePlace_9 : decode b_D_requirePlace 9 = .ok (.if_icmp .lt 13, 3) := by decide +kernel
theorem d_D_requirePlace_12 : decode b_D_requirePlace 12 = .ok (.new 69, 3) := by decide +kernel
theorem d_D_requirePlace_15 : decode b_D_requirePlace 15 = .ok (.dup, 1) := by decide +kernel
theorem d_D_requirePlace_16 : decode b_D_requirePlace 16 = .ok (.ldc 149, 2) := by decide +kernel
theorem d_D_requirePlace_18 : decode b_D_requirePlace 18 = .ok (.invokespecial 73, 3) := by decide +kernel
theorem d_D_requirePlace_21 : decode b_D_requirePlace 21 = .ok (.athrow, 1) := by decide +kernel
theorem d_D_requirePlace_22 : decode b_D_requirePlace 22 = .ok (.return_, 1) := by decide +kernel
theorem d_L_length_0 : decode b_L_length 0 = .ok (.aload_n 2, 1) := by decide +kernel
theorem d_L_length_1 : decode b_L_length 1 = .ok (.iconst 0, 1) := by decide +kernel
theorem d_L_length_2 : decode b_L_length 2 = .ok (.aload_n 0, 1) := by decide +kernel
theorem d_L_length_3 : decode b_L_length 3 = .ok (.iload_n 1, 1) := by decide +kernel
theorem d_L_length_4 : decode b_L_length 4 = .ok (.invokevirtual 31, 3) := by decide +kernel
theorem d_L_length_7 : decode b_L_length 7 = .ok (.i2l, 1) := by decide +kernel
theorem d_L_length_8 : decode b_L_length 8 = .ok (.lastore, 1) := by decide +kernel
theorem d_L_length_9 : decode b_L_length 9 = .ok (.goto 6, 3) := by decide +kernel
theorem d_L_length_12 : decode b_L_length 12 = .ok (.astore_n 3, 1) := by decide +kernel
theorem d_L_length_13 : decode b_L_length 13 = .ok (.iconst 1, 1) := by decide +kernel
theorem d_L_length_14 : decode b_L_length 14 = .ok (.ireturn, 1) := by decide +kernel
theorem d_L_length_15 : decode b_L_length 15 = .ok (.iconst 0, 1) := by decide +kernel
theorem d_L_length_16 : decode b_L_length 16 = .ok (.ireturn, 1) := by decide +kernel
theorem d_D_length_0 : decode b_D_length 0 = .ok (.aload_n 0, 1) := by decide +kernel
theorem d_D_length_1 : decode b_D_length 1 = .ok (.iload_n 1, 1) := by decide +kernel
theorem d_D_length_2 : decode b_D_length 2 = .ok (.invokevirtual 80, 3) := by decide +kernel
theorem d_D_length_5 : decode b_D_length 5 = .ok (.getfield 66, 3) := by decide +kernel
theorem d_D_length_8 : decode b_D_length 8 = .ok (.ireturn, 1) := by decide +kernel
theorem d_L_word_0 : decode b_L_word 0 = .ok (.aload_n 3, 1) := by decide +kernel
theorem d_L_word_1 : decode b_L_word 1 = .ok (.iconst 0, 1) := by decide +kernel
theorem d_L_word_2 : decode b_L_word 2 = .ok (.aload_n 0, 1) := by decide +kernel
theorem d_L_word_3 : decode b_L_word 3 = .ok (.iload_n 1, 1) := by decide +kernel
theorem d_L_word_4 : decode b_L_word 4 = .ok (.iload_n 2, 1) := by decide +kernel
theorem d_L_word_5 : decode b_L_word 5 = .ok (.invokevirtual 35, 3) := by decide +kernel
theorem d_L_word_8 : decode b_L_word 8 = .ok (.lastore, 1) := by decide +kernel
theorem d_L_word_9 : decode b_L_word 9 = .ok (.goto 11, 3) := by decide +kernel
theorem d_L_word_12 : decode b_L_word 12 = .ok (.astore 4, 2) := by decide +kernel
theorem d_L_word_14 : decode b_L_word 14 = .ok (.iconst 1, 1) := by decide +kernel
theorem d_L_word_15 : decode b_L_word 15 = .ok (.ireturn, 1) := by decide +kernel
theorem d_L_word_16 : decode b_L_word 16 = .ok (.astore 4, 2) := by decide +kernel
theorem d_L_word_18 : decode b_L_word 18 = .ok (.iconst 2, 1) := by decide +kernel
theorem d_L_word_19 : decode b_L_word 19 = .ok (.ireturn, 1) := by decide +kernel
theorem d_L_word_20 : decode b_L_word 20 = .ok (.iconst 0, 1) := by decide +kernel
theorem d_L_word_21 : decode b_L_word 21 = .ok (.ireturn, 1) := by decide +kernel
theorem d_D_word_0 : decode b_D_word 0 = .ok (.aload_n 0, 1) := by decide +kernel
theorem d_D_word_1 : decode b_D_word 1 = .ok (.iload_n 1, 1) := by decide +kernel
theorem d_D_word_2 : decode b_D_word 2 = .ok (.invokevirtual 80, 3) := by decide +kernel
theorem d_D_word_5 : decode b_D_word 5 = .ok (.astore_n 3, 1) := by decide +kernel
theorem d_D_word_6 : decode b_D_word 6 = .ok (.aload_n 3, 1) := by decide +kernel
theorem d_D_word_7 : decode b_D_word 7 = .ok (.iload_n 2, 1) := by decide +kernel
theorem d_D_word_8 : decode b_D_word 8 = .ok (.invokestatic 97, 3) := by decide +kernel
theorem d_D_word_11 : decode b_D_word 11 = .ok (.aload_n 3, 1) := by decide +kernel
theorem d_D_word_12 : decode b_D_word 12 = .ok (.iload_n 2, 1) := by decide +kernel
theorem d_D_word_13 : decode b_D_word 13 = .ok (.invokevirtual 103, 3) := by decide +kernel
theorem d_D_word_16 : decode b_D_word 16 = .ok (.lreturn, 1) := by decide +kernel
theorem d_Y_eightFrom_0 : decode b_Y_eightFrom 0 = .ok (.lconst 0, 1) := by decide +kernel
theorem d_Y_eightFrom_1 : decode b_Y_eightFrom 1 = .ok (.lstore_n 2, 1) := by decide +kernel
theorem d_Y_eightFrom_2 : decode b_Y_eightFrom 2 = .ok (.iconst 0, 1) := by decide +kernel
theorem d_Y_eightFrom_3 : decode b_Y_eightFrom 3 = .ok (.istore 4, 2) := by decide +kernel
theorem d_Y_eightFrom_5 : decode b_Y_eightFrom 5 = .ok (.iload 4, 2) := by decide +kernel
theorem d_Y_eightFrom_7 : decode b_Y_eightFrom 7 = .ok (.bipush 8, 2) := by decide +kernel
theorem d_Y_eightFrom_9 : decode b_Y_eightFrom 9 = .ok (.if_icmp .ge 48, 3) := by decide +kernel
theorem d_Y_eightFrom_12 : decode b_Y_eightFrom 12 = .ok (.iload_n 1, 1) := by decide +kernel
theorem d_Y_eightFrom_13 : decode b_Y_eightFrom 13 = .ok (.iload 4, 2) := by decide +kernel
theorem d_Y_eightFrom_15 : decode b_Y_eightFrom 15 = .ok (.iadd, 1) := by decide +kernel
theorem d_Y_eightFrom_16 : decode b_Y_eightFrom 16 = .ok (.aload_n 0, 1) := by decide +kernel
theorem d_Y_eightFrom_17 : decode b_Y_eightFrom 17 = .ok (.getfield 15, 3) := by decide +kernel
theorem d_Y_eightFrom_20 : decode b_Y_eightFrom 20 = .ok (.if_icmp .ge 19, 3) := by decide +kernel
theorem d_Y_eightFrom_23 : decode b_Y_eightFrom 23 = .ok (.aload_n 0, 1) := by decide +kernel
theorem d_Y_eightFrom_24 : decode b_Y_eightFrom 24 = .ok (.getfield 9, 3) := by decide +kernel
theorem d_Y_eightFrom_27 : decode b_Y_eightFrom 27 = .ok (.iload_n 1, 1) := by decide +kernel
theorem d_Y_eightFrom_28 : decode b_Y_eightFrom 28 = .ok (.iload 4, 2) := by decide +kernel
theorem d_Y_eightFrom_30 : decode b_Y_eightFrom 30 = .ok (.iadd, 1) := by decide +kernel
theorem d_Y_eightFrom_31 : decode b_Y_eightFrom 31 = .ok (.baload, 1) := by decide +kernel
theorem d_Y_eightFrom_32 : decode b_Y_eightFrom 32 = .ok (.sipush 255, 3) := by decide +kernel
theorem d_Y_eightFrom_35 : decode b_Y_eightFrom 35 = .ok (.iand, 1) := by decide +kernel
theorem d_Y_eightFrom_36 : decode b_Y_eightFrom 36 = .ok (.goto 4, 3) := by decide +kernel
theorem d_Y_eightFrom_39 : decode b_Y_eightFrom 39 = .ok (.iconst 0, 1) := by decide +kernel
theorem d_Y_eightFrom_40 : decode b_Y_eightFrom 40 = .ok (.istore 5, 2) := by decide +kernel
theorem d_Y_eightFrom_42 : decode b_Y_eightFrom 42 = .ok (.lload_n 2, 1) := by decide +kernel
theorem d_Y_eightFrom_43 : decode b_Y_eightFrom 43 = .ok (.bipush 8, 2) := by decide +kernel
theorem d_Y_eightFrom_45 : decode b_Y_eightFrom 45 = .ok (.lshl, 1) := by decide +kernel
theorem d_Y_eightFrom_46 : decode b_Y_eightFrom 46 = .ok (.iload 5, 2) := by decide +kernel
theorem d_Y_eightFrom_48 : decode b_Y_eightFrom 48 = .ok (.i2l, 1) := by decide +kernel
theorem d_Y_eightFrom_49 : decode b_Y_eightFrom 49 = .ok (.lor, 1) := by decide +kernel
theorem d_Y_eightFrom_50 : decode b_Y_eightFrom 50 = .ok (.lstore_n 2, 1) := by decide +kernel
theorem d_Y_eightFrom_51 : decode b_Y_eightFrom 51 = .ok (.iinc 4 1, 3) := by decide +kernel
theorem d_Y_eightFrom_54 : decode b_Y_eightFrom 54 = .ok (.goto (-49), 3) := by decide +kernel
theorem d_Y_eightFrom_57 : decode b_Y_eightFrom 57 = .ok (.lload_n 2, 1) := by decide +kernel
theorem d_Y_eightFrom_58 : decode b_Y_eightFrom 58 = .ok (.lreturn, 1) := by decide +kernel
theorem d_L_same_0 : decode b_L_same 0 = .ok (.aload_n 3, 1) := by decide +kernel
theorem d_L_same_1 : decode b_L_same 1 = .ok (.iconst 0, 1) := by decide +kernel
theorem d_L_same_2 : decode b_L_same 2 = .ok (.aload_n 0, 1) := by decide +kernel
theorem d_L_same_3 : decode b_L_same 3 = .ok (.iload_n 1, 1) := by decide +kernel
theorem d_L_same_4 : decode b_L_same 4 = .ok (.iload_n 2, 1) := by decide +kernel
theorem d_L_same_5 : decode b_L_same 5 = .ok (.invokevirtual 39, 3) := by decide +kernel
theorem d_L_same_8 : decode b_L_same 8 = .ok (.ifCond .eq 7, 3) := by decide +kernel
theorem d_L_same_11 : decode b_L_same 11 = .ok (.lconst 1, 1) := by decide +kernel
theorem d_L_same_12 : decode b_L_same 12 = .ok (.goto 4, 3) := by decide +kernel
theorem d_L_same_15 : decode b_L_same 15 = .ok (.lconst 0, 1) := by decide +kernel
theorem d_L_same_16 : decode b_L_same 16 = .ok (.lastore, 1) := by decide +kernel
theorem d_L_same_17 : decode b_L_same 17 = .ok (.goto 7, 3) := by decide +kernel
theorem d_L_same_20 : decode b_L_same 20 = .ok (.astore 4, 2) := by decide +kernel
theorem d_L_same_22 : decode b_L_same 22 = .ok (.iconst 1, 1) := by decide +kernel
theorem d_L_same_23 : decode b_L_same 23 = .ok (.ireturn, 1) := by decide +kernel
theorem d_L_same_24 : decode b_L_same 24 = .ok (.iconst 0, 1) := by decide +kernel
theorem d_L_same_25 : decode b_L_same 25 = .ok (.ireturn, 1) := by decide +kernel
theorem d_D_same_0 : decode b_D_same 0 = .ok (.aload_n 0, 1) := by decide +kernel
theorem d_D_same_1 : decode b_D_same 1 = .ok (.iload_n 1, 1) := by decide +kernel
theorem d_D_same_2 : decode b_D_same 2 = .ok (.invokevirtual 80, 3) := by decide +kernel
theorem d_D_same_5 : decode b_D_same 5 = .ok (.aload_n 0, 1) := by decide +kernel
theorem d_D_same_6 : decode b_D_same 6 = .ok (.iload_n 2, 1) := by decide +kernel
theorem d_D_same_7 : decode b_D_same 7 = .ok (.invokevirtual 80, 3) := by decide +kernel
theorem d_D_same_10 : decode b_D_same 10 = .ok (.invokevirtual 107, 3) := by decide +kernel
theorem d_D_same_13 : decode b_D_same 13 = .ok (.ireturn, 1) := by decide +kernel
theorem d_Y_matches_0 : decode b_Y_matches 0 = .ok (.aload_n 0, 1) := by decide +kernel
theorem d_Y_matches_1 : decode b_Y_matches 1 = .ok (.getfield 15, 3) := by decide +kernel
theorem d_Y_matches_4 : decode b_Y_matches 4 = .ok (.aload_n 1, 1) := by decide +kernel
theorem d_Y_matches_5 : decode b_Y_matches 5 = .ok (.getfield 15, 3) := by decide +kernel
theorem d_Y_matches_8 : decode b_Y_matches 8 = .ok (.if_icmp .eq 5, 3) := by decide +kernel
theorem d_Y_matches_11 : decode b_Y_matches 11 = .ok (.iconst 0, 1) := by decide +kernel
theorem d_Y_matches_12 : decode b_Y_matches 12 = .ok (.ireturn, 1) := by decide +kernel
theorem d_Y_matches_13 : decode b_Y_matches 13 = .ok (.iconst 0, 1) := by decide +kernel
theorem d_Y_matches_14 : decode b_Y_matches 14 = .ok (.istore_n 2, 1) := by decide +kernel
theorem d_Y_matches_15 : decode b_Y_matches 15 = .ok (.iload_n 2, 1) := by decide +kernel
theorem d_Y_matches_16 : decode b_Y_matches 16 = .ok (.aload_n 0, 1) := by decide +kernel
theorem d_Y_matches_17 : decode b_Y_matches 17 = .ok (.getfield 15, 3) := by decide +kernel
