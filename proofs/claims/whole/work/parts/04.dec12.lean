theorem d_O_feed_29 : decode b_O_feed 29 = .ok (.iload_n 1, 1) := by decide +kernel
theorem d_O_feed_30 : decode b_O_feed 30 = .ok (.invokevirtual 82, 3) := by decide +kernel
theorem d_O_feed_33 : decode b_O_feed 33 = .ok (.aload_n 0, 1) := by decide +kernel
theorem d_O_feed_34 : decode b_O_feed 34 = .ok (.iload_n 2, 1) := by decide +kernel
theorem d_O_feed_35 : decode b_O_feed 35 = .ok (.invokevirtual 82, 3) := by decide +kernel
theorem d_O_feed_38 : decode b_O_feed 38 = .ok (.aload_n 0, 1) := by decide +kernel
theorem d_O_feed_39 : decode b_O_feed 39 = .ok (.iload_n 3, 1) := by decide +kernel
theorem d_O_feed_40 : decode b_O_feed 40 = .ok (.invokevirtual 82, 3) := by decide +kernel
theorem d_O_feed_43 : decode b_O_feed 43 = .ok (.aload_n 0, 1) := by decide +kernel
theorem d_O_feed_44 : decode b_O_feed 44 = .ok (.iload 4, 2) := by decide +kernel
theorem d_O_feed_46 : decode b_O_feed 46 = .ok (.invokevirtual 82, 3) := by decide +kernel
theorem d_O_feed_49 : decode b_O_feed 49 = .ok (.aload_n 0, 1) := by decide +kernel
theorem d_O_feed_50 : decode b_O_feed 50 = .ok (.iload 5, 2) := by decide +kernel
theorem d_O_feed_52 : decode b_O_feed 52 = .ok (.invokevirtual 82, 3) := by decide +kernel
theorem d_O_feed_55 : decode b_O_feed 55 = .ok (.aload_n 0, 1) := by decide +kernel
theorem d_O_feed_56 : decode b_O_feed 56 = .ok (.getfield 75, 3) := by decide +kernel
theorem d_O_feed_59 : decode b_O_feed 59 = .ok (.ireturn, 1) := by decide +kernel
theorem d_O_good_0 : decode b_O_good 0 = .ok (.aload_n 0, 1) := by decide +kernel
theorem d_O_good_1 : decode b_O_good 1 = .ok (.iload_n 1, 1) := by decide +kernel
theorem d_O_good_2 : decode b_O_good 2 = .ok (.ifCond .eq 7, 3) := by decide +kernel
theorem d_O_good_5 : decode b_O_good 5 = .ok (.iconst 0, 1) := by decide +kernel
theorem d_O_good_6 : decode b_O_good 6 = .ok (.goto 4, 3) := by decide +kernel
theorem d_O_good_9 : decode b_O_good 9 = .ok (.iload_n 2, 1) := by decide +kernel
theorem d_O_good_10 : decode b_O_good 10 = .ok (.putfield 71, 3) := by decide +kernel
theorem d_O_good_13 : decode b_O_good 13 = .ok (.iload_n 1, 1) := by decide +kernel
theorem d_O_good_14 : decode b_O_good 14 = .ok (.ireturn, 1) := by decide +kernel
theorem d_O_word_0 : decode b_O_word 0 = .ok (.iconst 0, 1) := by decide +kernel
theorem d_O_word_1 : decode b_O_word 1 = .ok (.istore_n 2, 1) := by decide +kernel
theorem d_O_word_2 : decode b_O_word 2 = .ok (.iload_n 2, 1) := by decide +kernel
theorem d_O_word_3 : decode b_O_word 3 = .ok (.iconst 4, 1) := by decide +kernel
theorem d_O_word_4 : decode b_O_word 4 = .ok (.if_icmp .ge 30, 3) := by decide +kernel
theorem d_O_word_7 : decode b_O_word 7 = .ok (.aload_n 0, 1) := by decide +kernel
theorem d_O_word_8 : decode b_O_word 8 = .ok (.getfield 9, 3) := by decide +kernel
theorem d_O_word_11 : decode b_O_word 11 = .ok (.aload_n 0, 1) := by decide +kernel
theorem d_O_word_12 : decode b_O_word 12 = .ok (.getfield 75, 3) := by decide +kernel
theorem d_O_word_15 : decode b_O_word 15 = .ok (.iload_n 2, 1) := by decide +kernel
theorem d_O_word_16 : decode b_O_word 16 = .ok (.iadd, 1) := by decide +kernel
theorem d_O_word_17 : decode b_O_word 17 = .ok (.iload_n 1, 1) := by decide +kernel
theorem d_O_word_18 : decode b_O_word 18 = .ok (.bipush 24, 2) := by decide +kernel
theorem d_O_word_20 : decode b_O_word 20 = .ok (.bipush 8, 2) := by decide +kernel
theorem d_O_word_22 : decode b_O_word 22 = .ok (.iload_n 2, 1) := by decide +kernel
theorem d_O_word_23 : decode b_O_word 23 = .ok (.imul, 1) := by decide +kernel
theorem d_O_word_24 : decode b_O_word 24 = .ok (.isub, 1) := by decide +kernel
theorem d_O_word_25 : decode b_O_word 25 = .ok (.ishr, 1) := by decide +kernel
theorem d_O_word_26 : decode b_O_word 26 = .ok (.i2b, 1) := by decide +kernel
theorem d_O_word_27 : decode b_O_word 27 = .ok (.bastore, 1) := by decide +kernel
theorem d_O_word_28 : decode b_O_word 28 = .ok (.iinc 2 1, 3) := by decide +kernel
theorem d_O_word_31 : decode b_O_word 31 = .ok (.goto (-29), 3) := by decide +kernel
theorem d_O_word_34 : decode b_O_word 34 = .ok (.aload_n 0, 1) := by decide +kernel
theorem d_O_word_35 : decode b_O_word 35 = .ok (.dup, 1) := by decide +kernel
theorem d_O_word_36 : decode b_O_word 36 = .ok (.getfield 75, 3) := by decide +kernel
theorem d_O_word_39 : decode b_O_word 39 = .ok (.iconst 4, 1) := by decide +kernel
theorem d_O_word_40 : decode b_O_word 40 = .ok (.iadd, 1) := by decide +kernel
theorem d_O_word_41 : decode b_O_word 41 = .ok (.putfield 75, 3) := by decide +kernel
theorem d_O_word_44 : decode b_O_word 44 = .ok (.return_, 1) := by decide +kernel
theorem d_O_end_0 : decode b_O_end 0 = .ok (.aload_n 0, 1) := by decide +kernel
theorem d_O_end_1 : decode b_O_end 1 = .ok (.iload_n 1, 1) := by decide +kernel
theorem d_O_end_2 : decode b_O_end 2 = .ok (.iconst 0, 1) := by decide +kernel
theorem d_O_end_3 : decode b_O_end 3 = .ok (.bipush 7, 2) := by decide +kernel
theorem d_O_end_5 : decode b_O_end 5 = .ok (.invokestatic 86, 3) := by decide +kernel
theorem d_O_end_8 : decode b_O_end 8 = .ok (.ifCond .eq 18, 3) := by decide +kernel
theorem d_O_end_11 : decode b_O_end 11 = .ok (.iload_n 2, 1) := by decide +kernel
theorem d_O_end_12 : decode b_O_end 12 = .ok (.iconst 0, 1) := by decide +kernel
theorem d_O_end_13 : decode b_O_end 13 = .ok (.sipush 8192, 3) := by decide +kernel
theorem d_O_end_16 : decode b_O_end 16 = .ok (.invokestatic 86, 3) := by decide +kernel
theorem d_O_end_19 : decode b_O_end 19 = .ok (.ifCond .eq 7, 3) := by decide +kernel
theorem d_O_end_22 : decode b_O_end 22 = .ok (.iconst 1, 1) := by decide +kernel
theorem d_O_end_23 : decode b_O_end 23 = .ok (.goto 4, 3) := by decide +kernel
theorem d_O_end_26 : decode b_O_end 26 = .ok (.iconst 0, 1) := by decide +kernel
theorem d_O_end_27 : decode b_O_end 27 = .ok (.iconst 1, 1) := by decide +kernel
theorem d_O_end_28 : decode b_O_end 28 = .ok (.invokevirtual 78, 3) := by decide +kernel
theorem d_O_end_31 : decode b_O_end 31 = .ok (.ifCond .eq 24, 3) := by decide +kernel
theorem d_O_end_34 : decode b_O_end 34 = .ok (.aload_n 0, 1) := by decide +kernel
theorem d_O_end_35 : decode b_O_end 35 = .ok (.iload_n 2, 1) := by decide +kernel
theorem d_O_end_36 : decode b_O_end 36 = .ok (.aload_n 0, 1) := by decide +kernel
theorem d_O_end_37 : decode b_O_end 37 = .ok (.getfield 75, 3) := by decide +kernel
theorem d_O_end_40 : decode b_O_end 40 = .ok (.if_icmp .gt 7, 3) := by decide +kernel
theorem d_O_end_43 : decode b_O_end 43 = .ok (.iconst 1, 1) := by decide +kernel
theorem d_O_end_44 : decode b_O_end 44 = .ok (.goto 4, 3) := by decide +kernel
theorem d_O_end_47 : decode b_O_end 47 = .ok (.iconst 0, 1) := by decide +kernel
theorem d_O_end_48 : decode b_O_end 48 = .ok (.iconst 2, 1) := by decide +kernel
theorem d_O_end_49 : decode b_O_end 49 = .ok (.invokevirtual 78, 3) := by decide +kernel
theorem d_O_end_52 : decode b_O_end 52 = .ok (.ifCond .ne 5, 3) := by decide +kernel
theorem d_O_end_55 : decode b_O_end 55 = .ok (.iconst 0, 1) := by decide +kernel
theorem d_O_end_56 : decode b_O_end 56 = .ok (.ireturn, 1) := by decide +kernel
theorem d_O_end_57 : decode b_O_end 57 = .ok (.iconst 0, 1) := by decide +kernel
theorem d_O_end_58 : decode b_O_end 58 = .ok (.istore_n 3, 1) := by decide +kernel
theorem d_O_end_59 : decode b_O_end 59 = .ok (.iload_n 3, 1) := by decide +kernel
theorem d_O_end_60 : decode b_O_end 60 = .ok (.iload_n 2, 1) := by decide +kernel
theorem d_O_end_61 : decode b_O_end 61 = .ok (.if_icmp .ge 23, 3) := by decide +kernel
theorem d_O_end_64 : decode b_O_end 64 = .ok (.aload_n 0, 1) := by decide +kernel
theorem d_O_end_65 : decode b_O_end 65 = .ok (.getfield 15, 3) := by decide +kernel
theorem d_O_end_68 : decode b_O_end 68 = .ok (.iload_n 1, 1) := by decide +kernel
theorem d_O_end_69 : decode b_O_end 69 = .ok (.aaload, 1) := by decide +kernel
theorem d_O_end_70 : decode b_O_end 70 = .ok (.iload_n 3, 1) := by decide +kernel
theorem d_O_end_71 : decode b_O_end 71 = .ok (.aload_n 0, 1) := by decide +kernel
theorem d_O_end_72 : decode b_O_end 72 = .ok (.getfield 9, 3) := by decide +kernel
theorem d_O_end_75 : decode b_O_end 75 = .ok (.iload_n 3, 1) := by decide +kernel
theorem d_O_end_76 : decode b_O_end 76 = .ok (.baload, 1) := by decide +kernel
theorem d_O_end_77 : decode b_O_end 77 = .ok (.bastore, 1) := by decide +kernel
theorem d_O_end_78 : decode b_O_end 78 = .ok (.iinc 3 1, 3) := by decide +kernel
theorem d_O_end_81 : decode b_O_end 81 = .ok (.goto (-22), 3) := by decide +kernel
theorem d_O_end_84 : decode b_O_end 84 = .ok (.aload_n 0, 1) := by decide +kernel
theorem d_O_end_85 : decode b_O_end 85 = .ok (.getfield 18, 3) := by decide +kernel
theorem d_O_end_88 : decode b_O_end 88 = .ok (.iload_n 1, 1) := by decide +kernel
theorem d_O_end_89 : decode b_O_end 89 = .ok (.iload_n 2, 1) := by decide +kernel
theorem d_O_end_90 : decode b_O_end 90 = .ok (.iastore, 1) := by decide +kernel
theorem d_O_end_91 : decode b_O_end 91 = .ok (.aload_n 0, 1) := by decide +kernel
theorem d_O_end_92 : decode b_O_end 92 = .ok (.iconst 0, 1) := by decide +kernel
theorem d_O_end_93 : decode b_O_end 93 = .ok (.putfield 75, 3) := by decide +kernel
theorem d_O_end_96 : decode b_O_end 96 = .ok (.iload_n 2, 1) := by decide +kernel
theorem d_O_end_97 : decode b_O_end 97 = .ok (.ireturn, 1) := by decide +kernel
theorem d_O_in_0 : decode b_O_in 0 = .ok (.iload_n 0, 1) := by decide +kernel
theorem d_O_in_1 : decode b_O_in 1 = .ok (.iload_n 1, 1) := by decide +kernel
theorem d_O_in_2 : decode b_O_in 2 = .ok (.if_icmp .lt 12, 3) := by decide +kernel
theorem d_O_in_5 : decode b_O_in 5 = .ok (.iload_n 0, 1) := by decide +kernel
theorem d_O_in_6 : decode b_O_in 6 = .ok (.iload_n 2, 1) := by decide +kernel
theorem d_O_in_7 : decode b_O_in 7 = .ok (.if_icmp .gt 7, 3) := by decide +kernel
theorem d_O_in_10 : decode b_O_in 10 = .ok (.iconst 1, 1) := by decide +kernel
theorem d_O_in_11 : decode b_O_in 11 = .ok (.goto 4, 3) := by decide +kernel
theorem d_O_in_14 : decode b_O_in 14 = .ok (.iconst 0, 1) := by decide +kernel
theorem d_O_in_15 : decode b_O_in 15 = .ok (.ireturn, 1) := by decide +kernel
theorem d_O_copy_0 : decode b_O_copy 0 = .ok (.aload_n 0, 1) := by decide +kernel
theorem d_O_copy_1 : decode b_O_copy 1 = .ok (.iload_n 1, 1) := by decide +kernel
theorem d_O_copy_2 : decode b_O_copy 2 = .ok (.iconst 0, 1) := by decide +kernel
theorem d_O_copy_3 : decode b_O_copy 3 = .ok (.bipush 7, 2) := by decide +kernel
theorem d_O_copy_5 : decode b_O_copy 5 = .ok (.invokestatic 86, 3) := by decide +kernel
theorem d_O_copy_8 : decode b_O_copy 8 = .ok (.ifCond .eq 17, 3) := by decide +kernel
theorem d_O_copy_11 : decode b_O_copy 11 = .ok (.iload_n 2, 1) := by decide +kernel
theorem d_O_copy_12 : decode b_O_copy 12 = .ok (.iconst 0, 1) := by decide +kernel
theorem d_O_copy_13 : decode b_O_copy 13 = .ok (.bipush 7, 2) := by decide +kernel
theorem d_O_copy_15 : decode b_O_copy 15 = .ok (.invokestatic 86, 3) := by decide +kernel
theorem d_O_copy_18 : decode b_O_copy 18 = .ok (.ifCond .eq 7, 3) := by decide +kernel
theorem d_O_copy_21 : decode b_O_copy 21 = .ok (.iconst 1, 1) := by decide +kernel
theorem d_O_copy_22 : decode b_O_copy 22 = .ok (.goto 4, 3) := by decide +kernel
theorem d_O_copy_25 : decode b_O_copy 25 = .ok (.iconst 0, 1) := by decide +kernel
theorem d_O_copy_26 : decode b_O_copy 26 = .ok (.iconst 1, 1) := by decide +kernel
theorem d_O_copy_27 : decode b_O_copy 27 = .ok (.invokevirtual 78, 3) := by decide +kernel
theorem d_O_copy_30 : decode b_O_copy 30 = .ok (.ifCond .ne 5, 3) := by decide +kernel
theorem d_O_copy_33 : decode b_O_copy 33 = .ok (.iconst 0, 1) := by decide +kernel
theorem d_O_copy_34 : decode b_O_copy 34 = .ok (.ireturn, 1) := by decide +kernel
theorem d_O_copy_35 : decode b_O_copy 35 = .ok (.iconst 0, 1) := by decide +kernel
theorem d_O_copy_36 : decode b_O_copy 36 = .ok (.istore_n 3, 1) := by decide +kernel
theorem d_O_copy_37 : decode b_O_copy 37 = .ok (.iload_n 3, 1) := by decide +kernel
theorem d_O_copy_38 : decode b_O_copy 38 = .ok (.aload_n 0, 1) := by decide +kernel
theorem d_O_copy_39 : decode b_O_copy 39 = .ok (.getfield 18, 3) := by decide +kernel
theorem d_O_copy_42 : decode b_O_copy 42 = .ok (.iload_n 1, 1) := by decide +kernel
theorem d_O_copy_43 : decode b_O_copy 43 = .ok (.iaload, 1) := by decide +kernel
theorem d_O_copy_44 : decode b_O_copy 44 = .ok (.if_icmp .ge 25, 3) := by decide +kernel
theorem d_O_copy_47 : decode b_O_copy 47 = .ok (.aload_n 0, 1) := by decide +kernel
theorem d_O_copy_48 : decode b_O_copy 48 = .ok (.getfield 15, 3) := by decide +kernel
theorem d_O_copy_51 : decode b_O_copy 51 = .ok (.iload_n 2, 1) := by decide +kernel
theorem d_O_copy_52 : decode b_O_copy 52 = .ok (.aaload, 1) := by decide +kernel
theorem d_O_copy_53 : decode b_O_copy 53 = .ok (.iload_n 3, 1) := by decide +kernel
theorem d_O_copy_54 : decode b_O_copy 54 = .ok (.aload_n 0, 1) := by decide +kernel
theorem d_O_copy_55 : decode b_O_copy 55 = .ok (.getfield 15, 3) := by decide +kernel
theorem d_O_copy_58 : decode b_O_copy 58 = .ok (.iload_n 1, 1) := by decide +kernel
theorem d_O_copy_59 : decode b_O_copy 59 = .ok (.aaload, 1) := by decide +kernel
theorem d_O_copy_60 : decode b_O_copy 60 = .ok (.iload_n 3, 1) := by decide +kernel
theorem d_O_copy_61 : decode b_O_copy 61 = .ok (.baload, 1) := by decide +kernel
theorem d_O_copy_62 : decode b_O_copy 62 = .ok (.bastore, 1) := by decide +kernel
theorem d_O_copy_63 : decode b_O_copy 63 = .ok (.iinc 3 1, 3) := by decide +kernel
theorem d_O_copy_66 : decode b_O_copy 66 = .ok (.goto (-29), 3) := by decide +kernel
theorem d_O_copy_69 : decode b_O_copy 69 = .ok (.aload_n 0, 1) := by decide +kernel
theorem d_O_copy_70 : decode b_O_copy 70 = .ok (.getfield 18, 3) := by decide +kernel
theorem d_O_copy_73 : decode b_O_copy 73 = .ok (.iload_n 2, 1) := by decide +kernel
theorem d_O_copy_74 : decode b_O_copy 74 = .ok (.aload_n 0, 1) := by decide +kernel
theorem d_O_copy_75 : decode b_O_copy 75 = .ok (.getfield 18, 3) := by decide +kernel
theorem d_O_copy_78 : decode b_O_copy 78 = .ok (.iload_n 1, 1) := by decide +kernel
theorem d_O_copy_79 : decode b_O_copy 79 = .ok (.iaload, 1) := by decide +kernel
theorem d_O_copy_80 : decode b_O_copy 80 = .ok (.iastore, 1) := by decide +kernel
theorem d_O_copy_81 : decode b_O_copy 81 = .ok (.aload_n 0, 1) := by decide +kernel
theorem d_O_copy_82 : decode b_O_copy 82 = .ok (.getfield 18, 3) := by decide +kernel
theorem d_O_copy_85 : decode b_O_copy 85 = .ok (.iload_n 2, 1) := by decide +kernel
theorem d_O_copy_86 : decode b_O_copy 86 = .ok (.iaload, 1) := by decide +kernel
theorem d_O_copy_87 : decode b_O_copy 87 = .ok (.ireturn, 1) := by decide +kernel
theorem d_O_resize_0 : decode b_O_resize 0 = .ok (.aload_n 0, 1) := by decide +kernel
theorem d_O_resize_1 : decode b_O_resize 1 = .ok (.iload_n 1, 1) := by decide +kernel
theorem d_O_resize_2 : decode b_O_resize 2 = .ok (.iconst 0, 1) := by decide +kernel
theorem d_O_resize_3 : decode b_O_resize 3 = .ok (.bipush 7, 2) := by decide +kernel
theorem d_O_resize_5 : decode b_O_resize 5 = .ok (.invokestatic 86, 3) := by decide +kernel
theorem d_O_resize_8 : decode b_O_resize 8 = .ok (.ifCond .eq 18, 3) := by decide +kernel
theorem d_O_resize_11 : decode b_O_resize 11 = .ok (.iload_n 2, 1) := by decide +kernel
theorem d_O_resize_12 : decode b_O_resize 12 = .ok (.iconst 0, 1) := by decide +kernel
theorem d_O_resize_13 : decode b_O_resize 13 = .ok (.sipush 8192, 3) := by decide +kernel
theorem d_O_resize_16 : decode b_O_resize 16 = .ok (.invokestatic 86, 3) := by decide +kernel
theorem d_O_resize_19 : decode b_O_resize 19 = .ok (.ifCond .eq 7, 3) := by decide +kernel
theorem d_O_resize_22 : decode b_O_resize 22 = .ok (.iconst 1, 1) := by decide +kernel
theorem d_O_resize_23 : decode b_O_resize 23 = .ok (.goto 4, 3) := by decide +kernel
theorem d_O_resize_26 : decode b_O_resize 26 = .ok (.iconst 0, 1) := by decide +kernel
theorem d_O_resize_27 : decode b_O_resize 27 = .ok (.iconst 1, 1) := by decide +kernel
theorem d_O_resize_28 : decode b_O_resize 28 = .ok (.invokevirtual 78, 3) := by decide +kernel
theorem d_O_resize_31 : decode b_O_resize 31 = .ok (.ifCond .ne 5, 3) := by decide +kernel
theorem d_O_resize_34 : decode b_O_resize 34 = .ok (.iconst 0, 1) := by decide +kernel
theorem d_O_resize_35 : decode b_O_resize 35 = .ok (.ireturn, 1) := by decide +kernel
theorem d_O_resize_36 : decode b_O_resize 36 = .ok (.aload_n 0, 1) := by decide +kernel
theorem d_O_resize_37 : decode b_O_resize 37 = .ok (.getfield 18, 3) := by decide +kernel
theorem d_O_resize_40 : decode b_O_resize 40 = .ok (.iload_n 1, 1) := by decide +kernel
theorem d_O_resize_41 : decode b_O_resize 41 = .ok (.iaload, 1) := by decide +kernel
theorem d_O_resize_42 : decode b_O_resize 42 = .ok (.istore_n 3, 1) := by decide +kernel
theorem d_O_resize_43 : decode b_O_resize 43 = .ok (.iload_n 3, 1) := by decide +kernel
theorem d_O_resize_44 : decode b_O_resize 44 = .ok (.istore 4, 2) := by decide +kernel
theorem d_O_resize_46 : decode b_O_resize 46 = .ok (.iload 4, 2) := by decide +kernel
theorem d_O_resize_48 : decode b_O_resize 48 = .ok (.iload_n 2, 1) := by decide +kernel
theorem d_O_resize_49 : decode b_O_resize 49 = .ok (.if_icmp .ge 19, 3) := by decide +kernel
theorem d_O_resize_52 : decode b_O_resize 52 = .ok (.aload_n 0, 1) := by decide +kernel
theorem d_O_resize_53 : decode b_O_resize 53 = .ok (.getfield 15, 3) := by decide +kernel
theorem d_O_resize_56 : decode b_O_resize 56 = .ok (.iload_n 1, 1) := by decide +kernel
theorem d_O_resize_57 : decode b_O_resize 57 = .ok (.aaload, 1) := by decide +kernel
theorem d_O_resize_58 : decode b_O_resize 58 = .ok (.iload 4, 2) := by decide +kernel
theorem d_O_resize_60 : decode b_O_resize 60 = .ok (.iconst 0, 1) := by decide +kernel
theorem d_O_resize_61 : decode b_O_resize 61 = .ok (.bastore, 1) := by decide +kernel
theorem d_O_resize_62 : decode b_O_resize 62 = .ok (.iinc 4 1, 3) := by decide +kernel
theorem d_O_resize_65 : decode b_O_resize 65 = .ok (.goto (-19), 3) := by decide +kernel
theorem d_O_resize_68 : decode b_O_resize 68 = .ok (.aload_n 0, 1) := by decide +kernel
theorem d_O_resize_69 : decode b_O_resize 69 = .ok (.getfield 18, 3) := by decide +kernel
theorem d_O_resize_72 : decode b_O_resize 72 = .ok (.iload_n 1, 1) := by decide +kernel
theorem d_O_resize_73 : decode b_O_resize 73 = .ok (.iload_n 2, 1) := by decide +kernel
theorem d_O_resize_74 : decode b_O_resize 74 = .ok (.iastore, 1) := by decide +kernel
theorem d_O_resize_75 : decode b_O_resize 75 = .ok (.iload_n 3, 1) := by decide +kernel
theorem d_O_resize_76 : decode b_O_resize 76 = .ok (.ireturn, 1) := by decide +kernel
theorem d_O_alter_0 : decode b_O_alter 0 = .ok (.aload_n 0, 1) := by decide +kernel
theorem d_O_alter_1 : decode b_O_alter 1 = .ok (.iload_n 1, 1) := by decide +kernel
theorem d_O_alter_2 : decode b_O_alter 2 = .ok (.iconst 0, 1) := by decide +kernel
theorem d_O_alter_3 : decode b_O_alter 3 = .ok (.bipush 7, 2) := by decide +kernel
theorem d_O_alter_5 : decode b_O_alter 5 = .ok (.invokestatic 86, 3) := by decide +kernel
theorem d_O_alter_8 : decode b_O_alter 8 = .ok (.ifCond .eq 18, 3) := by decide +kernel
theorem d_O_alter_11 : decode b_O_alter 11 = .ok (.iload_n 3, 1) := by decide +kernel
theorem d_O_alter_12 : decode b_O_alter 12 = .ok (.iconst 0, 1) := by decide +kernel
theorem d_O_alter_13 : decode b_O_alter 13 = .ok (.sipush 255, 3) := by decide +kernel
theorem d_O_alter_16 : decode b_O_alter 16 = .ok (.invokestatic 86, 3) := by decide +kernel
theorem d_O_alter_19 : decode b_O_alter 19 = .ok (.ifCond .eq 7, 3) := by decide +kernel
theorem d_O_alter_22 : decode b_O_alter 22 = .ok (.iconst 1, 1) := by decide +kernel
theorem d_O_alter_23 : decode b_O_alter 23 = .ok (.goto 4, 3) := by decide +kernel
theorem d_O_alter_26 : decode b_O_alter 26 = .ok (.iconst 0, 1) := by decide +kernel
theorem d_O_alter_27 : decode b_O_alter 27 = .ok (.iconst 1, 1) := by decide +kernel
theorem d_O_alter_28 : decode b_O_alter 28 = .ok (.invokevirtual 78, 3) := by decide +kernel
theorem d_O_alter_31 : decode b_O_alter 31 = .ok (.ifCond .eq 24, 3) := by decide +kernel
theorem d_O_alter_34 : decode b_O_alter 34 = .ok (.aload_n 0, 1) := by decide +kernel
theorem d_O_alter_35 : decode b_O_alter 35 = .ok (.iload_n 2, 1) := by decide +kernel
theorem d_O_alter_36 : decode b_O_alter 36 = .ok (.iconst 0, 1) := by decide +kernel
theorem d_O_alter_37 : decode b_O_alter 37 = .ok (.aload_n 0, 1) := by decide +kernel
theorem d_O_alter_38 : decode b_O_alter 38 = .ok (.getfield 18, 3) := by decide +kernel
theorem d_O_alter_41 : decode b_O_alter 41 = .ok (.iload_n 1, 1) := by decide +kernel
theorem d_O_alter_42 : decode b_O_alter 42 = .ok (.iaload, 1) := by decide +kernel
theorem d_O_alter_43 : decode b_O_alter 43 = .ok (.iconst 1, 1) := by decide +kernel
theorem d_O_alter_44 : decode b_O_alter 44 = .ok (.isub, 1) := by decide +kernel
theorem d_O_alter_45 : decode b_O_alter 45 = .ok (.invokestatic 86, 3) := by decide +kernel
theorem d_O_alter_48 : decode b_O_alter 48 = .ok (.iconst 2, 1) := by decide +kernel
theorem d_O_alter_49 : decode b_O_alter 49 = .ok (.invokevirtual 78, 3) := by decide +kernel
theorem d_O_alter_52 : decode b_O_alter 52 = .ok (.ifCond .ne 5, 3) := by decide +kernel
theorem d_O_alter_55 : decode b_O_alter 55 = .ok (.iconst 0, 1) := by decide +kernel
theorem d_O_alter_56 : decode b_O_alter 56 = .ok (.ireturn, 1) := by decide +kernel
theorem d_O_alter_57 : decode b_O_alter 57 = .ok (.aload_n 0, 1) := by decide +kernel
theorem d_O_alter_58 : decode b_O_alter 58 = .ok (.getfield 15, 3) := by decide +kernel
theorem d_O_alter_61 : decode b_O_alter 61 = .ok (.iload_n 1, 1) := by decide +kernel
theorem d_O_alter_62 : decode b_O_alter 62 = .ok (.aaload, 1) := by decide +kernel
theorem d_O_alter_63 : decode b_O_alter 63 = .ok (.iload_n 2, 1) := by decide +kernel
theorem d_O_alter_64 : decode b_O_alter 64 = .ok (.dup2, 1) := by decide +kernel
theorem d_O_alter_65 : decode b_O_alter 65 = .ok (.baload, 1) := by decide +kernel
theorem d_O_alter_66 : decode b_O_alter 66 = .ok (.iload_n 3, 1) := by decide +kernel
theorem d_O_alter_67 : decode b_O_alter 67 = .ok (.i2b, 1) := by decide +kernel
theorem d_O_alter_68 : decode b_O_alter 68 = .ok (.ixor, 1) := by decide +kernel
theorem d_O_alter_69 : decode b_O_alter 69 = .ok (.i2b, 1) := by decide +kernel
theorem d_O_alter_70 : decode b_O_alter 70 = .ok (.bastore, 1) := by decide +kernel
theorem d_O_alter_71 : decode b_O_alter 71 = .ok (.aload_n 0, 1) := by decide +kernel
theorem d_O_alter_72 : decode b_O_alter 72 = .ok (.getfield 15, 3) := by decide +kernel
theorem d_O_alter_75 : decode b_O_alter 75 = .ok (.iload_n 1, 1) := by decide +kernel
theorem d_O_alter_76 : decode b_O_alter 76 = .ok (.aaload, 1) := by decide +kernel
theorem d_O_alter_77 : decode b_O_alter 77 = .ok (.iload_n 2, 1) := by decide +kernel
theorem d_O_alter_78 : decode b_O_alter 78 = .ok (.baload, 1) := by decide +kernel
theorem d_O_alter_79 : decode b_O_alter 79 = .ok (.sipush 255, 3) := by decide +kernel
theorem d_O_alter_82 : decode b_O_alter 82 = .ok (.iand, 1) := by decide +kernel
theorem d_O_alter_83 : decode b_O_alter 83 = .ok (.ireturn, 1) := by decide +kernel
theorem d_O_length_0 : decode b_O_length 0 = .ok (.aload_n 0, 1) := by decide +kernel
theorem d_O_length_1 : decode b_O_length 1 = .ok (.iload_n 1, 1) := by decide +kernel
theorem d_O_length_2 : decode b_O_length 2 = .ok (.iconst 0, 1) := by decide +kernel
theorem d_O_length_3 : decode b_O_length 3 = .ok (.bipush 7, 2) := by decide +kernel
theorem d_O_length_5 : decode b_O_length 5 = .ok (.invokestatic 86, 3) := by decide +kernel
theorem d_O_length_8 : decode b_O_length 8 = .ok (.iconst 1, 1) := by decide +kernel
theorem d_O_length_9 : decode b_O_length 9 = .ok (.invokevirtual 78, 3) := by decide +kernel
theorem d_O_length_12 : decode b_O_length 12 = .ok (.ifCond .ne 5, 3) := by decide +kernel
theorem d_O_length_15 : decode b_O_length 15 = .ok (.iconst 0, 1) := by decide +kernel
theorem d_O_length_16 : decode b_O_length 16 = .ok (.ireturn, 1) := by decide +kernel
theorem d_O_length_17 : decode b_O_length 17 = .ok (.aload_n 0, 1) := by decide +kernel
theorem d_O_length_18 : decode b_O_length 18 = .ok (.getfield 18, 3) := by decide +kernel
theorem d_O_length_21 : decode b_O_length 21 = .ok (.iload_n 1, 1) := by decide +kernel
theorem d_O_length_22 : decode b_O_length 22 = .ok (.iaload, 1) := by decide +kernel
theorem d_O_length_23 : decode b_O_length 23 = .ok (.ireturn, 1) := by decide +kernel
theorem d_O_word2_0 : decode b_O_word2 0 = .ok (.aload_n 0, 1) := by decide +kernel
theorem d_O_word2_1 : decode b_O_word2 1 = .ok (.iload_n 1, 1) := by decide +kernel
theorem d_O_word2_2 : decode b_O_word2 2 = .ok (.iconst 0, 1) := by decide +kernel
theorem d_O_word2_3 : decode b_O_word2 3 = .ok (.bipush 7, 2) := by decide +kernel
theorem d_O_word2_5 : decode b_O_word2 5 = .ok (.invokestatic 86, 3) := by decide +kernel
theorem d_O_word2_8 : decode b_O_word2 8 = .ok (.iconst 1, 1) := by decide +kernel
theorem d_O_word2_9 : decode b_O_word2 9 = .ok (.invokevirtual 78, 3) := by decide +kernel
theorem d_O_word2_12 : decode b_O_word2 12 = .ok (.ifCond .eq 24, 3) := by decide +kernel
theorem d_O_word2_15 : decode b_O_word2 15 = .ok (.aload_n 0, 1) := by decide +kernel
theorem d_O_word2_16 : decode b_O_word2 16 = .ok (.iload_n 2, 1) := by decide +kernel
theorem d_O_word2_17 : decode b_O_word2 17 = .ok (.iconst 0, 1) := by decide +kernel
