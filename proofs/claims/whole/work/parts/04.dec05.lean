theorem d_P_mixColumns_78 : decode b_P_mixColumns 78 = .ok (.iconst 5, 1) := by decide +kernel
theorem d_P_mixColumns_79 : decode b_P_mixColumns 79 = .ok (.irem, 1) := by decide +kernel
theorem d_P_mixColumns_80 : decode b_P_mixColumns 80 = .ok (.laload, 1) := by decide +kernel
theorem d_P_mixColumns_81 : decode b_P_mixColumns 81 = .ok (.aload_n 0, 1) := by decide +kernel
theorem d_P_mixColumns_82 : decode b_P_mixColumns 82 = .ok (.getfield 18, 3) := by decide +kernel
theorem d_P_mixColumns_85 : decode b_P_mixColumns 85 = .ok (.iload_n 1, 1) := by decide +kernel
theorem d_P_mixColumns_86 : decode b_P_mixColumns 86 = .ok (.iconst 1, 1) := by decide +kernel
theorem d_P_mixColumns_87 : decode b_P_mixColumns 87 = .ok (.iadd, 1) := by decide +kernel
theorem d_P_mixColumns_88 : decode b_P_mixColumns 88 = .ok (.iconst 5, 1) := by decide +kernel
theorem d_P_mixColumns_89 : decode b_P_mixColumns 89 = .ok (.irem, 1) := by decide +kernel
theorem d_P_mixColumns_90 : decode b_P_mixColumns 90 = .ok (.laload, 1) := by decide +kernel
theorem d_P_mixColumns_91 : decode b_P_mixColumns 91 = .ok (.iconst 1, 1) := by decide +kernel
theorem d_P_mixColumns_92 : decode b_P_mixColumns 92 = .ok (.invokestatic 46, 3) := by decide +kernel
theorem d_P_mixColumns_95 : decode b_P_mixColumns 95 = .ok (.lxor, 1) := by decide +kernel
theorem d_P_mixColumns_96 : decode b_P_mixColumns 96 = .ok (.lstore_n 2, 1) := by decide +kernel
theorem d_P_mixColumns_97 : decode b_P_mixColumns 97 = .ok (.iconst 0, 1) := by decide +kernel
theorem d_P_mixColumns_98 : decode b_P_mixColumns 98 = .ok (.istore 4, 2) := by decide +kernel
theorem d_P_mixColumns_100 : decode b_P_mixColumns 100 = .ok (.iload 4, 2) := by decide +kernel
theorem d_P_mixColumns_102 : decode b_P_mixColumns 102 = .ok (.bipush 25, 2) := by decide +kernel
theorem d_P_mixColumns_104 : decode b_P_mixColumns 104 = .ok (.if_icmp .ge 22, 3) := by decide +kernel
theorem d_P_mixColumns_107 : decode b_P_mixColumns 107 = .ok (.aload_n 0, 1) := by decide +kernel
theorem d_P_mixColumns_108 : decode b_P_mixColumns 108 = .ok (.getfield 9, 3) := by decide +kernel
theorem d_P_mixColumns_111 : decode b_P_mixColumns 111 = .ok (.iload_n 1, 1) := by decide +kernel
theorem d_P_mixColumns_112 : decode b_P_mixColumns 112 = .ok (.iload 4, 2) := by decide +kernel
theorem d_P_mixColumns_114 : decode b_P_mixColumns 114 = .ok (.iadd, 1) := by decide +kernel
theorem d_P_mixColumns_115 : decode b_P_mixColumns 115 = .ok (.dup2, 1) := by decide +kernel
theorem d_P_mixColumns_116 : decode b_P_mixColumns 116 = .ok (.laload, 1) := by decide +kernel
theorem d_P_mixColumns_117 : decode b_P_mixColumns 117 = .ok (.lload_n 2, 1) := by decide +kernel
theorem d_P_mixColumns_118 : decode b_P_mixColumns 118 = .ok (.lxor, 1) := by decide +kernel
theorem d_P_mixColumns_119 : decode b_P_mixColumns 119 = .ok (.lastore, 1) := by decide +kernel
theorem d_P_mixColumns_120 : decode b_P_mixColumns 120 = .ok (.iinc 4 5, 3) := by decide +kernel
theorem d_P_mixColumns_123 : decode b_P_mixColumns 123 = .ok (.goto (-23), 3) := by decide +kernel
theorem d_P_mixColumns_126 : decode b_P_mixColumns 126 = .ok (.iinc 1 1, 3) := by decide +kernel
theorem d_P_mixColumns_129 : decode b_P_mixColumns 129 = .ok (.goto (-63), 3) := by decide +kernel
theorem d_P_mixColumns_132 : decode b_P_mixColumns 132 = .ok (.return_, 1) := by decide +kernel
theorem d_P_rotl_0 : decode b_P_rotl 0 = .ok (.lload_n 0, 1) := by decide +kernel
theorem d_P_rotl_1 : decode b_P_rotl 1 = .ok (.iload_n 2, 1) := by decide +kernel
theorem d_P_rotl_2 : decode b_P_rotl 2 = .ok (.lshl, 1) := by decide +kernel
theorem d_P_rotl_3 : decode b_P_rotl 3 = .ok (.lload_n 0, 1) := by decide +kernel
theorem d_P_rotl_4 : decode b_P_rotl 4 = .ok (.bipush 64, 2) := by decide +kernel
theorem d_P_rotl_6 : decode b_P_rotl 6 = .ok (.iload_n 2, 1) := by decide +kernel
theorem d_P_rotl_7 : decode b_P_rotl 7 = .ok (.isub, 1) := by decide +kernel
theorem d_P_rotl_8 : decode b_P_rotl 8 = .ok (.lushr, 1) := by decide +kernel
theorem d_P_rotl_9 : decode b_P_rotl 9 = .ok (.lor, 1) := by decide +kernel
theorem d_P_rotl_10 : decode b_P_rotl 10 = .ok (.lreturn, 1) := by decide +kernel
theorem d_P_turnAndMove_0 : decode b_P_turnAndMove 0 = .ok (.iconst 0, 1) := by decide +kernel
theorem d_P_turnAndMove_1 : decode b_P_turnAndMove 1 = .ok (.istore_n 1, 1) := by decide +kernel
theorem d_P_turnAndMove_2 : decode b_P_turnAndMove 2 = .ok (.iload_n 1, 1) := by decide +kernel
theorem d_P_turnAndMove_3 : decode b_P_turnAndMove 3 = .ok (.bipush 25, 2) := by decide +kernel
theorem d_P_turnAndMove_5 : decode b_P_turnAndMove 5 = .ok (.if_icmp .ge 33, 3) := by decide +kernel
theorem d_P_turnAndMove_8 : decode b_P_turnAndMove 8 = .ok (.aload_n 0, 1) := by decide +kernel
theorem d_P_turnAndMove_9 : decode b_P_turnAndMove 9 = .ok (.getfield 15, 3) := by decide +kernel
theorem d_P_turnAndMove_12 : decode b_P_turnAndMove 12 = .ok (.getstatic 50, 3) := by decide +kernel
theorem d_P_turnAndMove_15 : decode b_P_turnAndMove 15 = .ok (.iload_n 1, 1) := by decide +kernel
theorem d_P_turnAndMove_16 : decode b_P_turnAndMove 16 = .ok (.iaload, 1) := by decide +kernel
theorem d_P_turnAndMove_17 : decode b_P_turnAndMove 17 = .ok (.aload_n 0, 1) := by decide +kernel
theorem d_P_turnAndMove_18 : decode b_P_turnAndMove 18 = .ok (.getfield 9, 3) := by decide +kernel
theorem d_P_turnAndMove_21 : decode b_P_turnAndMove 21 = .ok (.iload_n 1, 1) := by decide +kernel
theorem d_P_turnAndMove_22 : decode b_P_turnAndMove 22 = .ok (.laload, 1) := by decide +kernel
theorem d_P_turnAndMove_23 : decode b_P_turnAndMove 23 = .ok (.getstatic 54, 3) := by decide +kernel
theorem d_P_turnAndMove_26 : decode b_P_turnAndMove 26 = .ok (.iload_n 1, 1) := by decide +kernel
theorem d_P_turnAndMove_27 : decode b_P_turnAndMove 27 = .ok (.iaload, 1) := by decide +kernel
theorem d_P_turnAndMove_28 : decode b_P_turnAndMove 28 = .ok (.invokestatic 46, 3) := by decide +kernel
theorem d_P_turnAndMove_31 : decode b_P_turnAndMove 31 = .ok (.lastore, 1) := by decide +kernel
theorem d_P_turnAndMove_32 : decode b_P_turnAndMove 32 = .ok (.iinc 1 1, 3) := by decide +kernel
theorem d_P_turnAndMove_35 : decode b_P_turnAndMove 35 = .ok (.goto (-33), 3) := by decide +kernel
theorem d_P_turnAndMove_38 : decode b_P_turnAndMove 38 = .ok (.return_, 1) := by decide +kernel
theorem d_P_mixRows_0 : decode b_P_mixRows 0 = .ok (.iconst 0, 1) := by decide +kernel
theorem d_P_mixRows_1 : decode b_P_mixRows 1 = .ok (.istore_n 1, 1) := by decide +kernel
theorem d_P_mixRows_2 : decode b_P_mixRows 2 = .ok (.iload_n 1, 1) := by decide +kernel
theorem d_P_mixRows_3 : decode b_P_mixRows 3 = .ok (.bipush 25, 2) := by decide +kernel
theorem d_P_mixRows_5 : decode b_P_mixRows 5 = .ok (.if_icmp .ge 68, 3) := by decide +kernel
theorem d_P_mixRows_8 : decode b_P_mixRows 8 = .ok (.iconst 0, 1) := by decide +kernel
theorem d_P_mixRows_9 : decode b_P_mixRows 9 = .ok (.istore_n 2, 1) := by decide +kernel
theorem d_P_mixRows_10 : decode b_P_mixRows 10 = .ok (.iload_n 2, 1) := by decide +kernel
theorem d_P_mixRows_11 : decode b_P_mixRows 11 = .ok (.iconst 5, 1) := by decide +kernel
theorem d_P_mixRows_12 : decode b_P_mixRows 12 = .ok (.if_icmp .ge 55, 3) := by decide +kernel
theorem d_P_mixRows_15 : decode b_P_mixRows 15 = .ok (.aload_n 0, 1) := by decide +kernel
theorem d_P_mixRows_16 : decode b_P_mixRows 16 = .ok (.getfield 9, 3) := by decide +kernel
theorem d_P_mixRows_19 : decode b_P_mixRows 19 = .ok (.iload_n 2, 1) := by decide +kernel
theorem d_P_mixRows_20 : decode b_P_mixRows 20 = .ok (.iload_n 1, 1) := by decide +kernel
theorem d_P_mixRows_21 : decode b_P_mixRows 21 = .ok (.iadd, 1) := by decide +kernel
theorem d_P_mixRows_22 : decode b_P_mixRows 22 = .ok (.aload_n 0, 1) := by decide +kernel
theorem d_P_mixRows_23 : decode b_P_mixRows 23 = .ok (.getfield 15, 3) := by decide +kernel
theorem d_P_mixRows_26 : decode b_P_mixRows 26 = .ok (.iload_n 2, 1) := by decide +kernel
theorem d_P_mixRows_27 : decode b_P_mixRows 27 = .ok (.iload_n 1, 1) := by decide +kernel
theorem d_P_mixRows_28 : decode b_P_mixRows 28 = .ok (.iadd, 1) := by decide +kernel
theorem d_P_mixRows_29 : decode b_P_mixRows 29 = .ok (.laload, 1) := by decide +kernel
theorem d_P_mixRows_30 : decode b_P_mixRows 30 = .ok (.aload_n 0, 1) := by decide +kernel
theorem d_P_mixRows_31 : decode b_P_mixRows 31 = .ok (.getfield 15, 3) := by decide +kernel
theorem d_P_mixRows_34 : decode b_P_mixRows 34 = .ok (.iload_n 2, 1) := by decide +kernel
theorem d_P_mixRows_35 : decode b_P_mixRows 35 = .ok (.iconst 1, 1) := by decide +kernel
theorem d_P_mixRows_36 : decode b_P_mixRows 36 = .ok (.iadd, 1) := by decide +kernel
theorem d_P_mixRows_37 : decode b_P_mixRows 37 = .ok (.iconst 5, 1) := by decide +kernel
theorem d_P_mixRows_38 : decode b_P_mixRows 38 = .ok (.irem, 1) := by decide +kernel
theorem d_P_mixRows_39 : decode b_P_mixRows 39 = .ok (.iload_n 1, 1) := by decide +kernel
theorem d_P_mixRows_40 : decode b_P_mixRows 40 = .ok (.iadd, 1) := by decide +kernel
theorem d_P_mixRows_41 : decode b_P_mixRows 41 = .ok (.laload, 1) := by decide +kernel
theorem d_P_mixRows_42 : decode b_P_mixRows 42 = .ok (.ldc2_w 57, 3) := by decide +kernel
theorem d_P_mixRows_45 : decode b_P_mixRows 45 = .ok (.lxor, 1) := by decide +kernel
theorem d_P_mixRows_46 : decode b_P_mixRows 46 = .ok (.aload_n 0, 1) := by decide +kernel
theorem d_P_mixRows_47 : decode b_P_mixRows 47 = .ok (.getfield 15, 3) := by decide +kernel
theorem d_P_mixRows_50 : decode b_P_mixRows 50 = .ok (.iload_n 2, 1) := by decide +kernel
theorem d_P_mixRows_51 : decode b_P_mixRows 51 = .ok (.iconst 2, 1) := by decide +kernel
theorem d_P_mixRows_52 : decode b_P_mixRows 52 = .ok (.iadd, 1) := by decide +kernel
theorem d_P_mixRows_53 : decode b_P_mixRows 53 = .ok (.iconst 5, 1) := by decide +kernel
theorem d_P_mixRows_54 : decode b_P_mixRows 54 = .ok (.irem, 1) := by decide +kernel
theorem d_P_mixRows_55 : decode b_P_mixRows 55 = .ok (.iload_n 1, 1) := by decide +kernel
theorem d_P_mixRows_56 : decode b_P_mixRows 56 = .ok (.iadd, 1) := by decide +kernel
theorem d_P_mixRows_57 : decode b_P_mixRows 57 = .ok (.laload, 1) := by decide +kernel
theorem d_P_mixRows_58 : decode b_P_mixRows 58 = .ok (.land, 1) := by decide +kernel
theorem d_P_mixRows_59 : decode b_P_mixRows 59 = .ok (.lxor, 1) := by decide +kernel
theorem d_P_mixRows_60 : decode b_P_mixRows 60 = .ok (.lastore, 1) := by decide +kernel
theorem d_P_mixRows_61 : decode b_P_mixRows 61 = .ok (.iinc 2 1, 3) := by decide +kernel
theorem d_P_mixRows_64 : decode b_P_mixRows 64 = .ok (.goto (-54), 3) := by decide +kernel
theorem d_P_mixRows_67 : decode b_P_mixRows 67 = .ok (.iinc 1 5, 3) := by decide +kernel
theorem d_P_mixRows_70 : decode b_P_mixRows 70 = .ok (.goto (-68), 3) := by decide +kernel
theorem d_P_mixRows_73 : decode b_P_mixRows 73 = .ok (.return_, 1) := by decide +kernel
theorem d_P_squeeze_0 : decode b_P_squeeze 0 = .ok (.iconst 0, 1) := by decide +kernel
theorem d_P_squeeze_1 : decode b_P_squeeze 1 = .ok (.istore 4, 2) := by decide +kernel
theorem d_P_squeeze_3 : decode b_P_squeeze 3 = .ok (.iconst 0, 1) := by decide +kernel
theorem d_P_squeeze_4 : decode b_P_squeeze 4 = .ok (.istore 5, 2) := by decide +kernel
theorem d_P_squeeze_6 : decode b_P_squeeze 6 = .ok (.iload 5, 2) := by decide +kernel
theorem d_P_squeeze_8 : decode b_P_squeeze 8 = .ok (.iload_n 3, 1) := by decide +kernel
theorem d_P_squeeze_9 : decode b_P_squeeze 9 = .ok (.if_icmp .ge 49, 3) := by decide +kernel
theorem d_P_squeeze_12 : decode b_P_squeeze 12 = .ok (.iload 4, 2) := by decide +kernel
theorem d_P_squeeze_14 : decode b_P_squeeze 14 = .ok (.iload_n 1, 1) := by decide +kernel
theorem d_P_squeeze_15 : decode b_P_squeeze 15 = .ok (.if_icmp .ne 10, 3) := by decide +kernel
theorem d_P_squeeze_18 : decode b_P_squeeze 18 = .ok (.aload_n 0, 1) := by decide +kernel
theorem d_P_squeeze_19 : decode b_P_squeeze 19 = .ok (.invokevirtual 31, 3) := by decide +kernel
theorem d_P_squeeze_22 : decode b_P_squeeze 22 = .ok (.iconst 0, 1) := by decide +kernel
theorem d_P_squeeze_23 : decode b_P_squeeze 23 = .ok (.istore 4, 2) := by decide +kernel
theorem d_P_squeeze_25 : decode b_P_squeeze 25 = .ok (.aload_n 2, 1) := by decide +kernel
theorem d_P_squeeze_26 : decode b_P_squeeze 26 = .ok (.iload 5, 2) := by decide +kernel
theorem d_P_squeeze_28 : decode b_P_squeeze 28 = .ok (.aload_n 0, 1) := by decide +kernel
theorem d_P_squeeze_29 : decode b_P_squeeze 29 = .ok (.getfield 9, 3) := by decide +kernel
theorem d_P_squeeze_32 : decode b_P_squeeze 32 = .ok (.iload 4, 2) := by decide +kernel
theorem d_P_squeeze_34 : decode b_P_squeeze 34 = .ok (.iconst 3, 1) := by decide +kernel
theorem d_P_squeeze_35 : decode b_P_squeeze 35 = .ok (.ishr, 1) := by decide +kernel
theorem d_P_squeeze_36 : decode b_P_squeeze 36 = .ok (.laload, 1) := by decide +kernel
theorem d_P_squeeze_37 : decode b_P_squeeze 37 = .ok (.bipush 8, 2) := by decide +kernel
theorem d_P_squeeze_39 : decode b_P_squeeze 39 = .ok (.iload 4, 2) := by decide +kernel
theorem d_P_squeeze_41 : decode b_P_squeeze 41 = .ok (.bipush 7, 2) := by decide +kernel
theorem d_P_squeeze_43 : decode b_P_squeeze 43 = .ok (.iand, 1) := by decide +kernel
theorem d_P_squeeze_44 : decode b_P_squeeze 44 = .ok (.imul, 1) := by decide +kernel
theorem d_P_squeeze_45 : decode b_P_squeeze 45 = .ok (.lushr, 1) := by decide +kernel
theorem d_P_squeeze_46 : decode b_P_squeeze 46 = .ok (.l2i, 1) := by decide +kernel
theorem d_P_squeeze_47 : decode b_P_squeeze 47 = .ok (.i2b, 1) := by decide +kernel
theorem d_P_squeeze_48 : decode b_P_squeeze 48 = .ok (.bastore, 1) := by decide +kernel
theorem d_P_squeeze_49 : decode b_P_squeeze 49 = .ok (.iinc 4 1, 3) := by decide +kernel
theorem d_P_squeeze_52 : decode b_P_squeeze 52 = .ok (.iinc 5 1, 3) := by decide +kernel
theorem d_P_squeeze_55 : decode b_P_squeeze 55 = .ok (.goto (-49), 3) := by decide +kernel
theorem d_P_squeeze_58 : decode b_P_squeeze 58 = .ok (.return_, 1) := by decide +kernel
theorem d_D_hashWithKey_0 : decode b_D_hashWithKey 0 = .ok (.aload_n 0, 1) := by decide +kernel
theorem d_D_hashWithKey_1 : decode b_D_hashWithKey 1 = .ok (.getfield 11, 3) := by decide +kernel
theorem d_D_hashWithKey_4 : decode b_D_hashWithKey 4 = .ok (.iconst 3, 1) := by decide +kernel
theorem d_D_hashWithKey_5 : decode b_D_hashWithKey 5 = .ok (.aaload, 1) := by decide +kernel
theorem d_D_hashWithKey_6 : decode b_D_hashWithKey 6 = .ok (.astore_n 3, 1) := by decide +kernel
theorem d_D_hashWithKey_7 : decode b_D_hashWithKey 7 = .ok (.aload_n 0, 1) := by decide +kernel
theorem d_D_hashWithKey_8 : decode b_D_hashWithKey 8 = .ok (.getfield 11, 3) := by decide +kernel
theorem d_D_hashWithKey_11 : decode b_D_hashWithKey 11 = .ok (.bipush 6, 2) := by decide +kernel
theorem d_D_hashWithKey_13 : decode b_D_hashWithKey 13 = .ok (.aaload, 1) := by decide +kernel
theorem d_D_hashWithKey_14 : decode b_D_hashWithKey 14 = .ok (.astore 4, 2) := by decide +kernel
theorem d_D_hashWithKey_16 : decode b_D_hashWithKey 16 = .ok (.aload_n 0, 1) := by decide +kernel
theorem d_D_hashWithKey_17 : decode b_D_hashWithKey 17 = .ok (.aload_n 1, 1) := by decide +kernel
theorem d_D_hashWithKey_18 : decode b_D_hashWithKey 18 = .ok (.aload_n 2, 1) := by decide +kernel
theorem d_D_hashWithKey_19 : decode b_D_hashWithKey 19 = .ok (.invokevirtual 169, 3) := by decide +kernel
theorem d_D_hashWithKey_22 : decode b_D_hashWithKey 22 = .ok (.aload_n 0, 1) := by decide +kernel
theorem d_D_hashWithKey_23 : decode b_D_hashWithKey 23 = .ok (.aload_n 1, 1) := by decide +kernel
theorem d_D_hashWithKey_24 : decode b_D_hashWithKey 24 = .ok (.aload_n 2, 1) := by decide +kernel
theorem d_D_hashWithKey_25 : decode b_D_hashWithKey 25 = .ok (.bipush 54, 2) := by decide +kernel
theorem d_D_hashWithKey_27 : decode b_D_hashWithKey 27 = .ok (.invokevirtual 172, 3) := by decide +kernel
theorem d_D_hashWithKey_30 : decode b_D_hashWithKey 30 = .ok (.aload_n 1, 1) := by decide +kernel
theorem d_D_hashWithKey_31 : decode b_D_hashWithKey 31 = .ok (.aload_n 3, 1) := by decide +kernel
theorem d_D_hashWithKey_32 : decode b_D_hashWithKey 32 = .ok (.getfield 100, 3) := by decide +kernel
theorem d_D_hashWithKey_35 : decode b_D_hashWithKey 35 = .ok (.iconst 0, 1) := by decide +kernel
theorem d_D_hashWithKey_36 : decode b_D_hashWithKey 36 = .ok (.aload_n 3, 1) := by decide +kernel
theorem d_D_hashWithKey_37 : decode b_D_hashWithKey 37 = .ok (.getfield 66, 3) := by decide +kernel
theorem d_D_hashWithKey_40 : decode b_D_hashWithKey 40 = .ok (.invokevirtual 155, 3) := by decide +kernel
theorem d_D_hashWithKey_43 : decode b_D_hashWithKey 43 = .ok (.aload_n 1, 1) := by decide +kernel
theorem d_D_hashWithKey_44 : decode b_D_hashWithKey 44 = .ok (.aload_n 0, 1) := by decide +kernel
theorem d_D_hashWithKey_45 : decode b_D_hashWithKey 45 = .ok (.getfield 60, 3) := by decide +kernel
theorem d_D_hashWithKey_48 : decode b_D_hashWithKey 48 = .ok (.iconst 0, 1) := by decide +kernel
theorem d_D_hashWithKey_49 : decode b_D_hashWithKey 49 = .ok (.aload_n 1, 1) := by decide +kernel
theorem d_D_hashWithKey_50 : decode b_D_hashWithKey 50 = .ok (.getfield 57, 3) := by decide +kernel
theorem d_D_hashWithKey_53 : decode b_D_hashWithKey 53 = .ok (.invokevirtual 159, 3) := by decide +kernel
theorem d_D_hashWithKey_56 : decode b_D_hashWithKey 56 = .ok (.aload_n 0, 1) := by decide +kernel
theorem d_D_hashWithKey_57 : decode b_D_hashWithKey 57 = .ok (.aload_n 1, 1) := by decide +kernel
theorem d_D_hashWithKey_58 : decode b_D_hashWithKey 58 = .ok (.aload_n 2, 1) := by decide +kernel
theorem d_D_hashWithKey_59 : decode b_D_hashWithKey 59 = .ok (.bipush 92, 2) := by decide +kernel
theorem d_D_hashWithKey_61 : decode b_D_hashWithKey 61 = .ok (.invokevirtual 172, 3) := by decide +kernel
theorem d_D_hashWithKey_64 : decode b_D_hashWithKey 64 = .ok (.aload_n 1, 1) := by decide +kernel
theorem d_D_hashWithKey_65 : decode b_D_hashWithKey 65 = .ok (.aload_n 0, 1) := by decide +kernel
theorem d_D_hashWithKey_66 : decode b_D_hashWithKey 66 = .ok (.getfield 60, 3) := by decide +kernel
theorem d_D_hashWithKey_69 : decode b_D_hashWithKey 69 = .ok (.iconst 0, 1) := by decide +kernel
theorem d_D_hashWithKey_70 : decode b_D_hashWithKey 70 = .ok (.aload_n 1, 1) := by decide +kernel
theorem d_D_hashWithKey_71 : decode b_D_hashWithKey 71 = .ok (.getfield 57, 3) := by decide +kernel
theorem d_D_hashWithKey_74 : decode b_D_hashWithKey 74 = .ok (.invokevirtual 155, 3) := by decide +kernel
theorem d_D_hashWithKey_77 : decode b_D_hashWithKey 77 = .ok (.aload_n 1, 1) := by decide +kernel
theorem d_D_hashWithKey_78 : decode b_D_hashWithKey 78 = .ok (.aload 4, 2) := by decide +kernel
theorem d_D_hashWithKey_80 : decode b_D_hashWithKey 80 = .ok (.getfield 100, 3) := by decide +kernel
theorem d_D_hashWithKey_83 : decode b_D_hashWithKey 83 = .ok (.iconst 0, 1) := by decide +kernel
theorem d_D_hashWithKey_84 : decode b_D_hashWithKey 84 = .ok (.aload_n 1, 1) := by decide +kernel
theorem d_D_hashWithKey_85 : decode b_D_hashWithKey 85 = .ok (.getfield 57, 3) := by decide +kernel
theorem d_D_hashWithKey_88 : decode b_D_hashWithKey 88 = .ok (.invokevirtual 159, 3) := by decide +kernel
theorem d_D_hashWithKey_91 : decode b_D_hashWithKey 91 = .ok (.aload 4, 2) := by decide +kernel
theorem d_D_hashWithKey_93 : decode b_D_hashWithKey 93 = .ok (.aload_n 1, 1) := by decide +kernel
theorem d_D_hashWithKey_94 : decode b_D_hashWithKey 94 = .ok (.getfield 57, 3) := by decide +kernel
theorem d_D_hashWithKey_97 : decode b_D_hashWithKey 97 = .ok (.putfield 66, 3) := by decide +kernel
theorem d_D_hashWithKey_100 : decode b_D_hashWithKey 100 = .ok (.return_, 1) := by decide +kernel
theorem d_D_setKey_0 : decode b_D_setKey 0 = .ok (.aload_n 0, 1) := by decide +kernel
theorem d_D_setKey_1 : decode b_D_setKey 1 = .ok (.getfield 11, 3) := by decide +kernel
theorem d_D_setKey_4 : decode b_D_setKey 4 = .ok (.iconst 0, 1) := by decide +kernel
theorem d_D_setKey_5 : decode b_D_setKey 5 = .ok (.aaload, 1) := by decide +kernel
theorem d_D_setKey_6 : decode b_D_setKey 6 = .ok (.astore_n 3, 1) := by decide +kernel
theorem d_D_setKey_7 : decode b_D_setKey 7 = .ok (.aload_n 0, 1) := by decide +kernel
theorem d_D_setKey_8 : decode b_D_setKey 8 = .ok (.getfield 50, 3) := by decide +kernel
theorem d_D_setKey_11 : decode b_D_setKey 11 = .ok (.iconst 0, 1) := by decide +kernel
theorem d_D_setKey_12 : decode b_D_setKey 12 = .ok (.invokestatic 175, 3) := by decide +kernel
theorem d_D_setKey_15 : decode b_D_setKey 15 = .ok (.aload_n 3, 1) := by decide +kernel
theorem d_D_setKey_16 : decode b_D_setKey 16 = .ok (.getfield 66, 3) := by decide +kernel
theorem d_D_setKey_19 : decode b_D_setKey 19 = .ok (.aload_n 1, 1) := by decide +kernel
theorem d_D_setKey_20 : decode b_D_setKey 20 = .ok (.getfield 46, 3) := by decide +kernel
theorem d_D_setKey_23 : decode b_D_setKey 23 = .ok (.if_icmp .le 37, 3) := by decide +kernel
theorem d_D_setKey_26 : decode b_D_setKey 26 = .ok (.aload_n 1, 1) := by decide +kernel
theorem d_D_setKey_27 : decode b_D_setKey 27 = .ok (.aload_n 2, 1) := by decide +kernel
theorem d_D_setKey_28 : decode b_D_setKey 28 = .ok (.invokevirtual 151, 3) := by decide +kernel
theorem d_D_setKey_31 : decode b_D_setKey 31 = .ok (.aload_n 1, 1) := by decide +kernel
theorem d_D_setKey_32 : decode b_D_setKey 32 = .ok (.aload_n 3, 1) := by decide +kernel
theorem d_D_setKey_33 : decode b_D_setKey 33 = .ok (.getfield 100, 3) := by decide +kernel
theorem d_D_setKey_36 : decode b_D_setKey 36 = .ok (.iconst 0, 1) := by decide +kernel
theorem d_D_setKey_37 : decode b_D_setKey 37 = .ok (.aload_n 3, 1) := by decide +kernel
theorem d_D_setKey_38 : decode b_D_setKey 38 = .ok (.getfield 66, 3) := by decide +kernel
theorem d_D_setKey_41 : decode b_D_setKey 41 = .ok (.invokevirtual 155, 3) := by decide +kernel
theorem d_D_setKey_44 : decode b_D_setKey 44 = .ok (.aload_n 1, 1) := by decide +kernel
theorem d_D_setKey_45 : decode b_D_setKey 45 = .ok (.aload_n 0, 1) := by decide +kernel
theorem d_D_setKey_46 : decode b_D_setKey 46 = .ok (.getfield 50, 3) := by decide +kernel
theorem d_D_setKey_49 : decode b_D_setKey 49 = .ok (.iconst 0, 1) := by decide +kernel
theorem d_D_setKey_50 : decode b_D_setKey 50 = .ok (.aload_n 1, 1) := by decide +kernel
theorem d_D_setKey_51 : decode b_D_setKey 51 = .ok (.getfield 57, 3) := by decide +kernel
theorem d_D_setKey_54 : decode b_D_setKey 54 = .ok (.invokevirtual 159, 3) := by decide +kernel
theorem d_D_setKey_57 : decode b_D_setKey 57 = .ok (.goto 20, 3) := by decide +kernel
theorem d_D_setKey_60 : decode b_D_setKey 60 = .ok (.aload_n 3, 1) := by decide +kernel
theorem d_D_setKey_61 : decode b_D_setKey 61 = .ok (.getfield 100, 3) := by decide +kernel
theorem d_D_setKey_64 : decode b_D_setKey 64 = .ok (.iconst 0, 1) := by decide +kernel
theorem d_D_setKey_65 : decode b_D_setKey 65 = .ok (.aload_n 0, 1) := by decide +kernel
theorem d_D_setKey_66 : decode b_D_setKey 66 = .ok (.getfield 50, 3) := by decide +kernel
theorem d_D_setKey_69 : decode b_D_setKey 69 = .ok (.iconst 0, 1) := by decide +kernel
theorem d_D_setKey_70 : decode b_D_setKey 70 = .ok (.aload_n 3, 1) := by decide +kernel
theorem d_D_setKey_71 : decode b_D_setKey 71 = .ok (.getfield 66, 3) := by decide +kernel
theorem d_D_setKey_74 : decode b_D_setKey 74 = .ok (.invokestatic 181, 3) := by decide +kernel
theorem d_D_setKey_77 : decode b_D_setKey 77 = .ok (.return_, 1) := by decide +kernel
theorem d_J_fill3_0 : decode b_J_fill3 0 = .ok (.iconst 0, 1) := by decide +kernel
theorem d_J_fill3_1 : decode b_J_fill3 1 = .ok (.istore_n 2, 1) := by decide +kernel
theorem d_J_fill3_2 : decode b_J_fill3 2 = .ok (.aload_n 0, 1) := by decide +kernel
theorem d_J_fill3_3 : decode b_J_fill3 3 = .ok (.arraylength, 1) := by decide +kernel
theorem d_J_fill3_4 : decode b_J_fill3 4 = .ok (.istore_n 3, 1) := by decide +kernel
theorem d_J_fill3_5 : decode b_J_fill3 5 = .ok (.iload_n 2, 1) := by decide +kernel
theorem d_J_fill3_6 : decode b_J_fill3 6 = .ok (.iload_n 3, 1) := by decide +kernel
theorem d_J_fill3_7 : decode b_J_fill3 7 = .ok (.if_icmp .ge 13, 3) := by decide +kernel
theorem d_J_fill3_10 : decode b_J_fill3 10 = .ok (.aload_n 0, 1) := by decide +kernel
theorem d_J_fill3_11 : decode b_J_fill3 11 = .ok (.iload_n 2, 1) := by decide +kernel
theorem d_J_fill3_12 : decode b_J_fill3 12 = .ok (.iload_n 1, 1) := by decide +kernel
theorem d_J_fill3_13 : decode b_J_fill3 13 = .ok (.bastore, 1) := by decide +kernel
theorem d_J_fill3_14 : decode b_J_fill3 14 = .ok (.iinc 2 1, 3) := by decide +kernel
theorem d_J_fill3_17 : decode b_J_fill3 17 = .ok (.goto (-12), 3) := by decide +kernel
theorem d_J_fill3_20 : decode b_J_fill3 20 = .ok (.return_, 1) := by decide +kernel
theorem d_D_beginWithKey_0 : decode b_D_beginWithKey 0 = .ok (.iconst 0, 1) := by decide +kernel
theorem d_D_beginWithKey_1 : decode b_D_beginWithKey 1 = .ok (.istore 4, 2) := by decide +kernel
theorem d_D_beginWithKey_3 : decode b_D_beginWithKey 3 = .ok (.iload 4, 2) := by decide +kernel
theorem d_D_beginWithKey_5 : decode b_D_beginWithKey 5 = .ok (.aload_n 1, 1) := by decide +kernel
theorem d_D_beginWithKey_6 : decode b_D_beginWithKey 6 = .ok (.getfield 46, 3) := by decide +kernel
theorem d_D_beginWithKey_9 : decode b_D_beginWithKey 9 = .ok (.if_icmp .ge 26, 3) := by decide +kernel
theorem d_D_beginWithKey_12 : decode b_D_beginWithKey 12 = .ok (.aload_n 0, 1) := by decide +kernel
theorem d_D_beginWithKey_13 : decode b_D_beginWithKey 13 = .ok (.getfield 54, 3) := by decide +kernel
theorem d_D_beginWithKey_16 : decode b_D_beginWithKey 16 = .ok (.iload 4, 2) := by decide +kernel
theorem d_D_beginWithKey_18 : decode b_D_beginWithKey 18 = .ok (.aload_n 0, 1) := by decide +kernel
theorem d_D_beginWithKey_19 : decode b_D_beginWithKey 19 = .ok (.getfield 50, 3) := by decide +kernel
theorem d_D_beginWithKey_22 : decode b_D_beginWithKey 22 = .ok (.iload 4, 2) := by decide +kernel
theorem d_D_beginWithKey_24 : decode b_D_beginWithKey 24 = .ok (.baload, 1) := by decide +kernel
theorem d_D_beginWithKey_25 : decode b_D_beginWithKey 25 = .ok (.iload_n 3, 1) := by decide +kernel
theorem d_D_beginWithKey_26 : decode b_D_beginWithKey 26 = .ok (.ixor, 1) := by decide +kernel
theorem d_D_beginWithKey_27 : decode b_D_beginWithKey 27 = .ok (.i2b, 1) := by decide +kernel
theorem d_D_beginWithKey_28 : decode b_D_beginWithKey 28 = .ok (.bastore, 1) := by decide +kernel
theorem d_D_beginWithKey_29 : decode b_D_beginWithKey 29 = .ok (.iinc 4 1, 3) := by decide +kernel
theorem d_D_beginWithKey_32 : decode b_D_beginWithKey 32 = .ok (.goto (-29), 3) := by decide +kernel
theorem d_D_beginWithKey_35 : decode b_D_beginWithKey 35 = .ok (.aload_n 1, 1) := by decide +kernel
theorem d_D_beginWithKey_36 : decode b_D_beginWithKey 36 = .ok (.aload_n 2, 1) := by decide +kernel
theorem d_D_beginWithKey_37 : decode b_D_beginWithKey 37 = .ok (.invokevirtual 151, 3) := by decide +kernel
theorem d_D_beginWithKey_40 : decode b_D_beginWithKey 40 = .ok (.aload_n 1, 1) := by decide +kernel
theorem d_D_beginWithKey_41 : decode b_D_beginWithKey 41 = .ok (.aload_n 0, 1) := by decide +kernel
theorem d_D_beginWithKey_42 : decode b_D_beginWithKey 42 = .ok (.getfield 54, 3) := by decide +kernel
theorem d_D_beginWithKey_45 : decode b_D_beginWithKey 45 = .ok (.iconst 0, 1) := by decide +kernel
theorem d_D_beginWithKey_46 : decode b_D_beginWithKey 46 = .ok (.aload_n 1, 1) := by decide +kernel
theorem d_D_beginWithKey_47 : decode b_D_beginWithKey 47 = .ok (.getfield 46, 3) := by decide +kernel
theorem d_D_beginWithKey_50 : decode b_D_beginWithKey 50 = .ok (.invokevirtual 155, 3) := by decide +kernel
theorem d_D_beginWithKey_53 : decode b_D_beginWithKey 53 = .ok (.return_, 1) := by decide +kernel
theorem d_D_hashWithCounter_0 : decode b_D_hashWithCounter 0 = .ok (.aload_n 0, 1) := by decide +kernel
theorem d_D_hashWithCounter_1 : decode b_D_hashWithCounter 1 = .ok (.getfield 11, 3) := by decide +kernel
theorem d_D_hashWithCounter_4 : decode b_D_hashWithCounter 4 = .ok (.iconst 3, 1) := by decide +kernel
