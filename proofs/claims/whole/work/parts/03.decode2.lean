theorem dX9_readO_38 : decode cX9_readO 38 = .ok (.iload_n 3, 1) := by decide +kernel
theorem dX9_readO_39 : decode cX9_readO 39 = .ok (.invokevirtual 52, 3) := by decide +kernel
theorem dX9_readO_42 : decode cX9_readO 42 = .ok (.iconst 1, 1) := by decide +kernel
theorem dX9_readO_43 : decode cX9_readO 43 = .ok (.ireturn, 1) := by decide +kernel
theorem dX9_readO_44 : decode cX9_readO 44 = .ok (.iload_n 1, 1) := by decide +kernel
theorem dX9_readO_45 : decode cX9_readO 45 = .ok (.bipush 6, 2) := by decide +kernel
theorem dX9_readO_47 : decode cX9_readO 47 = .ok (.if_icmp .ge 21, 3) := by decide +kernel
theorem dX9_readO_50 : decode cX9_readO 50 = .ok (.iload_n 2, 1) := by decide +kernel
theorem dX9_readO_51 : decode cX9_readO 51 = .ok (.bipush 40, 2) := by decide +kernel
theorem dX9_readO_53 : decode cX9_readO 53 = .ok (.if_icmp .eq 17, 3) := by decide +kernel
theorem dX9_readO_56 : decode cX9_readO 56 = .ok (.iload_n 2, 1) := by decide +kernel
theorem dX9_readO_57 : decode cX9_readO 57 = .ok (.bipush 33, 2) := by decide +kernel
theorem dX9_readO_59 : decode cX9_readO 59 = .ok (.if_icmp .eq 11, 3) := by decide +kernel
theorem dX9_readO_62 : decode cX9_readO 62 = .ok (.iload_n 2, 1) := by decide +kernel
theorem dX9_readO_63 : decode cX9_readO 63 = .ok (.bipush 45, 2) := by decide +kernel
theorem dX9_readO_65 : decode cX9_readO 65 = .ok (.if_icmp .eq 5, 3) := by decide +kernel
theorem dX9_readO_68 : decode cX9_readO 68 = .ok (.iconst 0, 1) := by decide +kernel
theorem dX9_readO_69 : decode cX9_readO 69 = .ok (.ireturn, 1) := by decide +kernel
theorem dX9_readO_70 : decode cX9_readO 70 = .ok (.aload_n 0, 1) := by decide +kernel
theorem dX9_readO_71 : decode cX9_readO 71 = .ok (.dup, 1) := by decide +kernel
theorem dX9_readO_72 : decode cX9_readO 72 = .ok (.getfield 26, 3) := by decide +kernel
theorem dX9_readO_75 : decode cX9_readO 75 = .ok (.iconst 1, 1) := by decide +kernel
theorem dX9_readO_76 : decode cX9_readO 76 = .ok (.iadd, 1) := by decide +kernel
theorem dX9_readO_77 : decode cX9_readO 77 = .ok (.putfield 26, 3) := by decide +kernel
theorem dX9_readO_80 : decode cX9_readO 80 = .ok (.iload_n 2, 1) := by decide +kernel
theorem dX9_readO_81 : decode cX9_readO 81 = .ok (.bipush 40, 2) := by decide +kernel
theorem dX9_readO_83 : decode cX9_readO 83 = .ok (.if_icmp .ne 13, 3) := by decide +kernel
theorem dX9_readO_86 : decode cX9_readO 86 = .ok (.aload_n 0, 1) := by decide +kernel
theorem dX9_readO_87 : decode cX9_readO 87 = .ok (.iload_n 1, 1) := by decide +kernel
theorem dX9_readO_88 : decode cX9_readO 88 = .ok (.iconst 1, 1) := by decide +kernel
theorem dX9_readO_89 : decode cX9_readO 89 = .ok (.iadd, 1) := by decide +kernel
theorem dX9_readO_90 : decode cX9_readO 90 = .ok (.invokevirtual 78, 3) := by decide +kernel
theorem dX9_readO_93 : decode cX9_readO 93 = .ok (.goto 11, 3) := by decide +kernel
theorem dX9_readO_96 : decode cX9_readO 96 = .ok (.aload_n 0, 1) := by decide +kernel
theorem dX9_readO_97 : decode cX9_readO 97 = .ok (.iload_n 2, 1) := by decide +kernel
theorem dX9_readO_98 : decode cX9_readO 98 = .ok (.iload_n 1, 1) := by decide +kernel
theorem dX9_readO_99 : decode cX9_readO 99 = .ok (.iconst 1, 1) := by decide +kernel
theorem dX9_readO_100 : decode cX9_readO 100 = .ok (.iadd, 1) := by decide +kernel
theorem dX9_readO_101 : decode cX9_readO 101 = .ok (.invokevirtual 81, 3) := by decide +kernel
theorem dX9_readO_104 : decode cX9_readO 104 = .ok (.ireturn, 1) := by decide +kernel
theorem dX9_readInner_0 : decode cX9_readInner 0 = .ok (.aload_n 0, 1) := by decide +kernel
theorem dX9_readInner_1 : decode cX9_readInner 1 = .ok (.iload_n 1, 1) := by decide +kernel
theorem dX9_readInner_2 : decode cX9_readInner 2 = .ok (.invokevirtual 43, 3) := by decide +kernel
theorem dX9_readInner_5 : decode cX9_readInner 5 = .ok (.ifCond .eq 12, 3) := by decide +kernel
theorem dX9_readInner_8 : decode cX9_readInner 8 = .ok (.aload_n 0, 1) := by decide +kernel
theorem dX9_readInner_9 : decode cX9_readInner 9 = .ok (.invokevirtual 39, 3) := by decide +kernel
theorem dX9_readInner_12 : decode cX9_readInner 12 = .ok (.bipush 41, 2) := by decide +kernel
theorem dX9_readInner_14 : decode cX9_readInner 14 = .ok (.if_icmp .eq 5, 3) := by decide +kernel
theorem dX9_readInner_17 : decode cX9_readInner 17 = .ok (.iconst 0, 1) := by decide +kernel
theorem dX9_readInner_18 : decode cX9_readInner 18 = .ok (.ireturn, 1) := by decide +kernel
theorem dX9_readInner_19 : decode cX9_readInner 19 = .ok (.aload_n 0, 1) := by decide +kernel
theorem dX9_readInner_20 : decode cX9_readInner 20 = .ok (.dup, 1) := by decide +kernel
theorem dX9_readInner_21 : decode cX9_readInner 21 = .ok (.getfield 26, 3) := by decide +kernel
theorem dX9_readInner_24 : decode cX9_readInner 24 = .ok (.iconst 1, 1) := by decide +kernel
theorem dX9_readInner_25 : decode cX9_readInner 25 = .ok (.iadd, 1) := by decide +kernel
theorem dX9_readInner_26 : decode cX9_readInner 26 = .ok (.putfield 26, 3) := by decide +kernel
theorem dX9_readInner_29 : decode cX9_readInner 29 = .ok (.iconst 1, 1) := by decide +kernel
theorem dX9_readInner_30 : decode cX9_readInner 30 = .ok (.ireturn, 1) := by decide +kernel
theorem dX9_readSigned_0 : decode cX9_readSigned 0 = .ok (.aload_n 0, 1) := by decide +kernel
theorem dX9_readSigned_1 : decode cX9_readSigned 1 = .ok (.iload_n 2, 1) := by decide +kernel
theorem dX9_readSigned_2 : decode cX9_readSigned 2 = .ok (.invokevirtual 65, 3) := by decide +kernel
theorem dX9_readSigned_5 : decode cX9_readSigned 5 = .ok (.ifCond .ne 5, 3) := by decide +kernel
theorem dX9_readSigned_8 : decode cX9_readSigned 8 = .ok (.iconst 0, 1) := by decide +kernel
theorem dX9_readSigned_9 : decode cX9_readSigned 9 = .ok (.ireturn, 1) := by decide +kernel
theorem dX9_readSigned_10 : decode cX9_readSigned 10 = .ok (.aload_n 0, 1) := by decide +kernel
theorem dX9_readSigned_11 : decode cX9_readSigned 11 = .ok (.iload_n 1, 1) := by decide +kernel
theorem dX9_readSigned_12 : decode cX9_readSigned 12 = .ok (.bipush 33, 2) := by decide +kernel
theorem dX9_readSigned_14 : decode cX9_readSigned 14 = .ok (.if_icmp .ne 8, 3) := by decide +kernel
theorem dX9_readSigned_17 : decode cX9_readSigned 17 = .ok (.bipush (-7), 2) := by decide +kernel
theorem dX9_readSigned_19 : decode cX9_readSigned 19 = .ok (.goto 5, 3) := by decide +kernel
theorem dX9_readSigned_22 : decode cX9_readSigned 22 = .ok (.bipush (-8), 2) := by decide +kernel
theorem dX9_readSigned_24 : decode cX9_readSigned 24 = .ok (.invokevirtual 52, 3) := by decide +kernel
theorem dX9_readSigned_27 : decode cX9_readSigned 27 = .ok (.iconst 1, 1) := by decide +kernel
theorem dX9_readSigned_28 : decode cX9_readSigned 28 = .ok (.ireturn, 1) := by decide +kernel
theorem dX9_readNumber_0 : decode cX9_readNumber 0 = .ok (.iconst 0, 1) := by decide +kernel
theorem dX9_readNumber_1 : decode cX9_readNumber 1 = .ok (.istore_n 1, 1) := by decide +kernel
theorem dX9_readNumber_2 : decode cX9_readNumber 2 = .ok (.iconst 0, 1) := by decide +kernel
theorem dX9_readNumber_3 : decode cX9_readNumber 3 = .ok (.istore_n 2, 1) := by decide +kernel
theorem dX9_readNumber_4 : decode cX9_readNumber 4 = .ok (.iload_n 2, 1) := by decide +kernel
theorem dX9_readNumber_5 : decode cX9_readNumber 5 = .ok (.iconst 4, 1) := by decide +kernel
theorem dX9_readNumber_6 : decode cX9_readNumber 6 = .ok (.if_icmp .ge 42, 3) := by decide +kernel
theorem dX9_readNumber_9 : decode cX9_readNumber 9 = .ok (.aload_n 0, 1) := by decide +kernel
theorem dX9_readNumber_10 : decode cX9_readNumber 10 = .ok (.invokevirtual 39, 3) := by decide +kernel
theorem dX9_readNumber_13 : decode cX9_readNumber 13 = .ok (.invokestatic 68, 3) := by decide +kernel
theorem dX9_readNumber_16 : decode cX9_readNumber 16 = .ok (.ifCond .eq 32, 3) := by decide +kernel
theorem dX9_readNumber_19 : decode cX9_readNumber 19 = .ok (.iload_n 1, 1) := by decide +kernel
theorem dX9_readNumber_20 : decode cX9_readNumber 20 = .ok (.bipush 10, 2) := by decide +kernel
theorem dX9_readNumber_22 : decode cX9_readNumber 22 = .ok (.imul, 1) := by decide +kernel
theorem dX9_readNumber_23 : decode cX9_readNumber 23 = .ok (.aload_n 0, 1) := by decide +kernel
theorem dX9_readNumber_24 : decode cX9_readNumber 24 = .ok (.invokevirtual 39, 3) := by decide +kernel
theorem dX9_readNumber_27 : decode cX9_readNumber 27 = .ok (.iadd, 1) := by decide +kernel
theorem dX9_readNumber_28 : decode cX9_readNumber 28 = .ok (.bipush 48, 2) := by decide +kernel
theorem dX9_readNumber_30 : decode cX9_readNumber 30 = .ok (.isub, 1) := by decide +kernel
theorem dX9_readNumber_31 : decode cX9_readNumber 31 = .ok (.istore_n 1, 1) := by decide +kernel
theorem dX9_readNumber_32 : decode cX9_readNumber 32 = .ok (.aload_n 0, 1) := by decide +kernel
theorem dX9_readNumber_33 : decode cX9_readNumber 33 = .ok (.dup, 1) := by decide +kernel
theorem dX9_readNumber_34 : decode cX9_readNumber 34 = .ok (.getfield 26, 3) := by decide +kernel
theorem dX9_readNumber_37 : decode cX9_readNumber 37 = .ok (.iconst 1, 1) := by decide +kernel
theorem dX9_readNumber_38 : decode cX9_readNumber 38 = .ok (.iadd, 1) := by decide +kernel
theorem dX9_readNumber_39 : decode cX9_readNumber 39 = .ok (.putfield 26, 3) := by decide +kernel
theorem dX9_readNumber_42 : decode cX9_readNumber 42 = .ok (.iinc 2 1, 3) := by decide +kernel
theorem dX9_readNumber_45 : decode cX9_readNumber 45 = .ok (.goto (-41), 3) := by decide +kernel
theorem dX9_readNumber_48 : decode cX9_readNumber 48 = .ok (.aload_n 0, 1) := by decide +kernel
theorem dX9_readNumber_49 : decode cX9_readNumber 49 = .ok (.iload_n 1, 1) := by decide +kernel
theorem dX9_readNumber_50 : decode cX9_readNumber 50 = .ok (.invokevirtual 52, 3) := by decide +kernel
theorem dX9_readNumber_53 : decode cX9_readNumber 53 = .ok (.return_, 1) := by decide +kernel
theorem dX9_isDigit_0 : decode cX9_isDigit 0 = .ok (.iload_n 0, 1) := by decide +kernel
theorem dX9_isDigit_1 : decode cX9_isDigit 1 = .ok (.bipush 48, 2) := by decide +kernel
theorem dX9_isDigit_3 : decode cX9_isDigit 3 = .ok (.if_icmp .lt 13, 3) := by decide +kernel
theorem dX9_isDigit_6 : decode cX9_isDigit 6 = .ok (.iload_n 0, 1) := by decide +kernel
theorem dX9_isDigit_7 : decode cX9_isDigit 7 = .ok (.bipush 57, 2) := by decide +kernel
theorem dX9_isDigit_9 : decode cX9_isDigit 9 = .ok (.if_icmp .gt 7, 3) := by decide +kernel
theorem dX9_isDigit_12 : decode cX9_isDigit 12 = .ok (.iconst 1, 1) := by decide +kernel
theorem dX9_isDigit_13 : decode cX9_isDigit 13 = .ok (.goto 4, 3) := by decide +kernel
theorem dX9_isDigit_16 : decode cX9_isDigit 16 = .ok (.iconst 0, 1) := by decide +kernel
theorem dX9_isDigit_17 : decode cX9_isDigit 17 = .ok (.ireturn, 1) := by decide +kernel
theorem dX9_nameStep_0 : decode cX9_nameStep 0 = .ok (.iload_n 0, 1) := by decide +kernel
theorem dX9_nameStep_1 : decode cX9_nameStep 1 = .ok (.tableswitch 104 102 119 #[95, 104, 104, 98, 104, 104, 104, 92, 104, 104, 104, 104, 104, 87, 89, 104, 104, 101], 87) := by decide +kernel
theorem dX9_nameStep_88 : decode cX9_nameStep 88 = .ok (.iconst (-1), 1) := by decide +kernel
theorem dX9_nameStep_89 : decode cX9_nameStep 89 = .ok (.ireturn, 1) := by decide +kernel
theorem dX9_nameStep_90 : decode cX9_nameStep 90 = .ok (.bipush (-2), 2) := by decide +kernel
theorem dX9_nameStep_92 : decode cX9_nameStep 92 = .ok (.ireturn, 1) := by decide +kernel
theorem dX9_nameStep_93 : decode cX9_nameStep 93 = .ok (.bipush (-3), 2) := by decide +kernel
theorem dX9_nameStep_95 : decode cX9_nameStep 95 = .ok (.ireturn, 1) := by decide +kernel
theorem dX9_nameStep_96 : decode cX9_nameStep 96 = .ok (.bipush (-4), 2) := by decide +kernel
theorem dX9_nameStep_98 : decode cX9_nameStep 98 = .ok (.ireturn, 1) := by decide +kernel
theorem dX9_nameStep_99 : decode cX9_nameStep 99 = .ok (.bipush (-5), 2) := by decide +kernel
theorem dX9_nameStep_101 : decode cX9_nameStep 101 = .ok (.ireturn, 1) := by decide +kernel
theorem dX9_nameStep_102 : decode cX9_nameStep 102 = .ok (.bipush (-6), 2) := by decide +kernel
theorem dX9_nameStep_104 : decode cX9_nameStep 104 = .ok (.ireturn, 1) := by decide +kernel
theorem dX9_nameStep_105 : decode cX9_nameStep 105 = .ok (.iconst 0, 1) := by decide +kernel
theorem dX9_nameStep_106 : decode cX9_nameStep 106 = .ok (.ireturn, 1) := by decide +kernel
theorem dX10_init_0 : decode cX10_init 0 = .ok (.aload_n 0, 1) := by decide +kernel
theorem dX10_init_1 : decode cX10_init 1 = .ok (.invokespecial 1, 3) := by decide +kernel
theorem dX10_init_4 : decode cX10_init 4 = .ok (.aload_n 0, 1) := by decide +kernel
theorem dX10_init_5 : decode cX10_init 5 = .ok (.new 7, 3) := by decide +kernel
theorem dX10_init_8 : decode cX10_init 8 = .ok (.dup, 1) := by decide +kernel
theorem dX10_init_9 : decode cX10_init 9 = .ok (.invokespecial 9, 3) := by decide +kernel
theorem dX10_init_12 : decode cX10_init 12 = .ok (.putfield 10, 3) := by decide +kernel
theorem dX10_init_15 : decode cX10_init 15 = .ok (.aload_n 0, 1) := by decide +kernel
theorem dX10_init_16 : decode cX10_init 16 = .ok (.new 16, 3) := by decide +kernel
theorem dX10_init_19 : decode cX10_init 19 = .ok (.dup, 1) := by decide +kernel
theorem dX10_init_20 : decode cX10_init 20 = .ok (.invokespecial 18, 3) := by decide +kernel
theorem dX10_init_23 : decode cX10_init 23 = .ok (.putfield 19, 3) := by decide +kernel
theorem dX10_init_26 : decode cX10_init 26 = .ok (.aload_n 0, 1) := by decide +kernel
theorem dX10_init_27 : decode cX10_init 27 = .ok (.new 23, 3) := by decide +kernel
theorem dX10_init_30 : decode cX10_init 30 = .ok (.dup, 1) := by decide +kernel
theorem dX10_init_31 : decode cX10_init 31 = .ok (.invokespecial 25, 3) := by decide +kernel
theorem dX10_init_34 : decode cX10_init 34 = .ok (.putfield 26, 3) := by decide +kernel
theorem dX10_init_37 : decode cX10_init 37 = .ok (.aload_n 0, 1) := by decide +kernel
theorem dX10_init_38 : decode cX10_init 38 = .ok (.new 30, 3) := by decide +kernel
theorem dX10_init_41 : decode cX10_init 41 = .ok (.dup, 1) := by decide +kernel
theorem dX10_init_42 : decode cX10_init 42 = .ok (.invokespecial 32, 3) := by decide +kernel
theorem dX10_init_45 : decode cX10_init 45 = .ok (.putfield 33, 3) := by decide +kernel
theorem dX10_init_48 : decode cX10_init 48 = .ok (.aload_n 0, 1) := by decide +kernel
theorem dX10_init_49 : decode cX10_init 49 = .ok (.new 37, 3) := by decide +kernel
theorem dX10_init_52 : decode cX10_init 52 = .ok (.dup, 1) := by decide +kernel
theorem dX10_init_53 : decode cX10_init 53 = .ok (.invokespecial 39, 3) := by decide +kernel
theorem dX10_init_56 : decode cX10_init 56 = .ok (.putfield 40, 3) := by decide +kernel
theorem dX10_init_59 : decode cX10_init 59 = .ok (.aload_n 0, 1) := by decide +kernel
theorem dX10_init_60 : decode cX10_init 60 = .ok (.new 37, 3) := by decide +kernel
theorem dX10_init_63 : decode cX10_init 63 = .ok (.dup, 1) := by decide +kernel
theorem dX10_init_64 : decode cX10_init 64 = .ok (.invokespecial 39, 3) := by decide +kernel
theorem dX10_init_67 : decode cX10_init 67 = .ok (.putfield 44, 3) := by decide +kernel
theorem dX10_init_70 : decode cX10_init 70 = .ok (.aload_n 0, 1) := by decide +kernel
theorem dX10_init_71 : decode cX10_init 71 = .ok (.new 47, 3) := by decide +kernel
theorem dX10_init_74 : decode cX10_init 74 = .ok (.dup, 1) := by decide +kernel
theorem dX10_init_75 : decode cX10_init 75 = .ok (.invokespecial 49, 3) := by decide +kernel
theorem dX10_init_78 : decode cX10_init 78 = .ok (.putfield 50, 3) := by decide +kernel
theorem dX10_init_81 : decode cX10_init 81 = .ok (.aload_n 0, 1) := by decide +kernel
theorem dX10_init_82 : decode cX10_init 82 = .ok (.new 54, 3) := by decide +kernel
theorem dX10_init_85 : decode cX10_init 85 = .ok (.dup, 1) := by decide +kernel
theorem dX10_init_86 : decode cX10_init 86 = .ok (.invokespecial 56, 3) := by decide +kernel
theorem dX10_init_89 : decode cX10_init 89 = .ok (.putfield 57, 3) := by decide +kernel
theorem dX10_init_92 : decode cX10_init 92 = .ok (.aload_n 0, 1) := by decide +kernel
theorem dX10_init_93 : decode cX10_init 93 = .ok (.bipush 6, 2) := by decide +kernel
theorem dX10_init_95 : decode cX10_init 95 = .ok (.anewarray 61, 3) := by decide +kernel
theorem dX10_init_98 : decode cX10_init 98 = .ok (.putfield 63, 3) := by decide +kernel
theorem dX10_init_101 : decode cX10_init 101 = .ok (.iconst 0, 1) := by decide +kernel
theorem dX10_init_102 : decode cX10_init 102 = .ok (.istore_n 1, 1) := by decide +kernel
theorem dX10_init_103 : decode cX10_init 103 = .ok (.iload_n 1, 1) := by decide +kernel
theorem dX10_init_104 : decode cX10_init 104 = .ok (.bipush 6, 2) := by decide +kernel
theorem dX10_init_106 : decode cX10_init 106 = .ok (.if_icmp .ge 22, 3) := by decide +kernel
theorem dX10_init_109 : decode cX10_init 109 = .ok (.aload_n 0, 1) := by decide +kernel
theorem dX10_init_110 : decode cX10_init 110 = .ok (.getfield 63, 3) := by decide +kernel
theorem dX10_init_113 : decode cX10_init 113 = .ok (.iload_n 1, 1) := by decide +kernel
theorem dX10_init_114 : decode cX10_init 114 = .ok (.new 61, 3) := by decide +kernel
theorem dX10_init_117 : decode cX10_init 117 = .ok (.dup, 1) := by decide +kernel
theorem dX10_init_118 : decode cX10_init 118 = .ok (.invokespecial 67, 3) := by decide +kernel
theorem dX10_init_121 : decode cX10_init 121 = .ok (.aastore, 1) := by decide +kernel
theorem dX10_init_122 : decode cX10_init 122 = .ok (.iinc 1 1, 3) := by decide +kernel
theorem dX10_init_125 : decode cX10_init 125 = .ok (.goto (-22), 3) := by decide +kernel
theorem dX10_init_128 : decode cX10_init 128 = .ok (.return_, 1) := by decide +kernel
theorem dX10_house_0 : decode cX10_house 0 = .ok (.aload_n 0, 1) := by decide +kernel
theorem dX10_house_1 : decode cX10_house 1 = .ok (.getfield 68, 3) := by decide +kernel
theorem dX10_house_4 : decode cX10_house 4 = .ok (.bipush 6, 2) := by decide +kernel
theorem dX10_house_6 : decode cX10_house 6 = .ok (.if_icmp .lt 6, 3) := by decide +kernel
theorem dX10_house_9 : decode cX10_house 9 = .ok (.bipush (-3), 2) := by decide +kernel
theorem dX10_house_11 : decode cX10_house 11 = .ok (.ireturn, 1) := by decide +kernel
theorem dX10_house_12 : decode cX10_house 12 = .ok (.aload_n 0, 1) := by decide +kernel
theorem dX10_house_13 : decode cX10_house 13 = .ok (.dup, 1) := by decide +kernel
theorem dX10_house_14 : decode cX10_house 14 = .ok (.getfield 68, 3) := by decide +kernel
theorem dX10_house_17 : decode cX10_house 17 = .ok (.dup_x1, 1) := by decide +kernel
theorem dX10_house_18 : decode cX10_house 18 = .ok (.iconst 1, 1) := by decide +kernel
theorem dX10_house_19 : decode cX10_house 19 = .ok (.iadd, 1) := by decide +kernel
theorem dX10_house_20 : decode cX10_house 20 = .ok (.putfield 68, 3) := by decide +kernel
theorem dX10_house_23 : decode cX10_house 23 = .ok (.ireturn, 1) := by decide +kernel
theorem dX10_nose_0 : decode cX10_nose 0 = .ok (.iload_n 1, 1) := by decide +kernel
theorem dX10_nose_1 : decode cX10_nose 1 = .ok (.getstatic 72, 3) := by decide +kernel
theorem dX10_nose_4 : decode cX10_nose 4 = .ok (.iconst 2, 1) := by decide +kernel
theorem dX10_nose_5 : decode cX10_nose 5 = .ok (.iaload, 1) := by decide +kernel
theorem dX10_nose_6 : decode cX10_nose 6 = .ok (.if_icmp .lt 12, 3) := by decide +kernel
theorem dX10_nose_9 : decode cX10_nose 9 = .ok (.iload_n 1, 1) := by decide +kernel
theorem dX10_nose_10 : decode cX10_nose 10 = .ok (.getstatic 76, 3) := by decide +kernel
theorem dX10_nose_13 : decode cX10_nose 13 = .ok (.iconst 2, 1) := by decide +kernel
theorem dX10_nose_14 : decode cX10_nose 14 = .ok (.iaload, 1) := by decide +kernel
theorem dX10_nose_15 : decode cX10_nose 15 = .ok (.if_icmp .le 5, 3) := by decide +kernel
theorem dX10_nose_18 : decode cX10_nose 18 = .ok (.iconst (-1), 1) := by decide +kernel
theorem dX10_nose_19 : decode cX10_nose 19 = .ok (.ireturn, 1) := by decide +kernel
theorem dX10_nose_20 : decode cX10_nose 20 = .ok (.aload_n 0, 1) := by decide +kernel
theorem dX10_nose_21 : decode cX10_nose 21 = .ok (.getfield 26, 3) := by decide +kernel
theorem dX10_nose_24 : decode cX10_nose 24 = .ok (.iload_n 1, 1) := by decide +kernel
theorem dX10_nose_25 : decode cX10_nose 25 = .ok (.invokevirtual 79, 3) := by decide +kernel
theorem dX10_nose_28 : decode cX10_nose 28 = .ok (.ireturn, 1) := by decide +kernel
theorem dX10_things_0 : decode cX10_things 0 = .ok (.iload_n 1, 1) := by decide +kernel
theorem dX10_things_1 : decode cX10_things 1 = .ok (.invokestatic 83, 3) := by decide +kernel
theorem dX10_things_4 : decode cX10_things 4 = .ok (.ifCond .eq 35, 3) := by decide +kernel
theorem dX10_things_7 : decode cX10_things 7 = .ok (.iload_n 3, 1) := by decide +kernel
theorem dX10_things_8 : decode cX10_things 8 = .ok (.ifCond .lt 31, 3) := by decide +kernel
theorem dX10_things_11 : decode cX10_things 11 = .ok (.aload_n 0, 1) := by decide +kernel
theorem dX10_things_12 : decode cX10_things 12 = .ok (.iload_n 3, 1) := by decide +kernel
theorem dX10_things_13 : decode cX10_things 13 = .ok (.bipush 100, 2) := by decide +kernel
theorem dX10_things_15 : decode cX10_things 15 = .ok (.idiv, 1) := by decide +kernel
theorem dX10_things_16 : decode cX10_things 16 = .ok (.invokevirtual 87, 3) := by decide +kernel
theorem dX10_things_19 : decode cX10_things 19 = .ok (.ifCond .eq 20, 3) := by decide +kernel
theorem dX10_things_22 : decode cX10_things 22 = .ok (.iload_n 3, 1) := by decide +kernel
theorem dX10_things_23 : decode cX10_things 23 = .ok (.bipush 100, 2) := by decide +kernel
theorem dX10_things_25 : decode cX10_things 25 = .ok (.irem, 1) := by decide +kernel
theorem dX10_things_26 : decode cX10_things 26 = .ok (.iconst 1, 1) := by decide +kernel
theorem dX10_things_27 : decode cX10_things 27 = .ok (.if_icmp .lt 12, 3) := by decide +kernel
theorem dX10_things_30 : decode cX10_things 30 = .ok (.iload_n 3, 1) := by decide +kernel
theorem dX10_things_31 : decode cX10_things 31 = .ok (.bipush 100, 2) := by decide +kernel
theorem dX10_things_33 : decode cX10_things 33 = .ok (.irem, 1) := by decide +kernel
theorem dX10_things_34 : decode cX10_things 34 = .ok (.bipush 20, 2) := by decide +kernel
theorem dX10_things_36 : decode cX10_things 36 = .ok (.if_icmp .le 5, 3) := by decide +kernel
theorem dX10_things_39 : decode cX10_things 39 = .ok (.iconst (-1), 1) := by decide +kernel
theorem dX10_things_40 : decode cX10_things 40 = .ok (.ireturn, 1) := by decide +kernel
theorem dX10_things_41 : decode cX10_things 41 = .ok (.aload_n 0, 1) := by decide +kernel
theorem dX10_things_42 : decode cX10_things 42 = .ok (.getfield 63, 3) := by decide +kernel
theorem dX10_things_45 : decode cX10_things 45 = .ok (.iload_n 1, 1) := by decide +kernel
theorem dX10_things_46 : decode cX10_things 46 = .ok (.aaload, 1) := by decide +kernel
theorem dX10_things_47 : decode cX10_things 47 = .ok (.invokevirtual 90, 3) := by decide +kernel
theorem dX10_things_50 : decode cX10_things 50 = .ok (.istore 4, 2) := by decide +kernel
theorem dX10_things_52 : decode cX10_things 52 = .ok (.iload 4, 2) := by decide +kernel
theorem dX10_things_54 : decode cX10_things 54 = .ok (.bipush (-11), 2) := by decide +kernel
theorem dX10_things_56 : decode cX10_things 56 = .ok (.if_icmp .ne 5, 3) := by decide +kernel
theorem dX10_things_59 : decode cX10_things 59 = .ok (.iconst 0, 1) := by decide +kernel
theorem dX10_things_60 : decode cX10_things 60 = .ok (.ireturn, 1) := by decide +kernel
theorem dX10_things_61 : decode cX10_things 61 = .ok (.iload 4, 2) := by decide +kernel
theorem dX10_things_63 : decode cX10_things 63 = .ok (.ifCond .ne 25, 3) := by decide +kernel
theorem dX10_things_66 : decode cX10_things 66 = .ok (.aload_n 0, 1) := by decide +kernel
theorem dX10_things_67 : decode cX10_things 67 = .ok (.aload_n 0, 1) := by decide +kernel
theorem dX10_things_68 : decode cX10_things 68 = .ok (.getfield 63, 3) := by decide +kernel
theorem dX10_things_71 : decode cX10_things 71 = .ok (.iload_n 1, 1) := by decide +kernel
theorem dX10_things_72 : decode cX10_things 72 = .ok (.aaload, 1) := by decide +kernel
theorem dX10_things_73 : decode cX10_things 73 = .ok (.iload_n 2, 1) := by decide +kernel
theorem dX10_things_74 : decode cX10_things 74 = .ok (.iload_n 3, 1) := by decide +kernel
theorem dX10_things_75 : decode cX10_things 75 = .ok (.bipush 100, 2) := by decide +kernel
theorem dX10_things_77 : decode cX10_things 77 = .ok (.idiv, 1) := by decide +kernel
theorem dX10_things_78 : decode cX10_things 78 = .ok (.iload_n 3, 1) := by decide +kernel
theorem dX10_things_79 : decode cX10_things 79 = .ok (.bipush 100, 2) := by decide +kernel
theorem dX10_things_81 : decode cX10_things 81 = .ok (.irem, 1) := by decide +kernel
theorem dX10_things_82 : decode cX10_things 82 = .ok (.invokevirtual 94, 3) := by decide +kernel
theorem dX10_things_85 : decode cX10_things 85 = .ok (.goto 5, 3) := by decide +kernel
theorem dX10_things_88 : decode cX10_things 88 = .ok (.iload 4, 2) := by decide +kernel
theorem dX10_things_90 : decode cX10_things 90 = .ok (.ireturn, 1) := by decide +kernel
theorem dX10_toldFrom_0 : decode cX10_toldFrom 0 = .ok (.iconst 0, 1) := by decide +kernel
theorem dX10_toldFrom_1 : decode cX10_toldFrom 1 = .ok (.istore 5, 2) := by decide +kernel
theorem dX10_toldFrom_3 : decode cX10_toldFrom 3 = .ok (.iload_n 2, 1) := by decide +kernel
theorem dX10_toldFrom_4 : decode cX10_toldFrom 4 = .ok (.istore 6, 2) := by decide +kernel
theorem dX10_toldFrom_6 : decode cX10_toldFrom 6 = .ok (.iload 5, 2) := by decide +kernel
theorem dX10_toldFrom_8 : decode cX10_toldFrom 8 = .ok (.iload 4, 2) := by decide +kernel
theorem dX10_toldFrom_10 : decode cX10_toldFrom 10 = .ok (.if_icmp .ge 89, 3) := by decide +kernel
theorem dX10_toldFrom_13 : decode cX10_toldFrom 13 = .ok (.aload_n 1, 1) := by decide +kernel
theorem dX10_toldFrom_14 : decode cX10_toldFrom 14 = .ok (.iload 6, 2) := by decide +kernel
theorem dX10_toldFrom_16 : decode cX10_toldFrom 16 = .ok (.invokevirtual 98, 3) := by decide +kernel
theorem dX10_toldFrom_19 : decode cX10_toldFrom 19 = .ok (.ifCond .eq 80, 3) := by decide +kernel
theorem dX10_toldFrom_22 : decode cX10_toldFrom 22 = .ok (.aload_n 1, 1) := by decide +kernel
theorem dX10_toldFrom_23 : decode cX10_toldFrom 23 = .ok (.iload 6, 2) := by decide +kernel
theorem dX10_toldFrom_25 : decode cX10_toldFrom 25 = .ok (.iconst 1, 1) := by decide +kernel
theorem dX10_toldFrom_26 : decode cX10_toldFrom 26 = .ok (.iadd, 1) := by decide +kernel
theorem dX10_toldFrom_27 : decode cX10_toldFrom 27 = .ok (.invokevirtual 98, 3) := by decide +kernel
theorem dX10_toldFrom_30 : decode cX10_toldFrom 30 = .ok (.ifCond .eq 69, 3) := by decide +kernel
theorem dX10_toldFrom_33 : decode cX10_toldFrom 33 = .ok (.aload_n 1, 1) := by decide +kernel
theorem dX10_toldFrom_34 : decode cX10_toldFrom 34 = .ok (.iload 6, 2) := by decide +kernel
theorem dX10_toldFrom_36 : decode cX10_toldFrom 36 = .ok (.invokevirtual 101, 3) := by decide +kernel
theorem dX10_toldFrom_39 : decode cX10_toldFrom 39 = .ok (.istore 7, 2) := by decide +kernel
theorem dX10_toldFrom_41 : decode cX10_toldFrom 41 = .ok (.aload_n 1, 1) := by decide +kernel
theorem dX10_toldFrom_42 : decode cX10_toldFrom 42 = .ok (.iload 6, 2) := by decide +kernel
theorem dX10_toldFrom_44 : decode cX10_toldFrom 44 = .ok (.iconst 1, 1) := by decide +kernel
theorem dX10_toldFrom_45 : decode cX10_toldFrom 45 = .ok (.iadd, 1) := by decide +kernel
theorem dX10_toldFrom_46 : decode cX10_toldFrom 46 = .ok (.invokevirtual 101, 3) := by decide +kernel
theorem dX10_toldFrom_49 : decode cX10_toldFrom 49 = .ok (.istore 8, 2) := by decide +kernel
theorem dX10_toldFrom_51 : decode cX10_toldFrom 51 = .ok (.iload 7, 2) := by decide +kernel
theorem dX10_toldFrom_53 : decode cX10_toldFrom 53 = .ok (.invokestatic 104, 3) := by decide +kernel
theorem dX10_toldFrom_56 : decode cX10_toldFrom 56 = .ok (.ifCond .eq 43, 3) := by decide +kernel
theorem dX10_toldFrom_59 : decode cX10_toldFrom 59 = .ok (.iload 8, 2) := by decide +kernel
theorem dX10_toldFrom_61 : decode cX10_toldFrom 61 = .ok (.ifCond .lt 38, 3) := by decide +kernel
theorem dX10_toldFrom_64 : decode cX10_toldFrom 64 = .ok (.iload 8, 2) := by decide +kernel
theorem dX10_toldFrom_66 : decode cX10_toldFrom 66 = .ok (.bipush 9, 2) := by decide +kernel
theorem dX10_toldFrom_68 : decode cX10_toldFrom 68 = .ok (.if_icmp .le 6, 3) := by decide +kernel
theorem dX10_toldFrom_71 : decode cX10_toldFrom 71 = .ok (.goto 28, 3) := by decide +kernel
theorem dX10_toldFrom_74 : decode cX10_toldFrom 74 = .ok (.aload_n 0, 1) := by decide +kernel
theorem dX10_toldFrom_75 : decode cX10_toldFrom 75 = .ok (.getfield 40, 3) := by decide +kernel
theorem dX10_toldFrom_78 : decode cX10_toldFrom 78 = .ok (.getfield 107, 3) := by decide +kernel
theorem dX10_toldFrom_81 : decode cX10_toldFrom 81 = .ok (.iload_n 3, 1) := by decide +kernel
theorem dX10_toldFrom_82 : decode cX10_toldFrom 82 = .ok (.iload 7, 2) := by decide +kernel
theorem dX10_toldFrom_84 : decode cX10_toldFrom 84 = .ok (.invokestatic 110, 3) := by decide +kernel
theorem dX10_toldFrom_87 : decode cX10_toldFrom 87 = .ok (.iload 8, 2) := by decide +kernel
theorem dX10_toldFrom_89 : decode cX10_toldFrom 89 = .ok (.iastore, 1) := by decide +kernel
theorem dX10_toldFrom_90 : decode cX10_toldFrom 90 = .ok (.iinc 5 1, 3) := by decide +kernel
theorem dX10_toldFrom_93 : decode cX10_toldFrom 93 = .ok (.iinc 6 2, 3) := by decide +kernel
theorem dX10_toldFrom_96 : decode cX10_toldFrom 96 = .ok (.goto (-90), 3) := by decide +kernel
theorem dX10_toldFrom_99 : decode cX10_toldFrom 99 = .ok (.iload 5, 2) := by decide +kernel
theorem dX10_toldFrom_101 : decode cX10_toldFrom 101 = .ok (.ireturn, 1) := by decide +kernel
theorem dX10_mend_0 : decode cX10_mend 0 = .ok (.aload_n 0, 1) := by decide +kernel
theorem dX10_mend_1 : decode cX10_mend 1 = .ok (.iload_n 1, 1) := by decide +kernel
theorem dX10_mend_2 : decode cX10_mend 2 = .ok (.iload_n 2, 1) := by decide +kernel
theorem dX10_mend_3 : decode cX10_mend 3 = .ok (.invokevirtual 114, 3) := by decide +kernel
theorem dX10_mend_6 : decode cX10_mend 6 = .ok (.ifCond .eq 21, 3) := by decide +kernel
theorem dX10_mend_9 : decode cX10_mend 9 = .ok (.iload_n 3, 1) := by decide +kernel
theorem dX10_mend_10 : decode cX10_mend 10 = .ok (.getstatic 72, 3) := by decide +kernel
theorem dX10_mend_13 : decode cX10_mend 13 = .ok (.iload_n 2, 1) := by decide +kernel
theorem dX10_mend_14 : decode cX10_mend 14 = .ok (.iaload, 1) := by decide +kernel
theorem dX10_mend_15 : decode cX10_mend 15 = .ok (.if_icmp .lt 12, 3) := by decide +kernel
theorem dX10_mend_18 : decode cX10_mend 18 = .ok (.iload_n 3, 1) := by decide +kernel
theorem dX10_mend_19 : decode cX10_mend 19 = .ok (.getstatic 76, 3) := by decide +kernel
theorem dX10_mend_22 : decode cX10_mend 22 = .ok (.iload_n 2, 1) := by decide +kernel
theorem dX10_mend_23 : decode cX10_mend 23 = .ok (.iaload, 1) := by decide +kernel
theorem dX10_mend_24 : decode cX10_mend 24 = .ok (.if_icmp .le 5, 3) := by decide +kernel
theorem dX10_mend_27 : decode cX10_mend 27 = .ok (.iconst (-1), 1) := by decide +kernel
theorem dX10_mend_28 : decode cX10_mend 28 = .ok (.ireturn, 1) := by decide +kernel
theorem dX10_mend_29 : decode cX10_mend 29 = .ok (.aload_n 0, 1) := by decide +kernel
theorem dX10_mend_30 : decode cX10_mend 30 = .ok (.iload_n 1, 1) := by decide +kernel
theorem dX10_mend_31 : decode cX10_mend 31 = .ok (.iload_n 2, 1) := by decide +kernel
theorem dX10_mend_32 : decode cX10_mend 32 = .ok (.invokevirtual 118, 3) := by decide +kernel
theorem dX10_mend_35 : decode cX10_mend 35 = .ok (.istore 4, 2) := by decide +kernel
theorem dX10_mend_37 : decode cX10_mend 37 = .ok (.iload 4, 2) := by decide +kernel
theorem dX10_mend_39 : decode cX10_mend 39 = .ok (.iload_n 3, 1) := by decide +kernel
theorem dX10_mend_40 : decode cX10_mend 40 = .ok (.if_icmp .eq 22, 3) := by decide +kernel
theorem dX10_mend_43 : decode cX10_mend 43 = .ok (.aload_n 0, 1) := by decide +kernel
theorem dX10_mend_44 : decode cX10_mend 44 = .ok (.iload_n 1, 1) := by decide +kernel
theorem dX10_mend_45 : decode cX10_mend 45 = .ok (.iload_n 2, 1) := by decide +kernel
theorem dX10_mend_46 : decode cX10_mend 46 = .ok (.iload_n 3, 1) := by decide +kernel
theorem dX10_mend_47 : decode cX10_mend 47 = .ok (.invokevirtual 121, 3) := by decide +kernel
theorem dX10_mend_50 : decode cX10_mend 50 = .ok (.aload_n 0, 1) := by decide +kernel
theorem dX10_mend_51 : decode cX10_mend 51 = .ok (.getfield 50, 3) := by decide +kernel
theorem dX10_mend_54 : decode cX10_mend 54 = .ok (.iload_n 1, 1) := by decide +kernel
theorem dX10_mend_55 : decode cX10_mend 55 = .ok (.iload_n 2, 1) := by decide +kernel
theorem dX10_mend_56 : decode cX10_mend 56 = .ok (.iload 4, 2) := by decide +kernel
theorem dX10_mend_58 : decode cX10_mend 58 = .ok (.iload_n 3, 1) := by decide +kernel
theorem dX10_mend_59 : decode cX10_mend 59 = .ok (.invokevirtual 125, 3) := by decide +kernel
theorem dX10_mend_62 : decode cX10_mend 62 = .ok (.iload 4, 2) := by decide +kernel
theorem dX10_mend_64 : decode cX10_mend 64 = .ok (.ireturn, 1) := by decide +kernel
theorem dX10_of_0 : decode cX10_of 0 = .ok (.aload_n 0, 1) := by decide +kernel
theorem dX10_of_1 : decode cX10_of 1 = .ok (.iload_n 1, 1) := by decide +kernel
theorem dX10_of_2 : decode cX10_of 2 = .ok (.iload_n 2, 1) := by decide +kernel
theorem dX10_of_3 : decode cX10_of 3 = .ok (.invokevirtual 114, 3) := by decide +kernel
theorem dX10_of_6 : decode cX10_of 6 = .ok (.ifCond .eq 12, 3) := by decide +kernel
theorem dX10_of_9 : decode cX10_of 9 = .ok (.aload_n 0, 1) := by decide +kernel
theorem dX10_of_10 : decode cX10_of 10 = .ok (.iload_n 1, 1) := by decide +kernel
theorem dX10_of_11 : decode cX10_of 11 = .ok (.iload_n 2, 1) := by decide +kernel
theorem dX10_of_12 : decode cX10_of 12 = .ok (.invokevirtual 118, 3) := by decide +kernel
theorem dX10_of_15 : decode cX10_of 15 = .ok (.goto 4, 3) := by decide +kernel
theorem dX10_of_18 : decode cX10_of 18 = .ok (.iconst (-1), 1) := by decide +kernel
theorem dX10_of_19 : decode cX10_of 19 = .ok (.ireturn, 1) := by decide +kernel
theorem dX10_isTold_0 : decode cX10_isTold 0 = .ok (.iload_n 1, 1) := by decide +kernel
theorem dX10_isTold_1 : decode cX10_isTold 1 = .ok (.ifCond .ge 5, 3) := by decide +kernel
theorem dX10_isTold_4 : decode cX10_isTold 4 = .ok (.iconst 0, 1) := by decide +kernel
theorem dX10_isTold_5 : decode cX10_isTold 5 = .ok (.ireturn, 1) := by decide +kernel
theorem dX10_isTold_6 : decode cX10_isTold 6 = .ok (.iload_n 2, 1) := by decide +kernel
theorem dX10_isTold_7 : decode cX10_isTold 7 = .ok (.tableswitch 103 0 4 #[33, 57, 84, 84, 93], 33) := by decide +kernel
theorem dX10_isTold_40 : decode cX10_isTold 40 = .ok (.iload_n 1, 1) := by decide +kernel
theorem dX10_isTold_41 : decode cX10_isTold 41 = .ok (.bipush 10, 2) := by decide +kernel
theorem dX10_isTold_43 : decode cX10_isTold 43 = .ok (.idiv, 1) := by decide +kernel
theorem dX10_isTold_44 : decode cX10_isTold 44 = .ok (.invokestatic 104, 3) := by decide +kernel
theorem dX10_isTold_47 : decode cX10_isTold 47 = .ok (.ifCond .eq 15, 3) := by decide +kernel
theorem dX10_isTold_50 : decode cX10_isTold 50 = .ok (.iload_n 1, 1) := by decide +kernel
theorem dX10_isTold_51 : decode cX10_isTold 51 = .ok (.bipush 10, 2) := by decide +kernel
theorem dX10_isTold_53 : decode cX10_isTold 53 = .ok (.irem, 1) := by decide +kernel
theorem dX10_isTold_54 : decode cX10_isTold 54 = .ok (.iconst 5, 1) := by decide +kernel
theorem dX10_isTold_55 : decode cX10_isTold 55 = .ok (.if_icmp .ge 7, 3) := by decide +kernel
theorem dX10_isTold_58 : decode cX10_isTold 58 = .ok (.iconst 1, 1) := by decide +kernel
theorem dX10_isTold_59 : decode cX10_isTold 59 = .ok (.goto 4, 3) := by decide +kernel
theorem dX10_isTold_62 : decode cX10_isTold 62 = .ok (.iconst 0, 1) := by decide +kernel
theorem dX10_isTold_63 : decode cX10_isTold 63 = .ok (.ireturn, 1) := by decide +kernel
theorem dX10_isTold_64 : decode cX10_isTold 64 = .ok (.aload_n 0, 1) := by decide +kernel
theorem dX10_isTold_65 : decode cX10_isTold 65 = .ok (.iload_n 1, 1) := by decide +kernel
theorem dX10_isTold_66 : decode cX10_isTold 66 = .ok (.bipush 10, 2) := by decide +kernel
theorem dX10_isTold_68 : decode cX10_isTold 68 = .ok (.idiv, 1) := by decide +kernel
theorem dX10_isTold_69 : decode cX10_isTold 69 = .ok (.invokevirtual 87, 3) := by decide +kernel
theorem dX10_isTold_72 : decode cX10_isTold 72 = .ok (.ifCond .eq 17, 3) := by decide +kernel
theorem dX10_isTold_75 : decode cX10_isTold 75 = .ok (.iload_n 1, 1) := by decide +kernel
theorem dX10_isTold_76 : decode cX10_isTold 76 = .ok (.bipush 10, 2) := by decide +kernel
theorem dX10_isTold_78 : decode cX10_isTold 78 = .ok (.irem, 1) := by decide +kernel
theorem dX10_isTold_79 : decode cX10_isTold 79 = .ok (.invokestatic 104, 3) := by decide +kernel
theorem dX10_isTold_82 : decode cX10_isTold 82 = .ok (.ifCond .eq 7, 3) := by decide +kernel
theorem dX10_isTold_85 : decode cX10_isTold 85 = .ok (.iconst 1, 1) := by decide +kernel
theorem dX10_isTold_86 : decode cX10_isTold 86 = .ok (.goto 4, 3) := by decide +kernel
theorem dX10_isTold_89 : decode cX10_isTold 89 = .ok (.iconst 0, 1) := by decide +kernel
theorem dX10_isTold_90 : decode cX10_isTold 90 = .ok (.ireturn, 1) := by decide +kernel
theorem dX10_isTold_91 : decode cX10_isTold 91 = .ok (.aload_n 0, 1) := by decide +kernel
theorem dX10_isTold_92 : decode cX10_isTold 92 = .ok (.getfield 26, 3) := by decide +kernel
theorem dX10_isTold_95 : decode cX10_isTold 95 = .ok (.iload_n 1, 1) := by decide +kernel
theorem dX10_isTold_96 : decode cX10_isTold 96 = .ok (.invokevirtual 128, 3) := by decide +kernel
theorem dX10_isTold_99 : decode cX10_isTold 99 = .ok (.ireturn, 1) := by decide +kernel
theorem dX10_isTold_100 : decode cX10_isTold 100 = .ok (.iload_n 1, 1) := by decide +kernel
theorem dX10_isTold_101 : decode cX10_isTold 101 = .ok (.ifCond .ne 7, 3) := by decide +kernel
theorem dX10_isTold_104 : decode cX10_isTold 104 = .ok (.iconst 1, 1) := by decide +kernel
theorem dX10_isTold_105 : decode cX10_isTold 105 = .ok (.goto 4, 3) := by decide +kernel
theorem dX10_isTold_108 : decode cX10_isTold 108 = .ok (.iconst 0, 1) := by decide +kernel
theorem dX10_isTold_109 : decode cX10_isTold 109 = .ok (.ireturn, 1) := by decide +kernel
theorem dX10_isTold_110 : decode cX10_isTold 110 = .ok (.iconst 0, 1) := by decide +kernel
theorem dX10_isTold_111 : decode cX10_isTold 111 = .ok (.ireturn, 1) := by decide +kernel
theorem dX10_told_0 : decode cX10_told 0 = .ok (.iload_n 2, 1) := by decide +kernel
theorem dX10_told_1 : decode cX10_told 1 = .ok (.tableswitch 91 0 3 #[31, 51, 71, 81], 31) := by decide +kernel
theorem dX10_told_32 : decode cX10_told 32 = .ok (.aload_n 0, 1) := by decide +kernel
theorem dX10_told_33 : decode cX10_told 33 = .ok (.getfield 19, 3) := by decide +kernel
theorem dX10_told_36 : decode cX10_told 36 = .ok (.getfield 131, 3) := by decide +kernel
theorem dX10_told_39 : decode cX10_told 39 = .ok (.iload_n 1, 1) := by decide +kernel
theorem dX10_told_40 : decode cX10_told 40 = .ok (.bipush 10, 2) := by decide +kernel
theorem dX10_told_42 : decode cX10_told 42 = .ok (.idiv, 1) := by decide +kernel
theorem dX10_told_43 : decode cX10_told 43 = .ok (.iload_n 1, 1) := by decide +kernel
theorem dX10_told_44 : decode cX10_told 44 = .ok (.bipush 10, 2) := by decide +kernel
theorem dX10_told_46 : decode cX10_told 46 = .ok (.irem, 1) := by decide +kernel
theorem dX10_told_47 : decode cX10_told 47 = .ok (.invokestatic 134, 3) := by decide +kernel
theorem dX10_told_50 : decode cX10_told 50 = .ok (.iaload, 1) := by decide +kernel
theorem dX10_told_51 : decode cX10_told 51 = .ok (.ireturn, 1) := by decide +kernel
theorem dX10_told_52 : decode cX10_told 52 = .ok (.aload_n 0, 1) := by decide +kernel
theorem dX10_told_53 : decode cX10_told 53 = .ok (.getfield 40, 3) := by decide +kernel
theorem dX10_told_56 : decode cX10_told 56 = .ok (.getfield 107, 3) := by decide +kernel
theorem dX10_told_59 : decode cX10_told 59 = .ok (.iload_n 1, 1) := by decide +kernel
theorem dX10_told_60 : decode cX10_told 60 = .ok (.bipush 10, 2) := by decide +kernel
theorem dX10_told_62 : decode cX10_told 62 = .ok (.idiv, 1) := by decide +kernel
theorem dX10_told_63 : decode cX10_told 63 = .ok (.iload_n 1, 1) := by decide +kernel
theorem dX10_told_64 : decode cX10_told 64 = .ok (.bipush 10, 2) := by decide +kernel
theorem dX10_told_66 : decode cX10_told 66 = .ok (.irem, 1) := by decide +kernel
theorem dX10_told_67 : decode cX10_told 67 = .ok (.invokestatic 110, 3) := by decide +kernel
theorem dX10_told_70 : decode cX10_told 70 = .ok (.iaload, 1) := by decide +kernel
theorem dX10_told_71 : decode cX10_told 71 = .ok (.ireturn, 1) := by decide +kernel
theorem dX10_told_72 : decode cX10_told 72 = .ok (.aload_n 0, 1) := by decide +kernel
theorem dX10_told_73 : decode cX10_told 73 = .ok (.getfield 26, 3) := by decide +kernel
theorem dX10_told_76 : decode cX10_told 76 = .ok (.getfield 137, 3) := by decide +kernel
theorem dX10_told_79 : decode cX10_told 79 = .ok (.iload_n 1, 1) := by decide +kernel
theorem dX10_told_80 : decode cX10_told 80 = .ok (.iaload, 1) := by decide +kernel
theorem dX10_told_81 : decode cX10_told 81 = .ok (.ireturn, 1) := by decide +kernel
theorem dX10_told_82 : decode cX10_told 82 = .ok (.aload_n 0, 1) := by decide +kernel
theorem dX10_told_83 : decode cX10_told 83 = .ok (.getfield 26, 3) := by decide +kernel
theorem dX10_told_86 : decode cX10_told 86 = .ok (.getfield 140, 3) := by decide +kernel
theorem dX10_told_89 : decode cX10_told 89 = .ok (.iload_n 1, 1) := by decide +kernel
theorem dX10_told_90 : decode cX10_told 90 = .ok (.iaload, 1) := by decide +kernel
theorem dX10_told_91 : decode cX10_told 91 = .ok (.ireturn, 1) := by decide +kernel
theorem dX10_told_92 : decode cX10_told 92 = .ok (.aload_n 0, 1) := by decide +kernel
theorem dX10_told_93 : decode cX10_told 93 = .ok (.getfield 19, 3) := by decide +kernel
theorem dX10_told_96 : decode cX10_told 96 = .ok (.getfield 143, 3) := by decide +kernel
theorem dX10_told_99 : decode cX10_told 99 = .ok (.ireturn, 1) := by decide +kernel
theorem dX10_tell_0 : decode cX10_tell 0 = .ok (.iload_n 2, 1) := by decide +kernel
theorem dX10_tell_1 : decode cX10_tell 1 = .ok (.tableswitch 103 0 3 #[31, 54, 77, 90], 31) := by decide +kernel
theorem dX10_tell_32 : decode cX10_tell 32 = .ok (.aload_n 0, 1) := by decide +kernel
theorem dX10_tell_33 : decode cX10_tell 33 = .ok (.getfield 19, 3) := by decide +kernel
theorem dX10_tell_36 : decode cX10_tell 36 = .ok (.getfield 131, 3) := by decide +kernel
theorem dX10_tell_39 : decode cX10_tell 39 = .ok (.iload_n 1, 1) := by decide +kernel
theorem dX10_tell_40 : decode cX10_tell 40 = .ok (.bipush 10, 2) := by decide +kernel
theorem dX10_tell_42 : decode cX10_tell 42 = .ok (.idiv, 1) := by decide +kernel
theorem dX10_tell_43 : decode cX10_tell 43 = .ok (.iload_n 1, 1) := by decide +kernel
theorem dX10_tell_44 : decode cX10_tell 44 = .ok (.bipush 10, 2) := by decide +kernel
theorem dX10_tell_46 : decode cX10_tell 46 = .ok (.irem, 1) := by decide +kernel
theorem dX10_tell_47 : decode cX10_tell 47 = .ok (.invokestatic 134, 3) := by decide +kernel
theorem dX10_tell_50 : decode cX10_tell 50 = .ok (.iload_n 3, 1) := by decide +kernel
theorem dX10_tell_51 : decode cX10_tell 51 = .ok (.iastore, 1) := by decide +kernel
theorem dX10_tell_52 : decode cX10_tell 52 = .ok (.goto 60, 3) := by decide +kernel
theorem dX10_tell_55 : decode cX10_tell 55 = .ok (.aload_n 0, 1) := by decide +kernel
theorem dX10_tell_56 : decode cX10_tell 56 = .ok (.getfield 40, 3) := by decide +kernel
theorem dX10_tell_59 : decode cX10_tell 59 = .ok (.getfield 107, 3) := by decide +kernel
theorem dX10_tell_62 : decode cX10_tell 62 = .ok (.iload_n 1, 1) := by decide +kernel
theorem dX10_tell_63 : decode cX10_tell 63 = .ok (.bipush 10, 2) := by decide +kernel
theorem dX10_tell_65 : decode cX10_tell 65 = .ok (.idiv, 1) := by decide +kernel
theorem dX10_tell_66 : decode cX10_tell 66 = .ok (.iload_n 1, 1) := by decide +kernel
theorem dX10_tell_67 : decode cX10_tell 67 = .ok (.bipush 10, 2) := by decide +kernel
theorem dX10_tell_69 : decode cX10_tell 69 = .ok (.irem, 1) := by decide +kernel
theorem dX10_tell_70 : decode cX10_tell 70 = .ok (.invokestatic 110, 3) := by decide +kernel
theorem dX10_tell_73 : decode cX10_tell 73 = .ok (.iload_n 3, 1) := by decide +kernel
theorem dX10_tell_74 : decode cX10_tell 74 = .ok (.iastore, 1) := by decide +kernel
theorem dX10_tell_75 : decode cX10_tell 75 = .ok (.goto 37, 3) := by decide +kernel
theorem dX10_tell_78 : decode cX10_tell 78 = .ok (.aload_n 0, 1) := by decide +kernel
theorem dX10_tell_79 : decode cX10_tell 79 = .ok (.getfield 26, 3) := by decide +kernel
theorem dX10_tell_82 : decode cX10_tell 82 = .ok (.getfield 137, 3) := by decide +kernel
theorem dX10_tell_85 : decode cX10_tell 85 = .ok (.iload_n 1, 1) := by decide +kernel
theorem dX10_tell_86 : decode cX10_tell 86 = .ok (.iload_n 3, 1) := by decide +kernel
theorem dX10_tell_87 : decode cX10_tell 87 = .ok (.iastore, 1) := by decide +kernel
theorem dX10_tell_88 : decode cX10_tell 88 = .ok (.goto 24, 3) := by decide +kernel
theorem dX10_tell_91 : decode cX10_tell 91 = .ok (.aload_n 0, 1) := by decide +kernel
theorem dX10_tell_92 : decode cX10_tell 92 = .ok (.getfield 26, 3) := by decide +kernel
theorem dX10_tell_95 : decode cX10_tell 95 = .ok (.getfield 140, 3) := by decide +kernel
theorem dX10_tell_98 : decode cX10_tell 98 = .ok (.iload_n 1, 1) := by decide +kernel
theorem dX10_tell_99 : decode cX10_tell 99 = .ok (.iload_n 3, 1) := by decide +kernel
theorem dX10_tell_100 : decode cX10_tell 100 = .ok (.iastore, 1) := by decide +kernel
theorem dX10_tell_101 : decode cX10_tell 101 = .ok (.goto 11, 3) := by decide +kernel
theorem dX10_tell_104 : decode cX10_tell 104 = .ok (.aload_n 0, 1) := by decide +kernel
theorem dX10_tell_105 : decode cX10_tell 105 = .ok (.getfield 19, 3) := by decide +kernel
theorem dX10_tell_108 : decode cX10_tell 108 = .ok (.iload_n 3, 1) := by decide +kernel
theorem dX10_tell_109 : decode cX10_tell 109 = .ok (.putfield 143, 3) := by decide +kernel
theorem dX10_tell_112 : decode cX10_tell 112 = .ok (.return_, 1) := by decide +kernel
theorem dX10_feed_0 : decode cX10_feed 0 = .ok (.iload_n 1, 1) := by decide +kernel
theorem dX10_feed_1 : decode cX10_feed 1 = .ok (.ifCond .lt 10, 3) := by decide +kernel
theorem dX10_feed_4 : decode cX10_feed 4 = .ok (.iload_n 1, 1) := by decide +kernel
theorem dX10_feed_5 : decode cX10_feed 5 = .ok (.sipush 255, 3) := by decide +kernel
theorem dX10_feed_8 : decode cX10_feed 8 = .ok (.if_icmp .le 5, 3) := by decide +kernel
theorem dX10_feed_11 : decode cX10_feed 11 = .ok (.iconst (-1), 1) := by decide +kernel
theorem dX10_feed_12 : decode cX10_feed 12 = .ok (.ireturn, 1) := by decide +kernel
theorem dX10_feed_13 : decode cX10_feed 13 = .ok (.aload_n 0, 1) := by decide +kernel
theorem dX10_feed_14 : decode cX10_feed 14 = .ok (.getfield 10, 3) := by decide +kernel
theorem dX10_feed_17 : decode cX10_feed 17 = .ok (.iload_n 1, 1) := by decide +kernel
theorem dX10_feed_18 : decode cX10_feed 18 = .ok (.invokevirtual 146, 3) := by decide +kernel
theorem dX10_feed_21 : decode cX10_feed 21 = .ok (.ifCond .eq 13, 3) := by decide +kernel
theorem dX10_feed_24 : decode cX10_feed 24 = .ok (.aload_n 0, 1) := by decide +kernel
theorem dX10_feed_25 : decode cX10_feed 25 = .ok (.getfield 10, 3) := by decide +kernel
theorem dX10_feed_28 : decode cX10_feed 28 = .ok (.getfield 149, 3) := by decide +kernel
theorem dX10_feed_31 : decode cX10_feed 31 = .ok (.goto 5, 3) := by decide +kernel
theorem dX10_feed_34 : decode cX10_feed 34 = .ok (.bipush (-3), 2) := by decide +kernel
theorem dX10_feed_36 : decode cX10_feed 36 = .ok (.ireturn, 1) := by decide +kernel
theorem dX10_law_0 : decode cX10_law 0 = .ok (.aload_n 0, 1) := by decide +kernel
theorem dX10_law_1 : decode cX10_law 1 = .ok (.getfield 10, 3) := by decide +kernel
theorem dX10_law_4 : decode cX10_law 4 = .ok (.invokevirtual 152, 3) := by decide +kernel
theorem dX10_law_7 : decode cX10_law 7 = .ok (.istore_n 1, 1) := by decide +kernel
theorem dX10_law_8 : decode cX10_law 8 = .ok (.iload_n 1, 1) := by decide +kernel
theorem dX10_law_9 : decode cX10_law 9 = .ok (.ifCond .ge 17, 3) := by decide +kernel
theorem dX10_law_12 : decode cX10_law 12 = .ok (.aload_n 0, 1) := by decide +kernel
theorem dX10_law_13 : decode cX10_law 13 = .ok (.getfield 19, 3) := by decide +kernel
theorem dX10_law_16 : decode cX10_law 16 = .ok (.getfield 155, 3) := by decide +kernel
theorem dX10_law_19 : decode cX10_law 19 = .ok (.aload_n 0, 1) := by decide +kernel
theorem dX10_law_20 : decode cX10_law 20 = .ok (.getfield 10, 3) := by decide +kernel
theorem dX10_law_23 : decode cX10_law 23 = .ok (.invokevirtual 159, 3) := by decide +kernel
theorem dX10_law_26 : decode cX10_law 26 = .ok (.aload_n 0, 1) := by decide +kernel
theorem dX10_law_27 : decode cX10_law 27 = .ok (.getfield 10, 3) := by decide +kernel
theorem dX10_law_30 : decode cX10_law 30 = .ok (.iconst 0, 1) := by decide +kernel
theorem dX10_law_31 : decode cX10_law 31 = .ok (.putfield 149, 3) := by decide +kernel
theorem dX10_law_34 : decode cX10_law 34 = .ok (.iload_n 1, 1) := by decide +kernel
theorem dX10_law_35 : decode cX10_law 35 = .ok (.ifCond .ge 7, 3) := by decide +kernel
theorem dX10_law_38 : decode cX10_law 38 = .ok (.iconst 1, 1) := by decide +kernel
theorem dX10_law_39 : decode cX10_law 39 = .ok (.goto 7, 3) := by decide +kernel
theorem dX10_law_42 : decode cX10_law 42 = .ok (.bipush (-100), 2) := by decide +kernel
theorem dX10_law_44 : decode cX10_law 44 = .ok (.iload_n 1, 1) := by decide +kernel
theorem dX10_law_45 : decode cX10_law 45 = .ok (.isub, 1) := by decide +kernel
theorem dX10_law_46 : decode cX10_law 46 = .ok (.ireturn, 1) := by decide +kernel
theorem dX10_taste_0 : decode cX10_taste 0 = .ok (.iload_n 1, 1) := by decide +kernel
theorem dX10_taste_1 : decode cX10_taste 1 = .ok (.invokestatic 83, 3) := by decide +kernel
theorem dX10_taste_4 : decode cX10_taste 4 = .ok (.ifCond .eq 22, 3) := by decide +kernel
theorem dX10_taste_7 : decode cX10_taste 7 = .ok (.iload_n 2, 1) := by decide +kernel
theorem dX10_taste_8 : decode cX10_taste 8 = .ok (.ifCond .lt 18, 3) := by decide +kernel
theorem dX10_taste_11 : decode cX10_taste 11 = .ok (.iload_n 2, 1) := by decide +kernel
theorem dX10_taste_12 : decode cX10_taste 12 = .ok (.bipush 60, 2) := by decide +kernel
theorem dX10_taste_14 : decode cX10_taste 14 = .ok (.if_icmp .gt 12, 3) := by decide +kernel
theorem dX10_taste_17 : decode cX10_taste 17 = .ok (.iload_n 3, 1) := by decide +kernel
theorem dX10_taste_18 : decode cX10_taste 18 = .ok (.ifCond .lt 8, 3) := by decide +kernel
theorem dX10_taste_21 : decode cX10_taste 21 = .ok (.iload_n 3, 1) := by decide +kernel
theorem dX10_taste_22 : decode cX10_taste 22 = .ok (.iconst 5, 1) := by decide +kernel
theorem dX10_taste_23 : decode cX10_taste 23 = .ok (.if_icmp .le 5, 3) := by decide +kernel
theorem dX10_taste_26 : decode cX10_taste 26 = .ok (.iconst (-1), 1) := by decide +kernel
theorem dX10_taste_27 : decode cX10_taste 27 = .ok (.ireturn, 1) := by decide +kernel
theorem dX10_taste_28 : decode cX10_taste 28 = .ok (.aload_n 0, 1) := by decide +kernel
theorem dX10_taste_29 : decode cX10_taste 29 = .ok (.iload_n 1, 1) := by decide +kernel
theorem dX10_taste_30 : decode cX10_taste 30 = .ok (.invokevirtual 165, 3) := by decide +kernel
theorem dX10_taste_33 : decode cX10_taste 33 = .ok (.istore 4, 2) := by decide +kernel
theorem dX10_taste_35 : decode cX10_taste 35 = .ok (.iload 4, 2) := by decide +kernel
theorem dX10_taste_37 : decode cX10_taste 37 = .ok (.ifCond .ne 15, 3) := by decide +kernel
theorem dX10_taste_40 : decode cX10_taste 40 = .ok (.aload_n 0, 1) := by decide +kernel
theorem dX10_taste_41 : decode cX10_taste 41 = .ok (.getfield 19, 3) := by decide +kernel
theorem dX10_taste_44 : decode cX10_taste 44 = .ok (.iload_n 2, 1) := by decide +kernel
theorem dX10_taste_45 : decode cX10_taste 45 = .ok (.iload_n 3, 1) := by decide +kernel
theorem dX10_taste_46 : decode cX10_taste 46 = .ok (.invokevirtual 168, 3) := by decide +kernel
theorem dX10_taste_49 : decode cX10_taste 49 = .ok (.goto 5, 3) := by decide +kernel
theorem dX10_taste_52 : decode cX10_taste 52 = .ok (.iload 4, 2) := by decide +kernel
theorem dX10_taste_54 : decode cX10_taste 54 = .ok (.ireturn, 1) := by decide +kernel
theorem dX10_best_0 : decode cX10_best 0 = .ok (.iload_n 1, 1) := by decide +kernel
theorem dX10_best_1 : decode cX10_best 1 = .ok (.invokestatic 171, 3) := by decide +kernel
theorem dX10_best_4 : decode cX10_best 4 = .ok (.ifCond .eq 12, 3) := by decide +kernel
theorem dX10_best_7 : decode cX10_best 7 = .ok (.iload_n 2, 1) := by decide +kernel
theorem dX10_best_8 : decode cX10_best 8 = .ok (.ifCond .lt 8, 3) := by decide +kernel
theorem dX10_best_11 : decode cX10_best 11 = .ok (.iload_n 2, 1) := by decide +kernel
theorem dX10_best_12 : decode cX10_best 12 = .ok (.iconst 1, 1) := by decide +kernel
theorem dX10_best_13 : decode cX10_best 13 = .ok (.if_icmp .le 5, 3) := by decide +kernel
theorem dX10_best_16 : decode cX10_best 16 = .ok (.iconst (-1), 1) := by decide +kernel
theorem dX10_best_17 : decode cX10_best 17 = .ok (.ireturn, 1) := by decide +kernel
theorem dX10_best_18 : decode cX10_best 18 = .ok (.aload_n 0, 1) := by decide +kernel
theorem dX10_best_19 : decode cX10_best 19 = .ok (.iload_n 1, 1) := by decide +kernel
theorem dX10_best_20 : decode cX10_best 20 = .ok (.invokevirtual 174, 3) := by decide +kernel
theorem dX10_best_23 : decode cX10_best 23 = .ok (.istore_n 3, 1) := by decide +kernel
theorem dX10_best_24 : decode cX10_best 24 = .ok (.iload_n 3, 1) := by decide +kernel
theorem dX10_best_25 : decode cX10_best 25 = .ok (.ifCond .ne 23, 3) := by decide +kernel
theorem dX10_best_28 : decode cX10_best 28 = .ok (.aload_n 0, 1) := by decide +kernel
theorem dX10_best_29 : decode cX10_best 29 = .ok (.getfield 19, 3) := by decide +kernel
theorem dX10_best_32 : decode cX10_best 32 = .ok (.iload_n 2, 1) := by decide +kernel
theorem dX10_best_33 : decode cX10_best 33 = .ok (.iconst 1, 1) := by decide +kernel
theorem dX10_best_34 : decode cX10_best 34 = .ok (.if_icmp .ne 7, 3) := by decide +kernel
theorem dX10_best_37 : decode cX10_best 37 = .ok (.iconst 1, 1) := by decide +kernel
theorem dX10_best_38 : decode cX10_best 38 = .ok (.goto 4, 3) := by decide +kernel
theorem dX10_best_41 : decode cX10_best 41 = .ok (.iconst 0, 1) := by decide +kernel
theorem dX10_best_42 : decode cX10_best 42 = .ok (.invokevirtual 177, 3) := by decide +kernel
theorem dX10_best_45 : decode cX10_best 45 = .ok (.goto 4, 3) := by decide +kernel
theorem dX10_best_48 : decode cX10_best 48 = .ok (.iload_n 3, 1) := by decide +kernel
theorem dX10_best_49 : decode cX10_best 49 = .ok (.ireturn, 1) := by decide +kernel
theorem dX10_nearest_0 : decode cX10_nearest 0 = .ok (.iload_n 1, 1) := by decide +kernel
theorem dX10_nearest_1 : decode cX10_nearest 1 = .ok (.invokestatic 83, 3) := by decide +kernel
theorem dX10_nearest_4 : decode cX10_nearest 4 = .ok (.ifCond .eq 21, 3) := by decide +kernel
theorem dX10_nearest_7 : decode cX10_nearest 7 = .ok (.aload_n 0, 1) := by decide +kernel
theorem dX10_nearest_8 : decode cX10_nearest 8 = .ok (.iload_n 2, 1) := by decide +kernel
theorem dX10_nearest_9 : decode cX10_nearest 9 = .ok (.invokevirtual 181, 3) := by decide +kernel
theorem dX10_nearest_12 : decode cX10_nearest 12 = .ok (.ifCond .eq 13, 3) := by decide +kernel
theorem dX10_nearest_15 : decode cX10_nearest 15 = .ok (.iload_n 3, 1) := by decide +kernel
theorem dX10_nearest_16 : decode cX10_nearest 16 = .ok (.iconst (-1), 1) := by decide +kernel
theorem dX10_nearest_17 : decode cX10_nearest 17 = .ok (.if_icmp .lt 8, 3) := by decide +kernel
theorem dX10_nearest_20 : decode cX10_nearest 20 = .ok (.iload_n 3, 1) := by decide +kernel
theorem dX10_nearest_21 : decode cX10_nearest 21 = .ok (.iconst 4, 1) := by decide +kernel
theorem dX10_nearest_22 : decode cX10_nearest 22 = .ok (.if_icmp .lt 5, 3) := by decide +kernel
theorem dX10_nearest_25 : decode cX10_nearest 25 = .ok (.iconst (-1), 1) := by decide +kernel
theorem dX10_nearest_26 : decode cX10_nearest 26 = .ok (.ireturn, 1) := by decide +kernel
theorem dX10_nearest_27 : decode cX10_nearest 27 = .ok (.aload_n 0, 1) := by decide +kernel
theorem dX10_nearest_28 : decode cX10_nearest 28 = .ok (.iload_n 1, 1) := by decide +kernel
theorem dX10_nearest_29 : decode cX10_nearest 29 = .ok (.invokevirtual 184, 3) := by decide +kernel
theorem dX10_nearest_32 : decode cX10_nearest 32 = .ok (.istore 4, 2) := by decide +kernel
theorem dX10_nearest_34 : decode cX10_nearest 34 = .ok (.iload 4, 2) := by decide +kernel
theorem dX10_nearest_36 : decode cX10_nearest 36 = .ok (.ifCond .ne 29, 3) := by decide +kernel
theorem dX10_nearest_39 : decode cX10_nearest 39 = .ok (.aload_n 0, 1) := by decide +kernel
theorem dX10_nearest_40 : decode cX10_nearest 40 = .ok (.getfield 19, 3) := by decide +kernel
theorem dX10_nearest_43 : decode cX10_nearest 43 = .ok (.aload_n 0, 1) := by decide +kernel
theorem dX10_nearest_44 : decode cX10_nearest 44 = .ok (.getfield 40, 3) := by decide +kernel
theorem dX10_nearest_47 : decode cX10_nearest 47 = .ok (.getfield 107, 3) := by decide +kernel
theorem dX10_nearest_50 : decode cX10_nearest 50 = .ok (.iload_n 2, 1) := by decide +kernel
theorem dX10_nearest_51 : decode cX10_nearest 51 = .ok (.bipush 100, 2) := by decide +kernel
theorem dX10_nearest_53 : decode cX10_nearest 53 = .ok (.idiv, 1) := by decide +kernel
theorem dX10_nearest_54 : decode cX10_nearest 54 = .ok (.iload_n 2, 1) := by decide +kernel
theorem dX10_nearest_55 : decode cX10_nearest 55 = .ok (.bipush 100, 2) := by decide +kernel
theorem dX10_nearest_57 : decode cX10_nearest 57 = .ok (.irem, 1) := by decide +kernel
theorem dX10_nearest_58 : decode cX10_nearest 58 = .ok (.iload_n 3, 1) := by decide +kernel
theorem dX10_nearest_59 : decode cX10_nearest 59 = .ok (.invokevirtual 187, 3) := by decide +kernel
theorem dX10_nearest_62 : decode cX10_nearest 62 = .ok (.goto 5, 3) := by decide +kernel
theorem dX10_nearest_65 : decode cX10_nearest 65 = .ok (.iload 4, 2) := by decide +kernel
theorem dX10_nearest_67 : decode cX10_nearest 67 = .ok (.ireturn, 1) := by decide +kernel
theorem dX10_apart_0 : decode cX10_apart 0 = .ok (.iload_n 1, 1) := by decide +kernel
theorem dX10_apart_1 : decode cX10_apart 1 = .ok (.invokestatic 171, 3) := by decide +kernel
theorem dX10_apart_4 : decode cX10_apart 4 = .ok (.ifCond .eq 14, 3) := by decide +kernel
theorem dX10_apart_7 : decode cX10_apart 7 = .ok (.aload_n 0, 1) := by decide +kernel
theorem dX10_apart_8 : decode cX10_apart 8 = .ok (.getfield 26, 3) := by decide +kernel
theorem dX10_apart_11 : decode cX10_apart 11 = .ok (.iload_n 2, 1) := by decide +kernel
theorem dX10_apart_12 : decode cX10_apart 12 = .ok (.invokevirtual 128, 3) := by decide +kernel
theorem dX10_apart_15 : decode cX10_apart 15 = .ok (.ifCond .ne 5, 3) := by decide +kernel
theorem dX10_apart_18 : decode cX10_apart 18 = .ok (.iconst (-1), 1) := by decide +kernel
theorem dX10_apart_19 : decode cX10_apart 19 = .ok (.ireturn, 1) := by decide +kernel
theorem dX10_apart_20 : decode cX10_apart 20 = .ok (.aload_n 0, 1) := by decide +kernel
theorem dX10_apart_21 : decode cX10_apart 21 = .ok (.getfield 63, 3) := by decide +kernel
theorem dX10_apart_24 : decode cX10_apart 24 = .ok (.iload_n 1, 1) := by decide +kernel
theorem dX10_apart_25 : decode cX10_apart 25 = .ok (.bipush 10, 2) := by decide +kernel
theorem dX10_apart_27 : decode cX10_apart 27 = .ok (.idiv, 1) := by decide +kernel
theorem dX10_apart_28 : decode cX10_apart 28 = .ok (.aaload, 1) := by decide +kernel
theorem dX10_apart_29 : decode cX10_apart 29 = .ok (.astore_n 3, 1) := by decide +kernel
theorem dX10_apart_30 : decode cX10_apart 30 = .ok (.aload_n 0, 1) := by decide +kernel
theorem dX10_apart_31 : decode cX10_apart 31 = .ok (.getfield 63, 3) := by decide +kernel
theorem dX10_apart_34 : decode cX10_apart 34 = .ok (.iload_n 1, 1) := by decide +kernel
theorem dX10_apart_35 : decode cX10_apart 35 = .ok (.bipush 10, 2) := by decide +kernel
theorem dX10_apart_37 : decode cX10_apart 37 = .ok (.irem, 1) := by decide +kernel
theorem dX10_apart_38 : decode cX10_apart 38 = .ok (.aaload, 1) := by decide +kernel
theorem dX10_apart_39 : decode cX10_apart 39 = .ok (.astore 4, 2) := by decide +kernel
theorem dX10_apart_41 : decode cX10_apart 41 = .ok (.aload_n 3, 1) := by decide +kernel
theorem dX10_apart_42 : decode cX10_apart 42 = .ok (.invokevirtual 90, 3) := by decide +kernel
theorem dX10_apart_45 : decode cX10_apart 45 = .ok (.istore 5, 2) := by decide +kernel
theorem dX10_apart_47 : decode cX10_apart 47 = .ok (.iload 5, 2) := by decide +kernel
theorem dX10_apart_49 : decode cX10_apart 49 = .ok (.ifCond .ne 10, 3) := by decide +kernel
theorem dX10_apart_52 : decode cX10_apart 52 = .ok (.aload 4, 2) := by decide +kernel
theorem dX10_apart_54 : decode cX10_apart 54 = .ok (.invokevirtual 90, 3) := by decide +kernel
theorem dX10_apart_57 : decode cX10_apart 57 = .ok (.istore 5, 2) := by decide +kernel
theorem dX10_apart_59 : decode cX10_apart 59 = .ok (.iload 5, 2) := by decide +kernel
theorem dX10_apart_61 : decode cX10_apart 61 = .ok (.ifCond .eq 6, 3) := by decide +kernel
theorem dX10_apart_64 : decode cX10_apart 64 = .ok (.iload 5, 2) := by decide +kernel
theorem dX10_apart_66 : decode cX10_apart 66 = .ok (.ireturn, 1) := by decide +kernel
theorem dX10_apart_67 : decode cX10_apart 67 = .ok (.aload_n 3, 1) := by decide +kernel
theorem dX10_apart_68 : decode cX10_apart 68 = .ok (.iconst 0, 1) := by decide +kernel
theorem dX10_apart_69 : decode cX10_apart 69 = .ok (.aload_n 0, 1) := by decide +kernel
theorem dX10_apart_70 : decode cX10_apart 70 = .ok (.getfield 26, 3) := by decide +kernel
theorem dX10_apart_73 : decode cX10_apart 73 = .ok (.getfield 191, 3) := by decide +kernel
theorem dX10_apart_76 : decode cX10_apart 76 = .ok (.invokevirtual 194, 3) := by decide +kernel
theorem dX10_apart_79 : decode cX10_apart 79 = .ok (.ifCond .eq 19, 3) := by decide +kernel
theorem dX10_apart_82 : decode cX10_apart 82 = .ok (.aload 4, 2) := by decide +kernel
theorem dX10_apart_84 : decode cX10_apart 84 = .ok (.iconst 0, 1) := by decide +kernel
theorem dX10_apart_85 : decode cX10_apart 85 = .ok (.aload_n 0, 1) := by decide +kernel
theorem dX10_apart_86 : decode cX10_apart 86 = .ok (.getfield 19, 3) := by decide +kernel
theorem dX10_apart_89 : decode cX10_apart 89 = .ok (.getfield 198, 3) := by decide +kernel
theorem dX10_apart_92 : decode cX10_apart 92 = .ok (.invokevirtual 194, 3) := by decide +kernel
theorem dX10_apart_95 : decode cX10_apart 95 = .ok (.ifCond .ne 5, 3) := by decide +kernel
theorem dX10_apart_98 : decode cX10_apart 98 = .ok (.iconst (-1), 1) := by decide +kernel
theorem dX10_apart_99 : decode cX10_apart 99 = .ok (.ireturn, 1) := by decide +kernel
theorem dX10_apart_100 : decode cX10_apart 100 = .ok (.aload_n 0, 1) := by decide +kernel
theorem dX10_apart_101 : decode cX10_apart 101 = .ok (.getfield 26, 3) := by decide +kernel
theorem dX10_apart_104 : decode cX10_apart 104 = .ok (.iload_n 2, 1) := by decide +kernel
theorem dX10_apart_105 : decode cX10_apart 105 = .ok (.aload_n 0, 1) := by decide +kernel
theorem dX10_apart_106 : decode cX10_apart 106 = .ok (.getfield 26, 3) := by decide +kernel
theorem dX10_apart_109 : decode cX10_apart 109 = .ok (.getfield 191, 3) := by decide +kernel
theorem dX10_apart_112 : decode cX10_apart 112 = .ok (.iconst 0, 1) := by decide +kernel
theorem dX10_apart_113 : decode cX10_apart 113 = .ok (.aload_n 0, 1) := by decide +kernel
theorem dX10_apart_114 : decode cX10_apart 114 = .ok (.getfield 19, 3) := by decide +kernel
theorem dX10_apart_117 : decode cX10_apart 117 = .ok (.getfield 198, 3) := by decide +kernel
theorem dX10_apart_120 : decode cX10_apart 120 = .ok (.iconst 0, 1) := by decide +kernel
theorem dX10_apart_121 : decode cX10_apart 121 = .ok (.invokevirtual 201, 3) := by decide +kernel
theorem dX10_apart_124 : decode cX10_apart 124 = .ok (.ifCond .eq 7, 3) := by decide +kernel
theorem dX10_apart_127 : decode cX10_apart 127 = .ok (.iconst 1, 1) := by decide +kernel
theorem dX10_apart_128 : decode cX10_apart 128 = .ok (.goto 4, 3) := by decide +kernel
theorem dX10_apart_131 : decode cX10_apart 131 = .ok (.iconst 0, 1) := by decide +kernel
theorem dX10_apart_132 : decode cX10_apart 132 = .ok (.ireturn, 1) := by decide +kernel
theorem dX10_jury_0 : decode cX10_jury 0 = .ok (.iload_n 1, 1) := by decide +kernel
theorem dX10_jury_1 : decode cX10_jury 1 = .ok (.invokestatic 83, 3) := by decide +kernel
theorem dX10_jury_4 : decode cX10_jury 4 = .ok (.ifCond .eq 12, 3) := by decide +kernel
theorem dX10_jury_7 : decode cX10_jury 7 = .ok (.iload_n 2, 1) := by decide +kernel
theorem dX10_jury_8 : decode cX10_jury 8 = .ok (.ifCond .lt 8, 3) := by decide +kernel
theorem dX10_jury_11 : decode cX10_jury 11 = .ok (.iload_n 2, 1) := by decide +kernel
theorem dX10_jury_12 : decode cX10_jury 12 = .ok (.iconst 1, 1) := by decide +kernel
theorem dX10_jury_13 : decode cX10_jury 13 = .ok (.if_icmp .le 5, 3) := by decide +kernel
theorem dX10_jury_16 : decode cX10_jury 16 = .ok (.iconst (-1), 1) := by decide +kernel
theorem dX10_jury_17 : decode cX10_jury 17 = .ok (.ireturn, 1) := by decide +kernel
theorem dX10_jury_18 : decode cX10_jury 18 = .ok (.aload_n 0, 1) := by decide +kernel
theorem dX10_jury_19 : decode cX10_jury 19 = .ok (.getfield 63, 3) := by decide +kernel
theorem dX10_jury_22 : decode cX10_jury 22 = .ok (.iload_n 1, 1) := by decide +kernel
theorem dX10_jury_23 : decode cX10_jury 23 = .ok (.aaload, 1) := by decide +kernel
theorem dX10_jury_24 : decode cX10_jury 24 = .ok (.invokevirtual 90, 3) := by decide +kernel
theorem dX10_jury_27 : decode cX10_jury 27 = .ok (.istore_n 3, 1) := by decide +kernel
theorem dX10_jury_28 : decode cX10_jury 28 = .ok (.iload_n 3, 1) := by decide +kernel
theorem dX10_jury_29 : decode cX10_jury 29 = .ok (.ifCond .eq 5, 3) := by decide +kernel
theorem dX10_jury_32 : decode cX10_jury 32 = .ok (.iload_n 3, 1) := by decide +kernel
theorem dX10_jury_33 : decode cX10_jury 33 = .ok (.ireturn, 1) := by decide +kernel
theorem dX10_jury_34 : decode cX10_jury 34 = .ok (.aload_n 0, 1) := by decide +kernel
theorem dX10_jury_35 : decode cX10_jury 35 = .ok (.getfield 26, 3) := by decide +kernel
theorem dX10_jury_38 : decode cX10_jury 38 = .ok (.aload_n 0, 1) := by decide +kernel
theorem dX10_jury_39 : decode cX10_jury 39 = .ok (.getfield 63, 3) := by decide +kernel
theorem dX10_jury_42 : decode cX10_jury 42 = .ok (.iload_n 1, 1) := by decide +kernel
theorem dX10_jury_43 : decode cX10_jury 43 = .ok (.aaload, 1) := by decide +kernel
theorem dX10_jury_44 : decode cX10_jury 44 = .ok (.invokevirtual 205, 3) := by decide +kernel
theorem dX10_jury_47 : decode cX10_jury 47 = .ok (.istore 4, 2) := by decide +kernel
theorem dX10_jury_49 : decode cX10_jury 49 = .ok (.iload 4, 2) := by decide +kernel
theorem dX10_jury_51 : decode cX10_jury 51 = .ok (.ifCond .lt 8, 3) := by decide +kernel
theorem dX10_jury_54 : decode cX10_jury 54 = .ok (.iload_n 2, 1) := by decide +kernel
theorem dX10_jury_55 : decode cX10_jury 55 = .ok (.iconst 1, 1) := by decide +kernel
theorem dX10_jury_56 : decode cX10_jury 56 = .ok (.if_icmp .ne 8, 3) := by decide +kernel
theorem dX10_jury_59 : decode cX10_jury 59 = .ok (.iload 4, 2) := by decide +kernel
theorem dX10_jury_61 : decode cX10_jury 61 = .ok (.goto 8, 3) := by decide +kernel
theorem dX10_jury_64 : decode cX10_jury 64 = .ok (.iload 4, 2) := by decide +kernel
theorem dX10_jury_66 : decode cX10_jury 66 = .ok (.invokestatic 209, 3) := by decide +kernel
theorem dX10_jury_69 : decode cX10_jury 69 = .ok (.ireturn, 1) := by decide +kernel
theorem dX10_inHouse_0 : decode cX10_inHouse 0 = .ok (.iload_n 3, 1) := by decide +kernel
theorem dX10_inHouse_1 : decode cX10_inHouse 1 = .ok (.bipush 10, 2) := by decide +kernel
theorem dX10_inHouse_3 : decode cX10_inHouse 3 = .ok (.if_icmp .lt 9, 3) := by decide +kernel
theorem dX10_inHouse_6 : decode cX10_inHouse 6 = .ok (.iload_n 3, 1) := by decide +kernel
theorem dX10_inHouse_7 : decode cX10_inHouse 7 = .ok (.bipush 14, 2) := by decide +kernel
theorem dX10_inHouse_9 : decode cX10_inHouse 9 = .ok (.if_icmp .lt 15, 3) := by decide +kernel
theorem dX10_inHouse_12 : decode cX10_inHouse 12 = .ok (.iload_n 3, 1) := by decide +kernel
theorem dX10_inHouse_13 : decode cX10_inHouse 13 = .ok (.bipush 20, 2) := by decide +kernel
theorem dX10_inHouse_15 : decode cX10_inHouse 15 = .ok (.if_icmp .lt 13, 3) := by decide +kernel
theorem dX10_inHouse_18 : decode cX10_inHouse 18 = .ok (.iload_n 3, 1) := by decide +kernel
theorem dX10_inHouse_19 : decode cX10_inHouse 19 = .ok (.bipush 24, 2) := by decide +kernel
theorem dX10_inHouse_21 : decode cX10_inHouse 21 = .ok (.if_icmp .ge 7, 3) := by decide +kernel
theorem dX10_inHouse_24 : decode cX10_inHouse 24 = .ok (.iconst 1, 1) := by decide +kernel
theorem dX10_inHouse_25 : decode cX10_inHouse 25 = .ok (.goto 4, 3) := by decide +kernel
theorem dX10_inHouse_28 : decode cX10_inHouse 28 = .ok (.iconst 0, 1) := by decide +kernel
theorem dX10_inHouse_29 : decode cX10_inHouse 29 = .ok (.istore 4, 2) := by decide +kernel
theorem dX10_inHouse_31 : decode cX10_inHouse 31 = .ok (.iload_n 1, 1) := by decide +kernel
theorem dX10_inHouse_32 : decode cX10_inHouse 32 = .ok (.invokestatic 83, 3) := by decide +kernel
theorem dX10_inHouse_35 : decode cX10_inHouse 35 = .ok (.ifCond .eq 25, 3) := by decide +kernel
theorem dX10_inHouse_38 : decode cX10_inHouse 38 = .ok (.aload_n 0, 1) := by decide +kernel
theorem dX10_inHouse_39 : decode cX10_inHouse 39 = .ok (.iload_n 2, 1) := by decide +kernel
theorem dX10_inHouse_40 : decode cX10_inHouse 40 = .ok (.invokevirtual 181, 3) := by decide +kernel
theorem dX10_inHouse_43 : decode cX10_inHouse 43 = .ok (.ifCond .eq 17, 3) := by decide +kernel
theorem dX10_inHouse_46 : decode cX10_inHouse 46 = .ok (.iload_n 3, 1) := by decide +kernel
theorem dX10_inHouse_47 : decode cX10_inHouse 47 = .ok (.ifCond .eq 15, 3) := by decide +kernel
theorem dX10_inHouse_50 : decode cX10_inHouse 50 = .ok (.iload_n 3, 1) := by decide +kernel
theorem dX10_inHouse_51 : decode cX10_inHouse 51 = .ok (.iconst 1, 1) := by decide +kernel
theorem dX10_inHouse_52 : decode cX10_inHouse 52 = .ok (.if_icmp .eq 10, 3) := by decide +kernel
theorem dX10_inHouse_55 : decode cX10_inHouse 55 = .ok (.iload 4, 2) := by decide +kernel
theorem dX10_inHouse_57 : decode cX10_inHouse 57 = .ok (.ifCond .ne 5, 3) := by decide +kernel
theorem dX10_inHouse_60 : decode cX10_inHouse 60 = .ok (.iconst (-1), 1) := by decide +kernel
theorem dX10_inHouse_61 : decode cX10_inHouse 61 = .ok (.ireturn, 1) := by decide +kernel
theorem dX10_inHouse_62 : decode cX10_inHouse 62 = .ok (.aload_n 0, 1) := by decide +kernel
theorem dX10_inHouse_63 : decode cX10_inHouse 63 = .ok (.iload_n 1, 1) := by decide +kernel
theorem dX10_inHouse_64 : decode cX10_inHouse 64 = .ok (.invokevirtual 184, 3) := by decide +kernel
theorem dX10_inHouse_67 : decode cX10_inHouse 67 = .ok (.istore 5, 2) := by decide +kernel
theorem dX10_inHouse_69 : decode cX10_inHouse 69 = .ok (.iload 5, 2) := by decide +kernel
theorem dX10_inHouse_71 : decode cX10_inHouse 71 = .ok (.ifCond .ne 29, 3) := by decide +kernel
theorem dX10_inHouse_74 : decode cX10_inHouse 74 = .ok (.aload_n 0, 1) := by decide +kernel
theorem dX10_inHouse_75 : decode cX10_inHouse 75 = .ok (.getfield 19, 3) := by decide +kernel
theorem dX10_inHouse_78 : decode cX10_inHouse 78 = .ok (.aload_n 0, 1) := by decide +kernel
theorem dX10_inHouse_79 : decode cX10_inHouse 79 = .ok (.getfield 40, 3) := by decide +kernel
theorem dX10_inHouse_82 : decode cX10_inHouse 82 = .ok (.getfield 107, 3) := by decide +kernel
theorem dX10_inHouse_85 : decode cX10_inHouse 85 = .ok (.iload_n 2, 1) := by decide +kernel
theorem dX10_inHouse_86 : decode cX10_inHouse 86 = .ok (.bipush 100, 2) := by decide +kernel
theorem dX10_inHouse_88 : decode cX10_inHouse 88 = .ok (.idiv, 1) := by decide +kernel
theorem dX10_inHouse_89 : decode cX10_inHouse 89 = .ok (.iload_n 2, 1) := by decide +kernel
theorem dX10_inHouse_90 : decode cX10_inHouse 90 = .ok (.bipush 100, 2) := by decide +kernel
theorem dX10_inHouse_92 : decode cX10_inHouse 92 = .ok (.irem, 1) := by decide +kernel
theorem dX10_inHouse_93 : decode cX10_inHouse 93 = .ok (.iload_n 3, 1) := by decide +kernel
theorem dX10_inHouse_94 : decode cX10_inHouse 94 = .ok (.invokevirtual 214, 3) := by decide +kernel
theorem dX10_inHouse_97 : decode cX10_inHouse 97 = .ok (.goto 5, 3) := by decide +kernel
theorem dX10_inHouse_100 : decode cX10_inHouse 100 = .ok (.iload 5, 2) := by decide +kernel
theorem dX10_inHouse_102 : decode cX10_inHouse 102 = .ok (.ireturn, 1) := by decide +kernel
theorem dX10_lent_0 : decode cX10_lent 0 = .ok (.iload_n 1, 1) := by decide +kernel
theorem dX10_lent_1 : decode cX10_lent 1 = .ok (.invokestatic 83, 3) := by decide +kernel
theorem dX10_lent_4 : decode cX10_lent 4 = .ok (.ifCond .eq 11, 3) := by decide +kernel
theorem dX10_lent_7 : decode cX10_lent 7 = .ok (.aload_n 0, 1) := by decide +kernel
theorem dX10_lent_8 : decode cX10_lent 8 = .ok (.iload_n 2, 1) := by decide +kernel
theorem dX10_lent_9 : decode cX10_lent 9 = .ok (.invokevirtual 87, 3) := by decide +kernel
theorem dX10_lent_12 : decode cX10_lent 12 = .ok (.ifCond .ne 5, 3) := by decide +kernel
theorem dX10_lent_15 : decode cX10_lent 15 = .ok (.iconst (-1), 1) := by decide +kernel
theorem dX10_lent_16 : decode cX10_lent 16 = .ok (.ireturn, 1) := by decide +kernel
theorem dX10_lent_17 : decode cX10_lent 17 = .ok (.aload_n 0, 1) := by decide +kernel
theorem dX10_lent_18 : decode cX10_lent 18 = .ok (.iload_n 1, 1) := by decide +kernel
theorem dX10_lent_19 : decode cX10_lent 19 = .ok (.invokevirtual 165, 3) := by decide +kernel
theorem dX10_lent_22 : decode cX10_lent 22 = .ok (.istore_n 3, 1) := by decide +kernel
theorem dX10_lent_23 : decode cX10_lent 23 = .ok (.iload_n 3, 1) := by decide +kernel
theorem dX10_lent_24 : decode cX10_lent 24 = .ok (.ifCond .ne 11, 3) := by decide +kernel
theorem dX10_lent_27 : decode cX10_lent 27 = .ok (.aload_n 0, 1) := by decide +kernel
theorem dX10_lent_28 : decode cX10_lent 28 = .ok (.iload_n 2, 1) := by decide +kernel
theorem dX10_lent_29 : decode cX10_lent 29 = .ok (.invokevirtual 217, 3) := by decide +kernel
theorem dX10_lent_32 : decode cX10_lent 32 = .ok (.goto 4, 3) := by decide +kernel
theorem dX10_lent_35 : decode cX10_lent 35 = .ok (.iload_n 3, 1) := by decide +kernel
theorem dX10_lent_36 : decode cX10_lent 36 = .ok (.ireturn, 1) := by decide +kernel
theorem dX10_fewestLent_0 : decode cX10_fewestLent 0 = .ok (.iconst 0, 1) := by decide +kernel
theorem dX10_fewestLent_1 : decode cX10_fewestLent 1 = .ok (.istore_n 2, 1) := by decide +kernel
theorem dX10_fewestLent_2 : decode cX10_fewestLent 2 = .ok (.iconst 0, 1) := by decide +kernel
theorem dX10_fewestLent_3 : decode cX10_fewestLent 3 = .ok (.istore_n 3, 1) := by decide +kernel
theorem dX10_fewestLent_4 : decode cX10_fewestLent 4 = .ok (.iload_n 3, 1) := by decide +kernel
theorem dX10_fewestLent_5 : decode cX10_fewestLent 5 = .ok (.bipush 8, 2) := by decide +kernel
theorem dX10_fewestLent_7 : decode cX10_fewestLent 7 = .ok (.if_icmp .ge 58, 3) := by decide +kernel
theorem dX10_fewestLent_10 : decode cX10_fewestLent 10 = .ok (.aload_n 0, 1) := by decide +kernel
theorem dX10_fewestLent_11 : decode cX10_fewestLent 11 = .ok (.getfield 19, 3) := by decide +kernel
theorem dX10_fewestLent_14 : decode cX10_fewestLent 14 = .ok (.invokevirtual 220, 3) := by decide +kernel
theorem dX10_fewestLent_17 : decode cX10_fewestLent 17 = .ok (.iload_n 3, 1) := by decide +kernel
theorem dX10_fewestLent_18 : decode cX10_fewestLent 18 = .ok (.iaload, 1) := by decide +kernel
theorem dX10_fewestLent_19 : decode cX10_fewestLent 19 = .ok (.aload_n 0, 1) := by decide +kernel
theorem dX10_fewestLent_20 : decode cX10_fewestLent 20 = .ok (.getfield 40, 3) := by decide +kernel
theorem dX10_fewestLent_23 : decode cX10_fewestLent 23 = .ok (.getfield 107, 3) := by decide +kernel
theorem dX10_fewestLent_26 : decode cX10_fewestLent 26 = .ok (.iload_n 1, 1) := by decide +kernel
theorem dX10_fewestLent_27 : decode cX10_fewestLent 27 = .ok (.iload_n 3, 1) := by decide +kernel
theorem dX10_fewestLent_28 : decode cX10_fewestLent 28 = .ok (.invokestatic 110, 3) := by decide +kernel
theorem dX10_fewestLent_31 : decode cX10_fewestLent 31 = .ok (.iaload, 1) := by decide +kernel
theorem dX10_fewestLent_32 : decode cX10_fewestLent 32 = .ok (.isub, 1) := by decide +kernel
theorem dX10_fewestLent_33 : decode cX10_fewestLent 33 = .ok (.istore 4, 2) := by decide +kernel
theorem dX10_fewestLent_35 : decode cX10_fewestLent 35 = .ok (.iload 4, 2) := by decide +kernel
theorem dX10_fewestLent_37 : decode cX10_fewestLent 37 = .ok (.ifCond .le 22, 3) := by decide +kernel
theorem dX10_fewestLent_40 : decode cX10_fewestLent 40 = .ok (.iload 4, 2) := by decide +kernel
theorem dX10_fewestLent_42 : decode cX10_fewestLent 42 = .ok (.aload_n 0, 1) := by decide +kernel
theorem dX10_fewestLent_43 : decode cX10_fewestLent 43 = .ok (.iload_n 1, 1) := by decide +kernel
theorem dX10_fewestLent_44 : decode cX10_fewestLent 44 = .ok (.iload_n 3, 1) := by decide +kernel
theorem dX10_fewestLent_45 : decode cX10_fewestLent 45 = .ok (.invokevirtual 224, 3) := by decide +kernel
theorem dX10_fewestLent_48 : decode cX10_fewestLent 48 = .ok (.if_icmp .le 6, 3) := by decide +kernel
theorem dX10_fewestLent_51 : decode cX10_fewestLent 51 = .ok (.bipush (-2), 2) := by decide +kernel
theorem dX10_fewestLent_53 : decode cX10_fewestLent 53 = .ok (.ireturn, 1) := by decide +kernel
theorem dX10_fewestLent_54 : decode cX10_fewestLent 54 = .ok (.iload_n 2, 1) := by decide +kernel
theorem dX10_fewestLent_55 : decode cX10_fewestLent 55 = .ok (.iload 4, 2) := by decide +kernel
theorem dX10_fewestLent_57 : decode cX10_fewestLent 57 = .ok (.iadd, 1) := by decide +kernel
theorem dX10_fewestLent_58 : decode cX10_fewestLent 58 = .ok (.istore_n 2, 1) := by decide +kernel
theorem dX10_fewestLent_59 : decode cX10_fewestLent 59 = .ok (.iinc 3 1, 3) := by decide +kernel
theorem dX10_fewestLent_62 : decode cX10_fewestLent 62 = .ok (.goto (-58), 3) := by decide +kernel
theorem dX10_fewestLent_65 : decode cX10_fewestLent 65 = .ok (.iload_n 2, 1) := by decide +kernel
theorem dX10_fewestLent_66 : decode cX10_fewestLent 66 = .ok (.ireturn, 1) := by decide +kernel
theorem dX10_hadByOthers_0 : decode cX10_hadByOthers 0 = .ok (.iconst 0, 1) := by decide +kernel
theorem dX10_hadByOthers_1 : decode cX10_hadByOthers 1 = .ok (.istore_n 3, 1) := by decide +kernel
theorem dX10_hadByOthers_2 : decode cX10_hadByOthers 2 = .ok (.iconst 0, 1) := by decide +kernel
theorem dX10_hadByOthers_3 : decode cX10_hadByOthers 3 = .ok (.istore 4, 2) := by decide +kernel
theorem dX10_hadByOthers_5 : decode cX10_hadByOthers 5 = .ok (.iload 4, 2) := by decide +kernel
theorem dX10_hadByOthers_7 : decode cX10_hadByOthers 7 = .ok (.aload_n 0, 1) := by decide +kernel
theorem dX10_hadByOthers_8 : decode cX10_hadByOthers 8 = .ok (.getfield 68, 3) := by decide +kernel
theorem dX10_hadByOthers_11 : decode cX10_hadByOthers 11 = .ok (.if_icmp .ge 32, 3) := by decide +kernel
theorem dX10_hadByOthers_14 : decode cX10_hadByOthers 14 = .ok (.iload 4, 2) := by decide +kernel
theorem dX10_hadByOthers_16 : decode cX10_hadByOthers 16 = .ok (.iload_n 1, 1) := by decide +kernel
theorem dX10_hadByOthers_17 : decode cX10_hadByOthers 17 = .ok (.if_icmp .eq 20, 3) := by decide +kernel
theorem dX10_hadByOthers_20 : decode cX10_hadByOthers 20 = .ok (.iload_n 3, 1) := by decide +kernel
theorem dX10_hadByOthers_21 : decode cX10_hadByOthers 21 = .ok (.aload_n 0, 1) := by decide +kernel
theorem dX10_hadByOthers_22 : decode cX10_hadByOthers 22 = .ok (.getfield 40, 3) := by decide +kernel
theorem dX10_hadByOthers_25 : decode cX10_hadByOthers 25 = .ok (.getfield 107, 3) := by decide +kernel
theorem dX10_hadByOthers_28 : decode cX10_hadByOthers 28 = .ok (.iload 4, 2) := by decide +kernel
theorem dX10_hadByOthers_30 : decode cX10_hadByOthers 30 = .ok (.iload_n 2, 1) := by decide +kernel
theorem dX10_hadByOthers_31 : decode cX10_hadByOthers 31 = .ok (.invokestatic 110, 3) := by decide +kernel
theorem dX10_hadByOthers_34 : decode cX10_hadByOthers 34 = .ok (.iaload, 1) := by decide +kernel
theorem dX10_hadByOthers_35 : decode cX10_hadByOthers 35 = .ok (.iadd, 1) := by decide +kernel
theorem dX10_hadByOthers_36 : decode cX10_hadByOthers 36 = .ok (.istore_n 3, 1) := by decide +kernel
theorem dX10_hadByOthers_37 : decode cX10_hadByOthers 37 = .ok (.iinc 4 1, 3) := by decide +kernel
theorem dX10_hadByOthers_40 : decode cX10_hadByOthers 40 = .ok (.goto (-35), 3) := by decide +kernel
theorem dX10_hadByOthers_43 : decode cX10_hadByOthers 43 = .ok (.iload_n 3, 1) := by decide +kernel
theorem dX10_hadByOthers_44 : decode cX10_hadByOthers 44 = .ok (.ireturn, 1) := by decide +kernel
theorem dX10_whoCould_0 : decode cX10_whoCould 0 = .ok (.iload_n 1, 1) := by decide +kernel
theorem dX10_whoCould_1 : decode cX10_whoCould 1 = .ok (.invokestatic 83, 3) := by decide +kernel
theorem dX10_whoCould_4 : decode cX10_whoCould 4 = .ok (.ifCond .ne 5, 3) := by decide +kernel
theorem dX10_whoCould_7 : decode cX10_whoCould 7 = .ok (.iconst (-1), 1) := by decide +kernel
theorem dX10_whoCould_8 : decode cX10_whoCould 8 = .ok (.ireturn, 1) := by decide +kernel
theorem dX10_whoCould_9 : decode cX10_whoCould 9 = .ok (.aload_n 0, 1) := by decide +kernel
theorem dX10_whoCould_10 : decode cX10_whoCould 10 = .ok (.iload_n 1, 1) := by decide +kernel
theorem dX10_whoCould_11 : decode cX10_whoCould 11 = .ok (.invokevirtual 165, 3) := by decide +kernel
theorem dX10_whoCould_14 : decode cX10_whoCould 14 = .ok (.istore_n 2, 1) := by decide +kernel
theorem dX10_whoCould_15 : decode cX10_whoCould 15 = .ok (.iload_n 2, 1) := by decide +kernel
theorem dX10_whoCould_16 : decode cX10_whoCould 16 = .ok (.ifCond .eq 5, 3) := by decide +kernel
theorem dX10_whoCould_19 : decode cX10_whoCould 19 = .ok (.iload_n 2, 1) := by decide +kernel
theorem dX10_whoCould_20 : decode cX10_whoCould 20 = .ok (.ireturn, 1) := by decide +kernel
theorem dX10_whoCould_21 : decode cX10_whoCould 21 = .ok (.iconst 0, 1) := by decide +kernel
theorem dX10_whoCould_22 : decode cX10_whoCould 22 = .ok (.istore_n 3, 1) := by decide +kernel
theorem dX10_whoCould_23 : decode cX10_whoCould 23 = .ok (.iconst 0, 1) := by decide +kernel
theorem dX10_whoCould_24 : decode cX10_whoCould 24 = .ok (.istore 4, 2) := by decide +kernel
theorem dX10_whoCould_26 : decode cX10_whoCould 26 = .ok (.iload 4, 2) := by decide +kernel
theorem dX10_whoCould_28 : decode cX10_whoCould 28 = .ok (.aload_n 0, 1) := by decide +kernel
theorem dX10_whoCould_29 : decode cX10_whoCould 29 = .ok (.getfield 68, 3) := by decide +kernel
theorem dX10_whoCould_32 : decode cX10_whoCould 32 = .ok (.if_icmp .ge 25, 3) := by decide +kernel
theorem dX10_whoCould_35 : decode cX10_whoCould 35 = .ok (.aload_n 0, 1) := by decide +kernel
theorem dX10_whoCould_36 : decode cX10_whoCould 36 = .ok (.iload 4, 2) := by decide +kernel
theorem dX10_whoCould_38 : decode cX10_whoCould 38 = .ok (.invokevirtual 227, 3) := by decide +kernel
theorem dX10_whoCould_41 : decode cX10_whoCould 41 = .ok (.ifCond .eq 10, 3) := by decide +kernel
theorem dX10_whoCould_44 : decode cX10_whoCould 44 = .ok (.iload_n 3, 1) := by decide +kernel
theorem dX10_whoCould_45 : decode cX10_whoCould 45 = .ok (.iconst 1, 1) := by decide +kernel
theorem dX10_whoCould_46 : decode cX10_whoCould 46 = .ok (.iload 4, 2) := by decide +kernel
theorem dX10_whoCould_48 : decode cX10_whoCould 48 = .ok (.ishl, 1) := by decide +kernel
theorem dX10_whoCould_49 : decode cX10_whoCould 49 = .ok (.ior, 1) := by decide +kernel
theorem dX10_whoCould_50 : decode cX10_whoCould 50 = .ok (.istore_n 3, 1) := by decide +kernel
theorem dX10_whoCould_51 : decode cX10_whoCould 51 = .ok (.iinc 4 1, 3) := by decide +kernel
theorem dX10_whoCould_54 : decode cX10_whoCould 54 = .ok (.goto (-28), 3) := by decide +kernel
theorem dX10_whoCould_57 : decode cX10_whoCould 57 = .ok (.iload_n 3, 1) := by decide +kernel
theorem dX10_whoCould_58 : decode cX10_whoCould 58 = .ok (.ireturn, 1) := by decide +kernel
theorem dX10_hasMix_0 : decode cX10_hasMix 0 = .ok (.iconst 0, 1) := by decide +kernel
theorem dX10_hasMix_1 : decode cX10_hasMix 1 = .ok (.istore_n 2, 1) := by decide +kernel
theorem dX10_hasMix_2 : decode cX10_hasMix 2 = .ok (.iload_n 2, 1) := by decide +kernel
theorem dX10_hasMix_3 : decode cX10_hasMix 3 = .ok (.bipush 8, 2) := by decide +kernel
theorem dX10_hasMix_5 : decode cX10_hasMix 5 = .ok (.if_icmp .ge 36, 3) := by decide +kernel
theorem dX10_hasMix_8 : decode cX10_hasMix 8 = .ok (.aload_n 0, 1) := by decide +kernel
theorem dX10_hasMix_9 : decode cX10_hasMix 9 = .ok (.getfield 19, 3) := by decide +kernel
theorem dX10_hasMix_12 : decode cX10_hasMix 12 = .ok (.invokevirtual 220, 3) := by decide +kernel
theorem dX10_hasMix_15 : decode cX10_hasMix 15 = .ok (.iload_n 2, 1) := by decide +kernel
theorem dX10_hasMix_16 : decode cX10_hasMix 16 = .ok (.iaload, 1) := by decide +kernel
theorem dX10_hasMix_17 : decode cX10_hasMix 17 = .ok (.aload_n 0, 1) := by decide +kernel
theorem dX10_hasMix_18 : decode cX10_hasMix 18 = .ok (.getfield 40, 3) := by decide +kernel
theorem dX10_hasMix_21 : decode cX10_hasMix 21 = .ok (.getfield 107, 3) := by decide +kernel
theorem dX10_hasMix_24 : decode cX10_hasMix 24 = .ok (.iload_n 1, 1) := by decide +kernel
theorem dX10_hasMix_25 : decode cX10_hasMix 25 = .ok (.iload_n 2, 1) := by decide +kernel
theorem dX10_hasMix_26 : decode cX10_hasMix 26 = .ok (.invokestatic 110, 3) := by decide +kernel
theorem dX10_hasMix_29 : decode cX10_hasMix 29 = .ok (.iaload, 1) := by decide +kernel
theorem dX10_hasMix_30 : decode cX10_hasMix 30 = .ok (.if_icmp .le 5, 3) := by decide +kernel
theorem dX10_hasMix_33 : decode cX10_hasMix 33 = .ok (.iconst 0, 1) := by decide +kernel
theorem dX10_hasMix_34 : decode cX10_hasMix 34 = .ok (.ireturn, 1) := by decide +kernel
theorem dX10_hasMix_35 : decode cX10_hasMix 35 = .ok (.iinc 2 1, 3) := by decide +kernel
theorem dX10_hasMix_38 : decode cX10_hasMix 38 = .ok (.goto (-36), 3) := by decide +kernel
theorem dX10_hasMix_41 : decode cX10_hasMix 41 = .ok (.iconst 1, 1) := by decide +kernel
theorem dX10_hasMix_42 : decode cX10_hasMix 42 = .ok (.ireturn, 1) := by decide +kernel
theorem dX10_fires_0 : decode cX10_fires 0 = .ok (.iload_n 1, 1) := by decide +kernel
theorem dX10_fires_1 : decode cX10_fires 1 = .ok (.invokestatic 83, 3) := by decide +kernel
theorem dX10_fires_4 : decode cX10_fires 4 = .ok (.ifCond .eq 18, 3) := by decide +kernel
theorem dX10_fires_7 : decode cX10_fires 7 = .ok (.iload_n 2, 1) := by decide +kernel
theorem dX10_fires_8 : decode cX10_fires 8 = .ok (.iconst 1, 1) := by decide +kernel
theorem dX10_fires_9 : decode cX10_fires 9 = .ok (.if_icmp .lt 13, 3) := by decide +kernel
theorem dX10_fires_12 : decode cX10_fires 12 = .ok (.iload_n 2, 1) := by decide +kernel
theorem dX10_fires_13 : decode cX10_fires 13 = .ok (.iconst 3, 1) := by decide +kernel
theorem dX10_fires_14 : decode cX10_fires 14 = .ok (.if_icmp .gt 8, 3) := by decide +kernel
theorem dX10_fires_17 : decode cX10_fires 17 = .ok (.iload_n 3, 1) := by decide +kernel
theorem dX10_fires_18 : decode cX10_fires 18 = .ok (.iconst (-1), 1) := by decide +kernel
theorem dX10_fires_19 : decode cX10_fires 19 = .ok (.if_icmp .ge 5, 3) := by decide +kernel
theorem dX10_fires_22 : decode cX10_fires 22 = .ok (.iconst (-1), 1) := by decide +kernel
theorem dX10_fires_23 : decode cX10_fires 23 = .ok (.ireturn, 1) := by decide +kernel
theorem dX10_fires_24 : decode cX10_fires 24 = .ok (.aload_n 0, 1) := by decide +kernel
theorem dX10_fires_25 : decode cX10_fires 25 = .ok (.getfield 63, 3) := by decide +kernel
theorem dX10_fires_28 : decode cX10_fires 28 = .ok (.iload_n 1, 1) := by decide +kernel
theorem dX10_fires_29 : decode cX10_fires 29 = .ok (.aaload, 1) := by decide +kernel
theorem dX10_fires_30 : decode cX10_fires 30 = .ok (.invokevirtual 90, 3) := by decide +kernel
theorem dX10_fires_33 : decode cX10_fires 33 = .ok (.istore 4, 2) := by decide +kernel
theorem dX10_fires_35 : decode cX10_fires 35 = .ok (.iload 4, 2) := by decide +kernel
theorem dX10_fires_37 : decode cX10_fires 37 = .ok (.ifCond .ne 21, 3) := by decide +kernel
theorem dX10_fires_40 : decode cX10_fires 40 = .ok (.aload_n 0, 1) := by decide +kernel
theorem dX10_fires_41 : decode cX10_fires 41 = .ok (.getfield 33, 3) := by decide +kernel
theorem dX10_fires_44 : decode cX10_fires 44 = .ok (.aload_n 0, 1) := by decide +kernel
theorem dX10_fires_45 : decode cX10_fires 45 = .ok (.getfield 63, 3) := by decide +kernel
theorem dX10_fires_48 : decode cX10_fires 48 = .ok (.iload_n 1, 1) := by decide +kernel
theorem dX10_fires_49 : decode cX10_fires 49 = .ok (.aaload, 1) := by decide +kernel
theorem dX10_fires_50 : decode cX10_fires 50 = .ok (.iload_n 2, 1) := by decide +kernel
theorem dX10_fires_51 : decode cX10_fires 51 = .ok (.iload_n 3, 1) := by decide +kernel
theorem dX10_fires_52 : decode cX10_fires 52 = .ok (.invokevirtual 230, 3) := by decide +kernel
theorem dX10_fires_55 : decode cX10_fires 55 = .ok (.goto 5, 3) := by decide +kernel
theorem dX10_fires_58 : decode cX10_fires 58 = .ok (.iload 4, 2) := by decide +kernel
theorem dX10_fires_60 : decode cX10_fires 60 = .ok (.ireturn, 1) := by decide +kernel
theorem dX10_byTurns_0 : decode cX10_byTurns 0 = .ok (.iload_n 1, 1) := by decide +kernel
theorem dX10_byTurns_1 : decode cX10_byTurns 1 = .ok (.invokestatic 171, 3) := by decide +kernel
theorem dX10_byTurns_4 : decode cX10_byTurns 4 = .ok (.ifCond .eq 22, 3) := by decide +kernel
theorem dX10_byTurns_7 : decode cX10_byTurns 7 = .ok (.iload_n 2, 1) := by decide +kernel
theorem dX10_byTurns_8 : decode cX10_byTurns 8 = .ok (.iconst 1, 1) := by decide +kernel
theorem dX10_byTurns_9 : decode cX10_byTurns 9 = .ok (.if_icmp .lt 17, 3) := by decide +kernel
theorem dX10_byTurns_12 : decode cX10_byTurns 12 = .ok (.iload_n 2, 1) := by decide +kernel
theorem dX10_byTurns_13 : decode cX10_byTurns 13 = .ok (.iconst 3, 1) := by decide +kernel
theorem dX10_byTurns_14 : decode cX10_byTurns 14 = .ok (.if_icmp .gt 12, 3) := by decide +kernel
theorem dX10_byTurns_17 : decode cX10_byTurns 17 = .ok (.iload_n 3, 1) := by decide +kernel
theorem dX10_byTurns_18 : decode cX10_byTurns 18 = .ok (.ifCond .lt 8, 3) := by decide +kernel
theorem dX10_byTurns_21 : decode cX10_byTurns 21 = .ok (.iload_n 3, 1) := by decide +kernel
theorem dX10_byTurns_22 : decode cX10_byTurns 22 = .ok (.iconst 1, 1) := by decide +kernel
theorem dX10_byTurns_23 : decode cX10_byTurns 23 = .ok (.if_icmp .le 5, 3) := by decide +kernel
theorem dX10_byTurns_26 : decode cX10_byTurns 26 = .ok (.iconst (-1), 1) := by decide +kernel
theorem dX10_byTurns_27 : decode cX10_byTurns 27 = .ok (.ireturn, 1) := by decide +kernel
theorem dX10_byTurns_28 : decode cX10_byTurns 28 = .ok (.aload_n 0, 1) := by decide +kernel
theorem dX10_byTurns_29 : decode cX10_byTurns 29 = .ok (.iload_n 1, 1) := by decide +kernel
theorem dX10_byTurns_30 : decode cX10_byTurns 30 = .ok (.invokevirtual 174, 3) := by decide +kernel
theorem dX10_byTurns_33 : decode cX10_byTurns 33 = .ok (.istore 4, 2) := by decide +kernel
theorem dX10_byTurns_35 : decode cX10_byTurns 35 = .ok (.iload 4, 2) := by decide +kernel
theorem dX10_byTurns_37 : decode cX10_byTurns 37 = .ok (.ifCond .ne 24, 3) := by decide +kernel
theorem dX10_byTurns_40 : decode cX10_byTurns 40 = .ok (.aload_n 0, 1) := by decide +kernel
theorem dX10_byTurns_41 : decode cX10_byTurns 41 = .ok (.getfield 19, 3) := by decide +kernel
theorem dX10_byTurns_44 : decode cX10_byTurns 44 = .ok (.iload_n 2, 1) := by decide +kernel
theorem dX10_byTurns_45 : decode cX10_byTurns 45 = .ok (.iload_n 3, 1) := by decide +kernel
theorem dX10_byTurns_46 : decode cX10_byTurns 46 = .ok (.iconst 1, 1) := by decide +kernel
theorem dX10_byTurns_47 : decode cX10_byTurns 47 = .ok (.if_icmp .ne 7, 3) := by decide +kernel
theorem dX10_byTurns_50 : decode cX10_byTurns 50 = .ok (.iconst 1, 1) := by decide +kernel
theorem dX10_byTurns_51 : decode cX10_byTurns 51 = .ok (.goto 4, 3) := by decide +kernel
theorem dX10_byTurns_54 : decode cX10_byTurns 54 = .ok (.iconst 0, 1) := by decide +kernel
theorem dX10_byTurns_55 : decode cX10_byTurns 55 = .ok (.invokevirtual 234, 3) := by decide +kernel
theorem dX10_byTurns_58 : decode cX10_byTurns 58 = .ok (.goto 5, 3) := by decide +kernel
theorem dX10_byTurns_61 : decode cX10_byTurns 61 = .ok (.iload 4, 2) := by decide +kernel
theorem dX10_byTurns_63 : decode cX10_byTurns 63 = .ok (.ireturn, 1) := by decide +kernel
theorem dX10_drawn_0 : decode cX10_drawn 0 = .ok (.iload_n 2, 1) := by decide +kernel
theorem dX10_drawn_1 : decode cX10_drawn 1 = .ok (.bipush 100, 2) := by decide +kernel
theorem dX10_drawn_3 : decode cX10_drawn 3 = .ok (.idiv, 1) := by decide +kernel
theorem dX10_drawn_4 : decode cX10_drawn 4 = .ok (.iconst 1, 1) := by decide +kernel
theorem dX10_drawn_5 : decode cX10_drawn 5 = .ok (.if_icmp .lt 33, 3) := by decide +kernel
theorem dX10_drawn_8 : decode cX10_drawn 8 = .ok (.iload_n 2, 1) := by decide +kernel
theorem dX10_drawn_9 : decode cX10_drawn 9 = .ok (.bipush 100, 2) := by decide +kernel
theorem dX10_drawn_11 : decode cX10_drawn 11 = .ok (.idiv, 1) := by decide +kernel
theorem dX10_drawn_12 : decode cX10_drawn 12 = .ok (.bipush 30, 2) := by decide +kernel
theorem dX10_drawn_14 : decode cX10_drawn 14 = .ok (.if_icmp .gt 24, 3) := by decide +kernel
theorem dX10_drawn_17 : decode cX10_drawn 17 = .ok (.iload_n 2, 1) := by decide +kernel
theorem dX10_drawn_18 : decode cX10_drawn 18 = .ok (.bipush 100, 2) := by decide +kernel
theorem dX10_drawn_20 : decode cX10_drawn 20 = .ok (.irem, 1) := by decide +kernel
theorem dX10_drawn_21 : decode cX10_drawn 21 = .ok (.iconst 1, 1) := by decide +kernel
theorem dX10_drawn_22 : decode cX10_drawn 22 = .ok (.if_icmp .lt 16, 3) := by decide +kernel
theorem dX10_drawn_25 : decode cX10_drawn 25 = .ok (.iload_n 2, 1) := by decide +kernel
theorem dX10_drawn_26 : decode cX10_drawn 26 = .ok (.bipush 100, 2) := by decide +kernel
theorem dX10_drawn_28 : decode cX10_drawn 28 = .ok (.irem, 1) := by decide +kernel
theorem dX10_drawn_29 : decode cX10_drawn 29 = .ok (.bipush 40, 2) := by decide +kernel
theorem dX10_drawn_31 : decode cX10_drawn 31 = .ok (.if_icmp .gt 7, 3) := by decide +kernel
theorem dX10_drawn_34 : decode cX10_drawn 34 = .ok (.iconst 1, 1) := by decide +kernel
theorem dX10_drawn_35 : decode cX10_drawn 35 = .ok (.goto 4, 3) := by decide +kernel
theorem dX10_drawn_38 : decode cX10_drawn 38 = .ok (.iconst 0, 1) := by decide +kernel
theorem dX10_drawn_39 : decode cX10_drawn 39 = .ok (.istore 5, 2) := by decide +kernel
theorem dX10_drawn_41 : decode cX10_drawn 41 = .ok (.iload 5, 2) := by decide +kernel
theorem dX10_drawn_43 : decode cX10_drawn 43 = .ok (.ifCond .eq 21, 3) := by decide +kernel
theorem dX10_drawn_46 : decode cX10_drawn 46 = .ok (.iload_n 3, 1) := by decide +kernel
theorem dX10_drawn_47 : decode cX10_drawn 47 = .ok (.invokestatic 83, 3) := by decide +kernel
theorem dX10_drawn_50 : decode cX10_drawn 50 = .ok (.ifCond .eq 14, 3) := by decide +kernel
theorem dX10_drawn_53 : decode cX10_drawn 53 = .ok (.iload 4, 2) := by decide +kernel
theorem dX10_drawn_55 : decode cX10_drawn 55 = .ok (.ifCond .lt 9, 3) := by decide +kernel
theorem dX10_drawn_58 : decode cX10_drawn 58 = .ok (.iload 4, 2) := by decide +kernel
theorem dX10_drawn_60 : decode cX10_drawn 60 = .ok (.iconst 5, 1) := by decide +kernel
theorem dX10_drawn_61 : decode cX10_drawn 61 = .ok (.if_icmp .le 5, 3) := by decide +kernel
theorem dX10_drawn_64 : decode cX10_drawn 64 = .ok (.iconst (-1), 1) := by decide +kernel
theorem dX10_drawn_65 : decode cX10_drawn 65 = .ok (.ireturn, 1) := by decide +kernel
theorem dX10_drawn_66 : decode cX10_drawn 66 = .ok (.aload_n 0, 1) := by decide +kernel
theorem dX10_drawn_67 : decode cX10_drawn 67 = .ok (.iload_n 3, 1) := by decide +kernel
theorem dX10_drawn_68 : decode cX10_drawn 68 = .ok (.invokevirtual 165, 3) := by decide +kernel
theorem dX10_drawn_71 : decode cX10_drawn 71 = .ok (.istore 6, 2) := by decide +kernel
theorem dX10_drawn_73 : decode cX10_drawn 73 = .ok (.iload 6, 2) := by decide +kernel
theorem dX10_drawn_75 : decode cX10_drawn 75 = .ok (.ifCond .ne 24, 3) := by decide +kernel
theorem dX10_drawn_78 : decode cX10_drawn 78 = .ok (.aload_n 0, 1) := by decide +kernel
theorem dX10_drawn_79 : decode cX10_drawn 79 = .ok (.getfield 19, 3) := by decide +kernel
theorem dX10_drawn_82 : decode cX10_drawn 82 = .ok (.iload_n 1, 1) := by decide +kernel
theorem dX10_drawn_83 : decode cX10_drawn 83 = .ok (.iload_n 2, 1) := by decide +kernel
theorem dX10_drawn_84 : decode cX10_drawn 84 = .ok (.bipush 100, 2) := by decide +kernel
theorem dX10_drawn_86 : decode cX10_drawn 86 = .ok (.idiv, 1) := by decide +kernel
theorem dX10_drawn_87 : decode cX10_drawn 87 = .ok (.iload_n 2, 1) := by decide +kernel
theorem dX10_drawn_88 : decode cX10_drawn 88 = .ok (.bipush 100, 2) := by decide +kernel
theorem dX10_drawn_90 : decode cX10_drawn 90 = .ok (.irem, 1) := by decide +kernel
theorem dX10_drawn_91 : decode cX10_drawn 91 = .ok (.iload 4, 2) := by decide +kernel
theorem dX10_drawn_93 : decode cX10_drawn 93 = .ok (.invokevirtual 238, 3) := by decide +kernel
theorem dX10_drawn_96 : decode cX10_drawn 96 = .ok (.goto 5, 3) := by decide +kernel
theorem dX10_drawn_99 : decode cX10_drawn 99 = .ok (.iload 6, 2) := by decide +kernel
theorem dX10_drawn_101 : decode cX10_drawn 101 = .ok (.ireturn, 1) := by decide +kernel
theorem dX10_fact_0 : decode cX10_fact 0 = .ok (.iload_n 1, 1) := by decide +kernel
theorem dX10_fact_1 : decode cX10_fact 1 = .ok (.ifCond .lt 36, 3) := by decide +kernel
theorem dX10_fact_4 : decode cX10_fact 4 = .ok (.iload_n 1, 1) := by decide +kernel
theorem dX10_fact_5 : decode cX10_fact 5 = .ok (.iconst 3, 1) := by decide +kernel
theorem dX10_fact_6 : decode cX10_fact 6 = .ok (.if_icmp .gt 31, 3) := by decide +kernel
theorem dX10_fact_9 : decode cX10_fact 9 = .ok (.iload_n 2, 1) := by decide +kernel
theorem dX10_fact_10 : decode cX10_fact 10 = .ok (.ifCond .lt 27, 3) := by decide +kernel
theorem dX10_fact_13 : decode cX10_fact 13 = .ok (.aload_n 0, 1) := by decide +kernel
theorem dX10_fact_14 : decode cX10_fact 14 = .ok (.iload_n 2, 1) := by decide +kernel
theorem dX10_fact_15 : decode cX10_fact 15 = .ok (.bipush 100, 2) := by decide +kernel
theorem dX10_fact_17 : decode cX10_fact 17 = .ok (.idiv, 1) := by decide +kernel
theorem dX10_fact_18 : decode cX10_fact 18 = .ok (.invokevirtual 87, 3) := by decide +kernel
theorem dX10_fact_21 : decode cX10_fact 21 = .ok (.ifCond .eq 16, 3) := by decide +kernel
theorem dX10_fact_24 : decode cX10_fact 24 = .ok (.iload_n 2, 1) := by decide +kernel
theorem dX10_fact_25 : decode cX10_fact 25 = .ok (.bipush 10, 2) := by decide +kernel
theorem dX10_fact_27 : decode cX10_fact 27 = .ok (.idiv, 1) := by decide +kernel
theorem dX10_fact_28 : decode cX10_fact 28 = .ok (.bipush 10, 2) := by decide +kernel
theorem dX10_fact_30 : decode cX10_fact 30 = .ok (.irem, 1) := by decide +kernel
theorem dX10_fact_31 : decode cX10_fact 31 = .ok (.invokestatic 104, 3) := by decide +kernel
theorem dX10_fact_34 : decode cX10_fact 34 = .ok (.ifCond .ne 5, 3) := by decide +kernel
theorem dX10_fact_37 : decode cX10_fact 37 = .ok (.iconst (-1), 1) := by decide +kernel
theorem dX10_fact_38 : decode cX10_fact 38 = .ok (.ireturn, 1) := by decide +kernel
theorem dX10_fact_39 : decode cX10_fact 39 = .ok (.iload_n 2, 1) := by decide +kernel
theorem dX10_fact_40 : decode cX10_fact 40 = .ok (.bipush 100, 2) := by decide +kernel
theorem dX10_fact_42 : decode cX10_fact 42 = .ok (.idiv, 1) := by decide +kernel
theorem dX10_fact_43 : decode cX10_fact 43 = .ok (.istore_n 3, 1) := by decide +kernel
theorem dX10_fact_44 : decode cX10_fact 44 = .ok (.iload_n 2, 1) := by decide +kernel
theorem dX10_fact_45 : decode cX10_fact 45 = .ok (.bipush 10, 2) := by decide +kernel
theorem dX10_fact_47 : decode cX10_fact 47 = .ok (.irem, 1) := by decide +kernel
theorem dX10_fact_48 : decode cX10_fact 48 = .ok (.istore 4, 2) := by decide +kernel
theorem dX10_fact_50 : decode cX10_fact 50 = .ok (.iload_n 1, 1) := by decide +kernel
theorem dX10_fact_51 : decode cX10_fact 51 = .ok (.iconst 2, 1) := by decide +kernel
theorem dX10_fact_52 : decode cX10_fact 52 = .ok (.if_icmp .ne 21, 3) := by decide +kernel
theorem dX10_fact_55 : decode cX10_fact 55 = .ok (.aload_n 0, 1) := by decide +kernel
theorem dX10_fact_56 : decode cX10_fact 56 = .ok (.iload 4, 2) := by decide +kernel
theorem dX10_fact_58 : decode cX10_fact 58 = .ok (.invokevirtual 87, 3) := by decide +kernel
theorem dX10_fact_61 : decode cX10_fact 61 = .ok (.ifCond .eq 17, 3) := by decide +kernel
theorem dX10_fact_64 : decode cX10_fact 64 = .ok (.iload 4, 2) := by decide +kernel
theorem dX10_fact_66 : decode cX10_fact 66 = .ok (.iload_n 3, 1) := by decide +kernel
theorem dX10_fact_67 : decode cX10_fact 67 = .ok (.if_icmp .ne 13, 3) := by decide +kernel
theorem dX10_fact_70 : decode cX10_fact 70 = .ok (.goto 8, 3) := by decide +kernel
theorem dX10_fact_73 : decode cX10_fact 73 = .ok (.iload 4, 2) := by decide +kernel
theorem dX10_fact_75 : decode cX10_fact 75 = .ok (.ifCond .eq 5, 3) := by decide +kernel
theorem dX10_fact_78 : decode cX10_fact 78 = .ok (.iconst (-1), 1) := by decide +kernel
theorem dX10_fact_79 : decode cX10_fact 79 = .ok (.ireturn, 1) := by decide +kernel
theorem dX10_fact_80 : decode cX10_fact 80 = .ok (.iload_n 3, 1) := by decide +kernel
theorem dX10_fact_81 : decode cX10_fact 81 = .ok (.iload_n 2, 1) := by decide +kernel
theorem dX10_fact_82 : decode cX10_fact 82 = .ok (.bipush 10, 2) := by decide +kernel
theorem dX10_fact_84 : decode cX10_fact 84 = .ok (.idiv, 1) := by decide +kernel
theorem dX10_fact_85 : decode cX10_fact 85 = .ok (.bipush 10, 2) := by decide +kernel
theorem dX10_fact_87 : decode cX10_fact 87 = .ok (.irem, 1) := by decide +kernel
theorem dX10_fact_88 : decode cX10_fact 88 = .ok (.invokestatic 110, 3) := by decide +kernel
theorem dX10_fact_91 : decode cX10_fact 91 = .ok (.istore 5, 2) := by decide +kernel
theorem dX10_fact_93 : decode cX10_fact 93 = .ok (.iload_n 1, 1) := by decide +kernel
theorem dX10_fact_94 : decode cX10_fact 94 = .ok (.iconst 2, 1) := by decide +kernel
theorem dX10_fact_95 : decode cX10_fact 95 = .ok (.if_icmp .ne 8, 3) := by decide +kernel
theorem dX10_fact_98 : decode cX10_fact 98 = .ok (.iload 4, 2) := by decide +kernel
theorem dX10_fact_100 : decode cX10_fact 100 = .ok (.goto 4, 3) := by decide +kernel
theorem dX10_fact_103 : decode cX10_fact 103 = .ok (.iload_n 3, 1) := by decide +kernel
theorem dX10_fact_104 : decode cX10_fact 104 = .ok (.iload_n 2, 1) := by decide +kernel
theorem dX10_fact_105 : decode cX10_fact 105 = .ok (.bipush 10, 2) := by decide +kernel
theorem dX10_fact_107 : decode cX10_fact 107 = .ok (.idiv, 1) := by decide +kernel
theorem dX10_fact_108 : decode cX10_fact 108 = .ok (.bipush 10, 2) := by decide +kernel
theorem dX10_fact_110 : decode cX10_fact 110 = .ok (.irem, 1) := by decide +kernel
theorem dX10_fact_111 : decode cX10_fact 111 = .ok (.invokestatic 110, 3) := by decide +kernel
theorem dX10_fact_114 : decode cX10_fact 114 = .ok (.istore 6, 2) := by decide +kernel
theorem dX10_fact_116 : decode cX10_fact 116 = .ok (.iload_n 1, 1) := by decide +kernel
theorem dX10_fact_117 : decode cX10_fact 117 = .ok (.iconst 3, 1) := by decide +kernel
theorem dX10_fact_118 : decode cX10_fact 118 = .ok (.if_icmp .eq 7, 3) := by decide +kernel
theorem dX10_fact_121 : decode cX10_fact 121 = .ok (.iconst 1, 1) := by decide +kernel
theorem dX10_fact_122 : decode cX10_fact 122 = .ok (.goto 4, 3) := by decide +kernel
theorem dX10_fact_125 : decode cX10_fact 125 = .ok (.iconst 0, 1) := by decide +kernel
theorem dX10_fact_126 : decode cX10_fact 126 = .ok (.istore 7, 2) := by decide +kernel
theorem dX10_fact_128 : decode cX10_fact 128 = .ok (.iload_n 1, 1) := by decide +kernel
theorem dX10_fact_129 : decode cX10_fact 129 = .ok (.iconst 2, 1) := by decide +kernel
theorem dX10_fact_130 : decode cX10_fact 130 = .ok (.if_icmp .eq 8, 3) := by decide +kernel
theorem dX10_fact_133 : decode cX10_fact 133 = .ok (.iload_n 1, 1) := by decide +kernel
theorem dX10_fact_134 : decode cX10_fact 134 = .ok (.iconst 3, 1) := by decide +kernel
theorem dX10_fact_135 : decode cX10_fact 135 = .ok (.if_icmp .ne 7, 3) := by decide +kernel
theorem dX10_fact_138 : decode cX10_fact 138 = .ok (.iconst 1, 1) := by decide +kernel
theorem dX10_fact_139 : decode cX10_fact 139 = .ok (.goto 4, 3) := by decide +kernel
theorem dX10_fact_142 : decode cX10_fact 142 = .ok (.iconst 0, 1) := by decide +kernel
theorem dX10_fact_143 : decode cX10_fact 143 = .ok (.istore 8, 2) := by decide +kernel
theorem dX10_fact_145 : decode cX10_fact 145 = .ok (.iload 7, 2) := by decide +kernel
theorem dX10_fact_147 : decode cX10_fact 147 = .ok (.ifCond .eq 16, 3) := by decide +kernel
theorem dX10_fact_150 : decode cX10_fact 150 = .ok (.aload_n 0, 1) := by decide +kernel
theorem dX10_fact_151 : decode cX10_fact 151 = .ok (.getfield 40, 3) := by decide +kernel
theorem dX10_fact_154 : decode cX10_fact 154 = .ok (.getfield 107, 3) := by decide +kernel
theorem dX10_fact_157 : decode cX10_fact 157 = .ok (.iload 5, 2) := by decide +kernel
theorem dX10_fact_159 : decode cX10_fact 159 = .ok (.iaload, 1) := by decide +kernel
theorem dX10_fact_160 : decode cX10_fact 160 = .ok (.ifCond .eq 23, 3) := by decide +kernel
theorem dX10_fact_163 : decode cX10_fact 163 = .ok (.iload 8, 2) := by decide +kernel
theorem dX10_fact_165 : decode cX10_fact 165 = .ok (.ifCond .eq 21, 3) := by decide +kernel
theorem dX10_fact_168 : decode cX10_fact 168 = .ok (.aload_n 0, 1) := by decide +kernel
theorem dX10_fact_169 : decode cX10_fact 169 = .ok (.getfield 40, 3) := by decide +kernel
theorem dX10_fact_172 : decode cX10_fact 172 = .ok (.getfield 107, 3) := by decide +kernel
theorem dX10_fact_175 : decode cX10_fact 175 = .ok (.iload 6, 2) := by decide +kernel
theorem dX10_fact_177 : decode cX10_fact 177 = .ok (.iaload, 1) := by decide +kernel
theorem dX10_fact_178 : decode cX10_fact 178 = .ok (.bipush 9, 2) := by decide +kernel
theorem dX10_fact_180 : decode cX10_fact 180 = .ok (.if_icmp .lt 6, 3) := by decide +kernel
theorem dX10_fact_183 : decode cX10_fact 183 = .ok (.bipush (-5), 2) := by decide +kernel
theorem dX10_fact_185 : decode cX10_fact 185 = .ok (.ireturn, 1) := by decide +kernel
theorem dX10_fact_186 : decode cX10_fact 186 = .ok (.iload 7, 2) := by decide +kernel
theorem dX10_fact_188 : decode cX10_fact 188 = .ok (.ifCond .eq 35, 3) := by decide +kernel
theorem dX10_fact_191 : decode cX10_fact 191 = .ok (.aload_n 0, 1) := by decide +kernel
theorem dX10_fact_192 : decode cX10_fact 192 = .ok (.getfield 40, 3) := by decide +kernel
theorem dX10_fact_195 : decode cX10_fact 195 = .ok (.getfield 107, 3) := by decide +kernel
theorem dX10_fact_198 : decode cX10_fact 198 = .ok (.iload 5, 2) := by decide +kernel
theorem dX10_fact_200 : decode cX10_fact 200 = .ok (.dup2, 1) := by decide +kernel
theorem dX10_fact_201 : decode cX10_fact 201 = .ok (.iaload, 1) := by decide +kernel
theorem dX10_fact_202 : decode cX10_fact 202 = .ok (.iload_n 1, 1) := by decide +kernel
theorem dX10_fact_203 : decode cX10_fact 203 = .ok (.iconst 1, 1) := by decide +kernel
theorem dX10_fact_204 : decode cX10_fact 204 = .ok (.if_icmp .ne 16, 3) := by decide +kernel
theorem dX10_fact_207 : decode cX10_fact 207 = .ok (.aload_n 0, 1) := by decide +kernel
theorem dX10_fact_208 : decode cX10_fact 208 = .ok (.getfield 40, 3) := by decide +kernel
theorem dX10_fact_211 : decode cX10_fact 211 = .ok (.getfield 107, 3) := by decide +kernel
theorem dX10_fact_214 : decode cX10_fact 214 = .ok (.iload 5, 2) := by decide +kernel
theorem dX10_fact_216 : decode cX10_fact 216 = .ok (.iaload, 1) := by decide +kernel
theorem dX10_fact_217 : decode cX10_fact 217 = .ok (.goto 4, 3) := by decide +kernel
theorem dX10_fact_220 : decode cX10_fact 220 = .ok (.iconst 1, 1) := by decide +kernel
theorem dX10_fact_221 : decode cX10_fact 221 = .ok (.isub, 1) := by decide +kernel
theorem dX10_fact_222 : decode cX10_fact 222 = .ok (.iastore, 1) := by decide +kernel
theorem dX10_fact_223 : decode cX10_fact 223 = .ok (.iload 8, 2) := by decide +kernel
theorem dX10_fact_225 : decode cX10_fact 225 = .ok (.ifCond .eq 17, 3) := by decide +kernel
theorem dX10_fact_228 : decode cX10_fact 228 = .ok (.aload_n 0, 1) := by decide +kernel
theorem dX10_fact_229 : decode cX10_fact 229 = .ok (.getfield 40, 3) := by decide +kernel
theorem dX10_fact_232 : decode cX10_fact 232 = .ok (.getfield 107, 3) := by decide +kernel
theorem dX10_fact_235 : decode cX10_fact 235 = .ok (.iload 6, 2) := by decide +kernel
theorem dX10_fact_237 : decode cX10_fact 237 = .ok (.dup2, 1) := by decide +kernel
theorem dX10_fact_238 : decode cX10_fact 238 = .ok (.iaload, 1) := by decide +kernel
theorem dX10_fact_239 : decode cX10_fact 239 = .ok (.iconst 1, 1) := by decide +kernel
theorem dX10_fact_240 : decode cX10_fact 240 = .ok (.iadd, 1) := by decide +kernel
theorem dX10_fact_241 : decode cX10_fact 241 = .ok (.iastore, 1) := by decide +kernel
theorem dX10_fact_242 : decode cX10_fact 242 = .ok (.aload_n 0, 1) := by decide +kernel
theorem dX10_fact_243 : decode cX10_fact 243 = .ok (.getfield 40, 3) := by decide +kernel
theorem dX10_fact_246 : decode cX10_fact 246 = .ok (.getfield 242, 3) := by decide +kernel
theorem dX10_fact_249 : decode cX10_fact 249 = .ok (.iconst 0, 1) := by decide +kernel
theorem dX10_fact_250 : decode cX10_fact 250 = .ok (.dup2, 1) := by decide +kernel
theorem dX10_fact_251 : decode cX10_fact 251 = .ok (.iaload, 1) := by decide +kernel
theorem dX10_fact_252 : decode cX10_fact 252 = .ok (.iconst 1, 1) := by decide +kernel
theorem dX10_fact_253 : decode cX10_fact 253 = .ok (.iadd, 1) := by decide +kernel
theorem dX10_fact_254 : decode cX10_fact 254 = .ok (.iastore, 1) := by decide +kernel
theorem dX10_fact_255 : decode cX10_fact 255 = .ok (.aload_n 0, 1) := by decide +kernel
theorem dX10_fact_256 : decode cX10_fact 256 = .ok (.getfield 40, 3) := by decide +kernel
theorem dX10_fact_259 : decode cX10_fact 259 = .ok (.getfield 107, 3) := by decide +kernel
theorem dX10_fact_262 : decode cX10_fact 262 = .ok (.iload 5, 2) := by decide +kernel
theorem dX10_fact_264 : decode cX10_fact 264 = .ok (.iaload, 1) := by decide +kernel
theorem dX10_fact_265 : decode cX10_fact 265 = .ok (.ireturn, 1) := by decide +kernel
theorem dX10_pot_0 : decode cX10_pot 0 = .ok (.iload_n 1, 1) := by decide +kernel
theorem dX10_pot_1 : decode cX10_pot 1 = .ok (.invokestatic 83, 3) := by decide +kernel
theorem dX10_pot_4 : decode cX10_pot 4 = .ok (.ifCond .eq 11, 3) := by decide +kernel
theorem dX10_pot_7 : decode cX10_pot 7 = .ok (.aload_n 0, 1) := by decide +kernel
theorem dX10_pot_8 : decode cX10_pot 8 = .ok (.iload_n 2, 1) := by decide +kernel
theorem dX10_pot_9 : decode cX10_pot 9 = .ok (.invokevirtual 87, 3) := by decide +kernel
theorem dX10_pot_12 : decode cX10_pot 12 = .ok (.ifCond .ne 5, 3) := by decide +kernel
theorem dX10_pot_15 : decode cX10_pot 15 = .ok (.iconst (-1), 1) := by decide +kernel
theorem dX10_pot_16 : decode cX10_pot 16 = .ok (.ireturn, 1) := by decide +kernel
theorem dX10_pot_17 : decode cX10_pot 17 = .ok (.aload_n 0, 1) := by decide +kernel
theorem dX10_pot_18 : decode cX10_pot 18 = .ok (.iload_n 1, 1) := by decide +kernel
theorem dX10_pot_19 : decode cX10_pot 19 = .ok (.invokevirtual 165, 3) := by decide +kernel
theorem dX10_pot_22 : decode cX10_pot 22 = .ok (.istore_n 3, 1) := by decide +kernel
theorem dX10_pot_23 : decode cX10_pot 23 = .ok (.iload_n 3, 1) := by decide +kernel
theorem dX10_pot_24 : decode cX10_pot 24 = .ok (.ifCond .eq 5, 3) := by decide +kernel
theorem dX10_pot_27 : decode cX10_pot 27 = .ok (.iload_n 3, 1) := by decide +kernel
theorem dX10_pot_28 : decode cX10_pot 28 = .ok (.ireturn, 1) := by decide +kernel
theorem dX10_pot_29 : decode cX10_pot 29 = .ok (.aload_n 0, 1) := by decide +kernel
theorem dX10_pot_30 : decode cX10_pot 30 = .ok (.iload_n 2, 1) := by decide +kernel
theorem dX10_pot_31 : decode cX10_pot 31 = .ok (.invokevirtual 227, 3) := by decide +kernel
theorem dX10_pot_34 : decode cX10_pot 34 = .ok (.ifCond .ne 6, 3) := by decide +kernel
theorem dX10_pot_37 : decode cX10_pot 37 = .ok (.bipush (-5), 2) := by decide +kernel
theorem dX10_pot_39 : decode cX10_pot 39 = .ok (.ireturn, 1) := by decide +kernel
theorem dX10_pot_40 : decode cX10_pot 40 = .ok (.iconst 0, 1) := by decide +kernel
theorem dX10_pot_41 : decode cX10_pot 41 = .ok (.istore 4, 2) := by decide +kernel
theorem dX10_pot_43 : decode cX10_pot 43 = .ok (.iload 4, 2) := by decide +kernel
theorem dX10_pot_45 : decode cX10_pot 45 = .ok (.bipush 8, 2) := by decide +kernel
theorem dX10_pot_47 : decode cX10_pot 47 = .ok (.if_icmp .ge 36, 3) := by decide +kernel
theorem dX10_pot_50 : decode cX10_pot 50 = .ok (.aload_n 0, 1) := by decide +kernel
theorem dX10_pot_51 : decode cX10_pot 51 = .ok (.getfield 40, 3) := by decide +kernel
theorem dX10_pot_54 : decode cX10_pot 54 = .ok (.getfield 107, 3) := by decide +kernel
theorem dX10_pot_57 : decode cX10_pot 57 = .ok (.iload_n 2, 1) := by decide +kernel
theorem dX10_pot_58 : decode cX10_pot 58 = .ok (.iload 4, 2) := by decide +kernel
theorem dX10_pot_60 : decode cX10_pot 60 = .ok (.invokestatic 110, 3) := by decide +kernel
theorem dX10_pot_63 : decode cX10_pot 63 = .ok (.dup2, 1) := by decide +kernel
theorem dX10_pot_64 : decode cX10_pot 64 = .ok (.iaload, 1) := by decide +kernel
theorem dX10_pot_65 : decode cX10_pot 65 = .ok (.aload_n 0, 1) := by decide +kernel
theorem dX10_pot_66 : decode cX10_pot 66 = .ok (.getfield 19, 3) := by decide +kernel
theorem dX10_pot_69 : decode cX10_pot 69 = .ok (.invokevirtual 220, 3) := by decide +kernel
theorem dX10_pot_72 : decode cX10_pot 72 = .ok (.iload 4, 2) := by decide +kernel
theorem dX10_pot_74 : decode cX10_pot 74 = .ok (.iaload, 1) := by decide +kernel
theorem dX10_pot_75 : decode cX10_pot 75 = .ok (.isub, 1) := by decide +kernel
theorem dX10_pot_76 : decode cX10_pot 76 = .ok (.iastore, 1) := by decide +kernel
theorem dX10_pot_77 : decode cX10_pot 77 = .ok (.iinc 4 1, 3) := by decide +kernel
theorem dX10_pot_80 : decode cX10_pot 80 = .ok (.goto (-37), 3) := by decide +kernel
theorem dX10_pot_83 : decode cX10_pot 83 = .ok (.aload_n 0, 1) := by decide +kernel
theorem dX10_pot_84 : decode cX10_pot 84 = .ok (.getfield 40, 3) := by decide +kernel
theorem dX10_pot_87 : decode cX10_pot 87 = .ok (.getfield 245, 3) := by decide +kernel
theorem dX10_pot_90 : decode cX10_pot 90 = .ok (.aload_n 0, 1) := by decide +kernel
theorem dX10_pot_91 : decode cX10_pot 91 = .ok (.getfield 19, 3) := by decide +kernel
theorem dX10_pot_94 : decode cX10_pot 94 = .ok (.invokevirtual 220, 3) := by decide +kernel
theorem dX10_pot_97 : decode cX10_pot 97 = .ok (.invokevirtual 249, 3) := by decide +kernel
theorem dX10_pot_100 : decode cX10_pot 100 = .ok (.aload_n 0, 1) := by decide +kernel
theorem dX10_pot_101 : decode cX10_pot 101 = .ok (.getfield 40, 3) := by decide +kernel
theorem dX10_pot_104 : decode cX10_pot 104 = .ok (.iconst 1, 1) := by decide +kernel
theorem dX10_pot_105 : decode cX10_pot 105 = .ok (.putfield 255, 3) := by decide +kernel
theorem dX10_pot_108 : decode cX10_pot 108 = .ok (.aload_n 0, 1) := by decide +kernel
theorem dX10_pot_109 : decode cX10_pot 109 = .ok (.getfield 40, 3) := by decide +kernel
theorem dX10_pot_112 : decode cX10_pot 112 = .ok (.getfield 242, 3) := by decide +kernel
theorem dX10_pot_115 : decode cX10_pot 115 = .ok (.iconst 1, 1) := by decide +kernel
theorem dX10_pot_116 : decode cX10_pot 116 = .ok (.dup2, 1) := by decide +kernel
theorem dX10_pot_117 : decode cX10_pot 117 = .ok (.iaload, 1) := by decide +kernel
theorem dX10_pot_118 : decode cX10_pot 118 = .ok (.iconst 1, 1) := by decide +kernel
theorem dX10_pot_119 : decode cX10_pot 119 = .ok (.iadd, 1) := by decide +kernel
theorem dX10_pot_120 : decode cX10_pot 120 = .ok (.iastore, 1) := by decide +kernel
theorem dX10_pot_121 : decode cX10_pot 121 = .ok (.aload_n 0, 1) := by decide +kernel
theorem dX10_pot_122 : decode cX10_pot 122 = .ok (.getfield 40, 3) := by decide +kernel
theorem dX10_pot_125 : decode cX10_pot 125 = .ok (.getfield 245, 3) := by decide +kernel
theorem dX10_pot_128 : decode cX10_pot 128 = .ok (.invokevirtual 259, 3) := by decide +kernel
theorem dX10_pot_131 : decode cX10_pot 131 = .ok (.ireturn, 1) := by decide +kernel
theorem dX10_minute_0 : decode cX10_minute 0 = .ok (.aload_n 0, 1) := by decide +kernel
theorem dX10_minute_1 : decode cX10_minute 1 = .ok (.getfield 40, 3) := by decide +kernel
theorem dX10_minute_4 : decode cX10_minute 4 = .ok (.getfield 255, 3) := by decide +kernel
