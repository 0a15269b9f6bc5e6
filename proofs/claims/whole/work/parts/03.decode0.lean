theorem dX0_init_0 : decode cX0_init 0 = .ok (.aload_n 0, 1) := by decide +kernel
theorem dX0_init_1 : decode cX0_init 1 = .ok (.invokespecial 1, 3) := by decide +kernel
theorem dX0_init_4 : decode cX0_init 4 = .ok (.aload_n 0, 1) := by decide +kernel
theorem dX0_init_5 : decode cX0_init 5 = .ok (.bipush 40, 2) := by decide +kernel
theorem dX0_init_7 : decode cX0_init 7 = .ok (.newarray .int, 2) := by decide +kernel
theorem dX0_init_9 : decode cX0_init 9 = .ok (.putfield 9, 3) := by decide +kernel
theorem dX0_init_12 : decode cX0_init 12 = .ok (.aload_n 0, 1) := by decide +kernel
theorem dX0_init_13 : decode cX0_init 13 = .ok (.bipush 40, 2) := by decide +kernel
theorem dX0_init_15 : decode cX0_init 15 = .ok (.newarray .int, 2) := by decide +kernel
theorem dX0_init_17 : decode cX0_init 17 = .ok (.putfield 13, 3) := by decide +kernel
theorem dX0_init_20 : decode cX0_init 20 = .ok (.aload_n 0, 1) := by decide +kernel
theorem dX0_init_21 : decode cX0_init 21 = .ok (.bipush 40, 2) := by decide +kernel
theorem dX0_init_23 : decode cX0_init 23 = .ok (.newarray .int, 2) := by decide +kernel
theorem dX0_init_25 : decode cX0_init 25 = .ok (.putfield 16, 3) := by decide +kernel
theorem dX0_init_28 : decode cX0_init 28 = .ok (.aload_n 0, 1) := by decide +kernel
theorem dX0_init_29 : decode cX0_init 29 = .ok (.bipush 40, 2) := by decide +kernel
theorem dX0_init_31 : decode cX0_init 31 = .ok (.newarray .int, 2) := by decide +kernel
theorem dX0_init_33 : decode cX0_init 33 = .ok (.putfield 19, 3) := by decide +kernel
theorem dX0_init_36 : decode cX0_init 36 = .ok (.return_, 1) := by decide +kernel
theorem dX0_come_0 : decode cX0_come 0 = .ok (.aload_n 0, 1) := by decide +kernel
theorem dX0_come_1 : decode cX0_come 1 = .ok (.getfield 22, 3) := by decide +kernel
theorem dX0_come_4 : decode cX0_come 4 = .ok (.bipush 40, 2) := by decide +kernel
theorem dX0_come_6 : decode cX0_come 6 = .ok (.if_icmp .lt 7, 3) := by decide +kernel
theorem dX0_come_9 : decode cX0_come 9 = .ok (.aload_n 0, 1) := by decide +kernel
theorem dX0_come_10 : decode cX0_come 10 = .ok (.invokevirtual 26, 3) := by decide +kernel
theorem dX0_come_13 : decode cX0_come 13 = .ok (.aload_n 0, 1) := by decide +kernel
theorem dX0_come_14 : decode cX0_come 14 = .ok (.getfield 9, 3) := by decide +kernel
theorem dX0_come_17 : decode cX0_come 17 = .ok (.aload_n 0, 1) := by decide +kernel
theorem dX0_come_18 : decode cX0_come 18 = .ok (.getfield 22, 3) := by decide +kernel
theorem dX0_come_21 : decode cX0_come 21 = .ok (.iload_n 1, 1) := by decide +kernel
theorem dX0_come_22 : decode cX0_come 22 = .ok (.iastore, 1) := by decide +kernel
theorem dX0_come_23 : decode cX0_come 23 = .ok (.aload_n 0, 1) := by decide +kernel
theorem dX0_come_24 : decode cX0_come 24 = .ok (.getfield 13, 3) := by decide +kernel
theorem dX0_come_27 : decode cX0_come 27 = .ok (.aload_n 0, 1) := by decide +kernel
theorem dX0_come_28 : decode cX0_come 28 = .ok (.getfield 22, 3) := by decide +kernel
theorem dX0_come_31 : decode cX0_come 31 = .ok (.iload_n 2, 1) := by decide +kernel
theorem dX0_come_32 : decode cX0_come 32 = .ok (.iastore, 1) := by decide +kernel
theorem dX0_come_33 : decode cX0_come 33 = .ok (.aload_n 0, 1) := by decide +kernel
theorem dX0_come_34 : decode cX0_come 34 = .ok (.getfield 16, 3) := by decide +kernel
theorem dX0_come_37 : decode cX0_come 37 = .ok (.aload_n 0, 1) := by decide +kernel
theorem dX0_come_38 : decode cX0_come 38 = .ok (.getfield 22, 3) := by decide +kernel
theorem dX0_come_41 : decode cX0_come 41 = .ok (.iload_n 3, 1) := by decide +kernel
theorem dX0_come_42 : decode cX0_come 42 = .ok (.iastore, 1) := by decide +kernel
theorem dX0_come_43 : decode cX0_come 43 = .ok (.aload_n 0, 1) := by decide +kernel
theorem dX0_come_44 : decode cX0_come 44 = .ok (.getfield 19, 3) := by decide +kernel
theorem dX0_come_47 : decode cX0_come 47 = .ok (.aload_n 0, 1) := by decide +kernel
theorem dX0_come_48 : decode cX0_come 48 = .ok (.getfield 22, 3) := by decide +kernel
theorem dX0_come_51 : decode cX0_come 51 = .ok (.iload 4, 2) := by decide +kernel
theorem dX0_come_53 : decode cX0_come 53 = .ok (.iastore, 1) := by decide +kernel
theorem dX0_come_54 : decode cX0_come 54 = .ok (.aload_n 0, 1) := by decide +kernel
theorem dX0_come_55 : decode cX0_come 55 = .ok (.dup, 1) := by decide +kernel
theorem dX0_come_56 : decode cX0_come 56 = .ok (.getfield 22, 3) := by decide +kernel
theorem dX0_come_59 : decode cX0_come 59 = .ok (.iconst 1, 1) := by decide +kernel
theorem dX0_come_60 : decode cX0_come 60 = .ok (.iadd, 1) := by decide +kernel
theorem dX0_come_61 : decode cX0_come 61 = .ok (.putfield 22, 3) := by decide +kernel
theorem dX0_come_64 : decode cX0_come 64 = .ok (.aload_n 0, 1) := by decide +kernel
theorem dX0_come_65 : decode cX0_come 65 = .ok (.aload_n 0, 1) := by decide +kernel
theorem dX0_come_66 : decode cX0_come 66 = .ok (.getfield 22, 3) := by decide +kernel
theorem dX0_come_69 : decode cX0_come 69 = .ok (.putfield 29, 3) := by decide +kernel
theorem dX0_come_72 : decode cX0_come 72 = .ok (.return_, 1) := by decide +kernel
theorem dX0_forgetFirst_0 : decode cX0_forgetFirst 0 = .ok (.aload_n 0, 1) := by decide +kernel
theorem dX0_forgetFirst_1 : decode cX0_forgetFirst 1 = .ok (.getfield 9, 3) := by decide +kernel
theorem dX0_forgetFirst_4 : decode cX0_forgetFirst 4 = .ok (.iconst 1, 1) := by decide +kernel
theorem dX0_forgetFirst_5 : decode cX0_forgetFirst 5 = .ok (.aload_n 0, 1) := by decide +kernel
theorem dX0_forgetFirst_6 : decode cX0_forgetFirst 6 = .ok (.getfield 9, 3) := by decide +kernel
theorem dX0_forgetFirst_9 : decode cX0_forgetFirst 9 = .ok (.iconst 0, 1) := by decide +kernel
theorem dX0_forgetFirst_10 : decode cX0_forgetFirst 10 = .ok (.bipush 39, 2) := by decide +kernel
theorem dX0_forgetFirst_12 : decode cX0_forgetFirst 12 = .ok (.invokestatic 32, 3) := by decide +kernel
theorem dX0_forgetFirst_15 : decode cX0_forgetFirst 15 = .ok (.aload_n 0, 1) := by decide +kernel
theorem dX0_forgetFirst_16 : decode cX0_forgetFirst 16 = .ok (.getfield 13, 3) := by decide +kernel
theorem dX0_forgetFirst_19 : decode cX0_forgetFirst 19 = .ok (.iconst 1, 1) := by decide +kernel
theorem dX0_forgetFirst_20 : decode cX0_forgetFirst 20 = .ok (.aload_n 0, 1) := by decide +kernel
theorem dX0_forgetFirst_21 : decode cX0_forgetFirst 21 = .ok (.getfield 13, 3) := by decide +kernel
theorem dX0_forgetFirst_24 : decode cX0_forgetFirst 24 = .ok (.iconst 0, 1) := by decide +kernel
theorem dX0_forgetFirst_25 : decode cX0_forgetFirst 25 = .ok (.bipush 39, 2) := by decide +kernel
theorem dX0_forgetFirst_27 : decode cX0_forgetFirst 27 = .ok (.invokestatic 32, 3) := by decide +kernel
theorem dX0_forgetFirst_30 : decode cX0_forgetFirst 30 = .ok (.aload_n 0, 1) := by decide +kernel
theorem dX0_forgetFirst_31 : decode cX0_forgetFirst 31 = .ok (.getfield 16, 3) := by decide +kernel
theorem dX0_forgetFirst_34 : decode cX0_forgetFirst 34 = .ok (.iconst 1, 1) := by decide +kernel
theorem dX0_forgetFirst_35 : decode cX0_forgetFirst 35 = .ok (.aload_n 0, 1) := by decide +kernel
theorem dX0_forgetFirst_36 : decode cX0_forgetFirst 36 = .ok (.getfield 16, 3) := by decide +kernel
theorem dX0_forgetFirst_39 : decode cX0_forgetFirst 39 = .ok (.iconst 0, 1) := by decide +kernel
theorem dX0_forgetFirst_40 : decode cX0_forgetFirst 40 = .ok (.bipush 39, 2) := by decide +kernel
theorem dX0_forgetFirst_42 : decode cX0_forgetFirst 42 = .ok (.invokestatic 32, 3) := by decide +kernel
theorem dX0_forgetFirst_45 : decode cX0_forgetFirst 45 = .ok (.aload_n 0, 1) := by decide +kernel
theorem dX0_forgetFirst_46 : decode cX0_forgetFirst 46 = .ok (.getfield 19, 3) := by decide +kernel
theorem dX0_forgetFirst_49 : decode cX0_forgetFirst 49 = .ok (.iconst 1, 1) := by decide +kernel
theorem dX0_forgetFirst_50 : decode cX0_forgetFirst 50 = .ok (.aload_n 0, 1) := by decide +kernel
theorem dX0_forgetFirst_51 : decode cX0_forgetFirst 51 = .ok (.getfield 19, 3) := by decide +kernel
theorem dX0_forgetFirst_54 : decode cX0_forgetFirst 54 = .ok (.iconst 0, 1) := by decide +kernel
theorem dX0_forgetFirst_55 : decode cX0_forgetFirst 55 = .ok (.bipush 39, 2) := by decide +kernel
theorem dX0_forgetFirst_57 : decode cX0_forgetFirst 57 = .ok (.invokestatic 32, 3) := by decide +kernel
theorem dX0_forgetFirst_60 : decode cX0_forgetFirst 60 = .ok (.aload_n 0, 1) := by decide +kernel
theorem dX0_forgetFirst_61 : decode cX0_forgetFirst 61 = .ok (.bipush 39, 2) := by decide +kernel
theorem dX0_forgetFirst_63 : decode cX0_forgetFirst 63 = .ok (.putfield 22, 3) := by decide +kernel
theorem dX0_forgetFirst_66 : decode cX0_forgetFirst 66 = .ok (.return_, 1) := by decide +kernel
theorem dX1_init_0 : decode cX1_init 0 = .ok (.aload_n 0, 1) := by decide +kernel
theorem dX1_init_1 : decode cX1_init 1 = .ok (.invokespecial 3, 3) := by decide +kernel
theorem dX1_init_4 : decode cX1_init 4 = .ok (.aload_n 0, 1) := by decide +kernel
theorem dX1_init_5 : decode cX1_init 5 = .ok (.bipush 8, 2) := by decide +kernel
theorem dX1_init_7 : decode cX1_init 7 = .ok (.newarray .int, 2) := by decide +kernel
theorem dX1_init_9 : decode cX1_init 9 = .ok (.putfield 11, 3) := by decide +kernel
theorem dX1_init_12 : decode cX1_init 12 = .ok (.aload_n 0, 1) := by decide +kernel
theorem dX1_init_13 : decode cX1_init 13 = .ok (.iconst 3, 1) := by decide +kernel
theorem dX1_init_14 : decode cX1_init 14 = .ok (.newarray .int, 2) := by decide +kernel
theorem dX1_init_16 : decode cX1_init 16 = .ok (.putfield 15, 3) := by decide +kernel
theorem dX1_init_19 : decode cX1_init 19 = .ok (.aload_n 0, 1) := by decide +kernel
theorem dX1_init_20 : decode cX1_init 20 = .ok (.bipush 8, 2) := by decide +kernel
theorem dX1_init_22 : decode cX1_init 22 = .ok (.newarray .int, 2) := by decide +kernel
theorem dX1_init_24 : decode cX1_init 24 = .ok (.putfield 18, 3) := by decide +kernel
theorem dX1_init_27 : decode cX1_init 27 = .ok (.aload_n 0, 1) := by decide +kernel
theorem dX1_init_28 : decode cX1_init 28 = .ok (.bipush 8, 2) := by decide +kernel
theorem dX1_init_30 : decode cX1_init 30 = .ok (.newarray .int, 2) := by decide +kernel
theorem dX1_init_32 : decode cX1_init 32 = .ok (.putfield 21, 3) := by decide +kernel
theorem dX1_init_35 : decode cX1_init 35 = .ok (.return_, 1) := by decide +kernel
theorem dX1_leastTime_0 : decode cX1_leastTime 0 = .ok (.aload_n 0, 1) := by decide +kernel
theorem dX1_leastTime_1 : decode cX1_leastTime 1 = .ok (.iconst 0, 1) := by decide +kernel
theorem dX1_leastTime_2 : decode cX1_leastTime 2 = .ok (.putfield 24, 3) := by decide +kernel
theorem dX1_leastTime_5 : decode cX1_leastTime 5 = .ok (.iconst 0, 1) := by decide +kernel
theorem dX1_leastTime_6 : decode cX1_leastTime 6 = .ok (.istore 4, 2) := by decide +kernel
theorem dX1_leastTime_8 : decode cX1_leastTime 8 = .ok (.iload 4, 2) := by decide +kernel
theorem dX1_leastTime_10 : decode cX1_leastTime 10 = .ok (.bipush 8, 2) := by decide +kernel
theorem dX1_leastTime_12 : decode cX1_leastTime 12 = .ok (.if_icmp .ge 65, 3) := by decide +kernel
theorem dX1_leastTime_15 : decode cX1_leastTime 15 = .ok (.aload_n 1, 1) := by decide +kernel
theorem dX1_leastTime_16 : decode cX1_leastTime 16 = .ok (.iload 4, 2) := by decide +kernel
theorem dX1_leastTime_18 : decode cX1_leastTime 18 = .ok (.invokevirtual 28, 3) := by decide +kernel
theorem dX1_leastTime_21 : decode cX1_leastTime 21 = .ok (.ifCond .eq 12, 3) := by decide +kernel
theorem dX1_leastTime_24 : decode cX1_leastTime 24 = .ok (.aload_n 1, 1) := by decide +kernel
theorem dX1_leastTime_25 : decode cX1_leastTime 25 = .ok (.iload 4, 2) := by decide +kernel
theorem dX1_leastTime_27 : decode cX1_leastTime 27 = .ok (.invokevirtual 34, 3) := by decide +kernel
theorem dX1_leastTime_30 : decode cX1_leastTime 30 = .ok (.goto 4, 3) := by decide +kernel
theorem dX1_leastTime_33 : decode cX1_leastTime 33 = .ok (.iconst 0, 1) := by decide +kernel
theorem dX1_leastTime_34 : decode cX1_leastTime 34 = .ok (.istore 5, 2) := by decide +kernel
theorem dX1_leastTime_36 : decode cX1_leastTime 36 = .ok (.iload 5, 2) := by decide +kernel
theorem dX1_leastTime_38 : decode cX1_leastTime 38 = .ok (.iconst 1, 1) := by decide +kernel
theorem dX1_leastTime_39 : decode cX1_leastTime 39 = .ok (.if_icmp .lt 38, 3) := by decide +kernel
theorem dX1_leastTime_42 : decode cX1_leastTime 42 = .ok (.iload 5, 2) := by decide +kernel
theorem dX1_leastTime_44 : decode cX1_leastTime 44 = .ok (.bipush 60, 2) := by decide +kernel
theorem dX1_leastTime_46 : decode cX1_leastTime 46 = .ok (.if_icmp .le 6, 3) := by decide +kernel
theorem dX1_leastTime_49 : decode cX1_leastTime 49 = .ok (.goto 28, 3) := by decide +kernel
theorem dX1_leastTime_52 : decode cX1_leastTime 52 = .ok (.aload_n 0, 1) := by decide +kernel
theorem dX1_leastTime_53 : decode cX1_leastTime 53 = .ok (.getfield 11, 3) := by decide +kernel
theorem dX1_leastTime_56 : decode cX1_leastTime 56 = .ok (.iload 4, 2) := by decide +kernel
theorem dX1_leastTime_58 : decode cX1_leastTime 58 = .ok (.iload 5, 2) := by decide +kernel
theorem dX1_leastTime_60 : decode cX1_leastTime 60 = .ok (.iastore, 1) := by decide +kernel
theorem dX1_leastTime_61 : decode cX1_leastTime 61 = .ok (.aload_n 0, 1) := by decide +kernel
theorem dX1_leastTime_62 : decode cX1_leastTime 62 = .ok (.dup, 1) := by decide +kernel
theorem dX1_leastTime_63 : decode cX1_leastTime 63 = .ok (.getfield 24, 3) := by decide +kernel
theorem dX1_leastTime_66 : decode cX1_leastTime 66 = .ok (.iconst 1, 1) := by decide +kernel
theorem dX1_leastTime_67 : decode cX1_leastTime 67 = .ok (.iadd, 1) := by decide +kernel
theorem dX1_leastTime_68 : decode cX1_leastTime 68 = .ok (.putfield 24, 3) := by decide +kernel
theorem dX1_leastTime_71 : decode cX1_leastTime 71 = .ok (.iinc 4 1, 3) := by decide +kernel
theorem dX1_leastTime_74 : decode cX1_leastTime 74 = .ok (.goto (-66), 3) := by decide +kernel
theorem dX1_leastTime_77 : decode cX1_leastTime 77 = .ok (.iload_n 3, 1) := by decide +kernel
theorem dX1_leastTime_78 : decode cX1_leastTime 78 = .ok (.aload_n 0, 1) := by decide +kernel
theorem dX1_leastTime_79 : decode cX1_leastTime 79 = .ok (.getfield 24, 3) := by decide +kernel
theorem dX1_leastTime_82 : decode cX1_leastTime 82 = .ok (.if_icmp .lt 6, 3) := by decide +kernel
theorem dX1_leastTime_85 : decode cX1_leastTime 85 = .ok (.bipush (-2), 2) := by decide +kernel
theorem dX1_leastTime_87 : decode cX1_leastTime 87 = .ok (.ireturn, 1) := by decide +kernel
theorem dX1_leastTime_88 : decode cX1_leastTime 88 = .ok (.aload_n 0, 1) := by decide +kernel
theorem dX1_leastTime_89 : decode cX1_leastTime 89 = .ok (.getfield 15, 3) := by decide +kernel
theorem dX1_leastTime_92 : decode cX1_leastTime 92 = .ok (.iconst 0, 1) := by decide +kernel
theorem dX1_leastTime_93 : decode cX1_leastTime 93 = .ok (.invokestatic 38, 3) := by decide +kernel
theorem dX1_leastTime_96 : decode cX1_leastTime 96 = .ok (.aload_n 0, 1) := by decide +kernel
theorem dX1_leastTime_97 : decode cX1_leastTime 97 = .ok (.sipush 1000, 3) := by decide +kernel
theorem dX1_leastTime_100 : decode cX1_leastTime 100 = .ok (.putfield 44, 3) := by decide +kernel
theorem dX1_leastTime_103 : decode cX1_leastTime 103 = .ok (.aload_n 0, 1) := by decide +kernel
theorem dX1_leastTime_104 : decode cX1_leastTime 104 = .ok (.iconst 0, 1) := by decide +kernel
theorem dX1_leastTime_105 : decode cX1_leastTime 105 = .ok (.iload_n 2, 1) := by decide +kernel
theorem dX1_leastTime_106 : decode cX1_leastTime 106 = .ok (.iconst 0, 1) := by decide +kernel
theorem dX1_leastTime_107 : decode cX1_leastTime 107 = .ok (.invokevirtual 47, 3) := by decide +kernel
theorem dX1_leastTime_110 : decode cX1_leastTime 110 = .ok (.iload_n 3, 1) := by decide +kernel
theorem dX1_leastTime_111 : decode cX1_leastTime 111 = .ok (.ifCond .ge 10, 3) := by decide +kernel
theorem dX1_leastTime_114 : decode cX1_leastTime 114 = .ok (.aload_n 0, 1) := by decide +kernel
theorem dX1_leastTime_115 : decode cX1_leastTime 115 = .ok (.getfield 44, 3) := by decide +kernel
theorem dX1_leastTime_118 : decode cX1_leastTime 118 = .ok (.goto 9, 3) := by decide +kernel
theorem dX1_leastTime_121 : decode cX1_leastTime 121 = .ok (.aload_n 0, 1) := by decide +kernel
theorem dX1_leastTime_122 : decode cX1_leastTime 122 = .ok (.getfield 21, 3) := by decide +kernel
theorem dX1_leastTime_125 : decode cX1_leastTime 125 = .ok (.iload_n 3, 1) := by decide +kernel
theorem dX1_leastTime_126 : decode cX1_leastTime 126 = .ok (.iaload, 1) := by decide +kernel
theorem dX1_leastTime_127 : decode cX1_leastTime 127 = .ok (.ireturn, 1) := by decide +kernel
theorem dX1_layOn_0 : decode cX1_layOn 0 = .ok (.iload_n 3, 1) := by decide +kernel
theorem dX1_layOn_1 : decode cX1_layOn 1 = .ok (.aload_n 0, 1) := by decide +kernel
theorem dX1_layOn_2 : decode cX1_layOn 2 = .ok (.getfield 44, 3) := by decide +kernel
theorem dX1_layOn_5 : decode cX1_layOn 5 = .ok (.if_icmp .lt 4, 3) := by decide +kernel
theorem dX1_layOn_8 : decode cX1_layOn 8 = .ok (.return_, 1) := by decide +kernel
theorem dX1_layOn_9 : decode cX1_layOn 9 = .ok (.iload_n 1, 1) := by decide +kernel
theorem dX1_layOn_10 : decode cX1_layOn 10 = .ok (.aload_n 0, 1) := by decide +kernel
theorem dX1_layOn_11 : decode cX1_layOn 11 = .ok (.getfield 24, 3) := by decide +kernel
theorem dX1_layOn_14 : decode cX1_layOn 14 = .ok (.if_icmp .lt 24, 3) := by decide +kernel
theorem dX1_layOn_17 : decode cX1_layOn 17 = .ok (.aload_n 0, 1) := by decide +kernel
theorem dX1_layOn_18 : decode cX1_layOn 18 = .ok (.iload_n 3, 1) := by decide +kernel
theorem dX1_layOn_19 : decode cX1_layOn 19 = .ok (.putfield 44, 3) := by decide +kernel
theorem dX1_layOn_22 : decode cX1_layOn 22 = .ok (.aload_n 0, 1) := by decide +kernel
theorem dX1_layOn_23 : decode cX1_layOn 23 = .ok (.getfield 18, 3) := by decide +kernel
theorem dX1_layOn_26 : decode cX1_layOn 26 = .ok (.iconst 0, 1) := by decide +kernel
theorem dX1_layOn_27 : decode cX1_layOn 27 = .ok (.aload_n 0, 1) := by decide +kernel
theorem dX1_layOn_28 : decode cX1_layOn 28 = .ok (.getfield 21, 3) := by decide +kernel
theorem dX1_layOn_31 : decode cX1_layOn 31 = .ok (.iconst 0, 1) := by decide +kernel
theorem dX1_layOn_32 : decode cX1_layOn 32 = .ok (.bipush 8, 2) := by decide +kernel
theorem dX1_layOn_34 : decode cX1_layOn 34 = .ok (.invokestatic 51, 3) := by decide +kernel
theorem dX1_layOn_37 : decode cX1_layOn 37 = .ok (.return_, 1) := by decide +kernel
theorem dX1_layOn_38 : decode cX1_layOn 38 = .ok (.iconst 0, 1) := by decide +kernel
theorem dX1_layOn_39 : decode cX1_layOn 39 = .ok (.istore 4, 2) := by decide +kernel
theorem dX1_layOn_41 : decode cX1_layOn 41 = .ok (.iload 4, 2) := by decide +kernel
theorem dX1_layOn_43 : decode cX1_layOn 43 = .ok (.iload_n 2, 1) := by decide +kernel
theorem dX1_layOn_44 : decode cX1_layOn 44 = .ok (.if_icmp .ge 74, 3) := by decide +kernel
theorem dX1_layOn_47 : decode cX1_layOn 47 = .ok (.iload 4, 2) := by decide +kernel
theorem dX1_layOn_49 : decode cX1_layOn 49 = .ok (.iconst 3, 1) := by decide +kernel
theorem dX1_layOn_50 : decode cX1_layOn 50 = .ok (.if_icmp .ge 68, 3) := by decide +kernel
theorem dX1_layOn_53 : decode cX1_layOn 53 = .ok (.aload_n 0, 1) := by decide +kernel
theorem dX1_layOn_54 : decode cX1_layOn 54 = .ok (.getfield 18, 3) := by decide +kernel
theorem dX1_layOn_57 : decode cX1_layOn 57 = .ok (.iload_n 1, 1) := by decide +kernel
theorem dX1_layOn_58 : decode cX1_layOn 58 = .ok (.iload 4, 2) := by decide +kernel
theorem dX1_layOn_60 : decode cX1_layOn 60 = .ok (.iastore, 1) := by decide +kernel
theorem dX1_layOn_61 : decode cX1_layOn 61 = .ok (.aload_n 0, 1) := by decide +kernel
theorem dX1_layOn_62 : decode cX1_layOn 62 = .ok (.getfield 15, 3) := by decide +kernel
theorem dX1_layOn_65 : decode cX1_layOn 65 = .ok (.iload 4, 2) := by decide +kernel
theorem dX1_layOn_67 : decode cX1_layOn 67 = .ok (.dup2, 1) := by decide +kernel
theorem dX1_layOn_68 : decode cX1_layOn 68 = .ok (.iaload, 1) := by decide +kernel
theorem dX1_layOn_69 : decode cX1_layOn 69 = .ok (.aload_n 0, 1) := by decide +kernel
theorem dX1_layOn_70 : decode cX1_layOn 70 = .ok (.getfield 11, 3) := by decide +kernel
theorem dX1_layOn_73 : decode cX1_layOn 73 = .ok (.iload_n 1, 1) := by decide +kernel
theorem dX1_layOn_74 : decode cX1_layOn 74 = .ok (.iaload, 1) := by decide +kernel
theorem dX1_layOn_75 : decode cX1_layOn 75 = .ok (.iadd, 1) := by decide +kernel
theorem dX1_layOn_76 : decode cX1_layOn 76 = .ok (.iastore, 1) := by decide +kernel
theorem dX1_layOn_77 : decode cX1_layOn 77 = .ok (.aload_n 0, 1) := by decide +kernel
theorem dX1_layOn_78 : decode cX1_layOn 78 = .ok (.iload_n 1, 1) := by decide +kernel
theorem dX1_layOn_79 : decode cX1_layOn 79 = .ok (.iconst 1, 1) := by decide +kernel
theorem dX1_layOn_80 : decode cX1_layOn 80 = .ok (.iadd, 1) := by decide +kernel
theorem dX1_layOn_81 : decode cX1_layOn 81 = .ok (.iload_n 2, 1) := by decide +kernel
theorem dX1_layOn_82 : decode cX1_layOn 82 = .ok (.iload_n 3, 1) := by decide +kernel
theorem dX1_layOn_83 : decode cX1_layOn 83 = .ok (.aload_n 0, 1) := by decide +kernel
theorem dX1_layOn_84 : decode cX1_layOn 84 = .ok (.getfield 15, 3) := by decide +kernel
theorem dX1_layOn_87 : decode cX1_layOn 87 = .ok (.iload 4, 2) := by decide +kernel
theorem dX1_layOn_89 : decode cX1_layOn 89 = .ok (.iaload, 1) := by decide +kernel
theorem dX1_layOn_90 : decode cX1_layOn 90 = .ok (.invokestatic 57, 3) := by decide +kernel
theorem dX1_layOn_93 : decode cX1_layOn 93 = .ok (.invokevirtual 47, 3) := by decide +kernel
theorem dX1_layOn_96 : decode cX1_layOn 96 = .ok (.aload_n 0, 1) := by decide +kernel
theorem dX1_layOn_97 : decode cX1_layOn 97 = .ok (.getfield 15, 3) := by decide +kernel
theorem dX1_layOn_100 : decode cX1_layOn 100 = .ok (.iload 4, 2) := by decide +kernel
theorem dX1_layOn_102 : decode cX1_layOn 102 = .ok (.dup2, 1) := by decide +kernel
theorem dX1_layOn_103 : decode cX1_layOn 103 = .ok (.iaload, 1) := by decide +kernel
theorem dX1_layOn_104 : decode cX1_layOn 104 = .ok (.aload_n 0, 1) := by decide +kernel
theorem dX1_layOn_105 : decode cX1_layOn 105 = .ok (.getfield 11, 3) := by decide +kernel
theorem dX1_layOn_108 : decode cX1_layOn 108 = .ok (.iload_n 1, 1) := by decide +kernel
theorem dX1_layOn_109 : decode cX1_layOn 109 = .ok (.iaload, 1) := by decide +kernel
theorem dX1_layOn_110 : decode cX1_layOn 110 = .ok (.isub, 1) := by decide +kernel
theorem dX1_layOn_111 : decode cX1_layOn 111 = .ok (.iastore, 1) := by decide +kernel
theorem dX1_layOn_112 : decode cX1_layOn 112 = .ok (.iinc 4 1, 3) := by decide +kernel
theorem dX1_layOn_115 : decode cX1_layOn 115 = .ok (.goto (-74), 3) := by decide +kernel
theorem dX1_layOn_118 : decode cX1_layOn 118 = .ok (.return_, 1) := by decide +kernel
theorem dX2_init_0 : decode cX2_init 0 = .ok (.aload_n 0, 1) := by decide +kernel
theorem dX2_init_1 : decode cX2_init 1 = .ok (.invokespecial 3, 3) := by decide +kernel
theorem dX2_init_4 : decode cX2_init 4 = .ok (.aload_n 0, 1) := by decide +kernel
theorem dX2_init_5 : decode cX2_init 5 = .ok (.new 9, 3) := by decide +kernel
theorem dX2_init_8 : decode cX2_init 8 = .ok (.dup, 1) := by decide +kernel
theorem dX2_init_9 : decode cX2_init 9 = .ok (.invokespecial 11, 3) := by decide +kernel
theorem dX2_init_12 : decode cX2_init 12 = .ok (.putfield 12, 3) := by decide +kernel
theorem dX2_init_15 : decode cX2_init 15 = .ok (.aload_n 0, 1) := by decide +kernel
theorem dX2_init_16 : decode cX2_init 16 = .ok (.bipush 40, 2) := by decide +kernel
theorem dX2_init_18 : decode cX2_init 18 = .ok (.newarray .int, 2) := by decide +kernel
theorem dX2_init_20 : decode cX2_init 20 = .ok (.putfield 18, 3) := by decide +kernel
theorem dX2_init_23 : decode cX2_init 23 = .ok (.aload_n 0, 1) := by decide +kernel
theorem dX2_init_24 : decode cX2_init 24 = .ok (.iconst 5, 1) := by decide +kernel
theorem dX2_init_25 : decode cX2_init 25 = .ok (.putfield 22, 3) := by decide +kernel
theorem dX2_init_28 : decode cX2_init 28 = .ok (.aload_n 0, 1) := by decide +kernel
theorem dX2_init_29 : decode cX2_init 29 = .ok (.iconst 5, 1) := by decide +kernel
theorem dX2_init_30 : decode cX2_init 30 = .ok (.newarray .int, 2) := by decide +kernel
theorem dX2_init_32 : decode cX2_init 32 = .ok (.putfield 26, 3) := by decide +kernel
theorem dX2_init_35 : decode cX2_init 35 = .ok (.aload_n 0, 1) := by decide +kernel
theorem dX2_init_36 : decode cX2_init 36 = .ok (.new 29, 3) := by decide +kernel
theorem dX2_init_39 : decode cX2_init 39 = .ok (.dup, 1) := by decide +kernel
theorem dX2_init_40 : decode cX2_init 40 = .ok (.invokespecial 31, 3) := by decide +kernel
theorem dX2_init_43 : decode cX2_init 43 = .ok (.putfield 32, 3) := by decide +kernel
theorem dX2_init_46 : decode cX2_init 46 = .ok (.aload_n 0, 1) := by decide +kernel
theorem dX2_init_47 : decode cX2_init 47 = .ok (.iconst 4, 1) := by decide +kernel
theorem dX2_init_48 : decode cX2_init 48 = .ok (.anewarray 29, 3) := by decide +kernel
theorem dX2_init_51 : decode cX2_init 51 = .ok (.putfield 36, 3) := by decide +kernel
theorem dX2_init_54 : decode cX2_init 54 = .ok (.iconst 0, 1) := by decide +kernel
theorem dX2_init_55 : decode cX2_init 55 = .ok (.istore_n 1, 1) := by decide +kernel
theorem dX2_init_56 : decode cX2_init 56 = .ok (.iload_n 1, 1) := by decide +kernel
theorem dX2_init_57 : decode cX2_init 57 = .ok (.iconst 3, 1) := by decide +kernel
theorem dX2_init_58 : decode cX2_init 58 = .ok (.if_icmp .gt 22, 3) := by decide +kernel
theorem dX2_init_61 : decode cX2_init 61 = .ok (.aload_n 0, 1) := by decide +kernel
theorem dX2_init_62 : decode cX2_init 62 = .ok (.getfield 36, 3) := by decide +kernel
theorem dX2_init_65 : decode cX2_init 65 = .ok (.iload_n 1, 1) := by decide +kernel
theorem dX2_init_66 : decode cX2_init 66 = .ok (.new 29, 3) := by decide +kernel
theorem dX2_init_69 : decode cX2_init 69 = .ok (.dup, 1) := by decide +kernel
theorem dX2_init_70 : decode cX2_init 70 = .ok (.invokespecial 31, 3) := by decide +kernel
theorem dX2_init_73 : decode cX2_init 73 = .ok (.aastore, 1) := by decide +kernel
theorem dX2_init_74 : decode cX2_init 74 = .ok (.iinc 1 1, 3) := by decide +kernel
theorem dX2_init_77 : decode cX2_init 77 = .ok (.goto (-21), 3) := by decide +kernel
theorem dX2_init_80 : decode cX2_init 80 = .ok (.return_, 1) := by decide +kernel
theorem dX2_mix_0 : decode cX2_mix 0 = .ok (.aload_n 0, 1) := by decide +kernel
theorem dX2_mix_1 : decode cX2_mix 1 = .ok (.getfield 32, 3) := by decide +kernel
theorem dX2_mix_4 : decode cX2_mix 4 = .ok (.getfield 40, 3) := by decide +kernel
theorem dX2_mix_7 : decode cX2_mix 7 = .ok (.areturn, 1) := by decide +kernel
theorem dX2_tasteBehind_0 : decode cX2_tasteBehind 0 = .ok (.aload_n 0, 1) := by decide +kernel
theorem dX2_tasteBehind_1 : decode cX2_tasteBehind 1 = .ok (.getfield 32, 3) := by decide +kernel
theorem dX2_tasteBehind_4 : decode cX2_tasteBehind 4 = .ok (.aload_n 0, 1) := by decide +kernel
theorem dX2_tasteBehind_5 : decode cX2_tasteBehind 5 = .ok (.getfield 18, 3) := by decide +kernel
theorem dX2_tasteBehind_8 : decode cX2_tasteBehind 8 = .ok (.invokevirtual 43, 3) := by decide +kernel
theorem dX2_tasteBehind_11 : decode cX2_tasteBehind 11 = .ok (.iconst 0, 1) := by decide +kernel
theorem dX2_tasteBehind_12 : decode cX2_tasteBehind 12 = .ok (.istore_n 3, 1) := by decide +kernel
theorem dX2_tasteBehind_13 : decode cX2_tasteBehind 13 = .ok (.iload_n 2, 1) := by decide +kernel
theorem dX2_tasteBehind_14 : decode cX2_tasteBehind 14 = .ok (.invokestatic 47, 3) := by decide +kernel
theorem dX2_tasteBehind_17 : decode cX2_tasteBehind 17 = .ok (.istore 4, 2) := by decide +kernel
theorem dX2_tasteBehind_19 : decode cX2_tasteBehind 19 = .ok (.iload 4, 2) := by decide +kernel
theorem dX2_tasteBehind_21 : decode cX2_tasteBehind 21 = .ok (.iload_n 2, 1) := by decide +kernel
theorem dX2_tasteBehind_22 : decode cX2_tasteBehind 22 = .ok (.invokestatic 51, 3) := by decide +kernel
theorem dX2_tasteBehind_25 : decode cX2_tasteBehind 25 = .ok (.if_icmp .gt 30, 3) := by decide +kernel
theorem dX2_tasteBehind_28 : decode cX2_tasteBehind 28 = .ok (.iload_n 3, 1) := by decide +kernel
theorem dX2_tasteBehind_29 : decode cX2_tasteBehind 29 = .ok (.aload_n 0, 1) := by decide +kernel
theorem dX2_tasteBehind_30 : decode cX2_tasteBehind 30 = .ok (.getfield 32, 3) := by decide +kernel
theorem dX2_tasteBehind_33 : decode cX2_tasteBehind 33 = .ok (.iload 4, 2) := by decide +kernel
theorem dX2_tasteBehind_35 : decode cX2_tasteBehind 35 = .ok (.iload_n 1, 1) := by decide +kernel
theorem dX2_tasteBehind_36 : decode cX2_tasteBehind 36 = .ok (.aload_n 0, 1) := by decide +kernel
theorem dX2_tasteBehind_37 : decode cX2_tasteBehind 37 = .ok (.getfield 12, 3) := by decide +kernel
theorem dX2_tasteBehind_40 : decode cX2_tasteBehind 40 = .ok (.aload_n 0, 1) := by decide +kernel
theorem dX2_tasteBehind_41 : decode cX2_tasteBehind 41 = .ok (.getfield 22, 3) := by decide +kernel
theorem dX2_tasteBehind_44 : decode cX2_tasteBehind 44 = .ok (.invokevirtual 54, 3) := by decide +kernel
theorem dX2_tasteBehind_47 : decode cX2_tasteBehind 47 = .ok (.iadd, 1) := by decide +kernel
theorem dX2_tasteBehind_48 : decode cX2_tasteBehind 48 = .ok (.istore_n 3, 1) := by decide +kernel
theorem dX2_tasteBehind_49 : decode cX2_tasteBehind 49 = .ok (.iinc 4 1, 3) := by decide +kernel
theorem dX2_tasteBehind_52 : decode cX2_tasteBehind 52 = .ok (.goto (-33), 3) := by decide +kernel
theorem dX2_tasteBehind_55 : decode cX2_tasteBehind 55 = .ok (.iload_n 3, 1) := by decide +kernel
theorem dX2_tasteBehind_56 : decode cX2_tasteBehind 56 = .ok (.ireturn, 1) := by decide +kernel
theorem dX2_firstOf_0 : decode cX2_firstOf 0 = .ok (.iload_n 0, 1) := by decide +kernel
theorem dX2_firstOf_1 : decode cX2_firstOf 1 = .ok (.iconst 5, 1) := by decide +kernel
theorem dX2_firstOf_2 : decode cX2_firstOf 2 = .ok (.if_icmp .ge 7, 3) := by decide +kernel
theorem dX2_firstOf_5 : decode cX2_firstOf 5 = .ok (.iload_n 0, 1) := by decide +kernel
theorem dX2_firstOf_6 : decode cX2_firstOf 6 = .ok (.goto 4, 3) := by decide +kernel
theorem dX2_firstOf_9 : decode cX2_firstOf 9 = .ok (.iconst 0, 1) := by decide +kernel
theorem dX2_firstOf_10 : decode cX2_firstOf 10 = .ok (.ireturn, 1) := by decide +kernel
theorem dX2_lastOf_0 : decode cX2_lastOf 0 = .ok (.iload_n 0, 1) := by decide +kernel
theorem dX2_lastOf_1 : decode cX2_lastOf 1 = .ok (.iconst 5, 1) := by decide +kernel
theorem dX2_lastOf_2 : decode cX2_lastOf 2 = .ok (.if_icmp .ge 7, 3) := by decide +kernel
theorem dX2_lastOf_5 : decode cX2_lastOf 5 = .ok (.iload_n 0, 1) := by decide +kernel
theorem dX2_lastOf_6 : decode cX2_lastOf 6 = .ok (.goto 4, 3) := by decide +kernel
theorem dX2_lastOf_9 : decode cX2_lastOf 9 = .ok (.iconst 4, 1) := by decide +kernel
theorem dX2_lastOf_10 : decode cX2_lastOf 10 = .ok (.ireturn, 1) := by decide +kernel
theorem dX2_bestMinutes_0 : decode cX2_bestMinutes 0 = .ok (.aload_n 0, 1) := by decide +kernel
theorem dX2_bestMinutes_1 : decode cX2_bestMinutes 1 = .ok (.getfield 32, 3) := by decide +kernel
theorem dX2_bestMinutes_4 : decode cX2_bestMinutes 4 = .ok (.aload_n 0, 1) := by decide +kernel
theorem dX2_bestMinutes_5 : decode cX2_bestMinutes 5 = .ok (.getfield 18, 3) := by decide +kernel
theorem dX2_bestMinutes_8 : decode cX2_bestMinutes 8 = .ok (.invokevirtual 43, 3) := by decide +kernel
theorem dX2_bestMinutes_11 : decode cX2_bestMinutes 11 = .ok (.aload_n 0, 1) := by decide +kernel
theorem dX2_bestMinutes_12 : decode cX2_bestMinutes 12 = .ok (.getfield 32, 3) := by decide +kernel
theorem dX2_bestMinutes_15 : decode cX2_bestMinutes 15 = .ok (.invokevirtual 58, 3) := by decide +kernel
theorem dX2_bestMinutes_18 : decode cX2_bestMinutes 18 = .ok (.aload_n 0, 1) := by decide +kernel
theorem dX2_bestMinutes_19 : decode cX2_bestMinutes 19 = .ok (.getfield 32, 3) := by decide +kernel
theorem dX2_bestMinutes_22 : decode cX2_bestMinutes 22 = .ok (.aload_n 0, 1) := by decide +kernel
theorem dX2_bestMinutes_23 : decode cX2_bestMinutes 23 = .ok (.getfield 26, 3) := by decide +kernel
theorem dX2_bestMinutes_26 : decode cX2_bestMinutes 26 = .ok (.invokevirtual 61, 3) := by decide +kernel
theorem dX2_bestMinutes_29 : decode cX2_bestMinutes 29 = .ok (.istore_n 2, 1) := by decide +kernel
theorem dX2_bestMinutes_30 : decode cX2_bestMinutes 30 = .ok (.iconst 0, 1) := by decide +kernel
theorem dX2_bestMinutes_31 : decode cX2_bestMinutes 31 = .ok (.istore_n 3, 1) := by decide +kernel
theorem dX2_bestMinutes_32 : decode cX2_bestMinutes 32 = .ok (.iconst 1, 1) := by decide +kernel
theorem dX2_bestMinutes_33 : decode cX2_bestMinutes 33 = .ok (.istore 4, 2) := by decide +kernel
theorem dX2_bestMinutes_35 : decode cX2_bestMinutes 35 = .ok (.iload 4, 2) := by decide +kernel
theorem dX2_bestMinutes_37 : decode cX2_bestMinutes 37 = .ok (.bipush 60, 2) := by decide +kernel
theorem dX2_bestMinutes_39 : decode cX2_bestMinutes 39 = .ok (.if_icmp .gt 51, 3) := by decide +kernel
theorem dX2_bestMinutes_42 : decode cX2_bestMinutes 42 = .ok (.aload_n 0, 1) := by decide +kernel
theorem dX2_bestMinutes_43 : decode cX2_bestMinutes 43 = .ok (.getfield 32, 3) := by decide +kernel
theorem dX2_bestMinutes_46 : decode cX2_bestMinutes 46 = .ok (.iconst 0, 1) := by decide +kernel
theorem dX2_bestMinutes_47 : decode cX2_bestMinutes 47 = .ok (.iconst 4, 1) := by decide +kernel
theorem dX2_bestMinutes_48 : decode cX2_bestMinutes 48 = .ok (.aload_n 0, 1) := by decide +kernel
theorem dX2_bestMinutes_49 : decode cX2_bestMinutes 49 = .ok (.getfield 12, 3) := by decide +kernel
theorem dX2_bestMinutes_52 : decode cX2_bestMinutes 52 = .ok (.aload_n 0, 1) := by decide +kernel
theorem dX2_bestMinutes_53 : decode cX2_bestMinutes 53 = .ok (.getfield 22, 3) := by decide +kernel
theorem dX2_bestMinutes_56 : decode cX2_bestMinutes 56 = .ok (.invokevirtual 65, 3) := by decide +kernel
theorem dX2_bestMinutes_59 : decode cX2_bestMinutes 59 = .ok (.aload_n 0, 1) := by decide +kernel
theorem dX2_bestMinutes_60 : decode cX2_bestMinutes 60 = .ok (.getfield 32, 3) := by decide +kernel
theorem dX2_bestMinutes_63 : decode cX2_bestMinutes 63 = .ok (.aload_n 0, 1) := by decide +kernel
theorem dX2_bestMinutes_64 : decode cX2_bestMinutes 64 = .ok (.getfield 26, 3) := by decide +kernel
theorem dX2_bestMinutes_67 : decode cX2_bestMinutes 67 = .ok (.invokevirtual 61, 3) := by decide +kernel
theorem dX2_bestMinutes_70 : decode cX2_bestMinutes 70 = .ok (.istore 5, 2) := by decide +kernel
theorem dX2_bestMinutes_72 : decode cX2_bestMinutes 72 = .ok (.iload 5, 2) := by decide +kernel
theorem dX2_bestMinutes_74 : decode cX2_bestMinutes 74 = .ok (.iload_n 2, 1) := by decide +kernel
theorem dX2_bestMinutes_75 : decode cX2_bestMinutes 75 = .ok (.if_icmp .ge 9, 3) := by decide +kernel
theorem dX2_bestMinutes_78 : decode cX2_bestMinutes 78 = .ok (.iload 5, 2) := by decide +kernel
theorem dX2_bestMinutes_80 : decode cX2_bestMinutes 80 = .ok (.istore_n 2, 1) := by decide +kernel
theorem dX2_bestMinutes_81 : decode cX2_bestMinutes 81 = .ok (.iload 4, 2) := by decide +kernel
theorem dX2_bestMinutes_83 : decode cX2_bestMinutes 83 = .ok (.istore_n 3, 1) := by decide +kernel
theorem dX2_bestMinutes_84 : decode cX2_bestMinutes 84 = .ok (.iinc 4 1, 3) := by decide +kernel
theorem dX2_bestMinutes_87 : decode cX2_bestMinutes 87 = .ok (.goto (-52), 3) := by decide +kernel
theorem dX2_bestMinutes_90 : decode cX2_bestMinutes 90 = .ok (.iload_n 1, 1) := by decide +kernel
theorem dX2_bestMinutes_91 : decode cX2_bestMinutes 91 = .ok (.ifCond .eq 7, 3) := by decide +kernel
theorem dX2_bestMinutes_94 : decode cX2_bestMinutes 94 = .ok (.iload_n 2, 1) := by decide +kernel
theorem dX2_bestMinutes_95 : decode cX2_bestMinutes 95 = .ok (.goto 4, 3) := by decide +kernel
theorem dX2_bestMinutes_98 : decode cX2_bestMinutes 98 = .ok (.iload_n 3, 1) := by decide +kernel
theorem dX2_bestMinutes_99 : decode cX2_bestMinutes 99 = .ok (.ireturn, 1) := by decide +kernel
theorem dX2_nearestMix_0 : decode cX2_nearestMix 0 = .ok (.sipush 1000, 3) := by decide +kernel
theorem dX2_nearestMix_3 : decode cX2_nearestMix 3 = .ok (.istore 5, 2) := by decide +kernel
theorem dX2_nearestMix_5 : decode cX2_nearestMix 5 = .ok (.iconst 0, 1) := by decide +kernel
theorem dX2_nearestMix_6 : decode cX2_nearestMix 6 = .ok (.istore 6, 2) := by decide +kernel
theorem dX2_nearestMix_8 : decode cX2_nearestMix 8 = .ok (.iconst 0, 1) := by decide +kernel
theorem dX2_nearestMix_9 : decode cX2_nearestMix 9 = .ok (.istore 7, 2) := by decide +kernel
theorem dX2_nearestMix_11 : decode cX2_nearestMix 11 = .ok (.iconst 0, 1) := by decide +kernel
theorem dX2_nearestMix_12 : decode cX2_nearestMix 12 = .ok (.istore 8, 2) := by decide +kernel
theorem dX2_nearestMix_14 : decode cX2_nearestMix 14 = .ok (.iload 8, 2) := by decide +kernel
theorem dX2_nearestMix_16 : decode cX2_nearestMix 16 = .ok (.bipush 81, 2) := by decide +kernel
theorem dX2_nearestMix_18 : decode cX2_nearestMix 18 = .ok (.if_icmp .ge 84, 3) := by decide +kernel
theorem dX2_nearestMix_21 : decode cX2_nearestMix 21 = .ok (.aload_n 0, 1) := by decide +kernel
theorem dX2_nearestMix_22 : decode cX2_nearestMix 22 = .ok (.iload 8, 2) := by decide +kernel
theorem dX2_nearestMix_24 : decode cX2_nearestMix 24 = .ok (.iconst 3, 1) := by decide +kernel
theorem dX2_nearestMix_25 : decode cX2_nearestMix 25 = .ok (.aload_n 1, 1) := by decide +kernel
theorem dX2_nearestMix_26 : decode cX2_nearestMix 26 = .ok (.iload_n 2, 1) := by decide +kernel
theorem dX2_nearestMix_27 : decode cX2_nearestMix 27 = .ok (.invokevirtual 69, 3) := by decide +kernel
theorem dX2_nearestMix_30 : decode cX2_nearestMix 30 = .ok (.ifCond .eq 66, 3) := by decide +kernel
theorem dX2_nearestMix_33 : decode cX2_nearestMix 33 = .ok (.aload_n 0, 1) := by decide +kernel
theorem dX2_nearestMix_34 : decode cX2_nearestMix 34 = .ok (.getfield 32, 3) := by decide +kernel
theorem dX2_nearestMix_37 : decode cX2_nearestMix 37 = .ok (.aload_n 0, 1) := by decide +kernel
theorem dX2_nearestMix_38 : decode cX2_nearestMix 38 = .ok (.getfield 18, 3) := by decide +kernel
theorem dX2_nearestMix_41 : decode cX2_nearestMix 41 = .ok (.invokevirtual 43, 3) := by decide +kernel
theorem dX2_nearestMix_44 : decode cX2_nearestMix 44 = .ok (.aload_n 0, 1) := by decide +kernel
theorem dX2_nearestMix_45 : decode cX2_nearestMix 45 = .ok (.iload_n 3, 1) := by decide +kernel
theorem dX2_nearestMix_46 : decode cX2_nearestMix 46 = .ok (.iload 5, 2) := by decide +kernel
theorem dX2_nearestMix_48 : decode cX2_nearestMix 48 = .ok (.invokevirtual 73, 3) := by decide +kernel
theorem dX2_nearestMix_51 : decode cX2_nearestMix 51 = .ok (.istore 9, 2) := by decide +kernel
theorem dX2_nearestMix_53 : decode cX2_nearestMix 53 = .ok (.iload 9, 2) := by decide +kernel
theorem dX2_nearestMix_55 : decode cX2_nearestMix 55 = .ok (.iload 5, 2) := by decide +kernel
theorem dX2_nearestMix_57 : decode cX2_nearestMix 57 = .ok (.if_icmp .lt 22, 3) := by decide +kernel
theorem dX2_nearestMix_60 : decode cX2_nearestMix 60 = .ok (.iload 9, 2) := by decide +kernel
theorem dX2_nearestMix_62 : decode cX2_nearestMix 62 = .ok (.iload 5, 2) := by decide +kernel
theorem dX2_nearestMix_64 : decode cX2_nearestMix 64 = .ok (.if_icmp .ne 32, 3) := by decide +kernel
theorem dX2_nearestMix_67 : decode cX2_nearestMix 67 = .ok (.aload_n 0, 1) := by decide +kernel
theorem dX2_nearestMix_68 : decode cX2_nearestMix 68 = .ok (.getfield 32, 3) := by decide +kernel
theorem dX2_nearestMix_71 : decode cX2_nearestMix 71 = .ok (.getfield 77, 3) := by decide +kernel
theorem dX2_nearestMix_74 : decode cX2_nearestMix 74 = .ok (.iload 6, 2) := by decide +kernel
theorem dX2_nearestMix_76 : decode cX2_nearestMix 76 = .ok (.if_icmp .ge 20, 3) := by decide +kernel
theorem dX2_nearestMix_79 : decode cX2_nearestMix 79 = .ok (.iload 9, 2) := by decide +kernel
theorem dX2_nearestMix_81 : decode cX2_nearestMix 81 = .ok (.istore 5, 2) := by decide +kernel
theorem dX2_nearestMix_83 : decode cX2_nearestMix 83 = .ok (.aload_n 0, 1) := by decide +kernel
theorem dX2_nearestMix_84 : decode cX2_nearestMix 84 = .ok (.getfield 32, 3) := by decide +kernel
theorem dX2_nearestMix_87 : decode cX2_nearestMix 87 = .ok (.getfield 77, 3) := by decide +kernel
theorem dX2_nearestMix_90 : decode cX2_nearestMix 90 = .ok (.istore 6, 2) := by decide +kernel
theorem dX2_nearestMix_92 : decode cX2_nearestMix 92 = .ok (.iload 8, 2) := by decide +kernel
theorem dX2_nearestMix_94 : decode cX2_nearestMix 94 = .ok (.istore 7, 2) := by decide +kernel
theorem dX2_nearestMix_96 : decode cX2_nearestMix 96 = .ok (.iinc 8 1, 3) := by decide +kernel
theorem dX2_nearestMix_99 : decode cX2_nearestMix 99 = .ok (.goto (-85), 3) := by decide +kernel
theorem dX2_nearestMix_102 : decode cX2_nearestMix 102 = .ok (.iload 4, 2) := by decide +kernel
theorem dX2_nearestMix_104 : decode cX2_nearestMix 104 = .ok (.ifCond .ge 8, 3) := by decide +kernel
theorem dX2_nearestMix_107 : decode cX2_nearestMix 107 = .ok (.iload 5, 2) := by decide +kernel
theorem dX2_nearestMix_109 : decode cX2_nearestMix 109 = .ok (.goto 11, 3) := by decide +kernel
theorem dX2_nearestMix_112 : decode cX2_nearestMix 112 = .ok (.iload 7, 2) := by decide +kernel
theorem dX2_nearestMix_114 : decode cX2_nearestMix 114 = .ok (.iconst 3, 1) := by decide +kernel
theorem dX2_nearestMix_115 : decode cX2_nearestMix 115 = .ok (.iload 4, 2) := by decide +kernel
theorem dX2_nearestMix_117 : decode cX2_nearestMix 117 = .ok (.invokestatic 80, 3) := by decide +kernel
theorem dX2_nearestMix_120 : decode cX2_nearestMix 120 = .ok (.ireturn, 1) := by decide +kernel
theorem dX2_farBehind_0 : decode cX2_farBehind 0 = .ok (.iconst 0, 1) := by decide +kernel
theorem dX2_farBehind_1 : decode cX2_farBehind 1 = .ok (.istore_n 3, 1) := by decide +kernel
theorem dX2_farBehind_2 : decode cX2_farBehind 2 = .ok (.iconst 0, 1) := by decide +kernel
theorem dX2_farBehind_3 : decode cX2_farBehind 3 = .ok (.istore 4, 2) := by decide +kernel
theorem dX2_farBehind_5 : decode cX2_farBehind 5 = .ok (.iload 4, 2) := by decide +kernel
theorem dX2_farBehind_7 : decode cX2_farBehind 7 = .ok (.iconst 5, 1) := by decide +kernel
theorem dX2_farBehind_8 : decode cX2_farBehind 8 = .ok (.if_icmp .ge 46, 3) := by decide +kernel
theorem dX2_farBehind_11 : decode cX2_farBehind 11 = .ok (.iload_n 3, 1) := by decide +kernel
theorem dX2_farBehind_12 : decode cX2_farBehind 12 = .ok (.iload_n 2, 1) := by decide +kernel
theorem dX2_farBehind_13 : decode cX2_farBehind 13 = .ok (.if_icmp .gt 41, 3) := by decide +kernel
theorem dX2_farBehind_16 : decode cX2_farBehind 16 = .ok (.iload_n 3, 1) := by decide +kernel
theorem dX2_farBehind_17 : decode cX2_farBehind 17 = .ok (.aload_n 0, 1) := by decide +kernel
theorem dX2_farBehind_18 : decode cX2_farBehind 18 = .ok (.getfield 32, 3) := by decide +kernel
theorem dX2_farBehind_21 : decode cX2_farBehind 21 = .ok (.iload 4, 2) := by decide +kernel
theorem dX2_farBehind_23 : decode cX2_farBehind 23 = .ok (.iload_n 1, 1) := by decide +kernel
theorem dX2_farBehind_24 : decode cX2_farBehind 24 = .ok (.aload_n 0, 1) := by decide +kernel
theorem dX2_farBehind_25 : decode cX2_farBehind 25 = .ok (.getfield 12, 3) := by decide +kernel
theorem dX2_farBehind_28 : decode cX2_farBehind 28 = .ok (.aload_n 0, 1) := by decide +kernel
theorem dX2_farBehind_29 : decode cX2_farBehind 29 = .ok (.getfield 22, 3) := by decide +kernel
theorem dX2_farBehind_32 : decode cX2_farBehind 32 = .ok (.invokevirtual 54, 3) := by decide +kernel
theorem dX2_farBehind_35 : decode cX2_farBehind 35 = .ok (.aload_n 0, 1) := by decide +kernel
theorem dX2_farBehind_36 : decode cX2_farBehind 36 = .ok (.getfield 26, 3) := by decide +kernel
theorem dX2_farBehind_39 : decode cX2_farBehind 39 = .ok (.iload 4, 2) := by decide +kernel
theorem dX2_farBehind_41 : decode cX2_farBehind 41 = .ok (.iaload, 1) := by decide +kernel
theorem dX2_farBehind_42 : decode cX2_farBehind 42 = .ok (.isub, 1) := by decide +kernel
theorem dX2_farBehind_43 : decode cX2_farBehind 43 = .ok (.invokestatic 84, 3) := by decide +kernel
theorem dX2_farBehind_46 : decode cX2_farBehind 46 = .ok (.iadd, 1) := by decide +kernel
theorem dX2_farBehind_47 : decode cX2_farBehind 47 = .ok (.istore_n 3, 1) := by decide +kernel
theorem dX2_farBehind_48 : decode cX2_farBehind 48 = .ok (.iinc 4 1, 3) := by decide +kernel
theorem dX2_farBehind_51 : decode cX2_farBehind 51 = .ok (.goto (-46), 3) := by decide +kernel
theorem dX2_farBehind_54 : decode cX2_farBehind 54 = .ok (.iload_n 3, 1) := by decide +kernel
theorem dX2_farBehind_55 : decode cX2_farBehind 55 = .ok (.ireturn, 1) := by decide +kernel
theorem dX2_fittingMixes_0 : decode cX2_fittingMixes 0 = .ok (.iconst 0, 1) := by decide +kernel
theorem dX2_fittingMixes_1 : decode cX2_fittingMixes 1 = .ok (.istore 5, 2) := by decide +kernel
theorem dX2_fittingMixes_3 : decode cX2_fittingMixes 3 = .ok (.bipush (-2), 2) := by decide +kernel
theorem dX2_fittingMixes_5 : decode cX2_fittingMixes 5 = .ok (.istore 6, 2) := by decide +kernel
theorem dX2_fittingMixes_7 : decode cX2_fittingMixes 7 = .ok (.bipush (-2), 2) := by decide +kernel
theorem dX2_fittingMixes_9 : decode cX2_fittingMixes 9 = .ok (.istore 7, 2) := by decide +kernel
theorem dX2_fittingMixes_11 : decode cX2_fittingMixes 11 = .ok (.bipush (-2), 2) := by decide +kernel
theorem dX2_fittingMixes_13 : decode cX2_fittingMixes 13 = .ok (.istore 8, 2) := by decide +kernel
theorem dX2_fittingMixes_15 : decode cX2_fittingMixes 15 = .ok (.iconst 0, 1) := by decide +kernel
theorem dX2_fittingMixes_16 : decode cX2_fittingMixes 16 = .ok (.istore 9, 2) := by decide +kernel
theorem dX2_fittingMixes_18 : decode cX2_fittingMixes 18 = .ok (.iload 9, 2) := by decide +kernel
theorem dX2_fittingMixes_20 : decode cX2_fittingMixes 20 = .ok (.sipush 256, 3) := by decide +kernel
theorem dX2_fittingMixes_23 : decode cX2_fittingMixes 23 = .ok (.if_icmp .ge 87, 3) := by decide +kernel
theorem dX2_fittingMixes_26 : decode cX2_fittingMixes 26 = .ok (.aload_n 0, 1) := by decide +kernel
theorem dX2_fittingMixes_27 : decode cX2_fittingMixes 27 = .ok (.iload 9, 2) := by decide +kernel
theorem dX2_fittingMixes_29 : decode cX2_fittingMixes 29 = .ok (.iconst 4, 1) := by decide +kernel
theorem dX2_fittingMixes_30 : decode cX2_fittingMixes 30 = .ok (.aload_n 1, 1) := by decide +kernel
theorem dX2_fittingMixes_31 : decode cX2_fittingMixes 31 = .ok (.iload_n 2, 1) := by decide +kernel
theorem dX2_fittingMixes_32 : decode cX2_fittingMixes 32 = .ok (.invokevirtual 69, 3) := by decide +kernel
theorem dX2_fittingMixes_35 : decode cX2_fittingMixes 35 = .ok (.ifCond .eq 69, 3) := by decide +kernel
theorem dX2_fittingMixes_38 : decode cX2_fittingMixes 38 = .ok (.aload_n 0, 1) := by decide +kernel
theorem dX2_fittingMixes_39 : decode cX2_fittingMixes 39 = .ok (.iload_n 3, 1) := by decide +kernel
theorem dX2_fittingMixes_40 : decode cX2_fittingMixes 40 = .ok (.invokevirtual 89, 3) := by decide +kernel
theorem dX2_fittingMixes_43 : decode cX2_fittingMixes 43 = .ok (.ifCond .eq 61, 3) := by decide +kernel
theorem dX2_fittingMixes_46 : decode cX2_fittingMixes 46 = .ok (.iload 9, 2) := by decide +kernel
theorem dX2_fittingMixes_48 : decode cX2_fittingMixes 48 = .ok (.iconst 4, 1) := by decide +kernel
theorem dX2_fittingMixes_49 : decode cX2_fittingMixes 49 = .ok (.iload 4, 2) := by decide +kernel
theorem dX2_fittingMixes_51 : decode cX2_fittingMixes 51 = .ok (.bipush 10, 2) := by decide +kernel
theorem dX2_fittingMixes_53 : decode cX2_fittingMixes 53 = .ok (.irem, 1) := by decide +kernel
theorem dX2_fittingMixes_54 : decode cX2_fittingMixes 54 = .ok (.invokestatic 80, 3) := by decide +kernel
theorem dX2_fittingMixes_57 : decode cX2_fittingMixes 57 = .ok (.istore 10, 2) := by decide +kernel
theorem dX2_fittingMixes_59 : decode cX2_fittingMixes 59 = .ok (.iload 5, 2) := by decide +kernel
theorem dX2_fittingMixes_61 : decode cX2_fittingMixes 61 = .ok (.ifCond .ne 8, 3) := by decide +kernel
theorem dX2_fittingMixes_64 : decode cX2_fittingMixes 64 = .ok (.iload 9, 2) := by decide +kernel
theorem dX2_fittingMixes_66 : decode cX2_fittingMixes 66 = .ok (.goto 5, 3) := by decide +kernel
theorem dX2_fittingMixes_69 : decode cX2_fittingMixes 69 = .ok (.iload 6, 2) := by decide +kernel
theorem dX2_fittingMixes_71 : decode cX2_fittingMixes 71 = .ok (.istore 6, 2) := by decide +kernel
theorem dX2_fittingMixes_73 : decode cX2_fittingMixes 73 = .ok (.iload 5, 2) := by decide +kernel
theorem dX2_fittingMixes_75 : decode cX2_fittingMixes 75 = .ok (.ifCond .ne 8, 3) := by decide +kernel
theorem dX2_fittingMixes_78 : decode cX2_fittingMixes 78 = .ok (.iload 10, 2) := by decide +kernel
theorem dX2_fittingMixes_80 : decode cX2_fittingMixes 80 = .ok (.goto 10, 3) := by decide +kernel
theorem dX2_fittingMixes_83 : decode cX2_fittingMixes 83 = .ok (.iload 7, 2) := by decide +kernel
theorem dX2_fittingMixes_85 : decode cX2_fittingMixes 85 = .ok (.iload 10, 2) := by decide +kernel
theorem dX2_fittingMixes_87 : decode cX2_fittingMixes 87 = .ok (.invokestatic 93, 3) := by decide +kernel
theorem dX2_fittingMixes_90 : decode cX2_fittingMixes 90 = .ok (.istore 7, 2) := by decide +kernel
theorem dX2_fittingMixes_92 : decode cX2_fittingMixes 92 = .ok (.iload 8, 2) := by decide +kernel
theorem dX2_fittingMixes_94 : decode cX2_fittingMixes 94 = .ok (.iload 10, 2) := by decide +kernel
theorem dX2_fittingMixes_96 : decode cX2_fittingMixes 96 = .ok (.invokestatic 96, 3) := by decide +kernel
theorem dX2_fittingMixes_99 : decode cX2_fittingMixes 99 = .ok (.istore 8, 2) := by decide +kernel
theorem dX2_fittingMixes_101 : decode cX2_fittingMixes 101 = .ok (.iinc 5 1, 3) := by decide +kernel
theorem dX2_fittingMixes_104 : decode cX2_fittingMixes 104 = .ok (.iinc 9 1, 3) := by decide +kernel
theorem dX2_fittingMixes_107 : decode cX2_fittingMixes 107 = .ok (.goto (-89), 3) := by decide +kernel
theorem dX2_fittingMixes_110 : decode cX2_fittingMixes 110 = .ok (.iload 4, 2) := by decide +kernel
theorem dX2_fittingMixes_112 : decode cX2_fittingMixes 112 = .ok (.ifCond .ne 6, 3) := by decide +kernel
theorem dX2_fittingMixes_115 : decode cX2_fittingMixes 115 = .ok (.iload 5, 2) := by decide +kernel
theorem dX2_fittingMixes_117 : decode cX2_fittingMixes 117 = .ok (.ireturn, 1) := by decide +kernel
theorem dX2_fittingMixes_118 : decode cX2_fittingMixes 118 = .ok (.iload 4, 2) := by decide +kernel
theorem dX2_fittingMixes_120 : decode cX2_fittingMixes 120 = .ok (.iconst 1, 1) := by decide +kernel
theorem dX2_fittingMixes_121 : decode cX2_fittingMixes 121 = .ok (.if_icmp .ne 8, 3) := by decide +kernel
theorem dX2_fittingMixes_124 : decode cX2_fittingMixes 124 = .ok (.iload 6, 2) := by decide +kernel
theorem dX2_fittingMixes_126 : decode cX2_fittingMixes 126 = .ok (.goto 17, 3) := by decide +kernel
theorem dX2_fittingMixes_129 : decode cX2_fittingMixes 129 = .ok (.iload 4, 2) := by decide +kernel
theorem dX2_fittingMixes_131 : decode cX2_fittingMixes 131 = .ok (.bipush 20, 2) := by decide +kernel
theorem dX2_fittingMixes_133 : decode cX2_fittingMixes 133 = .ok (.if_icmp .ge 8, 3) := by decide +kernel
theorem dX2_fittingMixes_136 : decode cX2_fittingMixes 136 = .ok (.iload 7, 2) := by decide +kernel
theorem dX2_fittingMixes_138 : decode cX2_fittingMixes 138 = .ok (.goto 5, 3) := by decide +kernel
theorem dX2_fittingMixes_141 : decode cX2_fittingMixes 141 = .ok (.iload 8, 2) := by decide +kernel
theorem dX2_fittingMixes_143 : decode cX2_fittingMixes 143 = .ok (.ireturn, 1) := by decide +kernel
theorem dX2_fits_0 : decode cX2_fits 0 = .ok (.aload_n 0, 1) := by decide +kernel
theorem dX2_fits_1 : decode cX2_fits 1 = .ok (.getfield 32, 3) := by decide +kernel
theorem dX2_fits_4 : decode cX2_fits 4 = .ok (.aload_n 0, 1) := by decide +kernel
theorem dX2_fits_5 : decode cX2_fits 5 = .ok (.getfield 18, 3) := by decide +kernel
theorem dX2_fits_8 : decode cX2_fits 8 = .ok (.invokevirtual 43, 3) := by decide +kernel
theorem dX2_fits_11 : decode cX2_fits 11 = .ok (.iconst 0, 1) := by decide +kernel
theorem dX2_fits_12 : decode cX2_fits 12 = .ok (.istore_n 2, 1) := by decide +kernel
theorem dX2_fits_13 : decode cX2_fits 13 = .ok (.iload_n 2, 1) := by decide +kernel
theorem dX2_fits_14 : decode cX2_fits 14 = .ok (.iconst 5, 1) := by decide +kernel
theorem dX2_fits_15 : decode cX2_fits 15 = .ok (.if_icmp .ge 37, 3) := by decide +kernel
theorem dX2_fits_18 : decode cX2_fits 18 = .ok (.aload_n 0, 1) := by decide +kernel
theorem dX2_fits_19 : decode cX2_fits 19 = .ok (.getfield 32, 3) := by decide +kernel
theorem dX2_fits_22 : decode cX2_fits 22 = .ok (.iload_n 2, 1) := by decide +kernel
theorem dX2_fits_23 : decode cX2_fits 23 = .ok (.iload_n 1, 1) := by decide +kernel
theorem dX2_fits_24 : decode cX2_fits 24 = .ok (.aload_n 0, 1) := by decide +kernel
theorem dX2_fits_25 : decode cX2_fits 25 = .ok (.getfield 12, 3) := by decide +kernel
theorem dX2_fits_28 : decode cX2_fits 28 = .ok (.aload_n 0, 1) := by decide +kernel
theorem dX2_fits_29 : decode cX2_fits 29 = .ok (.getfield 22, 3) := by decide +kernel
theorem dX2_fits_32 : decode cX2_fits 32 = .ok (.invokevirtual 54, 3) := by decide +kernel
theorem dX2_fits_35 : decode cX2_fits 35 = .ok (.aload_n 0, 1) := by decide +kernel
theorem dX2_fits_36 : decode cX2_fits 36 = .ok (.getfield 26, 3) := by decide +kernel
theorem dX2_fits_39 : decode cX2_fits 39 = .ok (.iload_n 2, 1) := by decide +kernel
theorem dX2_fits_40 : decode cX2_fits 40 = .ok (.iaload, 1) := by decide +kernel
theorem dX2_fits_41 : decode cX2_fits 41 = .ok (.if_icmp .eq 5, 3) := by decide +kernel
theorem dX2_fits_44 : decode cX2_fits 44 = .ok (.iconst 0, 1) := by decide +kernel
theorem dX2_fits_45 : decode cX2_fits 45 = .ok (.ireturn, 1) := by decide +kernel
theorem dX2_fits_46 : decode cX2_fits 46 = .ok (.iinc 2 1, 3) := by decide +kernel
theorem dX2_fits_49 : decode cX2_fits 49 = .ok (.goto (-36), 3) := by decide +kernel
theorem dX2_fits_52 : decode cX2_fits 52 = .ok (.iconst 1, 1) := by decide +kernel
theorem dX2_fits_53 : decode cX2_fits 53 = .ok (.ireturn, 1) := by decide +kernel
theorem dX2_isMixOf_0 : decode cX2_isMixOf 0 = .ok (.aload_n 0, 1) := by decide +kernel
theorem dX2_isMixOf_1 : decode cX2_isMixOf 1 = .ok (.getfield 32, 3) := by decide +kernel
theorem dX2_isMixOf_4 : decode cX2_isMixOf 4 = .ok (.getfield 40, 3) := by decide +kernel
theorem dX2_isMixOf_7 : decode cX2_isMixOf 7 = .ok (.iconst 0, 1) := by decide +kernel
theorem dX2_isMixOf_8 : decode cX2_isMixOf 8 = .ok (.invokestatic 99, 3) := by decide +kernel
theorem dX2_isMixOf_11 : decode cX2_isMixOf 11 = .ok (.iconst 0, 1) := by decide +kernel
theorem dX2_isMixOf_12 : decode cX2_isMixOf 12 = .ok (.istore 5, 2) := by decide +kernel
theorem dX2_isMixOf_14 : decode cX2_isMixOf 14 = .ok (.iload 5, 2) := by decide +kernel
theorem dX2_isMixOf_16 : decode cX2_isMixOf 16 = .ok (.iconst 4, 1) := by decide +kernel
theorem dX2_isMixOf_17 : decode cX2_isMixOf 17 = .ok (.if_icmp .ge 46, 3) := by decide +kernel
theorem dX2_isMixOf_20 : decode cX2_isMixOf 20 = .ok (.iload_n 1, 1) := by decide +kernel
theorem dX2_isMixOf_21 : decode cX2_isMixOf 21 = .ok (.iload_n 2, 1) := by decide +kernel
theorem dX2_isMixOf_22 : decode cX2_isMixOf 22 = .ok (.iload 5, 2) := by decide +kernel
theorem dX2_isMixOf_24 : decode cX2_isMixOf 24 = .ok (.invokestatic 80, 3) := by decide +kernel
theorem dX2_isMixOf_27 : decode cX2_isMixOf 27 = .ok (.istore 6, 2) := by decide +kernel
theorem dX2_isMixOf_29 : decode cX2_isMixOf 29 = .ok (.iload 6, 2) := by decide +kernel
theorem dX2_isMixOf_31 : decode cX2_isMixOf 31 = .ok (.aload_n 3, 1) := by decide +kernel
theorem dX2_isMixOf_32 : decode cX2_isMixOf 32 = .ok (.iload 4, 2) := by decide +kernel
theorem dX2_isMixOf_34 : decode cX2_isMixOf 34 = .ok (.iload 5, 2) := by decide +kernel
theorem dX2_isMixOf_36 : decode cX2_isMixOf 36 = .ok (.invokestatic 105, 3) := by decide +kernel
theorem dX2_isMixOf_39 : decode cX2_isMixOf 39 = .ok (.iaload, 1) := by decide +kernel
theorem dX2_isMixOf_40 : decode cX2_isMixOf 40 = .ok (.if_icmp .le 5, 3) := by decide +kernel
theorem dX2_isMixOf_43 : decode cX2_isMixOf 43 = .ok (.iconst 0, 1) := by decide +kernel
theorem dX2_isMixOf_44 : decode cX2_isMixOf 44 = .ok (.ireturn, 1) := by decide +kernel
theorem dX2_isMixOf_45 : decode cX2_isMixOf 45 = .ok (.aload_n 0, 1) := by decide +kernel
theorem dX2_isMixOf_46 : decode cX2_isMixOf 46 = .ok (.getfield 32, 3) := by decide +kernel
theorem dX2_isMixOf_49 : decode cX2_isMixOf 49 = .ok (.getfield 40, 3) := by decide +kernel
theorem dX2_isMixOf_52 : decode cX2_isMixOf 52 = .ok (.iload 5, 2) := by decide +kernel
theorem dX2_isMixOf_54 : decode cX2_isMixOf 54 = .ok (.iload 6, 2) := by decide +kernel
theorem dX2_isMixOf_56 : decode cX2_isMixOf 56 = .ok (.iastore, 1) := by decide +kernel
theorem dX2_isMixOf_57 : decode cX2_isMixOf 57 = .ok (.iinc 5 1, 3) := by decide +kernel
theorem dX2_isMixOf_60 : decode cX2_isMixOf 60 = .ok (.goto (-46), 3) := by decide +kernel
theorem dX2_isMixOf_63 : decode cX2_isMixOf 63 = .ok (.iconst 1, 1) := by decide +kernel
theorem dX2_isMixOf_64 : decode cX2_isMixOf 64 = .ok (.ireturn, 1) := by decide +kernel
theorem dX2_digit_0 : decode cX2_digit 0 = .ok (.iload_n 0, 1) := by decide +kernel
theorem dX2_digit_1 : decode cX2_digit 1 = .ok (.istore_n 3, 1) := by decide +kernel
theorem dX2_digit_2 : decode cX2_digit 2 = .ok (.iconst 3, 1) := by decide +kernel
theorem dX2_digit_3 : decode cX2_digit 3 = .ok (.istore 4, 2) := by decide +kernel
theorem dX2_digit_5 : decode cX2_digit 5 = .ok (.iload 4, 2) := by decide +kernel
theorem dX2_digit_7 : decode cX2_digit 7 = .ok (.iload_n 2, 1) := by decide +kernel
theorem dX2_digit_8 : decode cX2_digit 8 = .ok (.if_icmp .le 21, 3) := by decide +kernel
theorem dX2_digit_11 : decode cX2_digit 11 = .ok (.iload_n 1, 1) := by decide +kernel
theorem dX2_digit_12 : decode cX2_digit 12 = .ok (.ifCond .le 9, 3) := by decide +kernel
theorem dX2_digit_15 : decode cX2_digit 15 = .ok (.iload_n 3, 1) := by decide +kernel
theorem dX2_digit_16 : decode cX2_digit 16 = .ok (.iload_n 1, 1) := by decide +kernel
theorem dX2_digit_17 : decode cX2_digit 17 = .ok (.idiv, 1) := by decide +kernel
theorem dX2_digit_18 : decode cX2_digit 18 = .ok (.goto 4, 3) := by decide +kernel
theorem dX2_digit_21 : decode cX2_digit 21 = .ok (.iconst 0, 1) := by decide +kernel
theorem dX2_digit_22 : decode cX2_digit 22 = .ok (.istore_n 3, 1) := by decide +kernel
theorem dX2_digit_23 : decode cX2_digit 23 = .ok (.iinc 4 (-1), 3) := by decide +kernel
theorem dX2_digit_26 : decode cX2_digit 26 = .ok (.goto (-21), 3) := by decide +kernel
theorem dX2_digit_29 : decode cX2_digit 29 = .ok (.iload_n 1, 1) := by decide +kernel
theorem dX2_digit_30 : decode cX2_digit 30 = .ok (.ifCond .le 9, 3) := by decide +kernel
theorem dX2_digit_33 : decode cX2_digit 33 = .ok (.iload_n 3, 1) := by decide +kernel
theorem dX2_digit_34 : decode cX2_digit 34 = .ok (.iload_n 1, 1) := by decide +kernel
theorem dX2_digit_35 : decode cX2_digit 35 = .ok (.irem, 1) := by decide +kernel
theorem dX2_digit_36 : decode cX2_digit 36 = .ok (.goto 4, 3) := by decide +kernel
theorem dX2_digit_39 : decode cX2_digit 39 = .ok (.iconst 0, 1) := by decide +kernel
theorem dX2_digit_40 : decode cX2_digit 40 = .ok (.ireturn, 1) := by decide +kernel
theorem dX2_playedOut_0 : decode cX2_playedOut 0 = .ok (.aload_n 0, 1) := by decide +kernel
theorem dX2_playedOut_1 : decode cX2_playedOut 1 = .ok (.getfield 36, 3) := by decide +kernel
theorem dX2_playedOut_4 : decode cX2_playedOut 4 = .ok (.iconst 0, 1) := by decide +kernel
theorem dX2_playedOut_5 : decode cX2_playedOut 5 = .ok (.aaload, 1) := by decide +kernel
theorem dX2_playedOut_6 : decode cX2_playedOut 6 = .ok (.aload_n 0, 1) := by decide +kernel
theorem dX2_playedOut_7 : decode cX2_playedOut 7 = .ok (.getfield 32, 3) := by decide +kernel
theorem dX2_playedOut_10 : decode cX2_playedOut 10 = .ok (.getfield 40, 3) := by decide +kernel
theorem dX2_playedOut_13 : decode cX2_playedOut 13 = .ok (.invokevirtual 108, 3) := by decide +kernel
theorem dX2_playedOut_16 : decode cX2_playedOut 16 = .ok (.aload_n 0, 1) := by decide +kernel
theorem dX2_playedOut_17 : decode cX2_playedOut 17 = .ok (.iconst 4, 1) := by decide +kernel
theorem dX2_playedOut_18 : decode cX2_playedOut 18 = .ok (.putfield 111, 3) := by decide +kernel
theorem dX2_playedOut_21 : decode cX2_playedOut 21 = .ok (.aload_n 0, 1) := by decide +kernel
theorem dX2_playedOut_22 : decode cX2_playedOut 22 = .ok (.iconst 0, 1) := by decide +kernel
theorem dX2_playedOut_23 : decode cX2_playedOut 23 = .ok (.iload_n 1, 1) := by decide +kernel
theorem dX2_playedOut_24 : decode cX2_playedOut 24 = .ok (.invokevirtual 114, 3) := by decide +kernel
theorem dX2_playedOut_27 : decode cX2_playedOut 27 = .ok (.istore_n 3, 1) := by decide +kernel
theorem dX2_playedOut_28 : decode cX2_playedOut 28 = .ok (.iload_n 2, 1) := by decide +kernel
theorem dX2_playedOut_29 : decode cX2_playedOut 29 = .ok (.ifCond .eq 10, 3) := by decide +kernel
theorem dX2_playedOut_32 : decode cX2_playedOut 32 = .ok (.aload_n 0, 1) := by decide +kernel
theorem dX2_playedOut_33 : decode cX2_playedOut 33 = .ok (.getfield 111, 3) := by decide +kernel
theorem dX2_playedOut_36 : decode cX2_playedOut 36 = .ok (.goto 4, 3) := by decide +kernel
theorem dX2_playedOut_39 : decode cX2_playedOut 39 = .ok (.iload_n 3, 1) := by decide +kernel
theorem dX2_playedOut_40 : decode cX2_playedOut 40 = .ok (.ireturn, 1) := by decide +kernel
theorem dX2_played_0 : decode cX2_played 0 = .ok (.iload_n 1, 1) := by decide +kernel
theorem dX2_played_1 : decode cX2_played 1 = .ok (.iload_n 2, 1) := by decide +kernel
theorem dX2_played_2 : decode cX2_played 2 = .ok (.if_icmp .ge 8, 3) := by decide +kernel
theorem dX2_played_5 : decode cX2_played 5 = .ok (.iload_n 1, 1) := by decide +kernel
theorem dX2_played_6 : decode cX2_played 6 = .ok (.iconst 3, 1) := by decide +kernel
theorem dX2_played_7 : decode cX2_played 7 = .ok (.if_icmp .lt 21, 3) := by decide +kernel
theorem dX2_played_10 : decode cX2_played 10 = .ok (.aload_n 0, 1) := by decide +kernel
theorem dX2_played_11 : decode cX2_played 11 = .ok (.getfield 36, 3) := by decide +kernel
theorem dX2_played_14 : decode cX2_played 14 = .ok (.iload_n 1, 1) := by decide +kernel
theorem dX2_played_15 : decode cX2_played 15 = .ok (.iconst 3, 1) := by decide +kernel
theorem dX2_played_16 : decode cX2_played 16 = .ok (.invokestatic 93, 3) := by decide +kernel
theorem dX2_played_19 : decode cX2_played 19 = .ok (.aaload, 1) := by decide +kernel
theorem dX2_played_20 : decode cX2_played 20 = .ok (.aload_n 0, 1) := by decide +kernel
theorem dX2_played_21 : decode cX2_played 21 = .ok (.getfield 26, 3) := by decide +kernel
theorem dX2_played_24 : decode cX2_played 24 = .ok (.invokevirtual 61, 3) := by decide +kernel
theorem dX2_played_27 : decode cX2_played 27 = .ok (.ireturn, 1) := by decide +kernel
theorem dX2_played_28 : decode cX2_played 28 = .ok (.iload_n 1, 1) := by decide +kernel
theorem dX2_played_29 : decode cX2_played 29 = .ok (.iconst 2, 1) := by decide +kernel
theorem dX2_played_30 : decode cX2_played 30 = .ok (.irem, 1) := by decide +kernel
theorem dX2_played_31 : decode cX2_played 31 = .ok (.ifCond .ne 7, 3) := by decide +kernel
theorem dX2_played_34 : decode cX2_played 34 = .ok (.iconst 1, 1) := by decide +kernel
theorem dX2_played_35 : decode cX2_played 35 = .ok (.goto 4, 3) := by decide +kernel
theorem dX2_played_38 : decode cX2_played 38 = .ok (.iconst 0, 1) := by decide +kernel
theorem dX2_played_39 : decode cX2_played 39 = .ok (.istore_n 3, 1) := by decide +kernel
theorem dX2_played_40 : decode cX2_played 40 = .ok (.iconst 0, 1) := by decide +kernel
theorem dX2_played_41 : decode cX2_played 41 = .ok (.istore 4, 2) := by decide +kernel
theorem dX2_played_43 : decode cX2_played 43 = .ok (.iconst 0, 1) := by decide +kernel
theorem dX2_played_44 : decode cX2_played 44 = .ok (.istore 5, 2) := by decide +kernel
theorem dX2_played_46 : decode cX2_played 46 = .ok (.getstatic 117, 3) := by decide +kernel
theorem dX2_played_49 : decode cX2_played 49 = .ok (.astore 6, 2) := by decide +kernel
theorem dX2_played_51 : decode cX2_played 51 = .ok (.aload 6, 2) := by decide +kernel
theorem dX2_played_53 : decode cX2_played 53 = .ok (.arraylength, 1) := by decide +kernel
theorem dX2_played_54 : decode cX2_played 54 = .ok (.istore 7, 2) := by decide +kernel
theorem dX2_played_56 : decode cX2_played 56 = .ok (.iconst 0, 1) := by decide +kernel
theorem dX2_played_57 : decode cX2_played 57 = .ok (.istore 8, 2) := by decide +kernel
theorem dX2_played_59 : decode cX2_played 59 = .ok (.iload 8, 2) := by decide +kernel
theorem dX2_played_61 : decode cX2_played 61 = .ok (.iload 7, 2) := by decide +kernel
theorem dX2_played_63 : decode cX2_played 63 = .ok (.if_icmp .ge 102, 3) := by decide +kernel
theorem dX2_played_66 : decode cX2_played 66 = .ok (.aload 6, 2) := by decide +kernel
theorem dX2_played_68 : decode cX2_played 68 = .ok (.iload 8, 2) := by decide +kernel
theorem dX2_played_70 : decode cX2_played 70 = .ok (.iaload, 1) := by decide +kernel
theorem dX2_played_71 : decode cX2_played 71 = .ok (.istore 9, 2) := by decide +kernel
theorem dX2_played_73 : decode cX2_played 73 = .ok (.aload_n 0, 1) := by decide +kernel
theorem dX2_played_74 : decode cX2_played 74 = .ok (.iload 9, 2) := by decide +kernel
theorem dX2_played_76 : decode cX2_played 76 = .ok (.aload_n 0, 1) := by decide +kernel
theorem dX2_played_77 : decode cX2_played 77 = .ok (.getfield 36, 3) := by decide +kernel
theorem dX2_played_80 : decode cX2_played 80 = .ok (.iload_n 1, 1) := by decide +kernel
theorem dX2_played_81 : decode cX2_played 81 = .ok (.aaload, 1) := by decide +kernel
theorem dX2_played_82 : decode cX2_played 82 = .ok (.aload_n 0, 1) := by decide +kernel
theorem dX2_played_83 : decode cX2_played 83 = .ok (.getfield 36, 3) := by decide +kernel
theorem dX2_played_86 : decode cX2_played 86 = .ok (.iload_n 1, 1) := by decide +kernel
theorem dX2_played_87 : decode cX2_played 87 = .ok (.iconst 1, 1) := by decide +kernel
theorem dX2_played_88 : decode cX2_played 88 = .ok (.iadd, 1) := by decide +kernel
theorem dX2_played_89 : decode cX2_played 89 = .ok (.aaload, 1) := by decide +kernel
theorem dX2_played_90 : decode cX2_played 90 = .ok (.invokevirtual 120, 3) := by decide +kernel
theorem dX2_played_93 : decode cX2_played 93 = .ok (.ifCond .ne 6, 3) := by decide +kernel
theorem dX2_played_96 : decode cX2_played 96 = .ok (.goto 63, 3) := by decide +kernel
theorem dX2_played_99 : decode cX2_played 99 = .ok (.aload_n 0, 1) := by decide +kernel
theorem dX2_played_100 : decode cX2_played 100 = .ok (.iload_n 1, 1) := by decide +kernel
theorem dX2_played_101 : decode cX2_played 101 = .ok (.iconst 1, 1) := by decide +kernel
theorem dX2_played_102 : decode cX2_played 102 = .ok (.iadd, 1) := by decide +kernel
theorem dX2_played_103 : decode cX2_played 103 = .ok (.iload_n 2, 1) := by decide +kernel
theorem dX2_played_104 : decode cX2_played 104 = .ok (.invokevirtual 114, 3) := by decide +kernel
theorem dX2_played_107 : decode cX2_played 107 = .ok (.istore 10, 2) := by decide +kernel
theorem dX2_played_109 : decode cX2_played 109 = .ok (.iload 4, 2) := by decide +kernel
theorem dX2_played_111 : decode cX2_played 111 = .ok (.ifCond .eq 24, 3) := by decide +kernel
theorem dX2_played_114 : decode cX2_played 114 = .ok (.iload_n 3, 1) := by decide +kernel
theorem dX2_played_115 : decode cX2_played 115 = .ok (.ifCond .eq 13, 3) := by decide +kernel
theorem dX2_played_118 : decode cX2_played 118 = .ok (.iload 10, 2) := by decide +kernel
theorem dX2_played_120 : decode cX2_played 120 = .ok (.iload 5, 2) := by decide +kernel
theorem dX2_played_122 : decode cX2_played 122 = .ok (.if_icmp .ge 37, 3) := by decide +kernel
theorem dX2_played_125 : decode cX2_played 125 = .ok (.goto 10, 3) := by decide +kernel
theorem dX2_played_128 : decode cX2_played 128 = .ok (.iload 10, 2) := by decide +kernel
theorem dX2_played_130 : decode cX2_played 130 = .ok (.iload 5, 2) := by decide +kernel
theorem dX2_played_132 : decode cX2_played 132 = .ok (.if_icmp .le 27, 3) := by decide +kernel
theorem dX2_played_135 : decode cX2_played 135 = .ok (.iconst 1, 1) := by decide +kernel
theorem dX2_played_136 : decode cX2_played 136 = .ok (.istore 4, 2) := by decide +kernel
theorem dX2_played_138 : decode cX2_played 138 = .ok (.iload 10, 2) := by decide +kernel
theorem dX2_played_140 : decode cX2_played 140 = .ok (.istore 5, 2) := by decide +kernel
theorem dX2_played_142 : decode cX2_played 142 = .ok (.aload_n 0, 1) := by decide +kernel
theorem dX2_played_143 : decode cX2_played 143 = .ok (.iload_n 1, 1) := by decide +kernel
theorem dX2_played_144 : decode cX2_played 144 = .ok (.ifCond .ne 8, 3) := by decide +kernel
theorem dX2_played_147 : decode cX2_played 147 = .ok (.iload 9, 2) := by decide +kernel
theorem dX2_played_149 : decode cX2_played 149 = .ok (.goto 7, 3) := by decide +kernel
theorem dX2_played_152 : decode cX2_played 152 = .ok (.aload_n 0, 1) := by decide +kernel
theorem dX2_played_153 : decode cX2_played 153 = .ok (.getfield 111, 3) := by decide +kernel
theorem dX2_played_156 : decode cX2_played 156 = .ok (.putfield 111, 3) := by decide +kernel
theorem dX2_played_159 : decode cX2_played 159 = .ok (.iinc 8 1, 3) := by decide +kernel
theorem dX2_played_162 : decode cX2_played 162 = .ok (.goto (-103), 3) := by decide +kernel
theorem dX2_played_165 : decode cX2_played 165 = .ok (.iload 5, 2) := by decide +kernel
theorem dX2_played_167 : decode cX2_played 167 = .ok (.ireturn, 1) := by decide +kernel
theorem dX2_isDone_0 : decode cX2_isDone 0 = .ok (.aload_n 3, 1) := by decide +kernel
theorem dX2_isDone_1 : decode cX2_isDone 1 = .ok (.aload_n 2, 1) := by decide +kernel
theorem dX2_isDone_2 : decode cX2_isDone 2 = .ok (.invokevirtual 124, 3) := by decide +kernel
theorem dX2_isDone_5 : decode cX2_isDone 5 = .ok (.iload_n 1, 1) := by decide +kernel
theorem dX2_isDone_6 : decode cX2_isDone 6 = .ok (.iconst 4, 1) := by decide +kernel
theorem dX2_isDone_7 : decode cX2_isDone 7 = .ok (.if_icmp .eq 26, 3) := by decide +kernel
theorem dX2_isDone_10 : decode cX2_isDone 10 = .ok (.aload_n 3, 1) := by decide +kernel
theorem dX2_isDone_11 : decode cX2_isDone 11 = .ok (.getfield 40, 3) := by decide +kernel
theorem dX2_isDone_14 : decode cX2_isDone 14 = .ok (.iload_n 1, 1) := by decide +kernel
theorem dX2_isDone_15 : decode cX2_isDone 15 = .ok (.iaload, 1) := by decide +kernel
theorem dX2_isDone_16 : decode cX2_isDone 16 = .ok (.bipush 9, 2) := by decide +kernel
theorem dX2_isDone_18 : decode cX2_isDone 18 = .ok (.if_icmp .lt 5, 3) := by decide +kernel
theorem dX2_isDone_21 : decode cX2_isDone 21 = .ok (.iconst 0, 1) := by decide +kernel
theorem dX2_isDone_22 : decode cX2_isDone 22 = .ok (.ireturn, 1) := by decide +kernel
theorem dX2_isDone_23 : decode cX2_isDone 23 = .ok (.aload_n 3, 1) := by decide +kernel
theorem dX2_isDone_24 : decode cX2_isDone 24 = .ok (.getfield 40, 3) := by decide +kernel
theorem dX2_isDone_27 : decode cX2_isDone 27 = .ok (.iload_n 1, 1) := by decide +kernel
theorem dX2_isDone_28 : decode cX2_isDone 28 = .ok (.dup2, 1) := by decide +kernel
theorem dX2_isDone_29 : decode cX2_isDone 29 = .ok (.iaload, 1) := by decide +kernel
theorem dX2_isDone_30 : decode cX2_isDone 30 = .ok (.iconst 1, 1) := by decide +kernel
theorem dX2_isDone_31 : decode cX2_isDone 31 = .ok (.iadd, 1) := by decide +kernel
theorem dX2_isDone_32 : decode cX2_isDone 32 = .ok (.iastore, 1) := by decide +kernel
theorem dX2_isDone_33 : decode cX2_isDone 33 = .ok (.aload_n 3, 1) := by decide +kernel
theorem dX2_isDone_34 : decode cX2_isDone 34 = .ok (.aload_n 0, 1) := by decide +kernel
theorem dX2_isDone_35 : decode cX2_isDone 35 = .ok (.getfield 18, 3) := by decide +kernel
theorem dX2_isDone_38 : decode cX2_isDone 38 = .ok (.invokevirtual 43, 3) := by decide +kernel
theorem dX2_isDone_41 : decode cX2_isDone 41 = .ok (.aload_n 3, 1) := by decide +kernel
theorem dX2_isDone_42 : decode cX2_isDone 42 = .ok (.iconst 0, 1) := by decide +kernel
theorem dX2_isDone_43 : decode cX2_isDone 43 = .ok (.iconst 4, 1) := by decide +kernel
theorem dX2_isDone_44 : decode cX2_isDone 44 = .ok (.aload_n 0, 1) := by decide +kernel
theorem dX2_isDone_45 : decode cX2_isDone 45 = .ok (.getfield 12, 3) := by decide +kernel
theorem dX2_isDone_48 : decode cX2_isDone 48 = .ok (.aload_n 0, 1) := by decide +kernel
theorem dX2_isDone_49 : decode cX2_isDone 49 = .ok (.getfield 22, 3) := by decide +kernel
theorem dX2_isDone_52 : decode cX2_isDone 52 = .ok (.invokevirtual 65, 3) := by decide +kernel
theorem dX2_isDone_55 : decode cX2_isDone 55 = .ok (.iconst 1, 1) := by decide +kernel
theorem dX2_isDone_56 : decode cX2_isDone 56 = .ok (.ireturn, 1) := by decide +kernel
theorem dX2_drawnTerms_0 : decode cX2_drawnTerms 0 = .ok (.iload_n 1, 1) := by decide +kernel
theorem dX2_drawnTerms_1 : decode cX2_drawnTerms 1 = .ok (.istore 5, 2) := by decide +kernel
theorem dX2_drawnTerms_3 : decode cX2_drawnTerms 3 = .ok (.iconst 0, 1) := by decide +kernel
theorem dX2_drawnTerms_4 : decode cX2_drawnTerms 4 = .ok (.istore 6, 2) := by decide +kernel
theorem dX2_drawnTerms_6 : decode cX2_drawnTerms 6 = .ok (.aload_n 0, 1) := by decide +kernel
theorem dX2_drawnTerms_7 : decode cX2_drawnTerms 7 = .ok (.getfield 32, 3) := by decide +kernel
theorem dX2_drawnTerms_10 : decode cX2_drawnTerms 10 = .ok (.aload_n 0, 1) := by decide +kernel
theorem dX2_drawnTerms_11 : decode cX2_drawnTerms 11 = .ok (.getfield 18, 3) := by decide +kernel
theorem dX2_drawnTerms_14 : decode cX2_drawnTerms 14 = .ok (.invokevirtual 43, 3) := by decide +kernel
theorem dX2_drawnTerms_17 : decode cX2_drawnTerms 17 = .ok (.iconst 0, 1) := by decide +kernel
theorem dX2_drawnTerms_18 : decode cX2_drawnTerms 18 = .ok (.istore 7, 2) := by decide +kernel
theorem dX2_drawnTerms_20 : decode cX2_drawnTerms 20 = .ok (.iload 7, 2) := by decide +kernel
theorem dX2_drawnTerms_22 : decode cX2_drawnTerms 22 = .ok (.iload_n 2, 1) := by decide +kernel
theorem dX2_drawnTerms_23 : decode cX2_drawnTerms 23 = .ok (.if_icmp .ge 93, 3) := by decide +kernel
theorem dX2_drawnTerms_26 : decode cX2_drawnTerms 26 = .ok (.aload_n 0, 1) := by decide +kernel
theorem dX2_drawnTerms_27 : decode cX2_drawnTerms 27 = .ok (.getfield 32, 3) := by decide +kernel
theorem dX2_drawnTerms_30 : decode cX2_drawnTerms 30 = .ok (.invokevirtual 58, 3) := by decide +kernel
theorem dX2_drawnTerms_33 : decode cX2_drawnTerms 33 = .ok (.iconst 0, 1) := by decide +kernel
theorem dX2_drawnTerms_34 : decode cX2_drawnTerms 34 = .ok (.istore 8, 2) := by decide +kernel
theorem dX2_drawnTerms_36 : decode cX2_drawnTerms 36 = .ok (.iload 8, 2) := by decide +kernel
theorem dX2_drawnTerms_38 : decode cX2_drawnTerms 38 = .ok (.iload_n 3, 1) := by decide +kernel
theorem dX2_drawnTerms_39 : decode cX2_drawnTerms 39 = .ok (.if_icmp .ge 49, 3) := by decide +kernel
theorem dX2_drawnTerms_42 : decode cX2_drawnTerms 42 = .ok (.iload 5, 2) := by decide +kernel
theorem dX2_drawnTerms_44 : decode cX2_drawnTerms 44 = .ok (.ldc 128, 2) := by decide +kernel
theorem dX2_drawnTerms_46 : decode cX2_drawnTerms 46 = .ok (.imul, 1) := by decide +kernel
theorem dX2_drawnTerms_47 : decode cX2_drawnTerms 47 = .ok (.sipush 12345, 3) := by decide +kernel
theorem dX2_drawnTerms_50 : decode cX2_drawnTerms 50 = .ok (.iadd, 1) := by decide +kernel
theorem dX2_drawnTerms_51 : decode cX2_drawnTerms 51 = .ok (.istore 5, 2) := by decide +kernel
theorem dX2_drawnTerms_53 : decode cX2_drawnTerms 53 = .ok (.aload_n 0, 1) := by decide +kernel
theorem dX2_drawnTerms_54 : decode cX2_drawnTerms 54 = .ok (.getfield 32, 3) := by decide +kernel
theorem dX2_drawnTerms_57 : decode cX2_drawnTerms 57 = .ok (.iload 4, 2) := by decide +kernel
theorem dX2_drawnTerms_59 : decode cX2_drawnTerms 59 = .ok (.invokestatic 47, 3) := by decide +kernel
theorem dX2_drawnTerms_62 : decode cX2_drawnTerms 62 = .ok (.iload 4, 2) := by decide +kernel
theorem dX2_drawnTerms_64 : decode cX2_drawnTerms 64 = .ok (.invokestatic 51, 3) := by decide +kernel
theorem dX2_drawnTerms_67 : decode cX2_drawnTerms 67 = .ok (.aload_n 0, 1) := by decide +kernel
theorem dX2_drawnTerms_68 : decode cX2_drawnTerms 68 = .ok (.getfield 12, 3) := by decide +kernel
theorem dX2_drawnTerms_71 : decode cX2_drawnTerms 71 = .ok (.iload 5, 2) := by decide +kernel
theorem dX2_drawnTerms_73 : decode cX2_drawnTerms 73 = .ok (.bipush 8, 2) := by decide +kernel
theorem dX2_drawnTerms_75 : decode cX2_drawnTerms 75 = .ok (.iushr, 1) := by decide +kernel
theorem dX2_drawnTerms_76 : decode cX2_drawnTerms 76 = .ok (.bipush 10, 2) := by decide +kernel
theorem dX2_drawnTerms_78 : decode cX2_drawnTerms 78 = .ok (.irem, 1) := by decide +kernel
theorem dX2_drawnTerms_79 : decode cX2_drawnTerms 79 = .ok (.invokevirtual 65, 3) := by decide +kernel
theorem dX2_drawnTerms_82 : decode cX2_drawnTerms 82 = .ok (.iinc 8 1, 3) := by decide +kernel
theorem dX2_drawnTerms_85 : decode cX2_drawnTerms 85 = .ok (.goto (-49), 3) := by decide +kernel
theorem dX2_drawnTerms_88 : decode cX2_drawnTerms 88 = .ok (.iload 6, 2) := by decide +kernel
theorem dX2_drawnTerms_90 : decode cX2_drawnTerms 90 = .ok (.aload_n 0, 1) := by decide +kernel
theorem dX2_drawnTerms_91 : decode cX2_drawnTerms 91 = .ok (.getfield 32, 3) := by decide +kernel
theorem dX2_drawnTerms_94 : decode cX2_drawnTerms 94 = .ok (.iload 4, 2) := by decide +kernel
theorem dX2_drawnTerms_96 : decode cX2_drawnTerms 96 = .ok (.invokestatic 47, 3) := by decide +kernel
theorem dX2_drawnTerms_99 : decode cX2_drawnTerms 99 = .ok (.iload 4, 2) := by decide +kernel
theorem dX2_drawnTerms_101 : decode cX2_drawnTerms 101 = .ok (.invokestatic 51, 3) := by decide +kernel
theorem dX2_drawnTerms_104 : decode cX2_drawnTerms 104 = .ok (.invokevirtual 129, 3) := by decide +kernel
theorem dX2_drawnTerms_107 : decode cX2_drawnTerms 107 = .ok (.iadd, 1) := by decide +kernel
theorem dX2_drawnTerms_108 : decode cX2_drawnTerms 108 = .ok (.istore 6, 2) := by decide +kernel
theorem dX2_drawnTerms_110 : decode cX2_drawnTerms 110 = .ok (.iinc 7 1, 3) := by decide +kernel
theorem dX2_drawnTerms_113 : decode cX2_drawnTerms 113 = .ok (.goto (-93), 3) := by decide +kernel
theorem dX2_drawnTerms_116 : decode cX2_drawnTerms 116 = .ok (.iload 6, 2) := by decide +kernel
theorem dX2_drawnTerms_118 : decode cX2_drawnTerms 118 = .ok (.ireturn, 1) := by decide +kernel
theorem dX3_init_0 : decode cX3_init 0 = .ok (.aload_n 0, 1) := by decide +kernel
theorem dX3_init_1 : decode cX3_init 1 = .ok (.invokespecial 3, 3) := by decide +kernel
theorem dX3_init_4 : decode cX3_init 4 = .ok (.aload_n 0, 1) := by decide +kernel
theorem dX3_init_5 : decode cX3_init 5 = .ok (.bipush 50, 2) := by decide +kernel
theorem dX3_init_7 : decode cX3_init 7 = .ok (.newarray .int, 2) := by decide +kernel
theorem dX3_init_9 : decode cX3_init 9 = .ok (.putfield 11, 3) := by decide +kernel
theorem dX3_init_12 : decode cX3_init 12 = .ok (.aload_n 0, 1) := by decide +kernel
theorem dX3_init_13 : decode cX3_init 13 = .ok (.bipush 24, 2) := by decide +kernel
theorem dX3_init_15 : decode cX3_init 15 = .ok (.newarray .int, 2) := by decide +kernel
theorem dX3_init_17 : decode cX3_init 17 = .ok (.putfield 15, 3) := by decide +kernel
theorem dX3_init_20 : decode cX3_init 20 = .ok (.return_, 1) := by decide +kernel
theorem dX3_isKind_0 : decode cX3_isKind 0 = .ok (.iload_n 0, 1) := by decide +kernel
theorem dX3_isKind_1 : decode cX3_isKind 1 = .ok (.ifCond .lt 15, 3) := by decide +kernel
theorem dX3_isKind_4 : decode cX3_isKind 4 = .ok (.iload_n 0, 1) := by decide +kernel
theorem dX3_isKind_5 : decode cX3_isKind 5 = .ok (.getstatic 18, 3) := by decide +kernel
theorem dX3_isKind_8 : decode cX3_isKind 8 = .ok (.arraylength, 1) := by decide +kernel
theorem dX3_isKind_9 : decode cX3_isKind 9 = .ok (.if_icmp .ge 7, 3) := by decide +kernel
theorem dX3_isKind_12 : decode cX3_isKind 12 = .ok (.iconst 1, 1) := by decide +kernel
theorem dX3_isKind_13 : decode cX3_isKind 13 = .ok (.goto 4, 3) := by decide +kernel
theorem dX3_isKind_16 : decode cX3_isKind 16 = .ok (.iconst 0, 1) := by decide +kernel
theorem dX3_isKind_17 : decode cX3_isKind 17 = .ok (.ireturn, 1) := by decide +kernel
theorem dX3_isUnder_0 : decode cX3_isUnder 0 = .ok (.iload_n 0, 1) := by decide +kernel
theorem dX3_isUnder_1 : decode cX3_isUnder 1 = .ok (.istore_n 2, 1) := by decide +kernel
theorem dX3_isUnder_2 : decode cX3_isUnder 2 = .ok (.iconst 0, 1) := by decide +kernel
theorem dX3_isUnder_3 : decode cX3_isUnder 3 = .ok (.istore_n 3, 1) := by decide +kernel
theorem dX3_isUnder_4 : decode cX3_isUnder 4 = .ok (.iload_n 3, 1) := by decide +kernel
theorem dX3_isUnder_5 : decode cX3_isUnder 5 = .ok (.getstatic 18, 3) := by decide +kernel
theorem dX3_isUnder_8 : decode cX3_isUnder 8 = .ok (.arraylength, 1) := by decide +kernel
theorem dX3_isUnder_9 : decode cX3_isUnder 9 = .ok (.if_icmp .ge 29, 3) := by decide +kernel
theorem dX3_isUnder_12 : decode cX3_isUnder 12 = .ok (.iload_n 2, 1) := by decide +kernel
theorem dX3_isUnder_13 : decode cX3_isUnder 13 = .ok (.invokestatic 21, 3) := by decide +kernel
theorem dX3_isUnder_16 : decode cX3_isUnder 16 = .ok (.ifCond .eq 22, 3) := by decide +kernel
theorem dX3_isUnder_19 : decode cX3_isUnder 19 = .ok (.iload_n 2, 1) := by decide +kernel
theorem dX3_isUnder_20 : decode cX3_isUnder 20 = .ok (.iload_n 1, 1) := by decide +kernel
theorem dX3_isUnder_21 : decode cX3_isUnder 21 = .ok (.if_icmp .ne 5, 3) := by decide +kernel
theorem dX3_isUnder_24 : decode cX3_isUnder 24 = .ok (.iconst 1, 1) := by decide +kernel
theorem dX3_isUnder_25 : decode cX3_isUnder 25 = .ok (.ireturn, 1) := by decide +kernel
theorem dX3_isUnder_26 : decode cX3_isUnder 26 = .ok (.getstatic 18, 3) := by decide +kernel
theorem dX3_isUnder_29 : decode cX3_isUnder 29 = .ok (.iload_n 2, 1) := by decide +kernel
theorem dX3_isUnder_30 : decode cX3_isUnder 30 = .ok (.iaload, 1) := by decide +kernel
theorem dX3_isUnder_31 : decode cX3_isUnder 31 = .ok (.istore_n 2, 1) := by decide +kernel
theorem dX3_isUnder_32 : decode cX3_isUnder 32 = .ok (.iinc 3 1, 3) := by decide +kernel
theorem dX3_isUnder_35 : decode cX3_isUnder 35 = .ok (.goto (-31), 3) := by decide +kernel
theorem dX3_isUnder_38 : decode cX3_isUnder 38 = .ok (.iconst 0, 1) := by decide +kernel
theorem dX3_isUnder_39 : decode cX3_isUnder 39 = .ok (.ireturn, 1) := by decide +kernel
theorem dX3_come_0 : decode cX3_come 0 = .ok (.aload_n 0, 1) := by decide +kernel
theorem dX3_come_1 : decode cX3_come 1 = .ok (.getfield 25, 3) := by decide +kernel
theorem dX3_come_4 : decode cX3_come 4 = .ok (.bipush 50, 2) := by decide +kernel
theorem dX3_come_6 : decode cX3_come 6 = .ok (.if_icmp .lt 6, 3) := by decide +kernel
theorem dX3_come_9 : decode cX3_come 9 = .ok (.bipush (-3), 2) := by decide +kernel
theorem dX3_come_11 : decode cX3_come 11 = .ok (.ireturn, 1) := by decide +kernel
theorem dX3_come_12 : decode cX3_come 12 = .ok (.aload_n 0, 1) := by decide +kernel
theorem dX3_come_13 : decode cX3_come 13 = .ok (.getfield 11, 3) := by decide +kernel
theorem dX3_come_16 : decode cX3_come 16 = .ok (.aload_n 0, 1) := by decide +kernel
theorem dX3_come_17 : decode cX3_come 17 = .ok (.getfield 25, 3) := by decide +kernel
theorem dX3_come_20 : decode cX3_come 20 = .ok (.iload_n 1, 1) := by decide +kernel
theorem dX3_come_21 : decode cX3_come 21 = .ok (.iastore, 1) := by decide +kernel
theorem dX3_come_22 : decode cX3_come 22 = .ok (.aload_n 0, 1) := by decide +kernel
theorem dX3_come_23 : decode cX3_come 23 = .ok (.dup, 1) := by decide +kernel
theorem dX3_come_24 : decode cX3_come 24 = .ok (.getfield 25, 3) := by decide +kernel
theorem dX3_come_27 : decode cX3_come 27 = .ok (.dup_x1, 1) := by decide +kernel
theorem dX3_come_28 : decode cX3_come 28 = .ok (.iconst 1, 1) := by decide +kernel
theorem dX3_come_29 : decode cX3_come 29 = .ok (.iadd, 1) := by decide +kernel
theorem dX3_come_30 : decode cX3_come 30 = .ok (.putfield 25, 3) := by decide +kernel
theorem dX3_come_33 : decode cX3_come 33 = .ok (.ireturn, 1) := by decide +kernel
theorem dX3_isOne_0 : decode cX3_isOne 0 = .ok (.iload_n 1, 1) := by decide +kernel
theorem dX3_isOne_1 : decode cX3_isOne 1 = .ok (.ifCond .lt 15, 3) := by decide +kernel
theorem dX3_isOne_4 : decode cX3_isOne 4 = .ok (.iload_n 1, 1) := by decide +kernel
theorem dX3_isOne_5 : decode cX3_isOne 5 = .ok (.aload_n 0, 1) := by decide +kernel
theorem dX3_isOne_6 : decode cX3_isOne 6 = .ok (.getfield 25, 3) := by decide +kernel
theorem dX3_isOne_9 : decode cX3_isOne 9 = .ok (.if_icmp .ge 7, 3) := by decide +kernel
theorem dX3_isOne_12 : decode cX3_isOne 12 = .ok (.iconst 1, 1) := by decide +kernel
theorem dX3_isOne_13 : decode cX3_isOne 13 = .ok (.goto 4, 3) := by decide +kernel
theorem dX3_isOne_16 : decode cX3_isOne 16 = .ok (.iconst 0, 1) := by decide +kernel
theorem dX3_isOne_17 : decode cX3_isOne 17 = .ok (.ireturn, 1) := by decide +kernel
theorem dX3_kindOf_0 : decode cX3_kindOf 0 = .ok (.aload_n 0, 1) := by decide +kernel
theorem dX3_kindOf_1 : decode cX3_kindOf 1 = .ok (.iload_n 1, 1) := by decide +kernel
theorem dX3_kindOf_2 : decode cX3_kindOf 2 = .ok (.invokevirtual 29, 3) := by decide +kernel
theorem dX3_kindOf_5 : decode cX3_kindOf 5 = .ok (.ifCond .eq 12, 3) := by decide +kernel
theorem dX3_kindOf_8 : decode cX3_kindOf 8 = .ok (.aload_n 0, 1) := by decide +kernel
theorem dX3_kindOf_9 : decode cX3_kindOf 9 = .ok (.getfield 11, 3) := by decide +kernel
theorem dX3_kindOf_12 : decode cX3_kindOf 12 = .ok (.iload_n 1, 1) := by decide +kernel
theorem dX3_kindOf_13 : decode cX3_kindOf 13 = .ok (.iaload, 1) := by decide +kernel
theorem dX3_kindOf_14 : decode cX3_kindOf 14 = .ok (.goto 4, 3) := by decide +kernel
theorem dX3_kindOf_17 : decode cX3_kindOf 17 = .ok (.iconst (-1), 1) := by decide +kernel
theorem dX3_kindOf_18 : decode cX3_kindOf 18 = .ok (.ireturn, 1) := by decide +kernel
theorem dX3_traced_0 : decode cX3_traced 0 = .ok (.aload_n 0, 1) := by decide +kernel
theorem dX3_traced_1 : decode cX3_traced 1 = .ok (.getfield 32, 3) := by decide +kernel
theorem dX3_traced_4 : decode cX3_traced 4 = .ok (.bipush 24, 2) := by decide +kernel
theorem dX3_traced_6 : decode cX3_traced 6 = .ok (.invokestatic 35, 3) := by decide +kernel
theorem dX3_traced_9 : decode cX3_traced 9 = .ok (.ireturn, 1) := by decide +kernel
theorem dX3_acted_0 : decode cX3_acted 0 = .ok (.aload_n 0, 1) := by decide +kernel
theorem dX3_acted_1 : decode cX3_acted 1 = .ok (.iconst 0, 1) := by decide +kernel
theorem dX3_acted_2 : decode cX3_acted 2 = .ok (.putfield 32, 3) := by decide +kernel
theorem dX3_acted_5 : decode cX3_acted 5 = .ok (.aload_n 0, 1) := by decide +kernel
theorem dX3_acted_6 : decode cX3_acted 6 = .ok (.iload_n 1, 1) := by decide +kernel
theorem dX3_acted_7 : decode cX3_acted 7 = .ok (.invokevirtual 29, 3) := by decide +kernel
theorem dX3_acted_10 : decode cX3_acted 10 = .ok (.ifCond .eq 12, 3) := by decide +kernel
theorem dX3_acted_13 : decode cX3_acted 13 = .ok (.iload_n 2, 1) := by decide +kernel
theorem dX3_acted_14 : decode cX3_acted 14 = .ok (.ifCond .lt 8, 3) := by decide +kernel
theorem dX3_acted_17 : decode cX3_acted 17 = .ok (.iload_n 2, 1) := by decide +kernel
theorem dX3_acted_18 : decode cX3_acted 18 = .ok (.iconst 3, 1) := by decide +kernel
theorem dX3_acted_19 : decode cX3_acted 19 = .ok (.if_icmp .le 5, 3) := by decide +kernel
theorem dX3_acted_22 : decode cX3_acted 22 = .ok (.iconst 0, 1) := by decide +kernel
theorem dX3_acted_23 : decode cX3_acted 23 = .ok (.ireturn, 1) := by decide +kernel
theorem dX3_acted_24 : decode cX3_acted 24 = .ok (.aload_n 0, 1) := by decide +kernel
theorem dX3_acted_25 : decode cX3_acted 25 = .ok (.iload_n 1, 1) := by decide +kernel
theorem dX3_acted_26 : decode cX3_acted 26 = .ok (.putfield 41, 3) := by decide +kernel
theorem dX3_acted_29 : decode cX3_acted 29 = .ok (.aload_n 0, 1) := by decide +kernel
theorem dX3_acted_30 : decode cX3_acted 30 = .ok (.aload_n 0, 1) := by decide +kernel
theorem dX3_acted_31 : decode cX3_acted 31 = .ok (.getfield 11, 3) := by decide +kernel
theorem dX3_acted_34 : decode cX3_acted 34 = .ok (.iload_n 1, 1) := by decide +kernel
theorem dX3_acted_35 : decode cX3_acted 35 = .ok (.iaload, 1) := by decide +kernel
theorem dX3_acted_36 : decode cX3_acted 36 = .ok (.putfield 44, 3) := by decide +kernel
theorem dX3_acted_39 : decode cX3_acted 39 = .ok (.aload_n 0, 1) := by decide +kernel
theorem dX3_acted_40 : decode cX3_acted 40 = .ok (.aload_n 0, 1) := by decide +kernel
theorem dX3_acted_41 : decode cX3_acted 41 = .ok (.getfield 44, 3) := by decide +kernel
theorem dX3_acted_44 : decode cX3_acted 44 = .ok (.iload_n 2, 1) := by decide +kernel
theorem dX3_acted_45 : decode cX3_acted 45 = .ok (.iload_n 3, 1) := by decide +kernel
theorem dX3_acted_46 : decode cX3_acted 46 = .ok (.iconst 0, 1) := by decide +kernel
theorem dX3_acted_47 : decode cX3_acted 47 = .ok (.invokevirtual 47, 3) := by decide +kernel
theorem dX3_acted_50 : decode cX3_acted 50 = .ok (.ireturn, 1) := by decide +kernel
theorem dX3_bodyFrom_0 : decode cX3_bodyFrom 0 = .ok (.iload_n 0, 1) := by decide +kernel
theorem dX3_bodyFrom_1 : decode cX3_bodyFrom 1 = .ok (.istore_n 2, 1) := by decide +kernel
theorem dX3_bodyFrom_2 : decode cX3_bodyFrom 2 = .ok (.iconst 0, 1) := by decide +kernel
theorem dX3_bodyFrom_3 : decode cX3_bodyFrom 3 = .ok (.istore_n 3, 1) := by decide +kernel
theorem dX3_bodyFrom_4 : decode cX3_bodyFrom 4 = .ok (.iload_n 3, 1) := by decide +kernel
theorem dX3_bodyFrom_5 : decode cX3_bodyFrom 5 = .ok (.getstatic 18, 3) := by decide +kernel
theorem dX3_bodyFrom_8 : decode cX3_bodyFrom 8 = .ok (.arraylength, 1) := by decide +kernel
theorem dX3_bodyFrom_9 : decode cX3_bodyFrom 9 = .ok (.if_icmp .ge 41, 3) := by decide +kernel
theorem dX3_bodyFrom_12 : decode cX3_bodyFrom 12 = .ok (.iload_n 2, 1) := by decide +kernel
theorem dX3_bodyFrom_13 : decode cX3_bodyFrom 13 = .ok (.invokestatic 21, 3) := by decide +kernel
theorem dX3_bodyFrom_16 : decode cX3_bodyFrom 16 = .ok (.ifCond .eq 34, 3) := by decide +kernel
theorem dX3_bodyFrom_19 : decode cX3_bodyFrom 19 = .ok (.getstatic 51, 3) := by decide +kernel
theorem dX3_bodyFrom_22 : decode cX3_bodyFrom 22 = .ok (.iload_n 2, 1) := by decide +kernel
theorem dX3_bodyFrom_23 : decode cX3_bodyFrom 23 = .ok (.iconst 4, 1) := by decide +kernel
theorem dX3_bodyFrom_24 : decode cX3_bodyFrom 24 = .ok (.imul, 1) := by decide +kernel
theorem dX3_bodyFrom_25 : decode cX3_bodyFrom 25 = .ok (.iload_n 1, 1) := by decide +kernel
theorem dX3_bodyFrom_26 : decode cX3_bodyFrom 26 = .ok (.iadd, 1) := by decide +kernel
theorem dX3_bodyFrom_27 : decode cX3_bodyFrom 27 = .ok (.iaload, 1) := by decide +kernel
theorem dX3_bodyFrom_28 : decode cX3_bodyFrom 28 = .ok (.istore 4, 2) := by decide +kernel
theorem dX3_bodyFrom_30 : decode cX3_bodyFrom 30 = .ok (.iload 4, 2) := by decide +kernel
theorem dX3_bodyFrom_32 : decode cX3_bodyFrom 32 = .ok (.ifCond .eq 6, 3) := by decide +kernel
theorem dX3_bodyFrom_35 : decode cX3_bodyFrom 35 = .ok (.iload 4, 2) := by decide +kernel
theorem dX3_bodyFrom_37 : decode cX3_bodyFrom 37 = .ok (.ireturn, 1) := by decide +kernel
theorem dX3_bodyFrom_38 : decode cX3_bodyFrom 38 = .ok (.getstatic 18, 3) := by decide +kernel
theorem dX3_bodyFrom_41 : decode cX3_bodyFrom 41 = .ok (.iload_n 2, 1) := by decide +kernel
theorem dX3_bodyFrom_42 : decode cX3_bodyFrom 42 = .ok (.iaload, 1) := by decide +kernel
theorem dX3_bodyFrom_43 : decode cX3_bodyFrom 43 = .ok (.istore_n 2, 1) := by decide +kernel
theorem dX3_bodyFrom_44 : decode cX3_bodyFrom 44 = .ok (.iinc 3 1, 3) := by decide +kernel
theorem dX3_bodyFrom_47 : decode cX3_bodyFrom 47 = .ok (.goto (-43), 3) := by decide +kernel
theorem dX3_bodyFrom_50 : decode cX3_bodyFrom 50 = .ok (.iconst 0, 1) := by decide +kernel
theorem dX3_bodyFrom_51 : decode cX3_bodyFrom 51 = .ok (.ireturn, 1) := by decide +kernel
theorem dX3_began_0 : decode cX3_began 0 = .ok (.aload_n 0, 1) := by decide +kernel
theorem dX3_began_1 : decode cX3_began 1 = .ok (.getfield 32, 3) := by decide +kernel
theorem dX3_began_4 : decode cX3_began 4 = .ok (.bipush 24, 2) := by decide +kernel
theorem dX3_began_6 : decode cX3_began 6 = .ok (.if_icmp .ge 13, 3) := by decide +kernel
theorem dX3_began_9 : decode cX3_began 9 = .ok (.aload_n 0, 1) := by decide +kernel
theorem dX3_began_10 : decode cX3_began 10 = .ok (.getfield 15, 3) := by decide +kernel
theorem dX3_began_13 : decode cX3_began 13 = .ok (.aload_n 0, 1) := by decide +kernel
theorem dX3_began_14 : decode cX3_began 14 = .ok (.getfield 32, 3) := by decide +kernel
theorem dX3_began_17 : decode cX3_began 17 = .ok (.iload_n 1, 1) := by decide +kernel
theorem dX3_began_18 : decode cX3_began 18 = .ok (.iastore, 1) := by decide +kernel
theorem dX3_began_19 : decode cX3_began 19 = .ok (.aload_n 0, 1) := by decide +kernel
theorem dX3_began_20 : decode cX3_began 20 = .ok (.dup, 1) := by decide +kernel
theorem dX3_began_21 : decode cX3_began 21 = .ok (.getfield 32, 3) := by decide +kernel
theorem dX3_began_24 : decode cX3_began 24 = .ok (.iconst 1, 1) := by decide +kernel
theorem dX3_began_25 : decode cX3_began 25 = .ok (.iadd, 1) := by decide +kernel
theorem dX3_began_26 : decode cX3_began 26 = .ok (.putfield 32, 3) := by decide +kernel
theorem dX3_began_29 : decode cX3_began 29 = .ok (.return_, 1) := by decide +kernel
theorem dX3_run_0 : decode cX3_run 0 = .ok (.iload 4, 2) := by decide +kernel
theorem dX3_run_2 : decode cX3_run 2 = .ok (.bipush 40, 2) := by decide +kernel
theorem dX3_run_4 : decode cX3_run 4 = .ok (.if_icmp .le 5, 3) := by decide +kernel
theorem dX3_run_7 : decode cX3_run 7 = .ok (.iconst 0, 1) := by decide +kernel
theorem dX3_run_8 : decode cX3_run 8 = .ok (.ireturn, 1) := by decide +kernel
theorem dX3_run_9 : decode cX3_run 9 = .ok (.iload 4, 2) := by decide +kernel
theorem dX3_run_11 : decode cX3_run 11 = .ok (.iconst 1, 1) := by decide +kernel
theorem dX3_run_12 : decode cX3_run 12 = .ok (.iadd, 1) := by decide +kernel
theorem dX3_run_13 : decode cX3_run 13 = .ok (.istore 5, 2) := by decide +kernel
theorem dX3_run_15 : decode cX3_run 15 = .ok (.iload_n 1, 1) := by decide +kernel
theorem dX3_run_16 : decode cX3_run 16 = .ok (.iload_n 2, 1) := by decide +kernel
theorem dX3_run_17 : decode cX3_run 17 = .ok (.invokestatic 54, 3) := by decide +kernel
theorem dX3_run_20 : decode cX3_run 20 = .ok (.istore 6, 2) := by decide +kernel
theorem dX3_run_22 : decode cX3_run 22 = .ok (.aload_n 0, 1) := by decide +kernel
theorem dX3_run_23 : decode cX3_run 23 = .ok (.iload 6, 2) := by decide +kernel
theorem dX3_run_25 : decode cX3_run 25 = .ok (.invokevirtual 57, 3) := by decide +kernel
theorem dX3_run_28 : decode cX3_run 28 = .ok (.iload 6, 2) := by decide +kernel
theorem dX3_run_30 : decode cX3_run 30 = .ok (.lookupswitch 298 #[(1, 114), (2, 121), (10, 147), (11, 162), (20, 169), (30, 181), (40, 192), (41, 204), (50, 216), (60, 239), (70, 251), (80, 263), (81, 286)], 114) := by decide +kernel
theorem dX3_run_144 : decode cX3_run 144 = .ok (.iload_n 3, 1) := by decide +kernel
theorem dX3_run_145 : decode cX3_run 145 = .ok (.aload_n 0, 1) := by decide +kernel
theorem dX3_run_146 : decode cX3_run 146 = .ok (.getfield 41, 3) := by decide +kernel
theorem dX3_run_149 : decode cX3_run 149 = .ok (.iadd, 1) := by decide +kernel
theorem dX3_run_150 : decode cX3_run 150 = .ok (.ireturn, 1) := by decide +kernel
theorem dX3_run_151 : decode cX3_run 151 = .ok (.aload_n 0, 1) := by decide +kernel
theorem dX3_run_152 : decode cX3_run 152 = .ok (.aload_n 0, 1) := by decide +kernel
theorem dX3_run_153 : decode cX3_run 153 = .ok (.getfield 44, 3) := by decide +kernel
theorem dX3_run_156 : decode cX3_run 156 = .ok (.iconst 1, 1) := by decide +kernel
theorem dX3_run_157 : decode cX3_run 157 = .ok (.iload_n 3, 1) := by decide +kernel
theorem dX3_run_158 : decode cX3_run 158 = .ok (.iload 5, 2) := by decide +kernel
theorem dX3_run_160 : decode cX3_run 160 = .ok (.invokevirtual 47, 3) := by decide +kernel
theorem dX3_run_163 : decode cX3_run 163 = .ok (.aload_n 0, 1) := by decide +kernel
theorem dX3_run_164 : decode cX3_run 164 = .ok (.aload_n 0, 1) := by decide +kernel
theorem dX3_run_165 : decode cX3_run 165 = .ok (.getfield 44, 3) := by decide +kernel
theorem dX3_run_168 : decode cX3_run 168 = .ok (.iconst 2, 1) := by decide +kernel
theorem dX3_run_169 : decode cX3_run 169 = .ok (.iconst 1, 1) := by decide +kernel
theorem dX3_run_170 : decode cX3_run 170 = .ok (.iload 5, 2) := by decide +kernel
theorem dX3_run_172 : decode cX3_run 172 = .ok (.invokevirtual 47, 3) := by decide +kernel
theorem dX3_run_175 : decode cX3_run 175 = .ok (.isub, 1) := by decide +kernel
theorem dX3_run_176 : decode cX3_run 176 = .ok (.ireturn, 1) := by decide +kernel
theorem dX3_run_177 : decode cX3_run 177 = .ok (.aload_n 0, 1) := by decide +kernel
theorem dX3_run_178 : decode cX3_run 178 = .ok (.aload_n 0, 1) := by decide +kernel
theorem dX3_run_179 : decode cX3_run 179 = .ok (.getfield 44, 3) := by decide +kernel
theorem dX3_run_182 : decode cX3_run 182 = .ok (.iconst 0, 1) := by decide +kernel
theorem dX3_run_183 : decode cX3_run 183 = .ok (.iload_n 3, 1) := by decide +kernel
theorem dX3_run_184 : decode cX3_run 184 = .ok (.iload 5, 2) := by decide +kernel
theorem dX3_run_186 : decode cX3_run 186 = .ok (.invokevirtual 47, 3) := by decide +kernel
theorem dX3_run_189 : decode cX3_run 189 = .ok (.iconst 2, 1) := by decide +kernel
theorem dX3_run_190 : decode cX3_run 190 = .ok (.imul, 1) := by decide +kernel
theorem dX3_run_191 : decode cX3_run 191 = .ok (.ireturn, 1) := by decide +kernel
theorem dX3_run_192 : decode cX3_run 192 = .ok (.iload_n 3, 1) := by decide +kernel
theorem dX3_run_193 : decode cX3_run 193 = .ok (.aload_n 0, 1) := by decide +kernel
theorem dX3_run_194 : decode cX3_run 194 = .ok (.getfield 41, 3) := by decide +kernel
theorem dX3_run_197 : decode cX3_run 197 = .ok (.ixor, 1) := by decide +kernel
theorem dX3_run_198 : decode cX3_run 198 = .ok (.ireturn, 1) := by decide +kernel
theorem dX3_run_199 : decode cX3_run 199 = .ok (.aload_n 0, 1) := by decide +kernel
theorem dX3_run_200 : decode cX3_run 200 = .ok (.iconst 0, 1) := by decide +kernel
theorem dX3_run_201 : decode cX3_run 201 = .ok (.iconst 0, 1) := by decide +kernel
theorem dX3_run_202 : decode cX3_run 202 = .ok (.iload_n 3, 1) := by decide +kernel
theorem dX3_run_203 : decode cX3_run 203 = .ok (.iload 5, 2) := by decide +kernel
theorem dX3_run_205 : decode cX3_run 205 = .ok (.invokevirtual 47, 3) := by decide +kernel
theorem dX3_run_208 : decode cX3_run 208 = .ok (.iconst 3, 1) := by decide +kernel
theorem dX3_run_209 : decode cX3_run 209 = .ok (.iadd, 1) := by decide +kernel
theorem dX3_run_210 : decode cX3_run 210 = .ok (.ireturn, 1) := by decide +kernel
theorem dX3_run_211 : decode cX3_run 211 = .ok (.aload_n 0, 1) := by decide +kernel
theorem dX3_run_212 : decode cX3_run 212 = .ok (.iconst 0, 1) := by decide +kernel
theorem dX3_run_213 : decode cX3_run 213 = .ok (.iconst 1, 1) := by decide +kernel
theorem dX3_run_214 : decode cX3_run 214 = .ok (.iload_n 3, 1) := by decide +kernel
theorem dX3_run_215 : decode cX3_run 215 = .ok (.iload 5, 2) := by decide +kernel
theorem dX3_run_217 : decode cX3_run 217 = .ok (.invokevirtual 47, 3) := by decide +kernel
theorem dX3_run_220 : decode cX3_run 220 = .ok (.ineg, 1) := by decide +kernel
theorem dX3_run_221 : decode cX3_run 221 = .ok (.ireturn, 1) := by decide +kernel
theorem dX3_run_222 : decode cX3_run 222 = .ok (.aload_n 0, 1) := by decide +kernel
theorem dX3_run_223 : decode cX3_run 223 = .ok (.iconst 2, 1) := by decide +kernel
theorem dX3_run_224 : decode cX3_run 224 = .ok (.iconst 2, 1) := by decide +kernel
theorem dX3_run_225 : decode cX3_run 225 = .ok (.iload_n 3, 1) := by decide +kernel
theorem dX3_run_226 : decode cX3_run 226 = .ok (.iload 5, 2) := by decide +kernel
theorem dX3_run_228 : decode cX3_run 228 = .ok (.invokevirtual 47, 3) := by decide +kernel
theorem dX3_run_231 : decode cX3_run 231 = .ok (.iconst 3, 1) := by decide +kernel
theorem dX3_run_232 : decode cX3_run 232 = .ok (.imul, 1) := by decide +kernel
theorem dX3_run_233 : decode cX3_run 233 = .ok (.ireturn, 1) := by decide +kernel
theorem dX3_run_234 : decode cX3_run 234 = .ok (.aload_n 0, 1) := by decide +kernel
theorem dX3_run_235 : decode cX3_run 235 = .ok (.iconst 2, 1) := by decide +kernel
theorem dX3_run_236 : decode cX3_run 236 = .ok (.iconst 1, 1) := by decide +kernel
theorem dX3_run_237 : decode cX3_run 237 = .ok (.iload_n 3, 1) := by decide +kernel
theorem dX3_run_238 : decode cX3_run 238 = .ok (.iconst 1, 1) := by decide +kernel
theorem dX3_run_239 : decode cX3_run 239 = .ok (.iadd, 1) := by decide +kernel
theorem dX3_run_240 : decode cX3_run 240 = .ok (.iload 5, 2) := by decide +kernel
theorem dX3_run_242 : decode cX3_run 242 = .ok (.invokevirtual 47, 3) := by decide +kernel
theorem dX3_run_245 : decode cX3_run 245 = .ok (.ireturn, 1) := by decide +kernel
theorem dX3_run_246 : decode cX3_run 246 = .ok (.aload_n 0, 1) := by decide +kernel
theorem dX3_run_247 : decode cX3_run 247 = .ok (.iconst 1, 1) := by decide +kernel
theorem dX3_run_248 : decode cX3_run 248 = .ok (.iconst 2, 1) := by decide +kernel
theorem dX3_run_249 : decode cX3_run 249 = .ok (.iload_n 3, 1) := by decide +kernel
theorem dX3_run_250 : decode cX3_run 250 = .ok (.iload 5, 2) := by decide +kernel
theorem dX3_run_252 : decode cX3_run 252 = .ok (.invokevirtual 47, 3) := by decide +kernel
theorem dX3_run_255 : decode cX3_run 255 = .ok (.aload_n 0, 1) := by decide +kernel
theorem dX3_run_256 : decode cX3_run 256 = .ok (.aload_n 0, 1) := by decide +kernel
theorem dX3_run_257 : decode cX3_run 257 = .ok (.getfield 44, 3) := by decide +kernel
theorem dX3_run_260 : decode cX3_run 260 = .ok (.iconst 0, 1) := by decide +kernel
theorem dX3_run_261 : decode cX3_run 261 = .ok (.iconst 2, 1) := by decide +kernel
theorem dX3_run_262 : decode cX3_run 262 = .ok (.iload 5, 2) := by decide +kernel
theorem dX3_run_264 : decode cX3_run 264 = .ok (.invokevirtual 47, 3) := by decide +kernel
theorem dX3_run_267 : decode cX3_run 267 = .ok (.isub, 1) := by decide +kernel
theorem dX3_run_268 : decode cX3_run 268 = .ok (.ireturn, 1) := by decide +kernel
theorem dX3_run_269 : decode cX3_run 269 = .ok (.aload_n 0, 1) := by decide +kernel
theorem dX3_run_270 : decode cX3_run 270 = .ok (.iconst 3, 1) := by decide +kernel
theorem dX3_run_271 : decode cX3_run 271 = .ok (.iconst 3, 1) := by decide +kernel
theorem dX3_run_272 : decode cX3_run 272 = .ok (.iload_n 3, 1) := by decide +kernel
theorem dX3_run_273 : decode cX3_run 273 = .ok (.iload 5, 2) := by decide +kernel
theorem dX3_run_275 : decode cX3_run 275 = .ok (.invokevirtual 47, 3) := by decide +kernel
theorem dX3_run_278 : decode cX3_run 278 = .ok (.iconst 5, 1) := by decide +kernel
theorem dX3_run_279 : decode cX3_run 279 = .ok (.ixor, 1) := by decide +kernel
theorem dX3_run_280 : decode cX3_run 280 = .ok (.ireturn, 1) := by decide +kernel
theorem dX3_run_281 : decode cX3_run 281 = .ok (.aload_n 0, 1) := by decide +kernel
theorem dX3_run_282 : decode cX3_run 282 = .ok (.iconst 0, 1) := by decide +kernel
theorem dX3_run_283 : decode cX3_run 283 = .ok (.iconst 0, 1) := by decide +kernel
theorem dX3_run_284 : decode cX3_run 284 = .ok (.iload_n 3, 1) := by decide +kernel
theorem dX3_run_285 : decode cX3_run 285 = .ok (.iload 5, 2) := by decide +kernel
theorem dX3_run_287 : decode cX3_run 287 = .ok (.invokevirtual 47, 3) := by decide +kernel
theorem dX3_run_290 : decode cX3_run 290 = .ok (.iconst 2, 1) := by decide +kernel
theorem dX3_run_291 : decode cX3_run 291 = .ok (.imul, 1) := by decide +kernel
theorem dX3_run_292 : decode cX3_run 292 = .ok (.ireturn, 1) := by decide +kernel
theorem dX3_run_293 : decode cX3_run 293 = .ok (.aload_n 0, 1) := by decide +kernel
theorem dX3_run_294 : decode cX3_run 294 = .ok (.iconst 4, 1) := by decide +kernel
theorem dX3_run_295 : decode cX3_run 295 = .ok (.iconst 1, 1) := by decide +kernel
theorem dX3_run_296 : decode cX3_run 296 = .ok (.iload_n 3, 1) := by decide +kernel
theorem dX3_run_297 : decode cX3_run 297 = .ok (.iload 5, 2) := by decide +kernel
theorem dX3_run_299 : decode cX3_run 299 = .ok (.invokevirtual 47, 3) := by decide +kernel
theorem dX3_run_302 : decode cX3_run 302 = .ok (.aload_n 0, 1) := by decide +kernel
theorem dX3_run_303 : decode cX3_run 303 = .ok (.aload_n 0, 1) := by decide +kernel
theorem dX3_run_304 : decode cX3_run 304 = .ok (.getfield 44, 3) := by decide +kernel
theorem dX3_run_307 : decode cX3_run 307 = .ok (.iconst 2, 1) := by decide +kernel
theorem dX3_run_308 : decode cX3_run 308 = .ok (.iconst 2, 1) := by decide +kernel
theorem dX3_run_309 : decode cX3_run 309 = .ok (.iload 5, 2) := by decide +kernel
theorem dX3_run_311 : decode cX3_run 311 = .ok (.invokevirtual 47, 3) := by decide +kernel
theorem dX3_run_314 : decode cX3_run 314 = .ok (.iadd, 1) := by decide +kernel
theorem dX3_run_315 : decode cX3_run 315 = .ok (.ireturn, 1) := by decide +kernel
theorem dX3_run_316 : decode cX3_run 316 = .ok (.aload_n 0, 1) := by decide +kernel
theorem dX3_run_317 : decode cX3_run 317 = .ok (.iconst 4, 1) := by decide +kernel
theorem dX3_run_318 : decode cX3_run 318 = .ok (.iconst 3, 1) := by decide +kernel
theorem dX3_run_319 : decode cX3_run 319 = .ok (.iload_n 3, 1) := by decide +kernel
theorem dX3_run_320 : decode cX3_run 320 = .ok (.iload 5, 2) := by decide +kernel
theorem dX3_run_322 : decode cX3_run 322 = .ok (.invokevirtual 47, 3) := by decide +kernel
theorem dX3_run_325 : decode cX3_run 325 = .ok (.iconst 1, 1) := by decide +kernel
theorem dX3_run_326 : decode cX3_run 326 = .ok (.isub, 1) := by decide +kernel
theorem dX3_run_327 : decode cX3_run 327 = .ok (.ireturn, 1) := by decide +kernel
theorem dX3_run_328 : decode cX3_run 328 = .ok (.iconst 0, 1) := by decide +kernel
theorem dX3_run_329 : decode cX3_run 329 = .ok (.ireturn, 1) := by decide +kernel
theorem dX4_init_0 : decode cX4_init 0 = .ok (.aload_n 0, 1) := by decide +kernel
theorem dX4_init_1 : decode cX4_init 1 = .ok (.invokespecial 1, 3) := by decide +kernel
theorem dX4_init_4 : decode cX4_init 4 = .ok (.aload_n 0, 1) := by decide +kernel
theorem dX4_init_5 : decode cX4_init 5 = .ok (.bipush 120, 2) := by decide +kernel
theorem dX4_init_7 : decode cX4_init 7 = .ok (.newarray .int, 2) := by decide +kernel
theorem dX4_init_9 : decode cX4_init 9 = .ok (.putfield 9, 3) := by decide +kernel
theorem dX4_init_12 : decode cX4_init 12 = .ok (.aload_n 0, 1) := by decide +kernel
theorem dX4_init_13 : decode cX4_init 13 = .ok (.bipush 60, 2) := by decide +kernel
theorem dX4_init_15 : decode cX4_init 15 = .ok (.newarray .int, 2) := by decide +kernel
theorem dX4_init_17 : decode cX4_init 17 = .ok (.putfield 15, 3) := by decide +kernel
theorem dX4_init_20 : decode cX4_init 20 = .ok (.aload_n 0, 1) := by decide +kernel
theorem dX4_init_21 : decode cX4_init 21 = .ok (.bipush 60, 2) := by decide +kernel
theorem dX4_init_23 : decode cX4_init 23 = .ok (.newarray .int, 2) := by decide +kernel
theorem dX4_init_25 : decode cX4_init 25 = .ok (.putfield 18, 3) := by decide +kernel
theorem dX4_init_28 : decode cX4_init 28 = .ok (.aload_n 0, 1) := by decide +kernel
theorem dX4_init_29 : decode cX4_init 29 = .ok (.bipush 120, 2) := by decide +kernel
theorem dX4_init_31 : decode cX4_init 31 = .ok (.newarray .int, 2) := by decide +kernel
theorem dX4_init_33 : decode cX4_init 33 = .ok (.putfield 21, 3) := by decide +kernel
theorem dX4_init_36 : decode cX4_init 36 = .ok (.aload_n 0, 1) := by decide +kernel
theorem dX4_init_37 : decode cX4_init 37 = .ok (.bipush 6, 2) := by decide +kernel
theorem dX4_init_39 : decode cX4_init 39 = .ok (.newarray .int, 2) := by decide +kernel
theorem dX4_init_41 : decode cX4_init 41 = .ok (.putfield 24, 3) := by decide +kernel
theorem dX4_init_44 : decode cX4_init 44 = .ok (.return_, 1) := by decide +kernel
theorem dX4_becomes_0 : decode cX4_becomes 0 = .ok (.aload_n 1, 1) := by decide +kernel
theorem dX4_becomes_1 : decode cX4_becomes 1 = .ok (.getfield 27, 3) := by decide +kernel
theorem dX4_becomes_4 : decode cX4_becomes 4 = .ok (.iconst 0, 1) := by decide +kernel
theorem dX4_becomes_5 : decode cX4_becomes 5 = .ok (.aload_n 0, 1) := by decide +kernel
theorem dX4_becomes_6 : decode cX4_becomes 6 = .ok (.getfield 9, 3) := by decide +kernel
theorem dX4_becomes_9 : decode cX4_becomes 9 = .ok (.iconst 0, 1) := by decide +kernel
theorem dX4_becomes_10 : decode cX4_becomes 10 = .ok (.bipush 120, 2) := by decide +kernel
theorem dX4_becomes_12 : decode cX4_becomes 12 = .ok (.invokestatic 28, 3) := by decide +kernel
theorem dX4_becomes_15 : decode cX4_becomes 15 = .ok (.aload_n 1, 1) := by decide +kernel
theorem dX4_becomes_16 : decode cX4_becomes 16 = .ok (.getfield 34, 3) := by decide +kernel
theorem dX4_becomes_19 : decode cX4_becomes 19 = .ok (.iconst 0, 1) := by decide +kernel
theorem dX4_becomes_20 : decode cX4_becomes 20 = .ok (.aload_n 0, 1) := by decide +kernel
theorem dX4_becomes_21 : decode cX4_becomes 21 = .ok (.getfield 15, 3) := by decide +kernel
theorem dX4_becomes_24 : decode cX4_becomes 24 = .ok (.iconst 0, 1) := by decide +kernel
theorem dX4_becomes_25 : decode cX4_becomes 25 = .ok (.bipush 60, 2) := by decide +kernel
theorem dX4_becomes_27 : decode cX4_becomes 27 = .ok (.invokestatic 28, 3) := by decide +kernel
theorem dX4_becomes_30 : decode cX4_becomes 30 = .ok (.aload_n 1, 1) := by decide +kernel
theorem dX4_becomes_31 : decode cX4_becomes 31 = .ok (.getfield 35, 3) := by decide +kernel
theorem dX4_becomes_34 : decode cX4_becomes 34 = .ok (.iconst 0, 1) := by decide +kernel
theorem dX4_becomes_35 : decode cX4_becomes 35 = .ok (.aload_n 0, 1) := by decide +kernel
theorem dX4_becomes_36 : decode cX4_becomes 36 = .ok (.getfield 18, 3) := by decide +kernel
theorem dX4_becomes_39 : decode cX4_becomes 39 = .ok (.iconst 0, 1) := by decide +kernel
theorem dX4_becomes_40 : decode cX4_becomes 40 = .ok (.bipush 60, 2) := by decide +kernel
theorem dX4_becomes_42 : decode cX4_becomes 42 = .ok (.invokestatic 28, 3) := by decide +kernel
theorem dX4_becomes_45 : decode cX4_becomes 45 = .ok (.aload_n 0, 1) := by decide +kernel
theorem dX4_becomes_46 : decode cX4_becomes 46 = .ok (.aload_n 1, 1) := by decide +kernel
theorem dX4_becomes_47 : decode cX4_becomes 47 = .ok (.getfield 36, 3) := by decide +kernel
theorem dX4_becomes_50 : decode cX4_becomes 50 = .ok (.putfield 40, 3) := by decide +kernel
theorem dX4_becomes_53 : decode cX4_becomes 53 = .ok (.return_, 1) := by decide +kernel
theorem dX4_grown_0 : decode cX4_grown 0 = .ok (.iconst 0, 1) := by decide +kernel
theorem dX4_grown_1 : decode cX4_grown 1 = .ok (.istore 7, 2) := by decide +kernel
theorem dX4_grown_3 : decode cX4_grown 3 = .ok (.aload_n 0, 1) := by decide +kernel
theorem dX4_grown_4 : decode cX4_grown 4 = .ok (.getfield 40, 3) := by decide +kernel
theorem dX4_grown_7 : decode cX4_grown 7 = .ok (.ifCond .ne 26, 3) := by decide +kernel
theorem dX4_grown_10 : decode cX4_grown 10 = .ok (.iload_n 1, 1) := by decide +kernel
theorem dX4_grown_11 : decode cX4_grown 11 = .ok (.iconst 4, 1) := by decide +kernel
theorem dX4_grown_12 : decode cX4_grown 12 = .ok (.idiv, 1) := by decide +kernel
theorem dX4_grown_13 : decode cX4_grown 13 = .ok (.iload_n 2, 1) := by decide +kernel
theorem dX4_grown_14 : decode cX4_grown 14 = .ok (.bipush 10, 2) := by decide +kernel
theorem dX4_grown_16 : decode cX4_grown 16 = .ok (.idiv, 1) := by decide +kernel
theorem dX4_grown_17 : decode cX4_grown 17 = .ok (.isub, 1) := by decide +kernel
theorem dX4_grown_18 : decode cX4_grown 18 = .ok (.iload_n 1, 1) := by decide +kernel
theorem dX4_grown_19 : decode cX4_grown 19 = .ok (.ifCond .le 10, 3) := by decide +kernel
theorem dX4_grown_22 : decode cX4_grown 22 = .ok (.iload 4, 2) := by decide +kernel
theorem dX4_grown_24 : decode cX4_grown 24 = .ok (.iconst 5, 1) := by decide +kernel
theorem dX4_grown_25 : decode cX4_grown 25 = .ok (.idiv, 1) := by decide +kernel
theorem dX4_grown_26 : decode cX4_grown 26 = .ok (.goto 4, 3) := by decide +kernel
theorem dX4_grown_29 : decode cX4_grown 29 = .ok (.iconst 0, 1) := by decide +kernel
theorem dX4_grown_30 : decode cX4_grown 30 = .ok (.iadd, 1) := by decide +kernel
theorem dX4_grown_31 : decode cX4_grown 31 = .ok (.istore 7, 2) := by decide +kernel
theorem dX4_grown_33 : decode cX4_grown 33 = .ok (.aload_n 0, 1) := by decide +kernel
theorem dX4_grown_34 : decode cX4_grown 34 = .ok (.getfield 24, 3) := by decide +kernel
theorem dX4_grown_37 : decode cX4_grown 37 = .ok (.iconst 0, 1) := by decide +kernel
theorem dX4_grown_38 : decode cX4_grown 38 = .ok (.iload_n 1, 1) := by decide +kernel
theorem dX4_grown_39 : decode cX4_grown 39 = .ok (.iastore, 1) := by decide +kernel
theorem dX4_grown_40 : decode cX4_grown 40 = .ok (.aload_n 0, 1) := by decide +kernel
theorem dX4_grown_41 : decode cX4_grown 41 = .ok (.getfield 24, 3) := by decide +kernel
theorem dX4_grown_44 : decode cX4_grown 44 = .ok (.iconst 1, 1) := by decide +kernel
theorem dX4_grown_45 : decode cX4_grown 45 = .ok (.iload_n 2, 1) := by decide +kernel
theorem dX4_grown_46 : decode cX4_grown 46 = .ok (.iastore, 1) := by decide +kernel
theorem dX4_grown_47 : decode cX4_grown 47 = .ok (.aload_n 0, 1) := by decide +kernel
theorem dX4_grown_48 : decode cX4_grown 48 = .ok (.getfield 24, 3) := by decide +kernel
theorem dX4_grown_51 : decode cX4_grown 51 = .ok (.iconst 2, 1) := by decide +kernel
theorem dX4_grown_52 : decode cX4_grown 52 = .ok (.iload_n 3, 1) := by decide +kernel
theorem dX4_grown_53 : decode cX4_grown 53 = .ok (.iastore, 1) := by decide +kernel
theorem dX4_grown_54 : decode cX4_grown 54 = .ok (.aload_n 0, 1) := by decide +kernel
theorem dX4_grown_55 : decode cX4_grown 55 = .ok (.getfield 24, 3) := by decide +kernel
theorem dX4_grown_58 : decode cX4_grown 58 = .ok (.iconst 3, 1) := by decide +kernel
theorem dX4_grown_59 : decode cX4_grown 59 = .ok (.iload 4, 2) := by decide +kernel
theorem dX4_grown_61 : decode cX4_grown 61 = .ok (.iastore, 1) := by decide +kernel
theorem dX4_grown_62 : decode cX4_grown 62 = .ok (.aload_n 0, 1) := by decide +kernel
theorem dX4_grown_63 : decode cX4_grown 63 = .ok (.getfield 24, 3) := by decide +kernel
theorem dX4_grown_66 : decode cX4_grown 66 = .ok (.iconst 4, 1) := by decide +kernel
theorem dX4_grown_67 : decode cX4_grown 67 = .ok (.iload 5, 2) := by decide +kernel
theorem dX4_grown_69 : decode cX4_grown 69 = .ok (.iastore, 1) := by decide +kernel
theorem dX4_grown_70 : decode cX4_grown 70 = .ok (.aload_n 0, 1) := by decide +kernel
theorem dX4_grown_71 : decode cX4_grown 71 = .ok (.getfield 24, 3) := by decide +kernel
theorem dX4_grown_74 : decode cX4_grown 74 = .ok (.iconst 5, 1) := by decide +kernel
theorem dX4_grown_75 : decode cX4_grown 75 = .ok (.iload 6, 2) := by decide +kernel
theorem dX4_grown_77 : decode cX4_grown 77 = .ok (.iastore, 1) := by decide +kernel
theorem dX4_grown_78 : decode cX4_grown 78 = .ok (.iconst 0, 1) := by decide +kernel
theorem dX4_grown_79 : decode cX4_grown 79 = .ok (.istore 8, 2) := by decide +kernel
theorem dX4_grown_81 : decode cX4_grown 81 = .ok (.iconst 0, 1) := by decide +kernel
theorem dX4_grown_82 : decode cX4_grown 82 = .ok (.istore 9, 2) := by decide +kernel
theorem dX4_grown_84 : decode cX4_grown 84 = .ok (.iload 9, 2) := by decide +kernel
theorem dX4_grown_86 : decode cX4_grown 86 = .ok (.aload_n 0, 1) := by decide +kernel
theorem dX4_grown_87 : decode cX4_grown 87 = .ok (.getfield 40, 3) := by decide +kernel
theorem dX4_grown_90 : decode cX4_grown 90 = .ok (.if_icmp .ge 63, 3) := by decide +kernel
theorem dX4_grown_93 : decode cX4_grown 93 = .ok (.aload_n 0, 1) := by decide +kernel
theorem dX4_grown_94 : decode cX4_grown 94 = .ok (.getfield 15, 3) := by decide +kernel
theorem dX4_grown_97 : decode cX4_grown 97 = .ok (.iload 9, 2) := by decide +kernel
theorem dX4_grown_99 : decode cX4_grown 99 = .ok (.iaload, 1) := by decide +kernel
theorem dX4_grown_100 : decode cX4_grown 100 = .ok (.istore 10, 2) := by decide +kernel
theorem dX4_grown_102 : decode cX4_grown 102 = .ok (.iload 10, 2) := by decide +kernel
theorem dX4_grown_104 : decode cX4_grown 104 = .ok (.iload 8, 2) := by decide +kernel
theorem dX4_grown_106 : decode cX4_grown 106 = .ok (.if_icmp .eq 14, 3) := by decide +kernel
theorem dX4_grown_109 : decode cX4_grown 109 = .ok (.aload_n 0, 1) := by decide +kernel
theorem dX4_grown_110 : decode cX4_grown 110 = .ok (.iload 8, 2) := by decide +kernel
theorem dX4_grown_112 : decode cX4_grown 112 = .ok (.iload 10, 2) := by decide +kernel
theorem dX4_grown_114 : decode cX4_grown 114 = .ok (.invokevirtual 41, 3) := by decide +kernel
theorem dX4_grown_117 : decode cX4_grown 117 = .ok (.ifCond .eq 21, 3) := by decide +kernel
theorem dX4_grown_120 : decode cX4_grown 120 = .ok (.aload_n 0, 1) := by decide +kernel
theorem dX4_grown_121 : decode cX4_grown 121 = .ok (.iload 10, 2) := by decide +kernel
theorem dX4_grown_123 : decode cX4_grown 123 = .ok (.aload_n 0, 1) := by decide +kernel
theorem dX4_grown_124 : decode cX4_grown 124 = .ok (.getfield 18, 3) := by decide +kernel
theorem dX4_grown_127 : decode cX4_grown 127 = .ok (.iload 9, 2) := by decide +kernel
theorem dX4_grown_129 : decode cX4_grown 129 = .ok (.iaload, 1) := by decide +kernel
theorem dX4_grown_130 : decode cX4_grown 130 = .ok (.invokevirtual 41, 3) := by decide +kernel
theorem dX4_grown_133 : decode cX4_grown 133 = .ok (.istore 7, 2) := by decide +kernel
theorem dX4_grown_135 : decode cX4_grown 135 = .ok (.goto 18, 3) := by decide +kernel
theorem dX4_grown_138 : decode cX4_grown 138 = .ok (.aload_n 0, 1) := by decide +kernel
