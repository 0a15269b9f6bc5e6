theorem dX11_best_20 : decode cX11_best 20 = .ok (.bipush 10, 2) := by decide +kernel
theorem dX11_best_22 : decode cX11_best 22 = .ok (.idiv, 1) := by decide +kernel
theorem dX11_best_23 : decode cX11_best 23 = .ok (.iload_n 1, 1) := by decide +kernel
theorem dX11_best_24 : decode cX11_best 24 = .ok (.bipush 10, 2) := by decide +kernel
theorem dX11_best_26 : decode cX11_best 26 = .ok (.irem, 1) := by decide +kernel
theorem dX11_best_27 : decode cX11_best 27 = .ok (.invokevirtual 247, 3) := by decide +kernel
theorem dX11_best_30 : decode cX11_best 30 = .ok (.istore_n 3, 1) := by decide +kernel
theorem dX11_best_31 : decode cX11_best 31 = .ok (.iload_n 3, 1) := by decide +kernel
theorem dX11_best_32 : decode cX11_best 32 = .ok (.iconst 1, 1) := by decide +kernel
theorem dX11_best_33 : decode cX11_best 33 = .ok (.if_icmp .ge 5, 3) := by decide +kernel
theorem dX11_best_36 : decode cX11_best 36 = .ok (.iload_n 3, 1) := by decide +kernel
theorem dX11_best_37 : decode cX11_best 37 = .ok (.ireturn, 1) := by decide +kernel
theorem dX11_best_38 : decode cX11_best 38 = .ok (.aload_n 0, 1) := by decide +kernel
theorem dX11_best_39 : decode cX11_best 39 = .ok (.invokevirtual 249, 3) := by decide +kernel
theorem dX11_best_42 : decode cX11_best 42 = .ok (.iconst 0, 1) := by decide +kernel
theorem dX11_best_43 : decode cX11_best 43 = .ok (.istore 4, 2) := by decide +kernel
theorem dX11_best_45 : decode cX11_best 45 = .ok (.aload_n 0, 1) := by decide +kernel
theorem dX11_best_46 : decode cX11_best 46 = .ok (.aload_n 0, 1) := by decide +kernel
theorem dX11_best_47 : decode cX11_best 47 = .ok (.getfield 48, 3) := by decide +kernel
theorem dX11_best_50 : decode cX11_best 50 = .ok (.invokevirtual 262, 3) := by decide +kernel
theorem dX11_best_53 : decode cX11_best 53 = .ok (.istore 5, 2) := by decide +kernel
theorem dX11_best_55 : decode cX11_best 55 = .ok (.iconst 1, 1) := by decide +kernel
theorem dX11_best_56 : decode cX11_best 56 = .ok (.istore 6, 2) := by decide +kernel
theorem dX11_best_58 : decode cX11_best 58 = .ok (.iload 6, 2) := by decide +kernel
theorem dX11_best_60 : decode cX11_best 60 = .ok (.bipush 60, 2) := by decide +kernel
theorem dX11_best_62 : decode cX11_best 62 = .ok (.if_icmp .gt 51, 3) := by decide +kernel
theorem dX11_best_65 : decode cX11_best 65 = .ok (.aload_n 0, 1) := by decide +kernel
theorem dX11_best_66 : decode cX11_best 66 = .ok (.iconst 1, 1) := by decide +kernel
theorem dX11_best_67 : decode cX11_best 67 = .ok (.invokevirtual 252, 3) := by decide +kernel
theorem dX11_best_70 : decode cX11_best 70 = .ok (.aload_n 0, 1) := by decide +kernel
theorem dX11_best_71 : decode cX11_best 71 = .ok (.aload_n 0, 1) := by decide +kernel
theorem dX11_best_72 : decode cX11_best 72 = .ok (.getfield 48, 3) := by decide +kernel
theorem dX11_best_75 : decode cX11_best 75 = .ok (.invokevirtual 262, 3) := by decide +kernel
theorem dX11_best_78 : decode cX11_best 78 = .ok (.iload 5, 2) := by decide +kernel
theorem dX11_best_80 : decode cX11_best 80 = .ok (.if_icmp .ge 8, 3) := by decide +kernel
theorem dX11_best_83 : decode cX11_best 83 = .ok (.iload 6, 2) := by decide +kernel
theorem dX11_best_85 : decode cX11_best 85 = .ok (.goto 5, 3) := by decide +kernel
theorem dX11_best_88 : decode cX11_best 88 = .ok (.iload 4, 2) := by decide +kernel
theorem dX11_best_90 : decode cX11_best 90 = .ok (.istore 4, 2) := by decide +kernel
theorem dX11_best_92 : decode cX11_best 92 = .ok (.aload_n 0, 1) := by decide +kernel
theorem dX11_best_93 : decode cX11_best 93 = .ok (.aload_n 0, 1) := by decide +kernel
theorem dX11_best_94 : decode cX11_best 94 = .ok (.getfield 48, 3) := by decide +kernel
theorem dX11_best_97 : decode cX11_best 97 = .ok (.invokevirtual 262, 3) := by decide +kernel
theorem dX11_best_100 : decode cX11_best 100 = .ok (.iload 5, 2) := by decide +kernel
theorem dX11_best_102 : decode cX11_best 102 = .ok (.invokestatic 112, 3) := by decide +kernel
theorem dX11_best_105 : decode cX11_best 105 = .ok (.istore 5, 2) := by decide +kernel
theorem dX11_best_107 : decode cX11_best 107 = .ok (.iinc 6 1, 3) := by decide +kernel
theorem dX11_best_110 : decode cX11_best 110 = .ok (.goto (-52), 3) := by decide +kernel
theorem dX11_best_113 : decode cX11_best 113 = .ok (.iload_n 2, 1) := by decide +kernel
theorem dX11_best_114 : decode cX11_best 114 = .ok (.ifCond .ne 8, 3) := by decide +kernel
theorem dX11_best_117 : decode cX11_best 117 = .ok (.iload 4, 2) := by decide +kernel
theorem dX11_best_119 : decode cX11_best 119 = .ok (.goto 5, 3) := by decide +kernel
theorem dX11_best_122 : decode cX11_best 122 = .ok (.iload 5, 2) := by decide +kernel
theorem dX11_best_124 : decode cX11_best 124 = .ok (.ireturn, 1) := by decide +kernel
theorem dX11_isHn_0 : decode cX11_isHn 0 = .ok (.iload_n 0, 1) := by decide +kernel
theorem dX11_isHn_1 : decode cX11_isHn 1 = .ok (.ifCond .lt 20, 3) := by decide +kernel
theorem dX11_isHn_4 : decode cX11_isHn 4 = .ok (.iload_n 0, 1) := by decide +kernel
theorem dX11_isHn_5 : decode cX11_isHn 5 = .ok (.bipush 100, 2) := by decide +kernel
theorem dX11_isHn_7 : decode cX11_isHn 7 = .ok (.irem, 1) := by decide +kernel
theorem dX11_isHn_8 : decode cX11_isHn 8 = .ok (.iconst 0, 1) := by decide +kernel
theorem dX11_isHn_9 : decode cX11_isHn 9 = .ok (.bipush 10, 2) := by decide +kernel
theorem dX11_isHn_11 : decode cX11_isHn 11 = .ok (.invokestatic 125, 3) := by decide +kernel
theorem dX11_isHn_14 : decode cX11_isHn 14 = .ok (.ifCond .eq 7, 3) := by decide +kernel
theorem dX11_isHn_17 : decode cX11_isHn 17 = .ok (.iconst 1, 1) := by decide +kernel
theorem dX11_isHn_18 : decode cX11_isHn 18 = .ok (.goto 4, 3) := by decide +kernel
theorem dX11_isHn_21 : decode cX11_isHn 21 = .ok (.iconst 0, 1) := by decide +kernel
theorem dX11_isHn_22 : decode cX11_isHn 22 = .ok (.ireturn, 1) := by decide +kernel
theorem dX11_setMix_0 : decode cX11_setMix 0 = .ok (.iload_n 2, 1) := by decide +kernel
theorem dX11_setMix_1 : decode cX11_setMix 1 = .ok (.istore 4, 2) := by decide +kernel
theorem dX11_setMix_3 : decode cX11_setMix 3 = .ok (.iconst 1, 1) := by decide +kernel
theorem dX11_setMix_4 : decode cX11_setMix 4 = .ok (.istore 5, 2) := by decide +kernel
theorem dX11_setMix_6 : decode cX11_setMix 6 = .ok (.bipush 7, 2) := by decide +kernel
theorem dX11_setMix_8 : decode cX11_setMix 8 = .ok (.istore 6, 2) := by decide +kernel
theorem dX11_setMix_10 : decode cX11_setMix 10 = .ok (.iload 6, 2) := by decide +kernel
theorem dX11_setMix_12 : decode cX11_setMix 12 = .ok (.ifCond .lt 80, 3) := by decide +kernel
theorem dX11_setMix_15 : decode cX11_setMix 15 = .ok (.aload_n 0, 1) := by decide +kernel
theorem dX11_setMix_16 : decode cX11_setMix 16 = .ok (.getfield 45, 3) := by decide +kernel
theorem dX11_setMix_19 : decode cX11_setMix 19 = .ok (.iload 6, 2) := by decide +kernel
theorem dX11_setMix_21 : decode cX11_setMix 21 = .ok (.iload 6, 2) := by decide +kernel
theorem dX11_setMix_23 : decode cX11_setMix 23 = .ok (.iconst 4, 1) := by decide +kernel
theorem dX11_setMix_24 : decode cX11_setMix 24 = .ok (.if_icmp .ge 12, 3) := by decide +kernel
theorem dX11_setMix_27 : decode cX11_setMix 27 = .ok (.iload 4, 2) := by decide +kernel
theorem dX11_setMix_29 : decode cX11_setMix 29 = .ok (.iload_n 3, 1) := by decide +kernel
theorem dX11_setMix_30 : decode cX11_setMix 30 = .ok (.iconst 1, 1) := by decide +kernel
theorem dX11_setMix_31 : decode cX11_setMix 31 = .ok (.iadd, 1) := by decide +kernel
theorem dX11_setMix_32 : decode cX11_setMix 32 = .ok (.irem, 1) := by decide +kernel
theorem dX11_setMix_33 : decode cX11_setMix 33 = .ok (.goto 4, 3) := by decide +kernel
theorem dX11_setMix_36 : decode cX11_setMix 36 = .ok (.iconst 0, 1) := by decide +kernel
theorem dX11_setMix_37 : decode cX11_setMix 37 = .ok (.iastore, 1) := by decide +kernel
theorem dX11_setMix_38 : decode cX11_setMix 38 = .ok (.iload 6, 2) := by decide +kernel
theorem dX11_setMix_40 : decode cX11_setMix 40 = .ok (.iconst 4, 1) := by decide +kernel
theorem dX11_setMix_41 : decode cX11_setMix 41 = .ok (.if_icmp .ge 12, 3) := by decide +kernel
theorem dX11_setMix_44 : decode cX11_setMix 44 = .ok (.iload 4, 2) := by decide +kernel
theorem dX11_setMix_46 : decode cX11_setMix 46 = .ok (.iload_n 3, 1) := by decide +kernel
theorem dX11_setMix_47 : decode cX11_setMix 47 = .ok (.iconst 1, 1) := by decide +kernel
theorem dX11_setMix_48 : decode cX11_setMix 48 = .ok (.iadd, 1) := by decide +kernel
theorem dX11_setMix_49 : decode cX11_setMix 49 = .ok (.idiv, 1) := by decide +kernel
theorem dX11_setMix_50 : decode cX11_setMix 50 = .ok (.goto 5, 3) := by decide +kernel
theorem dX11_setMix_53 : decode cX11_setMix 53 = .ok (.iload 4, 2) := by decide +kernel
theorem dX11_setMix_55 : decode cX11_setMix 55 = .ok (.istore 4, 2) := by decide +kernel
theorem dX11_setMix_57 : decode cX11_setMix 57 = .ok (.iload 5, 2) := by decide +kernel
theorem dX11_setMix_59 : decode cX11_setMix 59 = .ok (.ifCond .eq 24, 3) := by decide +kernel
theorem dX11_setMix_62 : decode cX11_setMix 62 = .ok (.aload_n 0, 1) := by decide +kernel
theorem dX11_setMix_63 : decode cX11_setMix 63 = .ok (.getfield 45, 3) := by decide +kernel
theorem dX11_setMix_66 : decode cX11_setMix 66 = .ok (.iload 6, 2) := by decide +kernel
theorem dX11_setMix_68 : decode cX11_setMix 68 = .ok (.iaload, 1) := by decide +kernel
theorem dX11_setMix_69 : decode cX11_setMix 69 = .ok (.aload_n 0, 1) := by decide +kernel
theorem dX11_setMix_70 : decode cX11_setMix 70 = .ok (.iload_n 1, 1) := by decide +kernel
theorem dX11_setMix_71 : decode cX11_setMix 71 = .ok (.iload 6, 2) := by decide +kernel
theorem dX11_setMix_73 : decode cX11_setMix 73 = .ok (.invokevirtual 265, 3) := by decide +kernel
theorem dX11_setMix_76 : decode cX11_setMix 76 = .ok (.if_icmp .gt 7, 3) := by decide +kernel
theorem dX11_setMix_79 : decode cX11_setMix 79 = .ok (.iconst 1, 1) := by decide +kernel
theorem dX11_setMix_80 : decode cX11_setMix 80 = .ok (.goto 4, 3) := by decide +kernel
theorem dX11_setMix_83 : decode cX11_setMix 83 = .ok (.iconst 0, 1) := by decide +kernel
theorem dX11_setMix_84 : decode cX11_setMix 84 = .ok (.istore 5, 2) := by decide +kernel
theorem dX11_setMix_86 : decode cX11_setMix 86 = .ok (.iinc 6 (-1), 3) := by decide +kernel
theorem dX11_setMix_89 : decode cX11_setMix 89 = .ok (.goto (-79), 3) := by decide +kernel
theorem dX11_setMix_92 : decode cX11_setMix 92 = .ok (.iload 5, 2) := by decide +kernel
theorem dX11_setMix_94 : decode cX11_setMix 94 = .ok (.ireturn, 1) := by decide +kernel
theorem dX11_nearest_0 : decode cX11_nearest 0 = .ok (.iload_n 1, 1) := by decide +kernel
theorem dX11_nearest_1 : decode cX11_nearest 1 = .ok (.invokestatic 238, 3) := by decide +kernel
theorem dX11_nearest_4 : decode cX11_nearest 4 = .ok (.ifCond .eq 30, 3) := by decide +kernel
theorem dX11_nearest_7 : decode cX11_nearest 7 = .ok (.iload_n 2, 1) := by decide +kernel
theorem dX11_nearest_8 : decode cX11_nearest 8 = .ok (.invokestatic 268, 3) := by decide +kernel
theorem dX11_nearest_11 : decode cX11_nearest 11 = .ok (.ifCond .eq 23, 3) := by decide +kernel
theorem dX11_nearest_14 : decode cX11_nearest 14 = .ok (.aload_n 0, 1) := by decide +kernel
theorem dX11_nearest_15 : decode cX11_nearest 15 = .ok (.iload_n 2, 1) := by decide +kernel
theorem dX11_nearest_16 : decode cX11_nearest 16 = .ok (.bipush 100, 2) := by decide +kernel
theorem dX11_nearest_18 : decode cX11_nearest 18 = .ok (.idiv, 1) := by decide +kernel
theorem dX11_nearest_19 : decode cX11_nearest 19 = .ok (.invokevirtual 132, 3) := by decide +kernel
theorem dX11_nearest_22 : decode cX11_nearest 22 = .ok (.ifCond .eq 12, 3) := by decide +kernel
theorem dX11_nearest_25 : decode cX11_nearest 25 = .ok (.iload_n 3, 1) := by decide +kernel
theorem dX11_nearest_26 : decode cX11_nearest 26 = .ok (.iconst (-1), 1) := by decide +kernel
theorem dX11_nearest_27 : decode cX11_nearest 27 = .ok (.iconst 3, 1) := by decide +kernel
theorem dX11_nearest_28 : decode cX11_nearest 28 = .ok (.invokestatic 125, 3) := by decide +kernel
theorem dX11_nearest_31 : decode cX11_nearest 31 = .ok (.ifCond .ne 5, 3) := by decide +kernel
theorem dX11_nearest_34 : decode cX11_nearest 34 = .ok (.iconst (-1), 1) := by decide +kernel
theorem dX11_nearest_35 : decode cX11_nearest 35 = .ok (.ireturn, 1) := by decide +kernel
theorem dX11_nearest_36 : decode cX11_nearest 36 = .ok (.aload_n 0, 1) := by decide +kernel
theorem dX11_nearest_37 : decode cX11_nearest 37 = .ok (.iconst (-1), 1) := by decide +kernel
theorem dX11_nearest_38 : decode cX11_nearest 38 = .ok (.iload_n 1, 1) := by decide +kernel
theorem dX11_nearest_39 : decode cX11_nearest 39 = .ok (.invokevirtual 247, 3) := by decide +kernel
theorem dX11_nearest_42 : decode cX11_nearest 42 = .ok (.istore 4, 2) := by decide +kernel
theorem dX11_nearest_44 : decode cX11_nearest 44 = .ok (.iload 4, 2) := by decide +kernel
theorem dX11_nearest_46 : decode cX11_nearest 46 = .ok (.iconst 1, 1) := by decide +kernel
theorem dX11_nearest_47 : decode cX11_nearest 47 = .ok (.if_icmp .ge 6, 3) := by decide +kernel
theorem dX11_nearest_50 : decode cX11_nearest 50 = .ok (.iload 4, 2) := by decide +kernel
theorem dX11_nearest_52 : decode cX11_nearest 52 = .ok (.ireturn, 1) := by decide +kernel
theorem dX11_nearest_53 : decode cX11_nearest 53 = .ok (.ldc_w 273, 3) := by decide +kernel
theorem dX11_nearest_56 : decode cX11_nearest 56 = .ok (.istore 5, 2) := by decide +kernel
theorem dX11_nearest_58 : decode cX11_nearest 58 = .ok (.iconst 0, 1) := by decide +kernel
theorem dX11_nearest_59 : decode cX11_nearest 59 = .ok (.istore 6, 2) := by decide +kernel
theorem dX11_nearest_61 : decode cX11_nearest 61 = .ok (.iconst 0, 1) := by decide +kernel
theorem dX11_nearest_62 : decode cX11_nearest 62 = .ok (.istore 7, 2) := by decide +kernel
theorem dX11_nearest_64 : decode cX11_nearest 64 = .ok (.iload 7, 2) := by decide +kernel
theorem dX11_nearest_66 : decode cX11_nearest 66 = .ok (.bipush 81, 2) := by decide +kernel
theorem dX11_nearest_68 : decode cX11_nearest 68 = .ok (.if_icmp .ge 113, 3) := by decide +kernel
theorem dX11_nearest_71 : decode cX11_nearest 71 = .ok (.aload_n 0, 1) := by decide +kernel
theorem dX11_nearest_72 : decode cX11_nearest 72 = .ok (.iload_n 2, 1) := by decide +kernel
theorem dX11_nearest_73 : decode cX11_nearest 73 = .ok (.bipush 100, 2) := by decide +kernel
theorem dX11_nearest_75 : decode cX11_nearest 75 = .ok (.idiv, 1) := by decide +kernel
theorem dX11_nearest_76 : decode cX11_nearest 76 = .ok (.iload 7, 2) := by decide +kernel
theorem dX11_nearest_78 : decode cX11_nearest 78 = .ok (.iconst 2, 1) := by decide +kernel
theorem dX11_nearest_79 : decode cX11_nearest 79 = .ok (.invokevirtual 274, 3) := by decide +kernel
theorem dX11_nearest_82 : decode cX11_nearest 82 = .ok (.ifCond .eq 93, 3) := by decide +kernel
theorem dX11_nearest_85 : decode cX11_nearest 85 = .ok (.aload_n 0, 1) := by decide +kernel
theorem dX11_nearest_86 : decode cX11_nearest 86 = .ok (.invokevirtual 249, 3) := by decide +kernel
theorem dX11_nearest_89 : decode cX11_nearest 89 = .ok (.aload_n 0, 1) := by decide +kernel
theorem dX11_nearest_90 : decode cX11_nearest 90 = .ok (.iload_n 2, 1) := by decide +kernel
theorem dX11_nearest_91 : decode cX11_nearest 91 = .ok (.bipush 100, 2) := by decide +kernel
theorem dX11_nearest_93 : decode cX11_nearest 93 = .ok (.irem, 1) := by decide +kernel
theorem dX11_nearest_94 : decode cX11_nearest 94 = .ok (.invokevirtual 252, 3) := by decide +kernel
theorem dX11_nearest_97 : decode cX11_nearest 97 = .ok (.aload_n 0, 1) := by decide +kernel
theorem dX11_nearest_98 : decode cX11_nearest 98 = .ok (.aload_n 0, 1) := by decide +kernel
theorem dX11_nearest_99 : decode cX11_nearest 99 = .ok (.getfield 48, 3) := by decide +kernel
theorem dX11_nearest_102 : decode cX11_nearest 102 = .ok (.invokevirtual 262, 3) := by decide +kernel
theorem dX11_nearest_105 : decode cX11_nearest 105 = .ok (.istore 8, 2) := by decide +kernel
theorem dX11_nearest_107 : decode cX11_nearest 107 = .ok (.aload_n 0, 1) := by decide +kernel
theorem dX11_nearest_108 : decode cX11_nearest 108 = .ok (.aload_n 0, 1) := by decide +kernel
theorem dX11_nearest_109 : decode cX11_nearest 109 = .ok (.getfield 48, 3) := by decide +kernel
theorem dX11_nearest_112 : decode cX11_nearest 112 = .ok (.invokevirtual 205, 3) := by decide +kernel
theorem dX11_nearest_115 : decode cX11_nearest 115 = .ok (.istore 9, 2) := by decide +kernel
theorem dX11_nearest_117 : decode cX11_nearest 117 = .ok (.iload 8, 2) := by decide +kernel
theorem dX11_nearest_119 : decode cX11_nearest 119 = .ok (.iload 5, 2) := by decide +kernel
theorem dX11_nearest_121 : decode cX11_nearest 121 = .ok (.if_icmp .lt 17, 3) := by decide +kernel
theorem dX11_nearest_124 : decode cX11_nearest 124 = .ok (.iload 8, 2) := by decide +kernel
theorem dX11_nearest_126 : decode cX11_nearest 126 = .ok (.iload 5, 2) := by decide +kernel
theorem dX11_nearest_128 : decode cX11_nearest 128 = .ok (.if_icmp .ne 47, 3) := by decide +kernel
theorem dX11_nearest_131 : decode cX11_nearest 131 = .ok (.iload 9, 2) := by decide +kernel
theorem dX11_nearest_133 : decode cX11_nearest 133 = .ok (.iload 6, 2) := by decide +kernel
theorem dX11_nearest_135 : decode cX11_nearest 135 = .ok (.if_icmp .ge 40, 3) := by decide +kernel
theorem dX11_nearest_138 : decode cX11_nearest 138 = .ok (.iload 8, 2) := by decide +kernel
theorem dX11_nearest_140 : decode cX11_nearest 140 = .ok (.istore 5, 2) := by decide +kernel
theorem dX11_nearest_142 : decode cX11_nearest 142 = .ok (.iload 9, 2) := by decide +kernel
theorem dX11_nearest_144 : decode cX11_nearest 144 = .ok (.istore 6, 2) := by decide +kernel
theorem dX11_nearest_146 : decode cX11_nearest 146 = .ok (.iconst 0, 1) := by decide +kernel
theorem dX11_nearest_147 : decode cX11_nearest 147 = .ok (.istore 10, 2) := by decide +kernel
theorem dX11_nearest_149 : decode cX11_nearest 149 = .ok (.iload 10, 2) := by decide +kernel
theorem dX11_nearest_151 : decode cX11_nearest 151 = .ok (.iconst 4, 1) := by decide +kernel
theorem dX11_nearest_152 : decode cX11_nearest 152 = .ok (.if_icmp .ge 23, 3) := by decide +kernel
theorem dX11_nearest_155 : decode cX11_nearest 155 = .ok (.aload_n 0, 1) := by decide +kernel
theorem dX11_nearest_156 : decode cX11_nearest 156 = .ok (.getfield 67, 3) := by decide +kernel
theorem dX11_nearest_159 : decode cX11_nearest 159 = .ok (.iload 10, 2) := by decide +kernel
theorem dX11_nearest_161 : decode cX11_nearest 161 = .ok (.aload_n 0, 1) := by decide +kernel
theorem dX11_nearest_162 : decode cX11_nearest 162 = .ok (.getfield 45, 3) := by decide +kernel
theorem dX11_nearest_165 : decode cX11_nearest 165 = .ok (.iload 10, 2) := by decide +kernel
theorem dX11_nearest_167 : decode cX11_nearest 167 = .ok (.iaload, 1) := by decide +kernel
theorem dX11_nearest_168 : decode cX11_nearest 168 = .ok (.iastore, 1) := by decide +kernel
theorem dX11_nearest_169 : decode cX11_nearest 169 = .ok (.iinc 10 1, 3) := by decide +kernel
theorem dX11_nearest_172 : decode cX11_nearest 172 = .ok (.goto (-23), 3) := by decide +kernel
theorem dX11_nearest_175 : decode cX11_nearest 175 = .ok (.iinc 7 1, 3) := by decide +kernel
theorem dX11_nearest_178 : decode cX11_nearest 178 = .ok (.goto (-114), 3) := by decide +kernel
theorem dX11_nearest_181 : decode cX11_nearest 181 = .ok (.iload_n 3, 1) := by decide +kernel
theorem dX11_nearest_182 : decode cX11_nearest 182 = .ok (.iconst (-1), 1) := by decide +kernel
theorem dX11_nearest_183 : decode cX11_nearest 183 = .ok (.if_icmp .ne 8, 3) := by decide +kernel
theorem dX11_nearest_186 : decode cX11_nearest 186 = .ok (.iload 5, 2) := by decide +kernel
theorem dX11_nearest_188 : decode cX11_nearest 188 = .ok (.goto 9, 3) := by decide +kernel
theorem dX11_nearest_191 : decode cX11_nearest 191 = .ok (.aload_n 0, 1) := by decide +kernel
theorem dX11_nearest_192 : decode cX11_nearest 192 = .ok (.getfield 67, 3) := by decide +kernel
theorem dX11_nearest_195 : decode cX11_nearest 195 = .ok (.iload_n 3, 1) := by decide +kernel
theorem dX11_nearest_196 : decode cX11_nearest 196 = .ok (.iaload, 1) := by decide +kernel
theorem dX11_nearest_197 : decode cX11_nearest 197 = .ok (.ireturn, 1) := by decide +kernel
theorem dX11_tells_0 : decode cX11_tells 0 = .ok (.iconst 0, 1) := by decide +kernel
theorem dX11_tells_1 : decode cX11_tells 1 = .ok (.istore 6, 2) := by decide +kernel
theorem dX11_tells_3 : decode cX11_tells 3 = .ok (.iconst 0, 1) := by decide +kernel
theorem dX11_tells_4 : decode cX11_tells 4 = .ok (.istore 7, 2) := by decide +kernel
theorem dX11_tells_6 : decode cX11_tells 6 = .ok (.iload 7, 2) := by decide +kernel
theorem dX11_tells_8 : decode cX11_tells 8 = .ok (.iconst 5, 1) := by decide +kernel
theorem dX11_tells_9 : decode cX11_tells 9 = .ok (.if_icmp .ge 69, 3) := by decide +kernel
theorem dX11_tells_12 : decode cX11_tells 12 = .ok (.iload 6, 2) := by decide +kernel
theorem dX11_tells_14 : decode cX11_tells 14 = .ok (.ifCond .ne 51, 3) := by decide +kernel
theorem dX11_tells_17 : decode cX11_tells 17 = .ok (.aload_n 0, 1) := by decide +kernel
theorem dX11_tells_18 : decode cX11_tells 18 = .ok (.getfield 13, 3) := by decide +kernel
theorem dX11_tells_21 : decode cX11_tells 21 = .ok (.bipush 96, 2) := by decide +kernel
theorem dX11_tells_23 : decode cX11_tells 23 = .ok (.iload_n 1, 1) := by decide +kernel
theorem dX11_tells_24 : decode cX11_tells 24 = .ok (.iadd, 1) := by decide +kernel
theorem dX11_tells_25 : decode cX11_tells 25 = .ok (.iaload, 1) := by decide +kernel
theorem dX11_tells_26 : decode cX11_tells 26 = .ok (.iload 7, 2) := by decide +kernel
theorem dX11_tells_28 : decode cX11_tells 28 = .ok (.ishr, 1) := by decide +kernel
theorem dX11_tells_29 : decode cX11_tells 29 = .ok (.iconst 1, 1) := by decide +kernel
theorem dX11_tells_30 : decode cX11_tells 30 = .ok (.iand, 1) := by decide +kernel
theorem dX11_tells_31 : decode cX11_tells 31 = .ok (.iconst 1, 1) := by decide +kernel
theorem dX11_tells_32 : decode cX11_tells 32 = .ok (.if_icmp .ne 37, 3) := by decide +kernel
theorem dX11_tells_35 : decode cX11_tells 35 = .ok (.aload_n 2, 1) := by decide +kernel
theorem dX11_tells_36 : decode cX11_tells 36 = .ok (.iload_n 3, 1) := by decide +kernel
theorem dX11_tells_37 : decode cX11_tells 37 = .ok (.iload 7, 2) := by decide +kernel
theorem dX11_tells_39 : decode cX11_tells 39 = .ok (.iadd, 1) := by decide +kernel
theorem dX11_tells_40 : decode cX11_tells 40 = .ok (.iaload, 1) := by decide +kernel
theorem dX11_tells_41 : decode cX11_tells 41 = .ok (.aload 4, 2) := by decide +kernel
theorem dX11_tells_43 : decode cX11_tells 43 = .ok (.iload 5, 2) := by decide +kernel
theorem dX11_tells_45 : decode cX11_tells 45 = .ok (.iload 7, 2) := by decide +kernel
theorem dX11_tells_47 : decode cX11_tells 47 = .ok (.iadd, 1) := by decide +kernel
theorem dX11_tells_48 : decode cX11_tells 48 = .ok (.iaload, 1) := by decide +kernel
theorem dX11_tells_49 : decode cX11_tells 49 = .ok (.isub, 1) := by decide +kernel
theorem dX11_tells_50 : decode cX11_tells 50 = .ok (.invokestatic 220, 3) := by decide +kernel
theorem dX11_tells_53 : decode cX11_tells 53 = .ok (.aload_n 0, 1) := by decide +kernel
theorem dX11_tells_54 : decode cX11_tells 54 = .ok (.getfield 13, 3) := by decide +kernel
theorem dX11_tells_57 : decode cX11_tells 57 = .ok (.bipush 88, 2) := by decide +kernel
theorem dX11_tells_59 : decode cX11_tells 59 = .ok (.iload_n 1, 1) := by decide +kernel
theorem dX11_tells_60 : decode cX11_tells 60 = .ok (.iadd, 1) := by decide +kernel
theorem dX11_tells_61 : decode cX11_tells 61 = .ok (.iaload, 1) := by decide +kernel
theorem dX11_tells_62 : decode cX11_tells 62 = .ok (.if_icmp .lt 7, 3) := by decide +kernel
theorem dX11_tells_65 : decode cX11_tells 65 = .ok (.iconst 1, 1) := by decide +kernel
theorem dX11_tells_66 : decode cX11_tells 66 = .ok (.goto 4, 3) := by decide +kernel
theorem dX11_tells_69 : decode cX11_tells 69 = .ok (.iconst 0, 1) := by decide +kernel
theorem dX11_tells_70 : decode cX11_tells 70 = .ok (.istore 6, 2) := by decide +kernel
theorem dX11_tells_72 : decode cX11_tells 72 = .ok (.iinc 7 1, 3) := by decide +kernel
theorem dX11_tells_75 : decode cX11_tells 75 = .ok (.goto (-69), 3) := by decide +kernel
theorem dX11_tells_78 : decode cX11_tells 78 = .ok (.iload 6, 2) := by decide +kernel
theorem dX11_tells_80 : decode cX11_tells 80 = .ok (.ireturn, 1) := by decide +kernel
theorem dX11_apart_0 : decode cX11_apart 0 = .ok (.iload_n 1, 1) := by decide +kernel
theorem dX11_apart_1 : decode cX11_apart 1 = .ok (.invokestatic 259, 3) := by decide +kernel
theorem dX11_apart_4 : decode cX11_apart 4 = .ok (.ifCond .eq 11, 3) := by decide +kernel
theorem dX11_apart_7 : decode cX11_apart 7 = .ok (.aload_n 0, 1) := by decide +kernel
theorem dX11_apart_8 : decode cX11_apart 8 = .ok (.iload_n 2, 1) := by decide +kernel
theorem dX11_apart_9 : decode cX11_apart 9 = .ok (.invokevirtual 136, 3) := by decide +kernel
theorem dX11_apart_12 : decode cX11_apart 12 = .ok (.ifCond .ne 5, 3) := by decide +kernel
theorem dX11_apart_15 : decode cX11_apart 15 = .ok (.iconst (-1), 1) := by decide +kernel
theorem dX11_apart_16 : decode cX11_apart 16 = .ok (.ireturn, 1) := by decide +kernel
theorem dX11_apart_17 : decode cX11_apart 17 = .ok (.aload_n 0, 1) := by decide +kernel
theorem dX11_apart_18 : decode cX11_apart 18 = .ok (.iload_n 1, 1) := by decide +kernel
theorem dX11_apart_19 : decode cX11_apart 19 = .ok (.bipush 10, 2) := by decide +kernel
theorem dX11_apart_21 : decode cX11_apart 21 = .ok (.idiv, 1) := by decide +kernel
theorem dX11_apart_22 : decode cX11_apart 22 = .ok (.invokevirtual 227, 3) := by decide +kernel
theorem dX11_apart_25 : decode cX11_apart 25 = .ok (.iconst 1, 1) := by decide +kernel
theorem dX11_apart_26 : decode cX11_apart 26 = .ok (.if_icmp .ne 14, 3) := by decide +kernel
theorem dX11_apart_29 : decode cX11_apart 29 = .ok (.aload_n 0, 1) := by decide +kernel
theorem dX11_apart_30 : decode cX11_apart 30 = .ok (.iload_n 1, 1) := by decide +kernel
theorem dX11_apart_31 : decode cX11_apart 31 = .ok (.bipush 10, 2) := by decide +kernel
theorem dX11_apart_33 : decode cX11_apart 33 = .ok (.irem, 1) := by decide +kernel
theorem dX11_apart_34 : decode cX11_apart 34 = .ok (.invokevirtual 227, 3) := by decide +kernel
theorem dX11_apart_37 : decode cX11_apart 37 = .ok (.goto 11, 3) := by decide +kernel
theorem dX11_apart_40 : decode cX11_apart 40 = .ok (.aload_n 0, 1) := by decide +kernel
theorem dX11_apart_41 : decode cX11_apart 41 = .ok (.iload_n 1, 1) := by decide +kernel
theorem dX11_apart_42 : decode cX11_apart 42 = .ok (.bipush 10, 2) := by decide +kernel
theorem dX11_apart_44 : decode cX11_apart 44 = .ok (.idiv, 1) := by decide +kernel
theorem dX11_apart_45 : decode cX11_apart 45 = .ok (.invokevirtual 227, 3) := by decide +kernel
theorem dX11_apart_48 : decode cX11_apart 48 = .ok (.istore_n 3, 1) := by decide +kernel
theorem dX11_apart_49 : decode cX11_apart 49 = .ok (.iload_n 3, 1) := by decide +kernel
theorem dX11_apart_50 : decode cX11_apart 50 = .ok (.iconst 1, 1) := by decide +kernel
theorem dX11_apart_51 : decode cX11_apart 51 = .ok (.if_icmp .ge 5, 3) := by decide +kernel
theorem dX11_apart_54 : decode cX11_apart 54 = .ok (.iload_n 3, 1) := by decide +kernel
theorem dX11_apart_55 : decode cX11_apart 55 = .ok (.ireturn, 1) := by decide +kernel
theorem dX11_apart_56 : decode cX11_apart 56 = .ok (.aload_n 0, 1) := by decide +kernel
theorem dX11_apart_57 : decode cX11_apart 57 = .ok (.iload_n 1, 1) := by decide +kernel
theorem dX11_apart_58 : decode cX11_apart 58 = .ok (.bipush 10, 2) := by decide +kernel
theorem dX11_apart_60 : decode cX11_apart 60 = .ok (.idiv, 1) := by decide +kernel
theorem dX11_apart_61 : decode cX11_apart 61 = .ok (.iconst 0, 1) := by decide +kernel
theorem dX11_apart_62 : decode cX11_apart 62 = .ok (.invokevirtual 234, 3) := by decide +kernel
theorem dX11_apart_65 : decode cX11_apart 65 = .ok (.ifCond .ne 5, 3) := by decide +kernel
theorem dX11_apart_68 : decode cX11_apart 68 = .ok (.iconst (-1), 1) := by decide +kernel
theorem dX11_apart_69 : decode cX11_apart 69 = .ok (.ireturn, 1) := by decide +kernel
theorem dX11_apart_70 : decode cX11_apart 70 = .ok (.iconst 0, 1) := by decide +kernel
theorem dX11_apart_71 : decode cX11_apart 71 = .ok (.istore 4, 2) := by decide +kernel
theorem dX11_apart_73 : decode cX11_apart 73 = .ok (.iload 4, 2) := by decide +kernel
theorem dX11_apart_75 : decode cX11_apart 75 = .ok (.iconst 5, 1) := by decide +kernel
theorem dX11_apart_76 : decode cX11_apart 76 = .ok (.if_icmp .ge 23, 3) := by decide +kernel
theorem dX11_apart_79 : decode cX11_apart 79 = .ok (.aload_n 0, 1) := by decide +kernel
theorem dX11_apart_80 : decode cX11_apart 80 = .ok (.getfield 70, 3) := by decide +kernel
theorem dX11_apart_83 : decode cX11_apart 83 = .ok (.iload 4, 2) := by decide +kernel
theorem dX11_apart_85 : decode cX11_apart 85 = .ok (.aload_n 0, 1) := by decide +kernel
theorem dX11_apart_86 : decode cX11_apart 86 = .ok (.getfield 51, 3) := by decide +kernel
theorem dX11_apart_89 : decode cX11_apart 89 = .ok (.iload 4, 2) := by decide +kernel
theorem dX11_apart_91 : decode cX11_apart 91 = .ok (.iaload, 1) := by decide +kernel
theorem dX11_apart_92 : decode cX11_apart 92 = .ok (.iastore, 1) := by decide +kernel
theorem dX11_apart_93 : decode cX11_apart 93 = .ok (.iinc 4 1, 3) := by decide +kernel
theorem dX11_apart_96 : decode cX11_apart 96 = .ok (.goto (-23), 3) := by decide +kernel
theorem dX11_apart_99 : decode cX11_apart 99 = .ok (.aload_n 0, 1) := by decide +kernel
theorem dX11_apart_100 : decode cX11_apart 100 = .ok (.iload_n 1, 1) := by decide +kernel
theorem dX11_apart_101 : decode cX11_apart 101 = .ok (.bipush 10, 2) := by decide +kernel
theorem dX11_apart_103 : decode cX11_apart 103 = .ok (.irem, 1) := by decide +kernel
theorem dX11_apart_104 : decode cX11_apart 104 = .ok (.iconst 0, 1) := by decide +kernel
theorem dX11_apart_105 : decode cX11_apart 105 = .ok (.invokevirtual 234, 3) := by decide +kernel
theorem dX11_apart_108 : decode cX11_apart 108 = .ok (.ifCond .ne 7, 3) := by decide +kernel
theorem dX11_apart_111 : decode cX11_apart 111 = .ok (.iconst (-1), 1) := by decide +kernel
theorem dX11_apart_112 : decode cX11_apart 112 = .ok (.goto 26, 3) := by decide +kernel
theorem dX11_apart_115 : decode cX11_apart 115 = .ok (.aload_n 0, 1) := by decide +kernel
theorem dX11_apart_116 : decode cX11_apart 116 = .ok (.iload_n 2, 1) := by decide +kernel
theorem dX11_apart_117 : decode cX11_apart 117 = .ok (.aload_n 0, 1) := by decide +kernel
theorem dX11_apart_118 : decode cX11_apart 118 = .ok (.getfield 70, 3) := by decide +kernel
theorem dX11_apart_121 : decode cX11_apart 121 = .ok (.iconst 0, 1) := by decide +kernel
theorem dX11_apart_122 : decode cX11_apart 122 = .ok (.aload_n 0, 1) := by decide +kernel
theorem dX11_apart_123 : decode cX11_apart 123 = .ok (.getfield 51, 3) := by decide +kernel
theorem dX11_apart_126 : decode cX11_apart 126 = .ok (.iconst 0, 1) := by decide +kernel
theorem dX11_apart_127 : decode cX11_apart 127 = .ok (.invokevirtual 277, 3) := by decide +kernel
theorem dX11_apart_130 : decode cX11_apart 130 = .ok (.ifCond .eq 7, 3) := by decide +kernel
theorem dX11_apart_133 : decode cX11_apart 133 = .ok (.iconst 1, 1) := by decide +kernel
theorem dX11_apart_134 : decode cX11_apart 134 = .ok (.goto 4, 3) := by decide +kernel
theorem dX11_apart_137 : decode cX11_apart 137 = .ok (.iconst 0, 1) := by decide +kernel
theorem dX11_apart_138 : decode cX11_apart 138 = .ok (.ireturn, 1) := by decide +kernel
theorem dX11_jury_0 : decode cX11_jury 0 = .ok (.iload_n 1, 1) := by decide +kernel
theorem dX11_jury_1 : decode cX11_jury 1 = .ok (.invokestatic 238, 3) := by decide +kernel
theorem dX11_jury_4 : decode cX11_jury 4 = .ok (.ifCond .eq 12, 3) := by decide +kernel
theorem dX11_jury_7 : decode cX11_jury 7 = .ok (.iload_n 2, 1) := by decide +kernel
theorem dX11_jury_8 : decode cX11_jury 8 = .ok (.iconst 0, 1) := by decide +kernel
theorem dX11_jury_9 : decode cX11_jury 9 = .ok (.iconst 1, 1) := by decide +kernel
theorem dX11_jury_10 : decode cX11_jury 10 = .ok (.invokestatic 125, 3) := by decide +kernel
theorem dX11_jury_13 : decode cX11_jury 13 = .ok (.ifCond .ne 5, 3) := by decide +kernel
theorem dX11_jury_16 : decode cX11_jury 16 = .ok (.iconst (-1), 1) := by decide +kernel
theorem dX11_jury_17 : decode cX11_jury 17 = .ok (.ireturn, 1) := by decide +kernel
theorem dX11_jury_18 : decode cX11_jury 18 = .ok (.aload_n 0, 1) := by decide +kernel
theorem dX11_jury_19 : decode cX11_jury 19 = .ok (.iload_n 1, 1) := by decide +kernel
theorem dX11_jury_20 : decode cX11_jury 20 = .ok (.invokevirtual 227, 3) := by decide +kernel
theorem dX11_jury_23 : decode cX11_jury 23 = .ok (.iconst 1, 1) := by decide +kernel
theorem dX11_jury_24 : decode cX11_jury 24 = .ok (.if_icmp .ge 9, 3) := by decide +kernel
theorem dX11_jury_27 : decode cX11_jury 27 = .ok (.aload_n 0, 1) := by decide +kernel
theorem dX11_jury_28 : decode cX11_jury 28 = .ok (.iload_n 1, 1) := by decide +kernel
theorem dX11_jury_29 : decode cX11_jury 29 = .ok (.invokevirtual 227, 3) := by decide +kernel
theorem dX11_jury_32 : decode cX11_jury 32 = .ok (.ireturn, 1) := by decide +kernel
theorem dX11_jury_33 : decode cX11_jury 33 = .ok (.iconst 0, 1) := by decide +kernel
theorem dX11_jury_34 : decode cX11_jury 34 = .ok (.istore_n 3, 1) := by decide +kernel
theorem dX11_jury_35 : decode cX11_jury 35 = .ok (.iload_n 3, 1) := by decide +kernel
theorem dX11_jury_36 : decode cX11_jury 36 = .ok (.bipush 6, 2) := by decide +kernel
theorem dX11_jury_38 : decode cX11_jury 38 = .ok (.if_icmp .ge 53, 3) := by decide +kernel
theorem dX11_jury_41 : decode cX11_jury 41 = .ok (.aload_n 0, 1) := by decide +kernel
theorem dX11_jury_42 : decode cX11_jury 42 = .ok (.iload_n 1, 1) := by decide +kernel
theorem dX11_jury_43 : decode cX11_jury 43 = .ok (.iconst 5, 1) := by decide +kernel
theorem dX11_jury_44 : decode cX11_jury 44 = .ok (.iload_n 3, 1) := by decide +kernel
theorem dX11_jury_45 : decode cX11_jury 45 = .ok (.imul, 1) := by decide +kernel
theorem dX11_jury_46 : decode cX11_jury 46 = .ok (.invokevirtual 234, 3) := by decide +kernel
theorem dX11_jury_49 : decode cX11_jury 49 = .ok (.ifCond .eq 42, 3) := by decide +kernel
theorem dX11_jury_52 : decode cX11_jury 52 = .ok (.iconst 0, 1) := by decide +kernel
theorem dX11_jury_53 : decode cX11_jury 53 = .ok (.istore 4, 2) := by decide +kernel
theorem dX11_jury_55 : decode cX11_jury 55 = .ok (.iload 4, 2) := by decide +kernel
theorem dX11_jury_57 : decode cX11_jury 57 = .ok (.iconst 5, 1) := by decide +kernel
theorem dX11_jury_58 : decode cX11_jury 58 = .ok (.if_icmp .ge 27, 3) := by decide +kernel
theorem dX11_jury_61 : decode cX11_jury 61 = .ok (.aload_n 0, 1) := by decide +kernel
theorem dX11_jury_62 : decode cX11_jury 62 = .ok (.getfield 70, 3) := by decide +kernel
theorem dX11_jury_65 : decode cX11_jury 65 = .ok (.iconst 5, 1) := by decide +kernel
theorem dX11_jury_66 : decode cX11_jury 66 = .ok (.iload_n 3, 1) := by decide +kernel
theorem dX11_jury_67 : decode cX11_jury 67 = .ok (.imul, 1) := by decide +kernel
theorem dX11_jury_68 : decode cX11_jury 68 = .ok (.iload 4, 2) := by decide +kernel
theorem dX11_jury_70 : decode cX11_jury 70 = .ok (.iadd, 1) := by decide +kernel
theorem dX11_jury_71 : decode cX11_jury 71 = .ok (.aload_n 0, 1) := by decide +kernel
theorem dX11_jury_72 : decode cX11_jury 72 = .ok (.getfield 51, 3) := by decide +kernel
theorem dX11_jury_75 : decode cX11_jury 75 = .ok (.iload 4, 2) := by decide +kernel
theorem dX11_jury_77 : decode cX11_jury 77 = .ok (.iaload, 1) := by decide +kernel
theorem dX11_jury_78 : decode cX11_jury 78 = .ok (.iastore, 1) := by decide +kernel
theorem dX11_jury_79 : decode cX11_jury 79 = .ok (.iinc 4 1, 3) := by decide +kernel
theorem dX11_jury_82 : decode cX11_jury 82 = .ok (.goto (-27), 3) := by decide +kernel
theorem dX11_jury_85 : decode cX11_jury 85 = .ok (.iinc 3 1, 3) := by decide +kernel
theorem dX11_jury_88 : decode cX11_jury 88 = .ok (.goto (-53), 3) := by decide +kernel
theorem dX11_jury_91 : decode cX11_jury 91 = .ok (.bipush (-2), 2) := by decide +kernel
theorem dX11_jury_93 : decode cX11_jury 93 = .ok (.istore 4, 2) := by decide +kernel
theorem dX11_jury_95 : decode cX11_jury 95 = .ok (.iconst 0, 1) := by decide +kernel
theorem dX11_jury_96 : decode cX11_jury 96 = .ok (.istore 5, 2) := by decide +kernel
theorem dX11_jury_98 : decode cX11_jury 98 = .ok (.iload 5, 2) := by decide +kernel
theorem dX11_jury_100 : decode cX11_jury 100 = .ok (.iconst 1, 1) := by decide +kernel
theorem dX11_jury_101 : decode cX11_jury 101 = .ok (.aload_n 0, 1) := by decide +kernel
theorem dX11_jury_102 : decode cX11_jury 102 = .ok (.getfield 129, 3) := by decide +kernel
theorem dX11_jury_105 : decode cX11_jury 105 = .ok (.ishl, 1) := by decide +kernel
theorem dX11_jury_106 : decode cX11_jury 106 = .ok (.if_icmp .ge 48, 3) := by decide +kernel
theorem dX11_jury_109 : decode cX11_jury 109 = .ok (.iload 4, 2) := by decide +kernel
theorem dX11_jury_111 : decode cX11_jury 111 = .ok (.bipush (-2), 2) := by decide +kernel
theorem dX11_jury_113 : decode cX11_jury 113 = .ok (.if_icmp .eq 16, 3) := by decide +kernel
theorem dX11_jury_116 : decode cX11_jury 116 = .ok (.iload 5, 2) := by decide +kernel
theorem dX11_jury_118 : decode cX11_jury 118 = .ok (.invokestatic 281, 3) := by decide +kernel
theorem dX11_jury_121 : decode cX11_jury 121 = .ok (.iload 4, 2) := by decide +kernel
theorem dX11_jury_123 : decode cX11_jury 123 = .ok (.invokestatic 281, 3) := by decide +kernel
theorem dX11_jury_126 : decode cX11_jury 126 = .ok (.if_icmp .ge 22, 3) := by decide +kernel
theorem dX11_jury_129 : decode cX11_jury 129 = .ok (.aload_n 0, 1) := by decide +kernel
theorem dX11_jury_130 : decode cX11_jury 130 = .ok (.iload 5, 2) := by decide +kernel
theorem dX11_jury_132 : decode cX11_jury 132 = .ok (.iload_n 3, 1) := by decide +kernel
theorem dX11_jury_133 : decode cX11_jury 133 = .ok (.invokevirtual 284, 3) := by decide +kernel
theorem dX11_jury_136 : decode cX11_jury 136 = .ok (.ifCond .eq 8, 3) := by decide +kernel
theorem dX11_jury_139 : decode cX11_jury 139 = .ok (.iload 5, 2) := by decide +kernel
theorem dX11_jury_141 : decode cX11_jury 141 = .ok (.goto 5, 3) := by decide +kernel
theorem dX11_jury_144 : decode cX11_jury 144 = .ok (.iload 4, 2) := by decide +kernel
theorem dX11_jury_146 : decode cX11_jury 146 = .ok (.istore 4, 2) := by decide +kernel
theorem dX11_jury_148 : decode cX11_jury 148 = .ok (.iinc 5 1, 3) := by decide +kernel
theorem dX11_jury_151 : decode cX11_jury 151 = .ok (.goto (-53), 3) := by decide +kernel
theorem dX11_jury_154 : decode cX11_jury 154 = .ok (.iload 4, 2) := by decide +kernel
theorem dX11_jury_156 : decode cX11_jury 156 = .ok (.bipush (-2), 2) := by decide +kernel
theorem dX11_jury_158 : decode cX11_jury 158 = .ok (.if_icmp .eq 8, 3) := by decide +kernel
theorem dX11_jury_161 : decode cX11_jury 161 = .ok (.iload_n 2, 1) := by decide +kernel
theorem dX11_jury_162 : decode cX11_jury 162 = .ok (.iconst 1, 1) := by decide +kernel
theorem dX11_jury_163 : decode cX11_jury 163 = .ok (.if_icmp .ne 8, 3) := by decide +kernel
theorem dX11_jury_166 : decode cX11_jury 166 = .ok (.iload 4, 2) := by decide +kernel
theorem dX11_jury_168 : decode cX11_jury 168 = .ok (.goto 8, 3) := by decide +kernel
theorem dX11_jury_171 : decode cX11_jury 171 = .ok (.iload 4, 2) := by decide +kernel
theorem dX11_jury_173 : decode cX11_jury 173 = .ok (.invokestatic 281, 3) := by decide +kernel
theorem dX11_jury_176 : decode cX11_jury 176 = .ok (.ireturn, 1) := by decide +kernel
theorem dX11_isTold_0 : decode cX11_isTold 0 = .ok (.iconst 1, 1) := by decide +kernel
theorem dX11_isTold_1 : decode cX11_isTold 1 = .ok (.istore_n 3, 1) := by decide +kernel
theorem dX11_isTold_2 : decode cX11_isTold 2 = .ok (.iconst 0, 1) := by decide +kernel
theorem dX11_isTold_3 : decode cX11_isTold 3 = .ok (.istore 4, 2) := by decide +kernel
theorem dX11_isTold_5 : decode cX11_isTold 5 = .ok (.iload 4, 2) := by decide +kernel
theorem dX11_isTold_7 : decode cX11_isTold 7 = .ok (.iload_n 2, 1) := by decide +kernel
theorem dX11_isTold_8 : decode cX11_isTold 8 = .ok (.if_icmp .ge 108, 3) := by decide +kernel
theorem dX11_isTold_11 : decode cX11_isTold 11 = .ok (.iconst 0, 1) := by decide +kernel
theorem dX11_isTold_12 : decode cX11_isTold 12 = .ok (.istore 5, 2) := by decide +kernel
theorem dX11_isTold_14 : decode cX11_isTold 14 = .ok (.iload 5, 2) := by decide +kernel
theorem dX11_isTold_16 : decode cX11_isTold 16 = .ok (.iload 4, 2) := by decide +kernel
theorem dX11_isTold_18 : decode cX11_isTold 18 = .ok (.if_icmp .ge 92, 3) := by decide +kernel
theorem dX11_isTold_21 : decode cX11_isTold 21 = .ok (.iconst 0, 1) := by decide +kernel
theorem dX11_isTold_22 : decode cX11_isTold 22 = .ok (.istore 6, 2) := by decide +kernel
theorem dX11_isTold_24 : decode cX11_isTold 24 = .ok (.iconst 0, 1) := by decide +kernel
theorem dX11_isTold_25 : decode cX11_isTold 25 = .ok (.istore 7, 2) := by decide +kernel
theorem dX11_isTold_27 : decode cX11_isTold 27 = .ok (.iload 7, 2) := by decide +kernel
theorem dX11_isTold_29 : decode cX11_isTold 29 = .ok (.aload_n 0, 1) := by decide +kernel
theorem dX11_isTold_30 : decode cX11_isTold 30 = .ok (.getfield 129, 3) := by decide +kernel
theorem dX11_isTold_33 : decode cX11_isTold 33 = .ok (.if_icmp .ge 56, 3) := by decide +kernel
theorem dX11_isTold_36 : decode cX11_isTold 36 = .ok (.iload 6, 2) := by decide +kernel
theorem dX11_isTold_38 : decode cX11_isTold 38 = .ok (.ifCond .ne 38, 3) := by decide +kernel
theorem dX11_isTold_41 : decode cX11_isTold 41 = .ok (.iload_n 1, 1) := by decide +kernel
theorem dX11_isTold_42 : decode cX11_isTold 42 = .ok (.iload 7, 2) := by decide +kernel
theorem dX11_isTold_44 : decode cX11_isTold 44 = .ok (.ishr, 1) := by decide +kernel
theorem dX11_isTold_45 : decode cX11_isTold 45 = .ok (.iconst 1, 1) := by decide +kernel
theorem dX11_isTold_46 : decode cX11_isTold 46 = .ok (.iand, 1) := by decide +kernel
theorem dX11_isTold_47 : decode cX11_isTold 47 = .ok (.iconst 1, 1) := by decide +kernel
theorem dX11_isTold_48 : decode cX11_isTold 48 = .ok (.if_icmp .ne 32, 3) := by decide +kernel
theorem dX11_isTold_51 : decode cX11_isTold 51 = .ok (.aload_n 0, 1) := by decide +kernel
theorem dX11_isTold_52 : decode cX11_isTold 52 = .ok (.iload 7, 2) := by decide +kernel
theorem dX11_isTold_54 : decode cX11_isTold 54 = .ok (.aload_n 0, 1) := by decide +kernel
theorem dX11_isTold_55 : decode cX11_isTold 55 = .ok (.getfield 70, 3) := by decide +kernel
theorem dX11_isTold_58 : decode cX11_isTold 58 = .ok (.iconst 5, 1) := by decide +kernel
theorem dX11_isTold_59 : decode cX11_isTold 59 = .ok (.iload 4, 2) := by decide +kernel
theorem dX11_isTold_61 : decode cX11_isTold 61 = .ok (.imul, 1) := by decide +kernel
theorem dX11_isTold_62 : decode cX11_isTold 62 = .ok (.aload_n 0, 1) := by decide +kernel
theorem dX11_isTold_63 : decode cX11_isTold 63 = .ok (.getfield 70, 3) := by decide +kernel
theorem dX11_isTold_66 : decode cX11_isTold 66 = .ok (.iconst 5, 1) := by decide +kernel
theorem dX11_isTold_67 : decode cX11_isTold 67 = .ok (.iload 5, 2) := by decide +kernel
theorem dX11_isTold_69 : decode cX11_isTold 69 = .ok (.imul, 1) := by decide +kernel
theorem dX11_isTold_70 : decode cX11_isTold 70 = .ok (.invokevirtual 277, 3) := by decide +kernel
theorem dX11_isTold_73 : decode cX11_isTold 73 = .ok (.ifCond .eq 7, 3) := by decide +kernel
theorem dX11_isTold_76 : decode cX11_isTold 76 = .ok (.iconst 1, 1) := by decide +kernel
theorem dX11_isTold_77 : decode cX11_isTold 77 = .ok (.goto 4, 3) := by decide +kernel
theorem dX11_isTold_80 : decode cX11_isTold 80 = .ok (.iconst 0, 1) := by decide +kernel
theorem dX11_isTold_81 : decode cX11_isTold 81 = .ok (.istore 6, 2) := by decide +kernel
theorem dX11_isTold_83 : decode cX11_isTold 83 = .ok (.iinc 7 1, 3) := by decide +kernel
theorem dX11_isTold_86 : decode cX11_isTold 86 = .ok (.goto (-59), 3) := by decide +kernel
theorem dX11_isTold_89 : decode cX11_isTold 89 = .ok (.iload_n 3, 1) := by decide +kernel
theorem dX11_isTold_90 : decode cX11_isTold 90 = .ok (.ifCond .eq 12, 3) := by decide +kernel
theorem dX11_isTold_93 : decode cX11_isTold 93 = .ok (.iload 6, 2) := by decide +kernel
theorem dX11_isTold_95 : decode cX11_isTold 95 = .ok (.ifCond .eq 7, 3) := by decide +kernel
theorem dX11_isTold_98 : decode cX11_isTold 98 = .ok (.iconst 1, 1) := by decide +kernel
theorem dX11_isTold_99 : decode cX11_isTold 99 = .ok (.goto 4, 3) := by decide +kernel
theorem dX11_isTold_102 : decode cX11_isTold 102 = .ok (.iconst 0, 1) := by decide +kernel
theorem dX11_isTold_103 : decode cX11_isTold 103 = .ok (.istore_n 3, 1) := by decide +kernel
theorem dX11_isTold_104 : decode cX11_isTold 104 = .ok (.iinc 5 1, 3) := by decide +kernel
theorem dX11_isTold_107 : decode cX11_isTold 107 = .ok (.goto (-93), 3) := by decide +kernel
theorem dX11_isTold_110 : decode cX11_isTold 110 = .ok (.iinc 4 1, 3) := by decide +kernel
theorem dX11_isTold_113 : decode cX11_isTold 113 = .ok (.goto (-108), 3) := by decide +kernel
theorem dX11_isTold_116 : decode cX11_isTold 116 = .ok (.iload_n 3, 1) := by decide +kernel
theorem dX11_isTold_117 : decode cX11_isTold 117 = .ok (.ireturn, 1) := by decide +kernel
theorem dX11_inHouse_0 : decode cX11_inHouse 0 = .ok (.iload_n 1, 1) := by decide +kernel
theorem dX11_inHouse_1 : decode cX11_inHouse 1 = .ok (.invokestatic 238, 3) := by decide +kernel
theorem dX11_inHouse_4 : decode cX11_inHouse 4 = .ok (.ifCond .eq 52, 3) := by decide +kernel
theorem dX11_inHouse_7 : decode cX11_inHouse 7 = .ok (.iload_n 2, 1) := by decide +kernel
theorem dX11_inHouse_8 : decode cX11_inHouse 8 = .ok (.invokestatic 268, 3) := by decide +kernel
theorem dX11_inHouse_11 : decode cX11_inHouse 11 = .ok (.ifCond .eq 45, 3) := by decide +kernel
theorem dX11_inHouse_14 : decode cX11_inHouse 14 = .ok (.aload_n 0, 1) := by decide +kernel
theorem dX11_inHouse_15 : decode cX11_inHouse 15 = .ok (.iload_n 2, 1) := by decide +kernel
theorem dX11_inHouse_16 : decode cX11_inHouse 16 = .ok (.bipush 100, 2) := by decide +kernel
theorem dX11_inHouse_18 : decode cX11_inHouse 18 = .ok (.idiv, 1) := by decide +kernel
theorem dX11_inHouse_19 : decode cX11_inHouse 19 = .ok (.invokevirtual 132, 3) := by decide +kernel
theorem dX11_inHouse_22 : decode cX11_inHouse 22 = .ok (.ifCond .eq 34, 3) := by decide +kernel
theorem dX11_inHouse_25 : decode cX11_inHouse 25 = .ok (.iload_n 3, 1) := by decide +kernel
theorem dX11_inHouse_26 : decode cX11_inHouse 26 = .ok (.iconst 0, 1) := by decide +kernel
theorem dX11_inHouse_27 : decode cX11_inHouse 27 = .ok (.iconst 1, 1) := by decide +kernel
theorem dX11_inHouse_28 : decode cX11_inHouse 28 = .ok (.invokestatic 125, 3) := by decide +kernel
theorem dX11_inHouse_31 : decode cX11_inHouse 31 = .ok (.ifCond .ne 27, 3) := by decide +kernel
theorem dX11_inHouse_34 : decode cX11_inHouse 34 = .ok (.iload_n 3, 1) := by decide +kernel
theorem dX11_inHouse_35 : decode cX11_inHouse 35 = .ok (.bipush 10, 2) := by decide +kernel
theorem dX11_inHouse_37 : decode cX11_inHouse 37 = .ok (.bipush 13, 2) := by decide +kernel
theorem dX11_inHouse_39 : decode cX11_inHouse 39 = .ok (.invokestatic 125, 3) := by decide +kernel
theorem dX11_inHouse_42 : decode cX11_inHouse 42 = .ok (.ifCond .ne 16, 3) := by decide +kernel
theorem dX11_inHouse_45 : decode cX11_inHouse 45 = .ok (.iload_n 3, 1) := by decide +kernel
theorem dX11_inHouse_46 : decode cX11_inHouse 46 = .ok (.bipush 20, 2) := by decide +kernel
theorem dX11_inHouse_48 : decode cX11_inHouse 48 = .ok (.bipush 23, 2) := by decide +kernel
theorem dX11_inHouse_50 : decode cX11_inHouse 50 = .ok (.invokestatic 125, 3) := by decide +kernel
theorem dX11_inHouse_53 : decode cX11_inHouse 53 = .ok (.ifCond .ne 5, 3) := by decide +kernel
theorem dX11_inHouse_56 : decode cX11_inHouse 56 = .ok (.iconst (-1), 1) := by decide +kernel
theorem dX11_inHouse_57 : decode cX11_inHouse 57 = .ok (.ireturn, 1) := by decide +kernel
theorem dX11_inHouse_58 : decode cX11_inHouse 58 = .ok (.aload_n 0, 1) := by decide +kernel
theorem dX11_inHouse_59 : decode cX11_inHouse 59 = .ok (.iconst (-1), 1) := by decide +kernel
theorem dX11_inHouse_60 : decode cX11_inHouse 60 = .ok (.iload_n 1, 1) := by decide +kernel
theorem dX11_inHouse_61 : decode cX11_inHouse 61 = .ok (.invokevirtual 247, 3) := by decide +kernel
theorem dX11_inHouse_64 : decode cX11_inHouse 64 = .ok (.istore 4, 2) := by decide +kernel
theorem dX11_inHouse_66 : decode cX11_inHouse 66 = .ok (.iload 4, 2) := by decide +kernel
theorem dX11_inHouse_68 : decode cX11_inHouse 68 = .ok (.iconst 1, 1) := by decide +kernel
theorem dX11_inHouse_69 : decode cX11_inHouse 69 = .ok (.if_icmp .ge 6, 3) := by decide +kernel
theorem dX11_inHouse_72 : decode cX11_inHouse 72 = .ok (.iload 4, 2) := by decide +kernel
theorem dX11_inHouse_74 : decode cX11_inHouse 74 = .ok (.ireturn, 1) := by decide +kernel
theorem dX11_inHouse_75 : decode cX11_inHouse 75 = .ok (.iconst 0, 1) := by decide +kernel
theorem dX11_inHouse_76 : decode cX11_inHouse 76 = .ok (.istore 5, 2) := by decide +kernel
theorem dX11_inHouse_78 : decode cX11_inHouse 78 = .ok (.bipush (-2), 2) := by decide +kernel
theorem dX11_inHouse_80 : decode cX11_inHouse 80 = .ok (.istore 6, 2) := by decide +kernel
theorem dX11_inHouse_82 : decode cX11_inHouse 82 = .ok (.bipush (-2), 2) := by decide +kernel
theorem dX11_inHouse_84 : decode cX11_inHouse 84 = .ok (.istore 7, 2) := by decide +kernel
theorem dX11_inHouse_86 : decode cX11_inHouse 86 = .ok (.bipush (-2), 2) := by decide +kernel
theorem dX11_inHouse_88 : decode cX11_inHouse 88 = .ok (.istore 8, 2) := by decide +kernel
theorem dX11_inHouse_90 : decode cX11_inHouse 90 = .ok (.iconst 0, 1) := by decide +kernel
theorem dX11_inHouse_91 : decode cX11_inHouse 91 = .ok (.istore 9, 2) := by decide +kernel
theorem dX11_inHouse_93 : decode cX11_inHouse 93 = .ok (.iload 9, 2) := by decide +kernel
theorem dX11_inHouse_95 : decode cX11_inHouse 95 = .ok (.sipush 256, 3) := by decide +kernel
theorem dX11_inHouse_98 : decode cX11_inHouse 98 = .ok (.if_icmp .ge 115, 3) := by decide +kernel
theorem dX11_inHouse_101 : decode cX11_inHouse 101 = .ok (.aload_n 0, 1) := by decide +kernel
theorem dX11_inHouse_102 : decode cX11_inHouse 102 = .ok (.iload_n 2, 1) := by decide +kernel
theorem dX11_inHouse_103 : decode cX11_inHouse 103 = .ok (.bipush 100, 2) := by decide +kernel
theorem dX11_inHouse_105 : decode cX11_inHouse 105 = .ok (.idiv, 1) := by decide +kernel
theorem dX11_inHouse_106 : decode cX11_inHouse 106 = .ok (.iload 9, 2) := by decide +kernel
theorem dX11_inHouse_108 : decode cX11_inHouse 108 = .ok (.iconst 3, 1) := by decide +kernel
theorem dX11_inHouse_109 : decode cX11_inHouse 109 = .ok (.invokevirtual 274, 3) := by decide +kernel
theorem dX11_inHouse_112 : decode cX11_inHouse 112 = .ok (.ifCond .eq 95, 3) := by decide +kernel
theorem dX11_inHouse_115 : decode cX11_inHouse 115 = .ok (.aload_n 0, 1) := by decide +kernel
theorem dX11_inHouse_116 : decode cX11_inHouse 116 = .ok (.invokevirtual 249, 3) := by decide +kernel
theorem dX11_inHouse_119 : decode cX11_inHouse 119 = .ok (.aload_n 0, 1) := by decide +kernel
theorem dX11_inHouse_120 : decode cX11_inHouse 120 = .ok (.iload_n 2, 1) := by decide +kernel
theorem dX11_inHouse_121 : decode cX11_inHouse 121 = .ok (.bipush 100, 2) := by decide +kernel
theorem dX11_inHouse_123 : decode cX11_inHouse 123 = .ok (.irem, 1) := by decide +kernel
theorem dX11_inHouse_124 : decode cX11_inHouse 124 = .ok (.invokevirtual 252, 3) := by decide +kernel
theorem dX11_inHouse_127 : decode cX11_inHouse 127 = .ok (.aload_n 0, 1) := by decide +kernel
theorem dX11_inHouse_128 : decode cX11_inHouse 128 = .ok (.aload_n 0, 1) := by decide +kernel
theorem dX11_inHouse_129 : decode cX11_inHouse 129 = .ok (.getfield 48, 3) := by decide +kernel
theorem dX11_inHouse_132 : decode cX11_inHouse 132 = .ok (.invokevirtual 262, 3) := by decide +kernel
theorem dX11_inHouse_135 : decode cX11_inHouse 135 = .ok (.ifCond .ne 72, 3) := by decide +kernel
theorem dX11_inHouse_138 : decode cX11_inHouse 138 = .ok (.iload_n 3, 1) := by decide +kernel
theorem dX11_inHouse_139 : decode cX11_inHouse 139 = .ok (.iconst 1, 1) := by decide +kernel
theorem dX11_inHouse_140 : decode cX11_inHouse 140 = .ok (.if_icmp .le 15, 3) := by decide +kernel
theorem dX11_inHouse_143 : decode cX11_inHouse 143 = .ok (.aload_n 0, 1) := by decide +kernel
theorem dX11_inHouse_144 : decode cX11_inHouse 144 = .ok (.getfield 45, 3) := by decide +kernel
theorem dX11_inHouse_147 : decode cX11_inHouse 147 = .ok (.iload_n 3, 1) := by decide +kernel
theorem dX11_inHouse_148 : decode cX11_inHouse 148 = .ok (.bipush 10, 2) := by decide +kernel
theorem dX11_inHouse_150 : decode cX11_inHouse 150 = .ok (.irem, 1) := by decide +kernel
theorem dX11_inHouse_151 : decode cX11_inHouse 151 = .ok (.iaload, 1) := by decide +kernel
theorem dX11_inHouse_152 : decode cX11_inHouse 152 = .ok (.goto 4, 3) := by decide +kernel
theorem dX11_inHouse_155 : decode cX11_inHouse 155 = .ok (.iconst 0, 1) := by decide +kernel
theorem dX11_inHouse_156 : decode cX11_inHouse 156 = .ok (.istore 10, 2) := by decide +kernel
theorem dX11_inHouse_158 : decode cX11_inHouse 158 = .ok (.iinc 5 1, 3) := by decide +kernel
theorem dX11_inHouse_161 : decode cX11_inHouse 161 = .ok (.iload 6, 2) := by decide +kernel
theorem dX11_inHouse_163 : decode cX11_inHouse 163 = .ok (.bipush (-2), 2) := by decide +kernel
theorem dX11_inHouse_165 : decode cX11_inHouse 165 = .ok (.if_icmp .ne 8, 3) := by decide +kernel
theorem dX11_inHouse_168 : decode cX11_inHouse 168 = .ok (.iload 9, 2) := by decide +kernel
theorem dX11_inHouse_170 : decode cX11_inHouse 170 = .ok (.goto 5, 3) := by decide +kernel
theorem dX11_inHouse_173 : decode cX11_inHouse 173 = .ok (.iload 6, 2) := by decide +kernel
theorem dX11_inHouse_175 : decode cX11_inHouse 175 = .ok (.istore 6, 2) := by decide +kernel
theorem dX11_inHouse_177 : decode cX11_inHouse 177 = .ok (.iload 7, 2) := by decide +kernel
theorem dX11_inHouse_179 : decode cX11_inHouse 179 = .ok (.bipush (-2), 2) := by decide +kernel
theorem dX11_inHouse_181 : decode cX11_inHouse 181 = .ok (.if_icmp .ne 8, 3) := by decide +kernel
theorem dX11_inHouse_184 : decode cX11_inHouse 184 = .ok (.iload 10, 2) := by decide +kernel
theorem dX11_inHouse_186 : decode cX11_inHouse 186 = .ok (.goto 10, 3) := by decide +kernel
theorem dX11_inHouse_189 : decode cX11_inHouse 189 = .ok (.iload 10, 2) := by decide +kernel
theorem dX11_inHouse_191 : decode cX11_inHouse 191 = .ok (.iload 7, 2) := by decide +kernel
theorem dX11_inHouse_193 : decode cX11_inHouse 193 = .ok (.invokestatic 112, 3) := by decide +kernel
theorem dX11_inHouse_196 : decode cX11_inHouse 196 = .ok (.istore 7, 2) := by decide +kernel
theorem dX11_inHouse_198 : decode cX11_inHouse 198 = .ok (.iload 10, 2) := by decide +kernel
theorem dX11_inHouse_200 : decode cX11_inHouse 200 = .ok (.iload 8, 2) := by decide +kernel
theorem dX11_inHouse_202 : decode cX11_inHouse 202 = .ok (.invokestatic 118, 3) := by decide +kernel
theorem dX11_inHouse_205 : decode cX11_inHouse 205 = .ok (.istore 8, 2) := by decide +kernel
theorem dX11_inHouse_207 : decode cX11_inHouse 207 = .ok (.iinc 9 1, 3) := by decide +kernel
theorem dX11_inHouse_210 : decode cX11_inHouse 210 = .ok (.goto (-117), 3) := by decide +kernel
theorem dX11_inHouse_213 : decode cX11_inHouse 213 = .ok (.iload_n 3, 1) := by decide +kernel
theorem dX11_inHouse_214 : decode cX11_inHouse 214 = .ok (.ifCond .ne 8, 3) := by decide +kernel
theorem dX11_inHouse_217 : decode cX11_inHouse 217 = .ok (.iload 5, 2) := by decide +kernel
theorem dX11_inHouse_219 : decode cX11_inHouse 219 = .ok (.goto 26, 3) := by decide +kernel
theorem dX11_inHouse_222 : decode cX11_inHouse 222 = .ok (.iload_n 3, 1) := by decide +kernel
theorem dX11_inHouse_223 : decode cX11_inHouse 223 = .ok (.iconst 1, 1) := by decide +kernel
theorem dX11_inHouse_224 : decode cX11_inHouse 224 = .ok (.if_icmp .ne 8, 3) := by decide +kernel
theorem dX11_inHouse_227 : decode cX11_inHouse 227 = .ok (.iload 6, 2) := by decide +kernel
theorem dX11_inHouse_229 : decode cX11_inHouse 229 = .ok (.goto 16, 3) := by decide +kernel
theorem dX11_inHouse_232 : decode cX11_inHouse 232 = .ok (.iload_n 3, 1) := by decide +kernel
theorem dX11_inHouse_233 : decode cX11_inHouse 233 = .ok (.bipush 20, 2) := by decide +kernel
theorem dX11_inHouse_235 : decode cX11_inHouse 235 = .ok (.if_icmp .ge 8, 3) := by decide +kernel
theorem dX11_inHouse_238 : decode cX11_inHouse 238 = .ok (.iload 7, 2) := by decide +kernel
theorem dX11_inHouse_240 : decode cX11_inHouse 240 = .ok (.goto 5, 3) := by decide +kernel
theorem dX11_inHouse_243 : decode cX11_inHouse 243 = .ok (.iload 8, 2) := by decide +kernel
theorem dX11_inHouse_245 : decode cX11_inHouse 245 = .ok (.ireturn, 1) := by decide +kernel
theorem dX11_lent_0 : decode cX11_lent 0 = .ok (.iload_n 1, 1) := by decide +kernel
theorem dX11_lent_1 : decode cX11_lent 1 = .ok (.invokestatic 238, 3) := by decide +kernel
theorem dX11_lent_4 : decode cX11_lent 4 = .ok (.ifCond .eq 11, 3) := by decide +kernel
theorem dX11_lent_7 : decode cX11_lent 7 = .ok (.aload_n 0, 1) := by decide +kernel
theorem dX11_lent_8 : decode cX11_lent 8 = .ok (.iload_n 2, 1) := by decide +kernel
theorem dX11_lent_9 : decode cX11_lent 9 = .ok (.invokevirtual 132, 3) := by decide +kernel
theorem dX11_lent_12 : decode cX11_lent 12 = .ok (.ifCond .ne 5, 3) := by decide +kernel
theorem dX11_lent_15 : decode cX11_lent 15 = .ok (.iconst (-1), 1) := by decide +kernel
theorem dX11_lent_16 : decode cX11_lent 16 = .ok (.ireturn, 1) := by decide +kernel
theorem dX11_lent_17 : decode cX11_lent 17 = .ok (.aload_n 0, 1) := by decide +kernel
theorem dX11_lent_18 : decode cX11_lent 18 = .ok (.iload_n 1, 1) := by decide +kernel
theorem dX11_lent_19 : decode cX11_lent 19 = .ok (.iconst (-1), 1) := by decide +kernel
theorem dX11_lent_20 : decode cX11_lent 20 = .ok (.invokevirtual 247, 3) := by decide +kernel
theorem dX11_lent_23 : decode cX11_lent 23 = .ok (.istore_n 3, 1) := by decide +kernel
theorem dX11_lent_24 : decode cX11_lent 24 = .ok (.iload_n 3, 1) := by decide +kernel
theorem dX11_lent_25 : decode cX11_lent 25 = .ok (.iconst 1, 1) := by decide +kernel
theorem dX11_lent_26 : decode cX11_lent 26 = .ok (.if_icmp .ge 5, 3) := by decide +kernel
theorem dX11_lent_29 : decode cX11_lent 29 = .ok (.iload_n 3, 1) := by decide +kernel
theorem dX11_lent_30 : decode cX11_lent 30 = .ok (.ireturn, 1) := by decide +kernel
theorem dX11_lent_31 : decode cX11_lent 31 = .ok (.iconst 0, 1) := by decide +kernel
theorem dX11_lent_32 : decode cX11_lent 32 = .ok (.istore 4, 2) := by decide +kernel
theorem dX11_lent_34 : decode cX11_lent 34 = .ok (.iconst 0, 1) := by decide +kernel
theorem dX11_lent_35 : decode cX11_lent 35 = .ok (.istore 5, 2) := by decide +kernel
theorem dX11_lent_37 : decode cX11_lent 37 = .ok (.iload 5, 2) := by decide +kernel
theorem dX11_lent_39 : decode cX11_lent 39 = .ok (.bipush 8, 2) := by decide +kernel
theorem dX11_lent_41 : decode cX11_lent 41 = .ok (.if_icmp .ge 91, 3) := by decide +kernel
theorem dX11_lent_44 : decode cX11_lent 44 = .ok (.iconst 0, 1) := by decide +kernel
theorem dX11_lent_45 : decode cX11_lent 45 = .ok (.aload_n 0, 1) := by decide +kernel
theorem dX11_lent_46 : decode cX11_lent 46 = .ok (.getfield 45, 3) := by decide +kernel
theorem dX11_lent_49 : decode cX11_lent 49 = .ok (.iload 5, 2) := by decide +kernel
theorem dX11_lent_51 : decode cX11_lent 51 = .ok (.iaload, 1) := by decide +kernel
theorem dX11_lent_52 : decode cX11_lent 52 = .ok (.aload_n 0, 1) := by decide +kernel
theorem dX11_lent_53 : decode cX11_lent 53 = .ok (.iload_n 2, 1) := by decide +kernel
theorem dX11_lent_54 : decode cX11_lent 54 = .ok (.iload 5, 2) := by decide +kernel
theorem dX11_lent_56 : decode cX11_lent 56 = .ok (.invokevirtual 265, 3) := by decide +kernel
theorem dX11_lent_59 : decode cX11_lent 59 = .ok (.isub, 1) := by decide +kernel
theorem dX11_lent_60 : decode cX11_lent 60 = .ok (.invokestatic 118, 3) := by decide +kernel
theorem dX11_lent_63 : decode cX11_lent 63 = .ok (.istore 6, 2) := by decide +kernel
theorem dX11_lent_65 : decode cX11_lent 65 = .ok (.iconst 0, 1) := by decide +kernel
theorem dX11_lent_66 : decode cX11_lent 66 = .ok (.istore 7, 2) := by decide +kernel
theorem dX11_lent_68 : decode cX11_lent 68 = .ok (.iconst 0, 1) := by decide +kernel
theorem dX11_lent_69 : decode cX11_lent 69 = .ok (.istore 8, 2) := by decide +kernel
theorem dX11_lent_71 : decode cX11_lent 71 = .ok (.iload 8, 2) := by decide +kernel
theorem dX11_lent_73 : decode cX11_lent 73 = .ok (.aload_n 0, 1) := by decide +kernel
theorem dX11_lent_74 : decode cX11_lent 74 = .ok (.getfield 121, 3) := by decide +kernel
theorem dX11_lent_77 : decode cX11_lent 77 = .ok (.if_icmp .ge 32, 3) := by decide +kernel
theorem dX11_lent_80 : decode cX11_lent 80 = .ok (.iload 7, 2) := by decide +kernel
theorem dX11_lent_82 : decode cX11_lent 82 = .ok (.iload 8, 2) := by decide +kernel
theorem dX11_lent_84 : decode cX11_lent 84 = .ok (.iload_n 2, 1) := by decide +kernel
theorem dX11_lent_85 : decode cX11_lent 85 = .ok (.if_icmp .ne 7, 3) := by decide +kernel
theorem dX11_lent_88 : decode cX11_lent 88 = .ok (.iconst 0, 1) := by decide +kernel
theorem dX11_lent_89 : decode cX11_lent 89 = .ok (.goto 11, 3) := by decide +kernel
theorem dX11_lent_92 : decode cX11_lent 92 = .ok (.aload_n 0, 1) := by decide +kernel
theorem dX11_lent_93 : decode cX11_lent 93 = .ok (.iload 8, 2) := by decide +kernel
theorem dX11_lent_95 : decode cX11_lent 95 = .ok (.iload 5, 2) := by decide +kernel
theorem dX11_lent_97 : decode cX11_lent 97 = .ok (.invokevirtual 265, 3) := by decide +kernel
theorem dX11_lent_100 : decode cX11_lent 100 = .ok (.iadd, 1) := by decide +kernel
theorem dX11_lent_101 : decode cX11_lent 101 = .ok (.istore 7, 2) := by decide +kernel
theorem dX11_lent_103 : decode cX11_lent 103 = .ok (.iinc 8 1, 3) := by decide +kernel
theorem dX11_lent_106 : decode cX11_lent 106 = .ok (.goto (-35), 3) := by decide +kernel
theorem dX11_lent_109 : decode cX11_lent 109 = .ok (.iload 7, 2) := by decide +kernel
theorem dX11_lent_111 : decode cX11_lent 111 = .ok (.iload 6, 2) := by decide +kernel
theorem dX11_lent_113 : decode cX11_lent 113 = .ok (.if_icmp .ge 6, 3) := by decide +kernel
theorem dX11_lent_116 : decode cX11_lent 116 = .ok (.bipush (-2), 2) := by decide +kernel
theorem dX11_lent_118 : decode cX11_lent 118 = .ok (.ireturn, 1) := by decide +kernel
theorem dX11_lent_119 : decode cX11_lent 119 = .ok (.iload 4, 2) := by decide +kernel
theorem dX11_lent_121 : decode cX11_lent 121 = .ok (.iload 6, 2) := by decide +kernel
theorem dX11_lent_123 : decode cX11_lent 123 = .ok (.iadd, 1) := by decide +kernel
theorem dX11_lent_124 : decode cX11_lent 124 = .ok (.istore 4, 2) := by decide +kernel
theorem dX11_lent_126 : decode cX11_lent 126 = .ok (.iinc 5 1, 3) := by decide +kernel
theorem dX11_lent_129 : decode cX11_lent 129 = .ok (.goto (-92), 3) := by decide +kernel
theorem dX11_lent_132 : decode cX11_lent 132 = .ok (.iload 4, 2) := by decide +kernel
theorem dX11_lent_134 : decode cX11_lent 134 = .ok (.ireturn, 1) := by decide +kernel
theorem dX11_isAble_0 : decode cX11_isAble 0 = .ok (.iconst 1, 1) := by decide +kernel
theorem dX11_isAble_1 : decode cX11_isAble 1 = .ok (.istore_n 2, 1) := by decide +kernel
theorem dX11_isAble_2 : decode cX11_isAble 2 = .ok (.iconst 0, 1) := by decide +kernel
theorem dX11_isAble_3 : decode cX11_isAble 3 = .ok (.istore_n 3, 1) := by decide +kernel
theorem dX11_isAble_4 : decode cX11_isAble 4 = .ok (.iload_n 3, 1) := by decide +kernel
theorem dX11_isAble_5 : decode cX11_isAble 5 = .ok (.bipush 8, 2) := by decide +kernel
theorem dX11_isAble_7 : decode cX11_isAble 7 = .ok (.if_icmp .ge 34, 3) := by decide +kernel
theorem dX11_isAble_10 : decode cX11_isAble 10 = .ok (.iload_n 2, 1) := by decide +kernel
theorem dX11_isAble_11 : decode cX11_isAble 11 = .ok (.ifCond .eq 22, 3) := by decide +kernel
theorem dX11_isAble_14 : decode cX11_isAble 14 = .ok (.aload_n 0, 1) := by decide +kernel
theorem dX11_isAble_15 : decode cX11_isAble 15 = .ok (.getfield 45, 3) := by decide +kernel
theorem dX11_isAble_18 : decode cX11_isAble 18 = .ok (.iload_n 3, 1) := by decide +kernel
theorem dX11_isAble_19 : decode cX11_isAble 19 = .ok (.iaload, 1) := by decide +kernel
theorem dX11_isAble_20 : decode cX11_isAble 20 = .ok (.aload_n 0, 1) := by decide +kernel
theorem dX11_isAble_21 : decode cX11_isAble 21 = .ok (.iload_n 1, 1) := by decide +kernel
theorem dX11_isAble_22 : decode cX11_isAble 22 = .ok (.iload_n 3, 1) := by decide +kernel
theorem dX11_isAble_23 : decode cX11_isAble 23 = .ok (.invokevirtual 265, 3) := by decide +kernel
theorem dX11_isAble_26 : decode cX11_isAble 26 = .ok (.if_icmp .gt 7, 3) := by decide +kernel
theorem dX11_isAble_29 : decode cX11_isAble 29 = .ok (.iconst 1, 1) := by decide +kernel
theorem dX11_isAble_30 : decode cX11_isAble 30 = .ok (.goto 4, 3) := by decide +kernel
theorem dX11_isAble_33 : decode cX11_isAble 33 = .ok (.iconst 0, 1) := by decide +kernel
theorem dX11_isAble_34 : decode cX11_isAble 34 = .ok (.istore_n 2, 1) := by decide +kernel
theorem dX11_isAble_35 : decode cX11_isAble 35 = .ok (.iinc 3 1, 3) := by decide +kernel
theorem dX11_isAble_38 : decode cX11_isAble 38 = .ok (.goto (-34), 3) := by decide +kernel
theorem dX11_isAble_41 : decode cX11_isAble 41 = .ok (.iload_n 2, 1) := by decide +kernel
theorem dX11_isAble_42 : decode cX11_isAble 42 = .ok (.ireturn, 1) := by decide +kernel
theorem dX11_whoCould_0 : decode cX11_whoCould 0 = .ok (.iload_n 1, 1) := by decide +kernel
theorem dX11_whoCould_1 : decode cX11_whoCould 1 = .ok (.invokestatic 238, 3) := by decide +kernel
theorem dX11_whoCould_4 : decode cX11_whoCould 4 = .ok (.ifCond .ne 5, 3) := by decide +kernel
theorem dX11_whoCould_7 : decode cX11_whoCould 7 = .ok (.iconst (-1), 1) := by decide +kernel
theorem dX11_whoCould_8 : decode cX11_whoCould 8 = .ok (.ireturn, 1) := by decide +kernel
theorem dX11_whoCould_9 : decode cX11_whoCould 9 = .ok (.aload_n 0, 1) := by decide +kernel
theorem dX11_whoCould_10 : decode cX11_whoCould 10 = .ok (.iload_n 1, 1) := by decide +kernel
theorem dX11_whoCould_11 : decode cX11_whoCould 11 = .ok (.iconst (-1), 1) := by decide +kernel
theorem dX11_whoCould_12 : decode cX11_whoCould 12 = .ok (.invokevirtual 247, 3) := by decide +kernel
theorem dX11_whoCould_15 : decode cX11_whoCould 15 = .ok (.istore_n 2, 1) := by decide +kernel
theorem dX11_whoCould_16 : decode cX11_whoCould 16 = .ok (.iload_n 2, 1) := by decide +kernel
theorem dX11_whoCould_17 : decode cX11_whoCould 17 = .ok (.iconst 1, 1) := by decide +kernel
theorem dX11_whoCould_18 : decode cX11_whoCould 18 = .ok (.if_icmp .ge 5, 3) := by decide +kernel
theorem dX11_whoCould_21 : decode cX11_whoCould 21 = .ok (.iload_n 2, 1) := by decide +kernel
theorem dX11_whoCould_22 : decode cX11_whoCould 22 = .ok (.ireturn, 1) := by decide +kernel
theorem dX11_whoCould_23 : decode cX11_whoCould 23 = .ok (.iconst 0, 1) := by decide +kernel
theorem dX11_whoCould_24 : decode cX11_whoCould 24 = .ok (.istore_n 3, 1) := by decide +kernel
theorem dX11_whoCould_25 : decode cX11_whoCould 25 = .ok (.iconst 0, 1) := by decide +kernel
theorem dX11_whoCould_26 : decode cX11_whoCould 26 = .ok (.istore 4, 2) := by decide +kernel
theorem dX11_whoCould_28 : decode cX11_whoCould 28 = .ok (.iload 4, 2) := by decide +kernel
theorem dX11_whoCould_30 : decode cX11_whoCould 30 = .ok (.aload_n 0, 1) := by decide +kernel
theorem dX11_whoCould_31 : decode cX11_whoCould 31 = .ok (.getfield 121, 3) := by decide +kernel
theorem dX11_whoCould_34 : decode cX11_whoCould 34 = .ok (.if_icmp .ge 29, 3) := by decide +kernel
theorem dX11_whoCould_37 : decode cX11_whoCould 37 = .ok (.iload_n 3, 1) := by decide +kernel
theorem dX11_whoCould_38 : decode cX11_whoCould 38 = .ok (.aload_n 0, 1) := by decide +kernel
theorem dX11_whoCould_39 : decode cX11_whoCould 39 = .ok (.iload 4, 2) := by decide +kernel
theorem dX11_whoCould_41 : decode cX11_whoCould 41 = .ok (.invokevirtual 287, 3) := by decide +kernel
theorem dX11_whoCould_44 : decode cX11_whoCould 44 = .ok (.ifCond .eq 10, 3) := by decide +kernel
theorem dX11_whoCould_47 : decode cX11_whoCould 47 = .ok (.iconst 1, 1) := by decide +kernel
theorem dX11_whoCould_48 : decode cX11_whoCould 48 = .ok (.iload 4, 2) := by decide +kernel
theorem dX11_whoCould_50 : decode cX11_whoCould 50 = .ok (.ishl, 1) := by decide +kernel
theorem dX11_whoCould_51 : decode cX11_whoCould 51 = .ok (.goto 4, 3) := by decide +kernel
theorem dX11_whoCould_54 : decode cX11_whoCould 54 = .ok (.iconst 0, 1) := by decide +kernel
theorem dX11_whoCould_55 : decode cX11_whoCould 55 = .ok (.ior, 1) := by decide +kernel
theorem dX11_whoCould_56 : decode cX11_whoCould 56 = .ok (.istore_n 3, 1) := by decide +kernel
theorem dX11_whoCould_57 : decode cX11_whoCould 57 = .ok (.iinc 4 1, 3) := by decide +kernel
theorem dX11_whoCould_60 : decode cX11_whoCould 60 = .ok (.goto (-32), 3) := by decide +kernel
theorem dX11_whoCould_63 : decode cX11_whoCould 63 = .ok (.iload_n 3, 1) := by decide +kernel
theorem dX11_whoCould_64 : decode cX11_whoCould 64 = .ok (.ireturn, 1) := by decide +kernel
theorem dX11_deal_0 : decode cX11_deal 0 = .ok (.iload 5, 2) := by decide +kernel
theorem dX11_deal_2 : decode cX11_deal 2 = .ok (.aload_n 0, 1) := by decide +kernel
theorem dX11_deal_3 : decode cX11_deal 3 = .ok (.getfield 290, 3) := by decide +kernel
theorem dX11_deal_6 : decode cX11_deal 6 = .ok (.if_icmp .lt 4, 3) := by decide +kernel
theorem dX11_deal_9 : decode cX11_deal 9 = .ok (.return_, 1) := by decide +kernel
theorem dX11_deal_10 : decode cX11_deal 10 = .ok (.iload_n 2, 1) := by decide +kernel
theorem dX11_deal_11 : decode cX11_deal 11 = .ok (.iload_n 3, 1) := by decide +kernel
theorem dX11_deal_12 : decode cX11_deal 12 = .ok (.if_icmp .ne 39, 3) := by decide +kernel
theorem dX11_deal_15 : decode cX11_deal 15 = .ok (.aload_n 0, 1) := by decide +kernel
theorem dX11_deal_16 : decode cX11_deal 16 = .ok (.iload 5, 2) := by decide +kernel
theorem dX11_deal_18 : decode cX11_deal 18 = .ok (.putfield 290, 3) := by decide +kernel
theorem dX11_deal_21 : decode cX11_deal 21 = .ok (.iconst 0, 1) := by decide +kernel
theorem dX11_deal_22 : decode cX11_deal 22 = .ok (.istore 6, 2) := by decide +kernel
theorem dX11_deal_24 : decode cX11_deal 24 = .ok (.iload 6, 2) := by decide +kernel
theorem dX11_deal_26 : decode cX11_deal 26 = .ok (.iload_n 3, 1) := by decide +kernel
theorem dX11_deal_27 : decode cX11_deal 27 = .ok (.if_icmp .ge 23, 3) := by decide +kernel
theorem dX11_deal_30 : decode cX11_deal 30 = .ok (.aload_n 0, 1) := by decide +kernel
theorem dX11_deal_31 : decode cX11_deal 31 = .ok (.getfield 79, 3) := by decide +kernel
theorem dX11_deal_34 : decode cX11_deal 34 = .ok (.iload 6, 2) := by decide +kernel
theorem dX11_deal_36 : decode cX11_deal 36 = .ok (.aload_n 0, 1) := by decide +kernel
theorem dX11_deal_37 : decode cX11_deal 37 = .ok (.getfield 76, 3) := by decide +kernel
theorem dX11_deal_40 : decode cX11_deal 40 = .ok (.iload 6, 2) := by decide +kernel
theorem dX11_deal_42 : decode cX11_deal 42 = .ok (.iaload, 1) := by decide +kernel
theorem dX11_deal_43 : decode cX11_deal 43 = .ok (.iastore, 1) := by decide +kernel
theorem dX11_deal_44 : decode cX11_deal 44 = .ok (.iinc 6 1, 3) := by decide +kernel
theorem dX11_deal_47 : decode cX11_deal 47 = .ok (.goto (-23), 3) := by decide +kernel
theorem dX11_deal_50 : decode cX11_deal 50 = .ok (.return_, 1) := by decide +kernel
theorem dX11_deal_51 : decode cX11_deal 51 = .ok (.iconst 0, 1) := by decide +kernel
theorem dX11_deal_52 : decode cX11_deal 52 = .ok (.istore 6, 2) := by decide +kernel
theorem dX11_deal_54 : decode cX11_deal 54 = .ok (.iload 6, 2) := by decide +kernel
theorem dX11_deal_56 : decode cX11_deal 56 = .ok (.iload 4, 2) := by decide +kernel
theorem dX11_deal_58 : decode cX11_deal 58 = .ok (.if_icmp .ge 72, 3) := by decide +kernel
theorem dX11_deal_61 : decode cX11_deal 61 = .ok (.aload_n 0, 1) := by decide +kernel
theorem dX11_deal_62 : decode cX11_deal 62 = .ok (.getfield 76, 3) := by decide +kernel
theorem dX11_deal_65 : decode cX11_deal 65 = .ok (.iload_n 2, 1) := by decide +kernel
theorem dX11_deal_66 : decode cX11_deal 66 = .ok (.iload 6, 2) := by decide +kernel
theorem dX11_deal_68 : decode cX11_deal 68 = .ok (.iastore, 1) := by decide +kernel
theorem dX11_deal_69 : decode cX11_deal 69 = .ok (.aload_n 0, 1) := by decide +kernel
theorem dX11_deal_70 : decode cX11_deal 70 = .ok (.getfield 73, 3) := by decide +kernel
theorem dX11_deal_73 : decode cX11_deal 73 = .ok (.iload 6, 2) := by decide +kernel
theorem dX11_deal_75 : decode cX11_deal 75 = .ok (.dup2, 1) := by decide +kernel
theorem dX11_deal_76 : decode cX11_deal 76 = .ok (.iaload, 1) := by decide +kernel
theorem dX11_deal_77 : decode cX11_deal 77 = .ok (.aload_n 0, 1) := by decide +kernel
theorem dX11_deal_78 : decode cX11_deal 78 = .ok (.iload_n 1, 1) := by decide +kernel
theorem dX11_deal_79 : decode cX11_deal 79 = .ok (.iload_n 2, 1) := by decide +kernel
theorem dX11_deal_80 : decode cX11_deal 80 = .ok (.invokevirtual 224, 3) := by decide +kernel
theorem dX11_deal_83 : decode cX11_deal 83 = .ok (.iadd, 1) := by decide +kernel
theorem dX11_deal_84 : decode cX11_deal 84 = .ok (.iastore, 1) := by decide +kernel
theorem dX11_deal_85 : decode cX11_deal 85 = .ok (.aload_n 0, 1) := by decide +kernel
theorem dX11_deal_86 : decode cX11_deal 86 = .ok (.iload_n 1, 1) := by decide +kernel
theorem dX11_deal_87 : decode cX11_deal 87 = .ok (.iload_n 2, 1) := by decide +kernel
theorem dX11_deal_88 : decode cX11_deal 88 = .ok (.iconst 1, 1) := by decide +kernel
theorem dX11_deal_89 : decode cX11_deal 89 = .ok (.iadd, 1) := by decide +kernel
theorem dX11_deal_90 : decode cX11_deal 90 = .ok (.iload_n 3, 1) := by decide +kernel
theorem dX11_deal_91 : decode cX11_deal 91 = .ok (.iload 4, 2) := by decide +kernel
theorem dX11_deal_93 : decode cX11_deal 93 = .ok (.iload 5, 2) := by decide +kernel
theorem dX11_deal_95 : decode cX11_deal 95 = .ok (.aload_n 0, 1) := by decide +kernel
theorem dX11_deal_96 : decode cX11_deal 96 = .ok (.getfield 73, 3) := by decide +kernel
theorem dX11_deal_99 : decode cX11_deal 99 = .ok (.iload 6, 2) := by decide +kernel
theorem dX11_deal_101 : decode cX11_deal 101 = .ok (.iaload, 1) := by decide +kernel
theorem dX11_deal_102 : decode cX11_deal 102 = .ok (.invokestatic 118, 3) := by decide +kernel
theorem dX11_deal_105 : decode cX11_deal 105 = .ok (.invokevirtual 293, 3) := by decide +kernel
theorem dX11_deal_108 : decode cX11_deal 108 = .ok (.aload_n 0, 1) := by decide +kernel
theorem dX11_deal_109 : decode cX11_deal 109 = .ok (.getfield 73, 3) := by decide +kernel
theorem dX11_deal_112 : decode cX11_deal 112 = .ok (.iload 6, 2) := by decide +kernel
theorem dX11_deal_114 : decode cX11_deal 114 = .ok (.dup2, 1) := by decide +kernel
theorem dX11_deal_115 : decode cX11_deal 115 = .ok (.iaload, 1) := by decide +kernel
theorem dX11_deal_116 : decode cX11_deal 116 = .ok (.aload_n 0, 1) := by decide +kernel
theorem dX11_deal_117 : decode cX11_deal 117 = .ok (.iload_n 1, 1) := by decide +kernel
theorem dX11_deal_118 : decode cX11_deal 118 = .ok (.iload_n 2, 1) := by decide +kernel
theorem dX11_deal_119 : decode cX11_deal 119 = .ok (.invokevirtual 224, 3) := by decide +kernel
theorem dX11_deal_122 : decode cX11_deal 122 = .ok (.isub, 1) := by decide +kernel
theorem dX11_deal_123 : decode cX11_deal 123 = .ok (.iastore, 1) := by decide +kernel
theorem dX11_deal_124 : decode cX11_deal 124 = .ok (.iinc 6 1, 3) := by decide +kernel
theorem dX11_deal_127 : decode cX11_deal 127 = .ok (.goto (-73), 3) := by decide +kernel
theorem dX11_deal_130 : decode cX11_deal 130 = .ok (.return_, 1) := by decide +kernel
theorem dX11_fires_0 : decode cX11_fires 0 = .ok (.iload_n 1, 1) := by decide +kernel
theorem dX11_fires_1 : decode cX11_fires 1 = .ok (.invokestatic 238, 3) := by decide +kernel
theorem dX11_fires_4 : decode cX11_fires 4 = .ok (.ifCond .eq 23, 3) := by decide +kernel
theorem dX11_fires_7 : decode cX11_fires 7 = .ok (.iload_n 2, 1) := by decide +kernel
theorem dX11_fires_8 : decode cX11_fires 8 = .ok (.iconst 1, 1) := by decide +kernel
theorem dX11_fires_9 : decode cX11_fires 9 = .ok (.iconst 3, 1) := by decide +kernel
theorem dX11_fires_10 : decode cX11_fires 10 = .ok (.invokestatic 125, 3) := by decide +kernel
theorem dX11_fires_13 : decode cX11_fires 13 = .ok (.ifCond .eq 14, 3) := by decide +kernel
theorem dX11_fires_16 : decode cX11_fires 16 = .ok (.iload_n 3, 1) := by decide +kernel
theorem dX11_fires_17 : decode cX11_fires 17 = .ok (.iconst (-1), 1) := by decide +kernel
theorem dX11_fires_18 : decode cX11_fires 18 = .ok (.ldc_w 273, 3) := by decide +kernel
theorem dX11_fires_21 : decode cX11_fires 21 = .ok (.invokestatic 125, 3) := by decide +kernel
theorem dX11_fires_24 : decode cX11_fires 24 = .ok (.ifCond .ne 5, 3) := by decide +kernel
theorem dX11_fires_27 : decode cX11_fires 27 = .ok (.iconst (-1), 1) := by decide +kernel
theorem dX11_fires_28 : decode cX11_fires 28 = .ok (.ireturn, 1) := by decide +kernel
theorem dX11_fires_29 : decode cX11_fires 29 = .ok (.aload_n 0, 1) := by decide +kernel
theorem dX11_fires_30 : decode cX11_fires 30 = .ok (.iload_n 1, 1) := by decide +kernel
theorem dX11_fires_31 : decode cX11_fires 31 = .ok (.invokevirtual 227, 3) := by decide +kernel
theorem dX11_fires_34 : decode cX11_fires 34 = .ok (.iconst 1, 1) := by decide +kernel
theorem dX11_fires_35 : decode cX11_fires 35 = .ok (.if_icmp .ge 9, 3) := by decide +kernel
theorem dX11_fires_38 : decode cX11_fires 38 = .ok (.aload_n 0, 1) := by decide +kernel
theorem dX11_fires_39 : decode cX11_fires 39 = .ok (.iload_n 1, 1) := by decide +kernel
theorem dX11_fires_40 : decode cX11_fires 40 = .ok (.invokevirtual 227, 3) := by decide +kernel
theorem dX11_fires_43 : decode cX11_fires 43 = .ok (.ireturn, 1) := by decide +kernel
theorem dX11_fires_44 : decode cX11_fires 44 = .ok (.iconst 0, 1) := by decide +kernel
theorem dX11_fires_45 : decode cX11_fires 45 = .ok (.istore 4, 2) := by decide +kernel
theorem dX11_fires_47 : decode cX11_fires 47 = .ok (.iload 4, 2) := by decide +kernel
theorem dX11_fires_49 : decode cX11_fires 49 = .ok (.bipush 8, 2) := by decide +kernel
theorem dX11_fires_51 : decode cX11_fires 51 = .ok (.if_icmp .ge 25, 3) := by decide +kernel
theorem dX11_fires_54 : decode cX11_fires 54 = .ok (.aload_n 0, 1) := by decide +kernel
theorem dX11_fires_55 : decode cX11_fires 55 = .ok (.iload_n 1, 1) := by decide +kernel
theorem dX11_fires_56 : decode cX11_fires 56 = .ok (.iload 4, 2) := by decide +kernel
theorem dX11_fires_58 : decode cX11_fires 58 = .ok (.invokevirtual 224, 3) := by decide +kernel
theorem dX11_fires_61 : decode cX11_fires 61 = .ok (.iconst 1, 1) := by decide +kernel
theorem dX11_fires_62 : decode cX11_fires 62 = .ok (.bipush 60, 2) := by decide +kernel
theorem dX11_fires_64 : decode cX11_fires 64 = .ok (.invokestatic 125, 3) := by decide +kernel
theorem dX11_fires_67 : decode cX11_fires 67 = .ok (.ifCond .eq 9, 3) := by decide +kernel
theorem dX11_fires_70 : decode cX11_fires 70 = .ok (.iinc 4 1, 3) := by decide +kernel
theorem dX11_fires_73 : decode cX11_fires 73 = .ok (.goto (-26), 3) := by decide +kernel
theorem dX11_fires_76 : decode cX11_fires 76 = .ok (.iload_n 3, 1) := by decide +kernel
theorem dX11_fires_77 : decode cX11_fires 77 = .ok (.iload 4, 2) := by decide +kernel
theorem dX11_fires_79 : decode cX11_fires 79 = .ok (.if_icmp .lt 6, 3) := by decide +kernel
theorem dX11_fires_82 : decode cX11_fires 82 = .ok (.bipush (-2), 2) := by decide +kernel
theorem dX11_fires_84 : decode cX11_fires 84 = .ok (.ireturn, 1) := by decide +kernel
theorem dX11_fires_85 : decode cX11_fires 85 = .ok (.aload_n 0, 1) := by decide +kernel
theorem dX11_fires_86 : decode cX11_fires 86 = .ok (.ldc_w 273, 3) := by decide +kernel
theorem dX11_fires_89 : decode cX11_fires 89 = .ok (.putfield 290, 3) := by decide +kernel
theorem dX11_fires_92 : decode cX11_fires 92 = .ok (.aload_n 0, 1) := by decide +kernel
theorem dX11_fires_93 : decode cX11_fires 93 = .ok (.iload_n 1, 1) := by decide +kernel
theorem dX11_fires_94 : decode cX11_fires 94 = .ok (.iconst 0, 1) := by decide +kernel
theorem dX11_fires_95 : decode cX11_fires 95 = .ok (.iload 4, 2) := by decide +kernel
theorem dX11_fires_97 : decode cX11_fires 97 = .ok (.iload_n 2, 1) := by decide +kernel
theorem dX11_fires_98 : decode cX11_fires 98 = .ok (.iconst 0, 1) := by decide +kernel
theorem dX11_fires_99 : decode cX11_fires 99 = .ok (.invokevirtual 293, 3) := by decide +kernel
theorem dX11_fires_102 : decode cX11_fires 102 = .ok (.iload_n 3, 1) := by decide +kernel
theorem dX11_fires_103 : decode cX11_fires 103 = .ok (.iconst (-1), 1) := by decide +kernel
theorem dX11_fires_104 : decode cX11_fires 104 = .ok (.if_icmp .ne 10, 3) := by decide +kernel
theorem dX11_fires_107 : decode cX11_fires 107 = .ok (.aload_n 0, 1) := by decide +kernel
theorem dX11_fires_108 : decode cX11_fires 108 = .ok (.getfield 290, 3) := by decide +kernel
theorem dX11_fires_111 : decode cX11_fires 111 = .ok (.goto 9, 3) := by decide +kernel
theorem dX11_fires_114 : decode cX11_fires 114 = .ok (.aload_n 0, 1) := by decide +kernel
theorem dX11_fires_115 : decode cX11_fires 115 = .ok (.getfield 79, 3) := by decide +kernel
theorem dX11_fires_118 : decode cX11_fires 118 = .ok (.iload_n 3, 1) := by decide +kernel
theorem dX11_fires_119 : decode cX11_fires 119 = .ok (.iaload, 1) := by decide +kernel
theorem dX11_fires_120 : decode cX11_fires 120 = .ok (.ireturn, 1) := by decide +kernel
theorem dX11_turns_0 : decode cX11_turns 0 = .ok (.iload_n 1, 1) := by decide +kernel
theorem dX11_turns_1 : decode cX11_turns 1 = .ok (.iload_n 2, 1) := by decide +kernel
theorem dX11_turns_2 : decode cX11_turns 2 = .ok (.if_icmp .ne 12, 3) := by decide +kernel
theorem dX11_turns_5 : decode cX11_turns 5 = .ok (.aload_n 0, 1) := by decide +kernel
theorem dX11_turns_6 : decode cX11_turns 6 = .ok (.aload_n 0, 1) := by decide +kernel
theorem dX11_turns_7 : decode cX11_turns 7 = .ok (.getfield 48, 3) := by decide +kernel
theorem dX11_turns_10 : decode cX11_turns 10 = .ok (.invokevirtual 262, 3) := by decide +kernel
theorem dX11_turns_13 : decode cX11_turns 13 = .ok (.ireturn, 1) := by decide +kernel
theorem dX11_turns_14 : decode cX11_turns 14 = .ok (.iconst 0, 1) := by decide +kernel
theorem dX11_turns_15 : decode cX11_turns 15 = .ok (.istore_n 3, 1) := by decide +kernel
theorem dX11_turns_16 : decode cX11_turns 16 = .ok (.iload_n 3, 1) := by decide +kernel
theorem dX11_turns_17 : decode cX11_turns 17 = .ok (.bipush 14, 2) := by decide +kernel
theorem dX11_turns_19 : decode cX11_turns 19 = .ok (.if_icmp .ge 26, 3) := by decide +kernel
theorem dX11_turns_22 : decode cX11_turns 22 = .ok (.aload_n 0, 1) := by decide +kernel
theorem dX11_turns_23 : decode cX11_turns 23 = .ok (.getfield 82, 3) := by decide +kernel
theorem dX11_turns_26 : decode cX11_turns 26 = .ok (.bipush 14, 2) := by decide +kernel
theorem dX11_turns_28 : decode cX11_turns 28 = .ok (.iload_n 1, 1) := by decide +kernel
theorem dX11_turns_29 : decode cX11_turns 29 = .ok (.imul, 1) := by decide +kernel
theorem dX11_turns_30 : decode cX11_turns 30 = .ok (.iload_n 3, 1) := by decide +kernel
theorem dX11_turns_31 : decode cX11_turns 31 = .ok (.iadd, 1) := by decide +kernel
theorem dX11_turns_32 : decode cX11_turns 32 = .ok (.aload_n 0, 1) := by decide +kernel
theorem dX11_turns_33 : decode cX11_turns 33 = .ok (.getfield 48, 3) := by decide +kernel
theorem dX11_turns_36 : decode cX11_turns 36 = .ok (.iload_n 3, 1) := by decide +kernel
theorem dX11_turns_37 : decode cX11_turns 37 = .ok (.iaload, 1) := by decide +kernel
theorem dX11_turns_38 : decode cX11_turns 38 = .ok (.iastore, 1) := by decide +kernel
theorem dX11_turns_39 : decode cX11_turns 39 = .ok (.iinc 3 1, 3) := by decide +kernel
theorem dX11_turns_42 : decode cX11_turns 42 = .ok (.goto (-26), 3) := by decide +kernel
theorem dX11_turns_45 : decode cX11_turns 45 = .ok (.iload_n 1, 1) := by decide +kernel
theorem dX11_turns_46 : decode cX11_turns 46 = .ok (.iconst 2, 1) := by decide +kernel
theorem dX11_turns_47 : decode cX11_turns 47 = .ok (.irem, 1) := by decide +kernel
theorem dX11_turns_48 : decode cX11_turns 48 = .ok (.ifCond .ne 9, 3) := by decide +kernel
theorem dX11_turns_51 : decode cX11_turns 51 = .ok (.ldc_w 273, 3) := by decide +kernel
theorem dX11_turns_54 : decode cX11_turns 54 = .ok (.goto 4, 3) := by decide +kernel
theorem dX11_turns_57 : decode cX11_turns 57 = .ok (.iconst (-1), 1) := by decide +kernel
theorem dX11_turns_58 : decode cX11_turns 58 = .ok (.istore_n 3, 1) := by decide +kernel
theorem dX11_turns_59 : decode cX11_turns 59 = .ok (.iconst 4, 1) := by decide +kernel
theorem dX11_turns_60 : decode cX11_turns 60 = .ok (.istore 4, 2) := by decide +kernel
theorem dX11_turns_62 : decode cX11_turns 62 = .ok (.iconst 0, 1) := by decide +kernel
theorem dX11_turns_63 : decode cX11_turns 63 = .ok (.istore 5, 2) := by decide +kernel
theorem dX11_turns_65 : decode cX11_turns 65 = .ok (.iload 5, 2) := by decide +kernel
theorem dX11_turns_67 : decode cX11_turns 67 = .ok (.iconst 5, 1) := by decide +kernel
theorem dX11_turns_68 : decode cX11_turns 68 = .ok (.if_icmp .ge 182, 3) := by decide +kernel
theorem dX11_turns_71 : decode cX11_turns 71 = .ok (.iload 5, 2) := by decide +kernel
theorem dX11_turns_73 : decode cX11_turns 73 = .ok (.ifCond .ne 7, 3) := by decide +kernel
theorem dX11_turns_76 : decode cX11_turns 76 = .ok (.iconst 4, 1) := by decide +kernel
theorem dX11_turns_77 : decode cX11_turns 77 = .ok (.goto 7, 3) := by decide +kernel
theorem dX11_turns_80 : decode cX11_turns 80 = .ok (.iload 5, 2) := by decide +kernel
theorem dX11_turns_82 : decode cX11_turns 82 = .ok (.iconst 1, 1) := by decide +kernel
theorem dX11_turns_83 : decode cX11_turns 83 = .ok (.isub, 1) := by decide +kernel
theorem dX11_turns_84 : decode cX11_turns 84 = .ok (.istore 6, 2) := by decide +kernel
theorem dX11_turns_86 : decode cX11_turns 86 = .ok (.iload 6, 2) := by decide +kernel
theorem dX11_turns_88 : decode cX11_turns 88 = .ok (.iconst 4, 1) := by decide +kernel
theorem dX11_turns_89 : decode cX11_turns 89 = .ok (.if_icmp .eq 15, 3) := by decide +kernel
theorem dX11_turns_92 : decode cX11_turns 92 = .ok (.aload_n 0, 1) := by decide +kernel
theorem dX11_turns_93 : decode cX11_turns 93 = .ok (.getfield 48, 3) := by decide +kernel
theorem dX11_turns_96 : decode cX11_turns 96 = .ok (.iload 6, 2) := by decide +kernel
theorem dX11_turns_98 : decode cX11_turns 98 = .ok (.iaload, 1) := by decide +kernel
theorem dX11_turns_99 : decode cX11_turns 99 = .ok (.bipush 9, 2) := by decide +kernel
theorem dX11_turns_101 : decode cX11_turns 101 = .ok (.if_icmp .ge 143, 3) := by decide +kernel
theorem dX11_turns_104 : decode cX11_turns 104 = .ok (.aload_n 0, 1) := by decide +kernel
theorem dX11_turns_105 : decode cX11_turns 105 = .ok (.getfield 48, 3) := by decide +kernel
theorem dX11_turns_108 : decode cX11_turns 108 = .ok (.iload 6, 2) := by decide +kernel
theorem dX11_turns_110 : decode cX11_turns 110 = .ok (.iconst 4, 1) := by decide +kernel
theorem dX11_turns_111 : decode cX11_turns 111 = .ok (.if_icmp .ne 7, 3) := by decide +kernel
theorem dX11_turns_114 : decode cX11_turns 114 = .ok (.iconst 0, 1) := by decide +kernel
theorem dX11_turns_115 : decode cX11_turns 115 = .ok (.goto 5, 3) := by decide +kernel
theorem dX11_turns_118 : decode cX11_turns 118 = .ok (.iload 6, 2) := by decide +kernel
theorem dX11_turns_120 : decode cX11_turns 120 = .ok (.dup2, 1) := by decide +kernel
theorem dX11_turns_121 : decode cX11_turns 121 = .ok (.iaload, 1) := by decide +kernel
theorem dX11_turns_122 : decode cX11_turns 122 = .ok (.iload 6, 2) := by decide +kernel
theorem dX11_turns_124 : decode cX11_turns 124 = .ok (.iconst 4, 1) := by decide +kernel
theorem dX11_turns_125 : decode cX11_turns 125 = .ok (.if_icmp .ne 7, 3) := by decide +kernel
theorem dX11_turns_128 : decode cX11_turns 128 = .ok (.iconst 0, 1) := by decide +kernel
theorem dX11_turns_129 : decode cX11_turns 129 = .ok (.goto 4, 3) := by decide +kernel
theorem dX11_turns_132 : decode cX11_turns 132 = .ok (.iconst 1, 1) := by decide +kernel
theorem dX11_turns_133 : decode cX11_turns 133 = .ok (.iadd, 1) := by decide +kernel
theorem dX11_turns_134 : decode cX11_turns 134 = .ok (.iastore, 1) := by decide +kernel
theorem dX11_turns_135 : decode cX11_turns 135 = .ok (.aload_n 0, 1) := by decide +kernel
theorem dX11_turns_136 : decode cX11_turns 136 = .ok (.iconst 1, 1) := by decide +kernel
theorem dX11_turns_137 : decode cX11_turns 137 = .ok (.invokevirtual 252, 3) := by decide +kernel
theorem dX11_turns_140 : decode cX11_turns 140 = .ok (.aload_n 0, 1) := by decide +kernel
theorem dX11_turns_141 : decode cX11_turns 141 = .ok (.iload_n 1, 1) := by decide +kernel
theorem dX11_turns_142 : decode cX11_turns 142 = .ok (.iconst 1, 1) := by decide +kernel
theorem dX11_turns_143 : decode cX11_turns 143 = .ok (.iadd, 1) := by decide +kernel
theorem dX11_turns_144 : decode cX11_turns 144 = .ok (.iload_n 2, 1) := by decide +kernel
theorem dX11_turns_145 : decode cX11_turns 145 = .ok (.invokevirtual 297, 3) := by decide +kernel
theorem dX11_turns_148 : decode cX11_turns 148 = .ok (.istore 7, 2) := by decide +kernel
theorem dX11_turns_150 : decode cX11_turns 150 = .ok (.iload_n 1, 1) := by decide +kernel
theorem dX11_turns_151 : decode cX11_turns 151 = .ok (.iconst 2, 1) := by decide +kernel
theorem dX11_turns_152 : decode cX11_turns 152 = .ok (.irem, 1) := by decide +kernel
theorem dX11_turns_153 : decode cX11_turns 153 = .ok (.ifCond .ne 17, 3) := by decide +kernel
theorem dX11_turns_156 : decode cX11_turns 156 = .ok (.iload 7, 2) := by decide +kernel
theorem dX11_turns_158 : decode cX11_turns 158 = .ok (.iload_n 3, 1) := by decide +kernel
theorem dX11_turns_159 : decode cX11_turns 159 = .ok (.if_icmp .ge 7, 3) := by decide +kernel
theorem dX11_turns_162 : decode cX11_turns 162 = .ok (.iconst 1, 1) := by decide +kernel
theorem dX11_turns_163 : decode cX11_turns 163 = .ok (.goto 18, 3) := by decide +kernel
theorem dX11_turns_166 : decode cX11_turns 166 = .ok (.iconst 0, 1) := by decide +kernel
theorem dX11_turns_167 : decode cX11_turns 167 = .ok (.goto 14, 3) := by decide +kernel
theorem dX11_turns_170 : decode cX11_turns 170 = .ok (.iload 7, 2) := by decide +kernel
theorem dX11_turns_172 : decode cX11_turns 172 = .ok (.iload_n 3, 1) := by decide +kernel
theorem dX11_turns_173 : decode cX11_turns 173 = .ok (.if_icmp .le 7, 3) := by decide +kernel
theorem dX11_turns_176 : decode cX11_turns 176 = .ok (.iconst 1, 1) := by decide +kernel
theorem dX11_turns_177 : decode cX11_turns 177 = .ok (.goto 4, 3) := by decide +kernel
theorem dX11_turns_180 : decode cX11_turns 180 = .ok (.iconst 0, 1) := by decide +kernel
theorem dX11_turns_181 : decode cX11_turns 181 = .ok (.istore 8, 2) := by decide +kernel
theorem dX11_turns_183 : decode cX11_turns 183 = .ok (.iload 8, 2) := by decide +kernel
theorem dX11_turns_185 : decode cX11_turns 185 = .ok (.ifCond .eq 8, 3) := by decide +kernel
theorem dX11_turns_188 : decode cX11_turns 188 = .ok (.iload 6, 2) := by decide +kernel
theorem dX11_turns_190 : decode cX11_turns 190 = .ok (.goto 5, 3) := by decide +kernel
theorem dX11_turns_193 : decode cX11_turns 193 = .ok (.iload 4, 2) := by decide +kernel
theorem dX11_turns_195 : decode cX11_turns 195 = .ok (.istore 4, 2) := by decide +kernel
theorem dX11_turns_197 : decode cX11_turns 197 = .ok (.iload 8, 2) := by decide +kernel
theorem dX11_turns_199 : decode cX11_turns 199 = .ok (.ifCond .eq 8, 3) := by decide +kernel
theorem dX11_turns_202 : decode cX11_turns 202 = .ok (.iload 7, 2) := by decide +kernel
theorem dX11_turns_204 : decode cX11_turns 204 = .ok (.goto 4, 3) := by decide +kernel
theorem dX11_turns_207 : decode cX11_turns 207 = .ok (.iload_n 3, 1) := by decide +kernel
theorem dX11_turns_208 : decode cX11_turns 208 = .ok (.istore_n 3, 1) := by decide +kernel
theorem dX11_turns_209 : decode cX11_turns 209 = .ok (.iconst 0, 1) := by decide +kernel
theorem dX11_turns_210 : decode cX11_turns 210 = .ok (.istore 9, 2) := by decide +kernel
theorem dX11_turns_212 : decode cX11_turns 212 = .ok (.iload 9, 2) := by decide +kernel
theorem dX11_turns_214 : decode cX11_turns 214 = .ok (.bipush 14, 2) := by decide +kernel
theorem dX11_turns_216 : decode cX11_turns 216 = .ok (.if_icmp .ge 28, 3) := by decide +kernel
theorem dX11_turns_219 : decode cX11_turns 219 = .ok (.aload_n 0, 1) := by decide +kernel
theorem dX11_turns_220 : decode cX11_turns 220 = .ok (.getfield 48, 3) := by decide +kernel
theorem dX11_turns_223 : decode cX11_turns 223 = .ok (.iload 9, 2) := by decide +kernel
theorem dX11_turns_225 : decode cX11_turns 225 = .ok (.aload_n 0, 1) := by decide +kernel
theorem dX11_turns_226 : decode cX11_turns 226 = .ok (.getfield 82, 3) := by decide +kernel
theorem dX11_turns_229 : decode cX11_turns 229 = .ok (.bipush 14, 2) := by decide +kernel
theorem dX11_turns_231 : decode cX11_turns 231 = .ok (.iload_n 1, 1) := by decide +kernel
theorem dX11_turns_232 : decode cX11_turns 232 = .ok (.imul, 1) := by decide +kernel
theorem dX11_turns_233 : decode cX11_turns 233 = .ok (.iload 9, 2) := by decide +kernel
theorem dX11_turns_235 : decode cX11_turns 235 = .ok (.iadd, 1) := by decide +kernel
theorem dX11_turns_236 : decode cX11_turns 236 = .ok (.iaload, 1) := by decide +kernel
theorem dX11_turns_237 : decode cX11_turns 237 = .ok (.iastore, 1) := by decide +kernel
theorem dX11_turns_238 : decode cX11_turns 238 = .ok (.iinc 9 1, 3) := by decide +kernel
theorem dX11_turns_241 : decode cX11_turns 241 = .ok (.goto (-29), 3) := by decide +kernel
theorem dX11_turns_244 : decode cX11_turns 244 = .ok (.iinc 5 1, 3) := by decide +kernel
theorem dX11_turns_247 : decode cX11_turns 247 = .ok (.goto (-182), 3) := by decide +kernel
theorem dX11_turns_250 : decode cX11_turns 250 = .ok (.aload_n 0, 1) := by decide +kernel
theorem dX11_turns_251 : decode cX11_turns 251 = .ok (.iload 4, 2) := by decide +kernel
theorem dX11_turns_253 : decode cX11_turns 253 = .ok (.putfield 300, 3) := by decide +kernel
theorem dX11_turns_256 : decode cX11_turns 256 = .ok (.iload_n 3, 1) := by decide +kernel
theorem dX11_turns_257 : decode cX11_turns 257 = .ok (.ireturn, 1) := by decide +kernel
theorem dX11_byTurns_0 : decode cX11_byTurns 0 = .ok (.iload_n 1, 1) := by decide +kernel
theorem dX11_byTurns_1 : decode cX11_byTurns 1 = .ok (.invokestatic 259, 3) := by decide +kernel
theorem dX11_byTurns_4 : decode cX11_byTurns 4 = .ok (.ifCond .eq 21, 3) := by decide +kernel
theorem dX11_byTurns_7 : decode cX11_byTurns 7 = .ok (.iload_n 2, 1) := by decide +kernel
theorem dX11_byTurns_8 : decode cX11_byTurns 8 = .ok (.iconst 1, 1) := by decide +kernel
theorem dX11_byTurns_9 : decode cX11_byTurns 9 = .ok (.iconst 3, 1) := by decide +kernel
theorem dX11_byTurns_10 : decode cX11_byTurns 10 = .ok (.invokestatic 125, 3) := by decide +kernel
theorem dX11_byTurns_13 : decode cX11_byTurns 13 = .ok (.ifCond .eq 12, 3) := by decide +kernel
theorem dX11_byTurns_16 : decode cX11_byTurns 16 = .ok (.iload_n 3, 1) := by decide +kernel
theorem dX11_byTurns_17 : decode cX11_byTurns 17 = .ok (.iconst 0, 1) := by decide +kernel
theorem dX11_byTurns_18 : decode cX11_byTurns 18 = .ok (.iconst 1, 1) := by decide +kernel
theorem dX11_byTurns_19 : decode cX11_byTurns 19 = .ok (.invokestatic 125, 3) := by decide +kernel
theorem dX11_byTurns_22 : decode cX11_byTurns 22 = .ok (.ifCond .ne 5, 3) := by decide +kernel
theorem dX11_byTurns_25 : decode cX11_byTurns 25 = .ok (.iconst (-1), 1) := by decide +kernel
theorem dX11_byTurns_26 : decode cX11_byTurns 26 = .ok (.ireturn, 1) := by decide +kernel
theorem dX11_byTurns_27 : decode cX11_byTurns 27 = .ok (.aload_n 0, 1) := by decide +kernel
theorem dX11_byTurns_28 : decode cX11_byTurns 28 = .ok (.iload_n 1, 1) := by decide +kernel
theorem dX11_byTurns_29 : decode cX11_byTurns 29 = .ok (.bipush 10, 2) := by decide +kernel
theorem dX11_byTurns_31 : decode cX11_byTurns 31 = .ok (.idiv, 1) := by decide +kernel
theorem dX11_byTurns_32 : decode cX11_byTurns 32 = .ok (.iload_n 1, 1) := by decide +kernel
theorem dX11_byTurns_33 : decode cX11_byTurns 33 = .ok (.bipush 10, 2) := by decide +kernel
theorem dX11_byTurns_35 : decode cX11_byTurns 35 = .ok (.irem, 1) := by decide +kernel
theorem dX11_byTurns_36 : decode cX11_byTurns 36 = .ok (.invokevirtual 247, 3) := by decide +kernel
theorem dX11_byTurns_39 : decode cX11_byTurns 39 = .ok (.istore 4, 2) := by decide +kernel
theorem dX11_byTurns_41 : decode cX11_byTurns 41 = .ok (.iload 4, 2) := by decide +kernel
theorem dX11_byTurns_43 : decode cX11_byTurns 43 = .ok (.iconst 1, 1) := by decide +kernel
theorem dX11_byTurns_44 : decode cX11_byTurns 44 = .ok (.if_icmp .ge 6, 3) := by decide +kernel
theorem dX11_byTurns_47 : decode cX11_byTurns 47 = .ok (.iload 4, 2) := by decide +kernel
theorem dX11_byTurns_49 : decode cX11_byTurns 49 = .ok (.ireturn, 1) := by decide +kernel
theorem dX11_byTurns_50 : decode cX11_byTurns 50 = .ok (.aload_n 0, 1) := by decide +kernel
theorem dX11_byTurns_51 : decode cX11_byTurns 51 = .ok (.invokevirtual 249, 3) := by decide +kernel
theorem dX11_byTurns_54 : decode cX11_byTurns 54 = .ok (.aload_n 0, 1) := by decide +kernel
theorem dX11_byTurns_55 : decode cX11_byTurns 55 = .ok (.iconst 0, 1) := by decide +kernel
theorem dX11_byTurns_56 : decode cX11_byTurns 56 = .ok (.iload_n 2, 1) := by decide +kernel
theorem dX11_byTurns_57 : decode cX11_byTurns 57 = .ok (.invokevirtual 297, 3) := by decide +kernel
theorem dX11_byTurns_60 : decode cX11_byTurns 60 = .ok (.istore 5, 2) := by decide +kernel
theorem dX11_byTurns_62 : decode cX11_byTurns 62 = .ok (.iload_n 3, 1) := by decide +kernel
theorem dX11_byTurns_63 : decode cX11_byTurns 63 = .ok (.ifCond .ne 8, 3) := by decide +kernel
theorem dX11_byTurns_66 : decode cX11_byTurns 66 = .ok (.iload 5, 2) := by decide +kernel
theorem dX11_byTurns_68 : decode cX11_byTurns 68 = .ok (.goto 7, 3) := by decide +kernel
theorem dX11_byTurns_71 : decode cX11_byTurns 71 = .ok (.aload_n 0, 1) := by decide +kernel
theorem dX11_byTurns_72 : decode cX11_byTurns 72 = .ok (.getfield 300, 3) := by decide +kernel
theorem dX11_byTurns_75 : decode cX11_byTurns 75 = .ok (.ireturn, 1) := by decide +kernel
theorem dX11_drawn_0 : decode cX11_drawn 0 = .ok (.iload_n 2, 1) := by decide +kernel
theorem dX11_drawn_1 : decode cX11_drawn 1 = .ok (.ifCond .lt 46, 3) := by decide +kernel
theorem dX11_drawn_4 : decode cX11_drawn 4 = .ok (.iload_n 2, 1) := by decide +kernel
theorem dX11_drawn_5 : decode cX11_drawn 5 = .ok (.bipush 100, 2) := by decide +kernel
theorem dX11_drawn_7 : decode cX11_drawn 7 = .ok (.idiv, 1) := by decide +kernel
theorem dX11_drawn_8 : decode cX11_drawn 8 = .ok (.iconst 1, 1) := by decide +kernel
theorem dX11_drawn_9 : decode cX11_drawn 9 = .ok (.bipush 30, 2) := by decide +kernel
theorem dX11_drawn_11 : decode cX11_drawn 11 = .ok (.invokestatic 125, 3) := by decide +kernel
theorem dX11_drawn_14 : decode cX11_drawn 14 = .ok (.ifCond .eq 33, 3) := by decide +kernel
theorem dX11_drawn_17 : decode cX11_drawn 17 = .ok (.iload_n 2, 1) := by decide +kernel
theorem dX11_drawn_18 : decode cX11_drawn 18 = .ok (.bipush 100, 2) := by decide +kernel
theorem dX11_drawn_20 : decode cX11_drawn 20 = .ok (.irem, 1) := by decide +kernel
theorem dX11_drawn_21 : decode cX11_drawn 21 = .ok (.iconst 1, 1) := by decide +kernel
theorem dX11_drawn_22 : decode cX11_drawn 22 = .ok (.bipush 40, 2) := by decide +kernel
theorem dX11_drawn_24 : decode cX11_drawn 24 = .ok (.invokestatic 125, 3) := by decide +kernel
theorem dX11_drawn_27 : decode cX11_drawn 27 = .ok (.ifCond .eq 20, 3) := by decide +kernel
theorem dX11_drawn_30 : decode cX11_drawn 30 = .ok (.iload_n 3, 1) := by decide +kernel
theorem dX11_drawn_31 : decode cX11_drawn 31 = .ok (.invokestatic 238, 3) := by decide +kernel
theorem dX11_drawn_34 : decode cX11_drawn 34 = .ok (.ifCond .eq 13, 3) := by decide +kernel
theorem dX11_drawn_37 : decode cX11_drawn 37 = .ok (.iload 4, 2) := by decide +kernel
theorem dX11_drawn_39 : decode cX11_drawn 39 = .ok (.iconst 0, 1) := by decide +kernel
theorem dX11_drawn_40 : decode cX11_drawn 40 = .ok (.iconst 5, 1) := by decide +kernel
theorem dX11_drawn_41 : decode cX11_drawn 41 = .ok (.invokestatic 125, 3) := by decide +kernel
theorem dX11_drawn_44 : decode cX11_drawn 44 = .ok (.ifCond .ne 5, 3) := by decide +kernel
theorem dX11_drawn_47 : decode cX11_drawn 47 = .ok (.iconst (-1), 1) := by decide +kernel
theorem dX11_drawn_48 : decode cX11_drawn 48 = .ok (.ireturn, 1) := by decide +kernel
theorem dX11_drawn_49 : decode cX11_drawn 49 = .ok (.aload_n 0, 1) := by decide +kernel
theorem dX11_drawn_50 : decode cX11_drawn 50 = .ok (.iload_n 3, 1) := by decide +kernel
theorem dX11_drawn_51 : decode cX11_drawn 51 = .ok (.iconst (-1), 1) := by decide +kernel
theorem dX11_drawn_52 : decode cX11_drawn 52 = .ok (.invokevirtual 247, 3) := by decide +kernel
theorem dX11_drawn_55 : decode cX11_drawn 55 = .ok (.istore 5, 2) := by decide +kernel
theorem dX11_drawn_57 : decode cX11_drawn 57 = .ok (.iload 5, 2) := by decide +kernel
theorem dX11_drawn_59 : decode cX11_drawn 59 = .ok (.iconst 1, 1) := by decide +kernel
theorem dX11_drawn_60 : decode cX11_drawn 60 = .ok (.if_icmp .ge 6, 3) := by decide +kernel
theorem dX11_drawn_63 : decode cX11_drawn 63 = .ok (.iload 5, 2) := by decide +kernel
theorem dX11_drawn_65 : decode cX11_drawn 65 = .ok (.ireturn, 1) := by decide +kernel
theorem dX11_drawn_66 : decode cX11_drawn 66 = .ok (.iload_n 1, 1) := by decide +kernel
theorem dX11_drawn_67 : decode cX11_drawn 67 = .ok (.istore 6, 2) := by decide +kernel
theorem dX11_drawn_69 : decode cX11_drawn 69 = .ok (.iconst 0, 1) := by decide +kernel
theorem dX11_drawn_70 : decode cX11_drawn 70 = .ok (.istore 7, 2) := by decide +kernel
theorem dX11_drawn_72 : decode cX11_drawn 72 = .ok (.iconst 0, 1) := by decide +kernel
theorem dX11_drawn_73 : decode cX11_drawn 73 = .ok (.istore 8, 2) := by decide +kernel
theorem dX11_drawn_75 : decode cX11_drawn 75 = .ok (.iload 8, 2) := by decide +kernel
theorem dX11_drawn_77 : decode cX11_drawn 77 = .ok (.iload_n 2, 1) := by decide +kernel
theorem dX11_drawn_78 : decode cX11_drawn 78 = .ok (.bipush 100, 2) := by decide +kernel
theorem dX11_drawn_80 : decode cX11_drawn 80 = .ok (.idiv, 1) := by decide +kernel
theorem dX11_drawn_81 : decode cX11_drawn 81 = .ok (.if_icmp .ge 73, 3) := by decide +kernel
theorem dX11_drawn_84 : decode cX11_drawn 84 = .ok (.aload_n 0, 1) := by decide +kernel
theorem dX11_drawn_85 : decode cX11_drawn 85 = .ok (.invokevirtual 249, 3) := by decide +kernel
theorem dX11_drawn_88 : decode cX11_drawn 88 = .ok (.iconst 0, 1) := by decide +kernel
theorem dX11_drawn_89 : decode cX11_drawn 89 = .ok (.istore 9, 2) := by decide +kernel
theorem dX11_drawn_91 : decode cX11_drawn 91 = .ok (.iload 9, 2) := by decide +kernel
theorem dX11_drawn_93 : decode cX11_drawn 93 = .ok (.iload_n 2, 1) := by decide +kernel
theorem dX11_drawn_94 : decode cX11_drawn 94 = .ok (.bipush 100, 2) := by decide +kernel
theorem dX11_drawn_96 : decode cX11_drawn 96 = .ok (.irem, 1) := by decide +kernel
theorem dX11_drawn_97 : decode cX11_drawn 97 = .ok (.if_icmp .ge 37, 3) := by decide +kernel
theorem dX11_drawn_100 : decode cX11_drawn 100 = .ok (.iload 6, 2) := by decide +kernel
theorem dX11_drawn_102 : decode cX11_drawn 102 = .ok (.ldc_w 303, 3) := by decide +kernel
theorem dX11_drawn_105 : decode cX11_drawn 105 = .ok (.imul, 1) := by decide +kernel
theorem dX11_drawn_106 : decode cX11_drawn 106 = .ok (.sipush 12345, 3) := by decide +kernel
theorem dX11_drawn_109 : decode cX11_drawn 109 = .ok (.iadd, 1) := by decide +kernel
theorem dX11_drawn_110 : decode cX11_drawn 110 = .ok (.istore 6, 2) := by decide +kernel
theorem dX11_drawn_112 : decode cX11_drawn 112 = .ok (.aload_n 0, 1) := by decide +kernel
theorem dX11_drawn_113 : decode cX11_drawn 113 = .ok (.aload_n 0, 1) := by decide +kernel
theorem dX11_drawn_114 : decode cX11_drawn 114 = .ok (.getfield 48, 3) := by decide +kernel
theorem dX11_drawn_117 : decode cX11_drawn 117 = .ok (.iload 6, 2) := by decide +kernel
theorem dX11_drawn_119 : decode cX11_drawn 119 = .ok (.bipush 8, 2) := by decide +kernel
theorem dX11_drawn_121 : decode cX11_drawn 121 = .ok (.iushr, 1) := by decide +kernel
theorem dX11_drawn_122 : decode cX11_drawn 122 = .ok (.bipush 10, 2) := by decide +kernel
theorem dX11_drawn_124 : decode cX11_drawn 124 = .ok (.irem, 1) := by decide +kernel
theorem dX11_drawn_125 : decode cX11_drawn 125 = .ok (.invokevirtual 216, 3) := by decide +kernel
theorem dX11_drawn_128 : decode cX11_drawn 128 = .ok (.iinc 9 1, 3) := by decide +kernel
theorem dX11_drawn_131 : decode cX11_drawn 131 = .ok (.goto (-40), 3) := by decide +kernel
theorem dX11_drawn_134 : decode cX11_drawn 134 = .ok (.iload 7, 2) := by decide +kernel
theorem dX11_drawn_136 : decode cX11_drawn 136 = .ok (.aload_n 0, 1) := by decide +kernel
theorem dX11_drawn_137 : decode cX11_drawn 137 = .ok (.getfield 48, 3) := by decide +kernel
theorem dX11_drawn_140 : decode cX11_drawn 140 = .ok (.iload 4, 2) := by decide +kernel
theorem dX11_drawn_142 : decode cX11_drawn 142 = .ok (.invokestatic 255, 3) := by decide +kernel
theorem dX11_drawn_145 : decode cX11_drawn 145 = .ok (.iadd, 1) := by decide +kernel
theorem dX11_drawn_146 : decode cX11_drawn 146 = .ok (.istore 7, 2) := by decide +kernel
theorem dX11_drawn_148 : decode cX11_drawn 148 = .ok (.iinc 8 1, 3) := by decide +kernel
theorem dX11_drawn_151 : decode cX11_drawn 151 = .ok (.goto (-76), 3) := by decide +kernel
theorem dX11_drawn_154 : decode cX11_drawn 154 = .ok (.iload 7, 2) := by decide +kernel
theorem dX11_drawn_156 : decode cX11_drawn 156 = .ok (.ireturn, 1) := by decide +kernel
theorem dX11_fact_0 : decode cX11_fact 0 = .ok (.iload_n 1, 1) := by decide +kernel
theorem dX11_fact_1 : decode cX11_fact 1 = .ok (.iconst 0, 1) := by decide +kernel
theorem dX11_fact_2 : decode cX11_fact 2 = .ok (.iconst 3, 1) := by decide +kernel
theorem dX11_fact_3 : decode cX11_fact 3 = .ok (.invokestatic 125, 3) := by decide +kernel
theorem dX11_fact_6 : decode cX11_fact 6 = .ok (.ifCond .eq 30, 3) := by decide +kernel
theorem dX11_fact_9 : decode cX11_fact 9 = .ok (.iload_n 2, 1) := by decide +kernel
theorem dX11_fact_10 : decode cX11_fact 10 = .ok (.ifCond .lt 26, 3) := by decide +kernel
theorem dX11_fact_13 : decode cX11_fact 13 = .ok (.aload_n 0, 1) := by decide +kernel
theorem dX11_fact_14 : decode cX11_fact 14 = .ok (.iload_n 2, 1) := by decide +kernel
theorem dX11_fact_15 : decode cX11_fact 15 = .ok (.bipush 100, 2) := by decide +kernel
theorem dX11_fact_17 : decode cX11_fact 17 = .ok (.idiv, 1) := by decide +kernel
theorem dX11_fact_18 : decode cX11_fact 18 = .ok (.invokevirtual 132, 3) := by decide +kernel
theorem dX11_fact_21 : decode cX11_fact 21 = .ok (.ifCond .eq 15, 3) := by decide +kernel
theorem dX11_fact_24 : decode cX11_fact 24 = .ok (.iload_n 2, 1) := by decide +kernel
theorem dX11_fact_25 : decode cX11_fact 25 = .ok (.bipush 10, 2) := by decide +kernel
theorem dX11_fact_27 : decode cX11_fact 27 = .ok (.idiv, 1) := by decide +kernel
theorem dX11_fact_28 : decode cX11_fact 28 = .ok (.bipush 10, 2) := by decide +kernel
theorem dX11_fact_30 : decode cX11_fact 30 = .ok (.irem, 1) := by decide +kernel
theorem dX11_fact_31 : decode cX11_fact 31 = .ok (.bipush 8, 2) := by decide +kernel
theorem dX11_fact_33 : decode cX11_fact 33 = .ok (.if_icmp .lt 5, 3) := by decide +kernel
theorem dX11_fact_36 : decode cX11_fact 36 = .ok (.iconst (-1), 1) := by decide +kernel
theorem dX11_fact_37 : decode cX11_fact 37 = .ok (.ireturn, 1) := by decide +kernel
theorem dX11_fact_38 : decode cX11_fact 38 = .ok (.iload_n 2, 1) := by decide +kernel
theorem dX11_fact_39 : decode cX11_fact 39 = .ok (.bipush 100, 2) := by decide +kernel
theorem dX11_fact_41 : decode cX11_fact 41 = .ok (.idiv, 1) := by decide +kernel
theorem dX11_fact_42 : decode cX11_fact 42 = .ok (.istore_n 3, 1) := by decide +kernel
theorem dX11_fact_43 : decode cX11_fact 43 = .ok (.iload_n 2, 1) := by decide +kernel
theorem dX11_fact_44 : decode cX11_fact 44 = .ok (.bipush 10, 2) := by decide +kernel
theorem dX11_fact_46 : decode cX11_fact 46 = .ok (.idiv, 1) := by decide +kernel
theorem dX11_fact_47 : decode cX11_fact 47 = .ok (.bipush 10, 2) := by decide +kernel
theorem dX11_fact_49 : decode cX11_fact 49 = .ok (.irem, 1) := by decide +kernel
theorem dX11_fact_50 : decode cX11_fact 50 = .ok (.istore 4, 2) := by decide +kernel
theorem dX11_fact_52 : decode cX11_fact 52 = .ok (.iload_n 2, 1) := by decide +kernel
theorem dX11_fact_53 : decode cX11_fact 53 = .ok (.bipush 10, 2) := by decide +kernel
theorem dX11_fact_55 : decode cX11_fact 55 = .ok (.irem, 1) := by decide +kernel
theorem dX11_fact_56 : decode cX11_fact 56 = .ok (.istore 5, 2) := by decide +kernel
theorem dX11_fact_58 : decode cX11_fact 58 = .ok (.iload_n 1, 1) := by decide +kernel
theorem dX11_fact_59 : decode cX11_fact 59 = .ok (.iconst 2, 1) := by decide +kernel
theorem dX11_fact_60 : decode cX11_fact 60 = .ok (.if_icmp .ne 21, 3) := by decide +kernel
theorem dX11_fact_63 : decode cX11_fact 63 = .ok (.aload_n 0, 1) := by decide +kernel
theorem dX11_fact_64 : decode cX11_fact 64 = .ok (.iload 5, 2) := by decide +kernel
theorem dX11_fact_66 : decode cX11_fact 66 = .ok (.invokevirtual 132, 3) := by decide +kernel
theorem dX11_fact_69 : decode cX11_fact 69 = .ok (.ifCond .eq 17, 3) := by decide +kernel
theorem dX11_fact_72 : decode cX11_fact 72 = .ok (.iload 5, 2) := by decide +kernel
theorem dX11_fact_74 : decode cX11_fact 74 = .ok (.iload_n 3, 1) := by decide +kernel
theorem dX11_fact_75 : decode cX11_fact 75 = .ok (.if_icmp .ne 13, 3) := by decide +kernel
theorem dX11_fact_78 : decode cX11_fact 78 = .ok (.goto 8, 3) := by decide +kernel
theorem dX11_fact_81 : decode cX11_fact 81 = .ok (.iload 5, 2) := by decide +kernel
theorem dX11_fact_83 : decode cX11_fact 83 = .ok (.ifCond .eq 5, 3) := by decide +kernel
theorem dX11_fact_86 : decode cX11_fact 86 = .ok (.iconst (-1), 1) := by decide +kernel
theorem dX11_fact_87 : decode cX11_fact 87 = .ok (.ireturn, 1) := by decide +kernel
theorem dX11_fact_88 : decode cX11_fact 88 = .ok (.aload_n 0, 1) := by decide +kernel
theorem dX11_fact_89 : decode cX11_fact 89 = .ok (.iload_n 3, 1) := by decide +kernel
theorem dX11_fact_90 : decode cX11_fact 90 = .ok (.iload 4, 2) := by decide +kernel
theorem dX11_fact_92 : decode cX11_fact 92 = .ok (.invokevirtual 265, 3) := by decide +kernel
theorem dX11_fact_95 : decode cX11_fact 95 = .ok (.istore 6, 2) := by decide +kernel
theorem dX11_fact_97 : decode cX11_fact 97 = .ok (.iload_n 1, 1) := by decide +kernel
theorem dX11_fact_98 : decode cX11_fact 98 = .ok (.iconst 3, 1) := by decide +kernel
theorem dX11_fact_99 : decode cX11_fact 99 = .ok (.if_icmp .ge 8, 3) := by decide +kernel
theorem dX11_fact_102 : decode cX11_fact 102 = .ok (.iload 6, 2) := by decide +kernel
theorem dX11_fact_104 : decode cX11_fact 104 = .ok (.ifCond .eq 33, 3) := by decide +kernel
theorem dX11_fact_107 : decode cX11_fact 107 = .ok (.iload_n 1, 1) := by decide +kernel
theorem dX11_fact_108 : decode cX11_fact 108 = .ok (.iconst 3, 1) := by decide +kernel
theorem dX11_fact_109 : decode cX11_fact 109 = .ok (.if_icmp .ne 10, 3) := by decide +kernel
theorem dX11_fact_112 : decode cX11_fact 112 = .ok (.iload 6, 2) := by decide +kernel
theorem dX11_fact_114 : decode cX11_fact 114 = .ok (.bipush 9, 2) := by decide +kernel
theorem dX11_fact_116 : decode cX11_fact 116 = .ok (.if_icmp .eq 21, 3) := by decide +kernel
theorem dX11_fact_119 : decode cX11_fact 119 = .ok (.iload_n 1, 1) := by decide +kernel
theorem dX11_fact_120 : decode cX11_fact 120 = .ok (.iconst 2, 1) := by decide +kernel
theorem dX11_fact_121 : decode cX11_fact 121 = .ok (.if_icmp .ne 19, 3) := by decide +kernel
theorem dX11_fact_124 : decode cX11_fact 124 = .ok (.aload_n 0, 1) := by decide +kernel
theorem dX11_fact_125 : decode cX11_fact 125 = .ok (.iload 5, 2) := by decide +kernel
theorem dX11_fact_127 : decode cX11_fact 127 = .ok (.iload 4, 2) := by decide +kernel
theorem dX11_fact_129 : decode cX11_fact 129 = .ok (.invokevirtual 265, 3) := by decide +kernel
theorem dX11_fact_132 : decode cX11_fact 132 = .ok (.bipush 9, 2) := by decide +kernel
theorem dX11_fact_134 : decode cX11_fact 134 = .ok (.if_icmp .ne 6, 3) := by decide +kernel
theorem dX11_fact_137 : decode cX11_fact 137 = .ok (.bipush (-5), 2) := by decide +kernel
theorem dX11_fact_139 : decode cX11_fact 139 = .ok (.ireturn, 1) := by decide +kernel
theorem dX11_fact_140 : decode cX11_fact 140 = .ok (.aload_n 0, 1) := by decide +kernel
theorem dX11_fact_141 : decode cX11_fact 141 = .ok (.iload_n 3, 1) := by decide +kernel
theorem dX11_fact_142 : decode cX11_fact 142 = .ok (.iload 4, 2) := by decide +kernel
theorem dX11_fact_144 : decode cX11_fact 144 = .ok (.iload_n 1, 1) := by decide +kernel
theorem dX11_fact_145 : decode cX11_fact 145 = .ok (.iconst 1, 1) := by decide +kernel
theorem dX11_fact_146 : decode cX11_fact 146 = .ok (.if_icmp .ne 7, 3) := by decide +kernel
theorem dX11_fact_149 : decode cX11_fact 149 = .ok (.iconst 0, 1) := by decide +kernel
theorem dX11_fact_150 : decode cX11_fact 150 = .ok (.goto 19, 3) := by decide +kernel
theorem dX11_fact_153 : decode cX11_fact 153 = .ok (.iload_n 1, 1) := by decide +kernel
theorem dX11_fact_154 : decode cX11_fact 154 = .ok (.iconst 3, 1) := by decide +kernel
theorem dX11_fact_155 : decode cX11_fact 155 = .ok (.if_icmp .ne 10, 3) := by decide +kernel
theorem dX11_fact_158 : decode cX11_fact 158 = .ok (.iload 6, 2) := by decide +kernel
theorem dX11_fact_160 : decode cX11_fact 160 = .ok (.iconst 1, 1) := by decide +kernel
theorem dX11_fact_161 : decode cX11_fact 161 = .ok (.iadd, 1) := by decide +kernel
theorem dX11_fact_162 : decode cX11_fact 162 = .ok (.goto 7, 3) := by decide +kernel
theorem dX11_fact_165 : decode cX11_fact 165 = .ok (.iload 6, 2) := by decide +kernel
theorem dX11_fact_167 : decode cX11_fact 167 = .ok (.iconst 1, 1) := by decide +kernel
theorem dX11_fact_168 : decode cX11_fact 168 = .ok (.isub, 1) := by decide +kernel
theorem dX11_fact_169 : decode cX11_fact 169 = .ok (.invokevirtual 243, 3) := by decide +kernel
theorem dX11_fact_172 : decode cX11_fact 172 = .ok (.iload_n 1, 1) := by decide +kernel
theorem dX11_fact_173 : decode cX11_fact 173 = .ok (.iconst 2, 1) := by decide +kernel
theorem dX11_fact_174 : decode cX11_fact 174 = .ok (.if_icmp .ne 21, 3) := by decide +kernel
theorem dX11_fact_177 : decode cX11_fact 177 = .ok (.aload_n 0, 1) := by decide +kernel
theorem dX11_fact_178 : decode cX11_fact 178 = .ok (.iload 5, 2) := by decide +kernel
theorem dX11_fact_180 : decode cX11_fact 180 = .ok (.iload 4, 2) := by decide +kernel
theorem dX11_fact_182 : decode cX11_fact 182 = .ok (.aload_n 0, 1) := by decide +kernel
theorem dX11_fact_183 : decode cX11_fact 183 = .ok (.iload 5, 2) := by decide +kernel
theorem dX11_fact_185 : decode cX11_fact 185 = .ok (.iload 4, 2) := by decide +kernel
theorem dX11_fact_187 : decode cX11_fact 187 = .ok (.invokevirtual 265, 3) := by decide +kernel
theorem dX11_fact_190 : decode cX11_fact 190 = .ok (.iconst 1, 1) := by decide +kernel
theorem dX11_fact_191 : decode cX11_fact 191 = .ok (.iadd, 1) := by decide +kernel
theorem dX11_fact_192 : decode cX11_fact 192 = .ok (.invokevirtual 243, 3) := by decide +kernel
theorem dX11_fact_195 : decode cX11_fact 195 = .ok (.aload_n 0, 1) := by decide +kernel
theorem dX11_fact_196 : decode cX11_fact 196 = .ok (.getfield 88, 3) := by decide +kernel
theorem dX11_fact_199 : decode cX11_fact 199 = .ok (.iconst 0, 1) := by decide +kernel
theorem dX11_fact_200 : decode cX11_fact 200 = .ok (.dup2, 1) := by decide +kernel
theorem dX11_fact_201 : decode cX11_fact 201 = .ok (.iaload, 1) := by decide +kernel
theorem dX11_fact_202 : decode cX11_fact 202 = .ok (.iconst 1, 1) := by decide +kernel
theorem dX11_fact_203 : decode cX11_fact 203 = .ok (.iadd, 1) := by decide +kernel
theorem dX11_fact_204 : decode cX11_fact 204 = .ok (.iastore, 1) := by decide +kernel
theorem dX11_fact_205 : decode cX11_fact 205 = .ok (.aload_n 0, 1) := by decide +kernel
theorem dX11_fact_206 : decode cX11_fact 206 = .ok (.iload_n 3, 1) := by decide +kernel
theorem dX11_fact_207 : decode cX11_fact 207 = .ok (.iload 4, 2) := by decide +kernel
theorem dX11_fact_209 : decode cX11_fact 209 = .ok (.invokevirtual 265, 3) := by decide +kernel
theorem dX11_fact_212 : decode cX11_fact 212 = .ok (.ireturn, 1) := by decide +kernel
