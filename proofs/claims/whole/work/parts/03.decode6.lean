theorem dX11_pot_0 : decode cX11_pot 0 = .ok (.iload_n 1, 1) := by decide +kernel
theorem dX11_pot_1 : decode cX11_pot 1 = .ok (.invokestatic 238, 3) := by decide +kernel
theorem dX11_pot_4 : decode cX11_pot 4 = .ok (.ifCond .eq 11, 3) := by decide +kernel
theorem dX11_pot_7 : decode cX11_pot 7 = .ok (.aload_n 0, 1) := by decide +kernel
theorem dX11_pot_8 : decode cX11_pot 8 = .ok (.iload_n 2, 1) := by decide +kernel
theorem dX11_pot_9 : decode cX11_pot 9 = .ok (.invokevirtual 132, 3) := by decide +kernel
theorem dX11_pot_12 : decode cX11_pot 12 = .ok (.ifCond .ne 5, 3) := by decide +kernel
theorem dX11_pot_15 : decode cX11_pot 15 = .ok (.iconst (-1), 1) := by decide +kernel
theorem dX11_pot_16 : decode cX11_pot 16 = .ok (.ireturn, 1) := by decide +kernel
theorem dX11_pot_17 : decode cX11_pot 17 = .ok (.aload_n 0, 1) := by decide +kernel
theorem dX11_pot_18 : decode cX11_pot 18 = .ok (.iload_n 1, 1) := by decide +kernel
theorem dX11_pot_19 : decode cX11_pot 19 = .ok (.iconst (-1), 1) := by decide +kernel
theorem dX11_pot_20 : decode cX11_pot 20 = .ok (.invokevirtual 247, 3) := by decide +kernel
theorem dX11_pot_23 : decode cX11_pot 23 = .ok (.istore_n 3, 1) := by decide +kernel
theorem dX11_pot_24 : decode cX11_pot 24 = .ok (.iload_n 3, 1) := by decide +kernel
theorem dX11_pot_25 : decode cX11_pot 25 = .ok (.iconst 1, 1) := by decide +kernel
theorem dX11_pot_26 : decode cX11_pot 26 = .ok (.if_icmp .ge 5, 3) := by decide +kernel
theorem dX11_pot_29 : decode cX11_pot 29 = .ok (.iload_n 3, 1) := by decide +kernel
theorem dX11_pot_30 : decode cX11_pot 30 = .ok (.ireturn, 1) := by decide +kernel
theorem dX11_pot_31 : decode cX11_pot 31 = .ok (.aload_n 0, 1) := by decide +kernel
theorem dX11_pot_32 : decode cX11_pot 32 = .ok (.iload_n 2, 1) := by decide +kernel
theorem dX11_pot_33 : decode cX11_pot 33 = .ok (.invokevirtual 287, 3) := by decide +kernel
theorem dX11_pot_36 : decode cX11_pot 36 = .ok (.ifCond .ne 6, 3) := by decide +kernel
theorem dX11_pot_39 : decode cX11_pot 39 = .ok (.bipush (-5), 2) := by decide +kernel
theorem dX11_pot_41 : decode cX11_pot 41 = .ok (.ireturn, 1) := by decide +kernel
theorem dX11_pot_42 : decode cX11_pot 42 = .ok (.iconst 0, 1) := by decide +kernel
theorem dX11_pot_43 : decode cX11_pot 43 = .ok (.istore 4, 2) := by decide +kernel
theorem dX11_pot_45 : decode cX11_pot 45 = .ok (.iload 4, 2) := by decide +kernel
theorem dX11_pot_47 : decode cX11_pot 47 = .ok (.bipush 14, 2) := by decide +kernel
theorem dX11_pot_49 : decode cX11_pot 49 = .ok (.if_icmp .ge 34, 3) := by decide +kernel
theorem dX11_pot_52 : decode cX11_pot 52 = .ok (.aload_n 0, 1) := by decide +kernel
theorem dX11_pot_53 : decode cX11_pot 53 = .ok (.getfield 85, 3) := by decide +kernel
theorem dX11_pot_56 : decode cX11_pot 56 = .ok (.iload 4, 2) := by decide +kernel
theorem dX11_pot_58 : decode cX11_pot 58 = .ok (.iload 4, 2) := by decide +kernel
theorem dX11_pot_60 : decode cX11_pot 60 = .ok (.bipush 8, 2) := by decide +kernel
theorem dX11_pot_62 : decode cX11_pot 62 = .ok (.if_icmp .ge 13, 3) := by decide +kernel
theorem dX11_pot_65 : decode cX11_pot 65 = .ok (.aload_n 0, 1) := by decide +kernel
theorem dX11_pot_66 : decode cX11_pot 66 = .ok (.getfield 45, 3) := by decide +kernel
theorem dX11_pot_69 : decode cX11_pot 69 = .ok (.iload 4, 2) := by decide +kernel
theorem dX11_pot_71 : decode cX11_pot 71 = .ok (.iaload, 1) := by decide +kernel
theorem dX11_pot_72 : decode cX11_pot 72 = .ok (.goto 4, 3) := by decide +kernel
theorem dX11_pot_75 : decode cX11_pot 75 = .ok (.iconst 0, 1) := by decide +kernel
theorem dX11_pot_76 : decode cX11_pot 76 = .ok (.iastore, 1) := by decide +kernel
theorem dX11_pot_77 : decode cX11_pot 77 = .ok (.iinc 4 1, 3) := by decide +kernel
theorem dX11_pot_80 : decode cX11_pot 80 = .ok (.goto (-35), 3) := by decide +kernel
theorem dX11_pot_83 : decode cX11_pot 83 = .ok (.iconst 0, 1) := by decide +kernel
theorem dX11_pot_84 : decode cX11_pot 84 = .ok (.istore 4, 2) := by decide +kernel
theorem dX11_pot_86 : decode cX11_pot 86 = .ok (.iload 4, 2) := by decide +kernel
theorem dX11_pot_88 : decode cX11_pot 88 = .ok (.bipush 8, 2) := by decide +kernel
theorem dX11_pot_90 : decode cX11_pot 90 = .ok (.if_icmp .ge 31, 3) := by decide +kernel
theorem dX11_pot_93 : decode cX11_pot 93 = .ok (.aload_n 0, 1) := by decide +kernel
theorem dX11_pot_94 : decode cX11_pot 94 = .ok (.iload_n 2, 1) := by decide +kernel
theorem dX11_pot_95 : decode cX11_pot 95 = .ok (.iload 4, 2) := by decide +kernel
theorem dX11_pot_97 : decode cX11_pot 97 = .ok (.aload_n 0, 1) := by decide +kernel
theorem dX11_pot_98 : decode cX11_pot 98 = .ok (.iload_n 2, 1) := by decide +kernel
theorem dX11_pot_99 : decode cX11_pot 99 = .ok (.iload 4, 2) := by decide +kernel
theorem dX11_pot_101 : decode cX11_pot 101 = .ok (.invokevirtual 265, 3) := by decide +kernel
theorem dX11_pot_104 : decode cX11_pot 104 = .ok (.aload_n 0, 1) := by decide +kernel
theorem dX11_pot_105 : decode cX11_pot 105 = .ok (.getfield 45, 3) := by decide +kernel
theorem dX11_pot_108 : decode cX11_pot 108 = .ok (.iload 4, 2) := by decide +kernel
theorem dX11_pot_110 : decode cX11_pot 110 = .ok (.iaload, 1) := by decide +kernel
theorem dX11_pot_111 : decode cX11_pot 111 = .ok (.isub, 1) := by decide +kernel
theorem dX11_pot_112 : decode cX11_pot 112 = .ok (.invokevirtual 243, 3) := by decide +kernel
theorem dX11_pot_115 : decode cX11_pot 115 = .ok (.iinc 4 1, 3) := by decide +kernel
theorem dX11_pot_118 : decode cX11_pot 118 = .ok (.goto (-32), 3) := by decide +kernel
theorem dX11_pot_121 : decode cX11_pot 121 = .ok (.aload_n 0, 1) := by decide +kernel
theorem dX11_pot_122 : decode cX11_pot 122 = .ok (.iconst 1, 1) := by decide +kernel
theorem dX11_pot_123 : decode cX11_pot 123 = .ok (.putfield 304, 3) := by decide +kernel
theorem dX11_pot_126 : decode cX11_pot 126 = .ok (.aload_n 0, 1) := by decide +kernel
theorem dX11_pot_127 : decode cX11_pot 127 = .ok (.getfield 88, 3) := by decide +kernel
theorem dX11_pot_130 : decode cX11_pot 130 = .ok (.iconst 1, 1) := by decide +kernel
theorem dX11_pot_131 : decode cX11_pot 131 = .ok (.dup2, 1) := by decide +kernel
theorem dX11_pot_132 : decode cX11_pot 132 = .ok (.iaload, 1) := by decide +kernel
theorem dX11_pot_133 : decode cX11_pot 133 = .ok (.iconst 1, 1) := by decide +kernel
theorem dX11_pot_134 : decode cX11_pot 134 = .ok (.iadd, 1) := by decide +kernel
theorem dX11_pot_135 : decode cX11_pot 135 = .ok (.iastore, 1) := by decide +kernel
theorem dX11_pot_136 : decode cX11_pot 136 = .ok (.aload_n 0, 1) := by decide +kernel
theorem dX11_pot_137 : decode cX11_pot 137 = .ok (.aload_n 0, 1) := by decide +kernel
theorem dX11_pot_138 : decode cX11_pot 138 = .ok (.getfield 85, 3) := by decide +kernel
theorem dX11_pot_141 : decode cX11_pot 141 = .ok (.invokevirtual 205, 3) := by decide +kernel
theorem dX11_pot_144 : decode cX11_pot 144 = .ok (.ireturn, 1) := by decide +kernel
theorem dX11_minute_0 : decode cX11_minute 0 = .ok (.aload_n 0, 1) := by decide +kernel
theorem dX11_minute_1 : decode cX11_minute 1 = .ok (.getfield 304, 3) := by decide +kernel
theorem dX11_minute_4 : decode cX11_minute 4 = .ok (.ifCond .ne 6, 3) := by decide +kernel
theorem dX11_minute_7 : decode cX11_minute 7 = .ok (.bipush (-5), 2) := by decide +kernel
theorem dX11_minute_9 : decode cX11_minute 9 = .ok (.ireturn, 1) := by decide +kernel
theorem dX11_minute_10 : decode cX11_minute 10 = .ok (.aload_n 0, 1) := by decide +kernel
theorem dX11_minute_11 : decode cX11_minute 11 = .ok (.aload_n 0, 1) := by decide +kernel
theorem dX11_minute_12 : decode cX11_minute 12 = .ok (.getfield 85, 3) := by decide +kernel
theorem dX11_minute_15 : decode cX11_minute 15 = .ok (.aload_n 0, 1) := by decide +kernel
theorem dX11_minute_16 : decode cX11_minute 16 = .ok (.getfield 13, 3) := by decide +kernel
theorem dX11_minute_19 : decode cX11_minute 19 = .ok (.bipush 104, 2) := by decide +kernel
theorem dX11_minute_21 : decode cX11_minute 21 = .ok (.iaload, 1) := by decide +kernel
theorem dX11_minute_22 : decode cX11_minute 22 = .ok (.invokevirtual 216, 3) := by decide +kernel
theorem dX11_minute_25 : decode cX11_minute 25 = .ok (.aload_n 0, 1) := by decide +kernel
theorem dX11_minute_26 : decode cX11_minute 26 = .ok (.getfield 88, 3) := by decide +kernel
theorem dX11_minute_29 : decode cX11_minute 29 = .ok (.iconst 2, 1) := by decide +kernel
theorem dX11_minute_30 : decode cX11_minute 30 = .ok (.dup2, 1) := by decide +kernel
theorem dX11_minute_31 : decode cX11_minute 31 = .ok (.iaload, 1) := by decide +kernel
theorem dX11_minute_32 : decode cX11_minute 32 = .ok (.iconst 1, 1) := by decide +kernel
theorem dX11_minute_33 : decode cX11_minute 33 = .ok (.iadd, 1) := by decide +kernel
theorem dX11_minute_34 : decode cX11_minute 34 = .ok (.iastore, 1) := by decide +kernel
theorem dX11_minute_35 : decode cX11_minute 35 = .ok (.aload_n 0, 1) := by decide +kernel
theorem dX11_minute_36 : decode cX11_minute 36 = .ok (.getfield 85, 3) := by decide +kernel
theorem dX11_minute_39 : decode cX11_minute 39 = .ok (.bipush 8, 2) := by decide +kernel
theorem dX11_minute_41 : decode cX11_minute 41 = .ok (.iaload, 1) := by decide +kernel
theorem dX11_minute_42 : decode cX11_minute 42 = .ok (.ireturn, 1) := by decide +kernel
theorem dX11_potOf_0 : decode cX11_potOf 0 = .ok (.iload_n 1, 1) := by decide +kernel
theorem dX11_potOf_1 : decode cX11_potOf 1 = .ok (.iconst 0, 1) := by decide +kernel
theorem dX11_potOf_2 : decode cX11_potOf 2 = .ok (.bipush 6, 2) := by decide +kernel
theorem dX11_potOf_4 : decode cX11_potOf 4 = .ok (.invokestatic 125, 3) := by decide +kernel
theorem dX11_potOf_7 : decode cX11_potOf 7 = .ok (.ifCond .ne 5, 3) := by decide +kernel
theorem dX11_potOf_10 : decode cX11_potOf 10 = .ok (.iconst (-1), 1) := by decide +kernel
theorem dX11_potOf_11 : decode cX11_potOf 11 = .ok (.ireturn, 1) := by decide +kernel
theorem dX11_potOf_12 : decode cX11_potOf 12 = .ok (.aload_n 0, 1) := by decide +kernel
theorem dX11_potOf_13 : decode cX11_potOf 13 = .ok (.getfield 304, 3) := by decide +kernel
theorem dX11_potOf_16 : decode cX11_potOf 16 = .ok (.ifCond .ne 8, 3) := by decide +kernel
theorem dX11_potOf_19 : decode cX11_potOf 19 = .ok (.bipush (-5), 2) := by decide +kernel
theorem dX11_potOf_21 : decode cX11_potOf 21 = .ok (.goto 43, 3) := by decide +kernel
theorem dX11_potOf_24 : decode cX11_potOf 24 = .ok (.iload_n 1, 1) := by decide +kernel
theorem dX11_potOf_25 : decode cX11_potOf 25 = .ok (.iconst 5, 1) := by decide +kernel
theorem dX11_potOf_26 : decode cX11_potOf 26 = .ok (.if_icmp .ge 15, 3) := by decide +kernel
theorem dX11_potOf_29 : decode cX11_potOf 29 = .ok (.aload_n 0, 1) := by decide +kernel
theorem dX11_potOf_30 : decode cX11_potOf 30 = .ok (.getfield 85, 3) := by decide +kernel
theorem dX11_potOf_33 : decode cX11_potOf 33 = .ok (.bipush 9, 2) := by decide +kernel
theorem dX11_potOf_35 : decode cX11_potOf 35 = .ok (.iload_n 1, 1) := by decide +kernel
theorem dX11_potOf_36 : decode cX11_potOf 36 = .ok (.iadd, 1) := by decide +kernel
theorem dX11_potOf_37 : decode cX11_potOf 37 = .ok (.iaload, 1) := by decide +kernel
theorem dX11_potOf_38 : decode cX11_potOf 38 = .ok (.goto 26, 3) := by decide +kernel
theorem dX11_potOf_41 : decode cX11_potOf 41 = .ok (.iload_n 1, 1) := by decide +kernel
theorem dX11_potOf_42 : decode cX11_potOf 42 = .ok (.iconst 5, 1) := by decide +kernel
theorem dX11_potOf_43 : decode cX11_potOf 43 = .ok (.if_icmp .ne 13, 3) := by decide +kernel
theorem dX11_potOf_46 : decode cX11_potOf 46 = .ok (.aload_n 0, 1) := by decide +kernel
theorem dX11_potOf_47 : decode cX11_potOf 47 = .ok (.getfield 85, 3) := by decide +kernel
theorem dX11_potOf_50 : decode cX11_potOf 50 = .ok (.bipush 8, 2) := by decide +kernel
theorem dX11_potOf_52 : decode cX11_potOf 52 = .ok (.iaload, 1) := by decide +kernel
theorem dX11_potOf_53 : decode cX11_potOf 53 = .ok (.goto 11, 3) := by decide +kernel
theorem dX11_potOf_56 : decode cX11_potOf 56 = .ok (.aload_n 0, 1) := by decide +kernel
theorem dX11_potOf_57 : decode cX11_potOf 57 = .ok (.aload_n 0, 1) := by decide +kernel
theorem dX11_potOf_58 : decode cX11_potOf 58 = .ok (.getfield 85, 3) := by decide +kernel
theorem dX11_potOf_61 : decode cX11_potOf 61 = .ok (.invokevirtual 205, 3) := by decide +kernel
theorem dX11_potOf_64 : decode cX11_potOf 64 = .ok (.ireturn, 1) := by decide +kernel
theorem dX11_spoon_0 : decode cX11_spoon 0 = .ok (.iload_n 1, 1) := by decide +kernel
theorem dX11_spoon_1 : decode cX11_spoon 1 = .ok (.invokestatic 238, 3) := by decide +kernel
theorem dX11_spoon_4 : decode cX11_spoon 4 = .ok (.ifCond .eq 11, 3) := by decide +kernel
theorem dX11_spoon_7 : decode cX11_spoon 7 = .ok (.aload_n 0, 1) := by decide +kernel
theorem dX11_spoon_8 : decode cX11_spoon 8 = .ok (.iload_n 2, 1) := by decide +kernel
theorem dX11_spoon_9 : decode cX11_spoon 9 = .ok (.invokevirtual 136, 3) := by decide +kernel
theorem dX11_spoon_12 : decode cX11_spoon 12 = .ok (.ifCond .ne 5, 3) := by decide +kernel
theorem dX11_spoon_15 : decode cX11_spoon 15 = .ok (.iconst (-1), 1) := by decide +kernel
theorem dX11_spoon_16 : decode cX11_spoon 16 = .ok (.ireturn, 1) := by decide +kernel
theorem dX11_spoon_17 : decode cX11_spoon 17 = .ok (.aload_n 0, 1) := by decide +kernel
theorem dX11_spoon_18 : decode cX11_spoon 18 = .ok (.iconst (-1), 1) := by decide +kernel
theorem dX11_spoon_19 : decode cX11_spoon 19 = .ok (.iload_n 1, 1) := by decide +kernel
theorem dX11_spoon_20 : decode cX11_spoon 20 = .ok (.invokevirtual 247, 3) := by decide +kernel
theorem dX11_spoon_23 : decode cX11_spoon 23 = .ok (.istore_n 3, 1) := by decide +kernel
theorem dX11_spoon_24 : decode cX11_spoon 24 = .ok (.iload_n 3, 1) := by decide +kernel
theorem dX11_spoon_25 : decode cX11_spoon 25 = .ok (.iconst 1, 1) := by decide +kernel
theorem dX11_spoon_26 : decode cX11_spoon 26 = .ok (.if_icmp .lt 10, 3) := by decide +kernel
theorem dX11_spoon_29 : decode cX11_spoon 29 = .ok (.aload_n 0, 1) := by decide +kernel
theorem dX11_spoon_30 : decode cX11_spoon 30 = .ok (.getfield 304, 3) := by decide +kernel
theorem dX11_spoon_33 : decode cX11_spoon 33 = .ok (.ifCond .ne 15, 3) := by decide +kernel
theorem dX11_spoon_36 : decode cX11_spoon 36 = .ok (.iload_n 3, 1) := by decide +kernel
theorem dX11_spoon_37 : decode cX11_spoon 37 = .ok (.iconst 1, 1) := by decide +kernel
theorem dX11_spoon_38 : decode cX11_spoon 38 = .ok (.if_icmp .ge 7, 3) := by decide +kernel
theorem dX11_spoon_41 : decode cX11_spoon 41 = .ok (.iload_n 3, 1) := by decide +kernel
theorem dX11_spoon_42 : decode cX11_spoon 42 = .ok (.goto 5, 3) := by decide +kernel
theorem dX11_spoon_45 : decode cX11_spoon 45 = .ok (.bipush (-5), 2) := by decide +kernel
theorem dX11_spoon_47 : decode cX11_spoon 47 = .ok (.ireturn, 1) := by decide +kernel
theorem dX11_spoon_48 : decode cX11_spoon 48 = .ok (.aload_n 0, 1) := by decide +kernel
theorem dX11_spoon_49 : decode cX11_spoon 49 = .ok (.iload_n 2, 1) := by decide +kernel
theorem dX11_spoon_50 : decode cX11_spoon 50 = .ok (.aload_n 0, 1) := by decide +kernel
theorem dX11_spoon_51 : decode cX11_spoon 51 = .ok (.getfield 85, 3) := by decide +kernel
theorem dX11_spoon_54 : decode cX11_spoon 54 = .ok (.bipush 9, 2) := by decide +kernel
theorem dX11_spoon_56 : decode cX11_spoon 56 = .ok (.aload_n 0, 1) := by decide +kernel
theorem dX11_spoon_57 : decode cX11_spoon 57 = .ok (.getfield 51, 3) := by decide +kernel
theorem dX11_spoon_60 : decode cX11_spoon 60 = .ok (.iconst 0, 1) := by decide +kernel
theorem dX11_spoon_61 : decode cX11_spoon 61 = .ok (.invokevirtual 277, 3) := by decide +kernel
theorem dX11_spoon_64 : decode cX11_spoon 64 = .ok (.ifCond .eq 7, 3) := by decide +kernel
theorem dX11_spoon_67 : decode cX11_spoon 67 = .ok (.iconst 1, 1) := by decide +kernel
theorem dX11_spoon_68 : decode cX11_spoon 68 = .ok (.goto 4, 3) := by decide +kernel
theorem dX11_spoon_71 : decode cX11_spoon 71 = .ok (.iconst 0, 1) := by decide +kernel
theorem dX11_spoon_72 : decode cX11_spoon 72 = .ok (.istore 4, 2) := by decide +kernel
theorem dX11_spoon_74 : decode cX11_spoon 74 = .ok (.aload_n 0, 1) := by decide +kernel
theorem dX11_spoon_75 : decode cX11_spoon 75 = .ok (.getfield 88, 3) := by decide +kernel
theorem dX11_spoon_78 : decode cX11_spoon 78 = .ok (.iconst 3, 1) := by decide +kernel
theorem dX11_spoon_79 : decode cX11_spoon 79 = .ok (.dup2, 1) := by decide +kernel
theorem dX11_spoon_80 : decode cX11_spoon 80 = .ok (.iaload, 1) := by decide +kernel
theorem dX11_spoon_81 : decode cX11_spoon 81 = .ok (.iconst 1, 1) := by decide +kernel
theorem dX11_spoon_82 : decode cX11_spoon 82 = .ok (.iadd, 1) := by decide +kernel
theorem dX11_spoon_83 : decode cX11_spoon 83 = .ok (.iastore, 1) := by decide +kernel
theorem dX11_spoon_84 : decode cX11_spoon 84 = .ok (.aload_n 0, 1) := by decide +kernel
theorem dX11_spoon_85 : decode cX11_spoon 85 = .ok (.getfield 88, 3) := by decide +kernel
theorem dX11_spoon_88 : decode cX11_spoon 88 = .ok (.iconst 4, 1) := by decide +kernel
theorem dX11_spoon_89 : decode cX11_spoon 89 = .ok (.dup2, 1) := by decide +kernel
theorem dX11_spoon_90 : decode cX11_spoon 90 = .ok (.iaload, 1) := by decide +kernel
theorem dX11_spoon_91 : decode cX11_spoon 91 = .ok (.iload 4, 2) := by decide +kernel
theorem dX11_spoon_93 : decode cX11_spoon 93 = .ok (.iadd, 1) := by decide +kernel
theorem dX11_spoon_94 : decode cX11_spoon 94 = .ok (.iastore, 1) := by decide +kernel
theorem dX11_spoon_95 : decode cX11_spoon 95 = .ok (.iload 4, 2) := by decide +kernel
theorem dX11_spoon_97 : decode cX11_spoon 97 = .ok (.ireturn, 1) := by decide +kernel
theorem dX11_led_0 : decode cX11_led 0 = .ok (.iload_n 1, 1) := by decide +kernel
theorem dX11_led_1 : decode cX11_led 1 = .ok (.iconst 0, 1) := by decide +kernel
theorem dX11_led_2 : decode cX11_led 2 = .ok (.iconst 4, 1) := by decide +kernel
theorem dX11_led_3 : decode cX11_led 3 = .ok (.invokestatic 125, 3) := by decide +kernel
theorem dX11_led_6 : decode cX11_led 6 = .ok (.ifCond .eq 12, 3) := by decide +kernel
theorem dX11_led_9 : decode cX11_led 9 = .ok (.aload_n 0, 1) := by decide +kernel
theorem dX11_led_10 : decode cX11_led 10 = .ok (.getfield 88, 3) := by decide +kernel
theorem dX11_led_13 : decode cX11_led 13 = .ok (.iload_n 1, 1) := by decide +kernel
theorem dX11_led_14 : decode cX11_led 14 = .ok (.iaload, 1) := by decide +kernel
theorem dX11_led_15 : decode cX11_led 15 = .ok (.goto 4, 3) := by decide +kernel
theorem dX11_led_18 : decode cX11_led 18 = .ok (.iconst (-1), 1) := by decide +kernel
theorem dX11_led_19 : decode cX11_led 19 = .ok (.ireturn, 1) := by decide +kernel
theorem dX11_image_0 : decode cX11_image 0 = .ok (.iconst 0, 1) := by decide +kernel
theorem dX11_image_1 : decode cX11_image 1 = .ok (.istore_n 1, 1) := by decide +kernel
theorem dX11_image_2 : decode cX11_image 2 = .ok (.iload_n 1, 1) := by decide +kernel
theorem dX11_image_3 : decode cX11_image 3 = .ok (.bipush 48, 2) := by decide +kernel
theorem dX11_image_5 : decode cX11_image 5 = .ok (.if_icmp .ge 24, 3) := by decide +kernel
theorem dX11_image_8 : decode cX11_image 8 = .ok (.aload_n 0, 1) := by decide +kernel
theorem dX11_image_9 : decode cX11_image 9 = .ok (.getfield 91, 3) := by decide +kernel
theorem dX11_image_12 : decode cX11_image 12 = .ok (.iload_n 1, 1) := by decide +kernel
theorem dX11_image_13 : decode cX11_image 13 = .ok (.aload_n 0, 1) := by decide +kernel
theorem dX11_image_14 : decode cX11_image 14 = .ok (.getfield 13, 3) := by decide +kernel
theorem dX11_image_17 : decode cX11_image 17 = .ok (.bipush 40, 2) := by decide +kernel
theorem dX11_image_19 : decode cX11_image 19 = .ok (.iload_n 1, 1) := by decide +kernel
theorem dX11_image_20 : decode cX11_image 20 = .ok (.iadd, 1) := by decide +kernel
theorem dX11_image_21 : decode cX11_image 21 = .ok (.iaload, 1) := by decide +kernel
theorem dX11_image_22 : decode cX11_image 22 = .ok (.iastore, 1) := by decide +kernel
theorem dX11_image_23 : decode cX11_image 23 = .ok (.iinc 1 1, 3) := by decide +kernel
theorem dX11_image_26 : decode cX11_image 26 = .ok (.goto (-24), 3) := by decide +kernel
theorem dX11_image_29 : decode cX11_image 29 = .ok (.iconst 0, 1) := by decide +kernel
theorem dX11_image_30 : decode cX11_image 30 = .ok (.istore_n 1, 1) := by decide +kernel
theorem dX11_image_31 : decode cX11_image 31 = .ok (.iload_n 1, 1) := by decide +kernel
theorem dX11_image_32 : decode cX11_image 32 = .ok (.bipush 14, 2) := by decide +kernel
theorem dX11_image_34 : decode cX11_image 34 = .ok (.if_icmp .ge 21, 3) := by decide +kernel
theorem dX11_image_37 : decode cX11_image 37 = .ok (.aload_n 0, 1) := by decide +kernel
theorem dX11_image_38 : decode cX11_image 38 = .ok (.getfield 94, 3) := by decide +kernel
theorem dX11_image_41 : decode cX11_image 41 = .ok (.iload_n 1, 1) := by decide +kernel
theorem dX11_image_42 : decode cX11_image 42 = .ok (.aload_n 0, 1) := by decide +kernel
theorem dX11_image_43 : decode cX11_image 43 = .ok (.getfield 85, 3) := by decide +kernel
theorem dX11_image_46 : decode cX11_image 46 = .ok (.iload_n 1, 1) := by decide +kernel
theorem dX11_image_47 : decode cX11_image 47 = .ok (.iaload, 1) := by decide +kernel
theorem dX11_image_48 : decode cX11_image 48 = .ok (.iastore, 1) := by decide +kernel
theorem dX11_image_49 : decode cX11_image 49 = .ok (.iinc 1 1, 3) := by decide +kernel
theorem dX11_image_52 : decode cX11_image 52 = .ok (.goto (-21), 3) := by decide +kernel
theorem dX11_image_55 : decode cX11_image 55 = .ok (.iconst 0, 1) := by decide +kernel
theorem dX11_image_56 : decode cX11_image 56 = .ok (.istore_n 1, 1) := by decide +kernel
theorem dX11_image_57 : decode cX11_image 57 = .ok (.iload_n 1, 1) := by decide +kernel
theorem dX11_image_58 : decode cX11_image 58 = .ok (.iconst 5, 1) := by decide +kernel
theorem dX11_image_59 : decode cX11_image 59 = .ok (.if_icmp .ge 21, 3) := by decide +kernel
theorem dX11_image_62 : decode cX11_image 62 = .ok (.aload_n 0, 1) := by decide +kernel
theorem dX11_image_63 : decode cX11_image 63 = .ok (.getfield 97, 3) := by decide +kernel
theorem dX11_image_66 : decode cX11_image 66 = .ok (.iload_n 1, 1) := by decide +kernel
theorem dX11_image_67 : decode cX11_image 67 = .ok (.aload_n 0, 1) := by decide +kernel
theorem dX11_image_68 : decode cX11_image 68 = .ok (.getfield 88, 3) := by decide +kernel
theorem dX11_image_71 : decode cX11_image 71 = .ok (.iload_n 1, 1) := by decide +kernel
theorem dX11_image_72 : decode cX11_image 72 = .ok (.iaload, 1) := by decide +kernel
theorem dX11_image_73 : decode cX11_image 73 = .ok (.iastore, 1) := by decide +kernel
theorem dX11_image_74 : decode cX11_image 74 = .ok (.iinc 1 1, 3) := by decide +kernel
theorem dX11_image_77 : decode cX11_image 77 = .ok (.goto (-20), 3) := by decide +kernel
theorem dX11_image_80 : decode cX11_image 80 = .ok (.aload_n 0, 1) := by decide +kernel
theorem dX11_image_81 : decode cX11_image 81 = .ok (.aload_n 0, 1) := by decide +kernel
theorem dX11_image_82 : decode cX11_image 82 = .ok (.getfield 121, 3) := by decide +kernel
theorem dX11_image_85 : decode cX11_image 85 = .ok (.putfield 307, 3) := by decide +kernel
theorem dX11_image_88 : decode cX11_image 88 = .ok (.aload_n 0, 1) := by decide +kernel
theorem dX11_image_89 : decode cX11_image 89 = .ok (.aload_n 0, 1) := by decide +kernel
theorem dX11_image_90 : decode cX11_image 90 = .ok (.getfield 304, 3) := by decide +kernel
theorem dX11_image_93 : decode cX11_image 93 = .ok (.putfield 310, 3) := by decide +kernel
theorem dX11_image_96 : decode cX11_image 96 = .ok (.aload_n 0, 1) := by decide +kernel
theorem dX11_image_97 : decode cX11_image 97 = .ok (.iconst 1, 1) := by decide +kernel
theorem dX11_image_98 : decode cX11_image 98 = .ok (.putfield 313, 3) := by decide +kernel
theorem dX11_image_101 : decode cX11_image 101 = .ok (.aload_n 0, 1) := by decide +kernel
theorem dX11_image_102 : decode cX11_image 102 = .ok (.getfield 88, 3) := by decide +kernel
theorem dX11_image_105 : decode cX11_image 105 = .ok (.iconst 2, 1) := by decide +kernel
theorem dX11_image_106 : decode cX11_image 106 = .ok (.iaload, 1) := by decide +kernel
theorem dX11_image_107 : decode cX11_image 107 = .ok (.ireturn, 1) := by decide +kernel
theorem dX11_back_0 : decode cX11_back 0 = .ok (.aload_n 0, 1) := by decide +kernel
theorem dX11_back_1 : decode cX11_back 1 = .ok (.getfield 313, 3) := by decide +kernel
theorem dX11_back_4 : decode cX11_back 4 = .ok (.ifCond .ne 6, 3) := by decide +kernel
theorem dX11_back_7 : decode cX11_back 7 = .ok (.bipush (-5), 2) := by decide +kernel
theorem dX11_back_9 : decode cX11_back 9 = .ok (.ireturn, 1) := by decide +kernel
theorem dX11_back_10 : decode cX11_back 10 = .ok (.iconst 0, 1) := by decide +kernel
theorem dX11_back_11 : decode cX11_back 11 = .ok (.istore_n 1, 1) := by decide +kernel
theorem dX11_back_12 : decode cX11_back 12 = .ok (.iload_n 1, 1) := by decide +kernel
theorem dX11_back_13 : decode cX11_back 13 = .ok (.bipush 8, 2) := by decide +kernel
theorem dX11_back_15 : decode cX11_back 15 = .ok (.aload_n 0, 1) := by decide +kernel
theorem dX11_back_16 : decode cX11_back 16 = .ok (.getfield 307, 3) := by decide +kernel
theorem dX11_back_19 : decode cX11_back 19 = .ok (.imul, 1) := by decide +kernel
theorem dX11_back_20 : decode cX11_back 20 = .ok (.if_icmp .ge 24, 3) := by decide +kernel
theorem dX11_back_23 : decode cX11_back 23 = .ok (.aload_n 0, 1) := by decide +kernel
theorem dX11_back_24 : decode cX11_back 24 = .ok (.getfield 13, 3) := by decide +kernel
theorem dX11_back_27 : decode cX11_back 27 = .ok (.bipush 40, 2) := by decide +kernel
theorem dX11_back_29 : decode cX11_back 29 = .ok (.iload_n 1, 1) := by decide +kernel
theorem dX11_back_30 : decode cX11_back 30 = .ok (.iadd, 1) := by decide +kernel
theorem dX11_back_31 : decode cX11_back 31 = .ok (.aload_n 0, 1) := by decide +kernel
theorem dX11_back_32 : decode cX11_back 32 = .ok (.getfield 91, 3) := by decide +kernel
theorem dX11_back_35 : decode cX11_back 35 = .ok (.iload_n 1, 1) := by decide +kernel
theorem dX11_back_36 : decode cX11_back 36 = .ok (.iaload, 1) := by decide +kernel
theorem dX11_back_37 : decode cX11_back 37 = .ok (.iastore, 1) := by decide +kernel
theorem dX11_back_38 : decode cX11_back 38 = .ok (.iinc 1 1, 3) := by decide +kernel
theorem dX11_back_41 : decode cX11_back 41 = .ok (.goto (-29), 3) := by decide +kernel
theorem dX11_back_44 : decode cX11_back 44 = .ok (.iconst 0, 1) := by decide +kernel
theorem dX11_back_45 : decode cX11_back 45 = .ok (.istore_n 1, 1) := by decide +kernel
theorem dX11_back_46 : decode cX11_back 46 = .ok (.iload_n 1, 1) := by decide +kernel
theorem dX11_back_47 : decode cX11_back 47 = .ok (.bipush 14, 2) := by decide +kernel
theorem dX11_back_49 : decode cX11_back 49 = .ok (.if_icmp .ge 21, 3) := by decide +kernel
theorem dX11_back_52 : decode cX11_back 52 = .ok (.aload_n 0, 1) := by decide +kernel
theorem dX11_back_53 : decode cX11_back 53 = .ok (.getfield 85, 3) := by decide +kernel
theorem dX11_back_56 : decode cX11_back 56 = .ok (.iload_n 1, 1) := by decide +kernel
theorem dX11_back_57 : decode cX11_back 57 = .ok (.aload_n 0, 1) := by decide +kernel
theorem dX11_back_58 : decode cX11_back 58 = .ok (.getfield 94, 3) := by decide +kernel
theorem dX11_back_61 : decode cX11_back 61 = .ok (.iload_n 1, 1) := by decide +kernel
theorem dX11_back_62 : decode cX11_back 62 = .ok (.iaload, 1) := by decide +kernel
theorem dX11_back_63 : decode cX11_back 63 = .ok (.iastore, 1) := by decide +kernel
theorem dX11_back_64 : decode cX11_back 64 = .ok (.iinc 1 1, 3) := by decide +kernel
theorem dX11_back_67 : decode cX11_back 67 = .ok (.goto (-21), 3) := by decide +kernel
theorem dX11_back_70 : decode cX11_back 70 = .ok (.iconst 0, 1) := by decide +kernel
theorem dX11_back_71 : decode cX11_back 71 = .ok (.istore_n 1, 1) := by decide +kernel
theorem dX11_back_72 : decode cX11_back 72 = .ok (.iload_n 1, 1) := by decide +kernel
theorem dX11_back_73 : decode cX11_back 73 = .ok (.iconst 5, 1) := by decide +kernel
theorem dX11_back_74 : decode cX11_back 74 = .ok (.if_icmp .ge 21, 3) := by decide +kernel
theorem dX11_back_77 : decode cX11_back 77 = .ok (.aload_n 0, 1) := by decide +kernel
theorem dX11_back_78 : decode cX11_back 78 = .ok (.getfield 88, 3) := by decide +kernel
theorem dX11_back_81 : decode cX11_back 81 = .ok (.iload_n 1, 1) := by decide +kernel
theorem dX11_back_82 : decode cX11_back 82 = .ok (.aload_n 0, 1) := by decide +kernel
theorem dX11_back_83 : decode cX11_back 83 = .ok (.getfield 97, 3) := by decide +kernel
theorem dX11_back_86 : decode cX11_back 86 = .ok (.iload_n 1, 1) := by decide +kernel
theorem dX11_back_87 : decode cX11_back 87 = .ok (.iaload, 1) := by decide +kernel
theorem dX11_back_88 : decode cX11_back 88 = .ok (.iastore, 1) := by decide +kernel
theorem dX11_back_89 : decode cX11_back 89 = .ok (.iinc 1 1, 3) := by decide +kernel
theorem dX11_back_92 : decode cX11_back 92 = .ok (.goto (-20), 3) := by decide +kernel
theorem dX11_back_95 : decode cX11_back 95 = .ok (.aload_n 0, 1) := by decide +kernel
theorem dX11_back_96 : decode cX11_back 96 = .ok (.aload_n 0, 1) := by decide +kernel
theorem dX11_back_97 : decode cX11_back 97 = .ok (.getfield 310, 3) := by decide +kernel
theorem dX11_back_100 : decode cX11_back 100 = .ok (.putfield 304, 3) := by decide +kernel
theorem dX11_back_103 : decode cX11_back 103 = .ok (.aload_n 0, 1) := by decide +kernel
theorem dX11_back_104 : decode cX11_back 104 = .ok (.getfield 88, 3) := by decide +kernel
theorem dX11_back_107 : decode cX11_back 107 = .ok (.iconst 2, 1) := by decide +kernel
theorem dX11_back_108 : decode cX11_back 108 = .ok (.iaload, 1) := by decide +kernel
theorem dX11_back_109 : decode cX11_back 109 = .ok (.ireturn, 1) := by decide +kernel
theorem dX11_body_0 : decode cX11_body 0 = .ok (.iload_n 1, 1) := by decide +kernel
theorem dX11_body_1 : decode cX11_body 1 = .ok (.iconst 0, 1) := by decide +kernel
theorem dX11_body_2 : decode cX11_body 2 = .ok (.bipush 7, 2) := by decide +kernel
theorem dX11_body_4 : decode cX11_body 4 = .ok (.invokestatic 125, 3) := by decide +kernel
theorem dX11_body_7 : decode cX11_body 7 = .ok (.ifCond .ne 5, 3) := by decide +kernel
theorem dX11_body_10 : decode cX11_body 10 = .ok (.iconst (-1), 1) := by decide +kernel
theorem dX11_body_11 : decode cX11_body 11 = .ok (.ireturn, 1) := by decide +kernel
theorem dX11_body_12 : decode cX11_body 12 = .ok (.aload_n 0, 1) := by decide +kernel
theorem dX11_body_13 : decode cX11_body 13 = .ok (.getfield 316, 3) := by decide +kernel
theorem dX11_body_16 : decode cX11_body 16 = .ok (.bipush 50, 2) := by decide +kernel
theorem dX11_body_18 : decode cX11_body 18 = .ok (.if_icmp .ne 6, 3) := by decide +kernel
theorem dX11_body_21 : decode cX11_body 21 = .ok (.bipush (-3), 2) := by decide +kernel
theorem dX11_body_23 : decode cX11_body 23 = .ok (.ireturn, 1) := by decide +kernel
theorem dX11_body_24 : decode cX11_body 24 = .ok (.aload_n 0, 1) := by decide +kernel
theorem dX11_body_25 : decode cX11_body 25 = .ok (.getfield 106, 3) := by decide +kernel
theorem dX11_body_28 : decode cX11_body 28 = .ok (.aload_n 0, 1) := by decide +kernel
theorem dX11_body_29 : decode cX11_body 29 = .ok (.getfield 316, 3) := by decide +kernel
theorem dX11_body_32 : decode cX11_body 32 = .ok (.iload_n 1, 1) := by decide +kernel
theorem dX11_body_33 : decode cX11_body 33 = .ok (.iastore, 1) := by decide +kernel
theorem dX11_body_34 : decode cX11_body 34 = .ok (.aload_n 0, 1) := by decide +kernel
theorem dX11_body_35 : decode cX11_body 35 = .ok (.dup, 1) := by decide +kernel
theorem dX11_body_36 : decode cX11_body 36 = .ok (.getfield 316, 3) := by decide +kernel
theorem dX11_body_39 : decode cX11_body 39 = .ok (.iconst 1, 1) := by decide +kernel
theorem dX11_body_40 : decode cX11_body 40 = .ok (.iadd, 1) := by decide +kernel
theorem dX11_body_41 : decode cX11_body 41 = .ok (.putfield 316, 3) := by decide +kernel
theorem dX11_body_44 : decode cX11_body 44 = .ok (.aload_n 0, 1) := by decide +kernel
theorem dX11_body_45 : decode cX11_body 45 = .ok (.getfield 316, 3) := by decide +kernel
theorem dX11_body_48 : decode cX11_body 48 = .ok (.iconst 1, 1) := by decide +kernel
theorem dX11_body_49 : decode cX11_body 49 = .ok (.isub, 1) := by decide +kernel
theorem dX11_body_50 : decode cX11_body 50 = .ok (.ireturn, 1) := by decide +kernel
theorem dX11_does_0 : decode cX11_does 0 = .ok (.aload_n 0, 1) := by decide +kernel
theorem dX11_does_1 : decode cX11_does 1 = .ok (.aload_n 0, 1) := by decide +kernel
theorem dX11_does_2 : decode cX11_does 2 = .ok (.getfield 106, 3) := by decide +kernel
theorem dX11_does_5 : decode cX11_does 5 = .ok (.iload_n 1, 1) := by decide +kernel
theorem dX11_does_6 : decode cX11_does 6 = .ok (.iaload, 1) := by decide +kernel
theorem dX11_does_7 : decode cX11_does 7 = .ok (.iload_n 1, 1) := by decide +kernel
theorem dX11_does_8 : decode cX11_does 8 = .ok (.iload_n 2, 1) := by decide +kernel
theorem dX11_does_9 : decode cX11_does 9 = .ok (.iload_n 3, 1) := by decide +kernel
theorem dX11_does_10 : decode cX11_does 10 = .ok (.invokevirtual 319, 3) := by decide +kernel
theorem dX11_does_13 : decode cX11_does 13 = .ok (.ireturn, 1) := by decide +kernel
theorem dX11_byKind_0 : decode cX11_byKind 0 = .ok (.iload_n 1, 1) := by decide +kernel
theorem dX11_byKind_1 : decode cX11_byKind 1 = .ok (.istore 5, 2) := by decide +kernel
theorem dX11_byKind_3 : decode cX11_byKind 3 = .ok (.aload_n 0, 1) := by decide +kernel
theorem dX11_byKind_4 : decode cX11_byKind 4 = .ok (.getfield 103, 3) := by decide +kernel
theorem dX11_byKind_7 : decode cX11_byKind 7 = .ok (.iconst 4, 1) := by decide +kernel
theorem dX11_byKind_8 : decode cX11_byKind 8 = .ok (.iload 5, 2) := by decide +kernel
theorem dX11_byKind_10 : decode cX11_byKind 10 = .ok (.imul, 1) := by decide +kernel
theorem dX11_byKind_11 : decode cX11_byKind 11 = .ok (.iload_n 3, 1) := by decide +kernel
theorem dX11_byKind_12 : decode cX11_byKind 12 = .ok (.iadd, 1) := by decide +kernel
theorem dX11_byKind_13 : decode cX11_byKind 13 = .ok (.iaload, 1) := by decide +kernel
theorem dX11_byKind_14 : decode cX11_byKind 14 = .ok (.ifCond .ne 15, 3) := by decide +kernel
theorem dX11_byKind_17 : decode cX11_byKind 17 = .ok (.aload_n 0, 1) := by decide +kernel
theorem dX11_byKind_18 : decode cX11_byKind 18 = .ok (.getfield 100, 3) := by decide +kernel
theorem dX11_byKind_21 : decode cX11_byKind 21 = .ok (.iload 5, 2) := by decide +kernel
theorem dX11_byKind_23 : decode cX11_byKind 23 = .ok (.iaload, 1) := by decide +kernel
theorem dX11_byKind_24 : decode cX11_byKind 24 = .ok (.istore 5, 2) := by decide +kernel
theorem dX11_byKind_26 : decode cX11_byKind 26 = .ok (.goto (-23), 3) := by decide +kernel
theorem dX11_byKind_29 : decode cX11_byKind 29 = .ok (.aload_n 0, 1) := by decide +kernel
theorem dX11_byKind_30 : decode cX11_byKind 30 = .ok (.getfield 100, 3) := by decide +kernel
theorem dX11_byKind_33 : decode cX11_byKind 33 = .ok (.iload 5, 2) := by decide +kernel
theorem dX11_byKind_35 : decode cX11_byKind 35 = .ok (.iaload, 1) := by decide +kernel
theorem dX11_byKind_36 : decode cX11_byKind 36 = .ok (.istore 6, 2) := by decide +kernel
theorem dX11_byKind_38 : decode cX11_byKind 38 = .ok (.aload_n 0, 1) := by decide +kernel
theorem dX11_byKind_39 : decode cX11_byKind 39 = .ok (.getfield 103, 3) := by decide +kernel
theorem dX11_byKind_42 : decode cX11_byKind 42 = .ok (.iconst 4, 1) := by decide +kernel
theorem dX11_byKind_43 : decode cX11_byKind 43 = .ok (.iload 5, 2) := by decide +kernel
theorem dX11_byKind_45 : decode cX11_byKind 45 = .ok (.imul, 1) := by decide +kernel
theorem dX11_byKind_46 : decode cX11_byKind 46 = .ok (.iload_n 3, 1) := by decide +kernel
theorem dX11_byKind_47 : decode cX11_byKind 47 = .ok (.iadd, 1) := by decide +kernel
theorem dX11_byKind_48 : decode cX11_byKind 48 = .ok (.iaload, 1) := by decide +kernel
theorem dX11_byKind_49 : decode cX11_byKind 49 = .ok (.istore 7, 2) := by decide +kernel
theorem dX11_byKind_51 : decode cX11_byKind 51 = .ok (.aload_n 0, 1) := by decide +kernel
theorem dX11_byKind_52 : decode cX11_byKind 52 = .ok (.getfield 323, 3) := by decide +kernel
theorem dX11_byKind_55 : decode cX11_byKind 55 = .ok (.bipush 24, 2) := by decide +kernel
theorem dX11_byKind_57 : decode cX11_byKind 57 = .ok (.if_icmp .ge 14, 3) := by decide +kernel
theorem dX11_byKind_60 : decode cX11_byKind 60 = .ok (.aload_n 0, 1) := by decide +kernel
theorem dX11_byKind_61 : decode cX11_byKind 61 = .ok (.getfield 109, 3) := by decide +kernel
theorem dX11_byKind_64 : decode cX11_byKind 64 = .ok (.aload_n 0, 1) := by decide +kernel
theorem dX11_byKind_65 : decode cX11_byKind 65 = .ok (.getfield 323, 3) := by decide +kernel
theorem dX11_byKind_68 : decode cX11_byKind 68 = .ok (.iload 7, 2) := by decide +kernel
theorem dX11_byKind_70 : decode cX11_byKind 70 = .ok (.iastore, 1) := by decide +kernel
theorem dX11_byKind_71 : decode cX11_byKind 71 = .ok (.aload_n 0, 1) := by decide +kernel
theorem dX11_byKind_72 : decode cX11_byKind 72 = .ok (.dup, 1) := by decide +kernel
theorem dX11_byKind_73 : decode cX11_byKind 73 = .ok (.getfield 323, 3) := by decide +kernel
theorem dX11_byKind_76 : decode cX11_byKind 76 = .ok (.iconst 1, 1) := by decide +kernel
theorem dX11_byKind_77 : decode cX11_byKind 77 = .ok (.iadd, 1) := by decide +kernel
theorem dX11_byKind_78 : decode cX11_byKind 78 = .ok (.putfield 323, 3) := by decide +kernel
theorem dX11_byKind_81 : decode cX11_byKind 81 = .ok (.iload 7, 2) := by decide +kernel
theorem dX11_byKind_83 : decode cX11_byKind 83 = .ok (.lookupswitch 258 #[(1, 105), (2, 110), (10, 127), (11, 138), (20, 143), (30, 156), (40, 168), (41, 181), (50, 194), (60, 213), (70, 226), (80, 239)], 105) := by decide +kernel
theorem dX11_byKind_188 : decode cX11_byKind 188 = .ok (.iload 4, 2) := by decide +kernel
theorem dX11_byKind_190 : decode cX11_byKind 190 = .ok (.iload_n 2, 1) := by decide +kernel
theorem dX11_byKind_191 : decode cX11_byKind 191 = .ok (.iadd, 1) := by decide +kernel
theorem dX11_byKind_192 : decode cX11_byKind 192 = .ok (.ireturn, 1) := by decide +kernel
theorem dX11_byKind_193 : decode cX11_byKind 193 = .ok (.aload_n 0, 1) := by decide +kernel
theorem dX11_byKind_194 : decode cX11_byKind 194 = .ok (.iload_n 2, 1) := by decide +kernel
theorem dX11_byKind_195 : decode cX11_byKind 195 = .ok (.iconst 1, 1) := by decide +kernel
theorem dX11_byKind_196 : decode cX11_byKind 196 = .ok (.iload 4, 2) := by decide +kernel
theorem dX11_byKind_198 : decode cX11_byKind 198 = .ok (.invokevirtual 326, 3) := by decide +kernel
theorem dX11_byKind_201 : decode cX11_byKind 201 = .ok (.aload_n 0, 1) := by decide +kernel
theorem dX11_byKind_202 : decode cX11_byKind 202 = .ok (.iload_n 2, 1) := by decide +kernel
theorem dX11_byKind_203 : decode cX11_byKind 203 = .ok (.iconst 2, 1) := by decide +kernel
theorem dX11_byKind_204 : decode cX11_byKind 204 = .ok (.iconst 1, 1) := by decide +kernel
theorem dX11_byKind_205 : decode cX11_byKind 205 = .ok (.invokevirtual 326, 3) := by decide +kernel
theorem dX11_byKind_208 : decode cX11_byKind 208 = .ok (.isub, 1) := by decide +kernel
theorem dX11_byKind_209 : decode cX11_byKind 209 = .ok (.ireturn, 1) := by decide +kernel
theorem dX11_byKind_210 : decode cX11_byKind 210 = .ok (.aload_n 0, 1) := by decide +kernel
theorem dX11_byKind_211 : decode cX11_byKind 211 = .ok (.iload_n 2, 1) := by decide +kernel
theorem dX11_byKind_212 : decode cX11_byKind 212 = .ok (.iconst 0, 1) := by decide +kernel
theorem dX11_byKind_213 : decode cX11_byKind 213 = .ok (.iload 4, 2) := by decide +kernel
theorem dX11_byKind_215 : decode cX11_byKind 215 = .ok (.invokevirtual 326, 3) := by decide +kernel
theorem dX11_byKind_218 : decode cX11_byKind 218 = .ok (.iconst 2, 1) := by decide +kernel
theorem dX11_byKind_219 : decode cX11_byKind 219 = .ok (.imul, 1) := by decide +kernel
theorem dX11_byKind_220 : decode cX11_byKind 220 = .ok (.ireturn, 1) := by decide +kernel
theorem dX11_byKind_221 : decode cX11_byKind 221 = .ok (.iload 4, 2) := by decide +kernel
theorem dX11_byKind_223 : decode cX11_byKind 223 = .ok (.iload_n 2, 1) := by decide +kernel
theorem dX11_byKind_224 : decode cX11_byKind 224 = .ok (.ixor, 1) := by decide +kernel
theorem dX11_byKind_225 : decode cX11_byKind 225 = .ok (.ireturn, 1) := by decide +kernel
theorem dX11_byKind_226 : decode cX11_byKind 226 = .ok (.aload_n 0, 1) := by decide +kernel
theorem dX11_byKind_227 : decode cX11_byKind 227 = .ok (.iload 6, 2) := by decide +kernel
theorem dX11_byKind_229 : decode cX11_byKind 229 = .ok (.iload_n 2, 1) := by decide +kernel
theorem dX11_byKind_230 : decode cX11_byKind 230 = .ok (.iconst 0, 1) := by decide +kernel
theorem dX11_byKind_231 : decode cX11_byKind 231 = .ok (.iload 4, 2) := by decide +kernel
theorem dX11_byKind_233 : decode cX11_byKind 233 = .ok (.invokevirtual 319, 3) := by decide +kernel
theorem dX11_byKind_236 : decode cX11_byKind 236 = .ok (.iconst 3, 1) := by decide +kernel
theorem dX11_byKind_237 : decode cX11_byKind 237 = .ok (.iadd, 1) := by decide +kernel
theorem dX11_byKind_238 : decode cX11_byKind 238 = .ok (.ireturn, 1) := by decide +kernel
theorem dX11_byKind_239 : decode cX11_byKind 239 = .ok (.aload_n 0, 1) := by decide +kernel
theorem dX11_byKind_240 : decode cX11_byKind 240 = .ok (.iload 6, 2) := by decide +kernel
theorem dX11_byKind_242 : decode cX11_byKind 242 = .ok (.iload_n 2, 1) := by decide +kernel
theorem dX11_byKind_243 : decode cX11_byKind 243 = .ok (.iconst 1, 1) := by decide +kernel
theorem dX11_byKind_244 : decode cX11_byKind 244 = .ok (.iload 4, 2) := by decide +kernel
theorem dX11_byKind_246 : decode cX11_byKind 246 = .ok (.invokevirtual 319, 3) := by decide +kernel
theorem dX11_byKind_249 : decode cX11_byKind 249 = .ok (.ineg, 1) := by decide +kernel
theorem dX11_byKind_250 : decode cX11_byKind 250 = .ok (.ireturn, 1) := by decide +kernel
theorem dX11_byKind_251 : decode cX11_byKind 251 = .ok (.aload_n 0, 1) := by decide +kernel
theorem dX11_byKind_252 : decode cX11_byKind 252 = .ok (.iload 6, 2) := by decide +kernel
theorem dX11_byKind_254 : decode cX11_byKind 254 = .ok (.iload_n 2, 1) := by decide +kernel
theorem dX11_byKind_255 : decode cX11_byKind 255 = .ok (.iconst 2, 1) := by decide +kernel
theorem dX11_byKind_256 : decode cX11_byKind 256 = .ok (.iload 4, 2) := by decide +kernel
theorem dX11_byKind_258 : decode cX11_byKind 258 = .ok (.invokevirtual 319, 3) := by decide +kernel
theorem dX11_byKind_261 : decode cX11_byKind 261 = .ok (.iconst 3, 1) := by decide +kernel
theorem dX11_byKind_262 : decode cX11_byKind 262 = .ok (.imul, 1) := by decide +kernel
theorem dX11_byKind_263 : decode cX11_byKind 263 = .ok (.ireturn, 1) := by decide +kernel
theorem dX11_byKind_264 : decode cX11_byKind 264 = .ok (.aload_n 0, 1) := by decide +kernel
theorem dX11_byKind_265 : decode cX11_byKind 265 = .ok (.iload 6, 2) := by decide +kernel
theorem dX11_byKind_267 : decode cX11_byKind 267 = .ok (.iload_n 2, 1) := by decide +kernel
theorem dX11_byKind_268 : decode cX11_byKind 268 = .ok (.iconst 1, 1) := by decide +kernel
theorem dX11_byKind_269 : decode cX11_byKind 269 = .ok (.iload 4, 2) := by decide +kernel
theorem dX11_byKind_271 : decode cX11_byKind 271 = .ok (.iconst 1, 1) := by decide +kernel
theorem dX11_byKind_272 : decode cX11_byKind 272 = .ok (.iadd, 1) := by decide +kernel
theorem dX11_byKind_273 : decode cX11_byKind 273 = .ok (.invokevirtual 319, 3) := by decide +kernel
theorem dX11_byKind_276 : decode cX11_byKind 276 = .ok (.ireturn, 1) := by decide +kernel
theorem dX11_byKind_277 : decode cX11_byKind 277 = .ok (.aload_n 0, 1) := by decide +kernel
theorem dX11_byKind_278 : decode cX11_byKind 278 = .ok (.iload 6, 2) := by decide +kernel
theorem dX11_byKind_280 : decode cX11_byKind 280 = .ok (.iload_n 2, 1) := by decide +kernel
theorem dX11_byKind_281 : decode cX11_byKind 281 = .ok (.iconst 2, 1) := by decide +kernel
theorem dX11_byKind_282 : decode cX11_byKind 282 = .ok (.iload 4, 2) := by decide +kernel
theorem dX11_byKind_284 : decode cX11_byKind 284 = .ok (.invokevirtual 319, 3) := by decide +kernel
theorem dX11_byKind_287 : decode cX11_byKind 287 = .ok (.aload_n 0, 1) := by decide +kernel
theorem dX11_byKind_288 : decode cX11_byKind 288 = .ok (.iload_n 2, 1) := by decide +kernel
theorem dX11_byKind_289 : decode cX11_byKind 289 = .ok (.iconst 0, 1) := by decide +kernel
theorem dX11_byKind_290 : decode cX11_byKind 290 = .ok (.iconst 2, 1) := by decide +kernel
theorem dX11_byKind_291 : decode cX11_byKind 291 = .ok (.invokevirtual 326, 3) := by decide +kernel
theorem dX11_byKind_294 : decode cX11_byKind 294 = .ok (.isub, 1) := by decide +kernel
theorem dX11_byKind_295 : decode cX11_byKind 295 = .ok (.ireturn, 1) := by decide +kernel
theorem dX11_byKind_296 : decode cX11_byKind 296 = .ok (.aload_n 0, 1) := by decide +kernel
theorem dX11_byKind_297 : decode cX11_byKind 297 = .ok (.iload 6, 2) := by decide +kernel
theorem dX11_byKind_299 : decode cX11_byKind 299 = .ok (.iload_n 2, 1) := by decide +kernel
theorem dX11_byKind_300 : decode cX11_byKind 300 = .ok (.iconst 3, 1) := by decide +kernel
theorem dX11_byKind_301 : decode cX11_byKind 301 = .ok (.iload 4, 2) := by decide +kernel
theorem dX11_byKind_303 : decode cX11_byKind 303 = .ok (.invokevirtual 319, 3) := by decide +kernel
theorem dX11_byKind_306 : decode cX11_byKind 306 = .ok (.iconst 5, 1) := by decide +kernel
theorem dX11_byKind_307 : decode cX11_byKind 307 = .ok (.ixor, 1) := by decide +kernel
theorem dX11_byKind_308 : decode cX11_byKind 308 = .ok (.ireturn, 1) := by decide +kernel
theorem dX11_byKind_309 : decode cX11_byKind 309 = .ok (.aload_n 0, 1) := by decide +kernel
theorem dX11_byKind_310 : decode cX11_byKind 310 = .ok (.iload 6, 2) := by decide +kernel
theorem dX11_byKind_312 : decode cX11_byKind 312 = .ok (.iload_n 2, 1) := by decide +kernel
theorem dX11_byKind_313 : decode cX11_byKind 313 = .ok (.iconst 0, 1) := by decide +kernel
theorem dX11_byKind_314 : decode cX11_byKind 314 = .ok (.iload 4, 2) := by decide +kernel
theorem dX11_byKind_316 : decode cX11_byKind 316 = .ok (.invokevirtual 319, 3) := by decide +kernel
theorem dX11_byKind_319 : decode cX11_byKind 319 = .ok (.iconst 2, 1) := by decide +kernel
theorem dX11_byKind_320 : decode cX11_byKind 320 = .ok (.imul, 1) := by decide +kernel
theorem dX11_byKind_321 : decode cX11_byKind 321 = .ok (.ireturn, 1) := by decide +kernel
theorem dX11_byKind_322 : decode cX11_byKind 322 = .ok (.aload_n 0, 1) := by decide +kernel
theorem dX11_byKind_323 : decode cX11_byKind 323 = .ok (.iload 6, 2) := by decide +kernel
theorem dX11_byKind_325 : decode cX11_byKind 325 = .ok (.iload_n 2, 1) := by decide +kernel
theorem dX11_byKind_326 : decode cX11_byKind 326 = .ok (.iconst 1, 1) := by decide +kernel
theorem dX11_byKind_327 : decode cX11_byKind 327 = .ok (.iload 4, 2) := by decide +kernel
theorem dX11_byKind_329 : decode cX11_byKind 329 = .ok (.invokevirtual 319, 3) := by decide +kernel
theorem dX11_byKind_332 : decode cX11_byKind 332 = .ok (.aload_n 0, 1) := by decide +kernel
theorem dX11_byKind_333 : decode cX11_byKind 333 = .ok (.iload_n 2, 1) := by decide +kernel
theorem dX11_byKind_334 : decode cX11_byKind 334 = .ok (.iconst 2, 1) := by decide +kernel
theorem dX11_byKind_335 : decode cX11_byKind 335 = .ok (.iconst 2, 1) := by decide +kernel
theorem dX11_byKind_336 : decode cX11_byKind 336 = .ok (.invokevirtual 326, 3) := by decide +kernel
theorem dX11_byKind_339 : decode cX11_byKind 339 = .ok (.iadd, 1) := by decide +kernel
theorem dX11_byKind_340 : decode cX11_byKind 340 = .ok (.ireturn, 1) := by decide +kernel
theorem dX11_byKind_341 : decode cX11_byKind 341 = .ok (.aload_n 0, 1) := by decide +kernel
theorem dX11_byKind_342 : decode cX11_byKind 342 = .ok (.iload 6, 2) := by decide +kernel
theorem dX11_byKind_344 : decode cX11_byKind 344 = .ok (.iload_n 2, 1) := by decide +kernel
theorem dX11_byKind_345 : decode cX11_byKind 345 = .ok (.iconst 3, 1) := by decide +kernel
theorem dX11_byKind_346 : decode cX11_byKind 346 = .ok (.iload 4, 2) := by decide +kernel
theorem dX11_byKind_348 : decode cX11_byKind 348 = .ok (.invokevirtual 319, 3) := by decide +kernel
theorem dX11_byKind_351 : decode cX11_byKind 351 = .ok (.iconst 1, 1) := by decide +kernel
theorem dX11_byKind_352 : decode cX11_byKind 352 = .ok (.isub, 1) := by decide +kernel
theorem dX11_byKind_353 : decode cX11_byKind 353 = .ok (.ireturn, 1) := by decide +kernel
theorem dX11_act_0 : decode cX11_act 0 = .ok (.aload_n 0, 1) := by decide +kernel
theorem dX11_act_1 : decode cX11_act 1 = .ok (.iconst 0, 1) := by decide +kernel
theorem dX11_act_2 : decode cX11_act 2 = .ok (.putfield 323, 3) := by decide +kernel
theorem dX11_act_5 : decode cX11_act 5 = .ok (.iload_n 1, 1) := by decide +kernel
theorem dX11_act_6 : decode cX11_act 6 = .ok (.iconst 0, 1) := by decide +kernel
theorem dX11_act_7 : decode cX11_act 7 = .ok (.aload_n 0, 1) := by decide +kernel
theorem dX11_act_8 : decode cX11_act 8 = .ok (.getfield 316, 3) := by decide +kernel
theorem dX11_act_11 : decode cX11_act 11 = .ok (.iconst 1, 1) := by decide +kernel
theorem dX11_act_12 : decode cX11_act 12 = .ok (.isub, 1) := by decide +kernel
theorem dX11_act_13 : decode cX11_act 13 = .ok (.invokestatic 125, 3) := by decide +kernel
theorem dX11_act_16 : decode cX11_act 16 = .ok (.ifCond .eq 22, 3) := by decide +kernel
theorem dX11_act_19 : decode cX11_act 19 = .ok (.iload_n 2, 1) := by decide +kernel
theorem dX11_act_20 : decode cX11_act 20 = .ok (.iconst 0, 1) := by decide +kernel
theorem dX11_act_21 : decode cX11_act 21 = .ok (.iconst 3, 1) := by decide +kernel
theorem dX11_act_22 : decode cX11_act 22 = .ok (.invokestatic 125, 3) := by decide +kernel
theorem dX11_act_25 : decode cX11_act 25 = .ok (.ifCond .eq 13, 3) := by decide +kernel
theorem dX11_act_28 : decode cX11_act 28 = .ok (.aload_n 0, 1) := by decide +kernel
theorem dX11_act_29 : decode cX11_act 29 = .ok (.iload_n 1, 1) := by decide +kernel
theorem dX11_act_30 : decode cX11_act 30 = .ok (.iload_n 2, 1) := by decide +kernel
theorem dX11_act_31 : decode cX11_act 31 = .ok (.iload_n 3, 1) := by decide +kernel
theorem dX11_act_32 : decode cX11_act 32 = .ok (.invokevirtual 326, 3) := by decide +kernel
theorem dX11_act_35 : decode cX11_act 35 = .ok (.goto 4, 3) := by decide +kernel
theorem dX11_act_38 : decode cX11_act 38 = .ok (.iconst 0, 1) := by decide +kernel
theorem dX11_act_39 : decode cX11_act 39 = .ok (.ireturn, 1) := by decide +kernel
theorem dX11_trace_0 : decode cX11_trace 0 = .ok (.iload_n 1, 1) := by decide +kernel
theorem dX11_trace_1 : decode cX11_trace 1 = .ok (.iconst 0, 1) := by decide +kernel
theorem dX11_trace_2 : decode cX11_trace 2 = .ok (.bipush 24, 2) := by decide +kernel
theorem dX11_trace_4 : decode cX11_trace 4 = .ok (.aload_n 0, 1) := by decide +kernel
theorem dX11_trace_5 : decode cX11_trace 5 = .ok (.getfield 323, 3) := by decide +kernel
theorem dX11_trace_8 : decode cX11_trace 8 = .ok (.invokestatic 112, 3) := by decide +kernel
theorem dX11_trace_11 : decode cX11_trace 11 = .ok (.iconst 1, 1) := by decide +kernel
theorem dX11_trace_12 : decode cX11_trace 12 = .ok (.isub, 1) := by decide +kernel
theorem dX11_trace_13 : decode cX11_trace 13 = .ok (.invokestatic 125, 3) := by decide +kernel
theorem dX11_trace_16 : decode cX11_trace 16 = .ok (.ifCond .eq 12, 3) := by decide +kernel
theorem dX11_trace_19 : decode cX11_trace 19 = .ok (.aload_n 0, 1) := by decide +kernel
theorem dX11_trace_20 : decode cX11_trace 20 = .ok (.getfield 109, 3) := by decide +kernel
theorem dX11_trace_23 : decode cX11_trace 23 = .ok (.iload_n 1, 1) := by decide +kernel
theorem dX11_trace_24 : decode cX11_trace 24 = .ok (.iaload, 1) := by decide +kernel
theorem dX11_trace_25 : decode cX11_trace 25 = .ok (.goto 4, 3) := by decide +kernel
theorem dX11_trace_28 : decode cX11_trace 28 = .ok (.iconst (-1), 1) := by decide +kernel
theorem dX11_trace_29 : decode cX11_trace 29 = .ok (.ireturn, 1) := by decide +kernel
theorem dX11_keep_0 : decode cX11_keep 0 = .ok (.iload_n 1, 1) := by decide +kernel
theorem dX11_keep_1 : decode cX11_keep 1 = .ok (.invokestatic 238, 3) := by decide +kernel
theorem dX11_keep_4 : decode cX11_keep 4 = .ok (.ifCond .eq 17, 3) := by decide +kernel
theorem dX11_keep_7 : decode cX11_keep 7 = .ok (.iload_n 2, 1) := by decide +kernel
theorem dX11_keep_8 : decode cX11_keep 8 = .ok (.iconst (-1), 1) := by decide +kernel
theorem dX11_keep_9 : decode cX11_keep 9 = .ok (.aload_n 0, 1) := by decide +kernel
theorem dX11_keep_10 : decode cX11_keep 10 = .ok (.getfield 316, 3) := by decide +kernel
theorem dX11_keep_13 : decode cX11_keep 13 = .ok (.iconst 1, 1) := by decide +kernel
theorem dX11_keep_14 : decode cX11_keep 14 = .ok (.isub, 1) := by decide +kernel
theorem dX11_keep_15 : decode cX11_keep 15 = .ok (.invokestatic 125, 3) := by decide +kernel
theorem dX11_keep_18 : decode cX11_keep 18 = .ok (.ifCond .ne 5, 3) := by decide +kernel
theorem dX11_keep_21 : decode cX11_keep 21 = .ok (.iconst (-1), 1) := by decide +kernel
theorem dX11_keep_22 : decode cX11_keep 22 = .ok (.ireturn, 1) := by decide +kernel
theorem dX11_keep_23 : decode cX11_keep 23 = .ok (.aload_n 0, 1) := by decide +kernel
theorem dX11_keep_24 : decode cX11_keep 24 = .ok (.getfield 54, 3) := by decide +kernel
theorem dX11_keep_27 : decode cX11_keep 27 = .ok (.iload_n 1, 1) := by decide +kernel
theorem dX11_keep_28 : decode cX11_keep 28 = .ok (.iload_n 2, 1) := by decide +kernel
theorem dX11_keep_29 : decode cX11_keep 29 = .ok (.iconst (-1), 1) := by decide +kernel
theorem dX11_keep_30 : decode cX11_keep 30 = .ok (.if_icmp .ne 7, 3) := by decide +kernel
theorem dX11_keep_33 : decode cX11_keep 33 = .ok (.iconst (-1), 1) := by decide +kernel
theorem dX11_keep_34 : decode cX11_keep 34 = .ok (.goto 7, 3) := by decide +kernel
theorem dX11_keep_37 : decode cX11_keep 37 = .ok (.bipush 10, 2) := by decide +kernel
theorem dX11_keep_39 : decode cX11_keep 39 = .ok (.iload_n 2, 1) := by decide +kernel
theorem dX11_keep_40 : decode cX11_keep 40 = .ok (.iadd, 1) := by decide +kernel
theorem dX11_keep_41 : decode cX11_keep 41 = .ok (.iastore, 1) := by decide +kernel
theorem dX11_keep_42 : decode cX11_keep 42 = .ok (.iconst 1, 1) := by decide +kernel
theorem dX11_keep_43 : decode cX11_keep 43 = .ok (.ireturn, 1) := by decide +kernel
theorem dX11_row_0 : decode cX11_row 0 = .ok (.iload_n 1, 1) := by decide +kernel
theorem dX11_row_1 : decode cX11_row 1 = .ok (.invokestatic 238, 3) := by decide +kernel
theorem dX11_row_4 : decode cX11_row 4 = .ok (.ifCond .eq 18, 3) := by decide +kernel
theorem dX11_row_7 : decode cX11_row 7 = .ok (.iload_n 2, 1) := by decide +kernel
theorem dX11_row_8 : decode cX11_row 8 = .ok (.iconst 0, 1) := by decide +kernel
theorem dX11_row_9 : decode cX11_row 9 = .ok (.iconst 4, 1) := by decide +kernel
theorem dX11_row_10 : decode cX11_row 10 = .ok (.invokestatic 125, 3) := by decide +kernel
theorem dX11_row_13 : decode cX11_row 13 = .ok (.ifCond .eq 9, 3) := by decide +kernel
theorem dX11_row_16 : decode cX11_row 16 = .ok (.iload_n 3, 1) := by decide +kernel
theorem dX11_row_17 : decode cX11_row 17 = .ok (.bipush 60, 2) := by decide +kernel
theorem dX11_row_19 : decode cX11_row 19 = .ok (.if_icmp .le 5, 3) := by decide +kernel
theorem dX11_row_22 : decode cX11_row 22 = .ok (.iconst (-1), 1) := by decide +kernel
theorem dX11_row_23 : decode cX11_row 23 = .ok (.ireturn, 1) := by decide +kernel
theorem dX11_row_24 : decode cX11_row 24 = .ok (.iload_n 3, 1) := by decide +kernel
theorem dX11_row_25 : decode cX11_row 25 = .ok (.ifCond .ge 6, 3) := by decide +kernel
theorem dX11_row_28 : decode cX11_row 28 = .ok (.bipush (-14), 2) := by decide +kernel
theorem dX11_row_30 : decode cX11_row 30 = .ok (.ireturn, 1) := by decide +kernel
theorem dX11_row_31 : decode cX11_row 31 = .ok (.aload_n 0, 1) := by decide +kernel
theorem dX11_row_32 : decode cX11_row 32 = .ok (.getfield 54, 3) := by decide +kernel
theorem dX11_row_35 : decode cX11_row 35 = .ok (.iload_n 1, 1) := by decide +kernel
theorem dX11_row_36 : decode cX11_row 36 = .ok (.iload_n 2, 1) := by decide +kernel
theorem dX11_row_37 : decode cX11_row 37 = .ok (.iastore, 1) := by decide +kernel
theorem dX11_row_38 : decode cX11_row 38 = .ok (.aload_n 0, 1) := by decide +kernel
theorem dX11_row_39 : decode cX11_row 39 = .ok (.getfield 57, 3) := by decide +kernel
theorem dX11_row_42 : decode cX11_row 42 = .ok (.iload_n 1, 1) := by decide +kernel
theorem dX11_row_43 : decode cX11_row 43 = .ok (.iload_n 3, 1) := by decide +kernel
theorem dX11_row_44 : decode cX11_row 44 = .ok (.iastore, 1) := by decide +kernel
theorem dX11_row_45 : decode cX11_row 45 = .ok (.iconst 0, 1) := by decide +kernel
theorem dX11_row_46 : decode cX11_row 46 = .ok (.istore 4, 2) := by decide +kernel
theorem dX11_row_48 : decode cX11_row 48 = .ok (.iload 4, 2) := by decide +kernel
theorem dX11_row_50 : decode cX11_row 50 = .ok (.bipush 60, 2) := by decide +kernel
theorem dX11_row_52 : decode cX11_row 52 = .ok (.if_icmp .ge 22, 3) := by decide +kernel
theorem dX11_row_55 : decode cX11_row 55 = .ok (.aload_n 0, 1) := by decide +kernel
theorem dX11_row_56 : decode cX11_row 56 = .ok (.getfield 60, 3) := by decide +kernel
theorem dX11_row_59 : decode cX11_row 59 = .ok (.bipush 60, 2) := by decide +kernel
theorem dX11_row_61 : decode cX11_row 61 = .ok (.iload_n 1, 1) := by decide +kernel
theorem dX11_row_62 : decode cX11_row 62 = .ok (.imul, 1) := by decide +kernel
theorem dX11_row_63 : decode cX11_row 63 = .ok (.iload 4, 2) := by decide +kernel
theorem dX11_row_65 : decode cX11_row 65 = .ok (.iadd, 1) := by decide +kernel
theorem dX11_row_66 : decode cX11_row 66 = .ok (.lconst 0, 1) := by decide +kernel
theorem dX11_row_67 : decode cX11_row 67 = .ok (.lastore, 1) := by decide +kernel
theorem dX11_row_68 : decode cX11_row 68 = .ok (.iinc 4 1, 3) := by decide +kernel
theorem dX11_row_71 : decode cX11_row 71 = .ok (.goto (-23), 3) := by decide +kernel
theorem dX11_row_74 : decode cX11_row 74 = .ok (.iconst 1, 1) := by decide +kernel
theorem dX11_row_75 : decode cX11_row 75 = .ok (.ireturn, 1) := by decide +kernel
theorem dX11_rowAt_0 : decode cX11_rowAt 0 = .ok (.iload_n 1, 1) := by decide +kernel
theorem dX11_rowAt_1 : decode cX11_rowAt 1 = .ok (.invokestatic 238, 3) := by decide +kernel
theorem dX11_rowAt_4 : decode cX11_rowAt 4 = .ok (.ifCond .ne 7, 3) := by decide +kernel
theorem dX11_rowAt_7 : decode cX11_rowAt 7 = .ok (.iconst (-1), 1) := by decide +kernel
theorem dX11_rowAt_8 : decode cX11_rowAt 8 = .ok (.goto 55, 3) := by decide +kernel
theorem dX11_rowAt_11 : decode cX11_rowAt 11 = .ok (.aload_n 0, 1) := by decide +kernel
theorem dX11_rowAt_12 : decode cX11_rowAt 12 = .ok (.getfield 54, 3) := by decide +kernel
theorem dX11_rowAt_15 : decode cX11_rowAt 15 = .ok (.iload_n 1, 1) := by decide +kernel
theorem dX11_rowAt_16 : decode cX11_rowAt 16 = .ok (.iaload, 1) := by decide +kernel
theorem dX11_rowAt_17 : decode cX11_rowAt 17 = .ok (.iconst (-1), 1) := by decide +kernel
theorem dX11_rowAt_18 : decode cX11_rowAt 18 = .ok (.if_icmp .ne 8, 3) := by decide +kernel
theorem dX11_rowAt_21 : decode cX11_rowAt 21 = .ok (.bipush (-11), 2) := by decide +kernel
theorem dX11_rowAt_23 : decode cX11_rowAt 23 = .ok (.goto 40, 3) := by decide +kernel
theorem dX11_rowAt_26 : decode cX11_rowAt 26 = .ok (.aload_n 0, 1) := by decide +kernel
theorem dX11_rowAt_27 : decode cX11_rowAt 27 = .ok (.getfield 54, 3) := by decide +kernel
theorem dX11_rowAt_30 : decode cX11_rowAt 30 = .ok (.iload_n 1, 1) := by decide +kernel
theorem dX11_rowAt_31 : decode cX11_rowAt 31 = .ok (.iaload, 1) := by decide +kernel
theorem dX11_rowAt_32 : decode cX11_rowAt 32 = .ok (.iconst 4, 1) := by decide +kernel
theorem dX11_rowAt_33 : decode cX11_rowAt 33 = .ok (.if_icmp .le 8, 3) := by decide +kernel
theorem dX11_rowAt_36 : decode cX11_rowAt 36 = .ok (.bipush (-12), 2) := by decide +kernel
theorem dX11_rowAt_38 : decode cX11_rowAt 38 = .ok (.goto 25, 3) := by decide +kernel
theorem dX11_rowAt_41 : decode cX11_rowAt 41 = .ok (.iload_n 2, 1) := by decide +kernel
theorem dX11_rowAt_42 : decode cX11_rowAt 42 = .ok (.iconst 0, 1) := by decide +kernel
theorem dX11_rowAt_43 : decode cX11_rowAt 43 = .ok (.aload_n 0, 1) := by decide +kernel
theorem dX11_rowAt_44 : decode cX11_rowAt 44 = .ok (.getfield 57, 3) := by decide +kernel
theorem dX11_rowAt_47 : decode cX11_rowAt 47 = .ok (.iload_n 1, 1) := by decide +kernel
theorem dX11_rowAt_48 : decode cX11_rowAt 48 = .ok (.iaload, 1) := by decide +kernel
theorem dX11_rowAt_49 : decode cX11_rowAt 49 = .ok (.iconst 1, 1) := by decide +kernel
theorem dX11_rowAt_50 : decode cX11_rowAt 50 = .ok (.isub, 1) := by decide +kernel
theorem dX11_rowAt_51 : decode cX11_rowAt 51 = .ok (.invokestatic 125, 3) := by decide +kernel
theorem dX11_rowAt_54 : decode cX11_rowAt 54 = .ok (.ifCond .ne 8, 3) := by decide +kernel
theorem dX11_rowAt_57 : decode cX11_rowAt 57 = .ok (.bipush (-13), 2) := by decide +kernel
theorem dX11_rowAt_59 : decode cX11_rowAt 59 = .ok (.goto 4, 3) := by decide +kernel
theorem dX11_rowAt_62 : decode cX11_rowAt 62 = .ok (.iconst 1, 1) := by decide +kernel
theorem dX11_rowAt_63 : decode cX11_rowAt 63 = .ok (.ireturn, 1) := by decide +kernel
theorem dX11_put_0 : decode cX11_put 0 = .ok (.aload_n 0, 1) := by decide +kernel
theorem dX11_put_1 : decode cX11_put 1 = .ok (.iload_n 1, 1) := by decide +kernel
theorem dX11_put_2 : decode cX11_put 2 = .ok (.iload_n 2, 1) := by decide +kernel
theorem dX11_put_3 : decode cX11_put 3 = .ok (.invokevirtual 329, 3) := by decide +kernel
theorem dX11_put_6 : decode cX11_put 6 = .ok (.istore 5, 2) := by decide +kernel
theorem dX11_put_8 : decode cX11_put 8 = .ok (.iload 5, 2) := by decide +kernel
theorem dX11_put_10 : decode cX11_put 10 = .ok (.iconst 1, 1) := by decide +kernel
theorem dX11_put_11 : decode cX11_put 11 = .ok (.if_icmp .ge 6, 3) := by decide +kernel
theorem dX11_put_14 : decode cX11_put 14 = .ok (.iload 5, 2) := by decide +kernel
theorem dX11_put_16 : decode cX11_put 16 = .ok (.ireturn, 1) := by decide +kernel
theorem dX11_put_17 : decode cX11_put 17 = .ok (.aload_n 0, 1) := by decide +kernel
theorem dX11_put_18 : decode cX11_put 18 = .ok (.getfield 54, 3) := by decide +kernel
theorem dX11_put_21 : decode cX11_put 21 = .ok (.iload_n 1, 1) := by decide +kernel
theorem dX11_put_22 : decode cX11_put 22 = .ok (.iaload, 1) := by decide +kernel
theorem dX11_put_23 : decode cX11_put 23 = .ok (.istore 6, 2) := by decide +kernel
theorem dX11_put_25 : decode cX11_put 25 = .ok (.aload_n 0, 1) := by decide +kernel
theorem dX11_put_26 : decode cX11_put 26 = .ok (.getfield 60, 3) := by decide +kernel
theorem dX11_put_29 : decode cX11_put 29 = .ok (.bipush 60, 2) := by decide +kernel
theorem dX11_put_31 : decode cX11_put 31 = .ok (.iload_n 1, 1) := by decide +kernel
theorem dX11_put_32 : decode cX11_put 32 = .ok (.imul, 1) := by decide +kernel
theorem dX11_put_33 : decode cX11_put 33 = .ok (.iload_n 2, 1) := by decide +kernel
theorem dX11_put_34 : decode cX11_put 34 = .ok (.iadd, 1) := by decide +kernel
theorem dX11_put_35 : decode cX11_put 35 = .ok (.iload 6, 2) := by decide +kernel
theorem dX11_put_37 : decode cX11_put 37 = .ok (.ifCond .ne 10, 3) := by decide +kernel
theorem dX11_put_40 : decode cX11_put 40 = .ok (.lload_n 3, 1) := by decide +kernel
theorem dX11_put_41 : decode cX11_put 41 = .ok (.l2i, 1) := by decide +kernel
theorem dX11_put_42 : decode cX11_put 42 = .ok (.i2b, 1) := by decide +kernel
theorem dX11_put_43 : decode cX11_put 43 = .ok (.i2l, 1) := by decide +kernel
theorem dX11_put_44 : decode cX11_put 44 = .ok (.goto 49, 3) := by decide +kernel
theorem dX11_put_47 : decode cX11_put 47 = .ok (.iload 6, 2) := by decide +kernel
theorem dX11_put_49 : decode cX11_put 49 = .ok (.iconst 1, 1) := by decide +kernel
theorem dX11_put_50 : decode cX11_put 50 = .ok (.if_icmp .ne 10, 3) := by decide +kernel
theorem dX11_put_53 : decode cX11_put 53 = .ok (.lload_n 3, 1) := by decide +kernel
theorem dX11_put_54 : decode cX11_put 54 = .ok (.l2i, 1) := by decide +kernel
theorem dX11_put_55 : decode cX11_put 55 = .ok (.i2s, 1) := by decide +kernel
theorem dX11_put_56 : decode cX11_put 56 = .ok (.i2l, 1) := by decide +kernel
theorem dX11_put_57 : decode cX11_put 57 = .ok (.goto 36, 3) := by decide +kernel
theorem dX11_put_60 : decode cX11_put 60 = .ok (.iload 6, 2) := by decide +kernel
theorem dX11_put_62 : decode cX11_put 62 = .ok (.iconst 2, 1) := by decide +kernel
theorem dX11_put_63 : decode cX11_put 63 = .ok (.if_icmp .ne 9, 3) := by decide +kernel
theorem dX11_put_66 : decode cX11_put 66 = .ok (.lload_n 3, 1) := by decide +kernel
theorem dX11_put_67 : decode cX11_put 67 = .ok (.l2i, 1) := by decide +kernel
theorem dX11_put_68 : decode cX11_put 68 = .ok (.i2l, 1) := by decide +kernel
theorem dX11_put_69 : decode cX11_put 69 = .ok (.goto 24, 3) := by decide +kernel
theorem dX11_put_72 : decode cX11_put 72 = .ok (.iload 6, 2) := by decide +kernel
theorem dX11_put_74 : decode cX11_put 74 = .ok (.iconst 3, 1) := by decide +kernel
theorem dX11_put_75 : decode cX11_put 75 = .ok (.if_icmp .ne 7, 3) := by decide +kernel
theorem dX11_put_78 : decode cX11_put 78 = .ok (.lload_n 3, 1) := by decide +kernel
theorem dX11_put_79 : decode cX11_put 79 = .ok (.goto 14, 3) := by decide +kernel
theorem dX11_put_82 : decode cX11_put 82 = .ok (.lload_n 3, 1) := by decide +kernel
theorem dX11_put_83 : decode cX11_put 83 = .ok (.lconst 0, 1) := by decide +kernel
theorem dX11_put_84 : decode cX11_put 84 = .ok (.lcmp, 1) := by decide +kernel
theorem dX11_put_85 : decode cX11_put 85 = .ok (.ifCond .eq 7, 3) := by decide +kernel
theorem dX11_put_88 : decode cX11_put 88 = .ok (.lconst 1, 1) := by decide +kernel
theorem dX11_put_89 : decode cX11_put 89 = .ok (.goto 4, 3) := by decide +kernel
theorem dX11_put_92 : decode cX11_put 92 = .ok (.lconst 0, 1) := by decide +kernel
theorem dX11_put_93 : decode cX11_put 93 = .ok (.lastore, 1) := by decide +kernel
theorem dX11_put_94 : decode cX11_put 94 = .ok (.iconst 1, 1) := by decide +kernel
theorem dX11_put_95 : decode cX11_put 95 = .ok (.ireturn, 1) := by decide +kernel
theorem dX11_element_0 : decode cX11_element 0 = .ok (.aload_n 0, 1) := by decide +kernel
theorem dX11_element_1 : decode cX11_element 1 = .ok (.iload_n 1, 1) := by decide +kernel
theorem dX11_element_2 : decode cX11_element 2 = .ok (.iload_n 2, 1) := by decide +kernel
theorem dX11_element_3 : decode cX11_element 3 = .ok (.invokevirtual 329, 3) := by decide +kernel
theorem dX11_element_6 : decode cX11_element 6 = .ok (.iconst 1, 1) := by decide +kernel
theorem dX11_element_7 : decode cX11_element 7 = .ok (.if_icmp .ne 17, 3) := by decide +kernel
theorem dX11_element_10 : decode cX11_element 10 = .ok (.aload_n 0, 1) := by decide +kernel
theorem dX11_element_11 : decode cX11_element 11 = .ok (.getfield 60, 3) := by decide +kernel
theorem dX11_element_14 : decode cX11_element 14 = .ok (.bipush 60, 2) := by decide +kernel
theorem dX11_element_16 : decode cX11_element 16 = .ok (.iload_n 1, 1) := by decide +kernel
theorem dX11_element_17 : decode cX11_element 17 = .ok (.imul, 1) := by decide +kernel
theorem dX11_element_18 : decode cX11_element 18 = .ok (.iload_n 2, 1) := by decide +kernel
theorem dX11_element_19 : decode cX11_element 19 = .ok (.iadd, 1) := by decide +kernel
theorem dX11_element_20 : decode cX11_element 20 = .ok (.laload, 1) := by decide +kernel
theorem dX11_element_21 : decode cX11_element 21 = .ok (.goto 6, 3) := by decide +kernel
theorem dX11_element_24 : decode cX11_element 24 = .ok (.ldc2_w 334, 3) := by decide +kernel
theorem dX11_element_27 : decode cX11_element 27 = .ok (.lreturn, 1) := by decide +kernel
theorem dX11_shift_0 : decode cX11_shift 0 = .ok (.iload_n 1, 1) := by decide +kernel
theorem dX11_shift_1 : decode cX11_shift 1 = .ok (.invokestatic 238, 3) := by decide +kernel
theorem dX11_shift_4 : decode cX11_shift 4 = .ok (.ifCond .eq 10, 3) := by decide +kernel
theorem dX11_shift_7 : decode cX11_shift 7 = .ok (.iload_n 3, 1) := by decide +kernel
theorem dX11_shift_8 : decode cX11_shift 8 = .ok (.invokestatic 238, 3) := by decide +kernel
theorem dX11_shift_11 : decode cX11_shift 11 = .ok (.ifCond .ne 5, 3) := by decide +kernel
theorem dX11_shift_14 : decode cX11_shift 14 = .ok (.iconst (-1), 1) := by decide +kernel
theorem dX11_shift_15 : decode cX11_shift 15 = .ok (.ireturn, 1) := by decide +kernel
theorem dX11_shift_16 : decode cX11_shift 16 = .ok (.aload_n 0, 1) := by decide +kernel
theorem dX11_shift_17 : decode cX11_shift 17 = .ok (.getfield 54, 3) := by decide +kernel
theorem dX11_shift_20 : decode cX11_shift 20 = .ok (.iload_n 1, 1) := by decide +kernel
theorem dX11_shift_21 : decode cX11_shift 21 = .ok (.iaload, 1) := by decide +kernel
theorem dX11_shift_22 : decode cX11_shift 22 = .ok (.iconst (-1), 1) := by decide +kernel
theorem dX11_shift_23 : decode cX11_shift 23 = .ok (.if_icmp .eq 13, 3) := by decide +kernel
theorem dX11_shift_26 : decode cX11_shift 26 = .ok (.aload_n 0, 1) := by decide +kernel
theorem dX11_shift_27 : decode cX11_shift 27 = .ok (.getfield 54, 3) := by decide +kernel
theorem dX11_shift_30 : decode cX11_shift 30 = .ok (.iload_n 3, 1) := by decide +kernel
theorem dX11_shift_31 : decode cX11_shift 31 = .ok (.iaload, 1) := by decide +kernel
theorem dX11_shift_32 : decode cX11_shift 32 = .ok (.iconst (-1), 1) := by decide +kernel
theorem dX11_shift_33 : decode cX11_shift 33 = .ok (.if_icmp .ne 6, 3) := by decide +kernel
theorem dX11_shift_36 : decode cX11_shift 36 = .ok (.bipush (-11), 2) := by decide +kernel
theorem dX11_shift_38 : decode cX11_shift 38 = .ok (.ireturn, 1) := by decide +kernel
theorem dX11_shift_39 : decode cX11_shift 39 = .ok (.aload_n 0, 1) := by decide +kernel
theorem dX11_shift_40 : decode cX11_shift 40 = .ok (.getfield 54, 3) := by decide +kernel
theorem dX11_shift_43 : decode cX11_shift 43 = .ok (.iload_n 1, 1) := by decide +kernel
theorem dX11_shift_44 : decode cX11_shift 44 = .ok (.iaload, 1) := by decide +kernel
theorem dX11_shift_45 : decode cX11_shift 45 = .ok (.iconst 4, 1) := by decide +kernel
theorem dX11_shift_46 : decode cX11_shift 46 = .ok (.if_icmp .gt 18, 3) := by decide +kernel
theorem dX11_shift_49 : decode cX11_shift 49 = .ok (.aload_n 0, 1) := by decide +kernel
theorem dX11_shift_50 : decode cX11_shift 50 = .ok (.getfield 54, 3) := by decide +kernel
theorem dX11_shift_53 : decode cX11_shift 53 = .ok (.iload_n 1, 1) := by decide +kernel
theorem dX11_shift_54 : decode cX11_shift 54 = .ok (.iaload, 1) := by decide +kernel
theorem dX11_shift_55 : decode cX11_shift 55 = .ok (.aload_n 0, 1) := by decide +kernel
theorem dX11_shift_56 : decode cX11_shift 56 = .ok (.getfield 54, 3) := by decide +kernel
theorem dX11_shift_59 : decode cX11_shift 59 = .ok (.iload_n 3, 1) := by decide +kernel
theorem dX11_shift_60 : decode cX11_shift 60 = .ok (.iaload, 1) := by decide +kernel
theorem dX11_shift_61 : decode cX11_shift 61 = .ok (.if_icmp .eq 6, 3) := by decide +kernel
theorem dX11_shift_64 : decode cX11_shift 64 = .ok (.bipush (-12), 2) := by decide +kernel
theorem dX11_shift_66 : decode cX11_shift 66 = .ok (.ireturn, 1) := by decide +kernel
theorem dX11_shift_67 : decode cX11_shift 67 = .ok (.iload 5, 2) := by decide +kernel
theorem dX11_shift_69 : decode cX11_shift 69 = .ok (.ifCond .lt 39, 3) := by decide +kernel
theorem dX11_shift_72 : decode cX11_shift 72 = .ok (.iload_n 2, 1) := by decide +kernel
theorem dX11_shift_73 : decode cX11_shift 73 = .ok (.ifCond .lt 35, 3) := by decide +kernel
theorem dX11_shift_76 : decode cX11_shift 76 = .ok (.iload 4, 2) := by decide +kernel
theorem dX11_shift_78 : decode cX11_shift 78 = .ok (.ifCond .lt 30, 3) := by decide +kernel
theorem dX11_shift_81 : decode cX11_shift 81 = .ok (.iload 5, 2) := by decide +kernel
theorem dX11_shift_83 : decode cX11_shift 83 = .ok (.aload_n 0, 1) := by decide +kernel
theorem dX11_shift_84 : decode cX11_shift 84 = .ok (.getfield 57, 3) := by decide +kernel
theorem dX11_shift_87 : decode cX11_shift 87 = .ok (.iload_n 1, 1) := by decide +kernel
theorem dX11_shift_88 : decode cX11_shift 88 = .ok (.iaload, 1) := by decide +kernel
theorem dX11_shift_89 : decode cX11_shift 89 = .ok (.iload_n 2, 1) := by decide +kernel
theorem dX11_shift_90 : decode cX11_shift 90 = .ok (.isub, 1) := by decide +kernel
theorem dX11_shift_91 : decode cX11_shift 91 = .ok (.if_icmp .gt 17, 3) := by decide +kernel
theorem dX11_shift_94 : decode cX11_shift 94 = .ok (.iload 5, 2) := by decide +kernel
theorem dX11_shift_96 : decode cX11_shift 96 = .ok (.aload_n 0, 1) := by decide +kernel
theorem dX11_shift_97 : decode cX11_shift 97 = .ok (.getfield 57, 3) := by decide +kernel
theorem dX11_shift_100 : decode cX11_shift 100 = .ok (.iload_n 3, 1) := by decide +kernel
theorem dX11_shift_101 : decode cX11_shift 101 = .ok (.iaload, 1) := by decide +kernel
theorem dX11_shift_102 : decode cX11_shift 102 = .ok (.iload 4, 2) := by decide +kernel
theorem dX11_shift_104 : decode cX11_shift 104 = .ok (.isub, 1) := by decide +kernel
theorem dX11_shift_105 : decode cX11_shift 105 = .ok (.if_icmp .le 6, 3) := by decide +kernel
theorem dX11_shift_108 : decode cX11_shift 108 = .ok (.bipush (-13), 2) := by decide +kernel
theorem dX11_shift_110 : decode cX11_shift 110 = .ok (.ireturn, 1) := by decide +kernel
theorem dX11_shift_111 : decode cX11_shift 111 = .ok (.iconst 0, 1) := by decide +kernel
theorem dX11_shift_112 : decode cX11_shift 112 = .ok (.istore 6, 2) := by decide +kernel
theorem dX11_shift_114 : decode cX11_shift 114 = .ok (.iload 6, 2) := by decide +kernel
theorem dX11_shift_116 : decode cX11_shift 116 = .ok (.iload 5, 2) := by decide +kernel
theorem dX11_shift_118 : decode cX11_shift 118 = .ok (.if_icmp .ge 30, 3) := by decide +kernel
theorem dX11_shift_121 : decode cX11_shift 121 = .ok (.aload_n 0, 1) := by decide +kernel
theorem dX11_shift_122 : decode cX11_shift 122 = .ok (.getfield 64, 3) := by decide +kernel
theorem dX11_shift_125 : decode cX11_shift 125 = .ok (.iload 6, 2) := by decide +kernel
theorem dX11_shift_127 : decode cX11_shift 127 = .ok (.aload_n 0, 1) := by decide +kernel
theorem dX11_shift_128 : decode cX11_shift 128 = .ok (.getfield 60, 3) := by decide +kernel
theorem dX11_shift_131 : decode cX11_shift 131 = .ok (.bipush 60, 2) := by decide +kernel
theorem dX11_shift_133 : decode cX11_shift 133 = .ok (.iload_n 1, 1) := by decide +kernel
theorem dX11_shift_134 : decode cX11_shift 134 = .ok (.imul, 1) := by decide +kernel
theorem dX11_shift_135 : decode cX11_shift 135 = .ok (.iload_n 2, 1) := by decide +kernel
theorem dX11_shift_136 : decode cX11_shift 136 = .ok (.iadd, 1) := by decide +kernel
theorem dX11_shift_137 : decode cX11_shift 137 = .ok (.iload 6, 2) := by decide +kernel
theorem dX11_shift_139 : decode cX11_shift 139 = .ok (.iadd, 1) := by decide +kernel
theorem dX11_shift_140 : decode cX11_shift 140 = .ok (.laload, 1) := by decide +kernel
theorem dX11_shift_141 : decode cX11_shift 141 = .ok (.lastore, 1) := by decide +kernel
theorem dX11_shift_142 : decode cX11_shift 142 = .ok (.iinc 6 1, 3) := by decide +kernel
theorem dX11_shift_145 : decode cX11_shift 145 = .ok (.goto (-31), 3) := by decide +kernel
theorem dX11_shift_148 : decode cX11_shift 148 = .ok (.iconst 0, 1) := by decide +kernel
theorem dX11_shift_149 : decode cX11_shift 149 = .ok (.istore 6, 2) := by decide +kernel
theorem dX11_shift_151 : decode cX11_shift 151 = .ok (.iload 6, 2) := by decide +kernel
theorem dX11_shift_153 : decode cX11_shift 153 = .ok (.iload 5, 2) := by decide +kernel
theorem dX11_shift_155 : decode cX11_shift 155 = .ok (.if_icmp .ge 31, 3) := by decide +kernel
theorem dX11_shift_158 : decode cX11_shift 158 = .ok (.aload_n 0, 1) := by decide +kernel
theorem dX11_shift_159 : decode cX11_shift 159 = .ok (.getfield 60, 3) := by decide +kernel
theorem dX11_shift_162 : decode cX11_shift 162 = .ok (.bipush 60, 2) := by decide +kernel
theorem dX11_shift_164 : decode cX11_shift 164 = .ok (.iload_n 3, 1) := by decide +kernel
theorem dX11_shift_165 : decode cX11_shift 165 = .ok (.imul, 1) := by decide +kernel
theorem dX11_shift_166 : decode cX11_shift 166 = .ok (.iload 4, 2) := by decide +kernel
theorem dX11_shift_168 : decode cX11_shift 168 = .ok (.iadd, 1) := by decide +kernel
theorem dX11_shift_169 : decode cX11_shift 169 = .ok (.iload 6, 2) := by decide +kernel
theorem dX11_shift_171 : decode cX11_shift 171 = .ok (.iadd, 1) := by decide +kernel
theorem dX11_shift_172 : decode cX11_shift 172 = .ok (.aload_n 0, 1) := by decide +kernel
theorem dX11_shift_173 : decode cX11_shift 173 = .ok (.getfield 64, 3) := by decide +kernel
theorem dX11_shift_176 : decode cX11_shift 176 = .ok (.iload 6, 2) := by decide +kernel
theorem dX11_shift_178 : decode cX11_shift 178 = .ok (.laload, 1) := by decide +kernel
theorem dX11_shift_179 : decode cX11_shift 179 = .ok (.lastore, 1) := by decide +kernel
theorem dX11_shift_180 : decode cX11_shift 180 = .ok (.iinc 6 1, 3) := by decide +kernel
theorem dX11_shift_183 : decode cX11_shift 183 = .ok (.goto (-32), 3) := by decide +kernel
theorem dX11_shift_186 : decode cX11_shift 186 = .ok (.iload 5, 2) := by decide +kernel
theorem dX11_shift_188 : decode cX11_shift 188 = .ok (.ireturn, 1) := by decide +kernel
theorem dX11_taken_0 : decode cX11_taken 0 = .ok (.iload_n 1, 1) := by decide +kernel
theorem dX11_taken_1 : decode cX11_taken 1 = .ok (.invokestatic 238, 3) := by decide +kernel
theorem dX11_taken_4 : decode cX11_taken 4 = .ok (.ifCond .eq 13, 3) := by decide +kernel
theorem dX11_taken_7 : decode cX11_taken 7 = .ok (.iload_n 2, 1) := by decide +kernel
theorem dX11_taken_8 : decode cX11_taken 8 = .ok (.iconst 0, 1) := by decide +kernel
theorem dX11_taken_9 : decode cX11_taken 9 = .ok (.bipush 7, 2) := by decide +kernel
theorem dX11_taken_11 : decode cX11_taken 11 = .ok (.invokestatic 125, 3) := by decide +kernel
theorem dX11_taken_14 : decode cX11_taken 14 = .ok (.ifCond .ne 5, 3) := by decide +kernel
theorem dX11_taken_17 : decode cX11_taken 17 = .ok (.iconst (-1), 1) := by decide +kernel
theorem dX11_taken_18 : decode cX11_taken 18 = .ok (.ireturn, 1) := by decide +kernel
theorem dX11_taken_19 : decode cX11_taken 19 = .ok (.aload_n 0, 1) := by decide +kernel
theorem dX11_taken_20 : decode cX11_taken 20 = .ok (.getfield 54, 3) := by decide +kernel
theorem dX11_taken_23 : decode cX11_taken 23 = .ok (.iload_n 1, 1) := by decide +kernel
theorem dX11_taken_24 : decode cX11_taken 24 = .ok (.iaload, 1) := by decide +kernel
theorem dX11_taken_25 : decode cX11_taken 25 = .ok (.bipush 10, 2) := by decide +kernel
theorem dX11_taken_27 : decode cX11_taken 27 = .ok (.if_icmp .ge 21, 3) := by decide +kernel
theorem dX11_taken_30 : decode cX11_taken 30 = .ok (.aload_n 0, 1) := by decide +kernel
theorem dX11_taken_31 : decode cX11_taken 31 = .ok (.getfield 54, 3) := by decide +kernel
theorem dX11_taken_34 : decode cX11_taken 34 = .ok (.iload_n 1, 1) := by decide +kernel
theorem dX11_taken_35 : decode cX11_taken 35 = .ok (.iaload, 1) := by decide +kernel
theorem dX11_taken_36 : decode cX11_taken 36 = .ok (.iconst (-1), 1) := by decide +kernel
theorem dX11_taken_37 : decode cX11_taken 37 = .ok (.if_icmp .ne 8, 3) := by decide +kernel
theorem dX11_taken_40 : decode cX11_taken 40 = .ok (.bipush (-11), 2) := by decide +kernel
theorem dX11_taken_42 : decode cX11_taken 42 = .ok (.goto 5, 3) := by decide +kernel
theorem dX11_taken_45 : decode cX11_taken 45 = .ok (.bipush (-12), 2) := by decide +kernel
theorem dX11_taken_47 : decode cX11_taken 47 = .ok (.ireturn, 1) := by decide +kernel
theorem dX11_taken_48 : decode cX11_taken 48 = .ok (.aload_n 0, 1) := by decide +kernel
theorem dX11_taken_49 : decode cX11_taken 49 = .ok (.getfield 106, 3) := by decide +kernel
theorem dX11_taken_52 : decode cX11_taken 52 = .ok (.aload_n 0, 1) := by decide +kernel
theorem dX11_taken_53 : decode cX11_taken 53 = .ok (.getfield 54, 3) := by decide +kernel
theorem dX11_taken_56 : decode cX11_taken 56 = .ok (.iload_n 1, 1) := by decide +kernel
theorem dX11_taken_57 : decode cX11_taken 57 = .ok (.iaload, 1) := by decide +kernel
theorem dX11_taken_58 : decode cX11_taken 58 = .ok (.bipush 10, 2) := by decide +kernel
theorem dX11_taken_60 : decode cX11_taken 60 = .ok (.isub, 1) := by decide +kernel
theorem dX11_taken_61 : decode cX11_taken 61 = .ok (.iaload, 1) := by decide +kernel
theorem dX11_taken_62 : decode cX11_taken 62 = .ok (.istore_n 3, 1) := by decide +kernel
theorem dX11_taken_63 : decode cX11_taken 63 = .ok (.iload_n 3, 1) := by decide +kernel
theorem dX11_taken_64 : decode cX11_taken 64 = .ok (.istore 4, 2) := by decide +kernel
theorem dX11_taken_66 : decode cX11_taken 66 = .ok (.iload 4, 2) := by decide +kernel
theorem dX11_taken_68 : decode cX11_taken 68 = .ok (.iconst (-1), 1) := by decide +kernel
theorem dX11_taken_69 : decode cX11_taken 69 = .ok (.if_icmp .eq 21, 3) := by decide +kernel
theorem dX11_taken_72 : decode cX11_taken 72 = .ok (.iload 4, 2) := by decide +kernel
theorem dX11_taken_74 : decode cX11_taken 74 = .ok (.iload_n 2, 1) := by decide +kernel
theorem dX11_taken_75 : decode cX11_taken 75 = .ok (.if_icmp .eq 15, 3) := by decide +kernel
theorem dX11_taken_78 : decode cX11_taken 78 = .ok (.aload_n 0, 1) := by decide +kernel
theorem dX11_taken_79 : decode cX11_taken 79 = .ok (.getfield 100, 3) := by decide +kernel
theorem dX11_taken_82 : decode cX11_taken 82 = .ok (.iload 4, 2) := by decide +kernel
theorem dX11_taken_84 : decode cX11_taken 84 = .ok (.iaload, 1) := by decide +kernel
theorem dX11_taken_85 : decode cX11_taken 85 = .ok (.istore 4, 2) := by decide +kernel
theorem dX11_taken_87 : decode cX11_taken 87 = .ok (.goto (-21), 3) := by decide +kernel
theorem dX11_taken_90 : decode cX11_taken 90 = .ok (.iload 4, 2) := by decide +kernel
theorem dX11_taken_92 : decode cX11_taken 92 = .ok (.iconst (-1), 1) := by decide +kernel
theorem dX11_taken_93 : decode cX11_taken 93 = .ok (.if_icmp .ne 8, 3) := by decide +kernel
theorem dX11_taken_96 : decode cX11_taken 96 = .ok (.bipush (-12), 2) := by decide +kernel
theorem dX11_taken_98 : decode cX11_taken 98 = .ok (.goto 4, 3) := by decide +kernel
theorem dX11_taken_101 : decode cX11_taken 101 = .ok (.iload_n 3, 1) := by decide +kernel
theorem dX11_taken_102 : decode cX11_taken 102 = .ok (.ireturn, 1) := by decide +kernel
theorem dX11_count_0 : decode cX11_count 0 = .ok (.iload_n 1, 1) := by decide +kernel
theorem dX11_count_1 : decode cX11_count 1 = .ok (.tableswitch 69 0 5 #[39, 44, 49, 54, 59, 64], 39) := by decide +kernel
theorem dX11_count_40 : decode cX11_count 40 = .ok (.aload_n 0, 1) := by decide +kernel
theorem dX11_count_41 : decode cX11_count 41 = .ok (.getfield 121, 3) := by decide +kernel
theorem dX11_count_44 : decode cX11_count 44 = .ok (.ireturn, 1) := by decide +kernel
theorem dX11_count_45 : decode cX11_count 45 = .ok (.aload_n 0, 1) := by decide +kernel
theorem dX11_count_46 : decode cX11_count 46 = .ok (.getfield 129, 3) := by decide +kernel
theorem dX11_count_49 : decode cX11_count 49 = .ok (.ireturn, 1) := by decide +kernel
theorem dX11_count_50 : decode cX11_count 50 = .ok (.aload_n 0, 1) := by decide +kernel
theorem dX11_count_51 : decode cX11_count 51 = .ok (.getfield 148, 3) := by decide +kernel
theorem dX11_count_54 : decode cX11_count 54 = .ok (.ireturn, 1) := by decide +kernel
theorem dX11_count_55 : decode cX11_count 55 = .ok (.aload_n 0, 1) := by decide +kernel
theorem dX11_count_56 : decode cX11_count 56 = .ok (.getfield 142, 3) := by decide +kernel
theorem dX11_count_59 : decode cX11_count 59 = .ok (.ireturn, 1) := by decide +kernel
theorem dX11_count_60 : decode cX11_count 60 = .ok (.aload_n 0, 1) := by decide +kernel
theorem dX11_count_61 : decode cX11_count 61 = .ok (.getfield 316, 3) := by decide +kernel
theorem dX11_count_64 : decode cX11_count 64 = .ok (.ireturn, 1) := by decide +kernel
theorem dX11_count_65 : decode cX11_count 65 = .ok (.aload_n 0, 1) := by decide +kernel
theorem dX11_count_66 : decode cX11_count 66 = .ok (.getfield 323, 3) := by decide +kernel
theorem dX11_count_69 : decode cX11_count 69 = .ok (.ireturn, 1) := by decide +kernel
theorem dX11_count_70 : decode cX11_count 70 = .ok (.iconst (-1), 1) := by decide +kernel
theorem dX11_count_71 : decode cX11_count 71 = .ok (.ireturn, 1) := by decide +kernel
theorem dJ6_bitCount_0f7a4_0 : decode cJ6_bitCount_0f7a4 0 = .ok (.iload_n 0, 1) := by decide +kernel
theorem dJ6_bitCount_0f7a4_1 : decode cJ6_bitCount_0f7a4 1 = .ok (.iload_n 0, 1) := by decide +kernel
theorem dJ6_bitCount_0f7a4_2 : decode cJ6_bitCount_0f7a4 2 = .ok (.iconst 1, 1) := by decide +kernel
theorem dJ6_bitCount_0f7a4_3 : decode cJ6_bitCount_0f7a4 3 = .ok (.iushr, 1) := by decide +kernel
theorem dJ6_bitCount_0f7a4_4 : decode cJ6_bitCount_0f7a4 4 = .ok (.ldc_w 265, 3) := by decide +kernel
theorem dJ6_bitCount_0f7a4_7 : decode cJ6_bitCount_0f7a4 7 = .ok (.iand, 1) := by decide +kernel
theorem dJ6_bitCount_0f7a4_8 : decode cJ6_bitCount_0f7a4 8 = .ok (.isub, 1) := by decide +kernel
theorem dJ6_bitCount_0f7a4_9 : decode cJ6_bitCount_0f7a4 9 = .ok (.istore_n 0, 1) := by decide +kernel
theorem dJ6_bitCount_0f7a4_10 : decode cJ6_bitCount_0f7a4 10 = .ok (.iload_n 0, 1) := by decide +kernel
theorem dJ6_bitCount_0f7a4_11 : decode cJ6_bitCount_0f7a4 11 = .ok (.ldc_w 266, 3) := by decide +kernel
theorem dJ6_bitCount_0f7a4_14 : decode cJ6_bitCount_0f7a4 14 = .ok (.iand, 1) := by decide +kernel
theorem dJ6_bitCount_0f7a4_15 : decode cJ6_bitCount_0f7a4 15 = .ok (.iload_n 0, 1) := by decide +kernel
theorem dJ6_bitCount_0f7a4_16 : decode cJ6_bitCount_0f7a4 16 = .ok (.iconst 2, 1) := by decide +kernel
theorem dJ6_bitCount_0f7a4_17 : decode cJ6_bitCount_0f7a4 17 = .ok (.iushr, 1) := by decide +kernel
theorem dJ6_bitCount_0f7a4_18 : decode cJ6_bitCount_0f7a4 18 = .ok (.ldc_w 266, 3) := by decide +kernel
theorem dJ6_bitCount_0f7a4_21 : decode cJ6_bitCount_0f7a4 21 = .ok (.iand, 1) := by decide +kernel
theorem dJ6_bitCount_0f7a4_22 : decode cJ6_bitCount_0f7a4 22 = .ok (.iadd, 1) := by decide +kernel
theorem dJ6_bitCount_0f7a4_23 : decode cJ6_bitCount_0f7a4 23 = .ok (.istore_n 0, 1) := by decide +kernel
theorem dJ6_bitCount_0f7a4_24 : decode cJ6_bitCount_0f7a4 24 = .ok (.iload_n 0, 1) := by decide +kernel
theorem dJ6_bitCount_0f7a4_25 : decode cJ6_bitCount_0f7a4 25 = .ok (.iload_n 0, 1) := by decide +kernel
theorem dJ6_bitCount_0f7a4_26 : decode cJ6_bitCount_0f7a4 26 = .ok (.iconst 4, 1) := by decide +kernel
theorem dJ6_bitCount_0f7a4_27 : decode cJ6_bitCount_0f7a4 27 = .ok (.iushr, 1) := by decide +kernel
theorem dJ6_bitCount_0f7a4_28 : decode cJ6_bitCount_0f7a4 28 = .ok (.iadd, 1) := by decide +kernel
theorem dJ6_bitCount_0f7a4_29 : decode cJ6_bitCount_0f7a4 29 = .ok (.ldc_w 267, 3) := by decide +kernel
theorem dJ6_bitCount_0f7a4_32 : decode cJ6_bitCount_0f7a4 32 = .ok (.iand, 1) := by decide +kernel
theorem dJ6_bitCount_0f7a4_33 : decode cJ6_bitCount_0f7a4 33 = .ok (.istore_n 0, 1) := by decide +kernel
theorem dJ6_bitCount_0f7a4_34 : decode cJ6_bitCount_0f7a4 34 = .ok (.iload_n 0, 1) := by decide +kernel
theorem dJ6_bitCount_0f7a4_35 : decode cJ6_bitCount_0f7a4 35 = .ok (.iload_n 0, 1) := by decide +kernel
theorem dJ6_bitCount_0f7a4_36 : decode cJ6_bitCount_0f7a4 36 = .ok (.bipush 8, 2) := by decide +kernel
theorem dJ6_bitCount_0f7a4_38 : decode cJ6_bitCount_0f7a4 38 = .ok (.iushr, 1) := by decide +kernel
theorem dJ6_bitCount_0f7a4_39 : decode cJ6_bitCount_0f7a4 39 = .ok (.iadd, 1) := by decide +kernel
theorem dJ6_bitCount_0f7a4_40 : decode cJ6_bitCount_0f7a4 40 = .ok (.istore_n 0, 1) := by decide +kernel
theorem dJ6_bitCount_0f7a4_41 : decode cJ6_bitCount_0f7a4 41 = .ok (.iload_n 0, 1) := by decide +kernel
theorem dJ6_bitCount_0f7a4_42 : decode cJ6_bitCount_0f7a4 42 = .ok (.iload_n 0, 1) := by decide +kernel
theorem dJ6_bitCount_0f7a4_43 : decode cJ6_bitCount_0f7a4 43 = .ok (.bipush 16, 2) := by decide +kernel
theorem dJ6_bitCount_0f7a4_45 : decode cJ6_bitCount_0f7a4 45 = .ok (.iushr, 1) := by decide +kernel
theorem dJ6_bitCount_0f7a4_46 : decode cJ6_bitCount_0f7a4 46 = .ok (.iadd, 1) := by decide +kernel
theorem dJ6_bitCount_0f7a4_47 : decode cJ6_bitCount_0f7a4 47 = .ok (.istore_n 0, 1) := by decide +kernel
theorem dJ6_bitCount_0f7a4_48 : decode cJ6_bitCount_0f7a4 48 = .ok (.iload_n 0, 1) := by decide +kernel
theorem dJ6_bitCount_0f7a4_49 : decode cJ6_bitCount_0f7a4 49 = .ok (.bipush 63, 2) := by decide +kernel
theorem dJ6_bitCount_0f7a4_51 : decode cJ6_bitCount_0f7a4 51 = .ok (.iand, 1) := by decide +kernel
theorem dJ6_bitCount_0f7a4_52 : decode cJ6_bitCount_0f7a4 52 = .ok (.ireturn, 1) := by decide +kernel
theorem dJ9_abs_0f7a4_0 : decode cJ9_abs_0f7a4 0 = .ok (.iload_n 0, 1) := by decide +kernel
theorem dJ9_abs_0f7a4_1 : decode cJ9_abs_0f7a4 1 = .ok (.ifCond .ge 8, 3) := by decide +kernel
theorem dJ9_abs_0f7a4_4 : decode cJ9_abs_0f7a4 4 = .ok (.iload_n 0, 1) := by decide +kernel
theorem dJ9_abs_0f7a4_5 : decode cJ9_abs_0f7a4 5 = .ok (.ineg, 1) := by decide +kernel
theorem dJ9_abs_0f7a4_6 : decode cJ9_abs_0f7a4 6 = .ok (.goto 4, 3) := by decide +kernel
theorem dJ9_abs_0f7a4_9 : decode cJ9_abs_0f7a4 9 = .ok (.iload_n 0, 1) := by decide +kernel
theorem dJ9_abs_0f7a4_10 : decode cJ9_abs_0f7a4 10 = .ok (.ireturn, 1) := by decide +kernel
theorem dJ9_max_7cf53_0 : decode cJ9_max_7cf53 0 = .ok (.iload_n 0, 1) := by decide +kernel
theorem dJ9_max_7cf53_1 : decode cJ9_max_7cf53 1 = .ok (.iload_n 1, 1) := by decide +kernel
theorem dJ9_max_7cf53_2 : decode cJ9_max_7cf53 2 = .ok (.if_icmp .lt 7, 3) := by decide +kernel
theorem dJ9_max_7cf53_5 : decode cJ9_max_7cf53 5 = .ok (.iload_n 0, 1) := by decide +kernel
theorem dJ9_max_7cf53_6 : decode cJ9_max_7cf53 6 = .ok (.goto 4, 3) := by decide +kernel
theorem dJ9_max_7cf53_9 : decode cJ9_max_7cf53 9 = .ok (.iload_n 1, 1) := by decide +kernel
theorem dJ9_max_7cf53_10 : decode cJ9_max_7cf53 10 = .ok (.ireturn, 1) := by decide +kernel
theorem dJ9_min_7cf53_0 : decode cJ9_min_7cf53 0 = .ok (.iload_n 0, 1) := by decide +kernel
theorem dJ9_min_7cf53_1 : decode cJ9_min_7cf53 1 = .ok (.iload_n 1, 1) := by decide +kernel
theorem dJ9_min_7cf53_2 : decode cJ9_min_7cf53 2 = .ok (.if_icmp .gt 7, 3) := by decide +kernel
theorem dJ9_min_7cf53_5 : decode cJ9_min_7cf53 5 = .ok (.iload_n 0, 1) := by decide +kernel
theorem dJ9_min_7cf53_6 : decode cJ9_min_7cf53 6 = .ok (.goto 4, 3) := by decide +kernel
theorem dJ9_min_7cf53_9 : decode cJ9_min_7cf53 9 = .ok (.iload_n 1, 1) := by decide +kernel
theorem dJ9_min_7cf53_10 : decode cJ9_min_7cf53 10 = .ok (.ireturn, 1) := by decide +kernel
theorem dJ7_fill_d0a16_0 : decode cJ7_fill_d0a16 0 = .ok (.iconst 0, 1) := by decide +kernel
theorem dJ7_fill_d0a16_1 : decode cJ7_fill_d0a16 1 = .ok (.istore_n 3, 1) := by decide +kernel
theorem dJ7_fill_d0a16_2 : decode cJ7_fill_d0a16 2 = .ok (.aload_n 0, 1) := by decide +kernel
theorem dJ7_fill_d0a16_3 : decode cJ7_fill_d0a16 3 = .ok (.arraylength, 1) := by decide +kernel
theorem dJ7_fill_d0a16_4 : decode cJ7_fill_d0a16 4 = .ok (.istore 4, 2) := by decide +kernel
theorem dJ7_fill_d0a16_6 : decode cJ7_fill_d0a16 6 = .ok (.iload_n 3, 1) := by decide +kernel
theorem dJ7_fill_d0a16_7 : decode cJ7_fill_d0a16 7 = .ok (.iload 4, 2) := by decide +kernel
theorem dJ7_fill_d0a16_9 : decode cJ7_fill_d0a16 9 = .ok (.if_icmp .ge 13, 3) := by decide +kernel
theorem dJ7_fill_d0a16_12 : decode cJ7_fill_d0a16 12 = .ok (.aload_n 0, 1) := by decide +kernel
theorem dJ7_fill_d0a16_13 : decode cJ7_fill_d0a16 13 = .ok (.iload_n 3, 1) := by decide +kernel
theorem dJ7_fill_d0a16_14 : decode cJ7_fill_d0a16 14 = .ok (.lload_n 1, 1) := by decide +kernel
theorem dJ7_fill_d0a16_15 : decode cJ7_fill_d0a16 15 = .ok (.lastore, 1) := by decide +kernel
theorem dJ7_fill_d0a16_16 : decode cJ7_fill_d0a16 16 = .ok (.iinc 3 1, 3) := by decide +kernel
theorem dJ7_fill_d0a16_19 : decode cJ7_fill_d0a16 19 = .ok (.goto (-13), 3) := by decide +kernel
theorem dJ7_fill_d0a16_22 : decode cJ7_fill_d0a16 22 = .ok (.return_, 1) := by decide +kernel
theorem dJ7_fill_53178_0 : decode cJ7_fill_53178 0 = .ok (.iconst 0, 1) := by decide +kernel
theorem dJ7_fill_53178_1 : decode cJ7_fill_53178 1 = .ok (.istore_n 2, 1) := by decide +kernel
theorem dJ7_fill_53178_2 : decode cJ7_fill_53178 2 = .ok (.aload_n 0, 1) := by decide +kernel
theorem dJ7_fill_53178_3 : decode cJ7_fill_53178 3 = .ok (.arraylength, 1) := by decide +kernel
theorem dJ7_fill_53178_4 : decode cJ7_fill_53178 4 = .ok (.istore_n 3, 1) := by decide +kernel
theorem dJ7_fill_53178_5 : decode cJ7_fill_53178 5 = .ok (.iload_n 2, 1) := by decide +kernel
theorem dJ7_fill_53178_6 : decode cJ7_fill_53178 6 = .ok (.iload_n 3, 1) := by decide +kernel
theorem dJ7_fill_53178_7 : decode cJ7_fill_53178 7 = .ok (.if_icmp .ge 13, 3) := by decide +kernel
theorem dJ7_fill_53178_10 : decode cJ7_fill_53178 10 = .ok (.aload_n 0, 1) := by decide +kernel
theorem dJ7_fill_53178_11 : decode cJ7_fill_53178 11 = .ok (.iload_n 2, 1) := by decide +kernel
theorem dJ7_fill_53178_12 : decode cJ7_fill_53178 12 = .ok (.iload_n 1, 1) := by decide +kernel
theorem dJ7_fill_53178_13 : decode cJ7_fill_53178 13 = .ok (.iastore, 1) := by decide +kernel
theorem dJ7_fill_53178_14 : decode cJ7_fill_53178 14 = .ok (.iinc 2 1, 3) := by decide +kernel
theorem dJ7_fill_53178_17 : decode cJ7_fill_53178 17 = .ok (.goto (-12), 3) := by decide +kernel
theorem dJ7_fill_53178_20 : decode cJ7_fill_53178 20 = .ok (.return_, 1) := by decide +kernel
theorem dL_law_0 : decode cL_law 0 = .ok (.new 7, 3) := by decide +kernel
theorem dL_law_3 : decode cL_law 3 = .ok (.dup, 1) := by decide +kernel
theorem dL_law_4 : decode cL_law 4 = .ok (.invokespecial 9, 3) := by decide +kernel
theorem dL_law_7 : decode cL_law 7 = .ok (.astore_n 1, 1) := by decide +kernel
theorem dL_law_8 : decode cL_law 8 = .ok (.new 10, 3) := by decide +kernel
theorem dL_law_11 : decode cL_law 11 = .ok (.dup, 1) := by decide +kernel
theorem dL_law_12 : decode cL_law 12 = .ok (.invokespecial 12, 3) := by decide +kernel
theorem dL_law_15 : decode cL_law 15 = .ok (.astore_n 2, 1) := by decide +kernel
theorem dL_law_16 : decode cL_law 16 = .ok (.iconst 0, 1) := by decide +kernel
theorem dL_law_17 : decode cL_law 17 = .ok (.istore_n 3, 1) := by decide +kernel
theorem dL_law_18 : decode cL_law 18 = .ok (.iload_n 3, 1) := by decide +kernel
theorem dL_law_19 : decode cL_law 19 = .ok (.aload_n 0, 1) := by decide +kernel
theorem dL_law_20 : decode cL_law 20 = .ok (.arraylength, 1) := by decide +kernel
theorem dL_law_21 : decode cL_law 21 = .ok (.bipush 6, 2) := by decide +kernel
theorem dL_law_23 : decode cL_law 23 = .ok (.isub, 1) := by decide +kernel
theorem dL_law_24 : decode cL_law 24 = .ok (.if_icmp .gt 1397, 3) := by decide +kernel
theorem dL_law_27 : decode cL_law 27 = .ok (.aload_n 0, 1) := by decide +kernel
theorem dL_law_28 : decode cL_law 28 = .ok (.iload_n 3, 1) := by decide +kernel
theorem dL_law_29 : decode cL_law 29 = .ok (.iaload, 1) := by decide +kernel
theorem dL_law_30 : decode cL_law 30 = .ok (.bipush 63, 2) := by decide +kernel
theorem dL_law_32 : decode cL_law 32 = .ok (.iand, 1) := by decide +kernel
theorem dL_law_33 : decode cL_law 33 = .ok (.tableswitch 1382 0 37 #[167, 180, 203, 246, 289, 322, 345, 358, 401, 434, 477, 510, 543, 586, 619, 642, 685, 728, 781, 814, 847, 860, 883, 916, 939, 952, 965, 978, 991, 1014, 1057, 1080, 1113, 1156, 1229, 1263, 1326, 1359], 167) := by decide +kernel
theorem dL_law_200 : decode cL_law 200 = .ok (.aload_n 1, 1) := by decide +kernel
theorem dL_law_201 : decode cL_law 201 = .ok (.invokevirtual 13, 3) := by decide +kernel
theorem dL_law_204 : decode cL_law 204 = .ok (.aload_n 2, 1) := by decide +kernel
theorem dL_law_205 : decode cL_law 205 = .ok (.invokevirtual 17, 3) := by decide +kernel
theorem dL_law_208 : decode cL_law 208 = .ok (.if_icmp .eq 1207, 3) := by decide +kernel
theorem dL_law_211 : decode cL_law 211 = .ok (.iconst 0, 1) := by decide +kernel
theorem dL_law_212 : decode cL_law 212 = .ok (.ireturn, 1) := by decide +kernel
theorem dL_law_213 : decode cL_law 213 = .ok (.aload_n 1, 1) := by decide +kernel
theorem dL_law_214 : decode cL_law 214 = .ok (.aload_n 0, 1) := by decide +kernel
theorem dL_law_215 : decode cL_law 215 = .ok (.iload_n 3, 1) := by decide +kernel
theorem dL_law_216 : decode cL_law 216 = .ok (.iconst 1, 1) := by decide +kernel
theorem dL_law_217 : decode cL_law 217 = .ok (.iadd, 1) := by decide +kernel
theorem dL_law_218 : decode cL_law 218 = .ok (.iaload, 1) := by decide +kernel
theorem dL_law_219 : decode cL_law 219 = .ok (.invokevirtual 18, 3) := by decide +kernel
theorem dL_law_222 : decode cL_law 222 = .ok (.aload_n 2, 1) := by decide +kernel
theorem dL_law_223 : decode cL_law 223 = .ok (.aload_n 0, 1) := by decide +kernel
theorem dL_law_224 : decode cL_law 224 = .ok (.iload_n 3, 1) := by decide +kernel
theorem dL_law_225 : decode cL_law 225 = .ok (.iconst 1, 1) := by decide +kernel
theorem dL_law_226 : decode cL_law 226 = .ok (.iadd, 1) := by decide +kernel
theorem dL_law_227 : decode cL_law 227 = .ok (.iaload, 1) := by decide +kernel
theorem dL_law_228 : decode cL_law 228 = .ok (.invokevirtual 22, 3) := by decide +kernel
theorem dL_law_231 : decode cL_law 231 = .ok (.if_icmp .eq 1184, 3) := by decide +kernel
theorem dL_law_234 : decode cL_law 234 = .ok (.iconst 0, 1) := by decide +kernel
theorem dL_law_235 : decode cL_law 235 = .ok (.ireturn, 1) := by decide +kernel
theorem dL_law_236 : decode cL_law 236 = .ok (.aload_n 1, 1) := by decide +kernel
theorem dL_law_237 : decode cL_law 237 = .ok (.aload_n 0, 1) := by decide +kernel
theorem dL_law_238 : decode cL_law 238 = .ok (.iload_n 3, 1) := by decide +kernel
theorem dL_law_239 : decode cL_law 239 = .ok (.iconst 1, 1) := by decide +kernel
theorem dL_law_240 : decode cL_law 240 = .ok (.iadd, 1) := by decide +kernel
theorem dL_law_241 : decode cL_law 241 = .ok (.iaload, 1) := by decide +kernel
theorem dL_law_242 : decode cL_law 242 = .ok (.aload_n 0, 1) := by decide +kernel
theorem dL_law_243 : decode cL_law 243 = .ok (.iload_n 3, 1) := by decide +kernel
theorem dL_law_244 : decode cL_law 244 = .ok (.iconst 2, 1) := by decide +kernel
theorem dL_law_245 : decode cL_law 245 = .ok (.iadd, 1) := by decide +kernel
theorem dL_law_246 : decode cL_law 246 = .ok (.iaload, 1) := by decide +kernel
theorem dL_law_247 : decode cL_law 247 = .ok (.aload_n 0, 1) := by decide +kernel
theorem dL_law_248 : decode cL_law 248 = .ok (.iload_n 3, 1) := by decide +kernel
theorem dL_law_249 : decode cL_law 249 = .ok (.iconst 3, 1) := by decide +kernel
theorem dL_law_250 : decode cL_law 250 = .ok (.iadd, 1) := by decide +kernel
theorem dL_law_251 : decode cL_law 251 = .ok (.iaload, 1) := by decide +kernel
theorem dL_law_252 : decode cL_law 252 = .ok (.invokevirtual 23, 3) := by decide +kernel
theorem dL_law_255 : decode cL_law 255 = .ok (.aload_n 2, 1) := by decide +kernel
theorem dL_law_256 : decode cL_law 256 = .ok (.aload_n 0, 1) := by decide +kernel
theorem dL_law_257 : decode cL_law 257 = .ok (.iload_n 3, 1) := by decide +kernel
theorem dL_law_258 : decode cL_law 258 = .ok (.iconst 1, 1) := by decide +kernel
theorem dL_law_259 : decode cL_law 259 = .ok (.iadd, 1) := by decide +kernel
theorem dL_law_260 : decode cL_law 260 = .ok (.iaload, 1) := by decide +kernel
theorem dL_law_261 : decode cL_law 261 = .ok (.aload_n 0, 1) := by decide +kernel
theorem dL_law_262 : decode cL_law 262 = .ok (.iload_n 3, 1) := by decide +kernel
theorem dL_law_263 : decode cL_law 263 = .ok (.iconst 2, 1) := by decide +kernel
theorem dL_law_264 : decode cL_law 264 = .ok (.iadd, 1) := by decide +kernel
theorem dL_law_265 : decode cL_law 265 = .ok (.iaload, 1) := by decide +kernel
theorem dL_law_266 : decode cL_law 266 = .ok (.aload_n 0, 1) := by decide +kernel
theorem dL_law_267 : decode cL_law 267 = .ok (.iload_n 3, 1) := by decide +kernel
theorem dL_law_268 : decode cL_law 268 = .ok (.iconst 3, 1) := by decide +kernel
theorem dL_law_269 : decode cL_law 269 = .ok (.iadd, 1) := by decide +kernel
theorem dL_law_270 : decode cL_law 270 = .ok (.iaload, 1) := by decide +kernel
theorem dL_law_271 : decode cL_law 271 = .ok (.invokevirtual 27, 3) := by decide +kernel
theorem dL_law_274 : decode cL_law 274 = .ok (.if_icmp .eq 1141, 3) := by decide +kernel
theorem dL_law_277 : decode cL_law 277 = .ok (.iconst 0, 1) := by decide +kernel
theorem dL_law_278 : decode cL_law 278 = .ok (.ireturn, 1) := by decide +kernel
theorem dL_law_279 : decode cL_law 279 = .ok (.aload_n 1, 1) := by decide +kernel
theorem dL_law_280 : decode cL_law 280 = .ok (.aload_n 0, 1) := by decide +kernel
theorem dL_law_281 : decode cL_law 281 = .ok (.iload_n 3, 1) := by decide +kernel
theorem dL_law_282 : decode cL_law 282 = .ok (.iconst 1, 1) := by decide +kernel
theorem dL_law_283 : decode cL_law 283 = .ok (.iadd, 1) := by decide +kernel
theorem dL_law_284 : decode cL_law 284 = .ok (.iaload, 1) := by decide +kernel
theorem dL_law_285 : decode cL_law 285 = .ok (.aload_n 0, 1) := by decide +kernel
theorem dL_law_286 : decode cL_law 286 = .ok (.iload_n 3, 1) := by decide +kernel
theorem dL_law_287 : decode cL_law 287 = .ok (.iconst 2, 1) := by decide +kernel
theorem dL_law_288 : decode cL_law 288 = .ok (.iadd, 1) := by decide +kernel
theorem dL_law_289 : decode cL_law 289 = .ok (.iaload, 1) := by decide +kernel
theorem dL_law_290 : decode cL_law 290 = .ok (.aload_n 0, 1) := by decide +kernel
theorem dL_law_291 : decode cL_law 291 = .ok (.iload_n 3, 1) := by decide +kernel
theorem dL_law_292 : decode cL_law 292 = .ok (.iconst 3, 1) := by decide +kernel
theorem dL_law_293 : decode cL_law 293 = .ok (.iadd, 1) := by decide +kernel
theorem dL_law_294 : decode cL_law 294 = .ok (.iaload, 1) := by decide +kernel
theorem dL_law_295 : decode cL_law 295 = .ok (.invokevirtual 28, 3) := by decide +kernel
theorem dL_law_298 : decode cL_law 298 = .ok (.aload_n 2, 1) := by decide +kernel
theorem dL_law_299 : decode cL_law 299 = .ok (.aload_n 0, 1) := by decide +kernel
theorem dL_law_300 : decode cL_law 300 = .ok (.iload_n 3, 1) := by decide +kernel
theorem dL_law_301 : decode cL_law 301 = .ok (.iconst 1, 1) := by decide +kernel
theorem dL_law_302 : decode cL_law 302 = .ok (.iadd, 1) := by decide +kernel
theorem dL_law_303 : decode cL_law 303 = .ok (.iaload, 1) := by decide +kernel
theorem dL_law_304 : decode cL_law 304 = .ok (.aload_n 0, 1) := by decide +kernel
theorem dL_law_305 : decode cL_law 305 = .ok (.iload_n 3, 1) := by decide +kernel
theorem dL_law_306 : decode cL_law 306 = .ok (.iconst 2, 1) := by decide +kernel
theorem dL_law_307 : decode cL_law 307 = .ok (.iadd, 1) := by decide +kernel
theorem dL_law_308 : decode cL_law 308 = .ok (.iaload, 1) := by decide +kernel
theorem dL_law_309 : decode cL_law 309 = .ok (.aload_n 0, 1) := by decide +kernel
theorem dL_law_310 : decode cL_law 310 = .ok (.iload_n 3, 1) := by decide +kernel
theorem dL_law_311 : decode cL_law 311 = .ok (.iconst 3, 1) := by decide +kernel
theorem dL_law_312 : decode cL_law 312 = .ok (.iadd, 1) := by decide +kernel
theorem dL_law_313 : decode cL_law 313 = .ok (.iaload, 1) := by decide +kernel
theorem dL_law_314 : decode cL_law 314 = .ok (.invokevirtual 31, 3) := by decide +kernel
theorem dL_law_317 : decode cL_law 317 = .ok (.if_icmp .eq 1098, 3) := by decide +kernel
theorem dL_law_320 : decode cL_law 320 = .ok (.iconst 0, 1) := by decide +kernel
theorem dL_law_321 : decode cL_law 321 = .ok (.ireturn, 1) := by decide +kernel
theorem dL_law_322 : decode cL_law 322 = .ok (.aload_n 1, 1) := by decide +kernel
theorem dL_law_323 : decode cL_law 323 = .ok (.aload_n 0, 1) := by decide +kernel
theorem dL_law_324 : decode cL_law 324 = .ok (.iload_n 3, 1) := by decide +kernel
theorem dL_law_325 : decode cL_law 325 = .ok (.iconst 1, 1) := by decide +kernel
theorem dL_law_326 : decode cL_law 326 = .ok (.iadd, 1) := by decide +kernel
theorem dL_law_327 : decode cL_law 327 = .ok (.iaload, 1) := by decide +kernel
theorem dL_law_328 : decode cL_law 328 = .ok (.aload_n 0, 1) := by decide +kernel
theorem dL_law_329 : decode cL_law 329 = .ok (.iload_n 3, 1) := by decide +kernel
theorem dL_law_330 : decode cL_law 330 = .ok (.iconst 2, 1) := by decide +kernel
theorem dL_law_331 : decode cL_law 331 = .ok (.iadd, 1) := by decide +kernel
theorem dL_law_332 : decode cL_law 332 = .ok (.iaload, 1) := by decide +kernel
theorem dL_law_333 : decode cL_law 333 = .ok (.invokevirtual 32, 3) := by decide +kernel
theorem dL_law_336 : decode cL_law 336 = .ok (.aload_n 2, 1) := by decide +kernel
theorem dL_law_337 : decode cL_law 337 = .ok (.aload_n 0, 1) := by decide +kernel
theorem dL_law_338 : decode cL_law 338 = .ok (.iload_n 3, 1) := by decide +kernel
theorem dL_law_339 : decode cL_law 339 = .ok (.iconst 1, 1) := by decide +kernel
theorem dL_law_340 : decode cL_law 340 = .ok (.iadd, 1) := by decide +kernel
theorem dL_law_341 : decode cL_law 341 = .ok (.iaload, 1) := by decide +kernel
theorem dL_law_342 : decode cL_law 342 = .ok (.aload_n 0, 1) := by decide +kernel
theorem dL_law_343 : decode cL_law 343 = .ok (.iload_n 3, 1) := by decide +kernel
theorem dL_law_344 : decode cL_law 344 = .ok (.iconst 2, 1) := by decide +kernel
theorem dL_law_345 : decode cL_law 345 = .ok (.iadd, 1) := by decide +kernel
theorem dL_law_346 : decode cL_law 346 = .ok (.iaload, 1) := by decide +kernel
theorem dL_law_347 : decode cL_law 347 = .ok (.invokevirtual 36, 3) := by decide +kernel
theorem dL_law_350 : decode cL_law 350 = .ok (.if_icmp .eq 1065, 3) := by decide +kernel
theorem dL_law_353 : decode cL_law 353 = .ok (.iconst 0, 1) := by decide +kernel
theorem dL_law_354 : decode cL_law 354 = .ok (.ireturn, 1) := by decide +kernel
theorem dL_law_355 : decode cL_law 355 = .ok (.aload_n 1, 1) := by decide +kernel
theorem dL_law_356 : decode cL_law 356 = .ok (.aload_n 0, 1) := by decide +kernel
theorem dL_law_357 : decode cL_law 357 = .ok (.iload_n 3, 1) := by decide +kernel
theorem dL_law_358 : decode cL_law 358 = .ok (.iconst 1, 1) := by decide +kernel
theorem dL_law_359 : decode cL_law 359 = .ok (.iadd, 1) := by decide +kernel
theorem dL_law_360 : decode cL_law 360 = .ok (.iaload, 1) := by decide +kernel
theorem dL_law_361 : decode cL_law 361 = .ok (.invokevirtual 37, 3) := by decide +kernel
theorem dL_law_364 : decode cL_law 364 = .ok (.aload_n 2, 1) := by decide +kernel
theorem dL_law_365 : decode cL_law 365 = .ok (.aload_n 0, 1) := by decide +kernel
theorem dL_law_366 : decode cL_law 366 = .ok (.iload_n 3, 1) := by decide +kernel
theorem dL_law_367 : decode cL_law 367 = .ok (.iconst 1, 1) := by decide +kernel
theorem dL_law_368 : decode cL_law 368 = .ok (.iadd, 1) := by decide +kernel
theorem dL_law_369 : decode cL_law 369 = .ok (.iaload, 1) := by decide +kernel
theorem dL_law_370 : decode cL_law 370 = .ok (.invokevirtual 40, 3) := by decide +kernel
theorem dL_law_373 : decode cL_law 373 = .ok (.if_icmp .eq 1042, 3) := by decide +kernel
theorem dL_law_376 : decode cL_law 376 = .ok (.iconst 0, 1) := by decide +kernel
theorem dL_law_377 : decode cL_law 377 = .ok (.ireturn, 1) := by decide +kernel
theorem dL_law_378 : decode cL_law 378 = .ok (.aload_n 1, 1) := by decide +kernel
theorem dL_law_379 : decode cL_law 379 = .ok (.invokevirtual 41, 3) := by decide +kernel
theorem dL_law_382 : decode cL_law 382 = .ok (.aload_n 2, 1) := by decide +kernel
theorem dL_law_383 : decode cL_law 383 = .ok (.invokevirtual 44, 3) := by decide +kernel
theorem dL_law_386 : decode cL_law 386 = .ok (.if_icmp .eq 1029, 3) := by decide +kernel
theorem dL_law_389 : decode cL_law 389 = .ok (.iconst 0, 1) := by decide +kernel
theorem dL_law_390 : decode cL_law 390 = .ok (.ireturn, 1) := by decide +kernel
theorem dL_law_391 : decode cL_law 391 = .ok (.aload_n 1, 1) := by decide +kernel
theorem dL_law_392 : decode cL_law 392 = .ok (.aload_n 0, 1) := by decide +kernel
theorem dL_law_393 : decode cL_law 393 = .ok (.iload_n 3, 1) := by decide +kernel
theorem dL_law_394 : decode cL_law 394 = .ok (.iconst 1, 1) := by decide +kernel
theorem dL_law_395 : decode cL_law 395 = .ok (.iadd, 1) := by decide +kernel
theorem dL_law_396 : decode cL_law 396 = .ok (.iaload, 1) := by decide +kernel
theorem dL_law_397 : decode cL_law 397 = .ok (.aload_n 0, 1) := by decide +kernel
theorem dL_law_398 : decode cL_law 398 = .ok (.iload_n 3, 1) := by decide +kernel
theorem dL_law_399 : decode cL_law 399 = .ok (.iconst 2, 1) := by decide +kernel
theorem dL_law_400 : decode cL_law 400 = .ok (.iadd, 1) := by decide +kernel
theorem dL_law_401 : decode cL_law 401 = .ok (.iaload, 1) := by decide +kernel
theorem dL_law_402 : decode cL_law 402 = .ok (.aload_n 0, 1) := by decide +kernel
theorem dL_law_403 : decode cL_law 403 = .ok (.iload_n 3, 1) := by decide +kernel
theorem dL_law_404 : decode cL_law 404 = .ok (.iconst 3, 1) := by decide +kernel
theorem dL_law_405 : decode cL_law 405 = .ok (.iadd, 1) := by decide +kernel
theorem dL_law_406 : decode cL_law 406 = .ok (.iaload, 1) := by decide +kernel
theorem dL_law_407 : decode cL_law 407 = .ok (.invokevirtual 45, 3) := by decide +kernel
theorem dL_law_410 : decode cL_law 410 = .ok (.aload_n 2, 1) := by decide +kernel
theorem dL_law_411 : decode cL_law 411 = .ok (.aload_n 0, 1) := by decide +kernel
theorem dL_law_412 : decode cL_law 412 = .ok (.iload_n 3, 1) := by decide +kernel
theorem dL_law_413 : decode cL_law 413 = .ok (.iconst 1, 1) := by decide +kernel
theorem dL_law_414 : decode cL_law 414 = .ok (.iadd, 1) := by decide +kernel
theorem dL_law_415 : decode cL_law 415 = .ok (.iaload, 1) := by decide +kernel
theorem dL_law_416 : decode cL_law 416 = .ok (.aload_n 0, 1) := by decide +kernel
theorem dL_law_417 : decode cL_law 417 = .ok (.iload_n 3, 1) := by decide +kernel
theorem dL_law_418 : decode cL_law 418 = .ok (.iconst 2, 1) := by decide +kernel
theorem dL_law_419 : decode cL_law 419 = .ok (.iadd, 1) := by decide +kernel
theorem dL_law_420 : decode cL_law 420 = .ok (.iaload, 1) := by decide +kernel
theorem dL_law_421 : decode cL_law 421 = .ok (.aload_n 0, 1) := by decide +kernel
theorem dL_law_422 : decode cL_law 422 = .ok (.iload_n 3, 1) := by decide +kernel
theorem dL_law_423 : decode cL_law 423 = .ok (.iconst 3, 1) := by decide +kernel
theorem dL_law_424 : decode cL_law 424 = .ok (.iadd, 1) := by decide +kernel
theorem dL_law_425 : decode cL_law 425 = .ok (.iaload, 1) := by decide +kernel
theorem dL_law_426 : decode cL_law 426 = .ok (.invokevirtual 48, 3) := by decide +kernel
theorem dL_law_429 : decode cL_law 429 = .ok (.if_icmp .eq 986, 3) := by decide +kernel
theorem dL_law_432 : decode cL_law 432 = .ok (.iconst 0, 1) := by decide +kernel
theorem dL_law_433 : decode cL_law 433 = .ok (.ireturn, 1) := by decide +kernel
theorem dL_law_434 : decode cL_law 434 = .ok (.aload_n 1, 1) := by decide +kernel
theorem dL_law_435 : decode cL_law 435 = .ok (.aload_n 0, 1) := by decide +kernel
theorem dL_law_436 : decode cL_law 436 = .ok (.iload_n 3, 1) := by decide +kernel
theorem dL_law_437 : decode cL_law 437 = .ok (.iconst 1, 1) := by decide +kernel
theorem dL_law_438 : decode cL_law 438 = .ok (.iadd, 1) := by decide +kernel
theorem dL_law_439 : decode cL_law 439 = .ok (.iaload, 1) := by decide +kernel
theorem dL_law_440 : decode cL_law 440 = .ok (.aload_n 0, 1) := by decide +kernel
theorem dL_law_441 : decode cL_law 441 = .ok (.iload_n 3, 1) := by decide +kernel
theorem dL_law_442 : decode cL_law 442 = .ok (.iconst 2, 1) := by decide +kernel
theorem dL_law_443 : decode cL_law 443 = .ok (.iadd, 1) := by decide +kernel
theorem dL_law_444 : decode cL_law 444 = .ok (.iaload, 1) := by decide +kernel
theorem dL_law_445 : decode cL_law 445 = .ok (.invokevirtual 49, 3) := by decide +kernel
theorem dL_law_448 : decode cL_law 448 = .ok (.aload_n 2, 1) := by decide +kernel
theorem dL_law_449 : decode cL_law 449 = .ok (.aload_n 0, 1) := by decide +kernel
theorem dL_law_450 : decode cL_law 450 = .ok (.iload_n 3, 1) := by decide +kernel
theorem dL_law_451 : decode cL_law 451 = .ok (.iconst 1, 1) := by decide +kernel
theorem dL_law_452 : decode cL_law 452 = .ok (.iadd, 1) := by decide +kernel
theorem dL_law_453 : decode cL_law 453 = .ok (.iaload, 1) := by decide +kernel
theorem dL_law_454 : decode cL_law 454 = .ok (.aload_n 0, 1) := by decide +kernel
theorem dL_law_455 : decode cL_law 455 = .ok (.iload_n 3, 1) := by decide +kernel
theorem dL_law_456 : decode cL_law 456 = .ok (.iconst 2, 1) := by decide +kernel
theorem dL_law_457 : decode cL_law 457 = .ok (.iadd, 1) := by decide +kernel
theorem dL_law_458 : decode cL_law 458 = .ok (.iaload, 1) := by decide +kernel
theorem dL_law_459 : decode cL_law 459 = .ok (.invokevirtual 52, 3) := by decide +kernel
theorem dL_law_462 : decode cL_law 462 = .ok (.if_icmp .eq 953, 3) := by decide +kernel
theorem dL_law_465 : decode cL_law 465 = .ok (.iconst 0, 1) := by decide +kernel
theorem dL_law_466 : decode cL_law 466 = .ok (.ireturn, 1) := by decide +kernel
theorem dL_law_467 : decode cL_law 467 = .ok (.aload_n 1, 1) := by decide +kernel
theorem dL_law_468 : decode cL_law 468 = .ok (.aload_n 0, 1) := by decide +kernel
theorem dL_law_469 : decode cL_law 469 = .ok (.iload_n 3, 1) := by decide +kernel
theorem dL_law_470 : decode cL_law 470 = .ok (.iconst 1, 1) := by decide +kernel
theorem dL_law_471 : decode cL_law 471 = .ok (.iadd, 1) := by decide +kernel
theorem dL_law_472 : decode cL_law 472 = .ok (.iaload, 1) := by decide +kernel
theorem dL_law_473 : decode cL_law 473 = .ok (.aload_n 0, 1) := by decide +kernel
theorem dL_law_474 : decode cL_law 474 = .ok (.iload_n 3, 1) := by decide +kernel
theorem dL_law_475 : decode cL_law 475 = .ok (.iconst 2, 1) := by decide +kernel
theorem dL_law_476 : decode cL_law 476 = .ok (.iadd, 1) := by decide +kernel
theorem dL_law_477 : decode cL_law 477 = .ok (.iaload, 1) := by decide +kernel
theorem dL_law_478 : decode cL_law 478 = .ok (.aload_n 0, 1) := by decide +kernel
theorem dL_law_479 : decode cL_law 479 = .ok (.iload_n 3, 1) := by decide +kernel
theorem dL_law_480 : decode cL_law 480 = .ok (.iconst 3, 1) := by decide +kernel
theorem dL_law_481 : decode cL_law 481 = .ok (.iadd, 1) := by decide +kernel
theorem dL_law_482 : decode cL_law 482 = .ok (.iaload, 1) := by decide +kernel
theorem dL_law_483 : decode cL_law 483 = .ok (.invokevirtual 53, 3) := by decide +kernel
