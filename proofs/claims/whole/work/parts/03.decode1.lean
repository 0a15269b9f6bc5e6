theorem dX4_grown_139 : decode cX4_grown 139 = .ok (.getfield 18, 3) := by decide +kernel
theorem dX4_grown_142 : decode cX4_grown 142 = .ok (.iload 9, 2) := by decide +kernel
theorem dX4_grown_144 : decode cX4_grown 144 = .ok (.iaload, 1) := by decide +kernel
theorem dX4_grown_145 : decode cX4_grown 145 = .ok (.istore 8, 2) := by decide +kernel
theorem dX4_grown_147 : decode cX4_grown 147 = .ok (.iinc 9 1, 3) := by decide +kernel
theorem dX4_grown_150 : decode cX4_grown 150 = .ok (.goto (-66), 3) := by decide +kernel
theorem dX4_grown_153 : decode cX4_grown 153 = .ok (.bipush (-20), 2) := by decide +kernel
theorem dX4_grown_155 : decode cX4_grown 155 = .ok (.bipush 20, 2) := by decide +kernel
theorem dX4_grown_157 : decode cX4_grown 157 = .ok (.iload 7, 2) := by decide +kernel
theorem dX4_grown_159 : decode cX4_grown 159 = .ok (.invokestatic 45, 3) := by decide +kernel
theorem dX4_grown_162 : decode cX4_grown 162 = .ok (.invokestatic 50, 3) := by decide +kernel
theorem dX4_grown_165 : decode cX4_grown 165 = .ok (.istore 7, 2) := by decide +kernel
theorem dX4_grown_167 : decode cX4_grown 167 = .ok (.iconst 0, 1) := by decide +kernel
theorem dX4_grown_168 : decode cX4_grown 168 = .ok (.bipush 99, 2) := by decide +kernel
theorem dX4_grown_170 : decode cX4_grown 170 = .ok (.iload_n 2, 1) := by decide +kernel
theorem dX4_grown_171 : decode cX4_grown 171 = .ok (.iload 7, 2) := by decide +kernel
theorem dX4_grown_173 : decode cX4_grown 173 = .ok (.iadd, 1) := by decide +kernel
theorem dX4_grown_174 : decode cX4_grown 174 = .ok (.invokestatic 45, 3) := by decide +kernel
theorem dX4_grown_177 : decode cX4_grown 177 = .ok (.invokestatic 50, 3) := by decide +kernel
theorem dX4_grown_180 : decode cX4_grown 180 = .ok (.ireturn, 1) := by decide +kernel
theorem dX4_workedOut_0 : decode cX4_workedOut 0 = .ok (.iconst 0, 1) := by decide +kernel
theorem dX4_workedOut_1 : decode cX4_workedOut 1 = .ok (.istore_n 3, 1) := by decide +kernel
theorem dX4_workedOut_2 : decode cX4_workedOut 2 = .ok (.iload_n 1, 1) := by decide +kernel
theorem dX4_workedOut_3 : decode cX4_workedOut 3 = .ok (.istore 4, 2) := by decide +kernel
theorem dX4_workedOut_5 : decode cX4_workedOut 5 = .ok (.iload 4, 2) := by decide +kernel
theorem dX4_workedOut_7 : decode cX4_workedOut 7 = .ok (.iload_n 2, 1) := by decide +kernel
theorem dX4_workedOut_8 : decode cX4_workedOut 8 = .ok (.if_icmp .ge 156, 3) := by decide +kernel
theorem dX4_workedOut_11 : decode cX4_workedOut 11 = .ok (.aload_n 0, 1) := by decide +kernel
theorem dX4_workedOut_12 : decode cX4_workedOut 12 = .ok (.getfield 9, 3) := by decide +kernel
theorem dX4_workedOut_15 : decode cX4_workedOut 15 = .ok (.iload 4, 2) := by decide +kernel
theorem dX4_workedOut_17 : decode cX4_workedOut 17 = .ok (.iaload, 1) := by decide +kernel
theorem dX4_workedOut_18 : decode cX4_workedOut 18 = .ok (.istore 5, 2) := by decide +kernel
theorem dX4_workedOut_20 : decode cX4_workedOut 20 = .ok (.iload 5, 2) := by decide +kernel
theorem dX4_workedOut_22 : decode cX4_workedOut 22 = .ok (.bipush (-6), 2) := by decide +kernel
theorem dX4_workedOut_24 : decode cX4_workedOut 24 = .ok (.if_icmp .lt 43, 3) := by decide +kernel
theorem dX4_workedOut_27 : decode cX4_workedOut 27 = .ok (.iload_n 3, 1) := by decide +kernel
theorem dX4_workedOut_28 : decode cX4_workedOut 28 = .ok (.aload_n 0, 1) := by decide +kernel
theorem dX4_workedOut_29 : decode cX4_workedOut 29 = .ok (.getfield 21, 3) := by decide +kernel
theorem dX4_workedOut_32 : decode cX4_workedOut 32 = .ok (.arraylength, 1) := by decide +kernel
theorem dX4_workedOut_33 : decode cX4_workedOut 33 = .ok (.if_icmp .ge 125, 3) := by decide +kernel
theorem dX4_workedOut_36 : decode cX4_workedOut 36 = .ok (.aload_n 0, 1) := by decide +kernel
theorem dX4_workedOut_37 : decode cX4_workedOut 37 = .ok (.getfield 21, 3) := by decide +kernel
theorem dX4_workedOut_40 : decode cX4_workedOut 40 = .ok (.iload_n 3, 1) := by decide +kernel
theorem dX4_workedOut_41 : decode cX4_workedOut 41 = .ok (.iinc 3 1, 3) := by decide +kernel
theorem dX4_workedOut_44 : decode cX4_workedOut 44 = .ok (.iload 5, 2) := by decide +kernel
theorem dX4_workedOut_46 : decode cX4_workedOut 46 = .ok (.ifCond .lt 8, 3) := by decide +kernel
theorem dX4_workedOut_49 : decode cX4_workedOut 49 = .ok (.iload 5, 2) := by decide +kernel
theorem dX4_workedOut_51 : decode cX4_workedOut 51 = .ok (.goto 12, 3) := by decide +kernel
theorem dX4_workedOut_54 : decode cX4_workedOut 54 = .ok (.aload_n 0, 1) := by decide +kernel
theorem dX4_workedOut_55 : decode cX4_workedOut 55 = .ok (.getfield 24, 3) := by decide +kernel
theorem dX4_workedOut_58 : decode cX4_workedOut 58 = .ok (.iconst (-1), 1) := by decide +kernel
theorem dX4_workedOut_59 : decode cX4_workedOut 59 = .ok (.iload 5, 2) := by decide +kernel
theorem dX4_workedOut_61 : decode cX4_workedOut 61 = .ok (.isub, 1) := by decide +kernel
theorem dX4_workedOut_62 : decode cX4_workedOut 62 = .ok (.iaload, 1) := by decide +kernel
theorem dX4_workedOut_63 : decode cX4_workedOut 63 = .ok (.iastore, 1) := by decide +kernel
theorem dX4_workedOut_64 : decode cX4_workedOut 64 = .ok (.goto 94, 3) := by decide +kernel
theorem dX4_workedOut_67 : decode cX4_workedOut 67 = .ok (.iload 5, 2) := by decide +kernel
theorem dX4_workedOut_69 : decode cX4_workedOut 69 = .ok (.bipush (-8), 2) := by decide +kernel
theorem dX4_workedOut_71 : decode cX4_workedOut 71 = .ok (.if_icmp .lt 52, 3) := by decide +kernel
theorem dX4_workedOut_74 : decode cX4_workedOut 74 = .ok (.iload_n 3, 1) := by decide +kernel
theorem dX4_workedOut_75 : decode cX4_workedOut 75 = .ok (.iconst 1, 1) := by decide +kernel
theorem dX4_workedOut_76 : decode cX4_workedOut 76 = .ok (.if_icmp .lt 82, 3) := by decide +kernel
theorem dX4_workedOut_79 : decode cX4_workedOut 79 = .ok (.aload_n 0, 1) := by decide +kernel
theorem dX4_workedOut_80 : decode cX4_workedOut 80 = .ok (.getfield 21, 3) := by decide +kernel
theorem dX4_workedOut_83 : decode cX4_workedOut 83 = .ok (.iload_n 3, 1) := by decide +kernel
theorem dX4_workedOut_84 : decode cX4_workedOut 84 = .ok (.iconst 1, 1) := by decide +kernel
theorem dX4_workedOut_85 : decode cX4_workedOut 85 = .ok (.isub, 1) := by decide +kernel
theorem dX4_workedOut_86 : decode cX4_workedOut 86 = .ok (.iaload, 1) := by decide +kernel
theorem dX4_workedOut_87 : decode cX4_workedOut 87 = .ok (.istore 6, 2) := by decide +kernel
theorem dX4_workedOut_89 : decode cX4_workedOut 89 = .ok (.aload_n 0, 1) := by decide +kernel
theorem dX4_workedOut_90 : decode cX4_workedOut 90 = .ok (.getfield 21, 3) := by decide +kernel
theorem dX4_workedOut_93 : decode cX4_workedOut 93 = .ok (.iload_n 3, 1) := by decide +kernel
theorem dX4_workedOut_94 : decode cX4_workedOut 94 = .ok (.iconst 1, 1) := by decide +kernel
theorem dX4_workedOut_95 : decode cX4_workedOut 95 = .ok (.isub, 1) := by decide +kernel
theorem dX4_workedOut_96 : decode cX4_workedOut 96 = .ok (.iload 5, 2) := by decide +kernel
theorem dX4_workedOut_98 : decode cX4_workedOut 98 = .ok (.bipush (-8), 2) := by decide +kernel
theorem dX4_workedOut_100 : decode cX4_workedOut 100 = .ok (.if_icmp .ne 9, 3) := by decide +kernel
theorem dX4_workedOut_103 : decode cX4_workedOut 103 = .ok (.iload 6, 2) := by decide +kernel
theorem dX4_workedOut_105 : decode cX4_workedOut 105 = .ok (.ineg, 1) := by decide +kernel
theorem dX4_workedOut_106 : decode cX4_workedOut 106 = .ok (.goto 13, 3) := by decide +kernel
theorem dX4_workedOut_109 : decode cX4_workedOut 109 = .ok (.iload 6, 2) := by decide +kernel
theorem dX4_workedOut_111 : decode cX4_workedOut 111 = .ok (.ifCond .ne 7, 3) := by decide +kernel
theorem dX4_workedOut_114 : decode cX4_workedOut 114 = .ok (.iconst 1, 1) := by decide +kernel
theorem dX4_workedOut_115 : decode cX4_workedOut 115 = .ok (.goto 4, 3) := by decide +kernel
theorem dX4_workedOut_118 : decode cX4_workedOut 118 = .ok (.iconst 0, 1) := by decide +kernel
theorem dX4_workedOut_119 : decode cX4_workedOut 119 = .ok (.iastore, 1) := by decide +kernel
theorem dX4_workedOut_120 : decode cX4_workedOut 120 = .ok (.goto 38, 3) := by decide +kernel
theorem dX4_workedOut_123 : decode cX4_workedOut 123 = .ok (.iload_n 3, 1) := by decide +kernel
theorem dX4_workedOut_124 : decode cX4_workedOut 124 = .ok (.iconst 2, 1) := by decide +kernel
theorem dX4_workedOut_125 : decode cX4_workedOut 125 = .ok (.if_icmp .lt 33, 3) := by decide +kernel
theorem dX4_workedOut_128 : decode cX4_workedOut 128 = .ok (.iinc 3 (-1), 3) := by decide +kernel
theorem dX4_workedOut_131 : decode cX4_workedOut 131 = .ok (.aload_n 0, 1) := by decide +kernel
theorem dX4_workedOut_132 : decode cX4_workedOut 132 = .ok (.getfield 21, 3) := by decide +kernel
theorem dX4_workedOut_135 : decode cX4_workedOut 135 = .ok (.iload_n 3, 1) := by decide +kernel
theorem dX4_workedOut_136 : decode cX4_workedOut 136 = .ok (.iconst 1, 1) := by decide +kernel
theorem dX4_workedOut_137 : decode cX4_workedOut 137 = .ok (.isub, 1) := by decide +kernel
theorem dX4_workedOut_138 : decode cX4_workedOut 138 = .ok (.iload 5, 2) := by decide +kernel
theorem dX4_workedOut_140 : decode cX4_workedOut 140 = .ok (.aload_n 0, 1) := by decide +kernel
theorem dX4_workedOut_141 : decode cX4_workedOut 141 = .ok (.getfield 21, 3) := by decide +kernel
theorem dX4_workedOut_144 : decode cX4_workedOut 144 = .ok (.iload_n 3, 1) := by decide +kernel
theorem dX4_workedOut_145 : decode cX4_workedOut 145 = .ok (.iconst 1, 1) := by decide +kernel
theorem dX4_workedOut_146 : decode cX4_workedOut 146 = .ok (.isub, 1) := by decide +kernel
theorem dX4_workedOut_147 : decode cX4_workedOut 147 = .ok (.iaload, 1) := by decide +kernel
theorem dX4_workedOut_148 : decode cX4_workedOut 148 = .ok (.aload_n 0, 1) := by decide +kernel
theorem dX4_workedOut_149 : decode cX4_workedOut 149 = .ok (.getfield 21, 3) := by decide +kernel
theorem dX4_workedOut_152 : decode cX4_workedOut 152 = .ok (.iload_n 3, 1) := by decide +kernel
theorem dX4_workedOut_153 : decode cX4_workedOut 153 = .ok (.iaload, 1) := by decide +kernel
theorem dX4_workedOut_154 : decode cX4_workedOut 154 = .ok (.invokestatic 53, 3) := by decide +kernel
theorem dX4_workedOut_157 : decode cX4_workedOut 157 = .ok (.iastore, 1) := by decide +kernel
theorem dX4_workedOut_158 : decode cX4_workedOut 158 = .ok (.iinc 4 1, 3) := by decide +kernel
theorem dX4_workedOut_161 : decode cX4_workedOut 161 = .ok (.goto (-156), 3) := by decide +kernel
theorem dX4_workedOut_164 : decode cX4_workedOut 164 = .ok (.iload_n 3, 1) := by decide +kernel
theorem dX4_workedOut_165 : decode cX4_workedOut 165 = .ok (.ifCond .le 12, 3) := by decide +kernel
theorem dX4_workedOut_168 : decode cX4_workedOut 168 = .ok (.aload_n 0, 1) := by decide +kernel
theorem dX4_workedOut_169 : decode cX4_workedOut 169 = .ok (.getfield 21, 3) := by decide +kernel
theorem dX4_workedOut_172 : decode cX4_workedOut 172 = .ok (.iconst 0, 1) := by decide +kernel
theorem dX4_workedOut_173 : decode cX4_workedOut 173 = .ok (.iaload, 1) := by decide +kernel
theorem dX4_workedOut_174 : decode cX4_workedOut 174 = .ok (.goto 4, 3) := by decide +kernel
theorem dX4_workedOut_177 : decode cX4_workedOut 177 = .ok (.iconst 0, 1) := by decide +kernel
theorem dX4_workedOut_178 : decode cX4_workedOut 178 = .ok (.ireturn, 1) := by decide +kernel
theorem dX4_joined_0 : decode cX4_joined 0 = .ok (.iload_n 0, 1) := by decide +kernel
theorem dX4_joined_1 : decode cX4_joined 1 = .ok (.tableswitch 134 (-17) (-9) #[120, 109, 98, 87, 83, 79, 67, 55, 51], 51) := by decide +kernel
theorem dX4_joined_52 : decode cX4_joined 52 = .ok (.iload_n 1, 1) := by decide +kernel
theorem dX4_joined_53 : decode cX4_joined 53 = .ok (.iload_n 2, 1) := by decide +kernel
theorem dX4_joined_54 : decode cX4_joined 54 = .ok (.imul, 1) := by decide +kernel
theorem dX4_joined_55 : decode cX4_joined 55 = .ok (.ireturn, 1) := by decide +kernel
theorem dX4_joined_56 : decode cX4_joined 56 = .ok (.iload_n 2, 1) := by decide +kernel
theorem dX4_joined_57 : decode cX4_joined 57 = .ok (.ifCond .ne 7, 3) := by decide +kernel
theorem dX4_joined_60 : decode cX4_joined 60 = .ok (.iconst 0, 1) := by decide +kernel
theorem dX4_joined_61 : decode cX4_joined 61 = .ok (.goto 6, 3) := by decide +kernel
theorem dX4_joined_64 : decode cX4_joined 64 = .ok (.iload_n 1, 1) := by decide +kernel
theorem dX4_joined_65 : decode cX4_joined 65 = .ok (.iload_n 2, 1) := by decide +kernel
theorem dX4_joined_66 : decode cX4_joined 66 = .ok (.idiv, 1) := by decide +kernel
theorem dX4_joined_67 : decode cX4_joined 67 = .ok (.ireturn, 1) := by decide +kernel
theorem dX4_joined_68 : decode cX4_joined 68 = .ok (.iload_n 2, 1) := by decide +kernel
theorem dX4_joined_69 : decode cX4_joined 69 = .ok (.ifCond .ne 7, 3) := by decide +kernel
theorem dX4_joined_72 : decode cX4_joined 72 = .ok (.iconst 0, 1) := by decide +kernel
theorem dX4_joined_73 : decode cX4_joined 73 = .ok (.goto 6, 3) := by decide +kernel
theorem dX4_joined_76 : decode cX4_joined 76 = .ok (.iload_n 1, 1) := by decide +kernel
theorem dX4_joined_77 : decode cX4_joined 77 = .ok (.iload_n 2, 1) := by decide +kernel
theorem dX4_joined_78 : decode cX4_joined 78 = .ok (.irem, 1) := by decide +kernel
theorem dX4_joined_79 : decode cX4_joined 79 = .ok (.ireturn, 1) := by decide +kernel
theorem dX4_joined_80 : decode cX4_joined 80 = .ok (.iload_n 1, 1) := by decide +kernel
theorem dX4_joined_81 : decode cX4_joined 81 = .ok (.iload_n 2, 1) := by decide +kernel
theorem dX4_joined_82 : decode cX4_joined 82 = .ok (.iadd, 1) := by decide +kernel
theorem dX4_joined_83 : decode cX4_joined 83 = .ok (.ireturn, 1) := by decide +kernel
theorem dX4_joined_84 : decode cX4_joined 84 = .ok (.iload_n 1, 1) := by decide +kernel
theorem dX4_joined_85 : decode cX4_joined 85 = .ok (.iload_n 2, 1) := by decide +kernel
theorem dX4_joined_86 : decode cX4_joined 86 = .ok (.isub, 1) := by decide +kernel
theorem dX4_joined_87 : decode cX4_joined 87 = .ok (.ireturn, 1) := by decide +kernel
theorem dX4_joined_88 : decode cX4_joined 88 = .ok (.iload_n 1, 1) := by decide +kernel
theorem dX4_joined_89 : decode cX4_joined 89 = .ok (.iload_n 2, 1) := by decide +kernel
theorem dX4_joined_90 : decode cX4_joined 90 = .ok (.if_icmp .ge 7, 3) := by decide +kernel
theorem dX4_joined_93 : decode cX4_joined 93 = .ok (.iconst 1, 1) := by decide +kernel
theorem dX4_joined_94 : decode cX4_joined 94 = .ok (.goto 4, 3) := by decide +kernel
theorem dX4_joined_97 : decode cX4_joined 97 = .ok (.iconst 0, 1) := by decide +kernel
theorem dX4_joined_98 : decode cX4_joined 98 = .ok (.ireturn, 1) := by decide +kernel
theorem dX4_joined_99 : decode cX4_joined 99 = .ok (.iload_n 1, 1) := by decide +kernel
theorem dX4_joined_100 : decode cX4_joined 100 = .ok (.iload_n 2, 1) := by decide +kernel
theorem dX4_joined_101 : decode cX4_joined 101 = .ok (.if_icmp .ne 7, 3) := by decide +kernel
theorem dX4_joined_104 : decode cX4_joined 104 = .ok (.iconst 1, 1) := by decide +kernel
theorem dX4_joined_105 : decode cX4_joined 105 = .ok (.goto 4, 3) := by decide +kernel
theorem dX4_joined_108 : decode cX4_joined 108 = .ok (.iconst 0, 1) := by decide +kernel
theorem dX4_joined_109 : decode cX4_joined 109 = .ok (.ireturn, 1) := by decide +kernel
theorem dX4_joined_110 : decode cX4_joined 110 = .ok (.iload_n 1, 1) := by decide +kernel
theorem dX4_joined_111 : decode cX4_joined 111 = .ok (.iload_n 2, 1) := by decide +kernel
theorem dX4_joined_112 : decode cX4_joined 112 = .ok (.if_icmp .le 7, 3) := by decide +kernel
theorem dX4_joined_115 : decode cX4_joined 115 = .ok (.iconst 1, 1) := by decide +kernel
theorem dX4_joined_116 : decode cX4_joined 116 = .ok (.goto 4, 3) := by decide +kernel
theorem dX4_joined_119 : decode cX4_joined 119 = .ok (.iconst 0, 1) := by decide +kernel
theorem dX4_joined_120 : decode cX4_joined 120 = .ok (.ireturn, 1) := by decide +kernel
theorem dX4_joined_121 : decode cX4_joined 121 = .ok (.iload_n 1, 1) := by decide +kernel
theorem dX4_joined_122 : decode cX4_joined 122 = .ok (.ifCond .eq 11, 3) := by decide +kernel
theorem dX4_joined_125 : decode cX4_joined 125 = .ok (.iload_n 2, 1) := by decide +kernel
theorem dX4_joined_126 : decode cX4_joined 126 = .ok (.ifCond .eq 7, 3) := by decide +kernel
theorem dX4_joined_129 : decode cX4_joined 129 = .ok (.iconst 1, 1) := by decide +kernel
theorem dX4_joined_130 : decode cX4_joined 130 = .ok (.goto 4, 3) := by decide +kernel
theorem dX4_joined_133 : decode cX4_joined 133 = .ok (.iconst 0, 1) := by decide +kernel
theorem dX4_joined_134 : decode cX4_joined 134 = .ok (.ireturn, 1) := by decide +kernel
theorem dX4_joined_135 : decode cX4_joined 135 = .ok (.iload_n 1, 1) := by decide +kernel
theorem dX4_joined_136 : decode cX4_joined 136 = .ok (.ifCond .ne 7, 3) := by decide +kernel
theorem dX4_joined_139 : decode cX4_joined 139 = .ok (.iload_n 2, 1) := by decide +kernel
theorem dX4_joined_140 : decode cX4_joined 140 = .ok (.ifCond .eq 7, 3) := by decide +kernel
theorem dX4_joined_143 : decode cX4_joined 143 = .ok (.iconst 1, 1) := by decide +kernel
theorem dX4_joined_144 : decode cX4_joined 144 = .ok (.goto 4, 3) := by decide +kernel
theorem dX4_joined_147 : decode cX4_joined 147 = .ok (.iconst 0, 1) := by decide +kernel
theorem dX4_joined_148 : decode cX4_joined 148 = .ok (.ireturn, 1) := by decide +kernel
theorem dX5_init_0 : decode cX5_init 0 = .ok (.aload_n 0, 1) := by decide +kernel
theorem dX5_init_1 : decode cX5_init 1 = .ok (.invokespecial 3, 3) := by decide +kernel
theorem dX5_init_4 : decode cX5_init 4 = .ok (.aload_n 0, 1) := by decide +kernel
theorem dX5_init_5 : decode cX5_init 5 = .ok (.bipush 8, 2) := by decide +kernel
theorem dX5_init_7 : decode cX5_init 7 = .ok (.newarray .int, 2) := by decide +kernel
theorem dX5_init_9 : decode cX5_init 9 = .ok (.putfield 11, 3) := by decide +kernel
theorem dX5_init_12 : decode cX5_init 12 = .ok (.aload_n 0, 1) := by decide +kernel
theorem dX5_init_13 : decode cX5_init 13 = .ok (.bipush 8, 2) := by decide +kernel
theorem dX5_init_15 : decode cX5_init 15 = .ok (.newarray .int, 2) := by decide +kernel
theorem dX5_init_17 : decode cX5_init 17 = .ok (.putfield 15, 3) := by decide +kernel
theorem dX5_init_20 : decode cX5_init 20 = .ok (.aload_n 0, 1) := by decide +kernel
theorem dX5_init_21 : decode cX5_init 21 = .ok (.bipush 30, 2) := by decide +kernel
theorem dX5_init_23 : decode cX5_init 23 = .ok (.newarray .int, 2) := by decide +kernel
theorem dX5_init_25 : decode cX5_init 25 = .ok (.putfield 18, 3) := by decide +kernel
theorem dX5_init_28 : decode cX5_init 28 = .ok (.aload_n 0, 1) := by decide +kernel
theorem dX5_init_29 : decode cX5_init 29 = .ok (.bipush 15, 2) := by decide +kernel
theorem dX5_init_31 : decode cX5_init 31 = .ok (.newarray .int, 2) := by decide +kernel
theorem dX5_init_33 : decode cX5_init 33 = .ok (.putfield 21, 3) := by decide +kernel
theorem dX5_init_36 : decode cX5_init 36 = .ok (.return_, 1) := by decide +kernel
theorem dX5_come_0 : decode cX5_come 0 = .ok (.aload_n 0, 1) := by decide +kernel
theorem dX5_come_1 : decode cX5_come 1 = .ok (.getfield 24, 3) := by decide +kernel
theorem dX5_come_4 : decode cX5_come 4 = .ok (.bipush 8, 2) := by decide +kernel
theorem dX5_come_6 : decode cX5_come 6 = .ok (.if_icmp .lt 6, 3) := by decide +kernel
theorem dX5_come_9 : decode cX5_come 9 = .ok (.bipush (-3), 2) := by decide +kernel
theorem dX5_come_11 : decode cX5_come 11 = .ok (.ireturn, 1) := by decide +kernel
theorem dX5_come_12 : decode cX5_come 12 = .ok (.aload_n 0, 1) := by decide +kernel
theorem dX5_come_13 : decode cX5_come 13 = .ok (.getfield 11, 3) := by decide +kernel
theorem dX5_come_16 : decode cX5_come 16 = .ok (.aload_n 0, 1) := by decide +kernel
theorem dX5_come_17 : decode cX5_come 17 = .ok (.getfield 24, 3) := by decide +kernel
theorem dX5_come_20 : decode cX5_come 20 = .ok (.iload_n 1, 1) := by decide +kernel
theorem dX5_come_21 : decode cX5_come 21 = .ok (.iastore, 1) := by decide +kernel
theorem dX5_come_22 : decode cX5_come 22 = .ok (.aload_n 0, 1) := by decide +kernel
theorem dX5_come_23 : decode cX5_come 23 = .ok (.getfield 15, 3) := by decide +kernel
theorem dX5_come_26 : decode cX5_come 26 = .ok (.aload_n 0, 1) := by decide +kernel
theorem dX5_come_27 : decode cX5_come 27 = .ok (.getfield 24, 3) := by decide +kernel
theorem dX5_come_30 : decode cX5_come 30 = .ok (.bipush 31, 2) := by decide +kernel
theorem dX5_come_32 : decode cX5_come 32 = .ok (.iastore, 1) := by decide +kernel
theorem dX5_come_33 : decode cX5_come 33 = .ok (.aload_n 0, 1) := by decide +kernel
theorem dX5_come_34 : decode cX5_come 34 = .ok (.dup, 1) := by decide +kernel
theorem dX5_come_35 : decode cX5_come 35 = .ok (.getfield 24, 3) := by decide +kernel
theorem dX5_come_38 : decode cX5_come 38 = .ok (.dup_x1, 1) := by decide +kernel
theorem dX5_come_39 : decode cX5_come 39 = .ok (.iconst 1, 1) := by decide +kernel
theorem dX5_come_40 : decode cX5_come 40 = .ok (.iadd, 1) := by decide +kernel
theorem dX5_come_41 : decode cX5_come 41 = .ok (.putfield 24, 3) := by decide +kernel
theorem dX5_come_44 : decode cX5_come 44 = .ok (.ireturn, 1) := by decide +kernel
theorem dX5_isOne_0 : decode cX5_isOne 0 = .ok (.iload_n 1, 1) := by decide +kernel
theorem dX5_isOne_1 : decode cX5_isOne 1 = .ok (.ifCond .lt 15, 3) := by decide +kernel
theorem dX5_isOne_4 : decode cX5_isOne 4 = .ok (.iload_n 1, 1) := by decide +kernel
theorem dX5_isOne_5 : decode cX5_isOne 5 = .ok (.aload_n 0, 1) := by decide +kernel
theorem dX5_isOne_6 : decode cX5_isOne 6 = .ok (.getfield 24, 3) := by decide +kernel
theorem dX5_isOne_9 : decode cX5_isOne 9 = .ok (.if_icmp .ge 7, 3) := by decide +kernel
theorem dX5_isOne_12 : decode cX5_isOne 12 = .ok (.iconst 1, 1) := by decide +kernel
theorem dX5_isOne_13 : decode cX5_isOne 13 = .ok (.goto 4, 3) := by decide +kernel
theorem dX5_isOne_16 : decode cX5_isOne 16 = .ok (.iconst 0, 1) := by decide +kernel
theorem dX5_isOne_17 : decode cX5_isOne 17 = .ok (.ireturn, 1) := by decide +kernel
theorem dX5_tells_0 : decode cX5_tells 0 = .ok (.iconst 0, 1) := by decide +kernel
theorem dX5_tells_1 : decode cX5_tells 1 = .ok (.istore 6, 2) := by decide +kernel
theorem dX5_tells_3 : decode cX5_tells 3 = .ok (.iload 6, 2) := by decide +kernel
theorem dX5_tells_5 : decode cX5_tells 5 = .ok (.iconst 5, 1) := by decide +kernel
theorem dX5_tells_6 : decode cX5_tells 6 = .ok (.if_icmp .ge 64, 3) := by decide +kernel
theorem dX5_tells_9 : decode cX5_tells 9 = .ok (.aload_n 0, 1) := by decide +kernel
theorem dX5_tells_10 : decode cX5_tells 10 = .ok (.getfield 15, 3) := by decide +kernel
theorem dX5_tells_13 : decode cX5_tells 13 = .ok (.iload_n 1, 1) := by decide +kernel
theorem dX5_tells_14 : decode cX5_tells 14 = .ok (.iaload, 1) := by decide +kernel
theorem dX5_tells_15 : decode cX5_tells 15 = .ok (.iload 6, 2) := by decide +kernel
theorem dX5_tells_17 : decode cX5_tells 17 = .ok (.ishr, 1) := by decide +kernel
theorem dX5_tells_18 : decode cX5_tells 18 = .ok (.iconst 1, 1) := by decide +kernel
theorem dX5_tells_19 : decode cX5_tells 19 = .ok (.iand, 1) := by decide +kernel
theorem dX5_tells_20 : decode cX5_tells 20 = .ok (.ifCond .eq 7, 3) := by decide +kernel
theorem dX5_tells_23 : decode cX5_tells 23 = .ok (.iconst 1, 1) := by decide +kernel
theorem dX5_tells_24 : decode cX5_tells 24 = .ok (.goto 4, 3) := by decide +kernel
theorem dX5_tells_27 : decode cX5_tells 27 = .ok (.iconst 0, 1) := by decide +kernel
theorem dX5_tells_28 : decode cX5_tells 28 = .ok (.istore 7, 2) := by decide +kernel
theorem dX5_tells_30 : decode cX5_tells 30 = .ok (.iload 7, 2) := by decide +kernel
theorem dX5_tells_32 : decode cX5_tells 32 = .ok (.ifCond .eq 32, 3) := by decide +kernel
theorem dX5_tells_35 : decode cX5_tells 35 = .ok (.aload_n 2, 1) := by decide +kernel
theorem dX5_tells_36 : decode cX5_tells 36 = .ok (.iload_n 3, 1) := by decide +kernel
theorem dX5_tells_37 : decode cX5_tells 37 = .ok (.iload 6, 2) := by decide +kernel
theorem dX5_tells_39 : decode cX5_tells 39 = .ok (.iadd, 1) := by decide +kernel
theorem dX5_tells_40 : decode cX5_tells 40 = .ok (.iaload, 1) := by decide +kernel
theorem dX5_tells_41 : decode cX5_tells 41 = .ok (.aload 4, 2) := by decide +kernel
theorem dX5_tells_43 : decode cX5_tells 43 = .ok (.iload 5, 2) := by decide +kernel
theorem dX5_tells_45 : decode cX5_tells 45 = .ok (.iload 6, 2) := by decide +kernel
theorem dX5_tells_47 : decode cX5_tells 47 = .ok (.iadd, 1) := by decide +kernel
theorem dX5_tells_48 : decode cX5_tells 48 = .ok (.iaload, 1) := by decide +kernel
theorem dX5_tells_49 : decode cX5_tells 49 = .ok (.isub, 1) := by decide +kernel
theorem dX5_tells_50 : decode cX5_tells 50 = .ok (.invokestatic 28, 3) := by decide +kernel
theorem dX5_tells_53 : decode cX5_tells 53 = .ok (.aload_n 0, 1) := by decide +kernel
theorem dX5_tells_54 : decode cX5_tells 54 = .ok (.getfield 11, 3) := by decide +kernel
theorem dX5_tells_57 : decode cX5_tells 57 = .ok (.iload_n 1, 1) := by decide +kernel
theorem dX5_tells_58 : decode cX5_tells 58 = .ok (.iaload, 1) := by decide +kernel
theorem dX5_tells_59 : decode cX5_tells 59 = .ok (.if_icmp .lt 5, 3) := by decide +kernel
theorem dX5_tells_62 : decode cX5_tells 62 = .ok (.iconst 1, 1) := by decide +kernel
theorem dX5_tells_63 : decode cX5_tells 63 = .ok (.ireturn, 1) := by decide +kernel
theorem dX5_tells_64 : decode cX5_tells 64 = .ok (.iinc 6 1, 3) := by decide +kernel
theorem dX5_tells_67 : decode cX5_tells 67 = .ok (.goto (-64), 3) := by decide +kernel
theorem dX5_tells_70 : decode cX5_tells 70 = .ok (.iconst 0, 1) := by decide +kernel
theorem dX5_tells_71 : decode cX5_tells 71 = .ok (.ireturn, 1) := by decide +kernel
theorem dX5_fewest_0 : decode cX5_fewest 0 = .ok (.aload_n 0, 1) := by decide +kernel
theorem dX5_fewest_1 : decode cX5_fewest 1 = .ok (.aload_n 0, 1) := by decide +kernel
theorem dX5_fewest_2 : decode cX5_fewest 2 = .ok (.aload_n 1, 1) := by decide +kernel
theorem dX5_fewest_3 : decode cX5_fewest 3 = .ok (.invokevirtual 34, 3) := by decide +kernel
theorem dX5_fewest_6 : decode cX5_fewest 6 = .ok (.invokevirtual 38, 3) := by decide +kernel
theorem dX5_fewest_9 : decode cX5_fewest 9 = .ok (.bipush (-2), 2) := by decide +kernel
theorem dX5_fewest_11 : decode cX5_fewest 11 = .ok (.istore_n 2, 1) := by decide +kernel
theorem dX5_fewest_12 : decode cX5_fewest 12 = .ok (.bipush 9, 2) := by decide +kernel
theorem dX5_fewest_14 : decode cX5_fewest 14 = .ok (.istore_n 3, 1) := by decide +kernel
theorem dX5_fewest_15 : decode cX5_fewest 15 = .ok (.iconst 0, 1) := by decide +kernel
theorem dX5_fewest_16 : decode cX5_fewest 16 = .ok (.istore 4, 2) := by decide +kernel
theorem dX5_fewest_18 : decode cX5_fewest 18 = .ok (.iload 4, 2) := by decide +kernel
theorem dX5_fewest_20 : decode cX5_fewest 20 = .ok (.iconst 1, 1) := by decide +kernel
theorem dX5_fewest_21 : decode cX5_fewest 21 = .ok (.aload_n 0, 1) := by decide +kernel
theorem dX5_fewest_22 : decode cX5_fewest 22 = .ok (.getfield 24, 3) := by decide +kernel
theorem dX5_fewest_25 : decode cX5_fewest 25 = .ok (.ishl, 1) := by decide +kernel
theorem dX5_fewest_26 : decode cX5_fewest 26 = .ok (.if_icmp .ge 36, 3) := by decide +kernel
theorem dX5_fewest_29 : decode cX5_fewest 29 = .ok (.iload 4, 2) := by decide +kernel
theorem dX5_fewest_31 : decode cX5_fewest 31 = .ok (.invokestatic 42, 3) := by decide +kernel
theorem dX5_fewest_34 : decode cX5_fewest 34 = .ok (.iload_n 3, 1) := by decide +kernel
theorem dX5_fewest_35 : decode cX5_fewest 35 = .ok (.if_icmp .ge 21, 3) := by decide +kernel
theorem dX5_fewest_38 : decode cX5_fewest 38 = .ok (.aload_n 0, 1) := by decide +kernel
theorem dX5_fewest_39 : decode cX5_fewest 39 = .ok (.iload 4, 2) := by decide +kernel
theorem dX5_fewest_41 : decode cX5_fewest 41 = .ok (.invokevirtual 47, 3) := by decide +kernel
theorem dX5_fewest_44 : decode cX5_fewest 44 = .ok (.ifCond .eq 12, 3) := by decide +kernel
theorem dX5_fewest_47 : decode cX5_fewest 47 = .ok (.iload 4, 2) := by decide +kernel
theorem dX5_fewest_49 : decode cX5_fewest 49 = .ok (.istore_n 2, 1) := by decide +kernel
theorem dX5_fewest_50 : decode cX5_fewest 50 = .ok (.iload 4, 2) := by decide +kernel
theorem dX5_fewest_52 : decode cX5_fewest 52 = .ok (.invokestatic 42, 3) := by decide +kernel
theorem dX5_fewest_55 : decode cX5_fewest 55 = .ok (.istore_n 3, 1) := by decide +kernel
theorem dX5_fewest_56 : decode cX5_fewest 56 = .ok (.iinc 4 1, 3) := by decide +kernel
theorem dX5_fewest_59 : decode cX5_fewest 59 = .ok (.goto (-41), 3) := by decide +kernel
theorem dX5_fewest_62 : decode cX5_fewest 62 = .ok (.iload_n 2, 1) := by decide +kernel
theorem dX5_fewest_63 : decode cX5_fewest 63 = .ok (.ireturn, 1) := by decide +kernel
theorem dX5_soupsOf_0 : decode cX5_soupsOf 0 = .ok (.iconst 0, 1) := by decide +kernel
theorem dX5_soupsOf_1 : decode cX5_soupsOf 1 = .ok (.istore_n 2, 1) := by decide +kernel
theorem dX5_soupsOf_2 : decode cX5_soupsOf 2 = .ok (.iconst 0, 1) := by decide +kernel
theorem dX5_soupsOf_3 : decode cX5_soupsOf 3 = .ok (.istore_n 3, 1) := by decide +kernel
theorem dX5_soupsOf_4 : decode cX5_soupsOf 4 = .ok (.iload_n 3, 1) := by decide +kernel
theorem dX5_soupsOf_5 : decode cX5_soupsOf 5 = .ok (.bipush 6, 2) := by decide +kernel
theorem dX5_soupsOf_7 : decode cX5_soupsOf 7 = .ok (.if_icmp .ge 29, 3) := by decide +kernel
theorem dX5_soupsOf_10 : decode cX5_soupsOf 10 = .ok (.aload_n 1, 1) := by decide +kernel
theorem dX5_soupsOf_11 : decode cX5_soupsOf 11 = .ok (.iload_n 3, 1) := by decide +kernel
theorem dX5_soupsOf_12 : decode cX5_soupsOf 12 = .ok (.iconst 5, 1) := by decide +kernel
theorem dX5_soupsOf_13 : decode cX5_soupsOf 13 = .ok (.imul, 1) := by decide +kernel
theorem dX5_soupsOf_14 : decode cX5_soupsOf 14 = .ok (.aload_n 0, 1) := by decide +kernel
theorem dX5_soupsOf_15 : decode cX5_soupsOf 15 = .ok (.getfield 18, 3) := by decide +kernel
theorem dX5_soupsOf_18 : decode cX5_soupsOf 18 = .ok (.invokevirtual 51, 3) := by decide +kernel
theorem dX5_soupsOf_21 : decode cX5_soupsOf 21 = .ok (.ifCond .ne 6, 3) := by decide +kernel
theorem dX5_soupsOf_24 : decode cX5_soupsOf 24 = .ok (.goto 12, 3) := by decide +kernel
theorem dX5_soupsOf_27 : decode cX5_soupsOf 27 = .ok (.iinc 2 1, 3) := by decide +kernel
theorem dX5_soupsOf_30 : decode cX5_soupsOf 30 = .ok (.iinc 3 1, 3) := by decide +kernel
theorem dX5_soupsOf_33 : decode cX5_soupsOf 33 = .ok (.goto (-29), 3) := by decide +kernel
theorem dX5_soupsOf_36 : decode cX5_soupsOf 36 = .ok (.iload_n 2, 1) := by decide +kernel
theorem dX5_soupsOf_37 : decode cX5_soupsOf 37 = .ok (.ireturn, 1) := by decide +kernel
theorem dX5_pairUp_0 : decode cX5_pairUp 0 = .ok (.aload_n 0, 1) := by decide +kernel
theorem dX5_pairUp_1 : decode cX5_pairUp 1 = .ok (.iconst 0, 1) := by decide +kernel
theorem dX5_pairUp_2 : decode cX5_pairUp 2 = .ok (.putfield 57, 3) := by decide +kernel
theorem dX5_pairUp_5 : decode cX5_pairUp 5 = .ok (.iconst 0, 1) := by decide +kernel
theorem dX5_pairUp_6 : decode cX5_pairUp 6 = .ok (.istore_n 2, 1) := by decide +kernel
theorem dX5_pairUp_7 : decode cX5_pairUp 7 = .ok (.iload_n 2, 1) := by decide +kernel
theorem dX5_pairUp_8 : decode cX5_pairUp 8 = .ok (.iload_n 1, 1) := by decide +kernel
theorem dX5_pairUp_9 : decode cX5_pairUp 9 = .ok (.if_icmp .ge 59, 3) := by decide +kernel
theorem dX5_pairUp_12 : decode cX5_pairUp 12 = .ok (.iload_n 2, 1) := by decide +kernel
theorem dX5_pairUp_13 : decode cX5_pairUp 13 = .ok (.iconst 1, 1) := by decide +kernel
theorem dX5_pairUp_14 : decode cX5_pairUp 14 = .ok (.iadd, 1) := by decide +kernel
theorem dX5_pairUp_15 : decode cX5_pairUp 15 = .ok (.istore_n 3, 1) := by decide +kernel
theorem dX5_pairUp_16 : decode cX5_pairUp 16 = .ok (.iload_n 3, 1) := by decide +kernel
theorem dX5_pairUp_17 : decode cX5_pairUp 17 = .ok (.iload_n 1, 1) := by decide +kernel
theorem dX5_pairUp_18 : decode cX5_pairUp 18 = .ok (.if_icmp .ge 44, 3) := by decide +kernel
theorem dX5_pairUp_21 : decode cX5_pairUp 21 = .ok (.aload_n 0, 1) := by decide +kernel
theorem dX5_pairUp_22 : decode cX5_pairUp 22 = .ok (.getfield 57, 3) := by decide +kernel
theorem dX5_pairUp_25 : decode cX5_pairUp 25 = .ok (.bipush 15, 2) := by decide +kernel
theorem dX5_pairUp_27 : decode cX5_pairUp 27 = .ok (.if_icmp .ge 35, 3) := by decide +kernel
theorem dX5_pairUp_30 : decode cX5_pairUp 30 = .ok (.aload_n 0, 1) := by decide +kernel
theorem dX5_pairUp_31 : decode cX5_pairUp 31 = .ok (.getfield 21, 3) := by decide +kernel
theorem dX5_pairUp_34 : decode cX5_pairUp 34 = .ok (.aload_n 0, 1) := by decide +kernel
theorem dX5_pairUp_35 : decode cX5_pairUp 35 = .ok (.dup, 1) := by decide +kernel
theorem dX5_pairUp_36 : decode cX5_pairUp 36 = .ok (.getfield 57, 3) := by decide +kernel
theorem dX5_pairUp_39 : decode cX5_pairUp 39 = .ok (.dup_x1, 1) := by decide +kernel
theorem dX5_pairUp_40 : decode cX5_pairUp 40 = .ok (.iconst 1, 1) := by decide +kernel
theorem dX5_pairUp_41 : decode cX5_pairUp 41 = .ok (.iadd, 1) := by decide +kernel
theorem dX5_pairUp_42 : decode cX5_pairUp 42 = .ok (.putfield 57, 3) := by decide +kernel
theorem dX5_pairUp_45 : decode cX5_pairUp 45 = .ok (.aload_n 0, 1) := by decide +kernel
theorem dX5_pairUp_46 : decode cX5_pairUp 46 = .ok (.iload_n 2, 1) := by decide +kernel
theorem dX5_pairUp_47 : decode cX5_pairUp 47 = .ok (.iconst 5, 1) := by decide +kernel
theorem dX5_pairUp_48 : decode cX5_pairUp 48 = .ok (.imul, 1) := by decide +kernel
theorem dX5_pairUp_49 : decode cX5_pairUp 49 = .ok (.iload_n 3, 1) := by decide +kernel
theorem dX5_pairUp_50 : decode cX5_pairUp 50 = .ok (.iconst 5, 1) := by decide +kernel
theorem dX5_pairUp_51 : decode cX5_pairUp 51 = .ok (.imul, 1) := by decide +kernel
theorem dX5_pairUp_52 : decode cX5_pairUp 52 = .ok (.invokevirtual 60, 3) := by decide +kernel
theorem dX5_pairUp_55 : decode cX5_pairUp 55 = .ok (.iastore, 1) := by decide +kernel
theorem dX5_pairUp_56 : decode cX5_pairUp 56 = .ok (.iinc 3 1, 3) := by decide +kernel
theorem dX5_pairUp_59 : decode cX5_pairUp 59 = .ok (.goto (-43), 3) := by decide +kernel
theorem dX5_pairUp_62 : decode cX5_pairUp 62 = .ok (.iinc 2 1, 3) := by decide +kernel
theorem dX5_pairUp_65 : decode cX5_pairUp 65 = .ok (.goto (-58), 3) := by decide +kernel
theorem dX5_pairUp_68 : decode cX5_pairUp 68 = .ok (.return_, 1) := by decide +kernel
theorem dX5_tellersOf_0 : decode cX5_tellersOf 0 = .ok (.iconst 0, 1) := by decide +kernel
theorem dX5_tellersOf_1 : decode cX5_tellersOf 1 = .ok (.istore_n 3, 1) := by decide +kernel
theorem dX5_tellersOf_2 : decode cX5_tellersOf 2 = .ok (.iconst 0, 1) := by decide +kernel
theorem dX5_tellersOf_3 : decode cX5_tellersOf 3 = .ok (.istore 4, 2) := by decide +kernel
theorem dX5_tellersOf_5 : decode cX5_tellersOf 5 = .ok (.iload 4, 2) := by decide +kernel
theorem dX5_tellersOf_7 : decode cX5_tellersOf 7 = .ok (.aload_n 0, 1) := by decide +kernel
theorem dX5_tellersOf_8 : decode cX5_tellersOf 8 = .ok (.getfield 24, 3) := by decide +kernel
theorem dX5_tellersOf_11 : decode cX5_tellersOf 11 = .ok (.if_icmp .ge 35, 3) := by decide +kernel
theorem dX5_tellersOf_14 : decode cX5_tellersOf 14 = .ok (.aload_n 0, 1) := by decide +kernel
theorem dX5_tellersOf_15 : decode cX5_tellersOf 15 = .ok (.iload 4, 2) := by decide +kernel
theorem dX5_tellersOf_17 : decode cX5_tellersOf 17 = .ok (.aload_n 0, 1) := by decide +kernel
theorem dX5_tellersOf_18 : decode cX5_tellersOf 18 = .ok (.getfield 18, 3) := by decide +kernel
theorem dX5_tellersOf_21 : decode cX5_tellersOf 21 = .ok (.iload_n 1, 1) := by decide +kernel
theorem dX5_tellersOf_22 : decode cX5_tellersOf 22 = .ok (.aload_n 0, 1) := by decide +kernel
theorem dX5_tellersOf_23 : decode cX5_tellersOf 23 = .ok (.getfield 18, 3) := by decide +kernel
theorem dX5_tellersOf_26 : decode cX5_tellersOf 26 = .ok (.iload_n 2, 1) := by decide +kernel
theorem dX5_tellersOf_27 : decode cX5_tellersOf 27 = .ok (.invokevirtual 64, 3) := by decide +kernel
theorem dX5_tellersOf_30 : decode cX5_tellersOf 30 = .ok (.ifCond .eq 10, 3) := by decide +kernel
theorem dX5_tellersOf_33 : decode cX5_tellersOf 33 = .ok (.iload_n 3, 1) := by decide +kernel
theorem dX5_tellersOf_34 : decode cX5_tellersOf 34 = .ok (.iconst 1, 1) := by decide +kernel
theorem dX5_tellersOf_35 : decode cX5_tellersOf 35 = .ok (.iload 4, 2) := by decide +kernel
theorem dX5_tellersOf_37 : decode cX5_tellersOf 37 = .ok (.ishl, 1) := by decide +kernel
theorem dX5_tellersOf_38 : decode cX5_tellersOf 38 = .ok (.ior, 1) := by decide +kernel
theorem dX5_tellersOf_39 : decode cX5_tellersOf 39 = .ok (.istore_n 3, 1) := by decide +kernel
theorem dX5_tellersOf_40 : decode cX5_tellersOf 40 = .ok (.iinc 4 1, 3) := by decide +kernel
theorem dX5_tellersOf_43 : decode cX5_tellersOf 43 = .ok (.goto (-38), 3) := by decide +kernel
theorem dX5_tellersOf_46 : decode cX5_tellersOf 46 = .ok (.iload_n 3, 1) := by decide +kernel
theorem dX5_tellersOf_47 : decode cX5_tellersOf 47 = .ok (.ireturn, 1) := by decide +kernel
theorem dX5_tellAll_0 : decode cX5_tellAll 0 = .ok (.iconst 0, 1) := by decide +kernel
theorem dX5_tellAll_1 : decode cX5_tellAll 1 = .ok (.istore_n 2, 1) := by decide +kernel
theorem dX5_tellAll_2 : decode cX5_tellAll 2 = .ok (.iload_n 2, 1) := by decide +kernel
theorem dX5_tellAll_3 : decode cX5_tellAll 3 = .ok (.aload_n 0, 1) := by decide +kernel
theorem dX5_tellAll_4 : decode cX5_tellAll 4 = .ok (.getfield 57, 3) := by decide +kernel
theorem dX5_tellAll_7 : decode cX5_tellAll 7 = .ok (.if_icmp .ge 22, 3) := by decide +kernel
theorem dX5_tellAll_10 : decode cX5_tellAll 10 = .ok (.aload_n 0, 1) := by decide +kernel
theorem dX5_tellAll_11 : decode cX5_tellAll 11 = .ok (.getfield 21, 3) := by decide +kernel
theorem dX5_tellAll_14 : decode cX5_tellAll 14 = .ok (.iload_n 2, 1) := by decide +kernel
theorem dX5_tellAll_15 : decode cX5_tellAll 15 = .ok (.iaload, 1) := by decide +kernel
theorem dX5_tellAll_16 : decode cX5_tellAll 16 = .ok (.iload_n 1, 1) := by decide +kernel
theorem dX5_tellAll_17 : decode cX5_tellAll 17 = .ok (.iand, 1) := by decide +kernel
theorem dX5_tellAll_18 : decode cX5_tellAll 18 = .ok (.ifCond .ne 5, 3) := by decide +kernel
theorem dX5_tellAll_21 : decode cX5_tellAll 21 = .ok (.iconst 0, 1) := by decide +kernel
theorem dX5_tellAll_22 : decode cX5_tellAll 22 = .ok (.ireturn, 1) := by decide +kernel
theorem dX5_tellAll_23 : decode cX5_tellAll 23 = .ok (.iinc 2 1, 3) := by decide +kernel
theorem dX5_tellAll_26 : decode cX5_tellAll 26 = .ok (.goto (-24), 3) := by decide +kernel
theorem dX5_tellAll_29 : decode cX5_tellAll 29 = .ok (.iconst 1, 1) := by decide +kernel
theorem dX5_tellAll_30 : decode cX5_tellAll 30 = .ok (.ireturn, 1) := by decide +kernel
theorem dX6_init_0 : decode cX6_init 0 = .ok (.aload_n 0, 1) := by decide +kernel
theorem dX6_init_1 : decode cX6_init 1 = .ok (.invokespecial 3, 3) := by decide +kernel
theorem dX6_init_4 : decode cX6_init 4 = .ok (.aload_n 0, 1) := by decide +kernel
theorem dX6_init_5 : decode cX6_init 5 = .ok (.bipush 8, 2) := by decide +kernel
theorem dX6_init_7 : decode cX6_init 7 = .ok (.newarray .int, 2) := by decide +kernel
theorem dX6_init_9 : decode cX6_init 9 = .ok (.putfield 9, 3) := by decide +kernel
theorem dX6_init_12 : decode cX6_init 12 = .ok (.aload_n 0, 1) := by decide +kernel
theorem dX6_init_13 : decode cX6_init 13 = .ok (.iconst 5, 1) := by decide +kernel
theorem dX6_init_14 : decode cX6_init 14 = .ok (.newarray .int, 2) := by decide +kernel
theorem dX6_init_16 : decode cX6_init 16 = .ok (.putfield 15, 3) := by decide +kernel
theorem dX6_init_19 : decode cX6_init 19 = .ok (.aload_n 0, 1) := by decide +kernel
theorem dX6_init_20 : decode cX6_init 20 = .ok (.iconst 5, 1) := by decide +kernel
theorem dX6_init_21 : decode cX6_init 21 = .ok (.newarray .int, 2) := by decide +kernel
theorem dX6_init_23 : decode cX6_init 23 = .ok (.putfield 18, 3) := by decide +kernel
theorem dX6_init_26 : decode cX6_init 26 = .ok (.return_, 1) := by decide +kernel
theorem dX6_putOn_0 : decode cX6_putOn 0 = .ok (.aload_n 1, 1) := by decide +kernel
theorem dX6_putOn_1 : decode cX6_putOn 1 = .ok (.iconst 0, 1) := by decide +kernel
theorem dX6_putOn_2 : decode cX6_putOn 2 = .ok (.aload_n 0, 1) := by decide +kernel
theorem dX6_putOn_3 : decode cX6_putOn 3 = .ok (.getfield 9, 3) := by decide +kernel
theorem dX6_putOn_6 : decode cX6_putOn 6 = .ok (.iconst 0, 1) := by decide +kernel
theorem dX6_putOn_7 : decode cX6_putOn 7 = .ok (.bipush 8, 2) := by decide +kernel
theorem dX6_putOn_9 : decode cX6_putOn 9 = .ok (.invokestatic 21, 3) := by decide +kernel
theorem dX6_putOn_12 : decode cX6_putOn 12 = .ok (.aload_n 0, 1) := by decide +kernel
theorem dX6_putOn_13 : decode cX6_putOn 13 = .ok (.invokevirtual 27, 3) := by decide +kernel
theorem dX6_putOn_16 : decode cX6_putOn 16 = .ok (.return_, 1) := by decide +kernel
theorem dX6_begin_0 : decode cX6_begin 0 = .ok (.aload_n 0, 1) := by decide +kernel
theorem dX6_begin_1 : decode cX6_begin 1 = .ok (.getfield 15, 3) := by decide +kernel
theorem dX6_begin_4 : decode cX6_begin 4 = .ok (.iconst 0, 1) := by decide +kernel
theorem dX6_begin_5 : decode cX6_begin 5 = .ok (.invokestatic 30, 3) := by decide +kernel
theorem dX6_begin_8 : decode cX6_begin 8 = .ok (.aload_n 0, 1) := by decide +kernel
theorem dX6_begin_9 : decode cX6_begin 9 = .ok (.iconst 0, 1) := by decide +kernel
theorem dX6_begin_10 : decode cX6_begin 10 = .ok (.putfield 36, 3) := by decide +kernel
theorem dX6_begin_13 : decode cX6_begin 13 = .ok (.return_, 1) := by decide +kernel
theorem dX6_becomes_0 : decode cX6_becomes 0 = .ok (.aload_n 1, 1) := by decide +kernel
theorem dX6_becomes_1 : decode cX6_becomes 1 = .ok (.getfield 9, 3) := by decide +kernel
theorem dX6_becomes_4 : decode cX6_becomes 4 = .ok (.iconst 0, 1) := by decide +kernel
theorem dX6_becomes_5 : decode cX6_becomes 5 = .ok (.aload_n 0, 1) := by decide +kernel
theorem dX6_becomes_6 : decode cX6_becomes 6 = .ok (.getfield 9, 3) := by decide +kernel
theorem dX6_becomes_9 : decode cX6_becomes 9 = .ok (.iconst 0, 1) := by decide +kernel
theorem dX6_becomes_10 : decode cX6_becomes 10 = .ok (.bipush 8, 2) := by decide +kernel
theorem dX6_becomes_12 : decode cX6_becomes 12 = .ok (.invokestatic 21, 3) := by decide +kernel
theorem dX6_becomes_15 : decode cX6_becomes 15 = .ok (.aload_n 1, 1) := by decide +kernel
theorem dX6_becomes_16 : decode cX6_becomes 16 = .ok (.getfield 15, 3) := by decide +kernel
theorem dX6_becomes_19 : decode cX6_becomes 19 = .ok (.iconst 0, 1) := by decide +kernel
theorem dX6_becomes_20 : decode cX6_becomes 20 = .ok (.aload_n 0, 1) := by decide +kernel
theorem dX6_becomes_21 : decode cX6_becomes 21 = .ok (.getfield 15, 3) := by decide +kernel
theorem dX6_becomes_24 : decode cX6_becomes 24 = .ok (.iconst 0, 1) := by decide +kernel
theorem dX6_becomes_25 : decode cX6_becomes 25 = .ok (.iconst 5, 1) := by decide +kernel
theorem dX6_becomes_26 : decode cX6_becomes 26 = .ok (.invokestatic 21, 3) := by decide +kernel
theorem dX6_becomes_29 : decode cX6_becomes 29 = .ok (.aload_n 0, 1) := by decide +kernel
theorem dX6_becomes_30 : decode cX6_becomes 30 = .ok (.aload_n 1, 1) := by decide +kernel
theorem dX6_becomes_31 : decode cX6_becomes 31 = .ok (.getfield 36, 3) := by decide +kernel
theorem dX6_becomes_34 : decode cX6_becomes 34 = .ok (.putfield 36, 3) := by decide +kernel
theorem dX6_becomes_37 : decode cX6_becomes 37 = .ok (.return_, 1) := by decide +kernel
theorem dX6_howMuch_0 : decode cX6_howMuch 0 = .ok (.iconst 0, 1) := by decide +kernel
theorem dX6_howMuch_1 : decode cX6_howMuch 1 = .ok (.istore_n 1, 1) := by decide +kernel
theorem dX6_howMuch_2 : decode cX6_howMuch 2 = .ok (.iconst 0, 1) := by decide +kernel
theorem dX6_howMuch_3 : decode cX6_howMuch 3 = .ok (.istore_n 2, 1) := by decide +kernel
theorem dX6_howMuch_4 : decode cX6_howMuch 4 = .ok (.iload_n 2, 1) := by decide +kernel
theorem dX6_howMuch_5 : decode cX6_howMuch 5 = .ok (.bipush 8, 2) := by decide +kernel
theorem dX6_howMuch_7 : decode cX6_howMuch 7 = .ok (.if_icmp .ge 18, 3) := by decide +kernel
theorem dX6_howMuch_10 : decode cX6_howMuch 10 = .ok (.iload_n 1, 1) := by decide +kernel
theorem dX6_howMuch_11 : decode cX6_howMuch 11 = .ok (.aload_n 0, 1) := by decide +kernel
theorem dX6_howMuch_12 : decode cX6_howMuch 12 = .ok (.getfield 9, 3) := by decide +kernel
theorem dX6_howMuch_15 : decode cX6_howMuch 15 = .ok (.iload_n 2, 1) := by decide +kernel
theorem dX6_howMuch_16 : decode cX6_howMuch 16 = .ok (.iaload, 1) := by decide +kernel
theorem dX6_howMuch_17 : decode cX6_howMuch 17 = .ok (.iadd, 1) := by decide +kernel
theorem dX6_howMuch_18 : decode cX6_howMuch 18 = .ok (.istore_n 1, 1) := by decide +kernel
theorem dX6_howMuch_19 : decode cX6_howMuch 19 = .ok (.iinc 2 1, 3) := by decide +kernel
theorem dX6_howMuch_22 : decode cX6_howMuch 22 = .ok (.goto (-18), 3) := by decide +kernel
theorem dX6_howMuch_25 : decode cX6_howMuch 25 = .ok (.iload_n 1, 1) := by decide +kernel
theorem dX6_howMuch_26 : decode cX6_howMuch 26 = .ok (.ireturn, 1) := by decide +kernel
theorem dX6_weigh_0 : decode cX6_weigh 0 = .ok (.aload_n 0, 1) := by decide +kernel
theorem dX6_weigh_1 : decode cX6_weigh 1 = .ok (.getfield 18, 3) := by decide +kernel
theorem dX6_weigh_4 : decode cX6_weigh 4 = .ok (.iconst 0, 1) := by decide +kernel
theorem dX6_weigh_5 : decode cX6_weigh 5 = .ok (.invokestatic 30, 3) := by decide +kernel
theorem dX6_weigh_8 : decode cX6_weigh 8 = .ok (.aload_n 0, 1) := by decide +kernel
theorem dX6_weigh_9 : decode cX6_weigh 9 = .ok (.iconst 0, 1) := by decide +kernel
theorem dX6_weigh_10 : decode cX6_weigh 10 = .ok (.putfield 40, 3) := by decide +kernel
theorem dX6_weigh_13 : decode cX6_weigh 13 = .ok (.iconst 0, 1) := by decide +kernel
theorem dX6_weigh_14 : decode cX6_weigh 14 = .ok (.istore_n 2, 1) := by decide +kernel
theorem dX6_weigh_15 : decode cX6_weigh 15 = .ok (.iload_n 2, 1) := by decide +kernel
theorem dX6_weigh_16 : decode cX6_weigh 16 = .ok (.bipush 8, 2) := by decide +kernel
theorem dX6_weigh_18 : decode cX6_weigh 18 = .ok (.if_icmp .ge 65, 3) := by decide +kernel
theorem dX6_weigh_21 : decode cX6_weigh 21 = .ok (.aload_n 0, 1) := by decide +kernel
theorem dX6_weigh_22 : decode cX6_weigh 22 = .ok (.getfield 9, 3) := by decide +kernel
theorem dX6_weigh_25 : decode cX6_weigh 25 = .ok (.iload_n 2, 1) := by decide +kernel
theorem dX6_weigh_26 : decode cX6_weigh 26 = .ok (.iaload, 1) := by decide +kernel
theorem dX6_weigh_27 : decode cX6_weigh 27 = .ok (.istore_n 3, 1) := by decide +kernel
theorem dX6_weigh_28 : decode cX6_weigh 28 = .ok (.iload_n 3, 1) := by decide +kernel
theorem dX6_weigh_29 : decode cX6_weigh 29 = .ok (.ifCond .le 48, 3) := by decide +kernel
theorem dX6_weigh_32 : decode cX6_weigh 32 = .ok (.aload_n 0, 1) := by decide +kernel
theorem dX6_weigh_33 : decode cX6_weigh 33 = .ok (.dup, 1) := by decide +kernel
theorem dX6_weigh_34 : decode cX6_weigh 34 = .ok (.getfield 40, 3) := by decide +kernel
theorem dX6_weigh_37 : decode cX6_weigh 37 = .ok (.iload_n 3, 1) := by decide +kernel
theorem dX6_weigh_38 : decode cX6_weigh 38 = .ok (.iadd, 1) := by decide +kernel
theorem dX6_weigh_39 : decode cX6_weigh 39 = .ok (.putfield 40, 3) := by decide +kernel
theorem dX6_weigh_42 : decode cX6_weigh 42 = .ok (.iconst 0, 1) := by decide +kernel
theorem dX6_weigh_43 : decode cX6_weigh 43 = .ok (.istore 4, 2) := by decide +kernel
theorem dX6_weigh_45 : decode cX6_weigh 45 = .ok (.iload 4, 2) := by decide +kernel
theorem dX6_weigh_47 : decode cX6_weigh 47 = .ok (.iconst 5, 1) := by decide +kernel
theorem dX6_weigh_48 : decode cX6_weigh 48 = .ok (.if_icmp .ge 29, 3) := by decide +kernel
theorem dX6_weigh_51 : decode cX6_weigh 51 = .ok (.aload_n 0, 1) := by decide +kernel
theorem dX6_weigh_52 : decode cX6_weigh 52 = .ok (.getfield 18, 3) := by decide +kernel
theorem dX6_weigh_55 : decode cX6_weigh 55 = .ok (.iload 4, 2) := by decide +kernel
theorem dX6_weigh_57 : decode cX6_weigh 57 = .ok (.dup2, 1) := by decide +kernel
theorem dX6_weigh_58 : decode cX6_weigh 58 = .ok (.iaload, 1) := by decide +kernel
theorem dX6_weigh_59 : decode cX6_weigh 59 = .ok (.iload_n 3, 1) := by decide +kernel
theorem dX6_weigh_60 : decode cX6_weigh 60 = .ok (.aload_n 1, 1) := by decide +kernel
theorem dX6_weigh_61 : decode cX6_weigh 61 = .ok (.iload_n 2, 1) := by decide +kernel
theorem dX6_weigh_62 : decode cX6_weigh 62 = .ok (.iload 4, 2) := by decide +kernel
theorem dX6_weigh_64 : decode cX6_weigh 64 = .ok (.invokestatic 43, 3) := by decide +kernel
theorem dX6_weigh_67 : decode cX6_weigh 67 = .ok (.iaload, 1) := by decide +kernel
theorem dX6_weigh_68 : decode cX6_weigh 68 = .ok (.imul, 1) := by decide +kernel
theorem dX6_weigh_69 : decode cX6_weigh 69 = .ok (.iadd, 1) := by decide +kernel
theorem dX6_weigh_70 : decode cX6_weigh 70 = .ok (.iastore, 1) := by decide +kernel
theorem dX6_weigh_71 : decode cX6_weigh 71 = .ok (.iinc 4 1, 3) := by decide +kernel
theorem dX6_weigh_74 : decode cX6_weigh 74 = .ok (.goto (-29), 3) := by decide +kernel
theorem dX6_weigh_77 : decode cX6_weigh 77 = .ok (.iinc 2 1, 3) := by decide +kernel
theorem dX6_weigh_80 : decode cX6_weigh 80 = .ok (.goto (-65), 3) := by decide +kernel
theorem dX6_weigh_83 : decode cX6_weigh 83 = .ok (.return_, 1) := by decide +kernel
theorem dX6_pass_0 : decode cX6_pass 0 = .ok (.iload_n 1, 1) := by decide +kernel
theorem dX6_pass_1 : decode cX6_pass 1 = .ok (.istore 5, 2) := by decide +kernel
theorem dX6_pass_3 : decode cX6_pass 3 = .ok (.iload 5, 2) := by decide +kernel
theorem dX6_pass_5 : decode cX6_pass 5 = .ok (.iload_n 2, 1) := by decide +kernel
theorem dX6_pass_6 : decode cX6_pass 6 = .ok (.if_icmp .gt 46, 3) := by decide +kernel
theorem dX6_pass_9 : decode cX6_pass 9 = .ok (.aload_n 0, 1) := by decide +kernel
theorem dX6_pass_10 : decode cX6_pass 10 = .ok (.getfield 15, 3) := by decide +kernel
theorem dX6_pass_13 : decode cX6_pass 13 = .ok (.iload 5, 2) := by decide +kernel
theorem dX6_pass_15 : decode cX6_pass 15 = .ok (.aload_n 3, 1) := by decide +kernel
theorem dX6_pass_16 : decode cX6_pass 16 = .ok (.aload_n 0, 1) := by decide +kernel
theorem dX6_pass_17 : decode cX6_pass 17 = .ok (.getfield 18, 3) := by decide +kernel
theorem dX6_pass_20 : decode cX6_pass 20 = .ok (.iload 5, 2) := by decide +kernel
theorem dX6_pass_22 : decode cX6_pass 22 = .ok (.iaload, 1) := by decide +kernel
theorem dX6_pass_23 : decode cX6_pass 23 = .ok (.aload_n 0, 1) := by decide +kernel
theorem dX6_pass_24 : decode cX6_pass 24 = .ok (.getfield 15, 3) := by decide +kernel
theorem dX6_pass_27 : decode cX6_pass 27 = .ok (.iload 5, 2) := by decide +kernel
theorem dX6_pass_29 : decode cX6_pass 29 = .ok (.iaload, 1) := by decide +kernel
theorem dX6_pass_30 : decode cX6_pass 30 = .ok (.aload_n 0, 1) := by decide +kernel
theorem dX6_pass_31 : decode cX6_pass 31 = .ok (.getfield 36, 3) := by decide +kernel
theorem dX6_pass_34 : decode cX6_pass 34 = .ok (.iload 4, 2) := by decide +kernel
theorem dX6_pass_36 : decode cX6_pass 36 = .ok (.iload 5, 2) := by decide +kernel
theorem dX6_pass_38 : decode cX6_pass 38 = .ok (.aload_n 0, 1) := by decide +kernel
theorem dX6_pass_39 : decode cX6_pass 39 = .ok (.getfield 40, 3) := by decide +kernel
theorem dX6_pass_42 : decode cX6_pass 42 = .ok (.invokevirtual 47, 3) := by decide +kernel
theorem dX6_pass_45 : decode cX6_pass 45 = .ok (.iastore, 1) := by decide +kernel
theorem dX6_pass_46 : decode cX6_pass 46 = .ok (.iinc 5 1, 3) := by decide +kernel
theorem dX6_pass_49 : decode cX6_pass 49 = .ok (.goto (-46), 3) := by decide +kernel
theorem dX6_pass_52 : decode cX6_pass 52 = .ok (.aload_n 0, 1) := by decide +kernel
theorem dX6_pass_53 : decode cX6_pass 53 = .ok (.bipush 99, 2) := by decide +kernel
theorem dX6_pass_55 : decode cX6_pass 55 = .ok (.aload_n 0, 1) := by decide +kernel
theorem dX6_pass_56 : decode cX6_pass 56 = .ok (.getfield 36, 3) := by decide +kernel
theorem dX6_pass_59 : decode cX6_pass 59 = .ok (.iconst 1, 1) := by decide +kernel
theorem dX6_pass_60 : decode cX6_pass 60 = .ok (.iadd, 1) := by decide +kernel
theorem dX6_pass_61 : decode cX6_pass 61 = .ok (.invokestatic 53, 3) := by decide +kernel
theorem dX6_pass_64 : decode cX6_pass 64 = .ok (.putfield 36, 3) := by decide +kernel
theorem dX6_pass_67 : decode cX6_pass 67 = .ok (.return_, 1) := by decide +kernel
theorem dX6_behind_0 : decode cX6_behind 0 = .ok (.iconst 0, 1) := by decide +kernel
theorem dX6_behind_1 : decode cX6_behind 1 = .ok (.istore 5, 2) := by decide +kernel
theorem dX6_behind_3 : decode cX6_behind 3 = .ok (.iconst 0, 1) := by decide +kernel
theorem dX6_behind_4 : decode cX6_behind 4 = .ok (.istore 6, 2) := by decide +kernel
theorem dX6_behind_6 : decode cX6_behind 6 = .ok (.iload 6, 2) := by decide +kernel
theorem dX6_behind_8 : decode cX6_behind 8 = .ok (.iload_n 2, 1) := by decide +kernel
theorem dX6_behind_9 : decode cX6_behind 9 = .ok (.if_icmp .ge 32, 3) := by decide +kernel
theorem dX6_behind_12 : decode cX6_behind 12 = .ok (.aload_n 3, 1) := by decide +kernel
theorem dX6_behind_13 : decode cX6_behind 13 = .ok (.aload_n 0, 1) := by decide +kernel
theorem dX6_behind_14 : decode cX6_behind 14 = .ok (.getfield 18, 3) := by decide +kernel
theorem dX6_behind_17 : decode cX6_behind 17 = .ok (.iload_n 1, 1) := by decide +kernel
theorem dX6_behind_18 : decode cX6_behind 18 = .ok (.iaload, 1) := by decide +kernel
theorem dX6_behind_19 : decode cX6_behind 19 = .ok (.iload 5, 2) := by decide +kernel
theorem dX6_behind_21 : decode cX6_behind 21 = .ok (.iload 6, 2) := by decide +kernel
theorem dX6_behind_23 : decode cX6_behind 23 = .ok (.iload 4, 2) := by decide +kernel
theorem dX6_behind_25 : decode cX6_behind 25 = .ok (.iload_n 1, 1) := by decide +kernel
theorem dX6_behind_26 : decode cX6_behind 26 = .ok (.aload_n 0, 1) := by decide +kernel
theorem dX6_behind_27 : decode cX6_behind 27 = .ok (.getfield 40, 3) := by decide +kernel
theorem dX6_behind_30 : decode cX6_behind 30 = .ok (.invokevirtual 47, 3) := by decide +kernel
theorem dX6_behind_33 : decode cX6_behind 33 = .ok (.istore 5, 2) := by decide +kernel
theorem dX6_behind_35 : decode cX6_behind 35 = .ok (.iinc 6 1, 3) := by decide +kernel
theorem dX6_behind_38 : decode cX6_behind 38 = .ok (.goto (-32), 3) := by decide +kernel
theorem dX6_behind_41 : decode cX6_behind 41 = .ok (.iload 5, 2) := by decide +kernel
theorem dX6_behind_43 : decode cX6_behind 43 = .ok (.ireturn, 1) := by decide +kernel
theorem dX6_farFrom_0 : decode cX6_farFrom 0 = .ok (.iconst 0, 1) := by decide +kernel
theorem dX6_farFrom_1 : decode cX6_farFrom 1 = .ok (.istore_n 2, 1) := by decide +kernel
theorem dX6_farFrom_2 : decode cX6_farFrom 2 = .ok (.iconst 0, 1) := by decide +kernel
theorem dX6_farFrom_3 : decode cX6_farFrom 3 = .ok (.istore_n 3, 1) := by decide +kernel
theorem dX6_farFrom_4 : decode cX6_farFrom 4 = .ok (.iload_n 3, 1) := by decide +kernel
theorem dX6_farFrom_5 : decode cX6_farFrom 5 = .ok (.iconst 5, 1) := by decide +kernel
theorem dX6_farFrom_6 : decode cX6_farFrom 6 = .ok (.if_icmp .ge 25, 3) := by decide +kernel
theorem dX6_farFrom_9 : decode cX6_farFrom 9 = .ok (.iload_n 2, 1) := by decide +kernel
theorem dX6_farFrom_10 : decode cX6_farFrom 10 = .ok (.aload_n 0, 1) := by decide +kernel
theorem dX6_farFrom_11 : decode cX6_farFrom 11 = .ok (.getfield 15, 3) := by decide +kernel
theorem dX6_farFrom_14 : decode cX6_farFrom 14 = .ok (.iload_n 3, 1) := by decide +kernel
theorem dX6_farFrom_15 : decode cX6_farFrom 15 = .ok (.iaload, 1) := by decide +kernel
theorem dX6_farFrom_16 : decode cX6_farFrom 16 = .ok (.aload_n 1, 1) := by decide +kernel
theorem dX6_farFrom_17 : decode cX6_farFrom 17 = .ok (.iload_n 3, 1) := by decide +kernel
theorem dX6_farFrom_18 : decode cX6_farFrom 18 = .ok (.iaload, 1) := by decide +kernel
theorem dX6_farFrom_19 : decode cX6_farFrom 19 = .ok (.isub, 1) := by decide +kernel
theorem dX6_farFrom_20 : decode cX6_farFrom 20 = .ok (.invokestatic 58, 3) := by decide +kernel
theorem dX6_farFrom_23 : decode cX6_farFrom 23 = .ok (.iadd, 1) := by decide +kernel
theorem dX6_farFrom_24 : decode cX6_farFrom 24 = .ok (.istore_n 2, 1) := by decide +kernel
theorem dX6_farFrom_25 : decode cX6_farFrom 25 = .ok (.iinc 3 1, 3) := by decide +kernel
theorem dX6_farFrom_28 : decode cX6_farFrom 28 = .ok (.goto (-24), 3) := by decide +kernel
theorem dX6_farFrom_31 : decode cX6_farFrom 31 = .ok (.iload_n 2, 1) := by decide +kernel
theorem dX6_farFrom_32 : decode cX6_farFrom 32 = .ok (.ireturn, 1) := by decide +kernel
theorem dX6_sumOfTastes_0 : decode cX6_sumOfTastes 0 = .ok (.iconst 0, 1) := by decide +kernel
theorem dX6_sumOfTastes_1 : decode cX6_sumOfTastes 1 = .ok (.istore_n 3, 1) := by decide +kernel
theorem dX6_sumOfTastes_2 : decode cX6_sumOfTastes 2 = .ok (.iload_n 1, 1) := by decide +kernel
theorem dX6_sumOfTastes_3 : decode cX6_sumOfTastes 3 = .ok (.istore 4, 2) := by decide +kernel
theorem dX6_sumOfTastes_5 : decode cX6_sumOfTastes 5 = .ok (.iload 4, 2) := by decide +kernel
theorem dX6_sumOfTastes_7 : decode cX6_sumOfTastes 7 = .ok (.iload_n 2, 1) := by decide +kernel
theorem dX6_sumOfTastes_8 : decode cX6_sumOfTastes 8 = .ok (.if_icmp .gt 19, 3) := by decide +kernel
theorem dX6_sumOfTastes_11 : decode cX6_sumOfTastes 11 = .ok (.iload_n 3, 1) := by decide +kernel
theorem dX6_sumOfTastes_12 : decode cX6_sumOfTastes 12 = .ok (.aload_n 0, 1) := by decide +kernel
theorem dX6_sumOfTastes_13 : decode cX6_sumOfTastes 13 = .ok (.getfield 15, 3) := by decide +kernel
theorem dX6_sumOfTastes_16 : decode cX6_sumOfTastes 16 = .ok (.iload 4, 2) := by decide +kernel
theorem dX6_sumOfTastes_18 : decode cX6_sumOfTastes 18 = .ok (.iaload, 1) := by decide +kernel
theorem dX6_sumOfTastes_19 : decode cX6_sumOfTastes 19 = .ok (.iadd, 1) := by decide +kernel
theorem dX6_sumOfTastes_20 : decode cX6_sumOfTastes 20 = .ok (.istore_n 3, 1) := by decide +kernel
theorem dX6_sumOfTastes_21 : decode cX6_sumOfTastes 21 = .ok (.iinc 4 1, 3) := by decide +kernel
theorem dX6_sumOfTastes_24 : decode cX6_sumOfTastes 24 = .ok (.goto (-19), 3) := by decide +kernel
theorem dX6_sumOfTastes_27 : decode cX6_sumOfTastes 27 = .ok (.iload_n 3, 1) := by decide +kernel
theorem dX6_sumOfTastes_28 : decode cX6_sumOfTastes 28 = .ok (.ireturn, 1) := by decide +kernel
theorem dX7_init_0 : decode cX7_init 0 = .ok (.aload_n 0, 1) := by decide +kernel
theorem dX7_init_1 : decode cX7_init 1 = .ok (.invokespecial 3, 3) := by decide +kernel
theorem dX7_init_4 : decode cX7_init 4 = .ok (.aload_n 0, 1) := by decide +kernel
theorem dX7_init_5 : decode cX7_init 5 = .ok (.bipush 48, 2) := by decide +kernel
theorem dX7_init_7 : decode cX7_init 7 = .ok (.newarray .int, 2) := by decide +kernel
theorem dX7_init_9 : decode cX7_init 9 = .ok (.putfield 9, 3) := by decide +kernel
theorem dX7_init_12 : decode cX7_init 12 = .ok (.aload_n 0, 1) := by decide +kernel
theorem dX7_init_13 : decode cX7_init 13 = .ok (.iconst 5, 1) := by decide +kernel
theorem dX7_init_14 : decode cX7_init 14 = .ok (.newarray .int, 2) := by decide +kernel
theorem dX7_init_16 : decode cX7_init 16 = .ok (.putfield 15, 3) := by decide +kernel
theorem dX7_init_19 : decode cX7_init 19 = .ok (.aload_n 0, 1) := by decide +kernel
theorem dX7_init_20 : decode cX7_init 20 = .ok (.new 18, 3) := by decide +kernel
theorem dX7_init_23 : decode cX7_init 23 = .ok (.dup, 1) := by decide +kernel
theorem dX7_init_24 : decode cX7_init 24 = .ok (.invokespecial 20, 3) := by decide +kernel
theorem dX7_init_27 : decode cX7_init 27 = .ok (.putfield 21, 3) := by decide +kernel
theorem dX7_init_30 : decode cX7_init 30 = .ok (.return_, 1) := by decide +kernel
theorem dX7_becomes_0 : decode cX7_becomes 0 = .ok (.aload_n 1, 1) := by decide +kernel
theorem dX7_becomes_1 : decode cX7_becomes 1 = .ok (.getfield 9, 3) := by decide +kernel
theorem dX7_becomes_4 : decode cX7_becomes 4 = .ok (.iconst 0, 1) := by decide +kernel
theorem dX7_becomes_5 : decode cX7_becomes 5 = .ok (.aload_n 0, 1) := by decide +kernel
theorem dX7_becomes_6 : decode cX7_becomes 6 = .ok (.getfield 9, 3) := by decide +kernel
theorem dX7_becomes_9 : decode cX7_becomes 9 = .ok (.iconst 0, 1) := by decide +kernel
theorem dX7_becomes_10 : decode cX7_becomes 10 = .ok (.iload_n 2, 1) := by decide +kernel
theorem dX7_becomes_11 : decode cX7_becomes 11 = .ok (.iconst 0, 1) := by decide +kernel
theorem dX7_becomes_12 : decode cX7_becomes 12 = .ok (.invokestatic 25, 3) := by decide +kernel
theorem dX7_becomes_15 : decode cX7_becomes 15 = .ok (.invokestatic 29, 3) := by decide +kernel
theorem dX7_becomes_18 : decode cX7_becomes 18 = .ok (.aload_n 1, 1) := by decide +kernel
theorem dX7_becomes_19 : decode cX7_becomes 19 = .ok (.getfield 15, 3) := by decide +kernel
theorem dX7_becomes_22 : decode cX7_becomes 22 = .ok (.iconst 0, 1) := by decide +kernel
theorem dX7_becomes_23 : decode cX7_becomes 23 = .ok (.aload_n 0, 1) := by decide +kernel
theorem dX7_becomes_24 : decode cX7_becomes 24 = .ok (.getfield 15, 3) := by decide +kernel
theorem dX7_becomes_27 : decode cX7_becomes 27 = .ok (.iconst 0, 1) := by decide +kernel
theorem dX7_becomes_28 : decode cX7_becomes 28 = .ok (.aload_n 0, 1) := by decide +kernel
theorem dX7_becomes_29 : decode cX7_becomes 29 = .ok (.getfield 15, 3) := by decide +kernel
theorem dX7_becomes_32 : decode cX7_becomes 32 = .ok (.arraylength, 1) := by decide +kernel
theorem dX7_becomes_33 : decode cX7_becomes 33 = .ok (.invokestatic 29, 3) := by decide +kernel
theorem dX7_becomes_36 : decode cX7_becomes 36 = .ok (.aload_n 0, 1) := by decide +kernel
theorem dX7_becomes_37 : decode cX7_becomes 37 = .ok (.getfield 21, 3) := by decide +kernel
theorem dX7_becomes_40 : decode cX7_becomes 40 = .ok (.aload_n 1, 1) := by decide +kernel
theorem dX7_becomes_41 : decode cX7_becomes 41 = .ok (.getfield 21, 3) := by decide +kernel
theorem dX7_becomes_44 : decode cX7_becomes 44 = .ok (.invokevirtual 35, 3) := by decide +kernel
theorem dX7_becomes_47 : decode cX7_becomes 47 = .ok (.aload_n 0, 1) := by decide +kernel
theorem dX7_becomes_48 : decode cX7_becomes 48 = .ok (.aload_n 1, 1) := by decide +kernel
theorem dX7_becomes_49 : decode cX7_becomes 49 = .ok (.getfield 39, 3) := by decide +kernel
theorem dX7_becomes_52 : decode cX7_becomes 52 = .ok (.putfield 39, 3) := by decide +kernel
theorem dX7_becomes_55 : decode cX7_becomes 55 = .ok (.return_, 1) := by decide +kernel
theorem dX8_init_0 : decode cX8_init 0 = .ok (.aload_n 0, 1) := by decide +kernel
theorem dX8_init_1 : decode cX8_init 1 = .ok (.invokespecial 3, 3) := by decide +kernel
theorem dX8_init_4 : decode cX8_init 4 = .ok (.aload_n 0, 1) := by decide +kernel
theorem dX8_init_5 : decode cX8_init 5 = .ok (.bipush 60, 2) := by decide +kernel
theorem dX8_init_7 : decode cX8_init 7 = .ok (.newarray .long, 2) := by decide +kernel
theorem dX8_init_9 : decode cX8_init 9 = .ok (.putfield 11, 3) := by decide +kernel
theorem dX8_init_12 : decode cX8_init 12 = .ok (.return_, 1) := by decide +kernel
theorem dX8_hold_0 : decode cX8_hold 0 = .ok (.aload_n 0, 1) := by decide +kernel
theorem dX8_hold_1 : decode cX8_hold 1 = .ok (.iload_n 1, 1) := by decide +kernel
theorem dX8_hold_2 : decode cX8_hold 2 = .ok (.ifCond .ge 7, 3) := by decide +kernel
theorem dX8_hold_5 : decode cX8_hold 5 = .ok (.iconst 0, 1) := by decide +kernel
theorem dX8_hold_6 : decode cX8_hold 6 = .ok (.goto 4, 3) := by decide +kernel
theorem dX8_hold_9 : decode cX8_hold 9 = .ok (.iconst 1, 1) := by decide +kernel
theorem dX8_hold_10 : decode cX8_hold 10 = .ok (.putfield 15, 3) := by decide +kernel
theorem dX8_hold_13 : decode cX8_hold 13 = .ok (.aload_n 0, 1) := by decide +kernel
theorem dX8_hold_14 : decode cX8_hold 14 = .ok (.iload_n 1, 1) := by decide +kernel
theorem dX8_hold_15 : decode cX8_hold 15 = .ok (.putfield 19, 3) := by decide +kernel
theorem dX8_hold_18 : decode cX8_hold 18 = .ok (.return_, 1) := by decide +kernel
theorem dX8_holdRow_0 : decode cX8_holdRow 0 = .ok (.aload_n 0, 1) := by decide +kernel
theorem dX8_holdRow_1 : decode cX8_holdRow 1 = .ok (.iconst 2, 1) := by decide +kernel
theorem dX8_holdRow_2 : decode cX8_holdRow 2 = .ok (.putfield 15, 3) := by decide +kernel
theorem dX8_holdRow_5 : decode cX8_holdRow 5 = .ok (.aload_n 0, 1) := by decide +kernel
theorem dX8_holdRow_6 : decode cX8_holdRow 6 = .ok (.iload_n 1, 1) := by decide +kernel
theorem dX8_holdRow_7 : decode cX8_holdRow 7 = .ok (.putfield 22, 3) := by decide +kernel
theorem dX8_holdRow_10 : decode cX8_holdRow 10 = .ok (.aload_n 0, 1) := by decide +kernel
theorem dX8_holdRow_11 : decode cX8_holdRow 11 = .ok (.iload_n 2, 1) := by decide +kernel
theorem dX8_holdRow_12 : decode cX8_holdRow 12 = .ok (.putfield 25, 3) := by decide +kernel
theorem dX8_holdRow_15 : decode cX8_holdRow 15 = .ok (.aload_n 0, 1) := by decide +kernel
theorem dX8_holdRow_16 : decode cX8_holdRow 16 = .ok (.getfield 11, 3) := by decide +kernel
theorem dX8_holdRow_19 : decode cX8_holdRow 19 = .ok (.lconst 0, 1) := by decide +kernel
theorem dX8_holdRow_20 : decode cX8_holdRow 20 = .ok (.invokestatic 28, 3) := by decide +kernel
theorem dX8_holdRow_23 : decode cX8_holdRow 23 = .ok (.return_, 1) := by decide +kernel
theorem dX8_refusedAsRow_0 : decode cX8_refusedAsRow 0 = .ok (.aload_n 0, 1) := by decide +kernel
theorem dX8_refusedAsRow_1 : decode cX8_refusedAsRow 1 = .ok (.getfield 15, 3) := by decide +kernel
theorem dX8_refusedAsRow_4 : decode cX8_refusedAsRow 4 = .ok (.ifCond .ne 6, 3) := by decide +kernel
theorem dX8_refusedAsRow_7 : decode cX8_refusedAsRow 7 = .ok (.bipush (-11), 2) := by decide +kernel
theorem dX8_refusedAsRow_9 : decode cX8_refusedAsRow 9 = .ok (.ireturn, 1) := by decide +kernel
theorem dX8_refusedAsRow_10 : decode cX8_refusedAsRow 10 = .ok (.aload_n 0, 1) := by decide +kernel
theorem dX8_refusedAsRow_11 : decode cX8_refusedAsRow 11 = .ok (.getfield 15, 3) := by decide +kernel
theorem dX8_refusedAsRow_14 : decode cX8_refusedAsRow 14 = .ok (.iconst 2, 1) := by decide +kernel
theorem dX8_refusedAsRow_15 : decode cX8_refusedAsRow 15 = .ok (.if_icmp .ne 7, 3) := by decide +kernel
theorem dX8_refusedAsRow_18 : decode cX8_refusedAsRow 18 = .ok (.iconst 0, 1) := by decide +kernel
theorem dX8_refusedAsRow_19 : decode cX8_refusedAsRow 19 = .ok (.goto 5, 3) := by decide +kernel
theorem dX8_refusedAsRow_22 : decode cX8_refusedAsRow 22 = .ok (.bipush (-12), 2) := by decide +kernel
theorem dX8_refusedAsRow_24 : decode cX8_refusedAsRow 24 = .ok (.ireturn, 1) := by decide +kernel
theorem dX8_refusedAsBytes_0 : decode cX8_refusedAsBytes 0 = .ok (.aload_n 0, 1) := by decide +kernel
theorem dX8_refusedAsBytes_1 : decode cX8_refusedAsBytes 1 = .ok (.invokevirtual 34, 3) := by decide +kernel
theorem dX8_refusedAsBytes_4 : decode cX8_refusedAsBytes 4 = .ok (.istore_n 1, 1) := by decide +kernel
theorem dX8_refusedAsBytes_5 : decode cX8_refusedAsBytes 5 = .ok (.iload_n 1, 1) := by decide +kernel
theorem dX8_refusedAsBytes_6 : decode cX8_refusedAsBytes 6 = .ok (.ifCond .ne 15, 3) := by decide +kernel
theorem dX8_refusedAsBytes_9 : decode cX8_refusedAsBytes 9 = .ok (.aload_n 0, 1) := by decide +kernel
theorem dX8_refusedAsBytes_10 : decode cX8_refusedAsBytes 10 = .ok (.getfield 22, 3) := by decide +kernel
theorem dX8_refusedAsBytes_13 : decode cX8_refusedAsBytes 13 = .ok (.ifCond .eq 8, 3) := by decide +kernel
theorem dX8_refusedAsBytes_16 : decode cX8_refusedAsBytes 16 = .ok (.bipush (-12), 2) := by decide +kernel
theorem dX8_refusedAsBytes_18 : decode cX8_refusedAsBytes 18 = .ok (.goto 4, 3) := by decide +kernel
theorem dX8_refusedAsBytes_21 : decode cX8_refusedAsBytes 21 = .ok (.iload_n 1, 1) := by decide +kernel
theorem dX8_refusedAsBytes_22 : decode cX8_refusedAsBytes 22 = .ok (.ireturn, 1) := by decide +kernel
theorem dX8_hasPlace_0 : decode cX8_hasPlace 0 = .ok (.iload_n 1, 1) := by decide +kernel
theorem dX8_hasPlace_1 : decode cX8_hasPlace 1 = .ok (.ifCond .lt 15, 3) := by decide +kernel
theorem dX8_hasPlace_4 : decode cX8_hasPlace 4 = .ok (.iload_n 1, 1) := by decide +kernel
theorem dX8_hasPlace_5 : decode cX8_hasPlace 5 = .ok (.aload_n 0, 1) := by decide +kernel
theorem dX8_hasPlace_6 : decode cX8_hasPlace 6 = .ok (.getfield 25, 3) := by decide +kernel
theorem dX8_hasPlace_9 : decode cX8_hasPlace 9 = .ok (.if_icmp .ge 7, 3) := by decide +kernel
theorem dX8_hasPlace_12 : decode cX8_hasPlace 12 = .ok (.iconst 1, 1) := by decide +kernel
theorem dX8_hasPlace_13 : decode cX8_hasPlace 13 = .ok (.goto 4, 3) := by decide +kernel
theorem dX8_hasPlace_16 : decode cX8_hasPlace 16 = .ok (.iconst 0, 1) := by decide +kernel
theorem dX8_hasPlace_17 : decode cX8_hasPlace 17 = .ok (.ireturn, 1) := by decide +kernel
theorem dX8_hasPlaces_0 : decode cX8_hasPlaces 0 = .ok (.iload_n 1, 1) := by decide +kernel
theorem dX8_hasPlaces_1 : decode cX8_hasPlaces 1 = .ok (.ifCond .lt 29, 3) := by decide +kernel
theorem dX8_hasPlaces_4 : decode cX8_hasPlaces 4 = .ok (.iload_n 2, 1) := by decide +kernel
theorem dX8_hasPlaces_5 : decode cX8_hasPlaces 5 = .ok (.ifCond .lt 25, 3) := by decide +kernel
theorem dX8_hasPlaces_8 : decode cX8_hasPlaces 8 = .ok (.iload_n 1, 1) := by decide +kernel
theorem dX8_hasPlaces_9 : decode cX8_hasPlaces 9 = .ok (.aload_n 0, 1) := by decide +kernel
theorem dX8_hasPlaces_10 : decode cX8_hasPlaces 10 = .ok (.getfield 25, 3) := by decide +kernel
theorem dX8_hasPlaces_13 : decode cX8_hasPlaces 13 = .ok (.if_icmp .gt 17, 3) := by decide +kernel
theorem dX8_hasPlaces_16 : decode cX8_hasPlaces 16 = .ok (.iload_n 2, 1) := by decide +kernel
theorem dX8_hasPlaces_17 : decode cX8_hasPlaces 17 = .ok (.aload_n 0, 1) := by decide +kernel
theorem dX8_hasPlaces_18 : decode cX8_hasPlaces 18 = .ok (.getfield 25, 3) := by decide +kernel
theorem dX8_hasPlaces_21 : decode cX8_hasPlaces 21 = .ok (.iload_n 1, 1) := by decide +kernel
theorem dX8_hasPlaces_22 : decode cX8_hasPlaces 22 = .ok (.isub, 1) := by decide +kernel
theorem dX8_hasPlaces_23 : decode cX8_hasPlaces 23 = .ok (.if_icmp .gt 7, 3) := by decide +kernel
theorem dX8_hasPlaces_26 : decode cX8_hasPlaces 26 = .ok (.iconst 1, 1) := by decide +kernel
theorem dX8_hasPlaces_27 : decode cX8_hasPlaces 27 = .ok (.goto 4, 3) := by decide +kernel
theorem dX8_hasPlaces_30 : decode cX8_hasPlaces 30 = .ok (.iconst 0, 1) := by decide +kernel
theorem dX8_hasPlaces_31 : decode cX8_hasPlaces 31 = .ok (.ireturn, 1) := by decide +kernel
theorem dX8_set_0 : decode cX8_set 0 = .ok (.aload_n 0, 1) := by decide +kernel
theorem dX8_set_1 : decode cX8_set 1 = .ok (.iload_n 1, 1) := by decide +kernel
theorem dX8_set_2 : decode cX8_set 2 = .ok (.invokevirtual 38, 3) := by decide +kernel
theorem dX8_set_5 : decode cX8_set 5 = .ok (.ifCond .eq 14, 3) := by decide +kernel
theorem dX8_set_8 : decode cX8_set 8 = .ok (.aload_n 0, 1) := by decide +kernel
theorem dX8_set_9 : decode cX8_set 9 = .ok (.getfield 11, 3) := by decide +kernel
theorem dX8_set_12 : decode cX8_set 12 = .ok (.iload_n 1, 1) := by decide +kernel
theorem dX8_set_13 : decode cX8_set 13 = .ok (.aload_n 0, 1) := by decide +kernel
theorem dX8_set_14 : decode cX8_set 14 = .ok (.lload_n 2, 1) := by decide +kernel
theorem dX8_set_15 : decode cX8_set 15 = .ok (.invokevirtual 42, 3) := by decide +kernel
theorem dX8_set_18 : decode cX8_set 18 = .ok (.lastore, 1) := by decide +kernel
theorem dX8_set_19 : decode cX8_set 19 = .ok (.return_, 1) := by decide +kernel
theorem dX8_lowestBits_0 : decode cX8_lowestBits 0 = .ok (.aload_n 0, 1) := by decide +kernel
theorem dX8_lowestBits_1 : decode cX8_lowestBits 1 = .ok (.getfield 22, 3) := by decide +kernel
theorem dX8_lowestBits_4 : decode cX8_lowestBits 4 = .ok (.tableswitch 48 0 3 #[32, 37, 42, 46], 32) := by decide +kernel
theorem dX8_lowestBits_36 : decode cX8_lowestBits 36 = .ok (.lload_n 1, 1) := by decide +kernel
theorem dX8_lowestBits_37 : decode cX8_lowestBits 37 = .ok (.l2i, 1) := by decide +kernel
theorem dX8_lowestBits_38 : decode cX8_lowestBits 38 = .ok (.i2b, 1) := by decide +kernel
theorem dX8_lowestBits_39 : decode cX8_lowestBits 39 = .ok (.i2l, 1) := by decide +kernel
theorem dX8_lowestBits_40 : decode cX8_lowestBits 40 = .ok (.lreturn, 1) := by decide +kernel
theorem dX8_lowestBits_41 : decode cX8_lowestBits 41 = .ok (.lload_n 1, 1) := by decide +kernel
theorem dX8_lowestBits_42 : decode cX8_lowestBits 42 = .ok (.l2i, 1) := by decide +kernel
theorem dX8_lowestBits_43 : decode cX8_lowestBits 43 = .ok (.i2s, 1) := by decide +kernel
theorem dX8_lowestBits_44 : decode cX8_lowestBits 44 = .ok (.i2l, 1) := by decide +kernel
theorem dX8_lowestBits_45 : decode cX8_lowestBits 45 = .ok (.lreturn, 1) := by decide +kernel
theorem dX8_lowestBits_46 : decode cX8_lowestBits 46 = .ok (.lload_n 1, 1) := by decide +kernel
theorem dX8_lowestBits_47 : decode cX8_lowestBits 47 = .ok (.l2i, 1) := by decide +kernel
theorem dX8_lowestBits_48 : decode cX8_lowestBits 48 = .ok (.i2l, 1) := by decide +kernel
theorem dX8_lowestBits_49 : decode cX8_lowestBits 49 = .ok (.lreturn, 1) := by decide +kernel
theorem dX8_lowestBits_50 : decode cX8_lowestBits 50 = .ok (.lload_n 1, 1) := by decide +kernel
theorem dX8_lowestBits_51 : decode cX8_lowestBits 51 = .ok (.lreturn, 1) := by decide +kernel
theorem dX8_lowestBits_52 : decode cX8_lowestBits 52 = .ok (.lload_n 1, 1) := by decide +kernel
theorem dX8_lowestBits_53 : decode cX8_lowestBits 53 = .ok (.lconst 0, 1) := by decide +kernel
theorem dX8_lowestBits_54 : decode cX8_lowestBits 54 = .ok (.lcmp, 1) := by decide +kernel
theorem dX8_lowestBits_55 : decode cX8_lowestBits 55 = .ok (.ifCond .eq 7, 3) := by decide +kernel
theorem dX8_lowestBits_58 : decode cX8_lowestBits 58 = .ok (.lconst 1, 1) := by decide +kernel
theorem dX8_lowestBits_59 : decode cX8_lowestBits 59 = .ok (.goto 4, 3) := by decide +kernel
theorem dX8_lowestBits_62 : decode cX8_lowestBits 62 = .ok (.lconst 0, 1) := by decide +kernel
theorem dX8_lowestBits_63 : decode cX8_lowestBits 63 = .ok (.lreturn, 1) := by decide +kernel
theorem dX8_byteAt_0 : decode cX8_byteAt 0 = .ok (.aload_n 0, 1) := by decide +kernel
theorem dX8_byteAt_1 : decode cX8_byteAt 1 = .ok (.iload_n 1, 1) := by decide +kernel
theorem dX8_byteAt_2 : decode cX8_byteAt 2 = .ok (.invokevirtual 38, 3) := by decide +kernel
theorem dX8_byteAt_5 : decode cX8_byteAt 5 = .ok (.ifCond .eq 13, 3) := by decide +kernel
theorem dX8_byteAt_8 : decode cX8_byteAt 8 = .ok (.aload_n 0, 1) := by decide +kernel
theorem dX8_byteAt_9 : decode cX8_byteAt 9 = .ok (.getfield 11, 3) := by decide +kernel
theorem dX8_byteAt_12 : decode cX8_byteAt 12 = .ok (.iload_n 1, 1) := by decide +kernel
theorem dX8_byteAt_13 : decode cX8_byteAt 13 = .ok (.laload, 1) := by decide +kernel
theorem dX8_byteAt_14 : decode cX8_byteAt 14 = .ok (.l2i, 1) := by decide +kernel
theorem dX8_byteAt_15 : decode cX8_byteAt 15 = .ok (.goto 4, 3) := by decide +kernel
theorem dX8_byteAt_18 : decode cX8_byteAt 18 = .ok (.iconst 0, 1) := by decide +kernel
theorem dX8_byteAt_19 : decode cX8_byteAt 19 = .ok (.ireturn, 1) := by decide +kernel
theorem dX8_giveMix_0 : decode cX8_giveMix 0 = .ok (.aload_n 1, 1) := by decide +kernel
theorem dX8_giveMix_1 : decode cX8_giveMix 1 = .ok (.iconst 0, 1) := by decide +kernel
theorem dX8_giveMix_2 : decode cX8_giveMix 2 = .ok (.invokestatic 46, 3) := by decide +kernel
theorem dX8_giveMix_5 : decode cX8_giveMix 5 = .ok (.iconst 0, 1) := by decide +kernel
theorem dX8_giveMix_6 : decode cX8_giveMix 6 = .ok (.istore_n 2, 1) := by decide +kernel
theorem dX8_giveMix_7 : decode cX8_giveMix 7 = .ok (.iload_n 2, 1) := by decide +kernel
theorem dX8_giveMix_8 : decode cX8_giveMix 8 = .ok (.bipush 8, 2) := by decide +kernel
theorem dX8_giveMix_10 : decode cX8_giveMix 10 = .ok (.if_icmp .ge 40, 3) := by decide +kernel
theorem dX8_giveMix_13 : decode cX8_giveMix 13 = .ok (.aload_n 0, 1) := by decide +kernel
theorem dX8_giveMix_14 : decode cX8_giveMix 14 = .ok (.iload_n 2, 1) := by decide +kernel
theorem dX8_giveMix_15 : decode cX8_giveMix 15 = .ok (.invokevirtual 38, 3) := by decide +kernel
theorem dX8_giveMix_18 : decode cX8_giveMix 18 = .ok (.ifCond .eq 32, 3) := by decide +kernel
theorem dX8_giveMix_21 : decode cX8_giveMix 21 = .ok (.aload_n 0, 1) := by decide +kernel
theorem dX8_giveMix_22 : decode cX8_giveMix 22 = .ok (.iload_n 2, 1) := by decide +kernel
theorem dX8_giveMix_23 : decode cX8_giveMix 23 = .ok (.invokevirtual 49, 3) := by decide +kernel
theorem dX8_giveMix_26 : decode cX8_giveMix 26 = .ok (.istore_n 3, 1) := by decide +kernel
theorem dX8_giveMix_27 : decode cX8_giveMix 27 = .ok (.iload_n 3, 1) := by decide +kernel
theorem dX8_giveMix_28 : decode cX8_giveMix 28 = .ok (.ifCond .lt 22, 3) := by decide +kernel
theorem dX8_giveMix_31 : decode cX8_giveMix 31 = .ok (.iload_n 3, 1) := by decide +kernel
theorem dX8_giveMix_32 : decode cX8_giveMix 32 = .ok (.bipush 9, 2) := by decide +kernel
theorem dX8_giveMix_34 : decode cX8_giveMix 34 = .ok (.if_icmp .le 6, 3) := by decide +kernel
theorem dX8_giveMix_37 : decode cX8_giveMix 37 = .ok (.goto 13, 3) := by decide +kernel
theorem dX8_giveMix_40 : decode cX8_giveMix 40 = .ok (.aload_n 1, 1) := by decide +kernel
theorem dX8_giveMix_41 : decode cX8_giveMix 41 = .ok (.iload_n 2, 1) := by decide +kernel
theorem dX8_giveMix_42 : decode cX8_giveMix 42 = .ok (.iload_n 3, 1) := by decide +kernel
theorem dX8_giveMix_43 : decode cX8_giveMix 43 = .ok (.iastore, 1) := by decide +kernel
theorem dX8_giveMix_44 : decode cX8_giveMix 44 = .ok (.iinc 2 1, 3) := by decide +kernel
theorem dX8_giveMix_47 : decode cX8_giveMix 47 = .ok (.goto (-40), 3) := by decide +kernel
theorem dX8_giveMix_50 : decode cX8_giveMix 50 = .ok (.return_, 1) := by decide +kernel
theorem dX8_giveSoup_0 : decode cX8_giveSoup 0 = .ok (.aload_n 0, 1) := by decide +kernel
theorem dX8_giveSoup_1 : decode cX8_giveSoup 1 = .ok (.iload_n 1, 1) := by decide +kernel
theorem dX8_giveSoup_2 : decode cX8_giveSoup 2 = .ok (.iconst 5, 1) := by decide +kernel
theorem dX8_giveSoup_3 : decode cX8_giveSoup 3 = .ok (.invokevirtual 53, 3) := by decide +kernel
theorem dX8_giveSoup_6 : decode cX8_giveSoup 6 = .ok (.ifCond .eq 11, 3) := by decide +kernel
theorem dX8_giveSoup_9 : decode cX8_giveSoup 9 = .ok (.iload_n 1, 1) := by decide +kernel
theorem dX8_giveSoup_10 : decode cX8_giveSoup 10 = .ok (.aload_n 2, 1) := by decide +kernel
theorem dX8_giveSoup_11 : decode cX8_giveSoup 11 = .ok (.arraylength, 1) := by decide +kernel
theorem dX8_giveSoup_12 : decode cX8_giveSoup 12 = .ok (.iconst 5, 1) := by decide +kernel
theorem dX8_giveSoup_13 : decode cX8_giveSoup 13 = .ok (.isub, 1) := by decide +kernel
theorem dX8_giveSoup_14 : decode cX8_giveSoup 14 = .ok (.if_icmp .le 5, 3) := by decide +kernel
theorem dX8_giveSoup_17 : decode cX8_giveSoup 17 = .ok (.iconst 0, 1) := by decide +kernel
theorem dX8_giveSoup_18 : decode cX8_giveSoup 18 = .ok (.ireturn, 1) := by decide +kernel
theorem dX8_giveSoup_19 : decode cX8_giveSoup 19 = .ok (.iload_n 1, 1) := by decide +kernel
theorem dX8_giveSoup_20 : decode cX8_giveSoup 20 = .ok (.istore_n 3, 1) := by decide +kernel
theorem dX8_giveSoup_21 : decode cX8_giveSoup 21 = .ok (.iload_n 3, 1) := by decide +kernel
theorem dX8_giveSoup_22 : decode cX8_giveSoup 22 = .ok (.iload_n 1, 1) := by decide +kernel
theorem dX8_giveSoup_23 : decode cX8_giveSoup 23 = .ok (.iconst 5, 1) := by decide +kernel
theorem dX8_giveSoup_24 : decode cX8_giveSoup 24 = .ok (.iadd, 1) := by decide +kernel
theorem dX8_giveSoup_25 : decode cX8_giveSoup 25 = .ok (.if_icmp .ge 35, 3) := by decide +kernel
theorem dX8_giveSoup_28 : decode cX8_giveSoup 28 = .ok (.aload_n 0, 1) := by decide +kernel
theorem dX8_giveSoup_29 : decode cX8_giveSoup 29 = .ok (.iload_n 3, 1) := by decide +kernel
theorem dX8_giveSoup_30 : decode cX8_giveSoup 30 = .ok (.invokevirtual 49, 3) := by decide +kernel
theorem dX8_giveSoup_33 : decode cX8_giveSoup 33 = .ok (.istore 4, 2) := by decide +kernel
theorem dX8_giveSoup_35 : decode cX8_giveSoup 35 = .ok (.iload 4, 2) := by decide +kernel
theorem dX8_giveSoup_37 : decode cX8_giveSoup 37 = .ok (.ifCond .lt 10, 3) := by decide +kernel
theorem dX8_giveSoup_40 : decode cX8_giveSoup 40 = .ok (.iload 4, 2) := by decide +kernel
theorem dX8_giveSoup_42 : decode cX8_giveSoup 42 = .ok (.bipush 99, 2) := by decide +kernel
theorem dX8_giveSoup_44 : decode cX8_giveSoup 44 = .ok (.if_icmp .le 5, 3) := by decide +kernel
theorem dX8_giveSoup_47 : decode cX8_giveSoup 47 = .ok (.iconst 0, 1) := by decide +kernel
theorem dX8_giveSoup_48 : decode cX8_giveSoup 48 = .ok (.ireturn, 1) := by decide +kernel
theorem dX8_giveSoup_49 : decode cX8_giveSoup 49 = .ok (.aload_n 2, 1) := by decide +kernel
theorem dX8_giveSoup_50 : decode cX8_giveSoup 50 = .ok (.iload_n 3, 1) := by decide +kernel
theorem dX8_giveSoup_51 : decode cX8_giveSoup 51 = .ok (.iload 4, 2) := by decide +kernel
theorem dX8_giveSoup_53 : decode cX8_giveSoup 53 = .ok (.iastore, 1) := by decide +kernel
theorem dX8_giveSoup_54 : decode cX8_giveSoup 54 = .ok (.iinc 3 1, 3) := by decide +kernel
theorem dX8_giveSoup_57 : decode cX8_giveSoup 57 = .ok (.goto (-36), 3) := by decide +kernel
theorem dX8_giveSoup_60 : decode cX8_giveSoup 60 = .ok (.iconst 1, 1) := by decide +kernel
theorem dX8_giveSoup_61 : decode cX8_giveSoup 61 = .ok (.ireturn, 1) := by decide +kernel
theorem dX9_init_0 : decode cX9_init 0 = .ok (.aload_n 0, 1) := by decide +kernel
theorem dX9_init_1 : decode cX9_init 1 = .ok (.invokespecial 1, 3) := by decide +kernel
theorem dX9_init_4 : decode cX9_init 4 = .ok (.aload_n 0, 1) := by decide +kernel
theorem dX9_init_5 : decode cX9_init 5 = .ok (.bipush 120, 2) := by decide +kernel
theorem dX9_init_7 : decode cX9_init 7 = .ok (.newarray .int, 2) := by decide +kernel
theorem dX9_init_9 : decode cX9_init 9 = .ok (.putfield 9, 3) := by decide +kernel
theorem dX9_init_12 : decode cX9_init 12 = .ok (.aload_n 0, 1) := by decide +kernel
theorem dX9_init_13 : decode cX9_init 13 = .ok (.bipush 120, 2) := by decide +kernel
theorem dX9_init_15 : decode cX9_init 15 = .ok (.newarray .int, 2) := by decide +kernel
theorem dX9_init_17 : decode cX9_init 17 = .ok (.putfield 13, 3) := by decide +kernel
theorem dX9_init_20 : decode cX9_init 20 = .ok (.aload_n 0, 1) := by decide +kernel
theorem dX9_init_21 : decode cX9_init 21 = .ok (.bipush 60, 2) := by decide +kernel
theorem dX9_init_23 : decode cX9_init 23 = .ok (.newarray .int, 2) := by decide +kernel
theorem dX9_init_25 : decode cX9_init 25 = .ok (.putfield 16, 3) := by decide +kernel
theorem dX9_init_28 : decode cX9_init 28 = .ok (.aload_n 0, 1) := by decide +kernel
theorem dX9_init_29 : decode cX9_init 29 = .ok (.bipush 60, 2) := by decide +kernel
theorem dX9_init_31 : decode cX9_init 31 = .ok (.newarray .int, 2) := by decide +kernel
theorem dX9_init_33 : decode cX9_init 33 = .ok (.putfield 19, 3) := by decide +kernel
theorem dX9_init_36 : decode cX9_init 36 = .ok (.return_, 1) := by decide +kernel
theorem dX9_take_0 : decode cX9_take 0 = .ok (.aload_n 0, 1) := by decide +kernel
theorem dX9_take_1 : decode cX9_take 1 = .ok (.getfield 22, 3) := by decide +kernel
theorem dX9_take_4 : decode cX9_take 4 = .ok (.bipush 120, 2) := by decide +kernel
theorem dX9_take_6 : decode cX9_take 6 = .ok (.if_icmp .lt 5, 3) := by decide +kernel
theorem dX9_take_9 : decode cX9_take 9 = .ok (.iconst 0, 1) := by decide +kernel
theorem dX9_take_10 : decode cX9_take 10 = .ok (.ireturn, 1) := by decide +kernel
theorem dX9_take_11 : decode cX9_take 11 = .ok (.aload_n 0, 1) := by decide +kernel
theorem dX9_take_12 : decode cX9_take 12 = .ok (.getfield 9, 3) := by decide +kernel
theorem dX9_take_15 : decode cX9_take 15 = .ok (.aload_n 0, 1) := by decide +kernel
theorem dX9_take_16 : decode cX9_take 16 = .ok (.dup, 1) := by decide +kernel
theorem dX9_take_17 : decode cX9_take 17 = .ok (.getfield 22, 3) := by decide +kernel
theorem dX9_take_20 : decode cX9_take 20 = .ok (.dup_x1, 1) := by decide +kernel
theorem dX9_take_21 : decode cX9_take 21 = .ok (.iconst 1, 1) := by decide +kernel
theorem dX9_take_22 : decode cX9_take 22 = .ok (.iadd, 1) := by decide +kernel
theorem dX9_take_23 : decode cX9_take 23 = .ok (.putfield 22, 3) := by decide +kernel
theorem dX9_take_26 : decode cX9_take 26 = .ok (.iload_n 1, 1) := by decide +kernel
theorem dX9_take_27 : decode cX9_take 27 = .ok (.iastore, 1) := by decide +kernel
theorem dX9_take_28 : decode cX9_take 28 = .ok (.iconst 1, 1) := by decide +kernel
theorem dX9_take_29 : decode cX9_take 29 = .ok (.ireturn, 1) := by decide +kernel
theorem dX9_readText_0 : decode cX9_readText 0 = .ok (.aload_n 0, 1) := by decide +kernel
theorem dX9_readText_1 : decode cX9_readText 1 = .ok (.iconst 0, 1) := by decide +kernel
theorem dX9_readText_2 : decode cX9_readText 2 = .ok (.putfield 26, 3) := by decide +kernel
theorem dX9_readText_5 : decode cX9_readText 5 = .ok (.aload_n 0, 1) := by decide +kernel
theorem dX9_readText_6 : decode cX9_readText 6 = .ok (.iconst 0, 1) := by decide +kernel
theorem dX9_readText_7 : decode cX9_readText 7 = .ok (.putfield 29, 3) := by decide +kernel
theorem dX9_readText_10 : decode cX9_readText 10 = .ok (.aload_n 0, 1) := by decide +kernel
theorem dX9_readText_11 : decode cX9_readText 11 = .ok (.iconst 0, 1) := by decide +kernel
theorem dX9_readText_12 : decode cX9_readText 12 = .ok (.putfield 32, 3) := by decide +kernel
theorem dX9_readText_15 : decode cX9_readText 15 = .ok (.aload_n 0, 1) := by decide +kernel
theorem dX9_readText_16 : decode cX9_readText 16 = .ok (.invokevirtual 35, 3) := by decide +kernel
theorem dX9_readText_19 : decode cX9_readText 19 = .ok (.istore_n 1, 1) := by decide +kernel
theorem dX9_readText_20 : decode cX9_readText 20 = .ok (.iconst 0, 1) := by decide +kernel
theorem dX9_readText_21 : decode cX9_readText 21 = .ok (.istore_n 2, 1) := by decide +kernel
theorem dX9_readText_22 : decode cX9_readText 22 = .ok (.iload_n 2, 1) := by decide +kernel
theorem dX9_readText_23 : decode cX9_readText 23 = .ok (.bipush 120, 2) := by decide +kernel
theorem dX9_readText_25 : decode cX9_readText 25 = .ok (.if_icmp .ge 37, 3) := by decide +kernel
theorem dX9_readText_28 : decode cX9_readText 28 = .ok (.iload_n 1, 1) := by decide +kernel
theorem dX9_readText_29 : decode cX9_readText 29 = .ok (.ifCond .eq 33, 3) := by decide +kernel
theorem dX9_readText_32 : decode cX9_readText 32 = .ok (.aload_n 0, 1) := by decide +kernel
theorem dX9_readText_33 : decode cX9_readText 33 = .ok (.invokevirtual 39, 3) := by decide +kernel
theorem dX9_readText_36 : decode cX9_readText 36 = .ok (.bipush 59, 2) := by decide +kernel
theorem dX9_readText_38 : decode cX9_readText 38 = .ok (.if_icmp .ne 24, 3) := by decide +kernel
theorem dX9_readText_41 : decode cX9_readText 41 = .ok (.aload_n 0, 1) := by decide +kernel
theorem dX9_readText_42 : decode cX9_readText 42 = .ok (.dup, 1) := by decide +kernel
theorem dX9_readText_43 : decode cX9_readText 43 = .ok (.getfield 26, 3) := by decide +kernel
theorem dX9_readText_46 : decode cX9_readText 46 = .ok (.iconst 1, 1) := by decide +kernel
theorem dX9_readText_47 : decode cX9_readText 47 = .ok (.iadd, 1) := by decide +kernel
theorem dX9_readText_48 : decode cX9_readText 48 = .ok (.putfield 26, 3) := by decide +kernel
theorem dX9_readText_51 : decode cX9_readText 51 = .ok (.aload_n 0, 1) := by decide +kernel
theorem dX9_readText_52 : decode cX9_readText 52 = .ok (.invokevirtual 35, 3) := by decide +kernel
theorem dX9_readText_55 : decode cX9_readText 55 = .ok (.istore_n 1, 1) := by decide +kernel
theorem dX9_readText_56 : decode cX9_readText 56 = .ok (.iinc 2 1, 3) := by decide +kernel
theorem dX9_readText_59 : decode cX9_readText 59 = .ok (.goto (-37), 3) := by decide +kernel
theorem dX9_readText_62 : decode cX9_readText 62 = .ok (.iload_n 1, 1) := by decide +kernel
theorem dX9_readText_63 : decode cX9_readText 63 = .ok (.ifCond .eq 18, 3) := by decide +kernel
theorem dX9_readText_66 : decode cX9_readText 66 = .ok (.aload_n 0, 1) := by decide +kernel
theorem dX9_readText_67 : decode cX9_readText 67 = .ok (.getfield 26, 3) := by decide +kernel
theorem dX9_readText_70 : decode cX9_readText 70 = .ok (.aload_n 0, 1) := by decide +kernel
theorem dX9_readText_71 : decode cX9_readText 71 = .ok (.getfield 22, 3) := by decide +kernel
theorem dX9_readText_74 : decode cX9_readText 74 = .ok (.if_icmp .ne 7, 3) := by decide +kernel
theorem dX9_readText_77 : decode cX9_readText 77 = .ok (.iconst (-1), 1) := by decide +kernel
theorem dX9_readText_78 : decode cX9_readText 78 = .ok (.goto 7, 3) := by decide +kernel
theorem dX9_readText_81 : decode cX9_readText 81 = .ok (.aload_n 0, 1) := by decide +kernel
theorem dX9_readText_82 : decode cX9_readText 82 = .ok (.getfield 26, 3) := by decide +kernel
theorem dX9_readText_85 : decode cX9_readText 85 = .ok (.ireturn, 1) := by decide +kernel
theorem dX9_next_0 : decode cX9_next 0 = .ok (.aload_n 0, 1) := by decide +kernel
theorem dX9_next_1 : decode cX9_next 1 = .ok (.getfield 26, 3) := by decide +kernel
theorem dX9_next_4 : decode cX9_next 4 = .ok (.ifCond .lt 26, 3) := by decide +kernel
theorem dX9_next_7 : decode cX9_next 7 = .ok (.aload_n 0, 1) := by decide +kernel
theorem dX9_next_8 : decode cX9_next 8 = .ok (.getfield 26, 3) := by decide +kernel
theorem dX9_next_11 : decode cX9_next 11 = .ok (.aload_n 0, 1) := by decide +kernel
theorem dX9_next_12 : decode cX9_next 12 = .ok (.getfield 22, 3) := by decide +kernel
theorem dX9_next_15 : decode cX9_next 15 = .ok (.if_icmp .ge 15, 3) := by decide +kernel
theorem dX9_next_18 : decode cX9_next 18 = .ok (.aload_n 0, 1) := by decide +kernel
theorem dX9_next_19 : decode cX9_next 19 = .ok (.getfield 9, 3) := by decide +kernel
theorem dX9_next_22 : decode cX9_next 22 = .ok (.aload_n 0, 1) := by decide +kernel
theorem dX9_next_23 : decode cX9_next 23 = .ok (.getfield 26, 3) := by decide +kernel
theorem dX9_next_26 : decode cX9_next 26 = .ok (.iaload, 1) := by decide +kernel
theorem dX9_next_27 : decode cX9_next 27 = .ok (.goto 4, 3) := by decide +kernel
theorem dX9_next_30 : decode cX9_next 30 = .ok (.iconst (-1), 1) := by decide +kernel
theorem dX9_next_31 : decode cX9_next 31 = .ok (.ireturn, 1) := by decide +kernel
theorem dX9_make_0 : decode cX9_make 0 = .ok (.aload_n 0, 1) := by decide +kernel
theorem dX9_make_1 : decode cX9_make 1 = .ok (.getfield 29, 3) := by decide +kernel
theorem dX9_make_4 : decode cX9_make 4 = .ok (.bipush 120, 2) := by decide +kernel
theorem dX9_make_6 : decode cX9_make 6 = .ok (.if_icmp .ge 20, 3) := by decide +kernel
theorem dX9_make_9 : decode cX9_make 9 = .ok (.aload_n 0, 1) := by decide +kernel
theorem dX9_make_10 : decode cX9_make 10 = .ok (.getfield 13, 3) := by decide +kernel
theorem dX9_make_13 : decode cX9_make 13 = .ok (.aload_n 0, 1) := by decide +kernel
theorem dX9_make_14 : decode cX9_make 14 = .ok (.dup, 1) := by decide +kernel
theorem dX9_make_15 : decode cX9_make 15 = .ok (.getfield 29, 3) := by decide +kernel
theorem dX9_make_18 : decode cX9_make 18 = .ok (.dup_x1, 1) := by decide +kernel
theorem dX9_make_19 : decode cX9_make 19 = .ok (.iconst 1, 1) := by decide +kernel
theorem dX9_make_20 : decode cX9_make 20 = .ok (.iadd, 1) := by decide +kernel
theorem dX9_make_21 : decode cX9_make 21 = .ok (.putfield 29, 3) := by decide +kernel
theorem dX9_make_24 : decode cX9_make 24 = .ok (.iload_n 1, 1) := by decide +kernel
theorem dX9_make_25 : decode cX9_make 25 = .ok (.iastore, 1) := by decide +kernel
theorem dX9_make_26 : decode cX9_make 26 = .ok (.return_, 1) := by decide +kernel
theorem dX9_readLine_0 : decode cX9_readLine 0 = .ok (.aload_n 0, 1) := by decide +kernel
theorem dX9_readLine_1 : decode cX9_readLine 1 = .ok (.getfield 29, 3) := by decide +kernel
theorem dX9_readLine_4 : decode cX9_readLine 4 = .ok (.istore_n 1, 1) := by decide +kernel
theorem dX9_readLine_5 : decode cX9_readLine 5 = .ok (.aload_n 0, 1) := by decide +kernel
theorem dX9_readLine_6 : decode cX9_readLine 6 = .ok (.iconst 0, 1) := by decide +kernel
theorem dX9_readLine_7 : decode cX9_readLine 7 = .ok (.invokevirtual 43, 3) := by decide +kernel
theorem dX9_readLine_10 : decode cX9_readLine 10 = .ok (.ifCond .ne 5, 3) := by decide +kernel
theorem dX9_readLine_13 : decode cX9_readLine 13 = .ok (.iconst 0, 1) := by decide +kernel
theorem dX9_readLine_14 : decode cX9_readLine 14 = .ok (.ireturn, 1) := by decide +kernel
theorem dX9_readLine_15 : decode cX9_readLine 15 = .ok (.aload_n 0, 1) := by decide +kernel
theorem dX9_readLine_16 : decode cX9_readLine 16 = .ok (.invokevirtual 39, 3) := by decide +kernel
theorem dX9_readLine_19 : decode cX9_readLine 19 = .ok (.bipush 63, 2) := by decide +kernel
theorem dX9_readLine_21 : decode cX9_readLine 21 = .ok (.if_icmp .ne 28, 3) := by decide +kernel
theorem dX9_readLine_24 : decode cX9_readLine 24 = .ok (.aload_n 0, 1) := by decide +kernel
theorem dX9_readLine_25 : decode cX9_readLine 25 = .ok (.dup, 1) := by decide +kernel
theorem dX9_readLine_26 : decode cX9_readLine 26 = .ok (.getfield 26, 3) := by decide +kernel
theorem dX9_readLine_29 : decode cX9_readLine 29 = .ok (.iconst 1, 1) := by decide +kernel
theorem dX9_readLine_30 : decode cX9_readLine 30 = .ok (.iadd, 1) := by decide +kernel
theorem dX9_readLine_31 : decode cX9_readLine 31 = .ok (.putfield 26, 3) := by decide +kernel
theorem dX9_readLine_34 : decode cX9_readLine 34 = .ok (.aload_n 0, 1) := by decide +kernel
theorem dX9_readLine_35 : decode cX9_readLine 35 = .ok (.getfield 29, 3) := by decide +kernel
theorem dX9_readLine_38 : decode cX9_readLine 38 = .ok (.istore_n 1, 1) := by decide +kernel
theorem dX9_readLine_39 : decode cX9_readLine 39 = .ok (.aload_n 0, 1) := by decide +kernel
theorem dX9_readLine_40 : decode cX9_readLine 40 = .ok (.iconst 0, 1) := by decide +kernel
theorem dX9_readLine_41 : decode cX9_readLine 41 = .ok (.invokevirtual 43, 3) := by decide +kernel
theorem dX9_readLine_44 : decode cX9_readLine 44 = .ok (.ifCond .ne 5, 3) := by decide +kernel
theorem dX9_readLine_47 : decode cX9_readLine 47 = .ok (.iconst 0, 1) := by decide +kernel
theorem dX9_readLine_48 : decode cX9_readLine 48 = .ok (.ireturn, 1) := by decide +kernel
theorem dX9_readLine_49 : decode cX9_readLine 49 = .ok (.aload_n 0, 1) := by decide +kernel
theorem dX9_readLine_50 : decode cX9_readLine 50 = .ok (.getfield 32, 3) := by decide +kernel
theorem dX9_readLine_53 : decode cX9_readLine 53 = .ok (.bipush 60, 2) := by decide +kernel
theorem dX9_readLine_55 : decode cX9_readLine 55 = .ok (.if_icmp .ge 36, 3) := by decide +kernel
theorem dX9_readLine_58 : decode cX9_readLine 58 = .ok (.aload_n 0, 1) := by decide +kernel
theorem dX9_readLine_59 : decode cX9_readLine 59 = .ok (.getfield 16, 3) := by decide +kernel
theorem dX9_readLine_62 : decode cX9_readLine 62 = .ok (.aload_n 0, 1) := by decide +kernel
theorem dX9_readLine_63 : decode cX9_readLine 63 = .ok (.getfield 32, 3) := by decide +kernel
theorem dX9_readLine_66 : decode cX9_readLine 66 = .ok (.iload_n 1, 1) := by decide +kernel
theorem dX9_readLine_67 : decode cX9_readLine 67 = .ok (.iastore, 1) := by decide +kernel
theorem dX9_readLine_68 : decode cX9_readLine 68 = .ok (.aload_n 0, 1) := by decide +kernel
theorem dX9_readLine_69 : decode cX9_readLine 69 = .ok (.getfield 19, 3) := by decide +kernel
theorem dX9_readLine_72 : decode cX9_readLine 72 = .ok (.aload_n 0, 1) := by decide +kernel
theorem dX9_readLine_73 : decode cX9_readLine 73 = .ok (.getfield 32, 3) := by decide +kernel
theorem dX9_readLine_76 : decode cX9_readLine 76 = .ok (.aload_n 0, 1) := by decide +kernel
theorem dX9_readLine_77 : decode cX9_readLine 77 = .ok (.getfield 29, 3) := by decide +kernel
theorem dX9_readLine_80 : decode cX9_readLine 80 = .ok (.iastore, 1) := by decide +kernel
theorem dX9_readLine_81 : decode cX9_readLine 81 = .ok (.aload_n 0, 1) := by decide +kernel
theorem dX9_readLine_82 : decode cX9_readLine 82 = .ok (.dup, 1) := by decide +kernel
theorem dX9_readLine_83 : decode cX9_readLine 83 = .ok (.getfield 32, 3) := by decide +kernel
theorem dX9_readLine_86 : decode cX9_readLine 86 = .ok (.iconst 1, 1) := by decide +kernel
theorem dX9_readLine_87 : decode cX9_readLine 87 = .ok (.iadd, 1) := by decide +kernel
theorem dX9_readLine_88 : decode cX9_readLine 88 = .ok (.putfield 32, 3) := by decide +kernel
theorem dX9_readLine_91 : decode cX9_readLine 91 = .ok (.iconst 1, 1) := by decide +kernel
theorem dX9_readLine_92 : decode cX9_readLine 92 = .ok (.ireturn, 1) := by decide +kernel
theorem dX9_readE_0 : decode cX9_readE 0 = .ok (.aload_n 0, 1) := by decide +kernel
theorem dX9_readE_1 : decode cX9_readE 1 = .ok (.iload_n 1, 1) := by decide +kernel
theorem dX9_readE_2 : decode cX9_readE 2 = .ok (.invokevirtual 47, 3) := by decide +kernel
theorem dX9_readE_5 : decode cX9_readE 5 = .ok (.istore_n 2, 1) := by decide +kernel
theorem dX9_readE_6 : decode cX9_readE 6 = .ok (.iconst 0, 1) := by decide +kernel
theorem dX9_readE_7 : decode cX9_readE 7 = .ok (.istore_n 3, 1) := by decide +kernel
theorem dX9_readE_8 : decode cX9_readE 8 = .ok (.iload_n 3, 1) := by decide +kernel
theorem dX9_readE_9 : decode cX9_readE 9 = .ok (.bipush 120, 2) := by decide +kernel
theorem dX9_readE_11 : decode cX9_readE 11 = .ok (.if_icmp .ge 44, 3) := by decide +kernel
theorem dX9_readE_14 : decode cX9_readE 14 = .ok (.iload_n 2, 1) := by decide +kernel
theorem dX9_readE_15 : decode cX9_readE 15 = .ok (.ifCond .eq 40, 3) := by decide +kernel
theorem dX9_readE_18 : decode cX9_readE 18 = .ok (.aload_n 0, 1) := by decide +kernel
theorem dX9_readE_19 : decode cX9_readE 19 = .ok (.invokevirtual 39, 3) := by decide +kernel
theorem dX9_readE_22 : decode cX9_readE 22 = .ok (.bipush 124, 2) := by decide +kernel
theorem dX9_readE_24 : decode cX9_readE 24 = .ok (.if_icmp .ne 31, 3) := by decide +kernel
theorem dX9_readE_27 : decode cX9_readE 27 = .ok (.aload_n 0, 1) := by decide +kernel
theorem dX9_readE_28 : decode cX9_readE 28 = .ok (.dup, 1) := by decide +kernel
theorem dX9_readE_29 : decode cX9_readE 29 = .ok (.getfield 26, 3) := by decide +kernel
theorem dX9_readE_32 : decode cX9_readE 32 = .ok (.iconst 1, 1) := by decide +kernel
theorem dX9_readE_33 : decode cX9_readE 33 = .ok (.iadd, 1) := by decide +kernel
theorem dX9_readE_34 : decode cX9_readE 34 = .ok (.putfield 26, 3) := by decide +kernel
theorem dX9_readE_37 : decode cX9_readE 37 = .ok (.aload_n 0, 1) := by decide +kernel
theorem dX9_readE_38 : decode cX9_readE 38 = .ok (.iload_n 1, 1) := by decide +kernel
theorem dX9_readE_39 : decode cX9_readE 39 = .ok (.invokevirtual 47, 3) := by decide +kernel
theorem dX9_readE_42 : decode cX9_readE 42 = .ok (.istore_n 2, 1) := by decide +kernel
theorem dX9_readE_43 : decode cX9_readE 43 = .ok (.aload_n 0, 1) := by decide +kernel
theorem dX9_readE_44 : decode cX9_readE 44 = .ok (.bipush (-18), 2) := by decide +kernel
theorem dX9_readE_46 : decode cX9_readE 46 = .ok (.invokevirtual 52, 3) := by decide +kernel
theorem dX9_readE_49 : decode cX9_readE 49 = .ok (.iinc 3 1, 3) := by decide +kernel
theorem dX9_readE_52 : decode cX9_readE 52 = .ok (.goto (-44), 3) := by decide +kernel
theorem dX9_readE_55 : decode cX9_readE 55 = .ok (.iload_n 2, 1) := by decide +kernel
theorem dX9_readE_56 : decode cX9_readE 56 = .ok (.ireturn, 1) := by decide +kernel
theorem dX9_readA_0 : decode cX9_readA 0 = .ok (.aload_n 0, 1) := by decide +kernel
theorem dX9_readA_1 : decode cX9_readA 1 = .ok (.iload_n 1, 1) := by decide +kernel
theorem dX9_readA_2 : decode cX9_readA 2 = .ok (.invokevirtual 56, 3) := by decide +kernel
theorem dX9_readA_5 : decode cX9_readA 5 = .ok (.istore_n 2, 1) := by decide +kernel
theorem dX9_readA_6 : decode cX9_readA 6 = .ok (.iconst 0, 1) := by decide +kernel
theorem dX9_readA_7 : decode cX9_readA 7 = .ok (.istore_n 3, 1) := by decide +kernel
theorem dX9_readA_8 : decode cX9_readA 8 = .ok (.iload_n 3, 1) := by decide +kernel
theorem dX9_readA_9 : decode cX9_readA 9 = .ok (.bipush 120, 2) := by decide +kernel
theorem dX9_readA_11 : decode cX9_readA 11 = .ok (.if_icmp .ge 44, 3) := by decide +kernel
theorem dX9_readA_14 : decode cX9_readA 14 = .ok (.iload_n 2, 1) := by decide +kernel
theorem dX9_readA_15 : decode cX9_readA 15 = .ok (.ifCond .eq 40, 3) := by decide +kernel
theorem dX9_readA_18 : decode cX9_readA 18 = .ok (.aload_n 0, 1) := by decide +kernel
theorem dX9_readA_19 : decode cX9_readA 19 = .ok (.invokevirtual 39, 3) := by decide +kernel
theorem dX9_readA_22 : decode cX9_readA 22 = .ok (.bipush 38, 2) := by decide +kernel
theorem dX9_readA_24 : decode cX9_readA 24 = .ok (.if_icmp .ne 31, 3) := by decide +kernel
theorem dX9_readA_27 : decode cX9_readA 27 = .ok (.aload_n 0, 1) := by decide +kernel
theorem dX9_readA_28 : decode cX9_readA 28 = .ok (.dup, 1) := by decide +kernel
theorem dX9_readA_29 : decode cX9_readA 29 = .ok (.getfield 26, 3) := by decide +kernel
theorem dX9_readA_32 : decode cX9_readA 32 = .ok (.iconst 1, 1) := by decide +kernel
theorem dX9_readA_33 : decode cX9_readA 33 = .ok (.iadd, 1) := by decide +kernel
theorem dX9_readA_34 : decode cX9_readA 34 = .ok (.putfield 26, 3) := by decide +kernel
theorem dX9_readA_37 : decode cX9_readA 37 = .ok (.aload_n 0, 1) := by decide +kernel
theorem dX9_readA_38 : decode cX9_readA 38 = .ok (.iload_n 1, 1) := by decide +kernel
theorem dX9_readA_39 : decode cX9_readA 39 = .ok (.invokevirtual 56, 3) := by decide +kernel
theorem dX9_readA_42 : decode cX9_readA 42 = .ok (.istore_n 2, 1) := by decide +kernel
theorem dX9_readA_43 : decode cX9_readA 43 = .ok (.aload_n 0, 1) := by decide +kernel
theorem dX9_readA_44 : decode cX9_readA 44 = .ok (.bipush (-17), 2) := by decide +kernel
theorem dX9_readA_46 : decode cX9_readA 46 = .ok (.invokevirtual 52, 3) := by decide +kernel
theorem dX9_readA_49 : decode cX9_readA 49 = .ok (.iinc 3 1, 3) := by decide +kernel
theorem dX9_readA_52 : decode cX9_readA 52 = .ok (.goto (-44), 3) := by decide +kernel
theorem dX9_readA_55 : decode cX9_readA 55 = .ok (.iload_n 2, 1) := by decide +kernel
theorem dX9_readA_56 : decode cX9_readA 56 = .ok (.ireturn, 1) := by decide +kernel
theorem dX9_readB_0 : decode cX9_readB 0 = .ok (.aload_n 0, 1) := by decide +kernel
theorem dX9_readB_1 : decode cX9_readB 1 = .ok (.iload_n 1, 1) := by decide +kernel
theorem dX9_readB_2 : decode cX9_readB 2 = .ok (.invokevirtual 59, 3) := by decide +kernel
theorem dX9_readB_5 : decode cX9_readB 5 = .ok (.ifCond .ne 5, 3) := by decide +kernel
theorem dX9_readB_8 : decode cX9_readB 8 = .ok (.iconst 0, 1) := by decide +kernel
theorem dX9_readB_9 : decode cX9_readB 9 = .ok (.ireturn, 1) := by decide +kernel
theorem dX9_readB_10 : decode cX9_readB 10 = .ok (.aload_n 0, 1) := by decide +kernel
theorem dX9_readB_11 : decode cX9_readB 11 = .ok (.invokevirtual 39, 3) := by decide +kernel
theorem dX9_readB_14 : decode cX9_readB 14 = .ok (.istore_n 2, 1) := by decide +kernel
theorem dX9_readB_15 : decode cX9_readB 15 = .ok (.iload_n 2, 1) := by decide +kernel
theorem dX9_readB_16 : decode cX9_readB 16 = .ok (.bipush 60, 2) := by decide +kernel
theorem dX9_readB_18 : decode cX9_readB 18 = .ok (.if_icmp .eq 17, 3) := by decide +kernel
theorem dX9_readB_21 : decode cX9_readB 21 = .ok (.iload_n 2, 1) := by decide +kernel
theorem dX9_readB_22 : decode cX9_readB 22 = .ok (.bipush 61, 2) := by decide +kernel
theorem dX9_readB_24 : decode cX9_readB 24 = .ok (.if_icmp .eq 11, 3) := by decide +kernel
theorem dX9_readB_27 : decode cX9_readB 27 = .ok (.iload_n 2, 1) := by decide +kernel
theorem dX9_readB_28 : decode cX9_readB 28 = .ok (.bipush 62, 2) := by decide +kernel
theorem dX9_readB_30 : decode cX9_readB 30 = .ok (.if_icmp .eq 5, 3) := by decide +kernel
theorem dX9_readB_33 : decode cX9_readB 33 = .ok (.iconst 1, 1) := by decide +kernel
theorem dX9_readB_34 : decode cX9_readB 34 = .ok (.ireturn, 1) := by decide +kernel
theorem dX9_readB_35 : decode cX9_readB 35 = .ok (.aload_n 0, 1) := by decide +kernel
theorem dX9_readB_36 : decode cX9_readB 36 = .ok (.dup, 1) := by decide +kernel
theorem dX9_readB_37 : decode cX9_readB 37 = .ok (.getfield 26, 3) := by decide +kernel
theorem dX9_readB_40 : decode cX9_readB 40 = .ok (.iconst 1, 1) := by decide +kernel
theorem dX9_readB_41 : decode cX9_readB 41 = .ok (.iadd, 1) := by decide +kernel
theorem dX9_readB_42 : decode cX9_readB 42 = .ok (.putfield 26, 3) := by decide +kernel
theorem dX9_readB_45 : decode cX9_readB 45 = .ok (.aload_n 0, 1) := by decide +kernel
theorem dX9_readB_46 : decode cX9_readB 46 = .ok (.iload_n 1, 1) := by decide +kernel
theorem dX9_readB_47 : decode cX9_readB 47 = .ok (.invokevirtual 59, 3) := by decide +kernel
theorem dX9_readB_50 : decode cX9_readB 50 = .ok (.ifCond .ne 5, 3) := by decide +kernel
theorem dX9_readB_53 : decode cX9_readB 53 = .ok (.iconst 0, 1) := by decide +kernel
theorem dX9_readB_54 : decode cX9_readB 54 = .ok (.ireturn, 1) := by decide +kernel
theorem dX9_readB_55 : decode cX9_readB 55 = .ok (.aload_n 0, 1) := by decide +kernel
theorem dX9_readB_56 : decode cX9_readB 56 = .ok (.iload_n 2, 1) := by decide +kernel
theorem dX9_readB_57 : decode cX9_readB 57 = .ok (.bipush 60, 2) := by decide +kernel
theorem dX9_readB_59 : decode cX9_readB 59 = .ok (.if_icmp .ne 8, 3) := by decide +kernel
theorem dX9_readB_62 : decode cX9_readB 62 = .ok (.bipush (-14), 2) := by decide +kernel
theorem dX9_readB_64 : decode cX9_readB 64 = .ok (.goto 16, 3) := by decide +kernel
theorem dX9_readB_67 : decode cX9_readB 67 = .ok (.iload_n 2, 1) := by decide +kernel
theorem dX9_readB_68 : decode cX9_readB 68 = .ok (.bipush 61, 2) := by decide +kernel
theorem dX9_readB_70 : decode cX9_readB 70 = .ok (.if_icmp .ne 8, 3) := by decide +kernel
theorem dX9_readB_73 : decode cX9_readB 73 = .ok (.bipush (-15), 2) := by decide +kernel
theorem dX9_readB_75 : decode cX9_readB 75 = .ok (.goto 5, 3) := by decide +kernel
theorem dX9_readB_78 : decode cX9_readB 78 = .ok (.bipush (-16), 2) := by decide +kernel
theorem dX9_readB_80 : decode cX9_readB 80 = .ok (.invokevirtual 52, 3) := by decide +kernel
theorem dX9_readB_83 : decode cX9_readB 83 = .ok (.iconst 1, 1) := by decide +kernel
theorem dX9_readB_84 : decode cX9_readB 84 = .ok (.ireturn, 1) := by decide +kernel
theorem dX9_readS_0 : decode cX9_readS 0 = .ok (.aload_n 0, 1) := by decide +kernel
theorem dX9_readS_1 : decode cX9_readS 1 = .ok (.iload_n 1, 1) := by decide +kernel
theorem dX9_readS_2 : decode cX9_readS 2 = .ok (.invokevirtual 62, 3) := by decide +kernel
theorem dX9_readS_5 : decode cX9_readS 5 = .ok (.istore_n 2, 1) := by decide +kernel
theorem dX9_readS_6 : decode cX9_readS 6 = .ok (.iconst 0, 1) := by decide +kernel
theorem dX9_readS_7 : decode cX9_readS 7 = .ok (.istore_n 3, 1) := by decide +kernel
theorem dX9_readS_8 : decode cX9_readS 8 = .ok (.iload_n 3, 1) := by decide +kernel
theorem dX9_readS_9 : decode cX9_readS 9 = .ok (.bipush 120, 2) := by decide +kernel
theorem dX9_readS_11 : decode cX9_readS 11 = .ok (.if_icmp .ge 71, 3) := by decide +kernel
theorem dX9_readS_14 : decode cX9_readS 14 = .ok (.iload_n 2, 1) := by decide +kernel
theorem dX9_readS_15 : decode cX9_readS 15 = .ok (.ifCond .eq 67, 3) := by decide +kernel
theorem dX9_readS_18 : decode cX9_readS 18 = .ok (.aload_n 0, 1) := by decide +kernel
theorem dX9_readS_19 : decode cX9_readS 19 = .ok (.invokevirtual 39, 3) := by decide +kernel
theorem dX9_readS_22 : decode cX9_readS 22 = .ok (.bipush 43, 2) := by decide +kernel
theorem dX9_readS_24 : decode cX9_readS 24 = .ok (.if_icmp .eq 12, 3) := by decide +kernel
theorem dX9_readS_27 : decode cX9_readS 27 = .ok (.aload_n 0, 1) := by decide +kernel
theorem dX9_readS_28 : decode cX9_readS 28 = .ok (.invokevirtual 39, 3) := by decide +kernel
theorem dX9_readS_31 : decode cX9_readS 31 = .ok (.bipush 45, 2) := by decide +kernel
theorem dX9_readS_33 : decode cX9_readS 33 = .ok (.if_icmp .ne 49, 3) := by decide +kernel
theorem dX9_readS_36 : decode cX9_readS 36 = .ok (.aload_n 0, 1) := by decide +kernel
theorem dX9_readS_37 : decode cX9_readS 37 = .ok (.invokevirtual 39, 3) := by decide +kernel
theorem dX9_readS_40 : decode cX9_readS 40 = .ok (.istore 4, 2) := by decide +kernel
theorem dX9_readS_42 : decode cX9_readS 42 = .ok (.aload_n 0, 1) := by decide +kernel
theorem dX9_readS_43 : decode cX9_readS 43 = .ok (.dup, 1) := by decide +kernel
theorem dX9_readS_44 : decode cX9_readS 44 = .ok (.getfield 26, 3) := by decide +kernel
theorem dX9_readS_47 : decode cX9_readS 47 = .ok (.iconst 1, 1) := by decide +kernel
theorem dX9_readS_48 : decode cX9_readS 48 = .ok (.iadd, 1) := by decide +kernel
theorem dX9_readS_49 : decode cX9_readS 49 = .ok (.putfield 26, 3) := by decide +kernel
theorem dX9_readS_52 : decode cX9_readS 52 = .ok (.aload_n 0, 1) := by decide +kernel
theorem dX9_readS_53 : decode cX9_readS 53 = .ok (.iload_n 1, 1) := by decide +kernel
theorem dX9_readS_54 : decode cX9_readS 54 = .ok (.invokevirtual 62, 3) := by decide +kernel
theorem dX9_readS_57 : decode cX9_readS 57 = .ok (.istore_n 2, 1) := by decide +kernel
theorem dX9_readS_58 : decode cX9_readS 58 = .ok (.aload_n 0, 1) := by decide +kernel
theorem dX9_readS_59 : decode cX9_readS 59 = .ok (.iload 4, 2) := by decide +kernel
theorem dX9_readS_61 : decode cX9_readS 61 = .ok (.bipush 43, 2) := by decide +kernel
theorem dX9_readS_63 : decode cX9_readS 63 = .ok (.if_icmp .ne 8, 3) := by decide +kernel
theorem dX9_readS_66 : decode cX9_readS 66 = .ok (.bipush (-12), 2) := by decide +kernel
theorem dX9_readS_68 : decode cX9_readS 68 = .ok (.goto 5, 3) := by decide +kernel
theorem dX9_readS_71 : decode cX9_readS 71 = .ok (.bipush (-13), 2) := by decide +kernel
theorem dX9_readS_73 : decode cX9_readS 73 = .ok (.invokevirtual 52, 3) := by decide +kernel
theorem dX9_readS_76 : decode cX9_readS 76 = .ok (.iinc 3 1, 3) := by decide +kernel
theorem dX9_readS_79 : decode cX9_readS 79 = .ok (.goto (-71), 3) := by decide +kernel
theorem dX9_readS_82 : decode cX9_readS 82 = .ok (.iload_n 2, 1) := by decide +kernel
theorem dX9_readS_83 : decode cX9_readS 83 = .ok (.ireturn, 1) := by decide +kernel
theorem dX9_readP_0 : decode cX9_readP 0 = .ok (.aload_n 0, 1) := by decide +kernel
theorem dX9_readP_1 : decode cX9_readP 1 = .ok (.iload_n 1, 1) := by decide +kernel
theorem dX9_readP_2 : decode cX9_readP 2 = .ok (.invokevirtual 65, 3) := by decide +kernel
theorem dX9_readP_5 : decode cX9_readP 5 = .ok (.istore_n 2, 1) := by decide +kernel
theorem dX9_readP_6 : decode cX9_readP 6 = .ok (.iconst 0, 1) := by decide +kernel
theorem dX9_readP_7 : decode cX9_readP 7 = .ok (.istore_n 3, 1) := by decide +kernel
theorem dX9_readP_8 : decode cX9_readP 8 = .ok (.iload_n 3, 1) := by decide +kernel
theorem dX9_readP_9 : decode cX9_readP 9 = .ok (.bipush 120, 2) := by decide +kernel
theorem dX9_readP_11 : decode cX9_readP 11 = .ok (.if_icmp .ge 92, 3) := by decide +kernel
theorem dX9_readP_14 : decode cX9_readP 14 = .ok (.iload_n 2, 1) := by decide +kernel
theorem dX9_readP_15 : decode cX9_readP 15 = .ok (.ifCond .eq 88, 3) := by decide +kernel
theorem dX9_readP_18 : decode cX9_readP 18 = .ok (.aload_n 0, 1) := by decide +kernel
theorem dX9_readP_19 : decode cX9_readP 19 = .ok (.invokevirtual 39, 3) := by decide +kernel
theorem dX9_readP_22 : decode cX9_readP 22 = .ok (.bipush 42, 2) := by decide +kernel
theorem dX9_readP_24 : decode cX9_readP 24 = .ok (.if_icmp .eq 21, 3) := by decide +kernel
theorem dX9_readP_27 : decode cX9_readP 27 = .ok (.aload_n 0, 1) := by decide +kernel
theorem dX9_readP_28 : decode cX9_readP 28 = .ok (.invokevirtual 39, 3) := by decide +kernel
theorem dX9_readP_31 : decode cX9_readP 31 = .ok (.bipush 47, 2) := by decide +kernel
theorem dX9_readP_33 : decode cX9_readP 33 = .ok (.if_icmp .eq 12, 3) := by decide +kernel
theorem dX9_readP_36 : decode cX9_readP 36 = .ok (.aload_n 0, 1) := by decide +kernel
theorem dX9_readP_37 : decode cX9_readP 37 = .ok (.invokevirtual 39, 3) := by decide +kernel
theorem dX9_readP_40 : decode cX9_readP 40 = .ok (.bipush 37, 2) := by decide +kernel
theorem dX9_readP_42 : decode cX9_readP 42 = .ok (.if_icmp .ne 61, 3) := by decide +kernel
theorem dX9_readP_45 : decode cX9_readP 45 = .ok (.aload_n 0, 1) := by decide +kernel
theorem dX9_readP_46 : decode cX9_readP 46 = .ok (.invokevirtual 39, 3) := by decide +kernel
theorem dX9_readP_49 : decode cX9_readP 49 = .ok (.istore 4, 2) := by decide +kernel
theorem dX9_readP_51 : decode cX9_readP 51 = .ok (.aload_n 0, 1) := by decide +kernel
theorem dX9_readP_52 : decode cX9_readP 52 = .ok (.dup, 1) := by decide +kernel
theorem dX9_readP_53 : decode cX9_readP 53 = .ok (.getfield 26, 3) := by decide +kernel
theorem dX9_readP_56 : decode cX9_readP 56 = .ok (.iconst 1, 1) := by decide +kernel
theorem dX9_readP_57 : decode cX9_readP 57 = .ok (.iadd, 1) := by decide +kernel
theorem dX9_readP_58 : decode cX9_readP 58 = .ok (.putfield 26, 3) := by decide +kernel
theorem dX9_readP_61 : decode cX9_readP 61 = .ok (.aload_n 0, 1) := by decide +kernel
theorem dX9_readP_62 : decode cX9_readP 62 = .ok (.iload_n 1, 1) := by decide +kernel
theorem dX9_readP_63 : decode cX9_readP 63 = .ok (.invokevirtual 65, 3) := by decide +kernel
theorem dX9_readP_66 : decode cX9_readP 66 = .ok (.istore_n 2, 1) := by decide +kernel
theorem dX9_readP_67 : decode cX9_readP 67 = .ok (.aload_n 0, 1) := by decide +kernel
theorem dX9_readP_68 : decode cX9_readP 68 = .ok (.iload 4, 2) := by decide +kernel
theorem dX9_readP_70 : decode cX9_readP 70 = .ok (.bipush 42, 2) := by decide +kernel
theorem dX9_readP_72 : decode cX9_readP 72 = .ok (.if_icmp .ne 8, 3) := by decide +kernel
theorem dX9_readP_75 : decode cX9_readP 75 = .ok (.bipush (-9), 2) := by decide +kernel
theorem dX9_readP_77 : decode cX9_readP 77 = .ok (.goto 17, 3) := by decide +kernel
theorem dX9_readP_80 : decode cX9_readP 80 = .ok (.iload 4, 2) := by decide +kernel
theorem dX9_readP_82 : decode cX9_readP 82 = .ok (.bipush 47, 2) := by decide +kernel
theorem dX9_readP_84 : decode cX9_readP 84 = .ok (.if_icmp .ne 8, 3) := by decide +kernel
theorem dX9_readP_87 : decode cX9_readP 87 = .ok (.bipush (-10), 2) := by decide +kernel
theorem dX9_readP_89 : decode cX9_readP 89 = .ok (.goto 5, 3) := by decide +kernel
theorem dX9_readP_92 : decode cX9_readP 92 = .ok (.bipush (-11), 2) := by decide +kernel
theorem dX9_readP_94 : decode cX9_readP 94 = .ok (.invokevirtual 52, 3) := by decide +kernel
theorem dX9_readP_97 : decode cX9_readP 97 = .ok (.iinc 3 1, 3) := by decide +kernel
theorem dX9_readP_100 : decode cX9_readP 100 = .ok (.goto (-92), 3) := by decide +kernel
theorem dX9_readP_103 : decode cX9_readP 103 = .ok (.iload_n 2, 1) := by decide +kernel
theorem dX9_readP_104 : decode cX9_readP 104 = .ok (.ireturn, 1) := by decide +kernel
theorem dX9_readO_0 : decode cX9_readO 0 = .ok (.aload_n 0, 1) := by decide +kernel
theorem dX9_readO_1 : decode cX9_readO 1 = .ok (.invokevirtual 39, 3) := by decide +kernel
theorem dX9_readO_4 : decode cX9_readO 4 = .ok (.istore_n 2, 1) := by decide +kernel
theorem dX9_readO_5 : decode cX9_readO 5 = .ok (.iload_n 2, 1) := by decide +kernel
theorem dX9_readO_6 : decode cX9_readO 6 = .ok (.invokestatic 68, 3) := by decide +kernel
theorem dX9_readO_9 : decode cX9_readO 9 = .ok (.ifCond .eq 9, 3) := by decide +kernel
theorem dX9_readO_12 : decode cX9_readO 12 = .ok (.aload_n 0, 1) := by decide +kernel
theorem dX9_readO_13 : decode cX9_readO 13 = .ok (.invokevirtual 71, 3) := by decide +kernel
theorem dX9_readO_16 : decode cX9_readO 16 = .ok (.iconst 1, 1) := by decide +kernel
theorem dX9_readO_17 : decode cX9_readO 17 = .ok (.ireturn, 1) := by decide +kernel
theorem dX9_readO_18 : decode cX9_readO 18 = .ok (.iload_n 2, 1) := by decide +kernel
theorem dX9_readO_19 : decode cX9_readO 19 = .ok (.invokestatic 74, 3) := by decide +kernel
theorem dX9_readO_22 : decode cX9_readO 22 = .ok (.istore_n 3, 1) := by decide +kernel
theorem dX9_readO_23 : decode cX9_readO 23 = .ok (.iload_n 3, 1) := by decide +kernel
theorem dX9_readO_24 : decode cX9_readO 24 = .ok (.ifCond .eq 20, 3) := by decide +kernel
theorem dX9_readO_27 : decode cX9_readO 27 = .ok (.aload_n 0, 1) := by decide +kernel
theorem dX9_readO_28 : decode cX9_readO 28 = .ok (.dup, 1) := by decide +kernel
theorem dX9_readO_29 : decode cX9_readO 29 = .ok (.getfield 26, 3) := by decide +kernel
theorem dX9_readO_32 : decode cX9_readO 32 = .ok (.iconst 1, 1) := by decide +kernel
theorem dX9_readO_33 : decode cX9_readO 33 = .ok (.iadd, 1) := by decide +kernel
theorem dX9_readO_34 : decode cX9_readO 34 = .ok (.putfield 26, 3) := by decide +kernel
theorem dX9_readO_37 : decode cX9_readO 37 = .ok (.aload_n 0, 1) := by decide +kernel
