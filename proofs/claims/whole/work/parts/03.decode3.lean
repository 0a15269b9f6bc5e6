theorem dX10_minute_7 : decode cX10_minute 7 = .ok (.ifCond .ne 6, 3) := by decide +kernel
theorem dX10_minute_10 : decode cX10_minute 10 = .ok (.bipush (-5), 2) := by decide +kernel
theorem dX10_minute_12 : decode cX10_minute 12 = .ok (.ireturn, 1) := by decide +kernel
theorem dX10_minute_13 : decode cX10_minute 13 = .ok (.aload_n 0, 1) := by decide +kernel
theorem dX10_minute_14 : decode cX10_minute 14 = .ok (.getfield 40, 3) := by decide +kernel
theorem dX10_minute_17 : decode cX10_minute 17 = .ok (.getfield 245, 3) := by decide +kernel
theorem dX10_minute_20 : decode cX10_minute 20 = .ok (.aload_n 0, 1) := by decide +kernel
theorem dX10_minute_21 : decode cX10_minute 21 = .ok (.getfield 19, 3) := by decide +kernel
theorem dX10_minute_24 : decode cX10_minute 24 = .ok (.getfield 131, 3) := by decide +kernel
theorem dX10_minute_27 : decode cX10_minute 27 = .ok (.invokevirtual 262, 3) := by decide +kernel
theorem dX10_minute_30 : decode cX10_minute 30 = .ok (.aload_n 0, 1) := by decide +kernel
theorem dX10_minute_31 : decode cX10_minute 31 = .ok (.getfield 40, 3) := by decide +kernel
theorem dX10_minute_34 : decode cX10_minute 34 = .ok (.getfield 245, 3) := by decide +kernel
theorem dX10_minute_37 : decode cX10_minute 37 = .ok (.iconst 0, 1) := by decide +kernel
theorem dX10_minute_38 : decode cX10_minute 38 = .ok (.iconst 4, 1) := by decide +kernel
theorem dX10_minute_39 : decode cX10_minute 39 = .ok (.aload_n 0, 1) := by decide +kernel
theorem dX10_minute_40 : decode cX10_minute 40 = .ok (.getfield 19, 3) := by decide +kernel
theorem dX10_minute_43 : decode cX10_minute 43 = .ok (.getfield 155, 3) := by decide +kernel
theorem dX10_minute_46 : decode cX10_minute 46 = .ok (.aload_n 0, 1) := by decide +kernel
theorem dX10_minute_47 : decode cX10_minute 47 = .ok (.getfield 19, 3) := by decide +kernel
theorem dX10_minute_50 : decode cX10_minute 50 = .ok (.getfield 143, 3) := by decide +kernel
theorem dX10_minute_53 : decode cX10_minute 53 = .ok (.invokevirtual 265, 3) := by decide +kernel
theorem dX10_minute_56 : decode cX10_minute 56 = .ok (.aload_n 0, 1) := by decide +kernel
theorem dX10_minute_57 : decode cX10_minute 57 = .ok (.getfield 40, 3) := by decide +kernel
theorem dX10_minute_60 : decode cX10_minute 60 = .ok (.getfield 242, 3) := by decide +kernel
theorem dX10_minute_63 : decode cX10_minute 63 = .ok (.iconst 2, 1) := by decide +kernel
theorem dX10_minute_64 : decode cX10_minute 64 = .ok (.dup2, 1) := by decide +kernel
theorem dX10_minute_65 : decode cX10_minute 65 = .ok (.iaload, 1) := by decide +kernel
theorem dX10_minute_66 : decode cX10_minute 66 = .ok (.iconst 1, 1) := by decide +kernel
theorem dX10_minute_67 : decode cX10_minute 67 = .ok (.iadd, 1) := by decide +kernel
theorem dX10_minute_68 : decode cX10_minute 68 = .ok (.iastore, 1) := by decide +kernel
theorem dX10_minute_69 : decode cX10_minute 69 = .ok (.aload_n 0, 1) := by decide +kernel
theorem dX10_minute_70 : decode cX10_minute 70 = .ok (.getfield 40, 3) := by decide +kernel
theorem dX10_minute_73 : decode cX10_minute 73 = .ok (.getfield 245, 3) := by decide +kernel
theorem dX10_minute_76 : decode cX10_minute 76 = .ok (.getfield 269, 3) := by decide +kernel
theorem dX10_minute_79 : decode cX10_minute 79 = .ok (.ireturn, 1) := by decide +kernel
theorem dX10_potOf_0 : decode cX10_potOf 0 = .ok (.iload_n 1, 1) := by decide +kernel
theorem dX10_potOf_1 : decode cX10_potOf 1 = .ok (.ifCond .lt 9, 3) := by decide +kernel
theorem dX10_potOf_4 : decode cX10_potOf 4 = .ok (.iload_n 1, 1) := by decide +kernel
theorem dX10_potOf_5 : decode cX10_potOf 5 = .ok (.bipush 6, 2) := by decide +kernel
theorem dX10_potOf_7 : decode cX10_potOf 7 = .ok (.if_icmp .le 5, 3) := by decide +kernel
theorem dX10_potOf_10 : decode cX10_potOf 10 = .ok (.iconst (-1), 1) := by decide +kernel
theorem dX10_potOf_11 : decode cX10_potOf 11 = .ok (.ireturn, 1) := by decide +kernel
theorem dX10_potOf_12 : decode cX10_potOf 12 = .ok (.aload_n 0, 1) := by decide +kernel
theorem dX10_potOf_13 : decode cX10_potOf 13 = .ok (.getfield 40, 3) := by decide +kernel
theorem dX10_potOf_16 : decode cX10_potOf 16 = .ok (.getfield 255, 3) := by decide +kernel
theorem dX10_potOf_19 : decode cX10_potOf 19 = .ok (.ifCond .ne 6, 3) := by decide +kernel
theorem dX10_potOf_22 : decode cX10_potOf 22 = .ok (.bipush (-5), 2) := by decide +kernel
theorem dX10_potOf_24 : decode cX10_potOf 24 = .ok (.ireturn, 1) := by decide +kernel
theorem dX10_potOf_25 : decode cX10_potOf 25 = .ok (.iload_n 1, 1) := by decide +kernel
theorem dX10_potOf_26 : decode cX10_potOf 26 = .ok (.iconst 5, 1) := by decide +kernel
theorem dX10_potOf_27 : decode cX10_potOf 27 = .ok (.if_icmp .ge 16, 3) := by decide +kernel
theorem dX10_potOf_30 : decode cX10_potOf 30 = .ok (.aload_n 0, 1) := by decide +kernel
theorem dX10_potOf_31 : decode cX10_potOf 31 = .ok (.getfield 40, 3) := by decide +kernel
theorem dX10_potOf_34 : decode cX10_potOf 34 = .ok (.getfield 245, 3) := by decide +kernel
theorem dX10_potOf_37 : decode cX10_potOf 37 = .ok (.getfield 272, 3) := by decide +kernel
theorem dX10_potOf_40 : decode cX10_potOf 40 = .ok (.iload_n 1, 1) := by decide +kernel
theorem dX10_potOf_41 : decode cX10_potOf 41 = .ok (.iaload, 1) := by decide +kernel
theorem dX10_potOf_42 : decode cX10_potOf 42 = .ok (.ireturn, 1) := by decide +kernel
theorem dX10_potOf_43 : decode cX10_potOf 43 = .ok (.iload_n 1, 1) := by decide +kernel
theorem dX10_potOf_44 : decode cX10_potOf 44 = .ok (.iconst 5, 1) := by decide +kernel
theorem dX10_potOf_45 : decode cX10_potOf 45 = .ok (.if_icmp .ne 16, 3) := by decide +kernel
theorem dX10_potOf_48 : decode cX10_potOf 48 = .ok (.aload_n 0, 1) := by decide +kernel
theorem dX10_potOf_49 : decode cX10_potOf 49 = .ok (.getfield 40, 3) := by decide +kernel
theorem dX10_potOf_52 : decode cX10_potOf 52 = .ok (.getfield 245, 3) := by decide +kernel
theorem dX10_potOf_55 : decode cX10_potOf 55 = .ok (.getfield 269, 3) := by decide +kernel
theorem dX10_potOf_58 : decode cX10_potOf 58 = .ok (.goto 13, 3) := by decide +kernel
theorem dX10_potOf_61 : decode cX10_potOf 61 = .ok (.aload_n 0, 1) := by decide +kernel
theorem dX10_potOf_62 : decode cX10_potOf 62 = .ok (.getfield 40, 3) := by decide +kernel
theorem dX10_potOf_65 : decode cX10_potOf 65 = .ok (.getfield 245, 3) := by decide +kernel
theorem dX10_potOf_68 : decode cX10_potOf 68 = .ok (.invokevirtual 259, 3) := by decide +kernel
theorem dX10_potOf_71 : decode cX10_potOf 71 = .ok (.ireturn, 1) := by decide +kernel
theorem dX10_spoon_0 : decode cX10_spoon 0 = .ok (.iload_n 1, 1) := by decide +kernel
theorem dX10_spoon_1 : decode cX10_spoon 1 = .ok (.invokestatic 83, 3) := by decide +kernel
theorem dX10_spoon_4 : decode cX10_spoon 4 = .ok (.ifCond .eq 14, 3) := by decide +kernel
theorem dX10_spoon_7 : decode cX10_spoon 7 = .ok (.aload_n 0, 1) := by decide +kernel
theorem dX10_spoon_8 : decode cX10_spoon 8 = .ok (.getfield 26, 3) := by decide +kernel
theorem dX10_spoon_11 : decode cX10_spoon 11 = .ok (.iload_n 2, 1) := by decide +kernel
theorem dX10_spoon_12 : decode cX10_spoon 12 = .ok (.invokevirtual 128, 3) := by decide +kernel
theorem dX10_spoon_15 : decode cX10_spoon 15 = .ok (.ifCond .ne 5, 3) := by decide +kernel
theorem dX10_spoon_18 : decode cX10_spoon 18 = .ok (.iconst (-1), 1) := by decide +kernel
theorem dX10_spoon_19 : decode cX10_spoon 19 = .ok (.ireturn, 1) := by decide +kernel
theorem dX10_spoon_20 : decode cX10_spoon 20 = .ok (.aload_n 0, 1) := by decide +kernel
theorem dX10_spoon_21 : decode cX10_spoon 21 = .ok (.iload_n 1, 1) := by decide +kernel
theorem dX10_spoon_22 : decode cX10_spoon 22 = .ok (.invokevirtual 184, 3) := by decide +kernel
theorem dX10_spoon_25 : decode cX10_spoon 25 = .ok (.istore_n 3, 1) := by decide +kernel
theorem dX10_spoon_26 : decode cX10_spoon 26 = .ok (.iload_n 3, 1) := by decide +kernel
theorem dX10_spoon_27 : decode cX10_spoon 27 = .ok (.ifCond .eq 5, 3) := by decide +kernel
theorem dX10_spoon_30 : decode cX10_spoon 30 = .ok (.iload_n 3, 1) := by decide +kernel
theorem dX10_spoon_31 : decode cX10_spoon 31 = .ok (.ireturn, 1) := by decide +kernel
theorem dX10_spoon_32 : decode cX10_spoon 32 = .ok (.aload_n 0, 1) := by decide +kernel
theorem dX10_spoon_33 : decode cX10_spoon 33 = .ok (.getfield 40, 3) := by decide +kernel
theorem dX10_spoon_36 : decode cX10_spoon 36 = .ok (.getfield 255, 3) := by decide +kernel
theorem dX10_spoon_39 : decode cX10_spoon 39 = .ok (.ifCond .ne 6, 3) := by decide +kernel
theorem dX10_spoon_42 : decode cX10_spoon 42 = .ok (.bipush (-5), 2) := by decide +kernel
theorem dX10_spoon_44 : decode cX10_spoon 44 = .ok (.ireturn, 1) := by decide +kernel
theorem dX10_spoon_45 : decode cX10_spoon 45 = .ok (.aload_n 0, 1) := by decide +kernel
theorem dX10_spoon_46 : decode cX10_spoon 46 = .ok (.getfield 26, 3) := by decide +kernel
theorem dX10_spoon_49 : decode cX10_spoon 49 = .ok (.iload_n 2, 1) := by decide +kernel
theorem dX10_spoon_50 : decode cX10_spoon 50 = .ok (.aload_n 0, 1) := by decide +kernel
theorem dX10_spoon_51 : decode cX10_spoon 51 = .ok (.getfield 40, 3) := by decide +kernel
theorem dX10_spoon_54 : decode cX10_spoon 54 = .ok (.getfield 245, 3) := by decide +kernel
theorem dX10_spoon_57 : decode cX10_spoon 57 = .ok (.getfield 272, 3) := by decide +kernel
theorem dX10_spoon_60 : decode cX10_spoon 60 = .ok (.iconst 0, 1) := by decide +kernel
theorem dX10_spoon_61 : decode cX10_spoon 61 = .ok (.aload_n 0, 1) := by decide +kernel
theorem dX10_spoon_62 : decode cX10_spoon 62 = .ok (.getfield 19, 3) := by decide +kernel
theorem dX10_spoon_65 : decode cX10_spoon 65 = .ok (.getfield 198, 3) := by decide +kernel
theorem dX10_spoon_68 : decode cX10_spoon 68 = .ok (.iconst 0, 1) := by decide +kernel
theorem dX10_spoon_69 : decode cX10_spoon 69 = .ok (.invokevirtual 201, 3) := by decide +kernel
theorem dX10_spoon_72 : decode cX10_spoon 72 = .ok (.ifCond .eq 7, 3) := by decide +kernel
theorem dX10_spoon_75 : decode cX10_spoon 75 = .ok (.iconst 1, 1) := by decide +kernel
theorem dX10_spoon_76 : decode cX10_spoon 76 = .ok (.goto 4, 3) := by decide +kernel
theorem dX10_spoon_79 : decode cX10_spoon 79 = .ok (.iconst 0, 1) := by decide +kernel
theorem dX10_spoon_80 : decode cX10_spoon 80 = .ok (.istore 4, 2) := by decide +kernel
theorem dX10_spoon_82 : decode cX10_spoon 82 = .ok (.aload_n 0, 1) := by decide +kernel
theorem dX10_spoon_83 : decode cX10_spoon 83 = .ok (.getfield 40, 3) := by decide +kernel
theorem dX10_spoon_86 : decode cX10_spoon 86 = .ok (.getfield 242, 3) := by decide +kernel
theorem dX10_spoon_89 : decode cX10_spoon 89 = .ok (.iconst 3, 1) := by decide +kernel
theorem dX10_spoon_90 : decode cX10_spoon 90 = .ok (.dup2, 1) := by decide +kernel
theorem dX10_spoon_91 : decode cX10_spoon 91 = .ok (.iaload, 1) := by decide +kernel
theorem dX10_spoon_92 : decode cX10_spoon 92 = .ok (.iconst 1, 1) := by decide +kernel
theorem dX10_spoon_93 : decode cX10_spoon 93 = .ok (.iadd, 1) := by decide +kernel
theorem dX10_spoon_94 : decode cX10_spoon 94 = .ok (.iastore, 1) := by decide +kernel
theorem dX10_spoon_95 : decode cX10_spoon 95 = .ok (.aload_n 0, 1) := by decide +kernel
theorem dX10_spoon_96 : decode cX10_spoon 96 = .ok (.getfield 40, 3) := by decide +kernel
theorem dX10_spoon_99 : decode cX10_spoon 99 = .ok (.getfield 242, 3) := by decide +kernel
theorem dX10_spoon_102 : decode cX10_spoon 102 = .ok (.iconst 4, 1) := by decide +kernel
theorem dX10_spoon_103 : decode cX10_spoon 103 = .ok (.dup2, 1) := by decide +kernel
theorem dX10_spoon_104 : decode cX10_spoon 104 = .ok (.iaload, 1) := by decide +kernel
theorem dX10_spoon_105 : decode cX10_spoon 105 = .ok (.iload 4, 2) := by decide +kernel
theorem dX10_spoon_107 : decode cX10_spoon 107 = .ok (.iadd, 1) := by decide +kernel
theorem dX10_spoon_108 : decode cX10_spoon 108 = .ok (.iastore, 1) := by decide +kernel
theorem dX10_spoon_109 : decode cX10_spoon 109 = .ok (.iload 4, 2) := by decide +kernel
theorem dX10_spoon_111 : decode cX10_spoon 111 = .ok (.ireturn, 1) := by decide +kernel
theorem dX10_led_0 : decode cX10_led 0 = .ok (.iload_n 1, 1) := by decide +kernel
theorem dX10_led_1 : decode cX10_led 1 = .ok (.ifCond .lt 20, 3) := by decide +kernel
theorem dX10_led_4 : decode cX10_led 4 = .ok (.iload_n 1, 1) := by decide +kernel
theorem dX10_led_5 : decode cX10_led 5 = .ok (.iconst 4, 1) := by decide +kernel
theorem dX10_led_6 : decode cX10_led 6 = .ok (.if_icmp .gt 15, 3) := by decide +kernel
theorem dX10_led_9 : decode cX10_led 9 = .ok (.aload_n 0, 1) := by decide +kernel
theorem dX10_led_10 : decode cX10_led 10 = .ok (.getfield 40, 3) := by decide +kernel
theorem dX10_led_13 : decode cX10_led 13 = .ok (.getfield 242, 3) := by decide +kernel
theorem dX10_led_16 : decode cX10_led 16 = .ok (.iload_n 1, 1) := by decide +kernel
theorem dX10_led_17 : decode cX10_led 17 = .ok (.iaload, 1) := by decide +kernel
theorem dX10_led_18 : decode cX10_led 18 = .ok (.goto 4, 3) := by decide +kernel
theorem dX10_led_21 : decode cX10_led 21 = .ok (.iconst (-1), 1) := by decide +kernel
theorem dX10_led_22 : decode cX10_led 22 = .ok (.ireturn, 1) := by decide +kernel
theorem dX10_image_0 : decode cX10_image 0 = .ok (.aload_n 0, 1) := by decide +kernel
theorem dX10_image_1 : decode cX10_image 1 = .ok (.getfield 44, 3) := by decide +kernel
theorem dX10_image_4 : decode cX10_image 4 = .ok (.aload_n 0, 1) := by decide +kernel
theorem dX10_image_5 : decode cX10_image 5 = .ok (.getfield 40, 3) := by decide +kernel
theorem dX10_image_8 : decode cX10_image 8 = .ok (.aload_n 0, 1) := by decide +kernel
theorem dX10_image_9 : decode cX10_image 9 = .ok (.getfield 68, 3) := by decide +kernel
theorem dX10_image_12 : decode cX10_image 12 = .ok (.invokevirtual 275, 3) := by decide +kernel
theorem dX10_image_15 : decode cX10_image 15 = .ok (.aload_n 0, 1) := by decide +kernel
theorem dX10_image_16 : decode cX10_image 16 = .ok (.aload_n 0, 1) := by decide +kernel
theorem dX10_image_17 : decode cX10_image 17 = .ok (.getfield 68, 3) := by decide +kernel
theorem dX10_image_20 : decode cX10_image 20 = .ok (.putfield 278, 3) := by decide +kernel
theorem dX10_image_23 : decode cX10_image 23 = .ok (.aload_n 0, 1) := by decide +kernel
theorem dX10_image_24 : decode cX10_image 24 = .ok (.iconst 1, 1) := by decide +kernel
theorem dX10_image_25 : decode cX10_image 25 = .ok (.putfield 281, 3) := by decide +kernel
theorem dX10_image_28 : decode cX10_image 28 = .ok (.aload_n 0, 1) := by decide +kernel
theorem dX10_image_29 : decode cX10_image 29 = .ok (.getfield 40, 3) := by decide +kernel
theorem dX10_image_32 : decode cX10_image 32 = .ok (.getfield 242, 3) := by decide +kernel
theorem dX10_image_35 : decode cX10_image 35 = .ok (.iconst 2, 1) := by decide +kernel
theorem dX10_image_36 : decode cX10_image 36 = .ok (.iaload, 1) := by decide +kernel
theorem dX10_image_37 : decode cX10_image 37 = .ok (.ireturn, 1) := by decide +kernel
theorem dX10_back_0 : decode cX10_back 0 = .ok (.aload_n 0, 1) := by decide +kernel
theorem dX10_back_1 : decode cX10_back 1 = .ok (.getfield 281, 3) := by decide +kernel
theorem dX10_back_4 : decode cX10_back 4 = .ok (.ifCond .ne 6, 3) := by decide +kernel
theorem dX10_back_7 : decode cX10_back 7 = .ok (.bipush (-5), 2) := by decide +kernel
theorem dX10_back_9 : decode cX10_back 9 = .ok (.ireturn, 1) := by decide +kernel
theorem dX10_back_10 : decode cX10_back 10 = .ok (.aload_n 0, 1) := by decide +kernel
theorem dX10_back_11 : decode cX10_back 11 = .ok (.getfield 40, 3) := by decide +kernel
theorem dX10_back_14 : decode cX10_back 14 = .ok (.aload_n 0, 1) := by decide +kernel
theorem dX10_back_15 : decode cX10_back 15 = .ok (.getfield 44, 3) := by decide +kernel
theorem dX10_back_18 : decode cX10_back 18 = .ok (.aload_n 0, 1) := by decide +kernel
theorem dX10_back_19 : decode cX10_back 19 = .ok (.getfield 278, 3) := by decide +kernel
theorem dX10_back_22 : decode cX10_back 22 = .ok (.invokevirtual 275, 3) := by decide +kernel
theorem dX10_back_25 : decode cX10_back 25 = .ok (.aload_n 0, 1) := by decide +kernel
theorem dX10_back_26 : decode cX10_back 26 = .ok (.getfield 40, 3) := by decide +kernel
theorem dX10_back_29 : decode cX10_back 29 = .ok (.getfield 242, 3) := by decide +kernel
theorem dX10_back_32 : decode cX10_back 32 = .ok (.iconst 2, 1) := by decide +kernel
theorem dX10_back_33 : decode cX10_back 33 = .ok (.iaload, 1) := by decide +kernel
theorem dX10_back_34 : decode cX10_back 34 = .ok (.ireturn, 1) := by decide +kernel
theorem dX10_undo_0 : decode cX10_undo 0 = .ok (.aload_n 0, 1) := by decide +kernel
theorem dX10_undo_1 : decode cX10_undo 1 = .ok (.getfield 50, 3) := by decide +kernel
theorem dX10_undo_4 : decode cX10_undo 4 = .ok (.getfield 284, 3) := by decide +kernel
theorem dX10_undo_7 : decode cX10_undo 7 = .ok (.ifCond .gt 6, 3) := by decide +kernel
theorem dX10_undo_10 : decode cX10_undo 10 = .ok (.bipush (-5), 2) := by decide +kernel
theorem dX10_undo_12 : decode cX10_undo 12 = .ok (.ireturn, 1) := by decide +kernel
theorem dX10_undo_13 : decode cX10_undo 13 = .ok (.aload_n 0, 1) := by decide +kernel
theorem dX10_undo_14 : decode cX10_undo 14 = .ok (.getfield 50, 3) := by decide +kernel
theorem dX10_undo_17 : decode cX10_undo 17 = .ok (.dup, 1) := by decide +kernel
theorem dX10_undo_18 : decode cX10_undo 18 = .ok (.getfield 284, 3) := by decide +kernel
theorem dX10_undo_21 : decode cX10_undo 21 = .ok (.iconst 1, 1) := by decide +kernel
theorem dX10_undo_22 : decode cX10_undo 22 = .ok (.isub, 1) := by decide +kernel
theorem dX10_undo_23 : decode cX10_undo 23 = .ok (.putfield 284, 3) := by decide +kernel
theorem dX10_undo_26 : decode cX10_undo 26 = .ok (.aload_n 0, 1) := by decide +kernel
theorem dX10_undo_27 : decode cX10_undo 27 = .ok (.getfield 50, 3) := by decide +kernel
theorem dX10_undo_30 : decode cX10_undo 30 = .ok (.getfield 284, 3) := by decide +kernel
theorem dX10_undo_33 : decode cX10_undo 33 = .ok (.istore_n 1, 1) := by decide +kernel
theorem dX10_undo_34 : decode cX10_undo 34 = .ok (.aload_n 0, 1) := by decide +kernel
theorem dX10_undo_35 : decode cX10_undo 35 = .ok (.aload_n 0, 1) := by decide +kernel
theorem dX10_undo_36 : decode cX10_undo 36 = .ok (.getfield 50, 3) := by decide +kernel
theorem dX10_undo_39 : decode cX10_undo 39 = .ok (.getfield 287, 3) := by decide +kernel
theorem dX10_undo_42 : decode cX10_undo 42 = .ok (.iload_n 1, 1) := by decide +kernel
theorem dX10_undo_43 : decode cX10_undo 43 = .ok (.iaload, 1) := by decide +kernel
theorem dX10_undo_44 : decode cX10_undo 44 = .ok (.aload_n 0, 1) := by decide +kernel
theorem dX10_undo_45 : decode cX10_undo 45 = .ok (.getfield 50, 3) := by decide +kernel
theorem dX10_undo_48 : decode cX10_undo 48 = .ok (.getfield 290, 3) := by decide +kernel
theorem dX10_undo_51 : decode cX10_undo 51 = .ok (.iload_n 1, 1) := by decide +kernel
theorem dX10_undo_52 : decode cX10_undo 52 = .ok (.iaload, 1) := by decide +kernel
theorem dX10_undo_53 : decode cX10_undo 53 = .ok (.aload_n 0, 1) := by decide +kernel
theorem dX10_undo_54 : decode cX10_undo 54 = .ok (.getfield 50, 3) := by decide +kernel
theorem dX10_undo_57 : decode cX10_undo 57 = .ok (.getfield 293, 3) := by decide +kernel
theorem dX10_undo_60 : decode cX10_undo 60 = .ok (.iload_n 1, 1) := by decide +kernel
theorem dX10_undo_61 : decode cX10_undo 61 = .ok (.iaload, 1) := by decide +kernel
theorem dX10_undo_62 : decode cX10_undo 62 = .ok (.invokevirtual 121, 3) := by decide +kernel
theorem dX10_undo_65 : decode cX10_undo 65 = .ok (.aload_n 0, 1) := by decide +kernel
theorem dX10_undo_66 : decode cX10_undo 66 = .ok (.getfield 50, 3) := by decide +kernel
theorem dX10_undo_69 : decode cX10_undo 69 = .ok (.getfield 284, 3) := by decide +kernel
theorem dX10_undo_72 : decode cX10_undo 72 = .ok (.ireturn, 1) := by decide +kernel
theorem dX10_redo_0 : decode cX10_redo 0 = .ok (.aload_n 0, 1) := by decide +kernel
theorem dX10_redo_1 : decode cX10_redo 1 = .ok (.getfield 50, 3) := by decide +kernel
theorem dX10_redo_4 : decode cX10_redo 4 = .ok (.getfield 284, 3) := by decide +kernel
theorem dX10_redo_7 : decode cX10_redo 7 = .ok (.aload_n 0, 1) := by decide +kernel
theorem dX10_redo_8 : decode cX10_redo 8 = .ok (.getfield 50, 3) := by decide +kernel
theorem dX10_redo_11 : decode cX10_redo 11 = .ok (.getfield 296, 3) := by decide +kernel
theorem dX10_redo_14 : decode cX10_redo 14 = .ok (.if_icmp .lt 6, 3) := by decide +kernel
theorem dX10_redo_17 : decode cX10_redo 17 = .ok (.bipush (-5), 2) := by decide +kernel
theorem dX10_redo_19 : decode cX10_redo 19 = .ok (.ireturn, 1) := by decide +kernel
theorem dX10_redo_20 : decode cX10_redo 20 = .ok (.aload_n 0, 1) := by decide +kernel
theorem dX10_redo_21 : decode cX10_redo 21 = .ok (.getfield 50, 3) := by decide +kernel
theorem dX10_redo_24 : decode cX10_redo 24 = .ok (.getfield 284, 3) := by decide +kernel
theorem dX10_redo_27 : decode cX10_redo 27 = .ok (.istore_n 1, 1) := by decide +kernel
theorem dX10_redo_28 : decode cX10_redo 28 = .ok (.aload_n 0, 1) := by decide +kernel
theorem dX10_redo_29 : decode cX10_redo 29 = .ok (.aload_n 0, 1) := by decide +kernel
theorem dX10_redo_30 : decode cX10_redo 30 = .ok (.getfield 50, 3) := by decide +kernel
theorem dX10_redo_33 : decode cX10_redo 33 = .ok (.getfield 287, 3) := by decide +kernel
theorem dX10_redo_36 : decode cX10_redo 36 = .ok (.iload_n 1, 1) := by decide +kernel
theorem dX10_redo_37 : decode cX10_redo 37 = .ok (.iaload, 1) := by decide +kernel
theorem dX10_redo_38 : decode cX10_redo 38 = .ok (.aload_n 0, 1) := by decide +kernel
theorem dX10_redo_39 : decode cX10_redo 39 = .ok (.getfield 50, 3) := by decide +kernel
theorem dX10_redo_42 : decode cX10_redo 42 = .ok (.getfield 290, 3) := by decide +kernel
theorem dX10_redo_45 : decode cX10_redo 45 = .ok (.iload_n 1, 1) := by decide +kernel
theorem dX10_redo_46 : decode cX10_redo 46 = .ok (.iaload, 1) := by decide +kernel
theorem dX10_redo_47 : decode cX10_redo 47 = .ok (.aload_n 0, 1) := by decide +kernel
theorem dX10_redo_48 : decode cX10_redo 48 = .ok (.getfield 50, 3) := by decide +kernel
theorem dX10_redo_51 : decode cX10_redo 51 = .ok (.getfield 299, 3) := by decide +kernel
theorem dX10_redo_54 : decode cX10_redo 54 = .ok (.iload_n 1, 1) := by decide +kernel
theorem dX10_redo_55 : decode cX10_redo 55 = .ok (.iaload, 1) := by decide +kernel
theorem dX10_redo_56 : decode cX10_redo 56 = .ok (.invokevirtual 121, 3) := by decide +kernel
theorem dX10_redo_59 : decode cX10_redo 59 = .ok (.aload_n 0, 1) := by decide +kernel
theorem dX10_redo_60 : decode cX10_redo 60 = .ok (.getfield 50, 3) := by decide +kernel
theorem dX10_redo_63 : decode cX10_redo 63 = .ok (.dup, 1) := by decide +kernel
theorem dX10_redo_64 : decode cX10_redo 64 = .ok (.getfield 284, 3) := by decide +kernel
theorem dX10_redo_67 : decode cX10_redo 67 = .ok (.iconst 1, 1) := by decide +kernel
theorem dX10_redo_68 : decode cX10_redo 68 = .ok (.iadd, 1) := by decide +kernel
theorem dX10_redo_69 : decode cX10_redo 69 = .ok (.putfield 284, 3) := by decide +kernel
theorem dX10_redo_72 : decode cX10_redo 72 = .ok (.aload_n 0, 1) := by decide +kernel
theorem dX10_redo_73 : decode cX10_redo 73 = .ok (.getfield 50, 3) := by decide +kernel
theorem dX10_redo_76 : decode cX10_redo 76 = .ok (.getfield 296, 3) := by decide +kernel
theorem dX10_redo_79 : decode cX10_redo 79 = .ok (.aload_n 0, 1) := by decide +kernel
theorem dX10_redo_80 : decode cX10_redo 80 = .ok (.getfield 50, 3) := by decide +kernel
theorem dX10_redo_83 : decode cX10_redo 83 = .ok (.getfield 284, 3) := by decide +kernel
theorem dX10_redo_86 : decode cX10_redo 86 = .ok (.isub, 1) := by decide +kernel
theorem dX10_redo_87 : decode cX10_redo 87 = .ok (.ireturn, 1) := by decide +kernel
theorem dX10_body_0 : decode cX10_body 0 = .ok (.iload_n 1, 1) := by decide +kernel
theorem dX10_body_1 : decode cX10_body 1 = .ok (.invokestatic 302, 3) := by decide +kernel
theorem dX10_body_4 : decode cX10_body 4 = .ok (.ifCond .eq 14, 3) := by decide +kernel
theorem dX10_body_7 : decode cX10_body 7 = .ok (.aload_n 0, 1) := by decide +kernel
theorem dX10_body_8 : decode cX10_body 8 = .ok (.getfield 57, 3) := by decide +kernel
theorem dX10_body_11 : decode cX10_body 11 = .ok (.iload_n 1, 1) := by decide +kernel
theorem dX10_body_12 : decode cX10_body 12 = .ok (.invokevirtual 305, 3) := by decide +kernel
theorem dX10_body_15 : decode cX10_body 15 = .ok (.goto 4, 3) := by decide +kernel
theorem dX10_body_18 : decode cX10_body 18 = .ok (.iconst (-1), 1) := by decide +kernel
theorem dX10_body_19 : decode cX10_body 19 = .ok (.ireturn, 1) := by decide +kernel
theorem dX10_act_0 : decode cX10_act 0 = .ok (.aload_n 0, 1) := by decide +kernel
theorem dX10_act_1 : decode cX10_act 1 = .ok (.getfield 57, 3) := by decide +kernel
theorem dX10_act_4 : decode cX10_act 4 = .ok (.iload_n 1, 1) := by decide +kernel
theorem dX10_act_5 : decode cX10_act 5 = .ok (.iload_n 2, 1) := by decide +kernel
theorem dX10_act_6 : decode cX10_act 6 = .ok (.iload_n 3, 1) := by decide +kernel
theorem dX10_act_7 : decode cX10_act 7 = .ok (.invokevirtual 306, 3) := by decide +kernel
theorem dX10_act_10 : decode cX10_act 10 = .ok (.ireturn, 1) := by decide +kernel
theorem dX10_trace_0 : decode cX10_trace 0 = .ok (.iload_n 1, 1) := by decide +kernel
theorem dX10_trace_1 : decode cX10_trace 1 = .ok (.ifCond .lt 26, 3) := by decide +kernel
theorem dX10_trace_4 : decode cX10_trace 4 = .ok (.iload_n 1, 1) := by decide +kernel
theorem dX10_trace_5 : decode cX10_trace 5 = .ok (.aload_n 0, 1) := by decide +kernel
theorem dX10_trace_6 : decode cX10_trace 6 = .ok (.getfield 57, 3) := by decide +kernel
theorem dX10_trace_9 : decode cX10_trace 9 = .ok (.invokevirtual 310, 3) := by decide +kernel
theorem dX10_trace_12 : decode cX10_trace 12 = .ok (.if_icmp .ge 15, 3) := by decide +kernel
theorem dX10_trace_15 : decode cX10_trace 15 = .ok (.aload_n 0, 1) := by decide +kernel
theorem dX10_trace_16 : decode cX10_trace 16 = .ok (.getfield 57, 3) := by decide +kernel
theorem dX10_trace_19 : decode cX10_trace 19 = .ok (.getfield 313, 3) := by decide +kernel
theorem dX10_trace_22 : decode cX10_trace 22 = .ok (.iload_n 1, 1) := by decide +kernel
theorem dX10_trace_23 : decode cX10_trace 23 = .ok (.iaload, 1) := by decide +kernel
theorem dX10_trace_24 : decode cX10_trace 24 = .ok (.goto 4, 3) := by decide +kernel
theorem dX10_trace_27 : decode cX10_trace 27 = .ok (.iconst (-1), 1) := by decide +kernel
theorem dX10_trace_28 : decode cX10_trace 28 = .ok (.ireturn, 1) := by decide +kernel
theorem dX10_keep_0 : decode cX10_keep 0 = .ok (.iload_n 1, 1) := by decide +kernel
theorem dX10_keep_1 : decode cX10_keep 1 = .ok (.invokestatic 83, 3) := by decide +kernel
theorem dX10_keep_4 : decode cX10_keep 4 = .ok (.ifCond .eq 19, 3) := by decide +kernel
theorem dX10_keep_7 : decode cX10_keep 7 = .ok (.iload_n 2, 1) := by decide +kernel
theorem dX10_keep_8 : decode cX10_keep 8 = .ok (.iconst (-1), 1) := by decide +kernel
theorem dX10_keep_9 : decode cX10_keep 9 = .ok (.if_icmp .eq 16, 3) := by decide +kernel
theorem dX10_keep_12 : decode cX10_keep 12 = .ok (.aload_n 0, 1) := by decide +kernel
theorem dX10_keep_13 : decode cX10_keep 13 = .ok (.getfield 57, 3) := by decide +kernel
theorem dX10_keep_16 : decode cX10_keep 16 = .ok (.iload_n 2, 1) := by decide +kernel
theorem dX10_keep_17 : decode cX10_keep 17 = .ok (.invokevirtual 316, 3) := by decide +kernel
theorem dX10_keep_20 : decode cX10_keep 20 = .ok (.ifCond .ne 5, 3) := by decide +kernel
theorem dX10_keep_23 : decode cX10_keep 23 = .ok (.iconst (-1), 1) := by decide +kernel
theorem dX10_keep_24 : decode cX10_keep 24 = .ok (.ireturn, 1) := by decide +kernel
theorem dX10_keep_25 : decode cX10_keep 25 = .ok (.aload_n 0, 1) := by decide +kernel
theorem dX10_keep_26 : decode cX10_keep 26 = .ok (.getfield 63, 3) := by decide +kernel
theorem dX10_keep_29 : decode cX10_keep 29 = .ok (.iload_n 1, 1) := by decide +kernel
theorem dX10_keep_30 : decode cX10_keep 30 = .ok (.aaload, 1) := by decide +kernel
theorem dX10_keep_31 : decode cX10_keep 31 = .ok (.iload_n 2, 1) := by decide +kernel
theorem dX10_keep_32 : decode cX10_keep 32 = .ok (.invokevirtual 317, 3) := by decide +kernel
theorem dX10_keep_35 : decode cX10_keep 35 = .ok (.iconst 1, 1) := by decide +kernel
theorem dX10_keep_36 : decode cX10_keep 36 = .ok (.ireturn, 1) := by decide +kernel
theorem dX10_row_0 : decode cX10_row 0 = .ok (.iload_n 1, 1) := by decide +kernel
theorem dX10_row_1 : decode cX10_row 1 = .ok (.invokestatic 83, 3) := by decide +kernel
theorem dX10_row_4 : decode cX10_row 4 = .ok (.ifCond .eq 18, 3) := by decide +kernel
theorem dX10_row_7 : decode cX10_row 7 = .ok (.iload_n 2, 1) := by decide +kernel
theorem dX10_row_8 : decode cX10_row 8 = .ok (.ifCond .lt 14, 3) := by decide +kernel
theorem dX10_row_11 : decode cX10_row 11 = .ok (.iload_n 2, 1) := by decide +kernel
theorem dX10_row_12 : decode cX10_row 12 = .ok (.iconst 4, 1) := by decide +kernel
theorem dX10_row_13 : decode cX10_row 13 = .ok (.if_icmp .gt 9, 3) := by decide +kernel
theorem dX10_row_16 : decode cX10_row 16 = .ok (.iload_n 3, 1) := by decide +kernel
theorem dX10_row_17 : decode cX10_row 17 = .ok (.bipush 60, 2) := by decide +kernel
theorem dX10_row_19 : decode cX10_row 19 = .ok (.if_icmp .le 5, 3) := by decide +kernel
theorem dX10_row_22 : decode cX10_row 22 = .ok (.iconst (-1), 1) := by decide +kernel
theorem dX10_row_23 : decode cX10_row 23 = .ok (.ireturn, 1) := by decide +kernel
theorem dX10_row_24 : decode cX10_row 24 = .ok (.iload_n 3, 1) := by decide +kernel
theorem dX10_row_25 : decode cX10_row 25 = .ok (.ifCond .ge 6, 3) := by decide +kernel
theorem dX10_row_28 : decode cX10_row 28 = .ok (.bipush (-14), 2) := by decide +kernel
theorem dX10_row_30 : decode cX10_row 30 = .ok (.ireturn, 1) := by decide +kernel
theorem dX10_row_31 : decode cX10_row 31 = .ok (.aload_n 0, 1) := by decide +kernel
theorem dX10_row_32 : decode cX10_row 32 = .ok (.getfield 63, 3) := by decide +kernel
theorem dX10_row_35 : decode cX10_row 35 = .ok (.iload_n 1, 1) := by decide +kernel
theorem dX10_row_36 : decode cX10_row 36 = .ok (.aaload, 1) := by decide +kernel
theorem dX10_row_37 : decode cX10_row 37 = .ok (.iload_n 2, 1) := by decide +kernel
theorem dX10_row_38 : decode cX10_row 38 = .ok (.iload_n 3, 1) := by decide +kernel
theorem dX10_row_39 : decode cX10_row 39 = .ok (.invokevirtual 321, 3) := by decide +kernel
theorem dX10_row_42 : decode cX10_row 42 = .ok (.iconst 1, 1) := by decide +kernel
theorem dX10_row_43 : decode cX10_row 43 = .ok (.ireturn, 1) := by decide +kernel
theorem dX10_put_0 : decode cX10_put 0 = .ok (.aload_n 0, 1) := by decide +kernel
theorem dX10_put_1 : decode cX10_put 1 = .ok (.iload_n 1, 1) := by decide +kernel
theorem dX10_put_2 : decode cX10_put 2 = .ok (.iload_n 2, 1) := by decide +kernel
theorem dX10_put_3 : decode cX10_put 3 = .ok (.invokevirtual 325, 3) := by decide +kernel
theorem dX10_put_6 : decode cX10_put 6 = .ok (.istore 5, 2) := by decide +kernel
theorem dX10_put_8 : decode cX10_put 8 = .ok (.iload 5, 2) := by decide +kernel
theorem dX10_put_10 : decode cX10_put 10 = .ok (.ifCond .eq 6, 3) := by decide +kernel
theorem dX10_put_13 : decode cX10_put 13 = .ok (.iload 5, 2) := by decide +kernel
theorem dX10_put_15 : decode cX10_put 15 = .ok (.ireturn, 1) := by decide +kernel
theorem dX10_put_16 : decode cX10_put 16 = .ok (.aload_n 0, 1) := by decide +kernel
theorem dX10_put_17 : decode cX10_put 17 = .ok (.getfield 63, 3) := by decide +kernel
theorem dX10_put_20 : decode cX10_put 20 = .ok (.iload_n 1, 1) := by decide +kernel
theorem dX10_put_21 : decode cX10_put 21 = .ok (.aaload, 1) := by decide +kernel
theorem dX10_put_22 : decode cX10_put 22 = .ok (.iload_n 2, 1) := by decide +kernel
theorem dX10_put_23 : decode cX10_put 23 = .ok (.lload_n 3, 1) := by decide +kernel
theorem dX10_put_24 : decode cX10_put 24 = .ok (.invokevirtual 328, 3) := by decide +kernel
theorem dX10_put_27 : decode cX10_put 27 = .ok (.iconst 1, 1) := by decide +kernel
theorem dX10_put_28 : decode cX10_put 28 = .ok (.ireturn, 1) := by decide +kernel
theorem dX10_element_0 : decode cX10_element 0 = .ok (.aload_n 0, 1) := by decide +kernel
theorem dX10_element_1 : decode cX10_element 1 = .ok (.iload_n 1, 1) := by decide +kernel
theorem dX10_element_2 : decode cX10_element 2 = .ok (.iload_n 2, 1) := by decide +kernel
theorem dX10_element_3 : decode cX10_element 3 = .ok (.invokevirtual 325, 3) := by decide +kernel
theorem dX10_element_6 : decode cX10_element 6 = .ok (.ifCond .ne 17, 3) := by decide +kernel
theorem dX10_element_9 : decode cX10_element 9 = .ok (.aload_n 0, 1) := by decide +kernel
theorem dX10_element_10 : decode cX10_element 10 = .ok (.getfield 63, 3) := by decide +kernel
theorem dX10_element_13 : decode cX10_element 13 = .ok (.iload_n 1, 1) := by decide +kernel
theorem dX10_element_14 : decode cX10_element 14 = .ok (.aaload, 1) := by decide +kernel
theorem dX10_element_15 : decode cX10_element 15 = .ok (.getfield 332, 3) := by decide +kernel
theorem dX10_element_18 : decode cX10_element 18 = .ok (.iload_n 2, 1) := by decide +kernel
theorem dX10_element_19 : decode cX10_element 19 = .ok (.laload, 1) := by decide +kernel
theorem dX10_element_20 : decode cX10_element 20 = .ok (.goto 6, 3) := by decide +kernel
theorem dX10_element_23 : decode cX10_element 23 = .ok (.ldc2_w 336, 3) := by decide +kernel
theorem dX10_element_26 : decode cX10_element 26 = .ok (.lreturn, 1) := by decide +kernel
theorem dX10_placeRefused_0 : decode cX10_placeRefused 0 = .ok (.iload_n 1, 1) := by decide +kernel
theorem dX10_placeRefused_1 : decode cX10_placeRefused 1 = .ok (.invokestatic 83, 3) := by decide +kernel
theorem dX10_placeRefused_4 : decode cX10_placeRefused 4 = .ok (.ifCond .ne 5, 3) := by decide +kernel
theorem dX10_placeRefused_7 : decode cX10_placeRefused 7 = .ok (.iconst (-1), 1) := by decide +kernel
theorem dX10_placeRefused_8 : decode cX10_placeRefused 8 = .ok (.ireturn, 1) := by decide +kernel
theorem dX10_placeRefused_9 : decode cX10_placeRefused 9 = .ok (.aload_n 0, 1) := by decide +kernel
theorem dX10_placeRefused_10 : decode cX10_placeRefused 10 = .ok (.getfield 63, 3) := by decide +kernel
theorem dX10_placeRefused_13 : decode cX10_placeRefused 13 = .ok (.iload_n 1, 1) := by decide +kernel
theorem dX10_placeRefused_14 : decode cX10_placeRefused 14 = .ok (.aaload, 1) := by decide +kernel
theorem dX10_placeRefused_15 : decode cX10_placeRefused 15 = .ok (.invokevirtual 338, 3) := by decide +kernel
theorem dX10_placeRefused_18 : decode cX10_placeRefused 18 = .ok (.istore_n 3, 1) := by decide +kernel
theorem dX10_placeRefused_19 : decode cX10_placeRefused 19 = .ok (.iload_n 3, 1) := by decide +kernel
theorem dX10_placeRefused_20 : decode cX10_placeRefused 20 = .ok (.ifCond .eq 5, 3) := by decide +kernel
theorem dX10_placeRefused_23 : decode cX10_placeRefused 23 = .ok (.iload_n 3, 1) := by decide +kernel
theorem dX10_placeRefused_24 : decode cX10_placeRefused 24 = .ok (.ireturn, 1) := by decide +kernel
theorem dX10_placeRefused_25 : decode cX10_placeRefused 25 = .ok (.aload_n 0, 1) := by decide +kernel
theorem dX10_placeRefused_26 : decode cX10_placeRefused 26 = .ok (.getfield 63, 3) := by decide +kernel
theorem dX10_placeRefused_29 : decode cX10_placeRefused 29 = .ok (.iload_n 1, 1) := by decide +kernel
theorem dX10_placeRefused_30 : decode cX10_placeRefused 30 = .ok (.aaload, 1) := by decide +kernel
theorem dX10_placeRefused_31 : decode cX10_placeRefused 31 = .ok (.iload_n 2, 1) := by decide +kernel
theorem dX10_placeRefused_32 : decode cX10_placeRefused 32 = .ok (.invokevirtual 98, 3) := by decide +kernel
theorem dX10_placeRefused_35 : decode cX10_placeRefused 35 = .ok (.ifCond .eq 7, 3) := by decide +kernel
theorem dX10_placeRefused_38 : decode cX10_placeRefused 38 = .ok (.iconst 0, 1) := by decide +kernel
theorem dX10_placeRefused_39 : decode cX10_placeRefused 39 = .ok (.goto 5, 3) := by decide +kernel
theorem dX10_placeRefused_42 : decode cX10_placeRefused 42 = .ok (.bipush (-13), 2) := by decide +kernel
theorem dX10_placeRefused_44 : decode cX10_placeRefused 44 = .ok (.ireturn, 1) := by decide +kernel
theorem dX10_shift_0 : decode cX10_shift 0 = .ok (.iload_n 1, 1) := by decide +kernel
theorem dX10_shift_1 : decode cX10_shift 1 = .ok (.invokestatic 83, 3) := by decide +kernel
theorem dX10_shift_4 : decode cX10_shift 4 = .ok (.ifCond .eq 10, 3) := by decide +kernel
theorem dX10_shift_7 : decode cX10_shift 7 = .ok (.iload_n 3, 1) := by decide +kernel
theorem dX10_shift_8 : decode cX10_shift 8 = .ok (.invokestatic 83, 3) := by decide +kernel
theorem dX10_shift_11 : decode cX10_shift 11 = .ok (.ifCond .ne 5, 3) := by decide +kernel
theorem dX10_shift_14 : decode cX10_shift 14 = .ok (.iconst (-1), 1) := by decide +kernel
theorem dX10_shift_15 : decode cX10_shift 15 = .ok (.ireturn, 1) := by decide +kernel
theorem dX10_shift_16 : decode cX10_shift 16 = .ok (.aload_n 0, 1) := by decide +kernel
theorem dX10_shift_17 : decode cX10_shift 17 = .ok (.getfield 63, 3) := by decide +kernel
theorem dX10_shift_20 : decode cX10_shift 20 = .ok (.iload_n 1, 1) := by decide +kernel
theorem dX10_shift_21 : decode cX10_shift 21 = .ok (.aaload, 1) := by decide +kernel
theorem dX10_shift_22 : decode cX10_shift 22 = .ok (.astore 6, 2) := by decide +kernel
theorem dX10_shift_24 : decode cX10_shift 24 = .ok (.aload_n 0, 1) := by decide +kernel
theorem dX10_shift_25 : decode cX10_shift 25 = .ok (.getfield 63, 3) := by decide +kernel
theorem dX10_shift_28 : decode cX10_shift 28 = .ok (.iload_n 3, 1) := by decide +kernel
theorem dX10_shift_29 : decode cX10_shift 29 = .ok (.aaload, 1) := by decide +kernel
theorem dX10_shift_30 : decode cX10_shift 30 = .ok (.astore 7, 2) := by decide +kernel
theorem dX10_shift_32 : decode cX10_shift 32 = .ok (.aload 6, 2) := by decide +kernel
theorem dX10_shift_34 : decode cX10_shift 34 = .ok (.invokevirtual 338, 3) := by decide +kernel
theorem dX10_shift_37 : decode cX10_shift 37 = .ok (.istore 8, 2) := by decide +kernel
theorem dX10_shift_39 : decode cX10_shift 39 = .ok (.aload 7, 2) := by decide +kernel
theorem dX10_shift_41 : decode cX10_shift 41 = .ok (.invokevirtual 338, 3) := by decide +kernel
theorem dX10_shift_44 : decode cX10_shift 44 = .ok (.istore 9, 2) := by decide +kernel
theorem dX10_shift_46 : decode cX10_shift 46 = .ok (.iload 8, 2) := by decide +kernel
theorem dX10_shift_48 : decode cX10_shift 48 = .ok (.bipush (-11), 2) := by decide +kernel
theorem dX10_shift_50 : decode cX10_shift 50 = .ok (.if_icmp .eq 10, 3) := by decide +kernel
theorem dX10_shift_53 : decode cX10_shift 53 = .ok (.iload 9, 2) := by decide +kernel
theorem dX10_shift_55 : decode cX10_shift 55 = .ok (.bipush (-11), 2) := by decide +kernel
theorem dX10_shift_57 : decode cX10_shift 57 = .ok (.if_icmp .ne 6, 3) := by decide +kernel
theorem dX10_shift_60 : decode cX10_shift 60 = .ok (.bipush (-11), 2) := by decide +kernel
theorem dX10_shift_62 : decode cX10_shift 62 = .ok (.ireturn, 1) := by decide +kernel
theorem dX10_shift_63 : decode cX10_shift 63 = .ok (.iload 8, 2) := by decide +kernel
theorem dX10_shift_65 : decode cX10_shift 65 = .ok (.ifCond .ne 21, 3) := by decide +kernel
theorem dX10_shift_68 : decode cX10_shift 68 = .ok (.iload 9, 2) := by decide +kernel
theorem dX10_shift_70 : decode cX10_shift 70 = .ok (.ifCond .ne 16, 3) := by decide +kernel
theorem dX10_shift_73 : decode cX10_shift 73 = .ok (.aload 6, 2) := by decide +kernel
theorem dX10_shift_75 : decode cX10_shift 75 = .ok (.getfield 341, 3) := by decide +kernel
theorem dX10_shift_78 : decode cX10_shift 78 = .ok (.aload 7, 2) := by decide +kernel
theorem dX10_shift_80 : decode cX10_shift 80 = .ok (.getfield 341, 3) := by decide +kernel
theorem dX10_shift_83 : decode cX10_shift 83 = .ok (.if_icmp .eq 6, 3) := by decide +kernel
theorem dX10_shift_86 : decode cX10_shift 86 = .ok (.bipush (-12), 2) := by decide +kernel
theorem dX10_shift_88 : decode cX10_shift 88 = .ok (.ireturn, 1) := by decide +kernel
theorem dX10_shift_89 : decode cX10_shift 89 = .ok (.aload 6, 2) := by decide +kernel
theorem dX10_shift_91 : decode cX10_shift 91 = .ok (.iload_n 2, 1) := by decide +kernel
theorem dX10_shift_92 : decode cX10_shift 92 = .ok (.iload 5, 2) := by decide +kernel
theorem dX10_shift_94 : decode cX10_shift 94 = .ok (.invokevirtual 344, 3) := by decide +kernel
theorem dX10_shift_97 : decode cX10_shift 97 = .ok (.ifCond .eq 15, 3) := by decide +kernel
theorem dX10_shift_100 : decode cX10_shift 100 = .ok (.aload 7, 2) := by decide +kernel
theorem dX10_shift_102 : decode cX10_shift 102 = .ok (.iload 4, 2) := by decide +kernel
theorem dX10_shift_104 : decode cX10_shift 104 = .ok (.iload 5, 2) := by decide +kernel
theorem dX10_shift_106 : decode cX10_shift 106 = .ok (.invokevirtual 344, 3) := by decide +kernel
theorem dX10_shift_109 : decode cX10_shift 109 = .ok (.ifCond .ne 6, 3) := by decide +kernel
theorem dX10_shift_112 : decode cX10_shift 112 = .ok (.bipush (-13), 2) := by decide +kernel
theorem dX10_shift_114 : decode cX10_shift 114 = .ok (.ireturn, 1) := by decide +kernel
theorem dX10_shift_115 : decode cX10_shift 115 = .ok (.aload 6, 2) := by decide +kernel
theorem dX10_shift_117 : decode cX10_shift 117 = .ok (.getfield 332, 3) := by decide +kernel
theorem dX10_shift_120 : decode cX10_shift 120 = .ok (.iload_n 2, 1) := by decide +kernel
theorem dX10_shift_121 : decode cX10_shift 121 = .ok (.aload 7, 2) := by decide +kernel
theorem dX10_shift_123 : decode cX10_shift 123 = .ok (.getfield 332, 3) := by decide +kernel
theorem dX10_shift_126 : decode cX10_shift 126 = .ok (.iload 4, 2) := by decide +kernel
theorem dX10_shift_128 : decode cX10_shift 128 = .ok (.iload 5, 2) := by decide +kernel
theorem dX10_shift_130 : decode cX10_shift 130 = .ok (.invokestatic 347, 3) := by decide +kernel
theorem dX10_shift_133 : decode cX10_shift 133 = .ok (.iload 5, 2) := by decide +kernel
theorem dX10_shift_135 : decode cX10_shift 135 = .ok (.ireturn, 1) := by decide +kernel
theorem dX10_taken_0 : decode cX10_taken 0 = .ok (.iload_n 1, 1) := by decide +kernel
theorem dX10_taken_1 : decode cX10_taken 1 = .ok (.invokestatic 83, 3) := by decide +kernel
theorem dX10_taken_4 : decode cX10_taken 4 = .ok (.ifCond .eq 10, 3) := by decide +kernel
theorem dX10_taken_7 : decode cX10_taken 7 = .ok (.iload_n 2, 1) := by decide +kernel
theorem dX10_taken_8 : decode cX10_taken 8 = .ok (.invokestatic 302, 3) := by decide +kernel
theorem dX10_taken_11 : decode cX10_taken 11 = .ok (.ifCond .ne 5, 3) := by decide +kernel
theorem dX10_taken_14 : decode cX10_taken 14 = .ok (.iconst (-1), 1) := by decide +kernel
theorem dX10_taken_15 : decode cX10_taken 15 = .ok (.ireturn, 1) := by decide +kernel
theorem dX10_taken_16 : decode cX10_taken 16 = .ok (.aload_n 0, 1) := by decide +kernel
theorem dX10_taken_17 : decode cX10_taken 17 = .ok (.getfield 63, 3) := by decide +kernel
theorem dX10_taken_20 : decode cX10_taken 20 = .ok (.iload_n 1, 1) := by decide +kernel
theorem dX10_taken_21 : decode cX10_taken 21 = .ok (.aaload, 1) := by decide +kernel
theorem dX10_taken_22 : decode cX10_taken 22 = .ok (.getfield 353, 3) := by decide +kernel
theorem dX10_taken_25 : decode cX10_taken 25 = .ok (.ifCond .ne 6, 3) := by decide +kernel
theorem dX10_taken_28 : decode cX10_taken 28 = .ok (.bipush (-11), 2) := by decide +kernel
theorem dX10_taken_30 : decode cX10_taken 30 = .ok (.ireturn, 1) := by decide +kernel
theorem dX10_taken_31 : decode cX10_taken 31 = .ok (.aload_n 0, 1) := by decide +kernel
theorem dX10_taken_32 : decode cX10_taken 32 = .ok (.getfield 63, 3) := by decide +kernel
theorem dX10_taken_35 : decode cX10_taken 35 = .ok (.iload_n 1, 1) := by decide +kernel
theorem dX10_taken_36 : decode cX10_taken 36 = .ok (.aaload, 1) := by decide +kernel
theorem dX10_taken_37 : decode cX10_taken 37 = .ok (.getfield 353, 3) := by decide +kernel
theorem dX10_taken_40 : decode cX10_taken 40 = .ok (.iconst 2, 1) := by decide +kernel
theorem dX10_taken_41 : decode cX10_taken 41 = .ok (.if_icmp .ne 6, 3) := by decide +kernel
theorem dX10_taken_44 : decode cX10_taken 44 = .ok (.bipush (-12), 2) := by decide +kernel
theorem dX10_taken_46 : decode cX10_taken 46 = .ok (.ireturn, 1) := by decide +kernel
theorem dX10_taken_47 : decode cX10_taken 47 = .ok (.aload_n 0, 1) := by decide +kernel
theorem dX10_taken_48 : decode cX10_taken 48 = .ok (.getfield 57, 3) := by decide +kernel
theorem dX10_taken_51 : decode cX10_taken 51 = .ok (.aload_n 0, 1) := by decide +kernel
theorem dX10_taken_52 : decode cX10_taken 52 = .ok (.getfield 63, 3) := by decide +kernel
theorem dX10_taken_55 : decode cX10_taken 55 = .ok (.iload_n 1, 1) := by decide +kernel
theorem dX10_taken_56 : decode cX10_taken 56 = .ok (.aaload, 1) := by decide +kernel
theorem dX10_taken_57 : decode cX10_taken 57 = .ok (.getfield 356, 3) := by decide +kernel
theorem dX10_taken_60 : decode cX10_taken 60 = .ok (.invokevirtual 359, 3) := by decide +kernel
theorem dX10_taken_63 : decode cX10_taken 63 = .ok (.istore_n 3, 1) := by decide +kernel
theorem dX10_taken_64 : decode cX10_taken 64 = .ok (.iload_n 3, 1) := by decide +kernel
theorem dX10_taken_65 : decode cX10_taken 65 = .ok (.iload_n 2, 1) := by decide +kernel
theorem dX10_taken_66 : decode cX10_taken 66 = .ok (.invokestatic 362, 3) := by decide +kernel
theorem dX10_taken_69 : decode cX10_taken 69 = .ok (.ifCond .eq 7, 3) := by decide +kernel
theorem dX10_taken_72 : decode cX10_taken 72 = .ok (.iload_n 3, 1) := by decide +kernel
theorem dX10_taken_73 : decode cX10_taken 73 = .ok (.goto 5, 3) := by decide +kernel
theorem dX10_taken_76 : decode cX10_taken 76 = .ok (.bipush (-12), 2) := by decide +kernel
theorem dX10_taken_78 : decode cX10_taken 78 = .ok (.ireturn, 1) := by decide +kernel
theorem dX10_count_0 : decode cX10_count 0 = .ok (.iload_n 1, 1) := by decide +kernel
theorem dX10_count_1 : decode cX10_count 1 = .ok (.tableswitch 84 0 5 #[39, 44, 52, 60, 68, 76], 39) := by decide +kernel
theorem dX10_count_40 : decode cX10_count 40 = .ok (.aload_n 0, 1) := by decide +kernel
theorem dX10_count_41 : decode cX10_count 41 = .ok (.getfield 68, 3) := by decide +kernel
theorem dX10_count_44 : decode cX10_count 44 = .ok (.ireturn, 1) := by decide +kernel
theorem dX10_count_45 : decode cX10_count 45 = .ok (.aload_n 0, 1) := by decide +kernel
theorem dX10_count_46 : decode cX10_count 46 = .ok (.getfield 26, 3) := by decide +kernel
theorem dX10_count_49 : decode cX10_count 49 = .ok (.getfield 365, 3) := by decide +kernel
theorem dX10_count_52 : decode cX10_count 52 = .ok (.ireturn, 1) := by decide +kernel
theorem dX10_count_53 : decode cX10_count 53 = .ok (.aload_n 0, 1) := by decide +kernel
theorem dX10_count_54 : decode cX10_count 54 = .ok (.getfield 10, 3) := by decide +kernel
theorem dX10_count_57 : decode cX10_count 57 = .ok (.getfield 149, 3) := by decide +kernel
theorem dX10_count_60 : decode cX10_count 60 = .ok (.ireturn, 1) := by decide +kernel
theorem dX10_count_61 : decode cX10_count 61 = .ok (.aload_n 0, 1) := by decide +kernel
theorem dX10_count_62 : decode cX10_count 62 = .ok (.getfield 50, 3) := by decide +kernel
theorem dX10_count_65 : decode cX10_count 65 = .ok (.getfield 284, 3) := by decide +kernel
theorem dX10_count_68 : decode cX10_count 68 = .ok (.ireturn, 1) := by decide +kernel
theorem dX10_count_69 : decode cX10_count 69 = .ok (.aload_n 0, 1) := by decide +kernel
theorem dX10_count_70 : decode cX10_count 70 = .ok (.getfield 57, 3) := by decide +kernel
theorem dX10_count_73 : decode cX10_count 73 = .ok (.getfield 366, 3) := by decide +kernel
theorem dX10_count_76 : decode cX10_count 76 = .ok (.ireturn, 1) := by decide +kernel
theorem dX10_count_77 : decode cX10_count 77 = .ok (.aload_n 0, 1) := by decide +kernel
theorem dX10_count_78 : decode cX10_count 78 = .ok (.getfield 57, 3) := by decide +kernel
theorem dX10_count_81 : decode cX10_count 81 = .ok (.getfield 367, 3) := by decide +kernel
theorem dX10_count_84 : decode cX10_count 84 = .ok (.ireturn, 1) := by decide +kernel
theorem dX10_count_85 : decode cX10_count 85 = .ok (.iconst (-1), 1) := by decide +kernel
theorem dX10_count_86 : decode cX10_count 86 = .ok (.ireturn, 1) := by decide +kernel
theorem dX10_isHouse_0 : decode cX10_isHouse 0 = .ok (.iload_n 1, 1) := by decide +kernel
theorem dX10_isHouse_1 : decode cX10_isHouse 1 = .ok (.ifCond .lt 15, 3) := by decide +kernel
theorem dX10_isHouse_4 : decode cX10_isHouse 4 = .ok (.iload_n 1, 1) := by decide +kernel
theorem dX10_isHouse_5 : decode cX10_isHouse 5 = .ok (.aload_n 0, 1) := by decide +kernel
theorem dX10_isHouse_6 : decode cX10_isHouse 6 = .ok (.getfield 68, 3) := by decide +kernel
theorem dX10_isHouse_9 : decode cX10_isHouse 9 = .ok (.if_icmp .ge 7, 3) := by decide +kernel
theorem dX10_isHouse_12 : decode cX10_isHouse 12 = .ok (.iconst 1, 1) := by decide +kernel
theorem dX10_isHouse_13 : decode cX10_isHouse 13 = .ok (.goto 4, 3) := by decide +kernel
theorem dX10_isHouse_16 : decode cX10_isHouse 16 = .ok (.iconst 0, 1) := by decide +kernel
theorem dX10_isHouse_17 : decode cX10_isHouse 17 = .ok (.ireturn, 1) := by decide +kernel
theorem dX10_isThing_0 : decode cX10_isThing 0 = .ok (.iload_n 0, 1) := by decide +kernel
theorem dX10_isThing_1 : decode cX10_isThing 1 = .ok (.ifCond .lt 13, 3) := by decide +kernel
theorem dX10_isThing_4 : decode cX10_isThing 4 = .ok (.iload_n 0, 1) := by decide +kernel
theorem dX10_isThing_5 : decode cX10_isThing 5 = .ok (.bipush 8, 2) := by decide +kernel
theorem dX10_isThing_7 : decode cX10_isThing 7 = .ok (.if_icmp .ge 7, 3) := by decide +kernel
theorem dX10_isThing_10 : decode cX10_isThing 10 = .ok (.iconst 1, 1) := by decide +kernel
theorem dX10_isThing_11 : decode cX10_isThing 11 = .ok (.goto 4, 3) := by decide +kernel
theorem dX10_isThing_14 : decode cX10_isThing 14 = .ok (.iconst 0, 1) := by decide +kernel
theorem dX10_isThing_15 : decode cX10_isThing 15 = .ok (.ireturn, 1) := by decide +kernel
theorem dX10_isShelf_0 : decode cX10_isShelf 0 = .ok (.iload_n 0, 1) := by decide +kernel
theorem dX10_isShelf_1 : decode cX10_isShelf 1 = .ok (.ifCond .lt 13, 3) := by decide +kernel
theorem dX10_isShelf_4 : decode cX10_isShelf 4 = .ok (.iload_n 0, 1) := by decide +kernel
theorem dX10_isShelf_5 : decode cX10_isShelf 5 = .ok (.bipush 6, 2) := by decide +kernel
theorem dX10_isShelf_7 : decode cX10_isShelf 7 = .ok (.if_icmp .ge 7, 3) := by decide +kernel
theorem dX10_isShelf_10 : decode cX10_isShelf 10 = .ok (.iconst 1, 1) := by decide +kernel
theorem dX10_isShelf_11 : decode cX10_isShelf 11 = .ok (.goto 4, 3) := by decide +kernel
theorem dX10_isShelf_14 : decode cX10_isShelf 14 = .ok (.iconst 0, 1) := by decide +kernel
theorem dX10_isShelf_15 : decode cX10_isShelf 15 = .ok (.ireturn, 1) := by decide +kernel
theorem dX10_areShelves_0 : decode cX10_areShelves 0 = .ok (.iload_n 0, 1) := by decide +kernel
theorem dX10_areShelves_1 : decode cX10_areShelves 1 = .ok (.ifCond .lt 27, 3) := by decide +kernel
theorem dX10_areShelves_4 : decode cX10_areShelves 4 = .ok (.iload_n 0, 1) := by decide +kernel
theorem dX10_areShelves_5 : decode cX10_areShelves 5 = .ok (.bipush 10, 2) := by decide +kernel
theorem dX10_areShelves_7 : decode cX10_areShelves 7 = .ok (.idiv, 1) := by decide +kernel
theorem dX10_areShelves_8 : decode cX10_areShelves 8 = .ok (.invokestatic 83, 3) := by decide +kernel
theorem dX10_areShelves_11 : decode cX10_areShelves 11 = .ok (.ifCond .eq 17, 3) := by decide +kernel
theorem dX10_areShelves_14 : decode cX10_areShelves 14 = .ok (.iload_n 0, 1) := by decide +kernel
theorem dX10_areShelves_15 : decode cX10_areShelves 15 = .ok (.bipush 10, 2) := by decide +kernel
theorem dX10_areShelves_17 : decode cX10_areShelves 17 = .ok (.irem, 1) := by decide +kernel
theorem dX10_areShelves_18 : decode cX10_areShelves 18 = .ok (.invokestatic 83, 3) := by decide +kernel
theorem dX10_areShelves_21 : decode cX10_areShelves 21 = .ok (.ifCond .eq 7, 3) := by decide +kernel
theorem dX10_areShelves_24 : decode cX10_areShelves 24 = .ok (.iconst 1, 1) := by decide +kernel
theorem dX10_areShelves_25 : decode cX10_areShelves 25 = .ok (.goto 4, 3) := by decide +kernel
theorem dX10_areShelves_28 : decode cX10_areShelves 28 = .ok (.iconst 0, 1) := by decide +kernel
theorem dX10_areShelves_29 : decode cX10_areShelves 29 = .ok (.ireturn, 1) := by decide +kernel
theorem dX10_isSearch_0 : decode cX10_isSearch 0 = .ok (.iload_n 1, 1) := by decide +kernel
theorem dX10_isSearch_1 : decode cX10_isSearch 1 = .ok (.ifCond .lt 27, 3) := by decide +kernel
theorem dX10_isSearch_4 : decode cX10_isSearch 4 = .ok (.aload_n 0, 1) := by decide +kernel
theorem dX10_isSearch_5 : decode cX10_isSearch 5 = .ok (.iload_n 1, 1) := by decide +kernel
theorem dX10_isSearch_6 : decode cX10_isSearch 6 = .ok (.bipush 100, 2) := by decide +kernel
theorem dX10_isSearch_8 : decode cX10_isSearch 8 = .ok (.idiv, 1) := by decide +kernel
theorem dX10_isSearch_9 : decode cX10_isSearch 9 = .ok (.invokevirtual 87, 3) := by decide +kernel
theorem dX10_isSearch_12 : decode cX10_isSearch 12 = .ok (.ifCond .eq 16, 3) := by decide +kernel
theorem dX10_isSearch_15 : decode cX10_isSearch 15 = .ok (.iload_n 1, 1) := by decide +kernel
theorem dX10_isSearch_16 : decode cX10_isSearch 16 = .ok (.bipush 100, 2) := by decide +kernel
theorem dX10_isSearch_18 : decode cX10_isSearch 18 = .ok (.irem, 1) := by decide +kernel
theorem dX10_isSearch_19 : decode cX10_isSearch 19 = .ok (.bipush 10, 2) := by decide +kernel
theorem dX10_isSearch_21 : decode cX10_isSearch 21 = .ok (.if_icmp .gt 7, 3) := by decide +kernel
theorem dX10_isSearch_24 : decode cX10_isSearch 24 = .ok (.iconst 1, 1) := by decide +kernel
theorem dX10_isSearch_25 : decode cX10_isSearch 25 = .ok (.goto 4, 3) := by decide +kernel
theorem dX10_isSearch_28 : decode cX10_isSearch 28 = .ok (.iconst 0, 1) := by decide +kernel
theorem dX10_isSearch_29 : decode cX10_isSearch 29 = .ok (.ireturn, 1) := by decide +kernel
theorem dX10_larder_0 : decode cX10_larder 0 = .ok (.iload_n 0, 1) := by decide +kernel
theorem dX10_larder_1 : decode cX10_larder 1 = .ok (.bipush 8, 2) := by decide +kernel
theorem dX10_larder_3 : decode cX10_larder 3 = .ok (.imul, 1) := by decide +kernel
theorem dX10_larder_4 : decode cX10_larder 4 = .ok (.iload_n 1, 1) := by decide +kernel
theorem dX10_larder_5 : decode cX10_larder 5 = .ok (.iadd, 1) := by decide +kernel
theorem dX10_larder_6 : decode cX10_larder 6 = .ok (.ireturn, 1) := by decide +kernel
theorem dX10_strengthAt_0 : decode cX10_strengthAt 0 = .ok (.iload_n 0, 1) := by decide +kernel
theorem dX10_strengthAt_1 : decode cX10_strengthAt 1 = .ok (.iconst 5, 1) := by decide +kernel
theorem dX10_strengthAt_2 : decode cX10_strengthAt 2 = .ok (.imul, 1) := by decide +kernel
theorem dX10_strengthAt_3 : decode cX10_strengthAt 3 = .ok (.iload_n 1, 1) := by decide +kernel
theorem dX10_strengthAt_4 : decode cX10_strengthAt 4 = .ok (.iadd, 1) := by decide +kernel
theorem dX10_strengthAt_5 : decode cX10_strengthAt 5 = .ok (.ireturn, 1) := by decide +kernel
theorem dX10_readyMix_0 : decode cX10_readyMix 0 = .ok (.aload_n 0, 1) := by decide +kernel
theorem dX10_readyMix_1 : decode cX10_readyMix 1 = .ok (.getfield 63, 3) := by decide +kernel
theorem dX10_readyMix_4 : decode cX10_readyMix 4 = .ok (.iload_n 1, 1) := by decide +kernel
theorem dX10_readyMix_5 : decode cX10_readyMix 5 = .ok (.aaload, 1) := by decide +kernel
theorem dX10_readyMix_6 : decode cX10_readyMix 6 = .ok (.invokevirtual 90, 3) := by decide +kernel
theorem dX10_readyMix_9 : decode cX10_readyMix 9 = .ok (.istore_n 2, 1) := by decide +kernel
theorem dX10_readyMix_10 : decode cX10_readyMix 10 = .ok (.iload_n 2, 1) := by decide +kernel
theorem dX10_readyMix_11 : decode cX10_readyMix 11 = .ok (.ifCond .ne 19, 3) := by decide +kernel
theorem dX10_readyMix_14 : decode cX10_readyMix 14 = .ok (.aload_n 0, 1) := by decide +kernel
theorem dX10_readyMix_15 : decode cX10_readyMix 15 = .ok (.getfield 63, 3) := by decide +kernel
theorem dX10_readyMix_18 : decode cX10_readyMix 18 = .ok (.iload_n 1, 1) := by decide +kernel
theorem dX10_readyMix_19 : decode cX10_readyMix 19 = .ok (.aaload, 1) := by decide +kernel
theorem dX10_readyMix_20 : decode cX10_readyMix 20 = .ok (.aload_n 0, 1) := by decide +kernel
theorem dX10_readyMix_21 : decode cX10_readyMix 21 = .ok (.getfield 19, 3) := by decide +kernel
theorem dX10_readyMix_24 : decode cX10_readyMix 24 = .ok (.invokevirtual 220, 3) := by decide +kernel
theorem dX10_readyMix_27 : decode cX10_readyMix 27 = .ok (.invokevirtual 370, 3) := by decide +kernel
theorem dX10_readyMix_30 : decode cX10_readyMix 30 = .ok (.iload_n 2, 1) := by decide +kernel
theorem dX10_readyMix_31 : decode cX10_readyMix 31 = .ok (.ireturn, 1) := by decide +kernel
theorem dX10_readySoup_0 : decode cX10_readySoup 0 = .ok (.aload_n 0, 1) := by decide +kernel
theorem dX10_readySoup_1 : decode cX10_readySoup 1 = .ok (.getfield 63, 3) := by decide +kernel
theorem dX10_readySoup_4 : decode cX10_readySoup 4 = .ok (.iload_n 1, 1) := by decide +kernel
theorem dX10_readySoup_5 : decode cX10_readySoup 5 = .ok (.aaload, 1) := by decide +kernel
theorem dX10_readySoup_6 : decode cX10_readySoup 6 = .ok (.invokevirtual 90, 3) := by decide +kernel
theorem dX10_readySoup_9 : decode cX10_readySoup 9 = .ok (.istore_n 2, 1) := by decide +kernel
theorem dX10_readySoup_10 : decode cX10_readySoup 10 = .ok (.iload_n 2, 1) := by decide +kernel
theorem dX10_readySoup_11 : decode cX10_readySoup 11 = .ok (.ifCond .ne 25, 3) := by decide +kernel
theorem dX10_readySoup_14 : decode cX10_readySoup 14 = .ok (.aload_n 0, 1) := by decide +kernel
theorem dX10_readySoup_15 : decode cX10_readySoup 15 = .ok (.getfield 63, 3) := by decide +kernel
theorem dX10_readySoup_18 : decode cX10_readySoup 18 = .ok (.iload_n 1, 1) := by decide +kernel
theorem dX10_readySoup_19 : decode cX10_readySoup 19 = .ok (.aaload, 1) := by decide +kernel
theorem dX10_readySoup_20 : decode cX10_readySoup 20 = .ok (.iconst 0, 1) := by decide +kernel
theorem dX10_readySoup_21 : decode cX10_readySoup 21 = .ok (.aload_n 0, 1) := by decide +kernel
theorem dX10_readySoup_22 : decode cX10_readySoup 22 = .ok (.getfield 19, 3) := by decide +kernel
theorem dX10_readySoup_25 : decode cX10_readySoup 25 = .ok (.getfield 198, 3) := by decide +kernel
theorem dX10_readySoup_28 : decode cX10_readySoup 28 = .ok (.invokevirtual 194, 3) := by decide +kernel
theorem dX10_readySoup_31 : decode cX10_readySoup 31 = .ok (.ifCond .ne 5, 3) := by decide +kernel
theorem dX10_readySoup_34 : decode cX10_readySoup 34 = .ok (.iconst (-1), 1) := by decide +kernel
theorem dX10_readySoup_35 : decode cX10_readySoup 35 = .ok (.ireturn, 1) := by decide +kernel
theorem dX10_readySoup_36 : decode cX10_readySoup 36 = .ok (.iload_n 2, 1) := by decide +kernel
theorem dX10_readySoup_37 : decode cX10_readySoup 37 = .ok (.ireturn, 1) := by decide +kernel
theorem dX10_readyMixAndSoup_0 : decode cX10_readyMixAndSoup 0 = .ok (.aload_n 0, 1) := by decide +kernel
theorem dX10_readyMixAndSoup_1 : decode cX10_readyMixAndSoup 1 = .ok (.iload_n 1, 1) := by decide +kernel
theorem dX10_readyMixAndSoup_2 : decode cX10_readyMixAndSoup 2 = .ok (.bipush 10, 2) := by decide +kernel
theorem dX10_readyMixAndSoup_4 : decode cX10_readyMixAndSoup 4 = .ok (.idiv, 1) := by decide +kernel
theorem dX10_readyMixAndSoup_5 : decode cX10_readyMixAndSoup 5 = .ok (.invokevirtual 165, 3) := by decide +kernel
theorem dX10_readyMixAndSoup_8 : decode cX10_readyMixAndSoup 8 = .ok (.istore_n 2, 1) := by decide +kernel
theorem dX10_readyMixAndSoup_9 : decode cX10_readyMixAndSoup 9 = .ok (.iload_n 2, 1) := by decide +kernel
theorem dX10_readyMixAndSoup_10 : decode cX10_readyMixAndSoup 10 = .ok (.ifCond .ne 14, 3) := by decide +kernel
theorem dX10_readyMixAndSoup_13 : decode cX10_readyMixAndSoup 13 = .ok (.aload_n 0, 1) := by decide +kernel
theorem dX10_readyMixAndSoup_14 : decode cX10_readyMixAndSoup 14 = .ok (.iload_n 1, 1) := by decide +kernel
theorem dX10_readyMixAndSoup_15 : decode cX10_readyMixAndSoup 15 = .ok (.bipush 10, 2) := by decide +kernel
theorem dX10_readyMixAndSoup_17 : decode cX10_readyMixAndSoup 17 = .ok (.irem, 1) := by decide +kernel
theorem dX10_readyMixAndSoup_18 : decode cX10_readyMixAndSoup 18 = .ok (.invokevirtual 184, 3) := by decide +kernel
theorem dX10_readyMixAndSoup_21 : decode cX10_readyMixAndSoup 21 = .ok (.goto 4, 3) := by decide +kernel
theorem dX10_readyMixAndSoup_24 : decode cX10_readyMixAndSoup 24 = .ok (.iload_n 2, 1) := by decide +kernel
theorem dX10_readyMixAndSoup_25 : decode cX10_readyMixAndSoup 25 = .ok (.ireturn, 1) := by decide +kernel
theorem dX11_init_0 : decode cX11_init 0 = .ok (.aload_n 0, 1) := by decide +kernel
theorem dX11_init_1 : decode cX11_init 1 = .ok (.invokespecial 1, 3) := by decide +kernel
theorem dX11_init_4 : decode cX11_init 4 = .ok (.aload_n 0, 1) := by decide +kernel
theorem dX11_init_5 : decode cX11_init 5 = .ok (.invokestatic 7, 3) := by decide +kernel
theorem dX11_init_8 : decode cX11_init 8 = .ok (.putfield 13, 3) := by decide +kernel
theorem dX11_init_11 : decode cX11_init 11 = .ok (.aload_n 0, 1) := by decide +kernel
theorem dX11_init_12 : decode cX11_init 12 = .ok (.bipush 40, 2) := by decide +kernel
theorem dX11_init_14 : decode cX11_init 14 = .ok (.newarray .int, 2) := by decide +kernel
theorem dX11_init_16 : decode cX11_init 16 = .ok (.putfield 17, 3) := by decide +kernel
theorem dX11_init_19 : decode cX11_init 19 = .ok (.aload_n 0, 1) := by decide +kernel
theorem dX11_init_20 : decode cX11_init 20 = .ok (.bipush 40, 2) := by decide +kernel
theorem dX11_init_22 : decode cX11_init 22 = .ok (.newarray .int, 2) := by decide +kernel
theorem dX11_init_24 : decode cX11_init 24 = .ok (.putfield 20, 3) := by decide +kernel
theorem dX11_init_27 : decode cX11_init 27 = .ok (.aload_n 0, 1) := by decide +kernel
theorem dX11_init_28 : decode cX11_init 28 = .ok (.bipush 40, 2) := by decide +kernel
theorem dX11_init_30 : decode cX11_init 30 = .ok (.newarray .int, 2) := by decide +kernel
theorem dX11_init_32 : decode cX11_init 32 = .ok (.putfield 23, 3) := by decide +kernel
theorem dX11_init_35 : decode cX11_init 35 = .ok (.aload_n 0, 1) := by decide +kernel
theorem dX11_init_36 : decode cX11_init 36 = .ok (.bipush 120, 2) := by decide +kernel
theorem dX11_init_38 : decode cX11_init 38 = .ok (.newarray .int, 2) := by decide +kernel
theorem dX11_init_40 : decode cX11_init 40 = .ok (.putfield 26, 3) := by decide +kernel
theorem dX11_init_43 : decode cX11_init 43 = .ok (.aload_n 0, 1) := by decide +kernel
theorem dX11_init_44 : decode cX11_init 44 = .ok (.bipush 120, 2) := by decide +kernel
theorem dX11_init_46 : decode cX11_init 46 = .ok (.newarray .int, 2) := by decide +kernel
theorem dX11_init_48 : decode cX11_init 48 = .ok (.putfield 29, 3) := by decide +kernel
theorem dX11_init_51 : decode cX11_init 51 = .ok (.aload_n 0, 1) := by decide +kernel
theorem dX11_init_52 : decode cX11_init 52 = .ok (.bipush 120, 2) := by decide +kernel
theorem dX11_init_54 : decode cX11_init 54 = .ok (.newarray .int, 2) := by decide +kernel
theorem dX11_init_56 : decode cX11_init 56 = .ok (.putfield 32, 3) := by decide +kernel
theorem dX11_init_59 : decode cX11_init 59 = .ok (.aload_n 0, 1) := by decide +kernel
theorem dX11_init_60 : decode cX11_init 60 = .ok (.bipush 6, 2) := by decide +kernel
theorem dX11_init_62 : decode cX11_init 62 = .ok (.newarray .int, 2) := by decide +kernel
theorem dX11_init_64 : decode cX11_init 64 = .ok (.putfield 35, 3) := by decide +kernel
theorem dX11_init_67 : decode cX11_init 67 = .ok (.aload_n 0, 1) := by decide +kernel
theorem dX11_init_68 : decode cX11_init 68 = .ok (.bipush 6, 2) := by decide +kernel
theorem dX11_init_70 : decode cX11_init 70 = .ok (.newarray .char, 2) := by decide +kernel
theorem dX11_init_72 : decode cX11_init 72 = .ok (.dup, 1) := by decide +kernel
theorem dX11_init_73 : decode cX11_init 73 = .ok (.iconst 0, 1) := by decide +kernel
theorem dX11_init_74 : decode cX11_init 74 = .ok (.bipush 115, 2) := by decide +kernel
theorem dX11_init_76 : decode cX11_init 76 = .ok (.castore, 1) := by decide +kernel
theorem dX11_init_77 : decode cX11_init 77 = .ok (.dup, 1) := by decide +kernel
theorem dX11_init_78 : decode cX11_init 78 = .ok (.iconst 1, 1) := by decide +kernel
theorem dX11_init_79 : decode cX11_init 79 = .ok (.bipush 116, 2) := by decide +kernel
theorem dX11_init_81 : decode cX11_init 81 = .ok (.castore, 1) := by decide +kernel
theorem dX11_init_82 : decode cX11_init 82 = .ok (.dup, 1) := by decide +kernel
theorem dX11_init_83 : decode cX11_init 83 = .ok (.iconst 2, 1) := by decide +kernel
theorem dX11_init_84 : decode cX11_init 84 = .ok (.bipush 109, 2) := by decide +kernel
theorem dX11_init_86 : decode cX11_init 86 = .ok (.castore, 1) := by decide +kernel
theorem dX11_init_87 : decode cX11_init 87 = .ok (.dup, 1) := by decide +kernel
theorem dX11_init_88 : decode cX11_init 88 = .ok (.iconst 3, 1) := by decide +kernel
theorem dX11_init_89 : decode cX11_init 89 = .ok (.bipush 102, 2) := by decide +kernel
theorem dX11_init_91 : decode cX11_init 91 = .ok (.castore, 1) := by decide +kernel
theorem dX11_init_92 : decode cX11_init 92 = .ok (.dup, 1) := by decide +kernel
theorem dX11_init_93 : decode cX11_init 93 = .ok (.iconst 4, 1) := by decide +kernel
theorem dX11_init_94 : decode cX11_init 94 = .ok (.bipush 105, 2) := by decide +kernel
theorem dX11_init_96 : decode cX11_init 96 = .ok (.castore, 1) := by decide +kernel
theorem dX11_init_97 : decode cX11_init 97 = .ok (.dup, 1) := by decide +kernel
theorem dX11_init_98 : decode cX11_init 98 = .ok (.iconst 5, 1) := by decide +kernel
theorem dX11_init_99 : decode cX11_init 99 = .ok (.bipush 119, 2) := by decide +kernel
theorem dX11_init_101 : decode cX11_init 101 = .ok (.castore, 1) := by decide +kernel
theorem dX11_init_102 : decode cX11_init 102 = .ok (.putfield 38, 3) := by decide +kernel
theorem dX11_init_105 : decode cX11_init 105 = .ok (.aload_n 0, 1) := by decide +kernel
theorem dX11_init_106 : decode cX11_init 106 = .ok (.iconst 5, 1) := by decide +kernel
theorem dX11_init_107 : decode cX11_init 107 = .ok (.newarray .int, 2) := by decide +kernel
theorem dX11_init_109 : decode cX11_init 109 = .ok (.putfield 42, 3) := by decide +kernel
theorem dX11_init_112 : decode cX11_init 112 = .ok (.aload_n 0, 1) := by decide +kernel
theorem dX11_init_113 : decode cX11_init 113 = .ok (.bipush 8, 2) := by decide +kernel
theorem dX11_init_115 : decode cX11_init 115 = .ok (.newarray .int, 2) := by decide +kernel
theorem dX11_init_117 : decode cX11_init 117 = .ok (.putfield 45, 3) := by decide +kernel
theorem dX11_init_120 : decode cX11_init 120 = .ok (.aload_n 0, 1) := by decide +kernel
theorem dX11_init_121 : decode cX11_init 121 = .ok (.bipush 14, 2) := by decide +kernel
theorem dX11_init_123 : decode cX11_init 123 = .ok (.newarray .int, 2) := by decide +kernel
theorem dX11_init_125 : decode cX11_init 125 = .ok (.putfield 48, 3) := by decide +kernel
theorem dX11_init_128 : decode cX11_init 128 = .ok (.aload_n 0, 1) := by decide +kernel
theorem dX11_init_129 : decode cX11_init 129 = .ok (.iconst 5, 1) := by decide +kernel
theorem dX11_init_130 : decode cX11_init 130 = .ok (.newarray .int, 2) := by decide +kernel
theorem dX11_init_132 : decode cX11_init 132 = .ok (.putfield 51, 3) := by decide +kernel
theorem dX11_init_135 : decode cX11_init 135 = .ok (.aload_n 0, 1) := by decide +kernel
theorem dX11_init_136 : decode cX11_init 136 = .ok (.bipush 6, 2) := by decide +kernel
theorem dX11_init_138 : decode cX11_init 138 = .ok (.newarray .int, 2) := by decide +kernel
theorem dX11_init_140 : decode cX11_init 140 = .ok (.dup, 1) := by decide +kernel
theorem dX11_init_141 : decode cX11_init 141 = .ok (.iconst 0, 1) := by decide +kernel
theorem dX11_init_142 : decode cX11_init 142 = .ok (.iconst (-1), 1) := by decide +kernel
theorem dX11_init_143 : decode cX11_init 143 = .ok (.iastore, 1) := by decide +kernel
theorem dX11_init_144 : decode cX11_init 144 = .ok (.dup, 1) := by decide +kernel
theorem dX11_init_145 : decode cX11_init 145 = .ok (.iconst 1, 1) := by decide +kernel
theorem dX11_init_146 : decode cX11_init 146 = .ok (.iconst (-1), 1) := by decide +kernel
theorem dX11_init_147 : decode cX11_init 147 = .ok (.iastore, 1) := by decide +kernel
theorem dX11_init_148 : decode cX11_init 148 = .ok (.dup, 1) := by decide +kernel
theorem dX11_init_149 : decode cX11_init 149 = .ok (.iconst 2, 1) := by decide +kernel
theorem dX11_init_150 : decode cX11_init 150 = .ok (.iconst (-1), 1) := by decide +kernel
theorem dX11_init_151 : decode cX11_init 151 = .ok (.iastore, 1) := by decide +kernel
theorem dX11_init_152 : decode cX11_init 152 = .ok (.dup, 1) := by decide +kernel
theorem dX11_init_153 : decode cX11_init 153 = .ok (.iconst 3, 1) := by decide +kernel
theorem dX11_init_154 : decode cX11_init 154 = .ok (.iconst (-1), 1) := by decide +kernel
theorem dX11_init_155 : decode cX11_init 155 = .ok (.iastore, 1) := by decide +kernel
theorem dX11_init_156 : decode cX11_init 156 = .ok (.dup, 1) := by decide +kernel
theorem dX11_init_157 : decode cX11_init 157 = .ok (.iconst 4, 1) := by decide +kernel
theorem dX11_init_158 : decode cX11_init 158 = .ok (.iconst (-1), 1) := by decide +kernel
theorem dX11_init_159 : decode cX11_init 159 = .ok (.iastore, 1) := by decide +kernel
theorem dX11_init_160 : decode cX11_init 160 = .ok (.dup, 1) := by decide +kernel
theorem dX11_init_161 : decode cX11_init 161 = .ok (.iconst 5, 1) := by decide +kernel
theorem dX11_init_162 : decode cX11_init 162 = .ok (.iconst (-1), 1) := by decide +kernel
theorem dX11_init_163 : decode cX11_init 163 = .ok (.iastore, 1) := by decide +kernel
theorem dX11_init_164 : decode cX11_init 164 = .ok (.putfield 54, 3) := by decide +kernel
theorem dX11_init_167 : decode cX11_init 167 = .ok (.aload_n 0, 1) := by decide +kernel
theorem dX11_init_168 : decode cX11_init 168 = .ok (.bipush 6, 2) := by decide +kernel
theorem dX11_init_170 : decode cX11_init 170 = .ok (.newarray .int, 2) := by decide +kernel
theorem dX11_init_172 : decode cX11_init 172 = .ok (.putfield 57, 3) := by decide +kernel
theorem dX11_init_175 : decode cX11_init 175 = .ok (.aload_n 0, 1) := by decide +kernel
theorem dX11_init_176 : decode cX11_init 176 = .ok (.sipush 360, 3) := by decide +kernel
theorem dX11_init_179 : decode cX11_init 179 = .ok (.newarray .long, 2) := by decide +kernel
theorem dX11_init_181 : decode cX11_init 181 = .ok (.putfield 60, 3) := by decide +kernel
theorem dX11_init_184 : decode cX11_init 184 = .ok (.aload_n 0, 1) := by decide +kernel
theorem dX11_init_185 : decode cX11_init 185 = .ok (.bipush 60, 2) := by decide +kernel
theorem dX11_init_187 : decode cX11_init 187 = .ok (.newarray .long, 2) := by decide +kernel
theorem dX11_init_189 : decode cX11_init 189 = .ok (.putfield 64, 3) := by decide +kernel
theorem dX11_init_192 : decode cX11_init 192 = .ok (.aload_n 0, 1) := by decide +kernel
theorem dX11_init_193 : decode cX11_init 193 = .ok (.iconst 4, 1) := by decide +kernel
theorem dX11_init_194 : decode cX11_init 194 = .ok (.newarray .int, 2) := by decide +kernel
theorem dX11_init_196 : decode cX11_init 196 = .ok (.putfield 67, 3) := by decide +kernel
theorem dX11_init_199 : decode cX11_init 199 = .ok (.aload_n 0, 1) := by decide +kernel
theorem dX11_init_200 : decode cX11_init 200 = .ok (.bipush 30, 2) := by decide +kernel
theorem dX11_init_202 : decode cX11_init 202 = .ok (.newarray .int, 2) := by decide +kernel
theorem dX11_init_204 : decode cX11_init 204 = .ok (.putfield 70, 3) := by decide +kernel
theorem dX11_init_207 : decode cX11_init 207 = .ok (.aload_n 0, 1) := by decide +kernel
theorem dX11_init_208 : decode cX11_init 208 = .ok (.iconst 3, 1) := by decide +kernel
theorem dX11_init_209 : decode cX11_init 209 = .ok (.newarray .int, 2) := by decide +kernel
theorem dX11_init_211 : decode cX11_init 211 = .ok (.putfield 73, 3) := by decide +kernel
theorem dX11_init_214 : decode cX11_init 214 = .ok (.aload_n 0, 1) := by decide +kernel
theorem dX11_init_215 : decode cX11_init 215 = .ok (.bipush 8, 2) := by decide +kernel
theorem dX11_init_217 : decode cX11_init 217 = .ok (.newarray .int, 2) := by decide +kernel
theorem dX11_init_219 : decode cX11_init 219 = .ok (.putfield 76, 3) := by decide +kernel
theorem dX11_init_222 : decode cX11_init 222 = .ok (.aload_n 0, 1) := by decide +kernel
theorem dX11_init_223 : decode cX11_init 223 = .ok (.bipush 8, 2) := by decide +kernel
theorem dX11_init_225 : decode cX11_init 225 = .ok (.newarray .int, 2) := by decide +kernel
theorem dX11_init_227 : decode cX11_init 227 = .ok (.putfield 79, 3) := by decide +kernel
theorem dX11_init_230 : decode cX11_init 230 = .ok (.aload_n 0, 1) := by decide +kernel
theorem dX11_init_231 : decode cX11_init 231 = .ok (.bipush 56, 2) := by decide +kernel
theorem dX11_init_233 : decode cX11_init 233 = .ok (.newarray .int, 2) := by decide +kernel
theorem dX11_init_235 : decode cX11_init 235 = .ok (.putfield 82, 3) := by decide +kernel
theorem dX11_init_238 : decode cX11_init 238 = .ok (.aload_n 0, 1) := by decide +kernel
theorem dX11_init_239 : decode cX11_init 239 = .ok (.bipush 14, 2) := by decide +kernel
theorem dX11_init_241 : decode cX11_init 241 = .ok (.newarray .int, 2) := by decide +kernel
theorem dX11_init_243 : decode cX11_init 243 = .ok (.putfield 85, 3) := by decide +kernel
theorem dX11_init_246 : decode cX11_init 246 = .ok (.aload_n 0, 1) := by decide +kernel
theorem dX11_init_247 : decode cX11_init 247 = .ok (.iconst 5, 1) := by decide +kernel
theorem dX11_init_248 : decode cX11_init 248 = .ok (.newarray .int, 2) := by decide +kernel
theorem dX11_init_250 : decode cX11_init 250 = .ok (.putfield 88, 3) := by decide +kernel
theorem dX11_init_253 : decode cX11_init 253 = .ok (.aload_n 0, 1) := by decide +kernel
theorem dX11_init_254 : decode cX11_init 254 = .ok (.bipush 48, 2) := by decide +kernel
theorem dX11_init_256 : decode cX11_init 256 = .ok (.newarray .int, 2) := by decide +kernel
theorem dX11_init_258 : decode cX11_init 258 = .ok (.putfield 91, 3) := by decide +kernel
theorem dX11_init_261 : decode cX11_init 261 = .ok (.aload_n 0, 1) := by decide +kernel
theorem dX11_init_262 : decode cX11_init 262 = .ok (.bipush 14, 2) := by decide +kernel
theorem dX11_init_264 : decode cX11_init 264 = .ok (.newarray .int, 2) := by decide +kernel
theorem dX11_init_266 : decode cX11_init 266 = .ok (.putfield 94, 3) := by decide +kernel
theorem dX11_init_269 : decode cX11_init 269 = .ok (.aload_n 0, 1) := by decide +kernel
theorem dX11_init_270 : decode cX11_init 270 = .ok (.iconst 5, 1) := by decide +kernel
theorem dX11_init_271 : decode cX11_init 271 = .ok (.newarray .int, 2) := by decide +kernel
theorem dX11_init_273 : decode cX11_init 273 = .ok (.putfield 97, 3) := by decide +kernel
theorem dX11_init_276 : decode cX11_init 276 = .ok (.aload_n 0, 1) := by decide +kernel
theorem dX11_init_277 : decode cX11_init 277 = .ok (.bipush 8, 2) := by decide +kernel
theorem dX11_init_279 : decode cX11_init 279 = .ok (.newarray .int, 2) := by decide +kernel
theorem dX11_init_281 : decode cX11_init 281 = .ok (.dup, 1) := by decide +kernel
theorem dX11_init_282 : decode cX11_init 282 = .ok (.iconst 0, 1) := by decide +kernel
theorem dX11_init_283 : decode cX11_init 283 = .ok (.iconst (-1), 1) := by decide +kernel
theorem dX11_init_284 : decode cX11_init 284 = .ok (.iastore, 1) := by decide +kernel
theorem dX11_init_285 : decode cX11_init 285 = .ok (.dup, 1) := by decide +kernel
theorem dX11_init_286 : decode cX11_init 286 = .ok (.iconst 1, 1) := by decide +kernel
theorem dX11_init_287 : decode cX11_init 287 = .ok (.iconst 0, 1) := by decide +kernel
theorem dX11_init_288 : decode cX11_init 288 = .ok (.iastore, 1) := by decide +kernel
theorem dX11_init_289 : decode cX11_init 289 = .ok (.dup, 1) := by decide +kernel
theorem dX11_init_290 : decode cX11_init 290 = .ok (.iconst 2, 1) := by decide +kernel
theorem dX11_init_291 : decode cX11_init 291 = .ok (.iconst 0, 1) := by decide +kernel
theorem dX11_init_292 : decode cX11_init 292 = .ok (.iastore, 1) := by decide +kernel
theorem dX11_init_293 : decode cX11_init 293 = .ok (.dup, 1) := by decide +kernel
theorem dX11_init_294 : decode cX11_init 294 = .ok (.iconst 3, 1) := by decide +kernel
theorem dX11_init_295 : decode cX11_init 295 = .ok (.iconst 2, 1) := by decide +kernel
theorem dX11_init_296 : decode cX11_init 296 = .ok (.iastore, 1) := by decide +kernel
theorem dX11_init_297 : decode cX11_init 297 = .ok (.dup, 1) := by decide +kernel
theorem dX11_init_298 : decode cX11_init 298 = .ok (.iconst 4, 1) := by decide +kernel
theorem dX11_init_299 : decode cX11_init 299 = .ok (.iconst 1, 1) := by decide +kernel
theorem dX11_init_300 : decode cX11_init 300 = .ok (.iastore, 1) := by decide +kernel
theorem dX11_init_301 : decode cX11_init 301 = .ok (.dup, 1) := by decide +kernel
theorem dX11_init_302 : decode cX11_init 302 = .ok (.iconst 5, 1) := by decide +kernel
theorem dX11_init_303 : decode cX11_init 303 = .ok (.iconst 3, 1) := by decide +kernel
theorem dX11_init_304 : decode cX11_init 304 = .ok (.iastore, 1) := by decide +kernel
theorem dX11_init_305 : decode cX11_init 305 = .ok (.dup, 1) := by decide +kernel
theorem dX11_init_306 : decode cX11_init 306 = .ok (.bipush 6, 2) := by decide +kernel
theorem dX11_init_308 : decode cX11_init 308 = .ok (.iconst 0, 1) := by decide +kernel
theorem dX11_init_309 : decode cX11_init 309 = .ok (.iastore, 1) := by decide +kernel
theorem dX11_init_310 : decode cX11_init 310 = .ok (.dup, 1) := by decide +kernel
theorem dX11_init_311 : decode cX11_init 311 = .ok (.bipush 7, 2) := by decide +kernel
theorem dX11_init_313 : decode cX11_init 313 = .ok (.iconst 4, 1) := by decide +kernel
theorem dX11_init_314 : decode cX11_init 314 = .ok (.iastore, 1) := by decide +kernel
theorem dX11_init_315 : decode cX11_init 315 = .ok (.putfield 100, 3) := by decide +kernel
theorem dX11_init_318 : decode cX11_init 318 = .ok (.aload_n 0, 1) := by decide +kernel
theorem dX11_init_319 : decode cX11_init 319 = .ok (.bipush 32, 2) := by decide +kernel
theorem dX11_init_321 : decode cX11_init 321 = .ok (.newarray .int, 2) := by decide +kernel
theorem dX11_init_323 : decode cX11_init 323 = .ok (.dup, 1) := by decide +kernel
theorem dX11_init_324 : decode cX11_init 324 = .ok (.iconst 0, 1) := by decide +kernel
theorem dX11_init_325 : decode cX11_init 325 = .ok (.iconst 1, 1) := by decide +kernel
theorem dX11_init_326 : decode cX11_init 326 = .ok (.iastore, 1) := by decide +kernel
theorem dX11_init_327 : decode cX11_init 327 = .ok (.dup, 1) := by decide +kernel
theorem dX11_init_328 : decode cX11_init 328 = .ok (.iconst 1, 1) := by decide +kernel
theorem dX11_init_329 : decode cX11_init 329 = .ok (.bipush 10, 2) := by decide +kernel
theorem dX11_init_331 : decode cX11_init 331 = .ok (.iastore, 1) := by decide +kernel
theorem dX11_init_332 : decode cX11_init 332 = .ok (.dup, 1) := by decide +kernel
theorem dX11_init_333 : decode cX11_init 333 = .ok (.iconst 2, 1) := by decide +kernel
theorem dX11_init_334 : decode cX11_init 334 = .ok (.bipush 11, 2) := by decide +kernel
theorem dX11_init_336 : decode cX11_init 336 = .ok (.iastore, 1) := by decide +kernel
theorem dX11_init_337 : decode cX11_init 337 = .ok (.dup, 1) := by decide +kernel
theorem dX11_init_338 : decode cX11_init 338 = .ok (.iconst 3, 1) := by decide +kernel
theorem dX11_init_339 : decode cX11_init 339 = .ok (.iconst 2, 1) := by decide +kernel
theorem dX11_init_340 : decode cX11_init 340 = .ok (.iastore, 1) := by decide +kernel
theorem dX11_init_341 : decode cX11_init 341 = .ok (.dup, 1) := by decide +kernel
theorem dX11_init_342 : decode cX11_init 342 = .ok (.iconst 4, 1) := by decide +kernel
theorem dX11_init_343 : decode cX11_init 343 = .ok (.bipush 20, 2) := by decide +kernel
theorem dX11_init_345 : decode cX11_init 345 = .ok (.iastore, 1) := by decide +kernel
theorem dX11_init_346 : decode cX11_init 346 = .ok (.dup, 1) := by decide +kernel
theorem dX11_init_347 : decode cX11_init 347 = .ok (.iconst 5, 1) := by decide +kernel
theorem dX11_init_348 : decode cX11_init 348 = .ok (.iconst 0, 1) := by decide +kernel
theorem dX11_init_349 : decode cX11_init 349 = .ok (.iastore, 1) := by decide +kernel
theorem dX11_init_350 : decode cX11_init 350 = .ok (.dup, 1) := by decide +kernel
theorem dX11_init_351 : decode cX11_init 351 = .ok (.bipush 6, 2) := by decide +kernel
theorem dX11_init_353 : decode cX11_init 353 = .ok (.iconst 0, 1) := by decide +kernel
theorem dX11_init_354 : decode cX11_init 354 = .ok (.iastore, 1) := by decide +kernel
theorem dX11_init_355 : decode cX11_init 355 = .ok (.dup, 1) := by decide +kernel
theorem dX11_init_356 : decode cX11_init 356 = .ok (.bipush 7, 2) := by decide +kernel
theorem dX11_init_358 : decode cX11_init 358 = .ok (.iconst 0, 1) := by decide +kernel
theorem dX11_init_359 : decode cX11_init 359 = .ok (.iastore, 1) := by decide +kernel
theorem dX11_init_360 : decode cX11_init 360 = .ok (.dup, 1) := by decide +kernel
theorem dX11_init_361 : decode cX11_init 361 = .ok (.bipush 8, 2) := by decide +kernel
theorem dX11_init_363 : decode cX11_init 363 = .ok (.iconst 0, 1) := by decide +kernel
theorem dX11_init_364 : decode cX11_init 364 = .ok (.iastore, 1) := by decide +kernel
theorem dX11_init_365 : decode cX11_init 365 = .ok (.dup, 1) := by decide +kernel
theorem dX11_init_366 : decode cX11_init 366 = .ok (.bipush 9, 2) := by decide +kernel
theorem dX11_init_368 : decode cX11_init 368 = .ok (.bipush 30, 2) := by decide +kernel
theorem dX11_init_370 : decode cX11_init 370 = .ok (.iastore, 1) := by decide +kernel
theorem dX11_init_371 : decode cX11_init 371 = .ok (.dup, 1) := by decide +kernel
theorem dX11_init_372 : decode cX11_init 372 = .ok (.bipush 10, 2) := by decide +kernel
theorem dX11_init_374 : decode cX11_init 374 = .ok (.iconst 0, 1) := by decide +kernel
theorem dX11_init_375 : decode cX11_init 375 = .ok (.iastore, 1) := by decide +kernel
theorem dX11_init_376 : decode cX11_init 376 = .ok (.dup, 1) := by decide +kernel
theorem dX11_init_377 : decode cX11_init 377 = .ok (.bipush 11, 2) := by decide +kernel
theorem dX11_init_379 : decode cX11_init 379 = .ok (.iconst 0, 1) := by decide +kernel
theorem dX11_init_380 : decode cX11_init 380 = .ok (.iastore, 1) := by decide +kernel
theorem dX11_init_381 : decode cX11_init 381 = .ok (.dup, 1) := by decide +kernel
theorem dX11_init_382 : decode cX11_init 382 = .ok (.bipush 12, 2) := by decide +kernel
theorem dX11_init_384 : decode cX11_init 384 = .ok (.iconst 0, 1) := by decide +kernel
theorem dX11_init_385 : decode cX11_init 385 = .ok (.iastore, 1) := by decide +kernel
theorem dX11_init_386 : decode cX11_init 386 = .ok (.dup, 1) := by decide +kernel
theorem dX11_init_387 : decode cX11_init 387 = .ok (.bipush 13, 2) := by decide +kernel
theorem dX11_init_389 : decode cX11_init 389 = .ok (.bipush 41, 2) := by decide +kernel
theorem dX11_init_391 : decode cX11_init 391 = .ok (.iastore, 1) := by decide +kernel
theorem dX11_init_392 : decode cX11_init 392 = .ok (.dup, 1) := by decide +kernel
theorem dX11_init_393 : decode cX11_init 393 = .ok (.bipush 14, 2) := by decide +kernel
theorem dX11_init_395 : decode cX11_init 395 = .ok (.bipush 40, 2) := by decide +kernel
theorem dX11_init_397 : decode cX11_init 397 = .ok (.iastore, 1) := by decide +kernel
theorem dX11_init_398 : decode cX11_init 398 = .ok (.dup, 1) := by decide +kernel
theorem dX11_init_399 : decode cX11_init 399 = .ok (.bipush 15, 2) := by decide +kernel
theorem dX11_init_401 : decode cX11_init 401 = .ok (.iconst 0, 1) := by decide +kernel
theorem dX11_init_402 : decode cX11_init 402 = .ok (.iastore, 1) := by decide +kernel
theorem dX11_init_403 : decode cX11_init 403 = .ok (.dup, 1) := by decide +kernel
theorem dX11_init_404 : decode cX11_init 404 = .ok (.bipush 16, 2) := by decide +kernel
theorem dX11_init_406 : decode cX11_init 406 = .ok (.iconst 0, 1) := by decide +kernel
theorem dX11_init_407 : decode cX11_init 407 = .ok (.iastore, 1) := by decide +kernel
theorem dX11_init_408 : decode cX11_init 408 = .ok (.dup, 1) := by decide +kernel
theorem dX11_init_409 : decode cX11_init 409 = .ok (.bipush 17, 2) := by decide +kernel
theorem dX11_init_411 : decode cX11_init 411 = .ok (.iconst 0, 1) := by decide +kernel
theorem dX11_init_412 : decode cX11_init 412 = .ok (.iastore, 1) := by decide +kernel
theorem dX11_init_413 : decode cX11_init 413 = .ok (.dup, 1) := by decide +kernel
theorem dX11_init_414 : decode cX11_init 414 = .ok (.bipush 18, 2) := by decide +kernel
theorem dX11_init_416 : decode cX11_init 416 = .ok (.bipush 50, 2) := by decide +kernel
theorem dX11_init_418 : decode cX11_init 418 = .ok (.iastore, 1) := by decide +kernel
theorem dX11_init_419 : decode cX11_init 419 = .ok (.dup, 1) := by decide +kernel
theorem dX11_init_420 : decode cX11_init 420 = .ok (.bipush 19, 2) := by decide +kernel
theorem dX11_init_422 : decode cX11_init 422 = .ok (.iconst 0, 1) := by decide +kernel
theorem dX11_init_423 : decode cX11_init 423 = .ok (.iastore, 1) := by decide +kernel
theorem dX11_init_424 : decode cX11_init 424 = .ok (.dup, 1) := by decide +kernel
theorem dX11_init_425 : decode cX11_init 425 = .ok (.bipush 20, 2) := by decide +kernel
theorem dX11_init_427 : decode cX11_init 427 = .ok (.iconst 0, 1) := by decide +kernel
theorem dX11_init_428 : decode cX11_init 428 = .ok (.iastore, 1) := by decide +kernel
theorem dX11_init_429 : decode cX11_init 429 = .ok (.dup, 1) := by decide +kernel
theorem dX11_init_430 : decode cX11_init 430 = .ok (.bipush 21, 2) := by decide +kernel
theorem dX11_init_432 : decode cX11_init 432 = .ok (.iconst 0, 1) := by decide +kernel
theorem dX11_init_433 : decode cX11_init 433 = .ok (.iastore, 1) := by decide +kernel
theorem dX11_init_434 : decode cX11_init 434 = .ok (.dup, 1) := by decide +kernel
theorem dX11_init_435 : decode cX11_init 435 = .ok (.bipush 22, 2) := by decide +kernel
theorem dX11_init_437 : decode cX11_init 437 = .ok (.iconst 0, 1) := by decide +kernel
theorem dX11_init_438 : decode cX11_init 438 = .ok (.iastore, 1) := by decide +kernel
theorem dX11_init_439 : decode cX11_init 439 = .ok (.dup, 1) := by decide +kernel
theorem dX11_init_440 : decode cX11_init 440 = .ok (.bipush 23, 2) := by decide +kernel
theorem dX11_init_442 : decode cX11_init 442 = .ok (.bipush 60, 2) := by decide +kernel
theorem dX11_init_444 : decode cX11_init 444 = .ok (.iastore, 1) := by decide +kernel
theorem dX11_init_445 : decode cX11_init 445 = .ok (.dup, 1) := by decide +kernel
theorem dX11_init_446 : decode cX11_init 446 = .ok (.bipush 24, 2) := by decide +kernel
theorem dX11_init_448 : decode cX11_init 448 = .ok (.bipush 70, 2) := by decide +kernel
theorem dX11_init_450 : decode cX11_init 450 = .ok (.iastore, 1) := by decide +kernel
theorem dX11_init_451 : decode cX11_init 451 = .ok (.dup, 1) := by decide +kernel
theorem dX11_init_452 : decode cX11_init 452 = .ok (.bipush 25, 2) := by decide +kernel
theorem dX11_init_454 : decode cX11_init 454 = .ok (.iconst 0, 1) := by decide +kernel
theorem dX11_init_455 : decode cX11_init 455 = .ok (.iastore, 1) := by decide +kernel
theorem dX11_init_456 : decode cX11_init 456 = .ok (.dup, 1) := by decide +kernel
theorem dX11_init_457 : decode cX11_init 457 = .ok (.bipush 26, 2) := by decide +kernel
theorem dX11_init_459 : decode cX11_init 459 = .ok (.iconst 0, 1) := by decide +kernel
theorem dX11_init_460 : decode cX11_init 460 = .ok (.iastore, 1) := by decide +kernel
theorem dX11_init_461 : decode cX11_init 461 = .ok (.dup, 1) := by decide +kernel
theorem dX11_init_462 : decode cX11_init 462 = .ok (.bipush 27, 2) := by decide +kernel
theorem dX11_init_464 : decode cX11_init 464 = .ok (.iconst 0, 1) := by decide +kernel
theorem dX11_init_465 : decode cX11_init 465 = .ok (.iastore, 1) := by decide +kernel
theorem dX11_init_466 : decode cX11_init 466 = .ok (.dup, 1) := by decide +kernel
theorem dX11_init_467 : decode cX11_init 467 = .ok (.bipush 28, 2) := by decide +kernel
theorem dX11_init_469 : decode cX11_init 469 = .ok (.iconst 0, 1) := by decide +kernel
theorem dX11_init_470 : decode cX11_init 470 = .ok (.iastore, 1) := by decide +kernel
theorem dX11_init_471 : decode cX11_init 471 = .ok (.dup, 1) := by decide +kernel
theorem dX11_init_472 : decode cX11_init 472 = .ok (.bipush 29, 2) := by decide +kernel
theorem dX11_init_474 : decode cX11_init 474 = .ok (.bipush 80, 2) := by decide +kernel
theorem dX11_init_476 : decode cX11_init 476 = .ok (.iastore, 1) := by decide +kernel
theorem dX11_init_477 : decode cX11_init 477 = .ok (.dup, 1) := by decide +kernel
theorem dX11_init_478 : decode cX11_init 478 = .ok (.bipush 30, 2) := by decide +kernel
theorem dX11_init_480 : decode cX11_init 480 = .ok (.iconst 0, 1) := by decide +kernel
theorem dX11_init_481 : decode cX11_init 481 = .ok (.iastore, 1) := by decide +kernel
theorem dX11_init_482 : decode cX11_init 482 = .ok (.dup, 1) := by decide +kernel
theorem dX11_init_483 : decode cX11_init 483 = .ok (.bipush 31, 2) := by decide +kernel
theorem dX11_init_485 : decode cX11_init 485 = .ok (.bipush 81, 2) := by decide +kernel
theorem dX11_init_487 : decode cX11_init 487 = .ok (.iastore, 1) := by decide +kernel
theorem dX11_init_488 : decode cX11_init 488 = .ok (.putfield 103, 3) := by decide +kernel
theorem dX11_init_491 : decode cX11_init 491 = .ok (.aload_n 0, 1) := by decide +kernel
theorem dX11_init_492 : decode cX11_init 492 = .ok (.bipush 50, 2) := by decide +kernel
theorem dX11_init_494 : decode cX11_init 494 = .ok (.newarray .int, 2) := by decide +kernel
theorem dX11_init_496 : decode cX11_init 496 = .ok (.putfield 106, 3) := by decide +kernel
theorem dX11_init_499 : decode cX11_init 499 = .ok (.aload_n 0, 1) := by decide +kernel
theorem dX11_init_500 : decode cX11_init 500 = .ok (.bipush 24, 2) := by decide +kernel
theorem dX11_init_502 : decode cX11_init 502 = .ok (.newarray .int, 2) := by decide +kernel
theorem dX11_init_504 : decode cX11_init 504 = .ok (.putfield 109, 3) := by decide +kernel
theorem dX11_init_507 : decode cX11_init 507 = .ok (.return_, 1) := by decide +kernel
theorem dX11_isIn_0 : decode cX11_isIn 0 = .ok (.iload_n 0, 1) := by decide +kernel
theorem dX11_isIn_1 : decode cX11_isIn 1 = .ok (.iload_n 1, 1) := by decide +kernel
theorem dX11_isIn_2 : decode cX11_isIn 2 = .ok (.if_icmp .lt 12, 3) := by decide +kernel
theorem dX11_isIn_5 : decode cX11_isIn 5 = .ok (.iload_n 0, 1) := by decide +kernel
theorem dX11_isIn_6 : decode cX11_isIn 6 = .ok (.iload_n 2, 1) := by decide +kernel
theorem dX11_isIn_7 : decode cX11_isIn 7 = .ok (.if_icmp .gt 7, 3) := by decide +kernel
theorem dX11_isIn_10 : decode cX11_isIn 10 = .ok (.iconst 1, 1) := by decide +kernel
theorem dX11_isIn_11 : decode cX11_isIn 11 = .ok (.goto 4, 3) := by decide +kernel
theorem dX11_isIn_14 : decode cX11_isIn 14 = .ok (.iconst 0, 1) := by decide +kernel
theorem dX11_isIn_15 : decode cX11_isIn 15 = .ok (.ireturn, 1) := by decide +kernel
theorem dX11_bound_0 : decode cX11_bound 0 = .ok (.iload_n 1, 1) := by decide +kernel
theorem dX11_bound_1 : decode cX11_bound 1 = .ok (.iload_n 2, 1) := by decide +kernel
theorem dX11_bound_2 : decode cX11_bound 2 = .ok (.iload_n 0, 1) := by decide +kernel
theorem dX11_bound_3 : decode cX11_bound 3 = .ok (.invokestatic 112, 3) := by decide +kernel
theorem dX11_bound_6 : decode cX11_bound 6 = .ok (.invokestatic 118, 3) := by decide +kernel
theorem dX11_bound_9 : decode cX11_bound 9 = .ok (.ireturn, 1) := by decide +kernel
theorem dX11_fresh_0 : decode cX11_fresh 0 = .ok (.bipush 105, 2) := by decide +kernel
theorem dX11_fresh_2 : decode cX11_fresh 2 = .ok (.newarray .int, 2) := by decide +kernel
theorem dX11_fresh_4 : decode cX11_fresh 4 = .ok (.astore_n 0, 1) := by decide +kernel
theorem dX11_fresh_5 : decode cX11_fresh 5 = .ok (.aload_n 0, 1) := by decide +kernel
theorem dX11_fresh_6 : decode cX11_fresh 6 = .ok (.bipush 104, 2) := by decide +kernel
theorem dX11_fresh_8 : decode cX11_fresh 8 = .ok (.iconst 5, 1) := by decide +kernel
theorem dX11_fresh_9 : decode cX11_fresh 9 = .ok (.iastore, 1) := by decide +kernel
theorem dX11_fresh_10 : decode cX11_fresh 10 = .ok (.aload_n 0, 1) := by decide +kernel
theorem dX11_fresh_11 : decode cX11_fresh 11 = .ok (.areturn, 1) := by decide +kernel
theorem dX11_isHouse_0 : decode cX11_isHouse 0 = .ok (.iload_n 1, 1) := by decide +kernel
theorem dX11_isHouse_1 : decode cX11_isHouse 1 = .ok (.iconst 0, 1) := by decide +kernel
theorem dX11_isHouse_2 : decode cX11_isHouse 2 = .ok (.aload_n 0, 1) := by decide +kernel
theorem dX11_isHouse_3 : decode cX11_isHouse 3 = .ok (.getfield 121, 3) := by decide +kernel
theorem dX11_isHouse_6 : decode cX11_isHouse 6 = .ok (.iconst 1, 1) := by decide +kernel
theorem dX11_isHouse_7 : decode cX11_isHouse 7 = .ok (.isub, 1) := by decide +kernel
theorem dX11_isHouse_8 : decode cX11_isHouse 8 = .ok (.invokestatic 125, 3) := by decide +kernel
theorem dX11_isHouse_11 : decode cX11_isHouse 11 = .ok (.ireturn, 1) := by decide +kernel
theorem dX11_isNose_0 : decode cX11_isNose 0 = .ok (.iload_n 1, 1) := by decide +kernel
theorem dX11_isNose_1 : decode cX11_isNose 1 = .ok (.iconst 0, 1) := by decide +kernel
theorem dX11_isNose_2 : decode cX11_isNose 2 = .ok (.aload_n 0, 1) := by decide +kernel
theorem dX11_isNose_3 : decode cX11_isNose 3 = .ok (.getfield 129, 3) := by decide +kernel
theorem dX11_isNose_6 : decode cX11_isNose 6 = .ok (.iconst 1, 1) := by decide +kernel
theorem dX11_isNose_7 : decode cX11_isNose 7 = .ok (.isub, 1) := by decide +kernel
theorem dX11_isNose_8 : decode cX11_isNose 8 = .ok (.invokestatic 125, 3) := by decide +kernel
theorem dX11_isNose_11 : decode cX11_isNose 11 = .ok (.ireturn, 1) := by decide +kernel
theorem dX11_house_0 : decode cX11_house 0 = .ok (.aload_n 0, 1) := by decide +kernel
theorem dX11_house_1 : decode cX11_house 1 = .ok (.getfield 121, 3) := by decide +kernel
theorem dX11_house_4 : decode cX11_house 4 = .ok (.bipush 6, 2) := by decide +kernel
theorem dX11_house_6 : decode cX11_house 6 = .ok (.if_icmp .ne 6, 3) := by decide +kernel
theorem dX11_house_9 : decode cX11_house 9 = .ok (.bipush (-3), 2) := by decide +kernel
theorem dX11_house_11 : decode cX11_house 11 = .ok (.ireturn, 1) := by decide +kernel
theorem dX11_house_12 : decode cX11_house 12 = .ok (.aload_n 0, 1) := by decide +kernel
theorem dX11_house_13 : decode cX11_house 13 = .ok (.dup, 1) := by decide +kernel
theorem dX11_house_14 : decode cX11_house 14 = .ok (.getfield 121, 3) := by decide +kernel
theorem dX11_house_17 : decode cX11_house 17 = .ok (.iconst 1, 1) := by decide +kernel
theorem dX11_house_18 : decode cX11_house 18 = .ok (.iadd, 1) := by decide +kernel
theorem dX11_house_19 : decode cX11_house 19 = .ok (.putfield 121, 3) := by decide +kernel
theorem dX11_house_22 : decode cX11_house 22 = .ok (.aload_n 0, 1) := by decide +kernel
theorem dX11_house_23 : decode cX11_house 23 = .ok (.getfield 121, 3) := by decide +kernel
theorem dX11_house_26 : decode cX11_house 26 = .ok (.iconst 1, 1) := by decide +kernel
theorem dX11_house_27 : decode cX11_house 27 = .ok (.isub, 1) := by decide +kernel
theorem dX11_house_28 : decode cX11_house 28 = .ok (.ireturn, 1) := by decide +kernel
theorem dX11_nose_0 : decode cX11_nose 0 = .ok (.iload_n 1, 1) := by decide +kernel
theorem dX11_nose_1 : decode cX11_nose 1 = .ok (.iconst 1, 1) := by decide +kernel
theorem dX11_nose_2 : decode cX11_nose 2 = .ok (.bipush 50, 2) := by decide +kernel
theorem dX11_nose_4 : decode cX11_nose 4 = .ok (.invokestatic 125, 3) := by decide +kernel
theorem dX11_nose_7 : decode cX11_nose 7 = .ok (.ifCond .ne 5, 3) := by decide +kernel
theorem dX11_nose_10 : decode cX11_nose 10 = .ok (.iconst (-1), 1) := by decide +kernel
theorem dX11_nose_11 : decode cX11_nose 11 = .ok (.ireturn, 1) := by decide +kernel
theorem dX11_nose_12 : decode cX11_nose 12 = .ok (.aload_n 0, 1) := by decide +kernel
theorem dX11_nose_13 : decode cX11_nose 13 = .ok (.getfield 129, 3) := by decide +kernel
theorem dX11_nose_16 : decode cX11_nose 16 = .ok (.bipush 8, 2) := by decide +kernel
theorem dX11_nose_18 : decode cX11_nose 18 = .ok (.if_icmp .ne 6, 3) := by decide +kernel
theorem dX11_nose_21 : decode cX11_nose 21 = .ok (.bipush (-3), 2) := by decide +kernel
theorem dX11_nose_23 : decode cX11_nose 23 = .ok (.ireturn, 1) := by decide +kernel
theorem dX11_nose_24 : decode cX11_nose 24 = .ok (.aload_n 0, 1) := by decide +kernel
theorem dX11_nose_25 : decode cX11_nose 25 = .ok (.getfield 13, 3) := by decide +kernel
theorem dX11_nose_28 : decode cX11_nose 28 = .ok (.bipush 88, 2) := by decide +kernel
theorem dX11_nose_30 : decode cX11_nose 30 = .ok (.aload_n 0, 1) := by decide +kernel
theorem dX11_nose_31 : decode cX11_nose 31 = .ok (.getfield 129, 3) := by decide +kernel
theorem dX11_nose_34 : decode cX11_nose 34 = .ok (.iadd, 1) := by decide +kernel
theorem dX11_nose_35 : decode cX11_nose 35 = .ok (.iload_n 1, 1) := by decide +kernel
theorem dX11_nose_36 : decode cX11_nose 36 = .ok (.iastore, 1) := by decide +kernel
theorem dX11_nose_37 : decode cX11_nose 37 = .ok (.aload_n 0, 1) := by decide +kernel
theorem dX11_nose_38 : decode cX11_nose 38 = .ok (.getfield 13, 3) := by decide +kernel
theorem dX11_nose_41 : decode cX11_nose 41 = .ok (.bipush 96, 2) := by decide +kernel
theorem dX11_nose_43 : decode cX11_nose 43 = .ok (.aload_n 0, 1) := by decide +kernel
theorem dX11_nose_44 : decode cX11_nose 44 = .ok (.getfield 129, 3) := by decide +kernel
theorem dX11_nose_47 : decode cX11_nose 47 = .ok (.iadd, 1) := by decide +kernel
theorem dX11_nose_48 : decode cX11_nose 48 = .ok (.bipush 31, 2) := by decide +kernel
theorem dX11_nose_50 : decode cX11_nose 50 = .ok (.iastore, 1) := by decide +kernel
theorem dX11_nose_51 : decode cX11_nose 51 = .ok (.aload_n 0, 1) := by decide +kernel
theorem dX11_nose_52 : decode cX11_nose 52 = .ok (.dup, 1) := by decide +kernel
theorem dX11_nose_53 : decode cX11_nose 53 = .ok (.getfield 129, 3) := by decide +kernel
theorem dX11_nose_56 : decode cX11_nose 56 = .ok (.iconst 1, 1) := by decide +kernel
theorem dX11_nose_57 : decode cX11_nose 57 = .ok (.iadd, 1) := by decide +kernel
theorem dX11_nose_58 : decode cX11_nose 58 = .ok (.putfield 129, 3) := by decide +kernel
theorem dX11_nose_61 : decode cX11_nose 61 = .ok (.aload_n 0, 1) := by decide +kernel
theorem dX11_nose_62 : decode cX11_nose 62 = .ok (.getfield 129, 3) := by decide +kernel
theorem dX11_nose_65 : decode cX11_nose 65 = .ok (.iconst 1, 1) := by decide +kernel
theorem dX11_nose_66 : decode cX11_nose 66 = .ok (.isub, 1) := by decide +kernel
theorem dX11_nose_67 : decode cX11_nose 67 = .ok (.ireturn, 1) := by decide +kernel
theorem dX11_place_0 : decode cX11_place 0 = .ok (.iload_n 1, 1) := by decide +kernel
theorem dX11_place_1 : decode cX11_place 1 = .ok (.ifCond .ge 5, 3) := by decide +kernel
theorem dX11_place_4 : decode cX11_place 4 = .ok (.iconst (-1), 1) := by decide +kernel
theorem dX11_place_5 : decode cX11_place 5 = .ok (.ireturn, 1) := by decide +kernel
theorem dX11_place_6 : decode cX11_place 6 = .ok (.iload_n 1, 1) := by decide +kernel
theorem dX11_place_7 : decode cX11_place 7 = .ok (.bipush 10, 2) := by decide +kernel
theorem dX11_place_9 : decode cX11_place 9 = .ok (.idiv, 1) := by decide +kernel
theorem dX11_place_10 : decode cX11_place 10 = .ok (.istore_n 3, 1) := by decide +kernel
theorem dX11_place_11 : decode cX11_place 11 = .ok (.iload_n 1, 1) := by decide +kernel
theorem dX11_place_12 : decode cX11_place 12 = .ok (.bipush 10, 2) := by decide +kernel
theorem dX11_place_14 : decode cX11_place 14 = .ok (.irem, 1) := by decide +kernel
theorem dX11_place_15 : decode cX11_place 15 = .ok (.istore 4, 2) := by decide +kernel
theorem dX11_place_17 : decode cX11_place 17 = .ok (.iload_n 2, 1) := by decide +kernel
theorem dX11_place_18 : decode cX11_place 18 = .ok (.tableswitch 132 0 4 #[34, 57, 87, 104, 121], 34) := by decide +kernel
theorem dX11_place_52 : decode cX11_place 52 = .ok (.iload_n 3, 1) := by decide +kernel
theorem dX11_place_53 : decode cX11_place 53 = .ok (.bipush 8, 2) := by decide +kernel
theorem dX11_place_55 : decode cX11_place 55 = .ok (.if_icmp .ge 18, 3) := by decide +kernel
theorem dX11_place_58 : decode cX11_place 58 = .ok (.iload 4, 2) := by decide +kernel
theorem dX11_place_60 : decode cX11_place 60 = .ok (.iconst 5, 1) := by decide +kernel
theorem dX11_place_61 : decode cX11_place 61 = .ok (.if_icmp .ge 12, 3) := by decide +kernel
theorem dX11_place_64 : decode cX11_place 64 = .ok (.iconst 5, 1) := by decide +kernel
theorem dX11_place_65 : decode cX11_place 65 = .ok (.iload_n 3, 1) := by decide +kernel
theorem dX11_place_66 : decode cX11_place 66 = .ok (.imul, 1) := by decide +kernel
theorem dX11_place_67 : decode cX11_place 67 = .ok (.iload 4, 2) := by decide +kernel
theorem dX11_place_69 : decode cX11_place 69 = .ok (.iadd, 1) := by decide +kernel
theorem dX11_place_70 : decode cX11_place 70 = .ok (.goto 4, 3) := by decide +kernel
theorem dX11_place_73 : decode cX11_place 73 = .ok (.iconst (-1), 1) := by decide +kernel
theorem dX11_place_74 : decode cX11_place 74 = .ok (.ireturn, 1) := by decide +kernel
theorem dX11_place_75 : decode cX11_place 75 = .ok (.aload_n 0, 1) := by decide +kernel
theorem dX11_place_76 : decode cX11_place 76 = .ok (.iload_n 3, 1) := by decide +kernel
theorem dX11_place_77 : decode cX11_place 77 = .ok (.invokevirtual 132, 3) := by decide +kernel
theorem dX11_place_80 : decode cX11_place 80 = .ok (.ifCond .eq 23, 3) := by decide +kernel
theorem dX11_place_83 : decode cX11_place 83 = .ok (.iload 4, 2) := by decide +kernel
theorem dX11_place_85 : decode cX11_place 85 = .ok (.bipush 8, 2) := by decide +kernel
theorem dX11_place_87 : decode cX11_place 87 = .ok (.if_icmp .ge 16, 3) := by decide +kernel
theorem dX11_place_90 : decode cX11_place 90 = .ok (.bipush 40, 2) := by decide +kernel
theorem dX11_place_92 : decode cX11_place 92 = .ok (.bipush 8, 2) := by decide +kernel
theorem dX11_place_94 : decode cX11_place 94 = .ok (.iload_n 3, 1) := by decide +kernel
theorem dX11_place_95 : decode cX11_place 95 = .ok (.imul, 1) := by decide +kernel
theorem dX11_place_96 : decode cX11_place 96 = .ok (.iadd, 1) := by decide +kernel
theorem dX11_place_97 : decode cX11_place 97 = .ok (.iload 4, 2) := by decide +kernel
theorem dX11_place_99 : decode cX11_place 99 = .ok (.iadd, 1) := by decide +kernel
theorem dX11_place_100 : decode cX11_place 100 = .ok (.goto 4, 3) := by decide +kernel
theorem dX11_place_103 : decode cX11_place 103 = .ok (.iconst (-1), 1) := by decide +kernel
theorem dX11_place_104 : decode cX11_place 104 = .ok (.ireturn, 1) := by decide +kernel
theorem dX11_place_105 : decode cX11_place 105 = .ok (.aload_n 0, 1) := by decide +kernel
theorem dX11_place_106 : decode cX11_place 106 = .ok (.iload_n 1, 1) := by decide +kernel
theorem dX11_place_107 : decode cX11_place 107 = .ok (.invokevirtual 136, 3) := by decide +kernel
theorem dX11_place_110 : decode cX11_place 110 = .ok (.ifCond .eq 10, 3) := by decide +kernel
theorem dX11_place_113 : decode cX11_place 113 = .ok (.bipush 88, 2) := by decide +kernel
theorem dX11_place_115 : decode cX11_place 115 = .ok (.iload_n 1, 1) := by decide +kernel
theorem dX11_place_116 : decode cX11_place 116 = .ok (.iadd, 1) := by decide +kernel
theorem dX11_place_117 : decode cX11_place 117 = .ok (.goto 4, 3) := by decide +kernel
theorem dX11_place_120 : decode cX11_place 120 = .ok (.iconst (-1), 1) := by decide +kernel
theorem dX11_place_121 : decode cX11_place 121 = .ok (.ireturn, 1) := by decide +kernel
theorem dX11_place_122 : decode cX11_place 122 = .ok (.aload_n 0, 1) := by decide +kernel
theorem dX11_place_123 : decode cX11_place 123 = .ok (.iload_n 1, 1) := by decide +kernel
theorem dX11_place_124 : decode cX11_place 124 = .ok (.invokevirtual 136, 3) := by decide +kernel
theorem dX11_place_127 : decode cX11_place 127 = .ok (.ifCond .eq 10, 3) := by decide +kernel
theorem dX11_place_130 : decode cX11_place 130 = .ok (.bipush 96, 2) := by decide +kernel
theorem dX11_place_132 : decode cX11_place 132 = .ok (.iload_n 1, 1) := by decide +kernel
theorem dX11_place_133 : decode cX11_place 133 = .ok (.iadd, 1) := by decide +kernel
theorem dX11_place_134 : decode cX11_place 134 = .ok (.goto 4, 3) := by decide +kernel
theorem dX11_place_137 : decode cX11_place 137 = .ok (.iconst (-1), 1) := by decide +kernel
theorem dX11_place_138 : decode cX11_place 138 = .ok (.ireturn, 1) := by decide +kernel
theorem dX11_place_139 : decode cX11_place 139 = .ok (.iload_n 1, 1) := by decide +kernel
theorem dX11_place_140 : decode cX11_place 140 = .ok (.ifCond .ne 8, 3) := by decide +kernel
theorem dX11_place_143 : decode cX11_place 143 = .ok (.bipush 104, 2) := by decide +kernel
theorem dX11_place_145 : decode cX11_place 145 = .ok (.goto 4, 3) := by decide +kernel
theorem dX11_place_148 : decode cX11_place 148 = .ok (.iconst (-1), 1) := by decide +kernel
theorem dX11_place_149 : decode cX11_place 149 = .ok (.ireturn, 1) := by decide +kernel
theorem dX11_place_150 : decode cX11_place 150 = .ok (.iconst (-1), 1) := by decide +kernel
theorem dX11_place_151 : decode cX11_place 151 = .ok (.ireturn, 1) := by decide +kernel
theorem dX11_mend_0 : decode cX11_mend 0 = .ok (.aload_n 0, 1) := by decide +kernel
theorem dX11_mend_1 : decode cX11_mend 1 = .ok (.iload_n 1, 1) := by decide +kernel
theorem dX11_mend_2 : decode cX11_mend 2 = .ok (.iload_n 2, 1) := by decide +kernel
theorem dX11_mend_3 : decode cX11_mend 3 = .ok (.invokevirtual 139, 3) := by decide +kernel
theorem dX11_mend_6 : decode cX11_mend 6 = .ok (.istore 4, 2) := by decide +kernel
theorem dX11_mend_8 : decode cX11_mend 8 = .ok (.iload 4, 2) := by decide +kernel
theorem dX11_mend_10 : decode cX11_mend 10 = .ok (.iconst (-1), 1) := by decide +kernel
theorem dX11_mend_11 : decode cX11_mend 11 = .ok (.if_icmp .eq 42, 3) := by decide +kernel
theorem dX11_mend_14 : decode cX11_mend 14 = .ok (.iload_n 3, 1) := by decide +kernel
theorem dX11_mend_15 : decode cX11_mend 15 = .ok (.iload_n 2, 1) := by decide +kernel
theorem dX11_mend_16 : decode cX11_mend 16 = .ok (.iconst 2, 1) := by decide +kernel
theorem dX11_mend_17 : decode cX11_mend 17 = .ok (.if_icmp .ne 7, 3) := by decide +kernel
theorem dX11_mend_20 : decode cX11_mend 20 = .ok (.iconst 1, 1) := by decide +kernel
theorem dX11_mend_21 : decode cX11_mend 21 = .ok (.goto 4, 3) := by decide +kernel
theorem dX11_mend_24 : decode cX11_mend 24 = .ok (.iconst 0, 1) := by decide +kernel
theorem dX11_mend_25 : decode cX11_mend 25 = .ok (.iload_n 2, 1) := by decide +kernel
theorem dX11_mend_26 : decode cX11_mend 26 = .ok (.iconst 2, 1) := by decide +kernel
theorem dX11_mend_27 : decode cX11_mend 27 = .ok (.if_icmp .ne 8, 3) := by decide +kernel
theorem dX11_mend_30 : decode cX11_mend 30 = .ok (.bipush 50, 2) := by decide +kernel
theorem dX11_mend_32 : decode cX11_mend 32 = .ok (.goto 15, 3) := by decide +kernel
theorem dX11_mend_35 : decode cX11_mend 35 = .ok (.iload_n 2, 1) := by decide +kernel
theorem dX11_mend_36 : decode cX11_mend 36 = .ok (.iconst 3, 1) := by decide +kernel
theorem dX11_mend_37 : decode cX11_mend 37 = .ok (.if_icmp .ne 8, 3) := by decide +kernel
theorem dX11_mend_40 : decode cX11_mend 40 = .ok (.bipush 31, 2) := by decide +kernel
theorem dX11_mend_42 : decode cX11_mend 42 = .ok (.goto 5, 3) := by decide +kernel
theorem dX11_mend_45 : decode cX11_mend 45 = .ok (.bipush 9, 2) := by decide +kernel
theorem dX11_mend_47 : decode cX11_mend 47 = .ok (.invokestatic 125, 3) := by decide +kernel
theorem dX11_mend_50 : decode cX11_mend 50 = .ok (.ifCond .ne 5, 3) := by decide +kernel
theorem dX11_mend_53 : decode cX11_mend 53 = .ok (.iconst (-1), 1) := by decide +kernel
theorem dX11_mend_54 : decode cX11_mend 54 = .ok (.ireturn, 1) := by decide +kernel
theorem dX11_mend_55 : decode cX11_mend 55 = .ok (.aload_n 0, 1) := by decide +kernel
theorem dX11_mend_56 : decode cX11_mend 56 = .ok (.getfield 13, 3) := by decide +kernel
theorem dX11_mend_59 : decode cX11_mend 59 = .ok (.iload 4, 2) := by decide +kernel
theorem dX11_mend_61 : decode cX11_mend 61 = .ok (.iaload, 1) := by decide +kernel
theorem dX11_mend_62 : decode cX11_mend 62 = .ok (.istore 5, 2) := by decide +kernel
theorem dX11_mend_64 : decode cX11_mend 64 = .ok (.iload 5, 2) := by decide +kernel
theorem dX11_mend_66 : decode cX11_mend 66 = .ok (.iload_n 3, 1) := by decide +kernel
theorem dX11_mend_67 : decode cX11_mend 67 = .ok (.if_icmp .eq 144, 3) := by decide +kernel
theorem dX11_mend_70 : decode cX11_mend 70 = .ok (.aload_n 0, 1) := by decide +kernel
theorem dX11_mend_71 : decode cX11_mend 71 = .ok (.getfield 13, 3) := by decide +kernel
theorem dX11_mend_74 : decode cX11_mend 74 = .ok (.iload 4, 2) := by decide +kernel
theorem dX11_mend_76 : decode cX11_mend 76 = .ok (.iload_n 3, 1) := by decide +kernel
theorem dX11_mend_77 : decode cX11_mend 77 = .ok (.iastore, 1) := by decide +kernel
theorem dX11_mend_78 : decode cX11_mend 78 = .ok (.aload_n 0, 1) := by decide +kernel
theorem dX11_mend_79 : decode cX11_mend 79 = .ok (.getfield 142, 3) := by decide +kernel
theorem dX11_mend_82 : decode cX11_mend 82 = .ok (.bipush 40, 2) := by decide +kernel
theorem dX11_mend_84 : decode cX11_mend 84 = .ok (.if_icmp .ne 77, 3) := by decide +kernel
theorem dX11_mend_87 : decode cX11_mend 87 = .ok (.iconst 1, 1) := by decide +kernel
theorem dX11_mend_88 : decode cX11_mend 88 = .ok (.istore 6, 2) := by decide +kernel
theorem dX11_mend_90 : decode cX11_mend 90 = .ok (.iload 6, 2) := by decide +kernel
theorem dX11_mend_92 : decode cX11_mend 92 = .ok (.bipush 40, 2) := by decide +kernel
theorem dX11_mend_94 : decode cX11_mend 94 = .ok (.if_icmp .ge 57, 3) := by decide +kernel
theorem dX11_mend_97 : decode cX11_mend 97 = .ok (.aload_n 0, 1) := by decide +kernel
theorem dX11_mend_98 : decode cX11_mend 98 = .ok (.getfield 17, 3) := by decide +kernel
theorem dX11_mend_101 : decode cX11_mend 101 = .ok (.iload 6, 2) := by decide +kernel
theorem dX11_mend_103 : decode cX11_mend 103 = .ok (.iconst 1, 1) := by decide +kernel
theorem dX11_mend_104 : decode cX11_mend 104 = .ok (.isub, 1) := by decide +kernel
theorem dX11_mend_105 : decode cX11_mend 105 = .ok (.aload_n 0, 1) := by decide +kernel
theorem dX11_mend_106 : decode cX11_mend 106 = .ok (.getfield 17, 3) := by decide +kernel
theorem dX11_mend_109 : decode cX11_mend 109 = .ok (.iload 6, 2) := by decide +kernel
theorem dX11_mend_111 : decode cX11_mend 111 = .ok (.iaload, 1) := by decide +kernel
theorem dX11_mend_112 : decode cX11_mend 112 = .ok (.iastore, 1) := by decide +kernel
theorem dX11_mend_113 : decode cX11_mend 113 = .ok (.aload_n 0, 1) := by decide +kernel
theorem dX11_mend_114 : decode cX11_mend 114 = .ok (.getfield 20, 3) := by decide +kernel
theorem dX11_mend_117 : decode cX11_mend 117 = .ok (.iload 6, 2) := by decide +kernel
theorem dX11_mend_119 : decode cX11_mend 119 = .ok (.iconst 1, 1) := by decide +kernel
theorem dX11_mend_120 : decode cX11_mend 120 = .ok (.isub, 1) := by decide +kernel
theorem dX11_mend_121 : decode cX11_mend 121 = .ok (.aload_n 0, 1) := by decide +kernel
theorem dX11_mend_122 : decode cX11_mend 122 = .ok (.getfield 20, 3) := by decide +kernel
theorem dX11_mend_125 : decode cX11_mend 125 = .ok (.iload 6, 2) := by decide +kernel
theorem dX11_mend_127 : decode cX11_mend 127 = .ok (.iaload, 1) := by decide +kernel
theorem dX11_mend_128 : decode cX11_mend 128 = .ok (.iastore, 1) := by decide +kernel
theorem dX11_mend_129 : decode cX11_mend 129 = .ok (.aload_n 0, 1) := by decide +kernel
theorem dX11_mend_130 : decode cX11_mend 130 = .ok (.getfield 23, 3) := by decide +kernel
theorem dX11_mend_133 : decode cX11_mend 133 = .ok (.iload 6, 2) := by decide +kernel
theorem dX11_mend_135 : decode cX11_mend 135 = .ok (.iconst 1, 1) := by decide +kernel
theorem dX11_mend_136 : decode cX11_mend 136 = .ok (.isub, 1) := by decide +kernel
theorem dX11_mend_137 : decode cX11_mend 137 = .ok (.aload_n 0, 1) := by decide +kernel
theorem dX11_mend_138 : decode cX11_mend 138 = .ok (.getfield 23, 3) := by decide +kernel
theorem dX11_mend_141 : decode cX11_mend 141 = .ok (.iload 6, 2) := by decide +kernel
theorem dX11_mend_143 : decode cX11_mend 143 = .ok (.iaload, 1) := by decide +kernel
theorem dX11_mend_144 : decode cX11_mend 144 = .ok (.iastore, 1) := by decide +kernel
theorem dX11_mend_145 : decode cX11_mend 145 = .ok (.iinc 6 1, 3) := by decide +kernel
theorem dX11_mend_148 : decode cX11_mend 148 = .ok (.goto (-58), 3) := by decide +kernel
theorem dX11_mend_151 : decode cX11_mend 151 = .ok (.aload_n 0, 1) := by decide +kernel
theorem dX11_mend_152 : decode cX11_mend 152 = .ok (.dup, 1) := by decide +kernel
theorem dX11_mend_153 : decode cX11_mend 153 = .ok (.getfield 142, 3) := by decide +kernel
theorem dX11_mend_156 : decode cX11_mend 156 = .ok (.iconst 1, 1) := by decide +kernel
theorem dX11_mend_157 : decode cX11_mend 157 = .ok (.isub, 1) := by decide +kernel
theorem dX11_mend_158 : decode cX11_mend 158 = .ok (.putfield 142, 3) := by decide +kernel
theorem dX11_mend_161 : decode cX11_mend 161 = .ok (.aload_n 0, 1) := by decide +kernel
theorem dX11_mend_162 : decode cX11_mend 162 = .ok (.getfield 17, 3) := by decide +kernel
theorem dX11_mend_165 : decode cX11_mend 165 = .ok (.aload_n 0, 1) := by decide +kernel
theorem dX11_mend_166 : decode cX11_mend 166 = .ok (.getfield 142, 3) := by decide +kernel
theorem dX11_mend_169 : decode cX11_mend 169 = .ok (.iload 4, 2) := by decide +kernel
theorem dX11_mend_171 : decode cX11_mend 171 = .ok (.iastore, 1) := by decide +kernel
theorem dX11_mend_172 : decode cX11_mend 172 = .ok (.aload_n 0, 1) := by decide +kernel
theorem dX11_mend_173 : decode cX11_mend 173 = .ok (.getfield 20, 3) := by decide +kernel
theorem dX11_mend_176 : decode cX11_mend 176 = .ok (.aload_n 0, 1) := by decide +kernel
theorem dX11_mend_177 : decode cX11_mend 177 = .ok (.getfield 142, 3) := by decide +kernel
theorem dX11_mend_180 : decode cX11_mend 180 = .ok (.iload 5, 2) := by decide +kernel
theorem dX11_mend_182 : decode cX11_mend 182 = .ok (.iastore, 1) := by decide +kernel
theorem dX11_mend_183 : decode cX11_mend 183 = .ok (.aload_n 0, 1) := by decide +kernel
theorem dX11_mend_184 : decode cX11_mend 184 = .ok (.getfield 23, 3) := by decide +kernel
theorem dX11_mend_187 : decode cX11_mend 187 = .ok (.aload_n 0, 1) := by decide +kernel
theorem dX11_mend_188 : decode cX11_mend 188 = .ok (.getfield 142, 3) := by decide +kernel
theorem dX11_mend_191 : decode cX11_mend 191 = .ok (.iload_n 3, 1) := by decide +kernel
theorem dX11_mend_192 : decode cX11_mend 192 = .ok (.iastore, 1) := by decide +kernel
theorem dX11_mend_193 : decode cX11_mend 193 = .ok (.aload_n 0, 1) := by decide +kernel
theorem dX11_mend_194 : decode cX11_mend 194 = .ok (.dup, 1) := by decide +kernel
theorem dX11_mend_195 : decode cX11_mend 195 = .ok (.getfield 142, 3) := by decide +kernel
theorem dX11_mend_198 : decode cX11_mend 198 = .ok (.iconst 1, 1) := by decide +kernel
theorem dX11_mend_199 : decode cX11_mend 199 = .ok (.iadd, 1) := by decide +kernel
theorem dX11_mend_200 : decode cX11_mend 200 = .ok (.putfield 142, 3) := by decide +kernel
theorem dX11_mend_203 : decode cX11_mend 203 = .ok (.aload_n 0, 1) := by decide +kernel
theorem dX11_mend_204 : decode cX11_mend 204 = .ok (.aload_n 0, 1) := by decide +kernel
theorem dX11_mend_205 : decode cX11_mend 205 = .ok (.getfield 142, 3) := by decide +kernel
theorem dX11_mend_208 : decode cX11_mend 208 = .ok (.putfield 145, 3) := by decide +kernel
theorem dX11_mend_211 : decode cX11_mend 211 = .ok (.iload 5, 2) := by decide +kernel
theorem dX11_mend_213 : decode cX11_mend 213 = .ok (.ireturn, 1) := by decide +kernel
theorem dX11_of_0 : decode cX11_of 0 = .ok (.aload_n 0, 1) := by decide +kernel
theorem dX11_of_1 : decode cX11_of 1 = .ok (.iload_n 1, 1) := by decide +kernel
