theorem dX11_of_2 : decode cX11_of 2 = .ok (.iload_n 2, 1) := by decide +kernel
theorem dX11_of_3 : decode cX11_of 3 = .ok (.invokevirtual 139, 3) := by decide +kernel
theorem dX11_of_6 : decode cX11_of 6 = .ok (.istore_n 3, 1) := by decide +kernel
theorem dX11_of_7 : decode cX11_of 7 = .ok (.iload_n 3, 1) := by decide +kernel
theorem dX11_of_8 : decode cX11_of 8 = .ok (.iconst (-1), 1) := by decide +kernel
theorem dX11_of_9 : decode cX11_of 9 = .ok (.if_icmp .ne 7, 3) := by decide +kernel
theorem dX11_of_12 : decode cX11_of 12 = .ok (.iconst (-1), 1) := by decide +kernel
theorem dX11_of_13 : decode cX11_of 13 = .ok (.goto 9, 3) := by decide +kernel
theorem dX11_of_16 : decode cX11_of 16 = .ok (.aload_n 0, 1) := by decide +kernel
theorem dX11_of_17 : decode cX11_of 17 = .ok (.getfield 13, 3) := by decide +kernel
theorem dX11_of_20 : decode cX11_of 20 = .ok (.iload_n 3, 1) := by decide +kernel
theorem dX11_of_21 : decode cX11_of 21 = .ok (.iaload, 1) := by decide +kernel
theorem dX11_of_22 : decode cX11_of 22 = .ok (.ireturn, 1) := by decide +kernel
theorem dX11_undo_0 : decode cX11_undo 0 = .ok (.aload_n 0, 1) := by decide +kernel
theorem dX11_undo_1 : decode cX11_undo 1 = .ok (.getfield 142, 3) := by decide +kernel
theorem dX11_undo_4 : decode cX11_undo 4 = .ok (.ifCond .ne 6, 3) := by decide +kernel
theorem dX11_undo_7 : decode cX11_undo 7 = .ok (.bipush (-5), 2) := by decide +kernel
theorem dX11_undo_9 : decode cX11_undo 9 = .ok (.ireturn, 1) := by decide +kernel
theorem dX11_undo_10 : decode cX11_undo 10 = .ok (.aload_n 0, 1) := by decide +kernel
theorem dX11_undo_11 : decode cX11_undo 11 = .ok (.dup, 1) := by decide +kernel
theorem dX11_undo_12 : decode cX11_undo 12 = .ok (.getfield 142, 3) := by decide +kernel
theorem dX11_undo_15 : decode cX11_undo 15 = .ok (.iconst 1, 1) := by decide +kernel
theorem dX11_undo_16 : decode cX11_undo 16 = .ok (.isub, 1) := by decide +kernel
theorem dX11_undo_17 : decode cX11_undo 17 = .ok (.putfield 142, 3) := by decide +kernel
theorem dX11_undo_20 : decode cX11_undo 20 = .ok (.aload_n 0, 1) := by decide +kernel
theorem dX11_undo_21 : decode cX11_undo 21 = .ok (.getfield 13, 3) := by decide +kernel
theorem dX11_undo_24 : decode cX11_undo 24 = .ok (.aload_n 0, 1) := by decide +kernel
theorem dX11_undo_25 : decode cX11_undo 25 = .ok (.getfield 17, 3) := by decide +kernel
theorem dX11_undo_28 : decode cX11_undo 28 = .ok (.aload_n 0, 1) := by decide +kernel
theorem dX11_undo_29 : decode cX11_undo 29 = .ok (.getfield 142, 3) := by decide +kernel
theorem dX11_undo_32 : decode cX11_undo 32 = .ok (.iaload, 1) := by decide +kernel
theorem dX11_undo_33 : decode cX11_undo 33 = .ok (.aload_n 0, 1) := by decide +kernel
theorem dX11_undo_34 : decode cX11_undo 34 = .ok (.getfield 20, 3) := by decide +kernel
theorem dX11_undo_37 : decode cX11_undo 37 = .ok (.aload_n 0, 1) := by decide +kernel
theorem dX11_undo_38 : decode cX11_undo 38 = .ok (.getfield 142, 3) := by decide +kernel
theorem dX11_undo_41 : decode cX11_undo 41 = .ok (.iaload, 1) := by decide +kernel
theorem dX11_undo_42 : decode cX11_undo 42 = .ok (.iastore, 1) := by decide +kernel
theorem dX11_undo_43 : decode cX11_undo 43 = .ok (.aload_n 0, 1) := by decide +kernel
theorem dX11_undo_44 : decode cX11_undo 44 = .ok (.getfield 142, 3) := by decide +kernel
theorem dX11_undo_47 : decode cX11_undo 47 = .ok (.ireturn, 1) := by decide +kernel
theorem dX11_redo_0 : decode cX11_redo 0 = .ok (.aload_n 0, 1) := by decide +kernel
theorem dX11_redo_1 : decode cX11_redo 1 = .ok (.getfield 142, 3) := by decide +kernel
theorem dX11_redo_4 : decode cX11_redo 4 = .ok (.aload_n 0, 1) := by decide +kernel
theorem dX11_redo_5 : decode cX11_redo 5 = .ok (.getfield 145, 3) := by decide +kernel
theorem dX11_redo_8 : decode cX11_redo 8 = .ok (.if_icmp .ne 6, 3) := by decide +kernel
theorem dX11_redo_11 : decode cX11_redo 11 = .ok (.bipush (-5), 2) := by decide +kernel
theorem dX11_redo_13 : decode cX11_redo 13 = .ok (.ireturn, 1) := by decide +kernel
theorem dX11_redo_14 : decode cX11_redo 14 = .ok (.aload_n 0, 1) := by decide +kernel
theorem dX11_redo_15 : decode cX11_redo 15 = .ok (.getfield 13, 3) := by decide +kernel
theorem dX11_redo_18 : decode cX11_redo 18 = .ok (.aload_n 0, 1) := by decide +kernel
theorem dX11_redo_19 : decode cX11_redo 19 = .ok (.getfield 17, 3) := by decide +kernel
theorem dX11_redo_22 : decode cX11_redo 22 = .ok (.aload_n 0, 1) := by decide +kernel
theorem dX11_redo_23 : decode cX11_redo 23 = .ok (.getfield 142, 3) := by decide +kernel
theorem dX11_redo_26 : decode cX11_redo 26 = .ok (.iaload, 1) := by decide +kernel
theorem dX11_redo_27 : decode cX11_redo 27 = .ok (.aload_n 0, 1) := by decide +kernel
theorem dX11_redo_28 : decode cX11_redo 28 = .ok (.getfield 23, 3) := by decide +kernel
theorem dX11_redo_31 : decode cX11_redo 31 = .ok (.aload_n 0, 1) := by decide +kernel
theorem dX11_redo_32 : decode cX11_redo 32 = .ok (.getfield 142, 3) := by decide +kernel
theorem dX11_redo_35 : decode cX11_redo 35 = .ok (.iaload, 1) := by decide +kernel
theorem dX11_redo_36 : decode cX11_redo 36 = .ok (.iastore, 1) := by decide +kernel
theorem dX11_redo_37 : decode cX11_redo 37 = .ok (.aload_n 0, 1) := by decide +kernel
theorem dX11_redo_38 : decode cX11_redo 38 = .ok (.dup, 1) := by decide +kernel
theorem dX11_redo_39 : decode cX11_redo 39 = .ok (.getfield 142, 3) := by decide +kernel
theorem dX11_redo_42 : decode cX11_redo 42 = .ok (.iconst 1, 1) := by decide +kernel
theorem dX11_redo_43 : decode cX11_redo 43 = .ok (.iadd, 1) := by decide +kernel
theorem dX11_redo_44 : decode cX11_redo 44 = .ok (.putfield 142, 3) := by decide +kernel
theorem dX11_redo_47 : decode cX11_redo 47 = .ok (.aload_n 0, 1) := by decide +kernel
theorem dX11_redo_48 : decode cX11_redo 48 = .ok (.getfield 145, 3) := by decide +kernel
theorem dX11_redo_51 : decode cX11_redo 51 = .ok (.aload_n 0, 1) := by decide +kernel
theorem dX11_redo_52 : decode cX11_redo 52 = .ok (.getfield 142, 3) := by decide +kernel
theorem dX11_redo_55 : decode cX11_redo 55 = .ok (.isub, 1) := by decide +kernel
theorem dX11_redo_56 : decode cX11_redo 56 = .ok (.ireturn, 1) := by decide +kernel
theorem dX11_has_0 : decode cX11_has 0 = .ok (.aload_n 0, 1) := by decide +kernel
theorem dX11_has_1 : decode cX11_has 1 = .ok (.getfield 13, 3) := by decide +kernel
theorem dX11_has_4 : decode cX11_has 4 = .ok (.bipush 40, 2) := by decide +kernel
theorem dX11_has_6 : decode cX11_has 6 = .ok (.bipush 8, 2) := by decide +kernel
theorem dX11_has_8 : decode cX11_has 8 = .ok (.iload_n 1, 1) := by decide +kernel
theorem dX11_has_9 : decode cX11_has 9 = .ok (.imul, 1) := by decide +kernel
theorem dX11_has_10 : decode cX11_has 10 = .ok (.iadd, 1) := by decide +kernel
theorem dX11_has_11 : decode cX11_has 11 = .ok (.iload_n 2, 1) := by decide +kernel
theorem dX11_has_12 : decode cX11_has 12 = .ok (.iadd, 1) := by decide +kernel
theorem dX11_has_13 : decode cX11_has 13 = .ok (.iaload, 1) := by decide +kernel
theorem dX11_has_14 : decode cX11_has 14 = .ok (.ireturn, 1) := by decide +kernel
theorem dX11_hold_0 : decode cX11_hold 0 = .ok (.aload_n 0, 1) := by decide +kernel
theorem dX11_hold_1 : decode cX11_hold 1 = .ok (.getfield 13, 3) := by decide +kernel
theorem dX11_hold_4 : decode cX11_hold 4 = .ok (.bipush 40, 2) := by decide +kernel
theorem dX11_hold_6 : decode cX11_hold 6 = .ok (.bipush 8, 2) := by decide +kernel
theorem dX11_hold_8 : decode cX11_hold 8 = .ok (.iload_n 1, 1) := by decide +kernel
theorem dX11_hold_9 : decode cX11_hold 9 = .ok (.imul, 1) := by decide +kernel
theorem dX11_hold_10 : decode cX11_hold 10 = .ok (.iadd, 1) := by decide +kernel
theorem dX11_hold_11 : decode cX11_hold 11 = .ok (.iload_n 2, 1) := by decide +kernel
theorem dX11_hold_12 : decode cX11_hold 12 = .ok (.iadd, 1) := by decide +kernel
theorem dX11_hold_13 : decode cX11_hold 13 = .ok (.iload_n 3, 1) := by decide +kernel
theorem dX11_hold_14 : decode cX11_hold 14 = .ok (.iastore, 1) := by decide +kernel
theorem dX11_hold_15 : decode cX11_hold 15 = .ok (.return_, 1) := by decide +kernel
theorem dX11_feed_0 : decode cX11_feed 0 = .ok (.iload_n 1, 1) := by decide +kernel
theorem dX11_feed_1 : decode cX11_feed 1 = .ok (.iconst 0, 1) := by decide +kernel
theorem dX11_feed_2 : decode cX11_feed 2 = .ok (.sipush 255, 3) := by decide +kernel
theorem dX11_feed_5 : decode cX11_feed 5 = .ok (.invokestatic 125, 3) := by decide +kernel
theorem dX11_feed_8 : decode cX11_feed 8 = .ok (.ifCond .ne 5, 3) := by decide +kernel
theorem dX11_feed_11 : decode cX11_feed 11 = .ok (.iconst (-1), 1) := by decide +kernel
theorem dX11_feed_12 : decode cX11_feed 12 = .ok (.ireturn, 1) := by decide +kernel
theorem dX11_feed_13 : decode cX11_feed 13 = .ok (.aload_n 0, 1) := by decide +kernel
theorem dX11_feed_14 : decode cX11_feed 14 = .ok (.getfield 148, 3) := by decide +kernel
theorem dX11_feed_17 : decode cX11_feed 17 = .ok (.bipush 120, 2) := by decide +kernel
theorem dX11_feed_19 : decode cX11_feed 19 = .ok (.if_icmp .ne 6, 3) := by decide +kernel
theorem dX11_feed_22 : decode cX11_feed 22 = .ok (.bipush (-3), 2) := by decide +kernel
theorem dX11_feed_24 : decode cX11_feed 24 = .ok (.ireturn, 1) := by decide +kernel
theorem dX11_feed_25 : decode cX11_feed 25 = .ok (.aload_n 0, 1) := by decide +kernel
theorem dX11_feed_26 : decode cX11_feed 26 = .ok (.getfield 26, 3) := by decide +kernel
theorem dX11_feed_29 : decode cX11_feed 29 = .ok (.aload_n 0, 1) := by decide +kernel
theorem dX11_feed_30 : decode cX11_feed 30 = .ok (.getfield 148, 3) := by decide +kernel
theorem dX11_feed_33 : decode cX11_feed 33 = .ok (.iload_n 1, 1) := by decide +kernel
theorem dX11_feed_34 : decode cX11_feed 34 = .ok (.iastore, 1) := by decide +kernel
theorem dX11_feed_35 : decode cX11_feed 35 = .ok (.aload_n 0, 1) := by decide +kernel
theorem dX11_feed_36 : decode cX11_feed 36 = .ok (.dup, 1) := by decide +kernel
theorem dX11_feed_37 : decode cX11_feed 37 = .ok (.getfield 148, 3) := by decide +kernel
theorem dX11_feed_40 : decode cX11_feed 40 = .ok (.iconst 1, 1) := by decide +kernel
theorem dX11_feed_41 : decode cX11_feed 41 = .ok (.iadd, 1) := by decide +kernel
theorem dX11_feed_42 : decode cX11_feed 42 = .ok (.putfield 148, 3) := by decide +kernel
theorem dX11_feed_45 : decode cX11_feed 45 = .ok (.aload_n 0, 1) := by decide +kernel
theorem dX11_feed_46 : decode cX11_feed 46 = .ok (.getfield 148, 3) := by decide +kernel
theorem dX11_feed_49 : decode cX11_feed 49 = .ok (.ireturn, 1) := by decide +kernel
theorem dX11_isAt_0 : decode cX11_isAt 0 = .ok (.aload_n 0, 1) := by decide +kernel
theorem dX11_isAt_1 : decode cX11_isAt 1 = .ok (.getfield 151, 3) := by decide +kernel
theorem dX11_isAt_4 : decode cX11_isAt 4 = .ok (.ifCond .eq 31, 3) := by decide +kernel
theorem dX11_isAt_7 : decode cX11_isAt 7 = .ok (.aload_n 0, 1) := by decide +kernel
theorem dX11_isAt_8 : decode cX11_isAt 8 = .ok (.getfield 155, 3) := by decide +kernel
theorem dX11_isAt_11 : decode cX11_isAt 11 = .ok (.aload_n 0, 1) := by decide +kernel
theorem dX11_isAt_12 : decode cX11_isAt 12 = .ok (.getfield 158, 3) := by decide +kernel
theorem dX11_isAt_15 : decode cX11_isAt 15 = .ok (.if_icmp .ge 20, 3) := by decide +kernel
theorem dX11_isAt_18 : decode cX11_isAt 18 = .ok (.aload_n 0, 1) := by decide +kernel
theorem dX11_isAt_19 : decode cX11_isAt 19 = .ok (.getfield 32, 3) := by decide +kernel
theorem dX11_isAt_22 : decode cX11_isAt 22 = .ok (.aload_n 0, 1) := by decide +kernel
theorem dX11_isAt_23 : decode cX11_isAt 23 = .ok (.getfield 155, 3) := by decide +kernel
theorem dX11_isAt_26 : decode cX11_isAt 26 = .ok (.iaload, 1) := by decide +kernel
theorem dX11_isAt_27 : decode cX11_isAt 27 = .ok (.iload_n 1, 1) := by decide +kernel
theorem dX11_isAt_28 : decode cX11_isAt 28 = .ok (.if_icmp .ne 7, 3) := by decide +kernel
theorem dX11_isAt_31 : decode cX11_isAt 31 = .ok (.iconst 1, 1) := by decide +kernel
theorem dX11_isAt_32 : decode cX11_isAt 32 = .ok (.goto 4, 3) := by decide +kernel
theorem dX11_isAt_35 : decode cX11_isAt 35 = .ok (.iconst 0, 1) := by decide +kernel
theorem dX11_isAt_36 : decode cX11_isAt 36 = .ok (.ireturn, 1) := by decide +kernel
theorem dX11_isDigit_0 : decode cX11_isDigit 0 = .ok (.aload_n 0, 1) := by decide +kernel
theorem dX11_isDigit_1 : decode cX11_isDigit 1 = .ok (.getfield 151, 3) := by decide +kernel
theorem dX11_isDigit_4 : decode cX11_isDigit 4 = .ok (.ifCond .eq 37, 3) := by decide +kernel
theorem dX11_isDigit_7 : decode cX11_isDigit 7 = .ok (.aload_n 0, 1) := by decide +kernel
theorem dX11_isDigit_8 : decode cX11_isDigit 8 = .ok (.getfield 155, 3) := by decide +kernel
theorem dX11_isDigit_11 : decode cX11_isDigit 11 = .ok (.aload_n 0, 1) := by decide +kernel
theorem dX11_isDigit_12 : decode cX11_isDigit 12 = .ok (.getfield 158, 3) := by decide +kernel
theorem dX11_isDigit_15 : decode cX11_isDigit 15 = .ok (.if_icmp .ge 26, 3) := by decide +kernel
theorem dX11_isDigit_18 : decode cX11_isDigit 18 = .ok (.aload_n 0, 1) := by decide +kernel
theorem dX11_isDigit_19 : decode cX11_isDigit 19 = .ok (.getfield 32, 3) := by decide +kernel
theorem dX11_isDigit_22 : decode cX11_isDigit 22 = .ok (.aload_n 0, 1) := by decide +kernel
theorem dX11_isDigit_23 : decode cX11_isDigit 23 = .ok (.getfield 155, 3) := by decide +kernel
theorem dX11_isDigit_26 : decode cX11_isDigit 26 = .ok (.iaload, 1) := by decide +kernel
theorem dX11_isDigit_27 : decode cX11_isDigit 27 = .ok (.bipush 48, 2) := by decide +kernel
theorem dX11_isDigit_29 : decode cX11_isDigit 29 = .ok (.bipush 57, 2) := by decide +kernel
theorem dX11_isDigit_31 : decode cX11_isDigit 31 = .ok (.invokestatic 125, 3) := by decide +kernel
theorem dX11_isDigit_34 : decode cX11_isDigit 34 = .ok (.ifCond .eq 7, 3) := by decide +kernel
theorem dX11_isDigit_37 : decode cX11_isDigit 37 = .ok (.iconst 1, 1) := by decide +kernel
theorem dX11_isDigit_38 : decode cX11_isDigit 38 = .ok (.goto 4, 3) := by decide +kernel
theorem dX11_isDigit_41 : decode cX11_isDigit 41 = .ok (.iconst 0, 1) := by decide +kernel
theorem dX11_isDigit_42 : decode cX11_isDigit 42 = .ok (.ireturn, 1) := by decide +kernel
theorem dX11_number_0 : decode cX11_number 0 = .ok (.iconst 0, 1) := by decide +kernel
theorem dX11_number_1 : decode cX11_number 1 = .ok (.istore_n 1, 1) := by decide +kernel
theorem dX11_number_2 : decode cX11_number 2 = .ok (.iconst 0, 1) := by decide +kernel
theorem dX11_number_3 : decode cX11_number 3 = .ok (.istore_n 2, 1) := by decide +kernel
theorem dX11_number_4 : decode cX11_number 4 = .ok (.iload_n 2, 1) := by decide +kernel
theorem dX11_number_5 : decode cX11_number 5 = .ok (.iconst 4, 1) := by decide +kernel
theorem dX11_number_6 : decode cX11_number 6 = .ok (.if_icmp .ge 44, 3) := by decide +kernel
theorem dX11_number_9 : decode cX11_number 9 = .ok (.aload_n 0, 1) := by decide +kernel
theorem dX11_number_10 : decode cX11_number 10 = .ok (.invokevirtual 161, 3) := by decide +kernel
theorem dX11_number_13 : decode cX11_number 13 = .ok (.ifCond .eq 37, 3) := by decide +kernel
theorem dX11_number_16 : decode cX11_number 16 = .ok (.bipush 10, 2) := by decide +kernel
theorem dX11_number_18 : decode cX11_number 18 = .ok (.iload_n 1, 1) := by decide +kernel
theorem dX11_number_19 : decode cX11_number 19 = .ok (.imul, 1) := by decide +kernel
theorem dX11_number_20 : decode cX11_number 20 = .ok (.aload_n 0, 1) := by decide +kernel
theorem dX11_number_21 : decode cX11_number 21 = .ok (.getfield 32, 3) := by decide +kernel
theorem dX11_number_24 : decode cX11_number 24 = .ok (.aload_n 0, 1) := by decide +kernel
theorem dX11_number_25 : decode cX11_number 25 = .ok (.getfield 155, 3) := by decide +kernel
theorem dX11_number_28 : decode cX11_number 28 = .ok (.iaload, 1) := by decide +kernel
theorem dX11_number_29 : decode cX11_number 29 = .ok (.iadd, 1) := by decide +kernel
theorem dX11_number_30 : decode cX11_number 30 = .ok (.bipush 48, 2) := by decide +kernel
theorem dX11_number_32 : decode cX11_number 32 = .ok (.isub, 1) := by decide +kernel
theorem dX11_number_33 : decode cX11_number 33 = .ok (.istore_n 1, 1) := by decide +kernel
theorem dX11_number_34 : decode cX11_number 34 = .ok (.aload_n 0, 1) := by decide +kernel
theorem dX11_number_35 : decode cX11_number 35 = .ok (.dup, 1) := by decide +kernel
theorem dX11_number_36 : decode cX11_number 36 = .ok (.getfield 155, 3) := by decide +kernel
theorem dX11_number_39 : decode cX11_number 39 = .ok (.iconst 1, 1) := by decide +kernel
theorem dX11_number_40 : decode cX11_number 40 = .ok (.iadd, 1) := by decide +kernel
theorem dX11_number_41 : decode cX11_number 41 = .ok (.putfield 155, 3) := by decide +kernel
theorem dX11_number_44 : decode cX11_number 44 = .ok (.iinc 2 1, 3) := by decide +kernel
theorem dX11_number_47 : decode cX11_number 47 = .ok (.goto (-43), 3) := by decide +kernel
theorem dX11_number_50 : decode cX11_number 50 = .ok (.iload_n 1, 1) := by decide +kernel
theorem dX11_number_51 : decode cX11_number 51 = .ok (.ireturn, 1) := by decide +kernel
theorem dX11_opens_0 : decode cX11_opens 0 = .ok (.aload_n 0, 1) := by decide +kernel
theorem dX11_opens_1 : decode cX11_opens 1 = .ok (.aload_n 0, 1) := by decide +kernel
theorem dX11_opens_2 : decode cX11_opens 2 = .ok (.getfield 165, 3) := by decide +kernel
theorem dX11_opens_5 : decode cX11_opens 5 = .ok (.bipush 6, 2) := by decide +kernel
theorem dX11_opens_7 : decode cX11_opens 7 = .ok (.if_icmp .ge 7, 3) := by decide +kernel
theorem dX11_opens_10 : decode cX11_opens 10 = .ok (.iconst 1, 1) := by decide +kernel
theorem dX11_opens_11 : decode cX11_opens 11 = .ok (.goto 4, 3) := by decide +kernel
theorem dX11_opens_14 : decode cX11_opens 14 = .ok (.iconst 0, 1) := by decide +kernel
theorem dX11_opens_15 : decode cX11_opens 15 = .ok (.putfield 151, 3) := by decide +kernel
theorem dX11_opens_18 : decode cX11_opens 18 = .ok (.aload_n 0, 1) := by decide +kernel
theorem dX11_opens_19 : decode cX11_opens 19 = .ok (.getfield 151, 3) := by decide +kernel
theorem dX11_opens_22 : decode cX11_opens 22 = .ok (.ifCond .eq 23, 3) := by decide +kernel
theorem dX11_opens_25 : decode cX11_opens 25 = .ok (.aload_n 0, 1) := by decide +kernel
theorem dX11_opens_26 : decode cX11_opens 26 = .ok (.dup, 1) := by decide +kernel
theorem dX11_opens_27 : decode cX11_opens 27 = .ok (.getfield 165, 3) := by decide +kernel
theorem dX11_opens_30 : decode cX11_opens 30 = .ok (.iconst 1, 1) := by decide +kernel
theorem dX11_opens_31 : decode cX11_opens 31 = .ok (.iadd, 1) := by decide +kernel
theorem dX11_opens_32 : decode cX11_opens 32 = .ok (.putfield 165, 3) := by decide +kernel
theorem dX11_opens_35 : decode cX11_opens 35 = .ok (.aload_n 0, 1) := by decide +kernel
theorem dX11_opens_36 : decode cX11_opens 36 = .ok (.dup, 1) := by decide +kernel
theorem dX11_opens_37 : decode cX11_opens 37 = .ok (.getfield 155, 3) := by decide +kernel
theorem dX11_opens_40 : decode cX11_opens 40 = .ok (.iconst 1, 1) := by decide +kernel
theorem dX11_opens_41 : decode cX11_opens 41 = .ok (.iadd, 1) := by decide +kernel
theorem dX11_opens_42 : decode cX11_opens 42 = .ok (.putfield 155, 3) := by decide +kernel
theorem dX11_opens_45 : decode cX11_opens 45 = .ok (.aload_n 0, 1) := by decide +kernel
theorem dX11_opens_46 : decode cX11_opens 46 = .ok (.getfield 151, 3) := by decide +kernel
theorem dX11_opens_49 : decode cX11_opens 49 = .ok (.ireturn, 1) := by decide +kernel
theorem dX11_one_0 : decode cX11_one 0 = .ok (.iconst 0, 1) := by decide +kernel
theorem dX11_one_1 : decode cX11_one 1 = .ok (.istore_n 1, 1) := by decide +kernel
theorem dX11_one_2 : decode cX11_one 2 = .ok (.aload_n 0, 1) := by decide +kernel
theorem dX11_one_3 : decode cX11_one 3 = .ok (.invokevirtual 161, 3) := by decide +kernel
theorem dX11_one_6 : decode cX11_one 6 = .ok (.ifCond .eq 8, 3) := by decide +kernel
theorem dX11_one_9 : decode cX11_one 9 = .ok (.aload_n 0, 1) := by decide +kernel
theorem dX11_one_10 : decode cX11_one 10 = .ok (.invokevirtual 168, 3) := by decide +kernel
theorem dX11_one_13 : decode cX11_one 13 = .ok (.ireturn, 1) := by decide +kernel
theorem dX11_one_14 : decode cX11_one 14 = .ok (.aload_n 0, 1) := by decide +kernel
theorem dX11_one_15 : decode cX11_one 15 = .ok (.bipush 33, 2) := by decide +kernel
theorem dX11_one_17 : decode cX11_one 17 = .ok (.invokevirtual 172, 3) := by decide +kernel
theorem dX11_one_20 : decode cX11_one 20 = .ok (.ifCond .ne 12, 3) := by decide +kernel
theorem dX11_one_23 : decode cX11_one 23 = .ok (.aload_n 0, 1) := by decide +kernel
theorem dX11_one_24 : decode cX11_one 24 = .ok (.bipush 45, 2) := by decide +kernel
theorem dX11_one_26 : decode cX11_one 26 = .ok (.invokevirtual 172, 3) := by decide +kernel
theorem dX11_one_29 : decode cX11_one 29 = .ok (.ifCond .eq 53, 3) := by decide +kernel
theorem dX11_one_32 : decode cX11_one 32 = .ok (.aload_n 0, 1) := by decide +kernel
theorem dX11_one_33 : decode cX11_one 33 = .ok (.bipush 33, 2) := by decide +kernel
theorem dX11_one_35 : decode cX11_one 35 = .ok (.invokevirtual 172, 3) := by decide +kernel
theorem dX11_one_38 : decode cX11_one 38 = .ok (.istore_n 2, 1) := by decide +kernel
theorem dX11_one_39 : decode cX11_one 39 = .ok (.aload_n 0, 1) := by decide +kernel
theorem dX11_one_40 : decode cX11_one 40 = .ok (.invokevirtual 175, 3) := by decide +kernel
theorem dX11_one_43 : decode cX11_one 43 = .ok (.ifCond .eq 37, 3) := by decide +kernel
theorem dX11_one_46 : decode cX11_one 46 = .ok (.aload_n 0, 1) := by decide +kernel
theorem dX11_one_47 : decode cX11_one 47 = .ok (.invokevirtual 178, 3) := by decide +kernel
theorem dX11_one_50 : decode cX11_one 50 = .ok (.istore_n 3, 1) := by decide +kernel
theorem dX11_one_51 : decode cX11_one 51 = .ok (.iload_n 2, 1) := by decide +kernel
theorem dX11_one_52 : decode cX11_one 52 = .ok (.ifCond .eq 15, 3) := by decide +kernel
theorem dX11_one_55 : decode cX11_one 55 = .ok (.iload_n 3, 1) := by decide +kernel
theorem dX11_one_56 : decode cX11_one 56 = .ok (.ifCond .ne 7, 3) := by decide +kernel
theorem dX11_one_59 : decode cX11_one 59 = .ok (.iconst 1, 1) := by decide +kernel
theorem dX11_one_60 : decode cX11_one 60 = .ok (.goto 9, 3) := by decide +kernel
theorem dX11_one_63 : decode cX11_one 63 = .ok (.iconst 0, 1) := by decide +kernel
theorem dX11_one_64 : decode cX11_one 64 = .ok (.goto 5, 3) := by decide +kernel
theorem dX11_one_67 : decode cX11_one 67 = .ok (.iload_n 3, 1) := by decide +kernel
theorem dX11_one_68 : decode cX11_one 68 = .ok (.ineg, 1) := by decide +kernel
theorem dX11_one_69 : decode cX11_one 69 = .ok (.istore_n 1, 1) := by decide +kernel
theorem dX11_one_70 : decode cX11_one 70 = .ok (.aload_n 0, 1) := by decide +kernel
theorem dX11_one_71 : decode cX11_one 71 = .ok (.dup, 1) := by decide +kernel
theorem dX11_one_72 : decode cX11_one 72 = .ok (.getfield 165, 3) := by decide +kernel
theorem dX11_one_75 : decode cX11_one 75 = .ok (.iconst 1, 1) := by decide +kernel
theorem dX11_one_76 : decode cX11_one 76 = .ok (.isub, 1) := by decide +kernel
theorem dX11_one_77 : decode cX11_one 77 = .ok (.putfield 165, 3) := by decide +kernel
theorem dX11_one_80 : decode cX11_one 80 = .ok (.iload_n 1, 1) := by decide +kernel
theorem dX11_one_81 : decode cX11_one 81 = .ok (.ireturn, 1) := by decide +kernel
theorem dX11_one_82 : decode cX11_one 82 = .ok (.aload_n 0, 1) := by decide +kernel
theorem dX11_one_83 : decode cX11_one 83 = .ok (.bipush 40, 2) := by decide +kernel
theorem dX11_one_85 : decode cX11_one 85 = .ok (.invokevirtual 172, 3) := by decide +kernel
theorem dX11_one_88 : decode cX11_one 88 = .ok (.ifCond .eq 58, 3) := by decide +kernel
theorem dX11_one_91 : decode cX11_one 91 = .ok (.aload_n 0, 1) := by decide +kernel
theorem dX11_one_92 : decode cX11_one 92 = .ok (.invokevirtual 175, 3) := by decide +kernel
theorem dX11_one_95 : decode cX11_one 95 = .ok (.ifCond .eq 49, 3) := by decide +kernel
theorem dX11_one_98 : decode cX11_one 98 = .ok (.aload_n 0, 1) := by decide +kernel
theorem dX11_one_99 : decode cX11_one 99 = .ok (.invokevirtual 181, 3) := by decide +kernel
theorem dX11_one_102 : decode cX11_one 102 = .ok (.istore_n 1, 1) := by decide +kernel
theorem dX11_one_103 : decode cX11_one 103 = .ok (.aload_n 0, 1) := by decide +kernel
theorem dX11_one_104 : decode cX11_one 104 = .ok (.aload_n 0, 1) := by decide +kernel
theorem dX11_one_105 : decode cX11_one 105 = .ok (.bipush 41, 2) := by decide +kernel
theorem dX11_one_107 : decode cX11_one 107 = .ok (.invokevirtual 172, 3) := by decide +kernel
theorem dX11_one_110 : decode cX11_one 110 = .ok (.putfield 151, 3) := by decide +kernel
theorem dX11_one_113 : decode cX11_one 113 = .ok (.aload_n 0, 1) := by decide +kernel
theorem dX11_one_114 : decode cX11_one 114 = .ok (.dup, 1) := by decide +kernel
theorem dX11_one_115 : decode cX11_one 115 = .ok (.getfield 155, 3) := by decide +kernel
theorem dX11_one_118 : decode cX11_one 118 = .ok (.aload_n 0, 1) := by decide +kernel
theorem dX11_one_119 : decode cX11_one 119 = .ok (.getfield 151, 3) := by decide +kernel
theorem dX11_one_122 : decode cX11_one 122 = .ok (.ifCond .eq 7, 3) := by decide +kernel
theorem dX11_one_125 : decode cX11_one 125 = .ok (.iconst 1, 1) := by decide +kernel
theorem dX11_one_126 : decode cX11_one 126 = .ok (.goto 4, 3) := by decide +kernel
theorem dX11_one_129 : decode cX11_one 129 = .ok (.iconst 0, 1) := by decide +kernel
theorem dX11_one_130 : decode cX11_one 130 = .ok (.iadd, 1) := by decide +kernel
theorem dX11_one_131 : decode cX11_one 131 = .ok (.putfield 155, 3) := by decide +kernel
theorem dX11_one_134 : decode cX11_one 134 = .ok (.aload_n 0, 1) := by decide +kernel
theorem dX11_one_135 : decode cX11_one 135 = .ok (.dup, 1) := by decide +kernel
theorem dX11_one_136 : decode cX11_one 136 = .ok (.getfield 165, 3) := by decide +kernel
theorem dX11_one_139 : decode cX11_one 139 = .ok (.iconst 1, 1) := by decide +kernel
theorem dX11_one_140 : decode cX11_one 140 = .ok (.isub, 1) := by decide +kernel
theorem dX11_one_141 : decode cX11_one 141 = .ok (.putfield 165, 3) := by decide +kernel
theorem dX11_one_144 : decode cX11_one 144 = .ok (.iload_n 1, 1) := by decide +kernel
theorem dX11_one_145 : decode cX11_one 145 = .ok (.ireturn, 1) := by decide +kernel
theorem dX11_one_146 : decode cX11_one 146 = .ok (.iconst 0, 1) := by decide +kernel
theorem dX11_one_147 : decode cX11_one 147 = .ok (.istore_n 2, 1) := by decide +kernel
theorem dX11_one_148 : decode cX11_one 148 = .ok (.iload_n 2, 1) := by decide +kernel
theorem dX11_one_149 : decode cX11_one 149 = .ok (.bipush 6, 2) := by decide +kernel
theorem dX11_one_151 : decode cX11_one 151 = .ok (.if_icmp .ge 39, 3) := by decide +kernel
theorem dX11_one_154 : decode cX11_one 154 = .ok (.aload_n 0, 1) := by decide +kernel
theorem dX11_one_155 : decode cX11_one 155 = .ok (.aload_n 0, 1) := by decide +kernel
theorem dX11_one_156 : decode cX11_one 156 = .ok (.getfield 38, 3) := by decide +kernel
theorem dX11_one_159 : decode cX11_one 159 = .ok (.iload_n 2, 1) := by decide +kernel
theorem dX11_one_160 : decode cX11_one 160 = .ok (.caload, 1) := by decide +kernel
theorem dX11_one_161 : decode cX11_one 161 = .ok (.invokevirtual 172, 3) := by decide +kernel
theorem dX11_one_164 : decode cX11_one 164 = .ok (.ifCond .eq 20, 3) := by decide +kernel
theorem dX11_one_167 : decode cX11_one 167 = .ok (.aload_n 0, 1) := by decide +kernel
theorem dX11_one_168 : decode cX11_one 168 = .ok (.dup, 1) := by decide +kernel
theorem dX11_one_169 : decode cX11_one 169 = .ok (.getfield 155, 3) := by decide +kernel
theorem dX11_one_172 : decode cX11_one 172 = .ok (.iconst 1, 1) := by decide +kernel
theorem dX11_one_173 : decode cX11_one 173 = .ok (.iadd, 1) := by decide +kernel
theorem dX11_one_174 : decode cX11_one 174 = .ok (.putfield 155, 3) := by decide +kernel
theorem dX11_one_177 : decode cX11_one 177 = .ok (.aload_n 0, 1) := by decide +kernel
theorem dX11_one_178 : decode cX11_one 178 = .ok (.getfield 35, 3) := by decide +kernel
theorem dX11_one_181 : decode cX11_one 181 = .ok (.iload_n 2, 1) := by decide +kernel
theorem dX11_one_182 : decode cX11_one 182 = .ok (.iaload, 1) := by decide +kernel
theorem dX11_one_183 : decode cX11_one 183 = .ok (.ireturn, 1) := by decide +kernel
theorem dX11_one_184 : decode cX11_one 184 = .ok (.iinc 2 1, 3) := by decide +kernel
theorem dX11_one_187 : decode cX11_one 187 = .ok (.goto (-39), 3) := by decide +kernel
theorem dX11_one_190 : decode cX11_one 190 = .ok (.aload_n 0, 1) := by decide +kernel
theorem dX11_one_191 : decode cX11_one 191 = .ok (.iconst 0, 1) := by decide +kernel
theorem dX11_one_192 : decode cX11_one 192 = .ok (.putfield 151, 3) := by decide +kernel
theorem dX11_one_195 : decode cX11_one 195 = .ok (.iconst 0, 1) := by decide +kernel
theorem dX11_one_196 : decode cX11_one 196 = .ok (.ireturn, 1) := by decide +kernel
theorem dX11_product_0 : decode cX11_product 0 = .ok (.aload_n 0, 1) := by decide +kernel
theorem dX11_product_1 : decode cX11_product 1 = .ok (.invokevirtual 178, 3) := by decide +kernel
theorem dX11_product_4 : decode cX11_product 4 = .ok (.istore_n 1, 1) := by decide +kernel
theorem dX11_product_5 : decode cX11_product 5 = .ok (.aload_n 0, 1) := by decide +kernel
theorem dX11_product_6 : decode cX11_product 6 = .ok (.bipush 42, 2) := by decide +kernel
theorem dX11_product_8 : decode cX11_product 8 = .ok (.invokevirtual 172, 3) := by decide +kernel
theorem dX11_product_11 : decode cX11_product 11 = .ok (.ifCond .ne 21, 3) := by decide +kernel
theorem dX11_product_14 : decode cX11_product 14 = .ok (.aload_n 0, 1) := by decide +kernel
theorem dX11_product_15 : decode cX11_product 15 = .ok (.bipush 47, 2) := by decide +kernel
theorem dX11_product_17 : decode cX11_product 17 = .ok (.invokevirtual 172, 3) := by decide +kernel
theorem dX11_product_20 : decode cX11_product 20 = .ok (.ifCond .ne 12, 3) := by decide +kernel
theorem dX11_product_23 : decode cX11_product 23 = .ok (.aload_n 0, 1) := by decide +kernel
theorem dX11_product_24 : decode cX11_product 24 = .ok (.bipush 37, 2) := by decide +kernel
theorem dX11_product_26 : decode cX11_product 26 = .ok (.invokevirtual 172, 3) := by decide +kernel
theorem dX11_product_29 : decode cX11_product 29 = .ok (.ifCond .eq 67, 3) := by decide +kernel
theorem dX11_product_32 : decode cX11_product 32 = .ok (.aload_n 0, 1) := by decide +kernel
theorem dX11_product_33 : decode cX11_product 33 = .ok (.getfield 32, 3) := by decide +kernel
theorem dX11_product_36 : decode cX11_product 36 = .ok (.aload_n 0, 1) := by decide +kernel
theorem dX11_product_37 : decode cX11_product 37 = .ok (.getfield 155, 3) := by decide +kernel
theorem dX11_product_40 : decode cX11_product 40 = .ok (.iaload, 1) := by decide +kernel
theorem dX11_product_41 : decode cX11_product 41 = .ok (.istore_n 2, 1) := by decide +kernel
theorem dX11_product_42 : decode cX11_product 42 = .ok (.aload_n 0, 1) := by decide +kernel
theorem dX11_product_43 : decode cX11_product 43 = .ok (.dup, 1) := by decide +kernel
theorem dX11_product_44 : decode cX11_product 44 = .ok (.getfield 155, 3) := by decide +kernel
theorem dX11_product_47 : decode cX11_product 47 = .ok (.iconst 1, 1) := by decide +kernel
theorem dX11_product_48 : decode cX11_product 48 = .ok (.iadd, 1) := by decide +kernel
theorem dX11_product_49 : decode cX11_product 49 = .ok (.putfield 155, 3) := by decide +kernel
theorem dX11_product_52 : decode cX11_product 52 = .ok (.aload_n 0, 1) := by decide +kernel
theorem dX11_product_53 : decode cX11_product 53 = .ok (.invokevirtual 178, 3) := by decide +kernel
theorem dX11_product_56 : decode cX11_product 56 = .ok (.istore_n 3, 1) := by decide +kernel
theorem dX11_product_57 : decode cX11_product 57 = .ok (.iload_n 2, 1) := by decide +kernel
theorem dX11_product_58 : decode cX11_product 58 = .ok (.bipush 42, 2) := by decide +kernel
theorem dX11_product_60 : decode cX11_product 60 = .ok (.if_icmp .ne 9, 3) := by decide +kernel
theorem dX11_product_63 : decode cX11_product 63 = .ok (.iload_n 1, 1) := by decide +kernel
theorem dX11_product_64 : decode cX11_product 64 = .ok (.iload_n 3, 1) := by decide +kernel
theorem dX11_product_65 : decode cX11_product 65 = .ok (.imul, 1) := by decide +kernel
theorem dX11_product_66 : decode cX11_product 66 = .ok (.goto 26, 3) := by decide +kernel
theorem dX11_product_69 : decode cX11_product 69 = .ok (.iload_n 3, 1) := by decide +kernel
theorem dX11_product_70 : decode cX11_product 70 = .ok (.ifCond .ne 7, 3) := by decide +kernel
theorem dX11_product_73 : decode cX11_product 73 = .ok (.iconst 0, 1) := by decide +kernel
theorem dX11_product_74 : decode cX11_product 74 = .ok (.goto 18, 3) := by decide +kernel
theorem dX11_product_77 : decode cX11_product 77 = .ok (.iload_n 2, 1) := by decide +kernel
theorem dX11_product_78 : decode cX11_product 78 = .ok (.bipush 47, 2) := by decide +kernel
theorem dX11_product_80 : decode cX11_product 80 = .ok (.if_icmp .ne 9, 3) := by decide +kernel
theorem dX11_product_83 : decode cX11_product 83 = .ok (.iload_n 1, 1) := by decide +kernel
theorem dX11_product_84 : decode cX11_product 84 = .ok (.iload_n 3, 1) := by decide +kernel
theorem dX11_product_85 : decode cX11_product 85 = .ok (.idiv, 1) := by decide +kernel
theorem dX11_product_86 : decode cX11_product 86 = .ok (.goto 6, 3) := by decide +kernel
theorem dX11_product_89 : decode cX11_product 89 = .ok (.iload_n 1, 1) := by decide +kernel
theorem dX11_product_90 : decode cX11_product 90 = .ok (.iload_n 3, 1) := by decide +kernel
theorem dX11_product_91 : decode cX11_product 91 = .ok (.irem, 1) := by decide +kernel
theorem dX11_product_92 : decode cX11_product 92 = .ok (.istore_n 1, 1) := by decide +kernel
theorem dX11_product_93 : decode cX11_product 93 = .ok (.goto (-88), 3) := by decide +kernel
theorem dX11_product_96 : decode cX11_product 96 = .ok (.iload_n 1, 1) := by decide +kernel
theorem dX11_product_97 : decode cX11_product 97 = .ok (.ireturn, 1) := by decide +kernel
theorem dX11_total_0 : decode cX11_total 0 = .ok (.aload_n 0, 1) := by decide +kernel
theorem dX11_total_1 : decode cX11_total 1 = .ok (.invokevirtual 184, 3) := by decide +kernel
theorem dX11_total_4 : decode cX11_total 4 = .ok (.istore_n 1, 1) := by decide +kernel
theorem dX11_total_5 : decode cX11_total 5 = .ok (.aload_n 0, 1) := by decide +kernel
theorem dX11_total_6 : decode cX11_total 6 = .ok (.bipush 43, 2) := by decide +kernel
theorem dX11_total_8 : decode cX11_total 8 = .ok (.invokevirtual 172, 3) := by decide +kernel
theorem dX11_total_11 : decode cX11_total 11 = .ok (.ifCond .ne 12, 3) := by decide +kernel
theorem dX11_total_14 : decode cX11_total 14 = .ok (.aload_n 0, 1) := by decide +kernel
theorem dX11_total_15 : decode cX11_total 15 = .ok (.bipush 45, 2) := by decide +kernel
theorem dX11_total_17 : decode cX11_total 17 = .ok (.invokevirtual 172, 3) := by decide +kernel
theorem dX11_total_20 : decode cX11_total 20 = .ok (.ifCond .eq 42, 3) := by decide +kernel
theorem dX11_total_23 : decode cX11_total 23 = .ok (.aload_n 0, 1) := by decide +kernel
theorem dX11_total_24 : decode cX11_total 24 = .ok (.bipush 43, 2) := by decide +kernel
theorem dX11_total_26 : decode cX11_total 26 = .ok (.invokevirtual 172, 3) := by decide +kernel
theorem dX11_total_29 : decode cX11_total 29 = .ok (.istore_n 2, 1) := by decide +kernel
theorem dX11_total_30 : decode cX11_total 30 = .ok (.aload_n 0, 1) := by decide +kernel
theorem dX11_total_31 : decode cX11_total 31 = .ok (.dup, 1) := by decide +kernel
theorem dX11_total_32 : decode cX11_total 32 = .ok (.getfield 155, 3) := by decide +kernel
theorem dX11_total_35 : decode cX11_total 35 = .ok (.iconst 1, 1) := by decide +kernel
theorem dX11_total_36 : decode cX11_total 36 = .ok (.iadd, 1) := by decide +kernel
theorem dX11_total_37 : decode cX11_total 37 = .ok (.putfield 155, 3) := by decide +kernel
theorem dX11_total_40 : decode cX11_total 40 = .ok (.aload_n 0, 1) := by decide +kernel
theorem dX11_total_41 : decode cX11_total 41 = .ok (.invokevirtual 184, 3) := by decide +kernel
theorem dX11_total_44 : decode cX11_total 44 = .ok (.istore_n 3, 1) := by decide +kernel
theorem dX11_total_45 : decode cX11_total 45 = .ok (.iload_n 2, 1) := by decide +kernel
theorem dX11_total_46 : decode cX11_total 46 = .ok (.ifCond .eq 9, 3) := by decide +kernel
theorem dX11_total_49 : decode cX11_total 49 = .ok (.iload_n 1, 1) := by decide +kernel
theorem dX11_total_50 : decode cX11_total 50 = .ok (.iload_n 3, 1) := by decide +kernel
theorem dX11_total_51 : decode cX11_total 51 = .ok (.iadd, 1) := by decide +kernel
theorem dX11_total_52 : decode cX11_total 52 = .ok (.goto 6, 3) := by decide +kernel
theorem dX11_total_55 : decode cX11_total 55 = .ok (.iload_n 1, 1) := by decide +kernel
theorem dX11_total_56 : decode cX11_total 56 = .ok (.iload_n 3, 1) := by decide +kernel
theorem dX11_total_57 : decode cX11_total 57 = .ok (.isub, 1) := by decide +kernel
theorem dX11_total_58 : decode cX11_total 58 = .ok (.istore_n 1, 1) := by decide +kernel
theorem dX11_total_59 : decode cX11_total 59 = .ok (.goto (-54), 3) := by decide +kernel
theorem dX11_total_62 : decode cX11_total 62 = .ok (.iload_n 1, 1) := by decide +kernel
theorem dX11_total_63 : decode cX11_total 63 = .ok (.ireturn, 1) := by decide +kernel
theorem dX11_compared_0 : decode cX11_compared 0 = .ok (.aload_n 0, 1) := by decide +kernel
theorem dX11_compared_1 : decode cX11_compared 1 = .ok (.invokevirtual 187, 3) := by decide +kernel
theorem dX11_compared_4 : decode cX11_compared 4 = .ok (.istore_n 1, 1) := by decide +kernel
theorem dX11_compared_5 : decode cX11_compared 5 = .ok (.aload_n 0, 1) := by decide +kernel
theorem dX11_compared_6 : decode cX11_compared 6 = .ok (.bipush 60, 2) := by decide +kernel
theorem dX11_compared_8 : decode cX11_compared 8 = .ok (.invokevirtual 172, 3) := by decide +kernel
theorem dX11_compared_11 : decode cX11_compared 11 = .ok (.ifCond .ne 21, 3) := by decide +kernel
theorem dX11_compared_14 : decode cX11_compared 14 = .ok (.aload_n 0, 1) := by decide +kernel
theorem dX11_compared_15 : decode cX11_compared 15 = .ok (.bipush 61, 2) := by decide +kernel
theorem dX11_compared_17 : decode cX11_compared 17 = .ok (.invokevirtual 172, 3) := by decide +kernel
theorem dX11_compared_20 : decode cX11_compared 20 = .ok (.ifCond .ne 12, 3) := by decide +kernel
theorem dX11_compared_23 : decode cX11_compared 23 = .ok (.aload_n 0, 1) := by decide +kernel
theorem dX11_compared_24 : decode cX11_compared 24 = .ok (.bipush 62, 2) := by decide +kernel
theorem dX11_compared_26 : decode cX11_compared 26 = .ok (.invokevirtual 172, 3) := by decide +kernel
theorem dX11_compared_29 : decode cX11_compared 29 = .ok (.ifCond .eq 89, 3) := by decide +kernel
theorem dX11_compared_32 : decode cX11_compared 32 = .ok (.aload_n 0, 1) := by decide +kernel
theorem dX11_compared_33 : decode cX11_compared 33 = .ok (.getfield 32, 3) := by decide +kernel
theorem dX11_compared_36 : decode cX11_compared 36 = .ok (.aload_n 0, 1) := by decide +kernel
theorem dX11_compared_37 : decode cX11_compared 37 = .ok (.getfield 155, 3) := by decide +kernel
theorem dX11_compared_40 : decode cX11_compared 40 = .ok (.iaload, 1) := by decide +kernel
theorem dX11_compared_41 : decode cX11_compared 41 = .ok (.istore_n 2, 1) := by decide +kernel
theorem dX11_compared_42 : decode cX11_compared 42 = .ok (.aload_n 0, 1) := by decide +kernel
theorem dX11_compared_43 : decode cX11_compared 43 = .ok (.dup, 1) := by decide +kernel
theorem dX11_compared_44 : decode cX11_compared 44 = .ok (.getfield 155, 3) := by decide +kernel
theorem dX11_compared_47 : decode cX11_compared 47 = .ok (.iconst 1, 1) := by decide +kernel
theorem dX11_compared_48 : decode cX11_compared 48 = .ok (.iadd, 1) := by decide +kernel
theorem dX11_compared_49 : decode cX11_compared 49 = .ok (.putfield 155, 3) := by decide +kernel
theorem dX11_compared_52 : decode cX11_compared 52 = .ok (.aload_n 0, 1) := by decide +kernel
theorem dX11_compared_53 : decode cX11_compared 53 = .ok (.invokevirtual 187, 3) := by decide +kernel
theorem dX11_compared_56 : decode cX11_compared 56 = .ok (.istore_n 3, 1) := by decide +kernel
theorem dX11_compared_57 : decode cX11_compared 57 = .ok (.iload_n 2, 1) := by decide +kernel
theorem dX11_compared_58 : decode cX11_compared 58 = .ok (.bipush 60, 2) := by decide +kernel
theorem dX11_compared_60 : decode cX11_compared 60 = .ok (.if_icmp .ne 16, 3) := by decide +kernel
theorem dX11_compared_63 : decode cX11_compared 63 = .ok (.iload_n 1, 1) := by decide +kernel
theorem dX11_compared_64 : decode cX11_compared 64 = .ok (.iload_n 3, 1) := by decide +kernel
theorem dX11_compared_65 : decode cX11_compared 65 = .ok (.if_icmp .ge 7, 3) := by decide +kernel
theorem dX11_compared_68 : decode cX11_compared 68 = .ok (.iconst 1, 1) := by decide +kernel
theorem dX11_compared_69 : decode cX11_compared 69 = .ok (.goto 36, 3) := by decide +kernel
theorem dX11_compared_72 : decode cX11_compared 72 = .ok (.iconst 0, 1) := by decide +kernel
theorem dX11_compared_73 : decode cX11_compared 73 = .ok (.goto 32, 3) := by decide +kernel
theorem dX11_compared_76 : decode cX11_compared 76 = .ok (.iload_n 2, 1) := by decide +kernel
theorem dX11_compared_77 : decode cX11_compared 77 = .ok (.bipush 61, 2) := by decide +kernel
theorem dX11_compared_79 : decode cX11_compared 79 = .ok (.if_icmp .ne 16, 3) := by decide +kernel
theorem dX11_compared_82 : decode cX11_compared 82 = .ok (.iload_n 1, 1) := by decide +kernel
theorem dX11_compared_83 : decode cX11_compared 83 = .ok (.iload_n 3, 1) := by decide +kernel
theorem dX11_compared_84 : decode cX11_compared 84 = .ok (.if_icmp .ne 7, 3) := by decide +kernel
theorem dX11_compared_87 : decode cX11_compared 87 = .ok (.iconst 1, 1) := by decide +kernel
theorem dX11_compared_88 : decode cX11_compared 88 = .ok (.goto 17, 3) := by decide +kernel
theorem dX11_compared_91 : decode cX11_compared 91 = .ok (.iconst 0, 1) := by decide +kernel
theorem dX11_compared_92 : decode cX11_compared 92 = .ok (.goto 13, 3) := by decide +kernel
theorem dX11_compared_95 : decode cX11_compared 95 = .ok (.iload_n 1, 1) := by decide +kernel
theorem dX11_compared_96 : decode cX11_compared 96 = .ok (.iload_n 3, 1) := by decide +kernel
theorem dX11_compared_97 : decode cX11_compared 97 = .ok (.if_icmp .le 7, 3) := by decide +kernel
theorem dX11_compared_100 : decode cX11_compared 100 = .ok (.iconst 1, 1) := by decide +kernel
theorem dX11_compared_101 : decode cX11_compared 101 = .ok (.goto 4, 3) := by decide +kernel
theorem dX11_compared_104 : decode cX11_compared 104 = .ok (.iconst 0, 1) := by decide +kernel
theorem dX11_compared_105 : decode cX11_compared 105 = .ok (.istore 4, 2) := by decide +kernel
theorem dX11_compared_107 : decode cX11_compared 107 = .ok (.iload 4, 2) := by decide +kernel
theorem dX11_compared_109 : decode cX11_compared 109 = .ok (.ifCond .eq 7, 3) := by decide +kernel
theorem dX11_compared_112 : decode cX11_compared 112 = .ok (.iconst 1, 1) := by decide +kernel
theorem dX11_compared_113 : decode cX11_compared 113 = .ok (.goto 4, 3) := by decide +kernel
theorem dX11_compared_116 : decode cX11_compared 116 = .ok (.iconst 0, 1) := by decide +kernel
theorem dX11_compared_117 : decode cX11_compared 117 = .ok (.istore_n 1, 1) := by decide +kernel
theorem dX11_compared_118 : decode cX11_compared 118 = .ok (.iload_n 1, 1) := by decide +kernel
theorem dX11_compared_119 : decode cX11_compared 119 = .ok (.ireturn, 1) := by decide +kernel
theorem dX11_both_0 : decode cX11_both 0 = .ok (.aload_n 0, 1) := by decide +kernel
theorem dX11_both_1 : decode cX11_both 1 = .ok (.invokevirtual 190, 3) := by decide +kernel
theorem dX11_both_4 : decode cX11_both 4 = .ok (.istore_n 1, 1) := by decide +kernel
theorem dX11_both_5 : decode cX11_both 5 = .ok (.aload_n 0, 1) := by decide +kernel
theorem dX11_both_6 : decode cX11_both 6 = .ok (.bipush 38, 2) := by decide +kernel
theorem dX11_both_8 : decode cX11_both 8 = .ok (.invokevirtual 172, 3) := by decide +kernel
theorem dX11_both_11 : decode cX11_both 11 = .ok (.ifCond .eq 35, 3) := by decide +kernel
theorem dX11_both_14 : decode cX11_both 14 = .ok (.aload_n 0, 1) := by decide +kernel
theorem dX11_both_15 : decode cX11_both 15 = .ok (.dup, 1) := by decide +kernel
theorem dX11_both_16 : decode cX11_both 16 = .ok (.getfield 155, 3) := by decide +kernel
theorem dX11_both_19 : decode cX11_both 19 = .ok (.iconst 1, 1) := by decide +kernel
theorem dX11_both_20 : decode cX11_both 20 = .ok (.iadd, 1) := by decide +kernel
theorem dX11_both_21 : decode cX11_both 21 = .ok (.putfield 155, 3) := by decide +kernel
theorem dX11_both_24 : decode cX11_both 24 = .ok (.aload_n 0, 1) := by decide +kernel
theorem dX11_both_25 : decode cX11_both 25 = .ok (.invokevirtual 190, 3) := by decide +kernel
theorem dX11_both_28 : decode cX11_both 28 = .ok (.istore_n 2, 1) := by decide +kernel
theorem dX11_both_29 : decode cX11_both 29 = .ok (.iload_n 1, 1) := by decide +kernel
theorem dX11_both_30 : decode cX11_both 30 = .ok (.ifCond .eq 11, 3) := by decide +kernel
theorem dX11_both_33 : decode cX11_both 33 = .ok (.iload_n 2, 1) := by decide +kernel
theorem dX11_both_34 : decode cX11_both 34 = .ok (.ifCond .eq 7, 3) := by decide +kernel
theorem dX11_both_37 : decode cX11_both 37 = .ok (.iconst 1, 1) := by decide +kernel
theorem dX11_both_38 : decode cX11_both 38 = .ok (.goto 4, 3) := by decide +kernel
theorem dX11_both_41 : decode cX11_both 41 = .ok (.iconst 0, 1) := by decide +kernel
theorem dX11_both_42 : decode cX11_both 42 = .ok (.istore_n 1, 1) := by decide +kernel
theorem dX11_both_43 : decode cX11_both 43 = .ok (.goto (-38), 3) := by decide +kernel
theorem dX11_both_46 : decode cX11_both 46 = .ok (.iload_n 1, 1) := by decide +kernel
theorem dX11_both_47 : decode cX11_both 47 = .ok (.ireturn, 1) := by decide +kernel
theorem dX11_any_0 : decode cX11_any 0 = .ok (.aload_n 0, 1) := by decide +kernel
theorem dX11_any_1 : decode cX11_any 1 = .ok (.invokevirtual 193, 3) := by decide +kernel
theorem dX11_any_4 : decode cX11_any 4 = .ok (.istore_n 1, 1) := by decide +kernel
theorem dX11_any_5 : decode cX11_any 5 = .ok (.aload_n 0, 1) := by decide +kernel
theorem dX11_any_6 : decode cX11_any 6 = .ok (.bipush 124, 2) := by decide +kernel
theorem dX11_any_8 : decode cX11_any 8 = .ok (.invokevirtual 172, 3) := by decide +kernel
theorem dX11_any_11 : decode cX11_any 11 = .ok (.ifCond .eq 35, 3) := by decide +kernel
theorem dX11_any_14 : decode cX11_any 14 = .ok (.aload_n 0, 1) := by decide +kernel
theorem dX11_any_15 : decode cX11_any 15 = .ok (.dup, 1) := by decide +kernel
theorem dX11_any_16 : decode cX11_any 16 = .ok (.getfield 155, 3) := by decide +kernel
theorem dX11_any_19 : decode cX11_any 19 = .ok (.iconst 1, 1) := by decide +kernel
theorem dX11_any_20 : decode cX11_any 20 = .ok (.iadd, 1) := by decide +kernel
theorem dX11_any_21 : decode cX11_any 21 = .ok (.putfield 155, 3) := by decide +kernel
theorem dX11_any_24 : decode cX11_any 24 = .ok (.aload_n 0, 1) := by decide +kernel
theorem dX11_any_25 : decode cX11_any 25 = .ok (.invokevirtual 193, 3) := by decide +kernel
theorem dX11_any_28 : decode cX11_any 28 = .ok (.istore_n 2, 1) := by decide +kernel
theorem dX11_any_29 : decode cX11_any 29 = .ok (.iload_n 1, 1) := by decide +kernel
theorem dX11_any_30 : decode cX11_any 30 = .ok (.ifCond .ne 7, 3) := by decide +kernel
theorem dX11_any_33 : decode cX11_any 33 = .ok (.iload_n 2, 1) := by decide +kernel
theorem dX11_any_34 : decode cX11_any 34 = .ok (.ifCond .eq 7, 3) := by decide +kernel
theorem dX11_any_37 : decode cX11_any 37 = .ok (.iconst 1, 1) := by decide +kernel
theorem dX11_any_38 : decode cX11_any 38 = .ok (.goto 4, 3) := by decide +kernel
theorem dX11_any_41 : decode cX11_any 41 = .ok (.iconst 0, 1) := by decide +kernel
theorem dX11_any_42 : decode cX11_any 42 = .ok (.istore_n 1, 1) := by decide +kernel
theorem dX11_any_43 : decode cX11_any 43 = .ok (.goto (-38), 3) := by decide +kernel
theorem dX11_any_46 : decode cX11_any 46 = .ok (.iload_n 1, 1) := by decide +kernel
theorem dX11_any_47 : decode cX11_any 47 = .ok (.ireturn, 1) := by decide +kernel
theorem dX11_gives_0 : decode cX11_gives 0 = .ok (.aload_n 0, 1) := by decide +kernel
theorem dX11_gives_1 : decode cX11_gives 1 = .ok (.iconst 0, 1) := by decide +kernel
theorem dX11_gives_2 : decode cX11_gives 2 = .ok (.putfield 155, 3) := by decide +kernel
theorem dX11_gives_5 : decode cX11_gives 5 = .ok (.aload_n 0, 1) := by decide +kernel
theorem dX11_gives_6 : decode cX11_gives 6 = .ok (.iconst 1, 1) := by decide +kernel
theorem dX11_gives_7 : decode cX11_gives 7 = .ok (.putfield 151, 3) := by decide +kernel
theorem dX11_gives_10 : decode cX11_gives 10 = .ok (.aload_n 0, 1) := by decide +kernel
theorem dX11_gives_11 : decode cX11_gives 11 = .ok (.iconst 0, 1) := by decide +kernel
theorem dX11_gives_12 : decode cX11_gives 12 = .ok (.putfield 165, 3) := by decide +kernel
theorem dX11_gives_15 : decode cX11_gives 15 = .ok (.iconst 0, 1) := by decide +kernel
theorem dX11_gives_16 : decode cX11_gives 16 = .ok (.istore_n 1, 1) := by decide +kernel
theorem dX11_gives_17 : decode cX11_gives 17 = .ok (.iconst 0, 1) := by decide +kernel
theorem dX11_gives_18 : decode cX11_gives 18 = .ok (.istore_n 2, 1) := by decide +kernel
theorem dX11_gives_19 : decode cX11_gives 19 = .ok (.iconst 1, 1) := by decide +kernel
theorem dX11_gives_20 : decode cX11_gives 20 = .ok (.istore_n 3, 1) := by decide +kernel
theorem dX11_gives_21 : decode cX11_gives 21 = .ok (.iload_n 3, 1) := by decide +kernel
theorem dX11_gives_22 : decode cX11_gives 22 = .ok (.ifCond .eq 108, 3) := by decide +kernel
theorem dX11_gives_25 : decode cX11_gives 25 = .ok (.aload_n 0, 1) := by decide +kernel
theorem dX11_gives_26 : decode cX11_gives 26 = .ok (.invokevirtual 181, 3) := by decide +kernel
theorem dX11_gives_29 : decode cX11_gives 29 = .ok (.istore 4, 2) := by decide +kernel
theorem dX11_gives_31 : decode cX11_gives 31 = .ok (.iconst 1, 1) := by decide +kernel
theorem dX11_gives_32 : decode cX11_gives 32 = .ok (.istore 5, 2) := by decide +kernel
theorem dX11_gives_34 : decode cX11_gives 34 = .ok (.aload_n 0, 1) := by decide +kernel
theorem dX11_gives_35 : decode cX11_gives 35 = .ok (.bipush 63, 2) := by decide +kernel
theorem dX11_gives_37 : decode cX11_gives 37 = .ok (.invokevirtual 172, 3) := by decide +kernel
theorem dX11_gives_40 : decode cX11_gives 40 = .ok (.ifCond .eq 31, 3) := by decide +kernel
theorem dX11_gives_43 : decode cX11_gives 43 = .ok (.aload_n 0, 1) := by decide +kernel
theorem dX11_gives_44 : decode cX11_gives 44 = .ok (.dup, 1) := by decide +kernel
theorem dX11_gives_45 : decode cX11_gives 45 = .ok (.getfield 155, 3) := by decide +kernel
theorem dX11_gives_48 : decode cX11_gives 48 = .ok (.iconst 1, 1) := by decide +kernel
theorem dX11_gives_49 : decode cX11_gives 49 = .ok (.iadd, 1) := by decide +kernel
theorem dX11_gives_50 : decode cX11_gives 50 = .ok (.putfield 155, 3) := by decide +kernel
theorem dX11_gives_53 : decode cX11_gives 53 = .ok (.iload 4, 2) := by decide +kernel
theorem dX11_gives_55 : decode cX11_gives 55 = .ok (.ifCond .eq 7, 3) := by decide +kernel
theorem dX11_gives_58 : decode cX11_gives 58 = .ok (.iconst 1, 1) := by decide +kernel
theorem dX11_gives_59 : decode cX11_gives 59 = .ok (.goto 4, 3) := by decide +kernel
theorem dX11_gives_62 : decode cX11_gives 62 = .ok (.iconst 0, 1) := by decide +kernel
theorem dX11_gives_63 : decode cX11_gives 63 = .ok (.istore 5, 2) := by decide +kernel
theorem dX11_gives_65 : decode cX11_gives 65 = .ok (.aload_n 0, 1) := by decide +kernel
theorem dX11_gives_66 : decode cX11_gives 66 = .ok (.invokevirtual 181, 3) := by decide +kernel
theorem dX11_gives_69 : decode cX11_gives 69 = .ok (.istore 4, 2) := by decide +kernel
theorem dX11_gives_71 : decode cX11_gives 71 = .ok (.iload 5, 2) := by decide +kernel
theorem dX11_gives_73 : decode cX11_gives 73 = .ok (.ifCond .eq 12, 3) := by decide +kernel
theorem dX11_gives_76 : decode cX11_gives 76 = .ok (.iload_n 2, 1) := by decide +kernel
theorem dX11_gives_77 : decode cX11_gives 77 = .ok (.ifCond .ne 8, 3) := by decide +kernel
theorem dX11_gives_80 : decode cX11_gives 80 = .ok (.iload 4, 2) := by decide +kernel
theorem dX11_gives_82 : decode cX11_gives 82 = .ok (.goto 4, 3) := by decide +kernel
theorem dX11_gives_85 : decode cX11_gives 85 = .ok (.iload_n 1, 1) := by decide +kernel
theorem dX11_gives_86 : decode cX11_gives 86 = .ok (.istore_n 1, 1) := by decide +kernel
theorem dX11_gives_87 : decode cX11_gives 87 = .ok (.iload_n 2, 1) := by decide +kernel
theorem dX11_gives_88 : decode cX11_gives 88 = .ok (.ifCond .ne 8, 3) := by decide +kernel
theorem dX11_gives_91 : decode cX11_gives 91 = .ok (.iload 5, 2) := by decide +kernel
theorem dX11_gives_93 : decode cX11_gives 93 = .ok (.ifCond .eq 7, 3) := by decide +kernel
theorem dX11_gives_96 : decode cX11_gives 96 = .ok (.iconst 1, 1) := by decide +kernel
theorem dX11_gives_97 : decode cX11_gives 97 = .ok (.goto 4, 3) := by decide +kernel
theorem dX11_gives_100 : decode cX11_gives 100 = .ok (.iconst 0, 1) := by decide +kernel
theorem dX11_gives_101 : decode cX11_gives 101 = .ok (.istore_n 2, 1) := by decide +kernel
theorem dX11_gives_102 : decode cX11_gives 102 = .ok (.aload_n 0, 1) := by decide +kernel
theorem dX11_gives_103 : decode cX11_gives 103 = .ok (.bipush 59, 2) := by decide +kernel
theorem dX11_gives_105 : decode cX11_gives 105 = .ok (.invokevirtual 172, 3) := by decide +kernel
theorem dX11_gives_108 : decode cX11_gives 108 = .ok (.istore_n 3, 1) := by decide +kernel
theorem dX11_gives_109 : decode cX11_gives 109 = .ok (.aload_n 0, 1) := by decide +kernel
theorem dX11_gives_110 : decode cX11_gives 110 = .ok (.dup, 1) := by decide +kernel
theorem dX11_gives_111 : decode cX11_gives 111 = .ok (.getfield 155, 3) := by decide +kernel
theorem dX11_gives_114 : decode cX11_gives 114 = .ok (.iload_n 3, 1) := by decide +kernel
theorem dX11_gives_115 : decode cX11_gives 115 = .ok (.ifCond .eq 7, 3) := by decide +kernel
theorem dX11_gives_118 : decode cX11_gives 118 = .ok (.iconst 1, 1) := by decide +kernel
theorem dX11_gives_119 : decode cX11_gives 119 = .ok (.goto 4, 3) := by decide +kernel
theorem dX11_gives_122 : decode cX11_gives 122 = .ok (.iconst 0, 1) := by decide +kernel
theorem dX11_gives_123 : decode cX11_gives 123 = .ok (.iadd, 1) := by decide +kernel
theorem dX11_gives_124 : decode cX11_gives 124 = .ok (.putfield 155, 3) := by decide +kernel
theorem dX11_gives_127 : decode cX11_gives 127 = .ok (.goto (-106), 3) := by decide +kernel
theorem dX11_gives_130 : decode cX11_gives 130 = .ok (.iload_n 1, 1) := by decide +kernel
theorem dX11_gives_131 : decode cX11_gives 131 = .ok (.ireturn, 1) := by decide +kernel
theorem dX11_law_0 : decode cX11_law 0 = .ok (.aload_n 0, 1) := by decide +kernel
theorem dX11_law_1 : decode cX11_law 1 = .ok (.aload_n 0, 1) := by decide +kernel
theorem dX11_law_2 : decode cX11_law 2 = .ok (.getfield 148, 3) := by decide +kernel
theorem dX11_law_5 : decode cX11_law 5 = .ok (.putfield 158, 3) := by decide +kernel
theorem dX11_law_8 : decode cX11_law 8 = .ok (.iconst 0, 1) := by decide +kernel
theorem dX11_law_9 : decode cX11_law 9 = .ok (.istore_n 1, 1) := by decide +kernel
theorem dX11_law_10 : decode cX11_law 10 = .ok (.iload_n 1, 1) := by decide +kernel
theorem dX11_law_11 : decode cX11_law 11 = .ok (.aload_n 0, 1) := by decide +kernel
theorem dX11_law_12 : decode cX11_law 12 = .ok (.getfield 158, 3) := by decide +kernel
theorem dX11_law_15 : decode cX11_law 15 = .ok (.if_icmp .ge 21, 3) := by decide +kernel
theorem dX11_law_18 : decode cX11_law 18 = .ok (.aload_n 0, 1) := by decide +kernel
theorem dX11_law_19 : decode cX11_law 19 = .ok (.getfield 32, 3) := by decide +kernel
theorem dX11_law_22 : decode cX11_law 22 = .ok (.iload_n 1, 1) := by decide +kernel
theorem dX11_law_23 : decode cX11_law 23 = .ok (.aload_n 0, 1) := by decide +kernel
theorem dX11_law_24 : decode cX11_law 24 = .ok (.getfield 26, 3) := by decide +kernel
theorem dX11_law_27 : decode cX11_law 27 = .ok (.iload_n 1, 1) := by decide +kernel
theorem dX11_law_28 : decode cX11_law 28 = .ok (.iaload, 1) := by decide +kernel
theorem dX11_law_29 : decode cX11_law 29 = .ok (.iastore, 1) := by decide +kernel
theorem dX11_law_30 : decode cX11_law 30 = .ok (.iinc 1 1, 3) := by decide +kernel
theorem dX11_law_33 : decode cX11_law 33 = .ok (.goto (-23), 3) := by decide +kernel
theorem dX11_law_36 : decode cX11_law 36 = .ok (.aload_n 0, 1) := by decide +kernel
theorem dX11_law_37 : decode cX11_law 37 = .ok (.iconst 0, 1) := by decide +kernel
theorem dX11_law_38 : decode cX11_law 38 = .ok (.putfield 148, 3) := by decide +kernel
theorem dX11_law_41 : decode cX11_law 41 = .ok (.iconst 0, 1) := by decide +kernel
theorem dX11_law_42 : decode cX11_law 42 = .ok (.istore_n 1, 1) := by decide +kernel
theorem dX11_law_43 : decode cX11_law 43 = .ok (.iload_n 1, 1) := by decide +kernel
theorem dX11_law_44 : decode cX11_law 44 = .ok (.bipush 6, 2) := by decide +kernel
theorem dX11_law_46 : decode cX11_law 46 = .ok (.if_icmp .ge 16, 3) := by decide +kernel
theorem dX11_law_49 : decode cX11_law 49 = .ok (.aload_n 0, 1) := by decide +kernel
theorem dX11_law_50 : decode cX11_law 50 = .ok (.getfield 35, 3) := by decide +kernel
theorem dX11_law_53 : decode cX11_law 53 = .ok (.iload_n 1, 1) := by decide +kernel
theorem dX11_law_54 : decode cX11_law 54 = .ok (.iconst 0, 1) := by decide +kernel
theorem dX11_law_55 : decode cX11_law 55 = .ok (.iastore, 1) := by decide +kernel
theorem dX11_law_56 : decode cX11_law 56 = .ok (.iinc 1 1, 3) := by decide +kernel
theorem dX11_law_59 : decode cX11_law 59 = .ok (.goto (-16), 3) := by decide +kernel
theorem dX11_law_62 : decode cX11_law 62 = .ok (.aload_n 0, 1) := by decide +kernel
theorem dX11_law_63 : decode cX11_law 63 = .ok (.invokevirtual 196, 3) := by decide +kernel
theorem dX11_law_66 : decode cX11_law 66 = .ok (.pop, 1) := by decide +kernel
theorem dX11_law_67 : decode cX11_law 67 = .ok (.aload_n 0, 1) := by decide +kernel
theorem dX11_law_68 : decode cX11_law 68 = .ok (.getfield 151, 3) := by decide +kernel
theorem dX11_law_71 : decode cX11_law 71 = .ok (.ifCond .eq 14, 3) := by decide +kernel
theorem dX11_law_74 : decode cX11_law 74 = .ok (.aload_n 0, 1) := by decide +kernel
theorem dX11_law_75 : decode cX11_law 75 = .ok (.getfield 155, 3) := by decide +kernel
theorem dX11_law_78 : decode cX11_law 78 = .ok (.aload_n 0, 1) := by decide +kernel
theorem dX11_law_79 : decode cX11_law 79 = .ok (.getfield 158, 3) := by decide +kernel
theorem dX11_law_82 : decode cX11_law 82 = .ok (.if_icmp .ge 11, 3) := by decide +kernel
theorem dX11_law_85 : decode cX11_law 85 = .ok (.bipush (-100), 2) := by decide +kernel
theorem dX11_law_87 : decode cX11_law 87 = .ok (.aload_n 0, 1) := by decide +kernel
theorem dX11_law_88 : decode cX11_law 88 = .ok (.getfield 155, 3) := by decide +kernel
theorem dX11_law_91 : decode cX11_law 91 = .ok (.isub, 1) := by decide +kernel
theorem dX11_law_92 : decode cX11_law 92 = .ok (.ireturn, 1) := by decide +kernel
theorem dX11_law_93 : decode cX11_law 93 = .ok (.iconst 0, 1) := by decide +kernel
theorem dX11_law_94 : decode cX11_law 94 = .ok (.istore_n 1, 1) := by decide +kernel
theorem dX11_law_95 : decode cX11_law 95 = .ok (.iload_n 1, 1) := by decide +kernel
theorem dX11_law_96 : decode cX11_law 96 = .ok (.aload_n 0, 1) := by decide +kernel
theorem dX11_law_97 : decode cX11_law 97 = .ok (.getfield 158, 3) := by decide +kernel
theorem dX11_law_100 : decode cX11_law 100 = .ok (.if_icmp .ge 21, 3) := by decide +kernel
theorem dX11_law_103 : decode cX11_law 103 = .ok (.aload_n 0, 1) := by decide +kernel
theorem dX11_law_104 : decode cX11_law 104 = .ok (.getfield 29, 3) := by decide +kernel
theorem dX11_law_107 : decode cX11_law 107 = .ok (.iload_n 1, 1) := by decide +kernel
theorem dX11_law_108 : decode cX11_law 108 = .ok (.aload_n 0, 1) := by decide +kernel
theorem dX11_law_109 : decode cX11_law 109 = .ok (.getfield 32, 3) := by decide +kernel
theorem dX11_law_112 : decode cX11_law 112 = .ok (.iload_n 1, 1) := by decide +kernel
theorem dX11_law_113 : decode cX11_law 113 = .ok (.iaload, 1) := by decide +kernel
theorem dX11_law_114 : decode cX11_law 114 = .ok (.iastore, 1) := by decide +kernel
theorem dX11_law_115 : decode cX11_law 115 = .ok (.iinc 1 1, 3) := by decide +kernel
theorem dX11_law_118 : decode cX11_law 118 = .ok (.goto (-23), 3) := by decide +kernel
theorem dX11_law_121 : decode cX11_law 121 = .ok (.aload_n 0, 1) := by decide +kernel
theorem dX11_law_122 : decode cX11_law 122 = .ok (.aload_n 0, 1) := by decide +kernel
theorem dX11_law_123 : decode cX11_law 123 = .ok (.getfield 158, 3) := by decide +kernel
theorem dX11_law_126 : decode cX11_law 126 = .ok (.putfield 199, 3) := by decide +kernel
theorem dX11_law_129 : decode cX11_law 129 = .ok (.aload_n 0, 1) := by decide +kernel
theorem dX11_law_130 : decode cX11_law 130 = .ok (.iconst 1, 1) := by decide +kernel
theorem dX11_law_131 : decode cX11_law 131 = .ok (.putfield 202, 3) := by decide +kernel
theorem dX11_law_134 : decode cX11_law 134 = .ok (.iconst 1, 1) := by decide +kernel
theorem dX11_law_135 : decode cX11_law 135 = .ok (.ireturn, 1) := by decide +kernel
theorem dX11_grows_0 : decode cX11_grows 0 = .ok (.aload_n 0, 1) := by decide +kernel
theorem dX11_grows_1 : decode cX11_grows 1 = .ok (.getfield 202, 3) := by decide +kernel
theorem dX11_grows_4 : decode cX11_grows 4 = .ok (.ifCond .ne 44, 3) := by decide +kernel
theorem dX11_grows_7 : decode cX11_grows 7 = .ok (.aload_n 0, 1) := by decide +kernel
theorem dX11_grows_8 : decode cX11_grows 8 = .ok (.getfield 35, 3) := by decide +kernel
theorem dX11_grows_11 : decode cX11_grows 11 = .ok (.iconst 0, 1) := by decide +kernel
theorem dX11_grows_12 : decode cX11_grows 12 = .ok (.iaload, 1) := by decide +kernel
theorem dX11_grows_13 : decode cX11_grows 13 = .ok (.iconst 4, 1) := by decide +kernel
theorem dX11_grows_14 : decode cX11_grows 14 = .ok (.idiv, 1) := by decide +kernel
theorem dX11_grows_15 : decode cX11_grows 15 = .ok (.aload_n 0, 1) := by decide +kernel
theorem dX11_grows_16 : decode cX11_grows 16 = .ok (.getfield 35, 3) := by decide +kernel
theorem dX11_grows_19 : decode cX11_grows 19 = .ok (.iconst 1, 1) := by decide +kernel
theorem dX11_grows_20 : decode cX11_grows 20 = .ok (.iaload, 1) := by decide +kernel
theorem dX11_grows_21 : decode cX11_grows 21 = .ok (.bipush 10, 2) := by decide +kernel
theorem dX11_grows_23 : decode cX11_grows 23 = .ok (.idiv, 1) := by decide +kernel
theorem dX11_grows_24 : decode cX11_grows 24 = .ok (.isub, 1) := by decide +kernel
theorem dX11_grows_25 : decode cX11_grows 25 = .ok (.aload_n 0, 1) := by decide +kernel
theorem dX11_grows_26 : decode cX11_grows 26 = .ok (.getfield 35, 3) := by decide +kernel
theorem dX11_grows_29 : decode cX11_grows 29 = .ok (.iconst 0, 1) := by decide +kernel
theorem dX11_grows_30 : decode cX11_grows 30 = .ok (.iaload, 1) := by decide +kernel
theorem dX11_grows_31 : decode cX11_grows 31 = .ok (.ifCond .le 14, 3) := by decide +kernel
theorem dX11_grows_34 : decode cX11_grows 34 = .ok (.aload_n 0, 1) := by decide +kernel
theorem dX11_grows_35 : decode cX11_grows 35 = .ok (.getfield 35, 3) := by decide +kernel
theorem dX11_grows_38 : decode cX11_grows 38 = .ok (.iconst 3, 1) := by decide +kernel
theorem dX11_grows_39 : decode cX11_grows 39 = .ok (.iaload, 1) := by decide +kernel
theorem dX11_grows_40 : decode cX11_grows 40 = .ok (.iconst 5, 1) := by decide +kernel
theorem dX11_grows_41 : decode cX11_grows 41 = .ok (.idiv, 1) := by decide +kernel
theorem dX11_grows_42 : decode cX11_grows 42 = .ok (.goto 4, 3) := by decide +kernel
theorem dX11_grows_45 : decode cX11_grows 45 = .ok (.iconst 0, 1) := by decide +kernel
theorem dX11_grows_46 : decode cX11_grows 46 = .ok (.iadd, 1) := by decide +kernel
theorem dX11_grows_47 : decode cX11_grows 47 = .ok (.ireturn, 1) := by decide +kernel
theorem dX11_grows_48 : decode cX11_grows 48 = .ok (.aload_n 0, 1) := by decide +kernel
theorem dX11_grows_49 : decode cX11_grows 49 = .ok (.aload_n 0, 1) := by decide +kernel
theorem dX11_grows_50 : decode cX11_grows 50 = .ok (.getfield 199, 3) := by decide +kernel
theorem dX11_grows_53 : decode cX11_grows 53 = .ok (.putfield 158, 3) := by decide +kernel
theorem dX11_grows_56 : decode cX11_grows 56 = .ok (.iconst 0, 1) := by decide +kernel
theorem dX11_grows_57 : decode cX11_grows 57 = .ok (.istore_n 1, 1) := by decide +kernel
theorem dX11_grows_58 : decode cX11_grows 58 = .ok (.iload_n 1, 1) := by decide +kernel
theorem dX11_grows_59 : decode cX11_grows 59 = .ok (.aload_n 0, 1) := by decide +kernel
theorem dX11_grows_60 : decode cX11_grows 60 = .ok (.getfield 158, 3) := by decide +kernel
theorem dX11_grows_63 : decode cX11_grows 63 = .ok (.if_icmp .ge 21, 3) := by decide +kernel
theorem dX11_grows_66 : decode cX11_grows 66 = .ok (.aload_n 0, 1) := by decide +kernel
theorem dX11_grows_67 : decode cX11_grows 67 = .ok (.getfield 32, 3) := by decide +kernel
theorem dX11_grows_70 : decode cX11_grows 70 = .ok (.iload_n 1, 1) := by decide +kernel
theorem dX11_grows_71 : decode cX11_grows 71 = .ok (.aload_n 0, 1) := by decide +kernel
theorem dX11_grows_72 : decode cX11_grows 72 = .ok (.getfield 29, 3) := by decide +kernel
theorem dX11_grows_75 : decode cX11_grows 75 = .ok (.iload_n 1, 1) := by decide +kernel
theorem dX11_grows_76 : decode cX11_grows 76 = .ok (.iaload, 1) := by decide +kernel
theorem dX11_grows_77 : decode cX11_grows 77 = .ok (.iastore, 1) := by decide +kernel
theorem dX11_grows_78 : decode cX11_grows 78 = .ok (.iinc 1 1, 3) := by decide +kernel
theorem dX11_grows_81 : decode cX11_grows 81 = .ok (.goto (-23), 3) := by decide +kernel
theorem dX11_grows_84 : decode cX11_grows 84 = .ok (.aload_n 0, 1) := by decide +kernel
theorem dX11_grows_85 : decode cX11_grows 85 = .ok (.invokevirtual 196, 3) := by decide +kernel
theorem dX11_grows_88 : decode cX11_grows 88 = .ok (.ireturn, 1) := by decide +kernel
theorem dX11_inAll_0 : decode cX11_inAll 0 = .ok (.iconst 0, 1) := by decide +kernel
theorem dX11_inAll_1 : decode cX11_inAll 1 = .ok (.istore_n 2, 1) := by decide +kernel
theorem dX11_inAll_2 : decode cX11_inAll 2 = .ok (.iconst 0, 1) := by decide +kernel
theorem dX11_inAll_3 : decode cX11_inAll 3 = .ok (.istore_n 3, 1) := by decide +kernel
theorem dX11_inAll_4 : decode cX11_inAll 4 = .ok (.iload_n 3, 1) := by decide +kernel
theorem dX11_inAll_5 : decode cX11_inAll 5 = .ok (.bipush 8, 2) := by decide +kernel
theorem dX11_inAll_7 : decode cX11_inAll 7 = .ok (.if_icmp .ge 15, 3) := by decide +kernel
theorem dX11_inAll_10 : decode cX11_inAll 10 = .ok (.iload_n 2, 1) := by decide +kernel
theorem dX11_inAll_11 : decode cX11_inAll 11 = .ok (.aload_n 1, 1) := by decide +kernel
theorem dX11_inAll_12 : decode cX11_inAll 12 = .ok (.iload_n 3, 1) := by decide +kernel
theorem dX11_inAll_13 : decode cX11_inAll 13 = .ok (.iaload, 1) := by decide +kernel
theorem dX11_inAll_14 : decode cX11_inAll 14 = .ok (.iadd, 1) := by decide +kernel
theorem dX11_inAll_15 : decode cX11_inAll 15 = .ok (.istore_n 2, 1) := by decide +kernel
theorem dX11_inAll_16 : decode cX11_inAll 16 = .ok (.iinc 3 1, 3) := by decide +kernel
theorem dX11_inAll_19 : decode cX11_inAll 19 = .ok (.goto (-15), 3) := by decide +kernel
theorem dX11_inAll_22 : decode cX11_inAll 22 = .ok (.iload_n 2, 1) := by decide +kernel
theorem dX11_inAll_23 : decode cX11_inAll 23 = .ok (.ireturn, 1) := by decide +kernel
theorem dX11_cook_0 : decode cX11_cook 0 = .ok (.iconst 0, 1) := by decide +kernel
theorem dX11_cook_1 : decode cX11_cook 1 = .ok (.istore_n 3, 1) := by decide +kernel
theorem dX11_cook_2 : decode cX11_cook 2 = .ok (.iload_n 3, 1) := by decide +kernel
theorem dX11_cook_3 : decode cX11_cook 3 = .ok (.iconst 5, 1) := by decide +kernel
theorem dX11_cook_4 : decode cX11_cook 4 = .ok (.if_icmp .ge 134, 3) := by decide +kernel
theorem dX11_cook_7 : decode cX11_cook 7 = .ok (.aload_n 0, 1) := by decide +kernel
theorem dX11_cook_8 : decode cX11_cook 8 = .ok (.getfield 35, 3) := by decide +kernel
theorem dX11_cook_11 : decode cX11_cook 11 = .ok (.iconst 0, 1) := by decide +kernel
theorem dX11_cook_12 : decode cX11_cook 12 = .ok (.iconst 0, 1) := by decide +kernel
theorem dX11_cook_13 : decode cX11_cook 13 = .ok (.iastore, 1) := by decide +kernel
theorem dX11_cook_14 : decode cX11_cook 14 = .ok (.iconst 0, 1) := by decide +kernel
theorem dX11_cook_15 : decode cX11_cook 15 = .ok (.istore 4, 2) := by decide +kernel
theorem dX11_cook_17 : decode cX11_cook 17 = .ok (.iload 4, 2) := by decide +kernel
theorem dX11_cook_19 : decode cX11_cook 19 = .ok (.bipush 8, 2) := by decide +kernel
theorem dX11_cook_21 : decode cX11_cook 21 = .ok (.if_icmp .ge 34, 3) := by decide +kernel
theorem dX11_cook_24 : decode cX11_cook 24 = .ok (.aload_n 0, 1) := by decide +kernel
theorem dX11_cook_25 : decode cX11_cook 25 = .ok (.getfield 35, 3) := by decide +kernel
theorem dX11_cook_28 : decode cX11_cook 28 = .ok (.iconst 0, 1) := by decide +kernel
theorem dX11_cook_29 : decode cX11_cook 29 = .ok (.dup2, 1) := by decide +kernel
theorem dX11_cook_30 : decode cX11_cook 30 = .ok (.iaload, 1) := by decide +kernel
theorem dX11_cook_31 : decode cX11_cook 31 = .ok (.aload_n 1, 1) := by decide +kernel
theorem dX11_cook_32 : decode cX11_cook 32 = .ok (.iload 4, 2) := by decide +kernel
theorem dX11_cook_34 : decode cX11_cook 34 = .ok (.iaload, 1) := by decide +kernel
theorem dX11_cook_35 : decode cX11_cook 35 = .ok (.aload_n 0, 1) := by decide +kernel
theorem dX11_cook_36 : decode cX11_cook 36 = .ok (.getfield 13, 3) := by decide +kernel
theorem dX11_cook_39 : decode cX11_cook 39 = .ok (.iconst 5, 1) := by decide +kernel
theorem dX11_cook_40 : decode cX11_cook 40 = .ok (.iload 4, 2) := by decide +kernel
theorem dX11_cook_42 : decode cX11_cook 42 = .ok (.imul, 1) := by decide +kernel
theorem dX11_cook_43 : decode cX11_cook 43 = .ok (.iload_n 3, 1) := by decide +kernel
theorem dX11_cook_44 : decode cX11_cook 44 = .ok (.iadd, 1) := by decide +kernel
theorem dX11_cook_45 : decode cX11_cook 45 = .ok (.iaload, 1) := by decide +kernel
theorem dX11_cook_46 : decode cX11_cook 46 = .ok (.imul, 1) := by decide +kernel
theorem dX11_cook_47 : decode cX11_cook 47 = .ok (.iadd, 1) := by decide +kernel
theorem dX11_cook_48 : decode cX11_cook 48 = .ok (.iastore, 1) := by decide +kernel
theorem dX11_cook_49 : decode cX11_cook 49 = .ok (.iinc 4 1, 3) := by decide +kernel
theorem dX11_cook_52 : decode cX11_cook 52 = .ok (.goto (-35), 3) := by decide +kernel
theorem dX11_cook_55 : decode cX11_cook 55 = .ok (.aload_n 0, 1) := by decide +kernel
theorem dX11_cook_56 : decode cX11_cook 56 = .ok (.getfield 35, 3) := by decide +kernel
theorem dX11_cook_59 : decode cX11_cook 59 = .ok (.iconst 1, 1) := by decide +kernel
theorem dX11_cook_60 : decode cX11_cook 60 = .ok (.aload_n 1, 1) := by decide +kernel
theorem dX11_cook_61 : decode cX11_cook 61 = .ok (.bipush 9, 2) := by decide +kernel
theorem dX11_cook_63 : decode cX11_cook 63 = .ok (.iload_n 3, 1) := by decide +kernel
theorem dX11_cook_64 : decode cX11_cook 64 = .ok (.iadd, 1) := by decide +kernel
theorem dX11_cook_65 : decode cX11_cook 65 = .ok (.iaload, 1) := by decide +kernel
theorem dX11_cook_66 : decode cX11_cook 66 = .ok (.iastore, 1) := by decide +kernel
theorem dX11_cook_67 : decode cX11_cook 67 = .ok (.aload_n 0, 1) := by decide +kernel
theorem dX11_cook_68 : decode cX11_cook 68 = .ok (.getfield 35, 3) := by decide +kernel
theorem dX11_cook_71 : decode cX11_cook 71 = .ok (.iconst 2, 1) := by decide +kernel
theorem dX11_cook_72 : decode cX11_cook 72 = .ok (.aload_n 1, 1) := by decide +kernel
theorem dX11_cook_73 : decode cX11_cook 73 = .ok (.bipush 8, 2) := by decide +kernel
theorem dX11_cook_75 : decode cX11_cook 75 = .ok (.iaload, 1) := by decide +kernel
theorem dX11_cook_76 : decode cX11_cook 76 = .ok (.iastore, 1) := by decide +kernel
theorem dX11_cook_77 : decode cX11_cook 77 = .ok (.aload_n 0, 1) := by decide +kernel
theorem dX11_cook_78 : decode cX11_cook 78 = .ok (.getfield 35, 3) := by decide +kernel
theorem dX11_cook_81 : decode cX11_cook 81 = .ok (.iconst 3, 1) := by decide +kernel
theorem dX11_cook_82 : decode cX11_cook 82 = .ok (.iload_n 2, 1) := by decide +kernel
theorem dX11_cook_83 : decode cX11_cook 83 = .ok (.iastore, 1) := by decide +kernel
theorem dX11_cook_84 : decode cX11_cook 84 = .ok (.aload_n 0, 1) := by decide +kernel
theorem dX11_cook_85 : decode cX11_cook 85 = .ok (.getfield 35, 3) := by decide +kernel
theorem dX11_cook_88 : decode cX11_cook 88 = .ok (.iconst 4, 1) := by decide +kernel
theorem dX11_cook_89 : decode cX11_cook 89 = .ok (.iload_n 3, 1) := by decide +kernel
theorem dX11_cook_90 : decode cX11_cook 90 = .ok (.iastore, 1) := by decide +kernel
theorem dX11_cook_91 : decode cX11_cook 91 = .ok (.aload_n 0, 1) := by decide +kernel
theorem dX11_cook_92 : decode cX11_cook 92 = .ok (.getfield 35, 3) := by decide +kernel
theorem dX11_cook_95 : decode cX11_cook 95 = .ok (.iconst 5, 1) := by decide +kernel
theorem dX11_cook_96 : decode cX11_cook 96 = .ok (.aload_n 0, 1) := by decide +kernel
theorem dX11_cook_97 : decode cX11_cook 97 = .ok (.aload_n 1, 1) := by decide +kernel
theorem dX11_cook_98 : decode cX11_cook 98 = .ok (.invokevirtual 205, 3) := by decide +kernel
theorem dX11_cook_101 : decode cX11_cook 101 = .ok (.iastore, 1) := by decide +kernel
theorem dX11_cook_102 : decode cX11_cook 102 = .ok (.aload_n 0, 1) := by decide +kernel
theorem dX11_cook_103 : decode cX11_cook 103 = .ok (.getfield 42, 3) := by decide +kernel
theorem dX11_cook_106 : decode cX11_cook 106 = .ok (.iload_n 3, 1) := by decide +kernel
theorem dX11_cook_107 : decode cX11_cook 107 = .ok (.aload_n 1, 1) := by decide +kernel
theorem dX11_cook_108 : decode cX11_cook 108 = .ok (.bipush 9, 2) := by decide +kernel
theorem dX11_cook_110 : decode cX11_cook 110 = .ok (.iload_n 3, 1) := by decide +kernel
theorem dX11_cook_111 : decode cX11_cook 111 = .ok (.iadd, 1) := by decide +kernel
theorem dX11_cook_112 : decode cX11_cook 112 = .ok (.iaload, 1) := by decide +kernel
theorem dX11_cook_113 : decode cX11_cook 113 = .ok (.aload_n 0, 1) := by decide +kernel
theorem dX11_cook_114 : decode cX11_cook 114 = .ok (.invokevirtual 209, 3) := by decide +kernel
theorem dX11_cook_117 : decode cX11_cook 117 = .ok (.bipush (-20), 2) := by decide +kernel
theorem dX11_cook_119 : decode cX11_cook 119 = .ok (.bipush 20, 2) := by decide +kernel
theorem dX11_cook_121 : decode cX11_cook 121 = .ok (.invokestatic 212, 3) := by decide +kernel
theorem dX11_cook_124 : decode cX11_cook 124 = .ok (.iadd, 1) := by decide +kernel
theorem dX11_cook_125 : decode cX11_cook 125 = .ok (.iconst 0, 1) := by decide +kernel
theorem dX11_cook_126 : decode cX11_cook 126 = .ok (.bipush 99, 2) := by decide +kernel
theorem dX11_cook_128 : decode cX11_cook 128 = .ok (.invokestatic 212, 3) := by decide +kernel
theorem dX11_cook_131 : decode cX11_cook 131 = .ok (.iastore, 1) := by decide +kernel
theorem dX11_cook_132 : decode cX11_cook 132 = .ok (.iinc 3 1, 3) := by decide +kernel
theorem dX11_cook_135 : decode cX11_cook 135 = .ok (.goto (-133), 3) := by decide +kernel
theorem dX11_cook_138 : decode cX11_cook 138 = .ok (.iconst 0, 1) := by decide +kernel
theorem dX11_cook_139 : decode cX11_cook 139 = .ok (.istore_n 3, 1) := by decide +kernel
theorem dX11_cook_140 : decode cX11_cook 140 = .ok (.iload_n 3, 1) := by decide +kernel
theorem dX11_cook_141 : decode cX11_cook 141 = .ok (.iconst 5, 1) := by decide +kernel
theorem dX11_cook_142 : decode cX11_cook 142 = .ok (.if_icmp .ge 21, 3) := by decide +kernel
theorem dX11_cook_145 : decode cX11_cook 145 = .ok (.aload_n 1, 1) := by decide +kernel
theorem dX11_cook_146 : decode cX11_cook 146 = .ok (.bipush 9, 2) := by decide +kernel
theorem dX11_cook_148 : decode cX11_cook 148 = .ok (.iload_n 3, 1) := by decide +kernel
theorem dX11_cook_149 : decode cX11_cook 149 = .ok (.iadd, 1) := by decide +kernel
theorem dX11_cook_150 : decode cX11_cook 150 = .ok (.aload_n 0, 1) := by decide +kernel
theorem dX11_cook_151 : decode cX11_cook 151 = .ok (.getfield 42, 3) := by decide +kernel
theorem dX11_cook_154 : decode cX11_cook 154 = .ok (.iload_n 3, 1) := by decide +kernel
theorem dX11_cook_155 : decode cX11_cook 155 = .ok (.iaload, 1) := by decide +kernel
theorem dX11_cook_156 : decode cX11_cook 156 = .ok (.iastore, 1) := by decide +kernel
theorem dX11_cook_157 : decode cX11_cook 157 = .ok (.iinc 3 1, 3) := by decide +kernel
theorem dX11_cook_160 : decode cX11_cook 160 = .ok (.goto (-20), 3) := by decide +kernel
theorem dX11_cook_163 : decode cX11_cook 163 = .ok (.aload_n 1, 1) := by decide +kernel
theorem dX11_cook_164 : decode cX11_cook 164 = .ok (.bipush 8, 2) := by decide +kernel
theorem dX11_cook_166 : decode cX11_cook 166 = .ok (.bipush 99, 2) := by decide +kernel
theorem dX11_cook_168 : decode cX11_cook 168 = .ok (.aload_n 1, 1) := by decide +kernel
theorem dX11_cook_169 : decode cX11_cook 169 = .ok (.bipush 8, 2) := by decide +kernel
theorem dX11_cook_171 : decode cX11_cook 171 = .ok (.iaload, 1) := by decide +kernel
theorem dX11_cook_172 : decode cX11_cook 172 = .ok (.iconst 1, 1) := by decide +kernel
theorem dX11_cook_173 : decode cX11_cook 173 = .ok (.iadd, 1) := by decide +kernel
theorem dX11_cook_174 : decode cX11_cook 174 = .ok (.invokestatic 112, 3) := by decide +kernel
theorem dX11_cook_177 : decode cX11_cook 177 = .ok (.iastore, 1) := by decide +kernel
theorem dX11_cook_178 : decode cX11_cook 178 = .ok (.return_, 1) := by decide +kernel
theorem dX11_begin_0 : decode cX11_begin 0 = .ok (.iconst 0, 1) := by decide +kernel
theorem dX11_begin_1 : decode cX11_begin 1 = .ok (.istore_n 1, 1) := by decide +kernel
theorem dX11_begin_2 : decode cX11_begin 2 = .ok (.iload_n 1, 1) := by decide +kernel
theorem dX11_begin_3 : decode cX11_begin 3 = .ok (.bipush 14, 2) := by decide +kernel
theorem dX11_begin_5 : decode cX11_begin 5 = .ok (.if_icmp .ge 31, 3) := by decide +kernel
theorem dX11_begin_8 : decode cX11_begin 8 = .ok (.aload_n 0, 1) := by decide +kernel
theorem dX11_begin_9 : decode cX11_begin 9 = .ok (.getfield 48, 3) := by decide +kernel
theorem dX11_begin_12 : decode cX11_begin 12 = .ok (.iload_n 1, 1) := by decide +kernel
theorem dX11_begin_13 : decode cX11_begin 13 = .ok (.iload_n 1, 1) := by decide +kernel
theorem dX11_begin_14 : decode cX11_begin 14 = .ok (.bipush 8, 2) := by decide +kernel
theorem dX11_begin_16 : decode cX11_begin 16 = .ok (.if_icmp .ge 12, 3) := by decide +kernel
theorem dX11_begin_19 : decode cX11_begin 19 = .ok (.aload_n 0, 1) := by decide +kernel
theorem dX11_begin_20 : decode cX11_begin 20 = .ok (.getfield 45, 3) := by decide +kernel
theorem dX11_begin_23 : decode cX11_begin 23 = .ok (.iload_n 1, 1) := by decide +kernel
theorem dX11_begin_24 : decode cX11_begin 24 = .ok (.iaload, 1) := by decide +kernel
theorem dX11_begin_25 : decode cX11_begin 25 = .ok (.goto 4, 3) := by decide +kernel
theorem dX11_begin_28 : decode cX11_begin 28 = .ok (.iconst 0, 1) := by decide +kernel
theorem dX11_begin_29 : decode cX11_begin 29 = .ok (.iastore, 1) := by decide +kernel
theorem dX11_begin_30 : decode cX11_begin 30 = .ok (.iinc 1 1, 3) := by decide +kernel
theorem dX11_begin_33 : decode cX11_begin 33 = .ok (.goto (-31), 3) := by decide +kernel
theorem dX11_begin_36 : decode cX11_begin 36 = .ok (.return_, 1) := by decide +kernel
theorem dX11_boil_0 : decode cX11_boil 0 = .ok (.iconst 0, 1) := by decide +kernel
theorem dX11_boil_1 : decode cX11_boil 1 = .ok (.istore_n 2, 1) := by decide +kernel
theorem dX11_boil_2 : decode cX11_boil 2 = .ok (.iload_n 2, 1) := by decide +kernel
theorem dX11_boil_3 : decode cX11_boil 3 = .ok (.iload_n 1, 1) := by decide +kernel
theorem dX11_boil_4 : decode cX11_boil 4 = .ok (.if_icmp .ge 24, 3) := by decide +kernel
theorem dX11_boil_7 : decode cX11_boil 7 = .ok (.aload_n 0, 1) := by decide +kernel
theorem dX11_boil_8 : decode cX11_boil 8 = .ok (.aload_n 0, 1) := by decide +kernel
theorem dX11_boil_9 : decode cX11_boil 9 = .ok (.getfield 48, 3) := by decide +kernel
theorem dX11_boil_12 : decode cX11_boil 12 = .ok (.aload_n 0, 1) := by decide +kernel
theorem dX11_boil_13 : decode cX11_boil 13 = .ok (.getfield 13, 3) := by decide +kernel
theorem dX11_boil_16 : decode cX11_boil 16 = .ok (.bipush 104, 2) := by decide +kernel
theorem dX11_boil_18 : decode cX11_boil 18 = .ok (.iaload, 1) := by decide +kernel
theorem dX11_boil_19 : decode cX11_boil 19 = .ok (.invokevirtual 216, 3) := by decide +kernel
theorem dX11_boil_22 : decode cX11_boil 22 = .ok (.iinc 2 1, 3) := by decide +kernel
theorem dX11_boil_25 : decode cX11_boil 25 = .ok (.goto (-23), 3) := by decide +kernel
theorem dX11_boil_28 : decode cX11_boil 28 = .ok (.return_, 1) := by decide +kernel
theorem dX11_ofTastes_0 : decode cX11_ofTastes 0 = .ok (.iload_n 1, 1) := by decide +kernel
theorem dX11_ofTastes_1 : decode cX11_ofTastes 1 = .ok (.iconst 5, 1) := by decide +kernel
theorem dX11_ofTastes_2 : decode cX11_ofTastes 2 = .ok (.if_icmp .ge 10, 3) := by decide +kernel
theorem dX11_ofTastes_5 : decode cX11_ofTastes 5 = .ok (.aload_n 0, 1) := by decide +kernel
theorem dX11_ofTastes_6 : decode cX11_ofTastes 6 = .ok (.bipush 9, 2) := by decide +kernel
theorem dX11_ofTastes_8 : decode cX11_ofTastes 8 = .ok (.iload_n 1, 1) := by decide +kernel
theorem dX11_ofTastes_9 : decode cX11_ofTastes 9 = .ok (.iadd, 1) := by decide +kernel
theorem dX11_ofTastes_10 : decode cX11_ofTastes 10 = .ok (.iaload, 1) := by decide +kernel
theorem dX11_ofTastes_11 : decode cX11_ofTastes 11 = .ok (.ireturn, 1) := by decide +kernel
theorem dX11_ofTastes_12 : decode cX11_ofTastes 12 = .ok (.iconst 0, 1) := by decide +kernel
theorem dX11_ofTastes_13 : decode cX11_ofTastes 13 = .ok (.istore_n 2, 1) := by decide +kernel
theorem dX11_ofTastes_14 : decode cX11_ofTastes 14 = .ok (.iconst 0, 1) := by decide +kernel
theorem dX11_ofTastes_15 : decode cX11_ofTastes 15 = .ok (.istore_n 3, 1) := by decide +kernel
theorem dX11_ofTastes_16 : decode cX11_ofTastes 16 = .ok (.iload_n 3, 1) := by decide +kernel
theorem dX11_ofTastes_17 : decode cX11_ofTastes 17 = .ok (.iconst 5, 1) := by decide +kernel
theorem dX11_ofTastes_18 : decode cX11_ofTastes 18 = .ok (.if_icmp .ge 18, 3) := by decide +kernel
theorem dX11_ofTastes_21 : decode cX11_ofTastes 21 = .ok (.iload_n 2, 1) := by decide +kernel
theorem dX11_ofTastes_22 : decode cX11_ofTastes 22 = .ok (.aload_n 0, 1) := by decide +kernel
theorem dX11_ofTastes_23 : decode cX11_ofTastes 23 = .ok (.bipush 9, 2) := by decide +kernel
theorem dX11_ofTastes_25 : decode cX11_ofTastes 25 = .ok (.iload_n 3, 1) := by decide +kernel
theorem dX11_ofTastes_26 : decode cX11_ofTastes 26 = .ok (.iadd, 1) := by decide +kernel
theorem dX11_ofTastes_27 : decode cX11_ofTastes 27 = .ok (.iaload, 1) := by decide +kernel
theorem dX11_ofTastes_28 : decode cX11_ofTastes 28 = .ok (.iadd, 1) := by decide +kernel
theorem dX11_ofTastes_29 : decode cX11_ofTastes 29 = .ok (.istore_n 2, 1) := by decide +kernel
theorem dX11_ofTastes_30 : decode cX11_ofTastes 30 = .ok (.iinc 3 1, 3) := by decide +kernel
theorem dX11_ofTastes_33 : decode cX11_ofTastes 33 = .ok (.goto (-17), 3) := by decide +kernel
theorem dX11_ofTastes_36 : decode cX11_ofTastes 36 = .ok (.iload_n 2, 1) := by decide +kernel
theorem dX11_ofTastes_37 : decode cX11_ofTastes 37 = .ok (.ireturn, 1) := by decide +kernel
theorem dX11_far_0 : decode cX11_far 0 = .ok (.iconst 0, 1) := by decide +kernel
theorem dX11_far_1 : decode cX11_far 1 = .ok (.istore_n 2, 1) := by decide +kernel
theorem dX11_far_2 : decode cX11_far 2 = .ok (.iconst 0, 1) := by decide +kernel
theorem dX11_far_3 : decode cX11_far 3 = .ok (.istore_n 3, 1) := by decide +kernel
theorem dX11_far_4 : decode cX11_far 4 = .ok (.iload_n 3, 1) := by decide +kernel
theorem dX11_far_5 : decode cX11_far 5 = .ok (.iconst 5, 1) := by decide +kernel
theorem dX11_far_6 : decode cX11_far 6 = .ok (.if_icmp .ge 28, 3) := by decide +kernel
theorem dX11_far_9 : decode cX11_far 9 = .ok (.iload_n 2, 1) := by decide +kernel
theorem dX11_far_10 : decode cX11_far 10 = .ok (.aload_n 1, 1) := by decide +kernel
theorem dX11_far_11 : decode cX11_far 11 = .ok (.bipush 9, 2) := by decide +kernel
theorem dX11_far_13 : decode cX11_far 13 = .ok (.iload_n 3, 1) := by decide +kernel
theorem dX11_far_14 : decode cX11_far 14 = .ok (.iadd, 1) := by decide +kernel
theorem dX11_far_15 : decode cX11_far 15 = .ok (.iaload, 1) := by decide +kernel
theorem dX11_far_16 : decode cX11_far 16 = .ok (.aload_n 0, 1) := by decide +kernel
theorem dX11_far_17 : decode cX11_far 17 = .ok (.getfield 51, 3) := by decide +kernel
theorem dX11_far_20 : decode cX11_far 20 = .ok (.iload_n 3, 1) := by decide +kernel
theorem dX11_far_21 : decode cX11_far 21 = .ok (.iaload, 1) := by decide +kernel
theorem dX11_far_22 : decode cX11_far 22 = .ok (.isub, 1) := by decide +kernel
theorem dX11_far_23 : decode cX11_far 23 = .ok (.invokestatic 220, 3) := by decide +kernel
theorem dX11_far_26 : decode cX11_far 26 = .ok (.iadd, 1) := by decide +kernel
theorem dX11_far_27 : decode cX11_far 27 = .ok (.istore_n 2, 1) := by decide +kernel
theorem dX11_far_28 : decode cX11_far 28 = .ok (.iinc 3 1, 3) := by decide +kernel
theorem dX11_far_31 : decode cX11_far 31 = .ok (.goto (-27), 3) := by decide +kernel
theorem dX11_far_34 : decode cX11_far 34 = .ok (.iload_n 2, 1) := by decide +kernel
theorem dX11_far_35 : decode cX11_far 35 = .ok (.ireturn, 1) := by decide +kernel
theorem dX11_isShelf_0 : decode cX11_isShelf 0 = .ok (.iload_n 0, 1) := by decide +kernel
theorem dX11_isShelf_1 : decode cX11_isShelf 1 = .ok (.iconst 0, 1) := by decide +kernel
theorem dX11_isShelf_2 : decode cX11_isShelf 2 = .ok (.iconst 5, 1) := by decide +kernel
theorem dX11_isShelf_3 : decode cX11_isShelf 3 = .ok (.invokestatic 125, 3) := by decide +kernel
theorem dX11_isShelf_6 : decode cX11_isShelf 6 = .ok (.ireturn, 1) := by decide +kernel
theorem dX11_bytesIn_0 : decode cX11_bytesIn 0 = .ok (.aload_n 0, 1) := by decide +kernel
theorem dX11_bytesIn_1 : decode cX11_bytesIn 1 = .ok (.getfield 54, 3) := by decide +kernel
theorem dX11_bytesIn_4 : decode cX11_bytesIn 4 = .ok (.iload_n 1, 1) := by decide +kernel
theorem dX11_bytesIn_5 : decode cX11_bytesIn 5 = .ok (.iaload, 1) := by decide +kernel
theorem dX11_bytesIn_6 : decode cX11_bytesIn 6 = .ok (.iconst (-1), 1) := by decide +kernel
theorem dX11_bytesIn_7 : decode cX11_bytesIn 7 = .ok (.if_icmp .ne 8, 3) := by decide +kernel
theorem dX11_bytesIn_10 : decode cX11_bytesIn 10 = .ok (.bipush (-11), 2) := by decide +kernel
theorem dX11_bytesIn_12 : decode cX11_bytesIn 12 = .ok (.goto 18, 3) := by decide +kernel
theorem dX11_bytesIn_15 : decode cX11_bytesIn 15 = .ok (.aload_n 0, 1) := by decide +kernel
theorem dX11_bytesIn_16 : decode cX11_bytesIn 16 = .ok (.getfield 54, 3) := by decide +kernel
theorem dX11_bytesIn_19 : decode cX11_bytesIn 19 = .ok (.iload_n 1, 1) := by decide +kernel
theorem dX11_bytesIn_20 : decode cX11_bytesIn 20 = .ok (.iaload, 1) := by decide +kernel
theorem dX11_bytesIn_21 : decode cX11_bytesIn 21 = .ok (.ifCond .eq 8, 3) := by decide +kernel
theorem dX11_bytesIn_24 : decode cX11_bytesIn 24 = .ok (.bipush (-12), 2) := by decide +kernel
theorem dX11_bytesIn_26 : decode cX11_bytesIn 26 = .ok (.goto 4, 3) := by decide +kernel
theorem dX11_bytesIn_29 : decode cX11_bytesIn 29 = .ok (.iconst 1, 1) := by decide +kernel
theorem dX11_bytesIn_30 : decode cX11_bytesIn 30 = .ok (.ireturn, 1) := by decide +kernel
theorem dX11_byteAt_0 : decode cX11_byteAt 0 = .ok (.iload_n 2, 1) := by decide +kernel
theorem dX11_byteAt_1 : decode cX11_byteAt 1 = .ok (.aload_n 0, 1) := by decide +kernel
theorem dX11_byteAt_2 : decode cX11_byteAt 2 = .ok (.getfield 57, 3) := by decide +kernel
theorem dX11_byteAt_5 : decode cX11_byteAt 5 = .ok (.iload_n 1, 1) := by decide +kernel
theorem dX11_byteAt_6 : decode cX11_byteAt 6 = .ok (.iaload, 1) := by decide +kernel
theorem dX11_byteAt_7 : decode cX11_byteAt 7 = .ok (.if_icmp .ge 18, 3) := by decide +kernel
theorem dX11_byteAt_10 : decode cX11_byteAt 10 = .ok (.aload_n 0, 1) := by decide +kernel
theorem dX11_byteAt_11 : decode cX11_byteAt 11 = .ok (.getfield 60, 3) := by decide +kernel
theorem dX11_byteAt_14 : decode cX11_byteAt 14 = .ok (.bipush 60, 2) := by decide +kernel
theorem dX11_byteAt_16 : decode cX11_byteAt 16 = .ok (.iload_n 1, 1) := by decide +kernel
theorem dX11_byteAt_17 : decode cX11_byteAt 17 = .ok (.imul, 1) := by decide +kernel
theorem dX11_byteAt_18 : decode cX11_byteAt 18 = .ok (.iload_n 2, 1) := by decide +kernel
theorem dX11_byteAt_19 : decode cX11_byteAt 19 = .ok (.iadd, 1) := by decide +kernel
theorem dX11_byteAt_20 : decode cX11_byteAt 20 = .ok (.laload, 1) := by decide +kernel
theorem dX11_byteAt_21 : decode cX11_byteAt 21 = .ok (.l2i, 1) := by decide +kernel
theorem dX11_byteAt_22 : decode cX11_byteAt 22 = .ok (.goto 4, 3) := by decide +kernel
theorem dX11_byteAt_25 : decode cX11_byteAt 25 = .ok (.iconst (-1), 1) := by decide +kernel
theorem dX11_byteAt_26 : decode cX11_byteAt 26 = .ok (.ireturn, 1) := by decide +kernel
theorem dX11_readMix_0 : decode cX11_readMix 0 = .ok (.iconst 1, 1) := by decide +kernel
theorem dX11_readMix_1 : decode cX11_readMix 1 = .ok (.istore_n 2, 1) := by decide +kernel
theorem dX11_readMix_2 : decode cX11_readMix 2 = .ok (.iconst 0, 1) := by decide +kernel
theorem dX11_readMix_3 : decode cX11_readMix 3 = .ok (.istore_n 3, 1) := by decide +kernel
theorem dX11_readMix_4 : decode cX11_readMix 4 = .ok (.iload_n 3, 1) := by decide +kernel
theorem dX11_readMix_5 : decode cX11_readMix 5 = .ok (.bipush 8, 2) := by decide +kernel
theorem dX11_readMix_7 : decode cX11_readMix 7 = .ok (.if_icmp .ge 54, 3) := by decide +kernel
theorem dX11_readMix_10 : decode cX11_readMix 10 = .ok (.iload_n 2, 1) := by decide +kernel
theorem dX11_readMix_11 : decode cX11_readMix 11 = .ok (.ifCond .eq 22, 3) := by decide +kernel
theorem dX11_readMix_14 : decode cX11_readMix 14 = .ok (.aload_n 0, 1) := by decide +kernel
theorem dX11_readMix_15 : decode cX11_readMix 15 = .ok (.iload_n 1, 1) := by decide +kernel
theorem dX11_readMix_16 : decode cX11_readMix 16 = .ok (.iload_n 3, 1) := by decide +kernel
theorem dX11_readMix_17 : decode cX11_readMix 17 = .ok (.invokevirtual 224, 3) := by decide +kernel
theorem dX11_readMix_20 : decode cX11_readMix 20 = .ok (.iconst 0, 1) := by decide +kernel
theorem dX11_readMix_21 : decode cX11_readMix 21 = .ok (.bipush 9, 2) := by decide +kernel
theorem dX11_readMix_23 : decode cX11_readMix 23 = .ok (.invokestatic 125, 3) := by decide +kernel
theorem dX11_readMix_26 : decode cX11_readMix 26 = .ok (.ifCond .eq 7, 3) := by decide +kernel
theorem dX11_readMix_29 : decode cX11_readMix 29 = .ok (.iconst 1, 1) := by decide +kernel
theorem dX11_readMix_30 : decode cX11_readMix 30 = .ok (.goto 4, 3) := by decide +kernel
theorem dX11_readMix_33 : decode cX11_readMix 33 = .ok (.iconst 0, 1) := by decide +kernel
theorem dX11_readMix_34 : decode cX11_readMix 34 = .ok (.istore_n 2, 1) := by decide +kernel
theorem dX11_readMix_35 : decode cX11_readMix 35 = .ok (.aload_n 0, 1) := by decide +kernel
theorem dX11_readMix_36 : decode cX11_readMix 36 = .ok (.getfield 45, 3) := by decide +kernel
theorem dX11_readMix_39 : decode cX11_readMix 39 = .ok (.iload_n 3, 1) := by decide +kernel
theorem dX11_readMix_40 : decode cX11_readMix 40 = .ok (.iload_n 2, 1) := by decide +kernel
theorem dX11_readMix_41 : decode cX11_readMix 41 = .ok (.ifCond .eq 12, 3) := by decide +kernel
theorem dX11_readMix_44 : decode cX11_readMix 44 = .ok (.aload_n 0, 1) := by decide +kernel
theorem dX11_readMix_45 : decode cX11_readMix 45 = .ok (.iload_n 1, 1) := by decide +kernel
theorem dX11_readMix_46 : decode cX11_readMix 46 = .ok (.iload_n 3, 1) := by decide +kernel
theorem dX11_readMix_47 : decode cX11_readMix 47 = .ok (.invokevirtual 224, 3) := by decide +kernel
theorem dX11_readMix_50 : decode cX11_readMix 50 = .ok (.goto 4, 3) := by decide +kernel
theorem dX11_readMix_53 : decode cX11_readMix 53 = .ok (.iconst 0, 1) := by decide +kernel
theorem dX11_readMix_54 : decode cX11_readMix 54 = .ok (.iastore, 1) := by decide +kernel
theorem dX11_readMix_55 : decode cX11_readMix 55 = .ok (.iinc 3 1, 3) := by decide +kernel
theorem dX11_readMix_58 : decode cX11_readMix 58 = .ok (.goto (-54), 3) := by decide +kernel
theorem dX11_readMix_61 : decode cX11_readMix 61 = .ok (.return_, 1) := by decide +kernel
theorem dX11_readSoup_0 : decode cX11_readSoup 0 = .ok (.iconst 1, 1) := by decide +kernel
theorem dX11_readSoup_1 : decode cX11_readSoup 1 = .ok (.istore_n 3, 1) := by decide +kernel
theorem dX11_readSoup_2 : decode cX11_readSoup 2 = .ok (.iconst 0, 1) := by decide +kernel
theorem dX11_readSoup_3 : decode cX11_readSoup 3 = .ok (.istore 4, 2) := by decide +kernel
theorem dX11_readSoup_5 : decode cX11_readSoup 5 = .ok (.iload 4, 2) := by decide +kernel
theorem dX11_readSoup_7 : decode cX11_readSoup 7 = .ok (.iconst 5, 1) := by decide +kernel
theorem dX11_readSoup_8 : decode cX11_readSoup 8 = .ok (.if_icmp .ge 51, 3) := by decide +kernel
theorem dX11_readSoup_11 : decode cX11_readSoup 11 = .ok (.aload_n 0, 1) := by decide +kernel
theorem dX11_readSoup_12 : decode cX11_readSoup 12 = .ok (.getfield 51, 3) := by decide +kernel
theorem dX11_readSoup_15 : decode cX11_readSoup 15 = .ok (.iload 4, 2) := by decide +kernel
theorem dX11_readSoup_17 : decode cX11_readSoup 17 = .ok (.aload_n 0, 1) := by decide +kernel
theorem dX11_readSoup_18 : decode cX11_readSoup 18 = .ok (.iload_n 1, 1) := by decide +kernel
theorem dX11_readSoup_19 : decode cX11_readSoup 19 = .ok (.iload_n 2, 1) := by decide +kernel
theorem dX11_readSoup_20 : decode cX11_readSoup 20 = .ok (.iload 4, 2) := by decide +kernel
theorem dX11_readSoup_22 : decode cX11_readSoup 22 = .ok (.iadd, 1) := by decide +kernel
theorem dX11_readSoup_23 : decode cX11_readSoup 23 = .ok (.invokevirtual 224, 3) := by decide +kernel
theorem dX11_readSoup_26 : decode cX11_readSoup 26 = .ok (.iastore, 1) := by decide +kernel
theorem dX11_readSoup_27 : decode cX11_readSoup 27 = .ok (.iload_n 3, 1) := by decide +kernel
theorem dX11_readSoup_28 : decode cX11_readSoup 28 = .ok (.ifCond .eq 23, 3) := by decide +kernel
theorem dX11_readSoup_31 : decode cX11_readSoup 31 = .ok (.aload_n 0, 1) := by decide +kernel
theorem dX11_readSoup_32 : decode cX11_readSoup 32 = .ok (.getfield 51, 3) := by decide +kernel
theorem dX11_readSoup_35 : decode cX11_readSoup 35 = .ok (.iload 4, 2) := by decide +kernel
theorem dX11_readSoup_37 : decode cX11_readSoup 37 = .ok (.iaload, 1) := by decide +kernel
theorem dX11_readSoup_38 : decode cX11_readSoup 38 = .ok (.iconst 0, 1) := by decide +kernel
theorem dX11_readSoup_39 : decode cX11_readSoup 39 = .ok (.bipush 99, 2) := by decide +kernel
theorem dX11_readSoup_41 : decode cX11_readSoup 41 = .ok (.invokestatic 125, 3) := by decide +kernel
theorem dX11_readSoup_44 : decode cX11_readSoup 44 = .ok (.ifCond .eq 7, 3) := by decide +kernel
theorem dX11_readSoup_47 : decode cX11_readSoup 47 = .ok (.iconst 1, 1) := by decide +kernel
theorem dX11_readSoup_48 : decode cX11_readSoup 48 = .ok (.goto 4, 3) := by decide +kernel
theorem dX11_readSoup_51 : decode cX11_readSoup 51 = .ok (.iconst 0, 1) := by decide +kernel
theorem dX11_readSoup_52 : decode cX11_readSoup 52 = .ok (.istore_n 3, 1) := by decide +kernel
theorem dX11_readSoup_53 : decode cX11_readSoup 53 = .ok (.iinc 4 1, 3) := by decide +kernel
theorem dX11_readSoup_56 : decode cX11_readSoup 56 = .ok (.goto (-51), 3) := by decide +kernel
theorem dX11_readSoup_59 : decode cX11_readSoup 59 = .ok (.iload_n 3, 1) := by decide +kernel
theorem dX11_readSoup_60 : decode cX11_readSoup 60 = .ok (.ireturn, 1) := by decide +kernel
theorem dX11_load_0 : decode cX11_load 0 = .ok (.iload_n 1, 1) := by decide +kernel
theorem dX11_load_1 : decode cX11_load 1 = .ok (.iconst (-1), 1) := by decide +kernel
theorem dX11_load_2 : decode cX11_load 2 = .ok (.if_icmp .ne 7, 3) := by decide +kernel
theorem dX11_load_5 : decode cX11_load 5 = .ok (.iconst 1, 1) := by decide +kernel
theorem dX11_load_6 : decode cX11_load 6 = .ok (.goto 8, 3) := by decide +kernel
theorem dX11_load_9 : decode cX11_load 9 = .ok (.aload_n 0, 1) := by decide +kernel
theorem dX11_load_10 : decode cX11_load 10 = .ok (.iload_n 1, 1) := by decide +kernel
theorem dX11_load_11 : decode cX11_load 11 = .ok (.invokevirtual 227, 3) := by decide +kernel
theorem dX11_load_14 : decode cX11_load 14 = .ok (.istore_n 3, 1) := by decide +kernel
theorem dX11_load_15 : decode cX11_load 15 = .ok (.iload_n 3, 1) := by decide +kernel
theorem dX11_load_16 : decode cX11_load 16 = .ok (.iconst 1, 1) := by decide +kernel
theorem dX11_load_17 : decode cX11_load 17 = .ok (.if_icmp .ne 16, 3) := by decide +kernel
theorem dX11_load_20 : decode cX11_load 20 = .ok (.iload_n 2, 1) := by decide +kernel
theorem dX11_load_21 : decode cX11_load 21 = .ok (.iconst (-1), 1) := by decide +kernel
theorem dX11_load_22 : decode cX11_load 22 = .ok (.if_icmp .eq 11, 3) := by decide +kernel
theorem dX11_load_25 : decode cX11_load 25 = .ok (.aload_n 0, 1) := by decide +kernel
theorem dX11_load_26 : decode cX11_load 26 = .ok (.iload_n 2, 1) := by decide +kernel
theorem dX11_load_27 : decode cX11_load 27 = .ok (.invokevirtual 227, 3) := by decide +kernel
theorem dX11_load_30 : decode cX11_load 30 = .ok (.goto 4, 3) := by decide +kernel
theorem dX11_load_33 : decode cX11_load 33 = .ok (.iload_n 3, 1) := by decide +kernel
theorem dX11_load_34 : decode cX11_load 34 = .ok (.istore_n 3, 1) := by decide +kernel
theorem dX11_load_35 : decode cX11_load 35 = .ok (.iload_n 3, 1) := by decide +kernel
theorem dX11_load_36 : decode cX11_load 36 = .ok (.iconst 1, 1) := by decide +kernel
theorem dX11_load_37 : decode cX11_load 37 = .ok (.if_icmp .ne 13, 3) := by decide +kernel
theorem dX11_load_40 : decode cX11_load 40 = .ok (.iload_n 1, 1) := by decide +kernel
theorem dX11_load_41 : decode cX11_load 41 = .ok (.iconst (-1), 1) := by decide +kernel
theorem dX11_load_42 : decode cX11_load 42 = .ok (.if_icmp .eq 8, 3) := by decide +kernel
theorem dX11_load_45 : decode cX11_load 45 = .ok (.aload_n 0, 1) := by decide +kernel
theorem dX11_load_46 : decode cX11_load 46 = .ok (.iload_n 1, 1) := by decide +kernel
theorem dX11_load_47 : decode cX11_load 47 = .ok (.invokevirtual 230, 3) := by decide +kernel
theorem dX11_load_50 : decode cX11_load 50 = .ok (.iload_n 3, 1) := by decide +kernel
theorem dX11_load_51 : decode cX11_load 51 = .ok (.iconst 1, 1) := by decide +kernel
theorem dX11_load_52 : decode cX11_load 52 = .ok (.if_icmp .ne 21, 3) := by decide +kernel
theorem dX11_load_55 : decode cX11_load 55 = .ok (.iload_n 2, 1) := by decide +kernel
theorem dX11_load_56 : decode cX11_load 56 = .ok (.iconst (-1), 1) := by decide +kernel
theorem dX11_load_57 : decode cX11_load 57 = .ok (.if_icmp .eq 16, 3) := by decide +kernel
theorem dX11_load_60 : decode cX11_load 60 = .ok (.aload_n 0, 1) := by decide +kernel
theorem dX11_load_61 : decode cX11_load 61 = .ok (.iload_n 2, 1) := by decide +kernel
theorem dX11_load_62 : decode cX11_load 62 = .ok (.iconst 0, 1) := by decide +kernel
theorem dX11_load_63 : decode cX11_load 63 = .ok (.invokevirtual 234, 3) := by decide +kernel
theorem dX11_load_66 : decode cX11_load 66 = .ok (.ifCond .ne 7, 3) := by decide +kernel
theorem dX11_load_69 : decode cX11_load 69 = .ok (.iconst (-1), 1) := by decide +kernel
theorem dX11_load_70 : decode cX11_load 70 = .ok (.goto 4, 3) := by decide +kernel
theorem dX11_load_73 : decode cX11_load 73 = .ok (.iload_n 3, 1) := by decide +kernel
theorem dX11_load_74 : decode cX11_load 74 = .ok (.ireturn, 1) := by decide +kernel
theorem dX11_things_0 : decode cX11_things 0 = .ok (.iload_n 1, 1) := by decide +kernel
theorem dX11_things_1 : decode cX11_things 1 = .ok (.invokestatic 238, 3) := by decide +kernel
theorem dX11_things_4 : decode cX11_things 4 = .ok (.ifCond .eq 31, 3) := by decide +kernel
theorem dX11_things_7 : decode cX11_things 7 = .ok (.iload_n 3, 1) := by decide +kernel
theorem dX11_things_8 : decode cX11_things 8 = .ok (.ifCond .lt 27, 3) := by decide +kernel
theorem dX11_things_11 : decode cX11_things 11 = .ok (.aload_n 0, 1) := by decide +kernel
theorem dX11_things_12 : decode cX11_things 12 = .ok (.iload_n 3, 1) := by decide +kernel
theorem dX11_things_13 : decode cX11_things 13 = .ok (.bipush 100, 2) := by decide +kernel
theorem dX11_things_15 : decode cX11_things 15 = .ok (.idiv, 1) := by decide +kernel
theorem dX11_things_16 : decode cX11_things 16 = .ok (.invokevirtual 132, 3) := by decide +kernel
theorem dX11_things_19 : decode cX11_things 19 = .ok (.ifCond .eq 16, 3) := by decide +kernel
theorem dX11_things_22 : decode cX11_things 22 = .ok (.iload_n 3, 1) := by decide +kernel
theorem dX11_things_23 : decode cX11_things 23 = .ok (.bipush 100, 2) := by decide +kernel
theorem dX11_things_25 : decode cX11_things 25 = .ok (.irem, 1) := by decide +kernel
theorem dX11_things_26 : decode cX11_things 26 = .ok (.iconst 1, 1) := by decide +kernel
theorem dX11_things_27 : decode cX11_things 27 = .ok (.bipush 20, 2) := by decide +kernel
theorem dX11_things_29 : decode cX11_things 29 = .ok (.invokestatic 125, 3) := by decide +kernel
theorem dX11_things_32 : decode cX11_things 32 = .ok (.ifCond .ne 5, 3) := by decide +kernel
theorem dX11_things_35 : decode cX11_things 35 = .ok (.iconst (-1), 1) := by decide +kernel
theorem dX11_things_36 : decode cX11_things 36 = .ok (.ireturn, 1) := by decide +kernel
theorem dX11_things_37 : decode cX11_things 37 = .ok (.aload_n 0, 1) := by decide +kernel
theorem dX11_things_38 : decode cX11_things 38 = .ok (.getfield 54, 3) := by decide +kernel
theorem dX11_things_41 : decode cX11_things 41 = .ok (.iload_n 1, 1) := by decide +kernel
theorem dX11_things_42 : decode cX11_things 42 = .ok (.iaload, 1) := by decide +kernel
theorem dX11_things_43 : decode cX11_things 43 = .ok (.ifCond .le 6, 3) := by decide +kernel
theorem dX11_things_46 : decode cX11_things 46 = .ok (.bipush (-12), 2) := by decide +kernel
theorem dX11_things_48 : decode cX11_things 48 = .ok (.ireturn, 1) := by decide +kernel
theorem dX11_things_49 : decode cX11_things 49 = .ok (.iconst 0, 1) := by decide +kernel
theorem dX11_things_50 : decode cX11_things 50 = .ok (.istore 4, 2) := by decide +kernel
theorem dX11_things_52 : decode cX11_things 52 = .ok (.iconst 0, 1) := by decide +kernel
theorem dX11_things_53 : decode cX11_things 53 = .ok (.istore 5, 2) := by decide +kernel
theorem dX11_things_55 : decode cX11_things 55 = .ok (.iload 5, 2) := by decide +kernel
theorem dX11_things_57 : decode cX11_things 57 = .ok (.iload_n 3, 1) := by decide +kernel
theorem dX11_things_58 : decode cX11_things 58 = .ok (.bipush 100, 2) := by decide +kernel
theorem dX11_things_60 : decode cX11_things 60 = .ok (.irem, 1) := by decide +kernel
theorem dX11_things_61 : decode cX11_things 61 = .ok (.if_icmp .ge 140, 3) := by decide +kernel
theorem dX11_things_64 : decode cX11_things 64 = .ok (.iload 4, 2) := by decide +kernel
theorem dX11_things_66 : decode cX11_things 66 = .ok (.iload 5, 2) := by decide +kernel
theorem dX11_things_68 : decode cX11_things 68 = .ok (.if_icmp .ne 133, 3) := by decide +kernel
theorem dX11_things_71 : decode cX11_things 71 = .ok (.iload_n 2, 1) := by decide +kernel
theorem dX11_things_72 : decode cX11_things 72 = .ok (.i2l, 1) := by decide +kernel
theorem dX11_things_73 : decode cX11_things 73 = .ok (.ldc2_w 241, 3) := by decide +kernel
theorem dX11_things_76 : decode cX11_things 76 = .ok (.iload 5, 2) := by decide +kernel
theorem dX11_things_78 : decode cX11_things 78 = .ok (.i2l, 1) := by decide +kernel
theorem dX11_things_79 : decode cX11_things 79 = .ok (.lmul, 1) := by decide +kernel
theorem dX11_things_80 : decode cX11_things 80 = .ok (.ladd, 1) := by decide +kernel
theorem dX11_things_81 : decode cX11_things 81 = .ok (.lstore 6, 2) := by decide +kernel
theorem dX11_things_83 : decode cX11_things 83 = .ok (.aload_n 0, 1) := by decide +kernel
theorem dX11_things_84 : decode cX11_things 84 = .ok (.getfield 54, 3) := by decide +kernel
theorem dX11_things_87 : decode cX11_things 87 = .ok (.iload_n 1, 1) := by decide +kernel
theorem dX11_things_88 : decode cX11_things 88 = .ok (.iaload, 1) := by decide +kernel
theorem dX11_things_89 : decode cX11_things 89 = .ok (.ifCond .ne 26, 3) := by decide +kernel
theorem dX11_things_92 : decode cX11_things 92 = .ok (.iload_n 2, 1) := by decide +kernel
theorem dX11_things_93 : decode cX11_things 93 = .ok (.ifCond .lt 22, 3) := by decide +kernel
theorem dX11_things_96 : decode cX11_things 96 = .ok (.lload 6, 2) := by decide +kernel
theorem dX11_things_98 : decode cX11_things 98 = .ok (.lconst 1, 1) := by decide +kernel
theorem dX11_things_99 : decode cX11_things 99 = .ok (.ladd, 1) := by decide +kernel
theorem dX11_things_100 : decode cX11_things 100 = .ok (.aload_n 0, 1) := by decide +kernel
theorem dX11_things_101 : decode cX11_things 101 = .ok (.getfield 57, 3) := by decide +kernel
theorem dX11_things_104 : decode cX11_things 104 = .ok (.iload_n 1, 1) := by decide +kernel
theorem dX11_things_105 : decode cX11_things 105 = .ok (.iaload, 1) := by decide +kernel
theorem dX11_things_106 : decode cX11_things 106 = .ok (.i2l, 1) := by decide +kernel
theorem dX11_things_107 : decode cX11_things 107 = .ok (.lcmp, 1) := by decide +kernel
theorem dX11_things_108 : decode cX11_things 108 = .ok (.ifCond .ge 7, 3) := by decide +kernel
theorem dX11_things_111 : decode cX11_things 111 = .ok (.iconst 1, 1) := by decide +kernel
theorem dX11_things_112 : decode cX11_things 112 = .ok (.goto 4, 3) := by decide +kernel
theorem dX11_things_115 : decode cX11_things 115 = .ok (.iconst 0, 1) := by decide +kernel
theorem dX11_things_116 : decode cX11_things 116 = .ok (.istore 8, 2) := by decide +kernel
theorem dX11_things_118 : decode cX11_things 118 = .ok (.iload 8, 2) := by decide +kernel
theorem dX11_things_120 : decode cX11_things 120 = .ok (.ifCond .eq 14, 3) := by decide +kernel
theorem dX11_things_123 : decode cX11_things 123 = .ok (.aload_n 0, 1) := by decide +kernel
theorem dX11_things_124 : decode cX11_things 124 = .ok (.iload_n 1, 1) := by decide +kernel
theorem dX11_things_125 : decode cX11_things 125 = .ok (.lload 6, 2) := by decide +kernel
theorem dX11_things_127 : decode cX11_things 127 = .ok (.l2i, 1) := by decide +kernel
theorem dX11_things_128 : decode cX11_things 128 = .ok (.invokevirtual 224, 3) := by decide +kernel
theorem dX11_things_131 : decode cX11_things 131 = .ok (.goto 4, 3) := by decide +kernel
theorem dX11_things_134 : decode cX11_things 134 = .ok (.iconst (-1), 1) := by decide +kernel
theorem dX11_things_135 : decode cX11_things 135 = .ok (.istore 9, 2) := by decide +kernel
theorem dX11_things_137 : decode cX11_things 137 = .ok (.iload 8, 2) := by decide +kernel
theorem dX11_things_139 : decode cX11_things 139 = .ok (.ifCond .eq 16, 3) := by decide +kernel
theorem dX11_things_142 : decode cX11_things 142 = .ok (.aload_n 0, 1) := by decide +kernel
theorem dX11_things_143 : decode cX11_things 143 = .ok (.iload_n 1, 1) := by decide +kernel
theorem dX11_things_144 : decode cX11_things 144 = .ok (.lload 6, 2) := by decide +kernel
theorem dX11_things_146 : decode cX11_things 146 = .ok (.l2i, 1) := by decide +kernel
theorem dX11_things_147 : decode cX11_things 147 = .ok (.iconst 1, 1) := by decide +kernel
theorem dX11_things_148 : decode cX11_things 148 = .ok (.iadd, 1) := by decide +kernel
theorem dX11_things_149 : decode cX11_things 149 = .ok (.invokevirtual 224, 3) := by decide +kernel
theorem dX11_things_152 : decode cX11_things 152 = .ok (.goto 4, 3) := by decide +kernel
theorem dX11_things_155 : decode cX11_things 155 = .ok (.iconst (-1), 1) := by decide +kernel
theorem dX11_things_156 : decode cX11_things 156 = .ok (.istore 10, 2) := by decide +kernel
theorem dX11_things_158 : decode cX11_things 158 = .ok (.iload 9, 2) := by decide +kernel
theorem dX11_things_160 : decode cX11_things 160 = .ok (.iconst 0, 1) := by decide +kernel
theorem dX11_things_161 : decode cX11_things 161 = .ok (.bipush 7, 2) := by decide +kernel
theorem dX11_things_163 : decode cX11_things 163 = .ok (.invokestatic 125, 3) := by decide +kernel
theorem dX11_things_166 : decode cX11_things 166 = .ok (.ifCond .eq 29, 3) := by decide +kernel
theorem dX11_things_169 : decode cX11_things 169 = .ok (.iload 10, 2) := by decide +kernel
theorem dX11_things_171 : decode cX11_things 171 = .ok (.iconst 0, 1) := by decide +kernel
theorem dX11_things_172 : decode cX11_things 172 = .ok (.bipush 9, 2) := by decide +kernel
theorem dX11_things_174 : decode cX11_things 174 = .ok (.invokestatic 125, 3) := by decide +kernel
theorem dX11_things_177 : decode cX11_things 177 = .ok (.ifCond .eq 18, 3) := by decide +kernel
theorem dX11_things_180 : decode cX11_things 180 = .ok (.aload_n 0, 1) := by decide +kernel
theorem dX11_things_181 : decode cX11_things 181 = .ok (.iload_n 3, 1) := by decide +kernel
theorem dX11_things_182 : decode cX11_things 182 = .ok (.bipush 100, 2) := by decide +kernel
theorem dX11_things_184 : decode cX11_things 184 = .ok (.idiv, 1) := by decide +kernel
theorem dX11_things_185 : decode cX11_things 185 = .ok (.iload 9, 2) := by decide +kernel
theorem dX11_things_187 : decode cX11_things 187 = .ok (.iload 10, 2) := by decide +kernel
theorem dX11_things_189 : decode cX11_things 189 = .ok (.invokevirtual 243, 3) := by decide +kernel
theorem dX11_things_192 : decode cX11_things 192 = .ok (.iinc 4 1, 3) := by decide +kernel
theorem dX11_things_195 : decode cX11_things 195 = .ok (.iinc 5 1, 3) := by decide +kernel
theorem dX11_things_198 : decode cX11_things 198 = .ok (.goto (-143), 3) := by decide +kernel
theorem dX11_things_201 : decode cX11_things 201 = .ok (.iload 4, 2) := by decide +kernel
theorem dX11_things_203 : decode cX11_things 203 = .ok (.ireturn, 1) := by decide +kernel
theorem dX11_taste_0 : decode cX11_taste 0 = .ok (.iload_n 1, 1) := by decide +kernel
theorem dX11_taste_1 : decode cX11_taste 1 = .ok (.invokestatic 238, 3) := by decide +kernel
theorem dX11_taste_4 : decode cX11_taste 4 = .ok (.ifCond .eq 22, 3) := by decide +kernel
theorem dX11_taste_7 : decode cX11_taste 7 = .ok (.iload_n 2, 1) := by decide +kernel
theorem dX11_taste_8 : decode cX11_taste 8 = .ok (.iconst 0, 1) := by decide +kernel
theorem dX11_taste_9 : decode cX11_taste 9 = .ok (.bipush 60, 2) := by decide +kernel
theorem dX11_taste_11 : decode cX11_taste 11 = .ok (.invokestatic 125, 3) := by decide +kernel
theorem dX11_taste_14 : decode cX11_taste 14 = .ok (.ifCond .eq 12, 3) := by decide +kernel
theorem dX11_taste_17 : decode cX11_taste 17 = .ok (.iload_n 3, 1) := by decide +kernel
theorem dX11_taste_18 : decode cX11_taste 18 = .ok (.iconst 0, 1) := by decide +kernel
theorem dX11_taste_19 : decode cX11_taste 19 = .ok (.iconst 5, 1) := by decide +kernel
theorem dX11_taste_20 : decode cX11_taste 20 = .ok (.invokestatic 125, 3) := by decide +kernel
theorem dX11_taste_23 : decode cX11_taste 23 = .ok (.ifCond .ne 5, 3) := by decide +kernel
theorem dX11_taste_26 : decode cX11_taste 26 = .ok (.iconst (-1), 1) := by decide +kernel
theorem dX11_taste_27 : decode cX11_taste 27 = .ok (.ireturn, 1) := by decide +kernel
theorem dX11_taste_28 : decode cX11_taste 28 = .ok (.aload_n 0, 1) := by decide +kernel
theorem dX11_taste_29 : decode cX11_taste 29 = .ok (.iload_n 1, 1) := by decide +kernel
theorem dX11_taste_30 : decode cX11_taste 30 = .ok (.iconst (-1), 1) := by decide +kernel
theorem dX11_taste_31 : decode cX11_taste 31 = .ok (.invokevirtual 247, 3) := by decide +kernel
theorem dX11_taste_34 : decode cX11_taste 34 = .ok (.istore 4, 2) := by decide +kernel
theorem dX11_taste_36 : decode cX11_taste 36 = .ok (.iload 4, 2) := by decide +kernel
theorem dX11_taste_38 : decode cX11_taste 38 = .ok (.iconst 1, 1) := by decide +kernel
theorem dX11_taste_39 : decode cX11_taste 39 = .ok (.if_icmp .ge 6, 3) := by decide +kernel
theorem dX11_taste_42 : decode cX11_taste 42 = .ok (.iload 4, 2) := by decide +kernel
theorem dX11_taste_44 : decode cX11_taste 44 = .ok (.ireturn, 1) := by decide +kernel
theorem dX11_taste_45 : decode cX11_taste 45 = .ok (.aload_n 0, 1) := by decide +kernel
theorem dX11_taste_46 : decode cX11_taste 46 = .ok (.invokevirtual 249, 3) := by decide +kernel
theorem dX11_taste_49 : decode cX11_taste 49 = .ok (.aload_n 0, 1) := by decide +kernel
theorem dX11_taste_50 : decode cX11_taste 50 = .ok (.iload_n 2, 1) := by decide +kernel
theorem dX11_taste_51 : decode cX11_taste 51 = .ok (.invokevirtual 252, 3) := by decide +kernel
theorem dX11_taste_54 : decode cX11_taste 54 = .ok (.aload_n 0, 1) := by decide +kernel
theorem dX11_taste_55 : decode cX11_taste 55 = .ok (.getfield 48, 3) := by decide +kernel
theorem dX11_taste_58 : decode cX11_taste 58 = .ok (.iload_n 3, 1) := by decide +kernel
theorem dX11_taste_59 : decode cX11_taste 59 = .ok (.invokestatic 255, 3) := by decide +kernel
theorem dX11_taste_62 : decode cX11_taste 62 = .ok (.ireturn, 1) := by decide +kernel
theorem dX11_isTwo_0 : decode cX11_isTwo 0 = .ok (.iload_n 0, 1) := by decide +kernel
theorem dX11_isTwo_1 : decode cX11_isTwo 1 = .ok (.ifCond .lt 25, 3) := by decide +kernel
theorem dX11_isTwo_4 : decode cX11_isTwo 4 = .ok (.iload_n 0, 1) := by decide +kernel
theorem dX11_isTwo_5 : decode cX11_isTwo 5 = .ok (.bipush 10, 2) := by decide +kernel
theorem dX11_isTwo_7 : decode cX11_isTwo 7 = .ok (.idiv, 1) := by decide +kernel
theorem dX11_isTwo_8 : decode cX11_isTwo 8 = .ok (.bipush 6, 2) := by decide +kernel
theorem dX11_isTwo_10 : decode cX11_isTwo 10 = .ok (.if_icmp .ge 16, 3) := by decide +kernel
theorem dX11_isTwo_13 : decode cX11_isTwo 13 = .ok (.iload_n 0, 1) := by decide +kernel
theorem dX11_isTwo_14 : decode cX11_isTwo 14 = .ok (.bipush 10, 2) := by decide +kernel
theorem dX11_isTwo_16 : decode cX11_isTwo 16 = .ok (.irem, 1) := by decide +kernel
theorem dX11_isTwo_17 : decode cX11_isTwo 17 = .ok (.bipush 6, 2) := by decide +kernel
theorem dX11_isTwo_19 : decode cX11_isTwo 19 = .ok (.if_icmp .ge 7, 3) := by decide +kernel
theorem dX11_isTwo_22 : decode cX11_isTwo 22 = .ok (.iconst 1, 1) := by decide +kernel
theorem dX11_isTwo_23 : decode cX11_isTwo 23 = .ok (.goto 4, 3) := by decide +kernel
theorem dX11_isTwo_26 : decode cX11_isTwo 26 = .ok (.iconst 0, 1) := by decide +kernel
theorem dX11_isTwo_27 : decode cX11_isTwo 27 = .ok (.ireturn, 1) := by decide +kernel
theorem dX11_best_0 : decode cX11_best 0 = .ok (.iload_n 1, 1) := by decide +kernel
theorem dX11_best_1 : decode cX11_best 1 = .ok (.invokestatic 259, 3) := by decide +kernel
theorem dX11_best_4 : decode cX11_best 4 = .ok (.ifCond .eq 12, 3) := by decide +kernel
theorem dX11_best_7 : decode cX11_best 7 = .ok (.iload_n 2, 1) := by decide +kernel
theorem dX11_best_8 : decode cX11_best 8 = .ok (.iconst 0, 1) := by decide +kernel
theorem dX11_best_9 : decode cX11_best 9 = .ok (.iconst 1, 1) := by decide +kernel
theorem dX11_best_10 : decode cX11_best 10 = .ok (.invokestatic 125, 3) := by decide +kernel
theorem dX11_best_13 : decode cX11_best 13 = .ok (.ifCond .ne 5, 3) := by decide +kernel
theorem dX11_best_16 : decode cX11_best 16 = .ok (.iconst (-1), 1) := by decide +kernel
theorem dX11_best_17 : decode cX11_best 17 = .ok (.ireturn, 1) := by decide +kernel
theorem dX11_best_18 : decode cX11_best 18 = .ok (.aload_n 0, 1) := by decide +kernel
theorem dX11_best_19 : decode cX11_best 19 = .ok (.iload_n 1, 1) := by decide +kernel
