theorem dX10_right_7 : decode cX10_right 7 = .ok (.iload_n 1, 1) := by decide +kernel
theorem dX10_right_8 : decode cX10_right 8 = .ok (.ifCond .ne 8, 3) := by decide +kernel
theorem dX10_right_11 : decode cX10_right 11 = .ok (.aload_n 0, 1) := by decide +kernel
theorem dX10_right_12 : decode cX10_right 12 = .ok (.iload_n 2, 1) := by decide +kernel
theorem dX10_right_13 : decode cX10_right 13 = .ok (.putfield 120, 3) := by decide +kernel
theorem dX10_right_16 : decode cX10_right 16 = .ok (.aload_n 0, 1) := by decide +kernel
theorem dX10_right_17 : decode cX10_right 17 = .ok (.getfield 120, 3) := by decide +kernel
theorem dX10_right_20 : decode cX10_right 20 = .ok (.ifCond .ne 7, 3) := by decide +kernel
theorem dX10_right_23 : decode cX10_right 23 = .ok (.iconst 1, 1) := by decide +kernel
theorem dX10_right_24 : decode cX10_right 24 = .ok (.goto 4, 3) := by decide +kernel
theorem dX10_right_27 : decode cX10_right 27 = .ok (.iconst 0, 1) := by decide +kernel
theorem dX10_right_28 : decode cX10_right 28 = .ok (.ireturn, 1) := by decide +kernel
theorem dX10_within_0 : decode cX10_within 0 = .ok (.iload_n 0, 1) := by decide +kernel
theorem dX10_within_1 : decode cX10_within 1 = .ok (.iload_n 1, 1) := by decide +kernel
theorem dX10_within_2 : decode cX10_within 2 = .ok (.if_icmp .lt 12, 3) := by decide +kernel
theorem dX10_within_5 : decode cX10_within 5 = .ok (.iload_n 0, 1) := by decide +kernel
theorem dX10_within_6 : decode cX10_within 6 = .ok (.iload_n 2, 1) := by decide +kernel
theorem dX10_within_7 : decode cX10_within 7 = .ok (.if_icmp .gt 7, 3) := by decide +kernel
theorem dX10_within_10 : decode cX10_within 10 = .ok (.iconst 1, 1) := by decide +kernel
theorem dX10_within_11 : decode cX10_within 11 = .ok (.goto 4, 3) := by decide +kernel
theorem dX10_within_14 : decode cX10_within 14 = .ok (.iconst 0, 1) := by decide +kernel
theorem dX10_within_15 : decode cX10_within 15 = .ok (.ireturn, 1) := by decide +kernel
theorem dX10_bounded_0 : decode cX10_bounded 0 = .ok (.iload_n 0, 1) := by decide +kernel
theorem dX10_bounded_1 : decode cX10_bounded 1 = .ok (.iload_n 1, 1) := by decide +kernel
theorem dX10_bounded_2 : decode cX10_bounded 2 = .ok (.if_icmp .ge 7, 3) := by decide +kernel
theorem dX10_bounded_5 : decode cX10_bounded 5 = .ok (.iload_n 1, 1) := by decide +kernel
theorem dX10_bounded_6 : decode cX10_bounded 6 = .ok (.goto 13, 3) := by decide +kernel
theorem dX10_bounded_9 : decode cX10_bounded 9 = .ok (.iload_n 0, 1) := by decide +kernel
theorem dX10_bounded_10 : decode cX10_bounded 10 = .ok (.iload_n 2, 1) := by decide +kernel
theorem dX10_bounded_11 : decode cX10_bounded 11 = .ok (.if_icmp .le 7, 3) := by decide +kernel
theorem dX10_bounded_14 : decode cX10_bounded 14 = .ok (.iload_n 2, 1) := by decide +kernel
theorem dX10_bounded_15 : decode cX10_bounded 15 = .ok (.goto 4, 3) := by decide +kernel
theorem dX10_bounded_18 : decode cX10_bounded 18 = .ok (.iload_n 0, 1) := by decide +kernel
theorem dX10_bounded_19 : decode cX10_bounded 19 = .ok (.ireturn, 1) := by decide +kernel
theorem dX10_lesser_0 : decode cX10_lesser 0 = .ok (.iload_n 0, 1) := by decide +kernel
theorem dX10_lesser_1 : decode cX10_lesser 1 = .ok (.iload_n 1, 1) := by decide +kernel
theorem dX10_lesser_2 : decode cX10_lesser 2 = .ok (.if_icmp .ge 7, 3) := by decide +kernel
theorem dX10_lesser_5 : decode cX10_lesser 5 = .ok (.iload_n 0, 1) := by decide +kernel
theorem dX10_lesser_6 : decode cX10_lesser 6 = .ok (.goto 4, 3) := by decide +kernel
theorem dX10_lesser_9 : decode cX10_lesser 9 = .ok (.iload_n 1, 1) := by decide +kernel
theorem dX10_lesser_10 : decode cX10_lesser 10 = .ok (.ireturn, 1) := by decide +kernel
theorem dX10_off_0 : decode cX10_off 0 = .ok (.iload_n 0, 1) := by decide +kernel
theorem dX10_off_1 : decode cX10_off 1 = .ok (.iload_n 1, 1) := by decide +kernel
theorem dX10_off_2 : decode cX10_off 2 = .ok (.if_icmp .ge 9, 3) := by decide +kernel
theorem dX10_off_5 : decode cX10_off 5 = .ok (.iload_n 1, 1) := by decide +kernel
theorem dX10_off_6 : decode cX10_off 6 = .ok (.iload_n 0, 1) := by decide +kernel
theorem dX10_off_7 : decode cX10_off 7 = .ok (.isub, 1) := by decide +kernel
theorem dX10_off_8 : decode cX10_off 8 = .ok (.goto 6, 3) := by decide +kernel
theorem dX10_off_11 : decode cX10_off 11 = .ok (.iload_n 0, 1) := by decide +kernel
theorem dX10_off_12 : decode cX10_off 12 = .ok (.iload_n 1, 1) := by decide +kernel
theorem dX10_off_13 : decode cX10_off 13 = .ok (.isub, 1) := by decide +kernel
theorem dX10_off_14 : decode cX10_off 14 = .ok (.ireturn, 1) := by decide +kernel
theorem dX10_copies_0 : decode cX10_copies 0 = .ok (.iconst 0, 1) := by decide +kernel
theorem dX10_copies_1 : decode cX10_copies 1 = .ok (.istore_n 3, 1) := by decide +kernel
theorem dX10_copies_2 : decode cX10_copies 2 = .ok (.iload_n 3, 1) := by decide +kernel
theorem dX10_copies_3 : decode cX10_copies 3 = .ok (.aload_n 1, 1) := by decide +kernel
theorem dX10_copies_4 : decode cX10_copies 4 = .ok (.arraylength, 1) := by decide +kernel
theorem dX10_copies_5 : decode cX10_copies 5 = .ok (.if_icmp .ge 15, 3) := by decide +kernel
theorem dX10_copies_8 : decode cX10_copies 8 = .ok (.aload_n 2, 1) := by decide +kernel
theorem dX10_copies_9 : decode cX10_copies 9 = .ok (.iload_n 3, 1) := by decide +kernel
theorem dX10_copies_10 : decode cX10_copies 10 = .ok (.aload_n 1, 1) := by decide +kernel
theorem dX10_copies_11 : decode cX10_copies 11 = .ok (.iload_n 3, 1) := by decide +kernel
theorem dX10_copies_12 : decode cX10_copies 12 = .ok (.iaload, 1) := by decide +kernel
theorem dX10_copies_13 : decode cX10_copies 13 = .ok (.iastore, 1) := by decide +kernel
theorem dX10_copies_14 : decode cX10_copies 14 = .ok (.iinc 3 1, 3) := by decide +kernel
theorem dX10_copies_17 : decode cX10_copies 17 = .ok (.goto (-15), 3) := by decide +kernel
theorem dX10_copies_20 : decode cX10_copies 20 = .ok (.return_, 1) := by decide +kernel
theorem dX10_feed_0 : decode cX10_feed 0 = .ok (.aload_n 0, 1) := by decide +kernel
theorem dX10_feed_1 : decode cX10_feed 1 = .ok (.iconst 0, 1) := by decide +kernel
theorem dX10_feed_2 : decode cX10_feed 2 = .ok (.putfield 120, 3) := by decide +kernel
theorem dX10_feed_5 : decode cX10_feed 5 = .ok (.aload_n 0, 1) := by decide +kernel
theorem dX10_feed_6 : decode cX10_feed 6 = .ok (.getfield 123, 3) := by decide +kernel
theorem dX10_feed_9 : decode cX10_feed 9 = .ok (.bipush 20, 2) := by decide +kernel
theorem dX10_feed_11 : decode cX10_feed 11 = .ok (.iadd, 1) := by decide +kernel
theorem dX10_feed_12 : decode cX10_feed 12 = .ok (.sipush 700, 3) := by decide +kernel
theorem dX10_feed_15 : decode cX10_feed 15 = .ok (.if_icmp .le 5, 3) := by decide +kernel
theorem dX10_feed_18 : decode cX10_feed 18 = .ok (.iconst (-1), 1) := by decide +kernel
theorem dX10_feed_19 : decode cX10_feed 19 = .ok (.ireturn, 1) := by decide +kernel
theorem dX10_feed_20 : decode cX10_feed 20 = .ok (.aload_n 0, 1) := by decide +kernel
theorem dX10_feed_21 : decode cX10_feed 21 = .ok (.iload_n 1, 1) := by decide +kernel
theorem dX10_feed_22 : decode cX10_feed 22 = .ok (.invokevirtual 126, 3) := by decide +kernel
theorem dX10_feed_25 : decode cX10_feed 25 = .ok (.aload_n 0, 1) := by decide +kernel
theorem dX10_feed_26 : decode cX10_feed 26 = .ok (.iload_n 2, 1) := by decide +kernel
theorem dX10_feed_27 : decode cX10_feed 27 = .ok (.invokevirtual 126, 3) := by decide +kernel
theorem dX10_feed_30 : decode cX10_feed 30 = .ok (.aload_n 0, 1) := by decide +kernel
theorem dX10_feed_31 : decode cX10_feed 31 = .ok (.iload_n 3, 1) := by decide +kernel
theorem dX10_feed_32 : decode cX10_feed 32 = .ok (.invokevirtual 126, 3) := by decide +kernel
theorem dX10_feed_35 : decode cX10_feed 35 = .ok (.aload_n 0, 1) := by decide +kernel
theorem dX10_feed_36 : decode cX10_feed 36 = .ok (.iload 4, 2) := by decide +kernel
theorem dX10_feed_38 : decode cX10_feed 38 = .ok (.invokevirtual 126, 3) := by decide +kernel
theorem dX10_feed_41 : decode cX10_feed 41 = .ok (.aload_n 0, 1) := by decide +kernel
theorem dX10_feed_42 : decode cX10_feed 42 = .ok (.iload 5, 2) := by decide +kernel
theorem dX10_feed_44 : decode cX10_feed 44 = .ok (.invokevirtual 126, 3) := by decide +kernel
theorem dX10_feed_47 : decode cX10_feed 47 = .ok (.aload_n 0, 1) := by decide +kernel
theorem dX10_feed_48 : decode cX10_feed 48 = .ok (.getfield 123, 3) := by decide +kernel
theorem dX10_feed_51 : decode cX10_feed 51 = .ok (.ireturn, 1) := by decide +kernel
theorem dX10_lays_0 : decode cX10_lays 0 = .ok (.bipush 24, 2) := by decide +kernel
theorem dX10_lays_2 : decode cX10_lays 2 = .ok (.istore_n 2, 1) := by decide +kernel
theorem dX10_lays_3 : decode cX10_lays 3 = .ok (.iload_n 2, 1) := by decide +kernel
theorem dX10_lays_4 : decode cX10_lays 4 = .ok (.ifCond .lt 35, 3) := by decide +kernel
theorem dX10_lays_7 : decode cX10_lays 7 = .ok (.aload_n 0, 1) := by decide +kernel
theorem dX10_lays_8 : decode cX10_lays 8 = .ok (.getfield 35, 3) := by decide +kernel
theorem dX10_lays_11 : decode cX10_lays 11 = .ok (.aload_n 0, 1) := by decide +kernel
theorem dX10_lays_12 : decode cX10_lays 12 = .ok (.getfield 123, 3) := by decide +kernel
theorem dX10_lays_15 : decode cX10_lays 15 = .ok (.iload_n 1, 1) := by decide +kernel
theorem dX10_lays_16 : decode cX10_lays 16 = .ok (.iload_n 2, 1) := by decide +kernel
theorem dX10_lays_17 : decode cX10_lays 17 = .ok (.ishr, 1) := by decide +kernel
theorem dX10_lays_18 : decode cX10_lays 18 = .ok (.sipush 255, 3) := by decide +kernel
theorem dX10_lays_21 : decode cX10_lays 21 = .ok (.iand, 1) := by decide +kernel
theorem dX10_lays_22 : decode cX10_lays 22 = .ok (.iastore, 1) := by decide +kernel
theorem dX10_lays_23 : decode cX10_lays 23 = .ok (.aload_n 0, 1) := by decide +kernel
theorem dX10_lays_24 : decode cX10_lays 24 = .ok (.dup, 1) := by decide +kernel
theorem dX10_lays_25 : decode cX10_lays 25 = .ok (.getfield 123, 3) := by decide +kernel
theorem dX10_lays_28 : decode cX10_lays 28 = .ok (.iconst 1, 1) := by decide +kernel
theorem dX10_lays_29 : decode cX10_lays 29 = .ok (.iadd, 1) := by decide +kernel
theorem dX10_lays_30 : decode cX10_lays 30 = .ok (.putfield 123, 3) := by decide +kernel
theorem dX10_lays_33 : decode cX10_lays 33 = .ok (.iinc 2 (-8), 3) := by decide +kernel
theorem dX10_lays_36 : decode cX10_lays 36 = .ok (.goto (-33), 3) := by decide +kernel
theorem dX10_lays_39 : decode cX10_lays 39 = .ok (.return_, 1) := by decide +kernel
theorem dX10_byteAt_0 : decode cX10_byteAt 0 = .ok (.iload_n 1, 1) := by decide +kernel
theorem dX10_byteAt_1 : decode cX10_byteAt 1 = .ok (.aload_n 0, 1) := by decide +kernel
theorem dX10_byteAt_2 : decode cX10_byteAt 2 = .ok (.getfield 130, 3) := by decide +kernel
theorem dX10_byteAt_5 : decode cX10_byteAt 5 = .ok (.if_icmp .ge 12, 3) := by decide +kernel
theorem dX10_byteAt_8 : decode cX10_byteAt 8 = .ok (.aload_n 0, 1) := by decide +kernel
theorem dX10_byteAt_9 : decode cX10_byteAt 9 = .ok (.getfield 35, 3) := by decide +kernel
theorem dX10_byteAt_12 : decode cX10_byteAt 12 = .ok (.iload_n 1, 1) := by decide +kernel
theorem dX10_byteAt_13 : decode cX10_byteAt 13 = .ok (.iaload, 1) := by decide +kernel
theorem dX10_byteAt_14 : decode cX10_byteAt 14 = .ok (.goto 4, 3) := by decide +kernel
theorem dX10_byteAt_17 : decode cX10_byteAt 17 = .ok (.iconst 0, 1) := by decide +kernel
theorem dX10_byteAt_18 : decode cX10_byteAt 18 = .ok (.ireturn, 1) := by decide +kernel
theorem dX10_isLetter_0 : decode cX10_isLetter 0 = .ok (.iload_n 0, 1) := by decide +kernel
theorem dX10_isLetter_1 : decode cX10_isLetter 1 = .ok (.bipush 97, 2) := by decide +kernel
theorem dX10_isLetter_3 : decode cX10_isLetter 3 = .ok (.if_icmp .lt 13, 3) := by decide +kernel
theorem dX10_isLetter_6 : decode cX10_isLetter 6 = .ok (.iload_n 0, 1) := by decide +kernel
theorem dX10_isLetter_7 : decode cX10_isLetter 7 = .ok (.bipush 122, 2) := by decide +kernel
theorem dX10_isLetter_9 : decode cX10_isLetter 9 = .ok (.if_icmp .gt 7, 3) := by decide +kernel
theorem dX10_isLetter_12 : decode cX10_isLetter 12 = .ok (.iconst 1, 1) := by decide +kernel
theorem dX10_isLetter_13 : decode cX10_isLetter 13 = .ok (.goto 4, 3) := by decide +kernel
theorem dX10_isLetter_16 : decode cX10_isLetter 16 = .ok (.iconst 0, 1) := by decide +kernel
theorem dX10_isLetter_17 : decode cX10_isLetter 17 = .ok (.ireturn, 1) := by decide +kernel
theorem dX10_isDigit_0 : decode cX10_isDigit 0 = .ok (.iload_n 0, 1) := by decide +kernel
theorem dX10_isDigit_1 : decode cX10_isDigit 1 = .ok (.bipush 48, 2) := by decide +kernel
theorem dX10_isDigit_3 : decode cX10_isDigit 3 = .ok (.if_icmp .lt 13, 3) := by decide +kernel
theorem dX10_isDigit_6 : decode cX10_isDigit 6 = .ok (.iload_n 0, 1) := by decide +kernel
theorem dX10_isDigit_7 : decode cX10_isDigit 7 = .ok (.bipush 57, 2) := by decide +kernel
theorem dX10_isDigit_9 : decode cX10_isDigit 9 = .ok (.if_icmp .gt 7, 3) := by decide +kernel
theorem dX10_isDigit_12 : decode cX10_isDigit 12 = .ok (.iconst 1, 1) := by decide +kernel
theorem dX10_isDigit_13 : decode cX10_isDigit 13 = .ok (.goto 4, 3) := by decide +kernel
theorem dX10_isDigit_16 : decode cX10_isDigit 16 = .ok (.iconst 0, 1) := by decide +kernel
theorem dX10_isDigit_17 : decode cX10_isDigit 17 = .ok (.ireturn, 1) := by decide +kernel
theorem dX10_goes_0 : decode cX10_goes 0 = .ok (.aload_n 0, 1) := by decide +kernel
theorem dX10_goes_1 : decode cX10_goes 1 = .ok (.getfield 133, 3) := by decide +kernel
theorem dX10_goes_4 : decode cX10_goes 4 = .ok (.aload_n 0, 1) := by decide +kernel
theorem dX10_goes_5 : decode cX10_goes 5 = .ok (.getfield 130, 3) := by decide +kernel
theorem dX10_goes_8 : decode cX10_goes 8 = .ok (.if_icmp .ge 42, 3) := by decide +kernel
theorem dX10_goes_11 : decode cX10_goes 11 = .ok (.aload_n 0, 1) := by decide +kernel
theorem dX10_goes_12 : decode cX10_goes 12 = .ok (.aload_n 0, 1) := by decide +kernel
theorem dX10_goes_13 : decode cX10_goes 13 = .ok (.getfield 133, 3) := by decide +kernel
theorem dX10_goes_16 : decode cX10_goes 16 = .ok (.invokevirtual 136, 3) := by decide +kernel
theorem dX10_goes_19 : decode cX10_goes 19 = .ok (.bipush 32, 2) := by decide +kernel
theorem dX10_goes_21 : decode cX10_goes 21 = .ok (.if_icmp .eq 16, 3) := by decide +kernel
theorem dX10_goes_24 : decode cX10_goes 24 = .ok (.aload_n 0, 1) := by decide +kernel
theorem dX10_goes_25 : decode cX10_goes 25 = .ok (.aload_n 0, 1) := by decide +kernel
theorem dX10_goes_26 : decode cX10_goes 26 = .ok (.getfield 133, 3) := by decide +kernel
theorem dX10_goes_29 : decode cX10_goes 29 = .ok (.invokevirtual 136, 3) := by decide +kernel
theorem dX10_goes_32 : decode cX10_goes 32 = .ok (.bipush 10, 2) := by decide +kernel
theorem dX10_goes_34 : decode cX10_goes 34 = .ok (.if_icmp .ne 16, 3) := by decide +kernel
theorem dX10_goes_37 : decode cX10_goes 37 = .ok (.aload_n 0, 1) := by decide +kernel
theorem dX10_goes_38 : decode cX10_goes 38 = .ok (.dup, 1) := by decide +kernel
theorem dX10_goes_39 : decode cX10_goes 39 = .ok (.getfield 133, 3) := by decide +kernel
theorem dX10_goes_42 : decode cX10_goes 42 = .ok (.iconst 1, 1) := by decide +kernel
theorem dX10_goes_43 : decode cX10_goes 43 = .ok (.iadd, 1) := by decide +kernel
theorem dX10_goes_44 : decode cX10_goes 44 = .ok (.putfield 133, 3) := by decide +kernel
theorem dX10_goes_47 : decode cX10_goes 47 = .ok (.goto (-47), 3) := by decide +kernel
theorem dX10_goes_50 : decode cX10_goes 50 = .ok (.aload_n 0, 1) := by decide +kernel
theorem dX10_goes_51 : decode cX10_goes 51 = .ok (.aload_n 0, 1) := by decide +kernel
theorem dX10_goes_52 : decode cX10_goes 52 = .ok (.getfield 133, 3) := by decide +kernel
theorem dX10_goes_55 : decode cX10_goes 55 = .ok (.putfield 140, 3) := by decide +kernel
theorem dX10_goes_58 : decode cX10_goes 58 = .ok (.aload_n 0, 1) := by decide +kernel
theorem dX10_goes_59 : decode cX10_goes 59 = .ok (.lconst 0, 1) := by decide +kernel
theorem dX10_goes_60 : decode cX10_goes 60 = .ok (.putfield 143, 3) := by decide +kernel
theorem dX10_goes_63 : decode cX10_goes 63 = .ok (.aload_n 0, 1) := by decide +kernel
theorem dX10_goes_64 : decode cX10_goes 64 = .ok (.iconst 0, 1) := by decide +kernel
theorem dX10_goes_65 : decode cX10_goes 65 = .ok (.putfield 147, 3) := by decide +kernel
theorem dX10_goes_68 : decode cX10_goes 68 = .ok (.aload_n 0, 1) := by decide +kernel
theorem dX10_goes_69 : decode cX10_goes 69 = .ok (.aload_n 0, 1) := by decide +kernel
theorem dX10_goes_70 : decode cX10_goes 70 = .ok (.getfield 133, 3) := by decide +kernel
theorem dX10_goes_73 : decode cX10_goes 73 = .ok (.invokevirtual 136, 3) := by decide +kernel
theorem dX10_goes_76 : decode cX10_goes 76 = .ok (.istore_n 1, 1) := by decide +kernel
theorem dX10_goes_77 : decode cX10_goes 77 = .ok (.aload_n 0, 1) := by decide +kernel
theorem dX10_goes_78 : decode cX10_goes 78 = .ok (.iload_n 1, 1) := by decide +kernel
theorem dX10_goes_79 : decode cX10_goes 79 = .ok (.putfield 150, 3) := by decide +kernel
theorem dX10_goes_82 : decode cX10_goes 82 = .ok (.aload_n 0, 1) := by decide +kernel
theorem dX10_goes_83 : decode cX10_goes 83 = .ok (.getfield 133, 3) := by decide +kernel
theorem dX10_goes_86 : decode cX10_goes 86 = .ok (.aload_n 0, 1) := by decide +kernel
theorem dX10_goes_87 : decode cX10_goes 87 = .ok (.getfield 130, 3) := by decide +kernel
theorem dX10_goes_90 : decode cX10_goes 90 = .ok (.if_icmp .lt 11, 3) := by decide +kernel
theorem dX10_goes_93 : decode cX10_goes 93 = .ok (.aload_n 0, 1) := by decide +kernel
theorem dX10_goes_94 : decode cX10_goes 94 = .ok (.iconst 0, 1) := by decide +kernel
theorem dX10_goes_95 : decode cX10_goes 95 = .ok (.putfield 153, 3) := by decide +kernel
theorem dX10_goes_98 : decode cX10_goes 98 = .ok (.goto 233, 3) := by decide +kernel
theorem dX10_goes_101 : decode cX10_goes 101 = .ok (.iload_n 1, 1) := by decide +kernel
theorem dX10_goes_102 : decode cX10_goes 102 = .ok (.invokestatic 156, 3) := by decide +kernel
theorem dX10_goes_105 : decode cX10_goes 105 = .ok (.ifCond .eq 75, 3) := by decide +kernel
theorem dX10_goes_108 : decode cX10_goes 108 = .ok (.aload_n 0, 1) := by decide +kernel
theorem dX10_goes_109 : decode cX10_goes 109 = .ok (.aload_n 0, 1) := by decide +kernel
theorem dX10_goes_110 : decode cX10_goes 110 = .ok (.getfield 133, 3) := by decide +kernel
theorem dX10_goes_113 : decode cX10_goes 113 = .ok (.invokevirtual 136, 3) := by decide +kernel
theorem dX10_goes_116 : decode cX10_goes 116 = .ok (.invokestatic 156, 3) := by decide +kernel
theorem dX10_goes_119 : decode cX10_goes 119 = .ok (.ifCond .eq 53, 3) := by decide +kernel
theorem dX10_goes_122 : decode cX10_goes 122 = .ok (.aload_n 0, 1) := by decide +kernel
theorem dX10_goes_123 : decode cX10_goes 123 = .ok (.getfield 133, 3) := by decide +kernel
theorem dX10_goes_126 : decode cX10_goes 126 = .ok (.aload_n 0, 1) := by decide +kernel
theorem dX10_goes_127 : decode cX10_goes 127 = .ok (.getfield 140, 3) := by decide +kernel
theorem dX10_goes_130 : decode cX10_goes 130 = .ok (.isub, 1) := by decide +kernel
theorem dX10_goes_131 : decode cX10_goes 131 = .ok (.bipush 6, 2) := by decide +kernel
theorem dX10_goes_133 : decode cX10_goes 133 = .ok (.if_icmp .ge 26, 3) := by decide +kernel
theorem dX10_goes_136 : decode cX10_goes 136 = .ok (.aload_n 0, 1) := by decide +kernel
theorem dX10_goes_137 : decode cX10_goes 137 = .ok (.aload_n 0, 1) := by decide +kernel
theorem dX10_goes_138 : decode cX10_goes 138 = .ok (.getfield 143, 3) := by decide +kernel
theorem dX10_goes_141 : decode cX10_goes 141 = .ok (.iconst 5, 1) := by decide +kernel
theorem dX10_goes_142 : decode cX10_goes 142 = .ok (.lshl, 1) := by decide +kernel
theorem dX10_goes_143 : decode cX10_goes 143 = .ok (.aload_n 0, 1) := by decide +kernel
theorem dX10_goes_144 : decode cX10_goes 144 = .ok (.aload_n 0, 1) := by decide +kernel
theorem dX10_goes_145 : decode cX10_goes 145 = .ok (.getfield 133, 3) := by decide +kernel
theorem dX10_goes_148 : decode cX10_goes 148 = .ok (.invokevirtual 136, 3) := by decide +kernel
theorem dX10_goes_151 : decode cX10_goes 151 = .ok (.bipush 96, 2) := by decide +kernel
theorem dX10_goes_153 : decode cX10_goes 153 = .ok (.isub, 1) := by decide +kernel
theorem dX10_goes_154 : decode cX10_goes 154 = .ok (.i2l, 1) := by decide +kernel
theorem dX10_goes_155 : decode cX10_goes 155 = .ok (.lor, 1) := by decide +kernel
theorem dX10_goes_156 : decode cX10_goes 156 = .ok (.putfield 143, 3) := by decide +kernel
theorem dX10_goes_159 : decode cX10_goes 159 = .ok (.aload_n 0, 1) := by decide +kernel
theorem dX10_goes_160 : decode cX10_goes 160 = .ok (.dup, 1) := by decide +kernel
theorem dX10_goes_161 : decode cX10_goes 161 = .ok (.getfield 133, 3) := by decide +kernel
theorem dX10_goes_164 : decode cX10_goes 164 = .ok (.iconst 1, 1) := by decide +kernel
theorem dX10_goes_165 : decode cX10_goes 165 = .ok (.iadd, 1) := by decide +kernel
theorem dX10_goes_166 : decode cX10_goes 166 = .ok (.putfield 133, 3) := by decide +kernel
theorem dX10_goes_169 : decode cX10_goes 169 = .ok (.goto (-61), 3) := by decide +kernel
theorem dX10_goes_172 : decode cX10_goes 172 = .ok (.aload_n 0, 1) := by decide +kernel
theorem dX10_goes_173 : decode cX10_goes 173 = .ok (.iconst 1, 1) := by decide +kernel
theorem dX10_goes_174 : decode cX10_goes 174 = .ok (.putfield 153, 3) := by decide +kernel
theorem dX10_goes_177 : decode cX10_goes 177 = .ok (.goto 154, 3) := by decide +kernel
theorem dX10_goes_180 : decode cX10_goes 180 = .ok (.iload_n 1, 1) := by decide +kernel
theorem dX10_goes_181 : decode cX10_goes 181 = .ok (.invokestatic 160, 3) := by decide +kernel
theorem dX10_goes_184 : decode cX10_goes 184 = .ok (.ifCond .eq 74, 3) := by decide +kernel
theorem dX10_goes_187 : decode cX10_goes 187 = .ok (.aload_n 0, 1) := by decide +kernel
theorem dX10_goes_188 : decode cX10_goes 188 = .ok (.aload_n 0, 1) := by decide +kernel
theorem dX10_goes_189 : decode cX10_goes 189 = .ok (.getfield 133, 3) := by decide +kernel
theorem dX10_goes_192 : decode cX10_goes 192 = .ok (.invokevirtual 136, 3) := by decide +kernel
theorem dX10_goes_195 : decode cX10_goes 195 = .ok (.invokestatic 160, 3) := by decide +kernel
theorem dX10_goes_198 : decode cX10_goes 198 = .ok (.ifCond .eq 52, 3) := by decide +kernel
theorem dX10_goes_201 : decode cX10_goes 201 = .ok (.aload_n 0, 1) := by decide +kernel
theorem dX10_goes_202 : decode cX10_goes 202 = .ok (.getfield 133, 3) := by decide +kernel
theorem dX10_goes_205 : decode cX10_goes 205 = .ok (.aload_n 0, 1) := by decide +kernel
theorem dX10_goes_206 : decode cX10_goes 206 = .ok (.getfield 140, 3) := by decide +kernel
theorem dX10_goes_209 : decode cX10_goes 209 = .ok (.isub, 1) := by decide +kernel
theorem dX10_goes_210 : decode cX10_goes 210 = .ok (.iconst 4, 1) := by decide +kernel
theorem dX10_goes_211 : decode cX10_goes 211 = .ok (.if_icmp .ge 26, 3) := by decide +kernel
theorem dX10_goes_214 : decode cX10_goes 214 = .ok (.aload_n 0, 1) := by decide +kernel
theorem dX10_goes_215 : decode cX10_goes 215 = .ok (.bipush 10, 2) := by decide +kernel
theorem dX10_goes_217 : decode cX10_goes 217 = .ok (.aload_n 0, 1) := by decide +kernel
theorem dX10_goes_218 : decode cX10_goes 218 = .ok (.getfield 147, 3) := by decide +kernel
theorem dX10_goes_221 : decode cX10_goes 221 = .ok (.imul, 1) := by decide +kernel
theorem dX10_goes_222 : decode cX10_goes 222 = .ok (.aload_n 0, 1) := by decide +kernel
theorem dX10_goes_223 : decode cX10_goes 223 = .ok (.aload_n 0, 1) := by decide +kernel
theorem dX10_goes_224 : decode cX10_goes 224 = .ok (.getfield 133, 3) := by decide +kernel
theorem dX10_goes_227 : decode cX10_goes 227 = .ok (.invokevirtual 136, 3) := by decide +kernel
theorem dX10_goes_230 : decode cX10_goes 230 = .ok (.iadd, 1) := by decide +kernel
theorem dX10_goes_231 : decode cX10_goes 231 = .ok (.bipush 48, 2) := by decide +kernel
theorem dX10_goes_233 : decode cX10_goes 233 = .ok (.isub, 1) := by decide +kernel
theorem dX10_goes_234 : decode cX10_goes 234 = .ok (.putfield 147, 3) := by decide +kernel
theorem dX10_goes_237 : decode cX10_goes 237 = .ok (.aload_n 0, 1) := by decide +kernel
theorem dX10_goes_238 : decode cX10_goes 238 = .ok (.dup, 1) := by decide +kernel
theorem dX10_goes_239 : decode cX10_goes 239 = .ok (.getfield 133, 3) := by decide +kernel
theorem dX10_goes_242 : decode cX10_goes 242 = .ok (.iconst 1, 1) := by decide +kernel
theorem dX10_goes_243 : decode cX10_goes 243 = .ok (.iadd, 1) := by decide +kernel
theorem dX10_goes_244 : decode cX10_goes 244 = .ok (.putfield 133, 3) := by decide +kernel
theorem dX10_goes_247 : decode cX10_goes 247 = .ok (.goto (-60), 3) := by decide +kernel
theorem dX10_goes_250 : decode cX10_goes 250 = .ok (.aload_n 0, 1) := by decide +kernel
theorem dX10_goes_251 : decode cX10_goes 251 = .ok (.iconst 2, 1) := by decide +kernel
theorem dX10_goes_252 : decode cX10_goes 252 = .ok (.putfield 153, 3) := by decide +kernel
theorem dX10_goes_255 : decode cX10_goes 255 = .ok (.goto 76, 3) := by decide +kernel
theorem dX10_goes_258 : decode cX10_goes 258 = .ok (.aload_n 0, 1) := by decide +kernel
theorem dX10_goes_259 : decode cX10_goes 259 = .ok (.dup, 1) := by decide +kernel
theorem dX10_goes_260 : decode cX10_goes 260 = .ok (.getfield 133, 3) := by decide +kernel
theorem dX10_goes_263 : decode cX10_goes 263 = .ok (.iconst 1, 1) := by decide +kernel
theorem dX10_goes_264 : decode cX10_goes 264 = .ok (.iadd, 1) := by decide +kernel
theorem dX10_goes_265 : decode cX10_goes 265 = .ok (.putfield 133, 3) := by decide +kernel
theorem dX10_goes_268 : decode cX10_goes 268 = .ok (.aload_n 0, 1) := by decide +kernel
theorem dX10_goes_269 : decode cX10_goes 269 = .ok (.iload_n 1, 1) := by decide +kernel
theorem dX10_goes_270 : decode cX10_goes 270 = .ok (.bipush 59, 2) := by decide +kernel
theorem dX10_goes_272 : decode cX10_goes 272 = .ok (.if_icmp .eq 51, 3) := by decide +kernel
theorem dX10_goes_275 : decode cX10_goes 275 = .ok (.iload_n 1, 1) := by decide +kernel
theorem dX10_goes_276 : decode cX10_goes 276 = .ok (.bipush 40, 2) := by decide +kernel
theorem dX10_goes_278 : decode cX10_goes 278 = .ok (.if_icmp .eq 45, 3) := by decide +kernel
theorem dX10_goes_281 : decode cX10_goes 281 = .ok (.iload_n 1, 1) := by decide +kernel
theorem dX10_goes_282 : decode cX10_goes 282 = .ok (.bipush 41, 2) := by decide +kernel
theorem dX10_goes_284 : decode cX10_goes 284 = .ok (.if_icmp .eq 39, 3) := by decide +kernel
theorem dX10_goes_287 : decode cX10_goes 287 = .ok (.iload_n 1, 1) := by decide +kernel
theorem dX10_goes_288 : decode cX10_goes 288 = .ok (.bipush 43, 2) := by decide +kernel
theorem dX10_goes_290 : decode cX10_goes 290 = .ok (.if_icmp .eq 33, 3) := by decide +kernel
theorem dX10_goes_293 : decode cX10_goes 293 = .ok (.iload_n 1, 1) := by decide +kernel
theorem dX10_goes_294 : decode cX10_goes 294 = .ok (.bipush 45, 2) := by decide +kernel
theorem dX10_goes_296 : decode cX10_goes 296 = .ok (.if_icmp .eq 27, 3) := by decide +kernel
theorem dX10_goes_299 : decode cX10_goes 299 = .ok (.iload_n 1, 1) := by decide +kernel
theorem dX10_goes_300 : decode cX10_goes 300 = .ok (.bipush 42, 2) := by decide +kernel
theorem dX10_goes_302 : decode cX10_goes 302 = .ok (.if_icmp .eq 21, 3) := by decide +kernel
theorem dX10_goes_305 : decode cX10_goes 305 = .ok (.iload_n 1, 1) := by decide +kernel
theorem dX10_goes_306 : decode cX10_goes 306 = .ok (.bipush 47, 2) := by decide +kernel
theorem dX10_goes_308 : decode cX10_goes 308 = .ok (.if_icmp .eq 15, 3) := by decide +kernel
theorem dX10_goes_311 : decode cX10_goes 311 = .ok (.iload_n 1, 1) := by decide +kernel
theorem dX10_goes_312 : decode cX10_goes 312 = .ok (.bipush 60, 2) := by decide +kernel
theorem dX10_goes_314 : decode cX10_goes 314 = .ok (.if_icmp .eq 9, 3) := by decide +kernel
theorem dX10_goes_317 : decode cX10_goes 317 = .ok (.iload_n 1, 1) := by decide +kernel
theorem dX10_goes_318 : decode cX10_goes 318 = .ok (.bipush 61, 2) := by decide +kernel
theorem dX10_goes_320 : decode cX10_goes 320 = .ok (.if_icmp .ne 7, 3) := by decide +kernel
theorem dX10_goes_323 : decode cX10_goes 323 = .ok (.iconst 3, 1) := by decide +kernel
theorem dX10_goes_324 : decode cX10_goes 324 = .ok (.goto 4, 3) := by decide +kernel
theorem dX10_goes_327 : decode cX10_goes 327 = .ok (.iconst 4, 1) := by decide +kernel
theorem dX10_goes_328 : decode cX10_goes 328 = .ok (.putfield 153, 3) := by decide +kernel
theorem dX10_goes_331 : decode cX10_goes 331 = .ok (.aload_n 0, 1) := by decide +kernel
theorem dX10_goes_332 : decode cX10_goes 332 = .ok (.aload_n 0, 1) := by decide +kernel
theorem dX10_goes_333 : decode cX10_goes 333 = .ok (.getfield 133, 3) := by decide +kernel
theorem dX10_goes_336 : decode cX10_goes 336 = .ok (.aload_n 0, 1) := by decide +kernel
theorem dX10_goes_337 : decode cX10_goes 337 = .ok (.getfield 140, 3) := by decide +kernel
theorem dX10_goes_340 : decode cX10_goes 340 = .ok (.isub, 1) := by decide +kernel
theorem dX10_goes_341 : decode cX10_goes 341 = .ok (.putfield 163, 3) := by decide +kernel
theorem dX10_goes_344 : decode cX10_goes 344 = .ok (.return_, 1) := by decide +kernel
theorem dX10_spelled_0 : decode cX10_spelled 0 = .ok (.iload_n 0, 1) := by decide +kernel
theorem dX10_spelled_1 : decode cX10_spelled 1 = .ok (.i2l, 1) := by decide +kernel
theorem dX10_spelled_2 : decode cX10_spelled 2 = .ok (.ldc2_w 166, 3) := by decide +kernel
theorem dX10_spelled_5 : decode cX10_spelled 5 = .ok (.lsub, 1) := by decide +kernel
theorem dX10_spelled_6 : decode cX10_spelled 6 = .ok (.iconst 5, 1) := by decide +kernel
theorem dX10_spelled_7 : decode cX10_spelled 7 = .ok (.lshl, 1) := by decide +kernel
theorem dX10_spelled_8 : decode cX10_spelled 8 = .ok (.iload_n 1, 1) := by decide +kernel
theorem dX10_spelled_9 : decode cX10_spelled 9 = .ok (.bipush 96, 2) := by decide +kernel
theorem dX10_spelled_11 : decode cX10_spelled 11 = .ok (.isub, 1) := by decide +kernel
theorem dX10_spelled_12 : decode cX10_spelled 12 = .ok (.i2l, 1) := by decide +kernel
theorem dX10_spelled_13 : decode cX10_spelled 13 = .ok (.lor, 1) := by decide +kernel
theorem dX10_spelled_14 : decode cX10_spelled 14 = .ok (.lstore 6, 2) := by decide +kernel
theorem dX10_spelled_16 : decode cX10_spelled 16 = .ok (.iload_n 2, 1) := by decide +kernel
theorem dX10_spelled_17 : decode cX10_spelled 17 = .ok (.ifCond .eq 15, 3) := by decide +kernel
theorem dX10_spelled_20 : decode cX10_spelled 20 = .ok (.lload 6, 2) := by decide +kernel
theorem dX10_spelled_22 : decode cX10_spelled 22 = .ok (.iconst 5, 1) := by decide +kernel
theorem dX10_spelled_23 : decode cX10_spelled 23 = .ok (.lshl, 1) := by decide +kernel
theorem dX10_spelled_24 : decode cX10_spelled 24 = .ok (.iload_n 2, 1) := by decide +kernel
theorem dX10_spelled_25 : decode cX10_spelled 25 = .ok (.bipush 96, 2) := by decide +kernel
theorem dX10_spelled_27 : decode cX10_spelled 27 = .ok (.isub, 1) := by decide +kernel
theorem dX10_spelled_28 : decode cX10_spelled 28 = .ok (.i2l, 1) := by decide +kernel
theorem dX10_spelled_29 : decode cX10_spelled 29 = .ok (.lor, 1) := by decide +kernel
theorem dX10_spelled_30 : decode cX10_spelled 30 = .ok (.lstore 6, 2) := by decide +kernel
theorem dX10_spelled_32 : decode cX10_spelled 32 = .ok (.iload_n 3, 1) := by decide +kernel
theorem dX10_spelled_33 : decode cX10_spelled 33 = .ok (.ifCond .eq 15, 3) := by decide +kernel
theorem dX10_spelled_36 : decode cX10_spelled 36 = .ok (.lload 6, 2) := by decide +kernel
theorem dX10_spelled_38 : decode cX10_spelled 38 = .ok (.iconst 5, 1) := by decide +kernel
theorem dX10_spelled_39 : decode cX10_spelled 39 = .ok (.lshl, 1) := by decide +kernel
theorem dX10_spelled_40 : decode cX10_spelled 40 = .ok (.iload_n 3, 1) := by decide +kernel
theorem dX10_spelled_41 : decode cX10_spelled 41 = .ok (.bipush 96, 2) := by decide +kernel
theorem dX10_spelled_43 : decode cX10_spelled 43 = .ok (.isub, 1) := by decide +kernel
theorem dX10_spelled_44 : decode cX10_spelled 44 = .ok (.i2l, 1) := by decide +kernel
theorem dX10_spelled_45 : decode cX10_spelled 45 = .ok (.lor, 1) := by decide +kernel
theorem dX10_spelled_46 : decode cX10_spelled 46 = .ok (.lstore 6, 2) := by decide +kernel
theorem dX10_spelled_48 : decode cX10_spelled 48 = .ok (.iload 4, 2) := by decide +kernel
theorem dX10_spelled_50 : decode cX10_spelled 50 = .ok (.ifCond .eq 16, 3) := by decide +kernel
theorem dX10_spelled_53 : decode cX10_spelled 53 = .ok (.lload 6, 2) := by decide +kernel
theorem dX10_spelled_55 : decode cX10_spelled 55 = .ok (.iconst 5, 1) := by decide +kernel
theorem dX10_spelled_56 : decode cX10_spelled 56 = .ok (.lshl, 1) := by decide +kernel
theorem dX10_spelled_57 : decode cX10_spelled 57 = .ok (.iload 4, 2) := by decide +kernel
theorem dX10_spelled_59 : decode cX10_spelled 59 = .ok (.bipush 96, 2) := by decide +kernel
theorem dX10_spelled_61 : decode cX10_spelled 61 = .ok (.isub, 1) := by decide +kernel
theorem dX10_spelled_62 : decode cX10_spelled 62 = .ok (.i2l, 1) := by decide +kernel
theorem dX10_spelled_63 : decode cX10_spelled 63 = .ok (.lor, 1) := by decide +kernel
theorem dX10_spelled_64 : decode cX10_spelled 64 = .ok (.lstore 6, 2) := by decide +kernel
theorem dX10_spelled_66 : decode cX10_spelled 66 = .ok (.iload 5, 2) := by decide +kernel
theorem dX10_spelled_68 : decode cX10_spelled 68 = .ok (.ifCond .eq 16, 3) := by decide +kernel
theorem dX10_spelled_71 : decode cX10_spelled 71 = .ok (.lload 6, 2) := by decide +kernel
theorem dX10_spelled_73 : decode cX10_spelled 73 = .ok (.iconst 5, 1) := by decide +kernel
theorem dX10_spelled_74 : decode cX10_spelled 74 = .ok (.lshl, 1) := by decide +kernel
theorem dX10_spelled_75 : decode cX10_spelled 75 = .ok (.iload 5, 2) := by decide +kernel
theorem dX10_spelled_77 : decode cX10_spelled 77 = .ok (.bipush 96, 2) := by decide +kernel
theorem dX10_spelled_79 : decode cX10_spelled 79 = .ok (.isub, 1) := by decide +kernel
theorem dX10_spelled_80 : decode cX10_spelled 80 = .ok (.i2l, 1) := by decide +kernel
theorem dX10_spelled_81 : decode cX10_spelled 81 = .ok (.lor, 1) := by decide +kernel
theorem dX10_spelled_82 : decode cX10_spelled 82 = .ok (.lstore 6, 2) := by decide +kernel
theorem dX10_spelled_84 : decode cX10_spelled 84 = .ok (.lload 6, 2) := by decide +kernel
theorem dX10_spelled_86 : decode cX10_spelled 86 = .ok (.lreturn, 1) := by decide +kernel
theorem dX10_letters_0 : decode cX10_letters 0 = .ok (.iload_n 0, 1) := by decide +kernel
theorem dX10_letters_1 : decode cX10_letters 1 = .ok (.tableswitch 286 0 14 #[75, 89, 104, 119, 133, 147, 160, 173, 189, 203, 217, 231, 246, 261, 274], 75) := by decide +kernel
theorem dX10_letters_76 : decode cX10_letters 76 = .ok (.bipush 108, 2) := by decide +kernel
theorem dX10_letters_78 : decode cX10_letters 78 = .ok (.bipush 97, 2) := by decide +kernel
theorem dX10_letters_80 : decode cX10_letters 80 = .ok (.bipush 116, 2) := by decide +kernel
theorem dX10_letters_82 : decode cX10_letters 82 = .ok (.bipush 101, 2) := by decide +kernel
theorem dX10_letters_84 : decode cX10_letters 84 = .ok (.iconst 0, 1) := by decide +kernel
theorem dX10_letters_85 : decode cX10_letters 85 = .ok (.iconst 0, 1) := by decide +kernel
theorem dX10_letters_86 : decode cX10_letters 86 = .ok (.invokestatic 168, 3) := by decide +kernel
theorem dX10_letters_89 : decode cX10_letters 89 = .ok (.lreturn, 1) := by decide +kernel
theorem dX10_letters_90 : decode cX10_letters 90 = .ok (.bipush 104, 2) := by decide +kernel
theorem dX10_letters_92 : decode cX10_letters 92 = .ok (.bipush 97, 2) := by decide +kernel
theorem dX10_letters_94 : decode cX10_letters 94 = .ok (.bipush 98, 2) := by decide +kernel
theorem dX10_letters_96 : decode cX10_letters 96 = .ok (.bipush 105, 2) := by decide +kernel
theorem dX10_letters_98 : decode cX10_letters 98 = .ok (.bipush 116, 2) := by decide +kernel
theorem dX10_letters_100 : decode cX10_letters 100 = .ok (.iconst 0, 1) := by decide +kernel
theorem dX10_letters_101 : decode cX10_letters 101 = .ok (.invokestatic 168, 3) := by decide +kernel
theorem dX10_letters_104 : decode cX10_letters 104 = .ok (.lreturn, 1) := by decide +kernel
theorem dX10_letters_105 : decode cX10_letters 105 = .ok (.bipush 104, 2) := by decide +kernel
theorem dX10_letters_107 : decode cX10_letters 107 = .ok (.bipush 97, 2) := by decide +kernel
theorem dX10_letters_109 : decode cX10_letters 109 = .ok (.bipush 115, 2) := by decide +kernel
theorem dX10_letters_111 : decode cX10_letters 111 = .ok (.bipush 116, 2) := by decide +kernel
theorem dX10_letters_113 : decode cX10_letters 113 = .ok (.bipush 101, 2) := by decide +kernel
theorem dX10_letters_115 : decode cX10_letters 115 = .ok (.iconst 0, 1) := by decide +kernel
theorem dX10_letters_116 : decode cX10_letters 116 = .ok (.invokestatic 168, 3) := by decide +kernel
theorem dX10_letters_119 : decode cX10_letters 119 = .ok (.lreturn, 1) := by decide +kernel
theorem dX10_letters_120 : decode cX10_letters 120 = .ok (.bipush 114, 2) := by decide +kernel
theorem dX10_letters_122 : decode cX10_letters 122 = .ok (.bipush 117, 2) := by decide +kernel
theorem dX10_letters_124 : decode cX10_letters 124 = .ok (.bipush 110, 2) := by decide +kernel
theorem dX10_letters_126 : decode cX10_letters 126 = .ok (.bipush 103, 2) := by decide +kernel
theorem dX10_letters_128 : decode cX10_letters 128 = .ok (.iconst 0, 1) := by decide +kernel
theorem dX10_letters_129 : decode cX10_letters 129 = .ok (.iconst 0, 1) := by decide +kernel
theorem dX10_letters_130 : decode cX10_letters 130 = .ok (.invokestatic 168, 3) := by decide +kernel
theorem dX10_letters_133 : decode cX10_letters 133 = .ok (.lreturn, 1) := by decide +kernel
theorem dX10_letters_134 : decode cX10_letters 134 = .ok (.bipush 100, 2) := by decide +kernel
theorem dX10_letters_136 : decode cX10_letters 136 = .ok (.bipush 117, 2) := by decide +kernel
theorem dX10_letters_138 : decode cX10_letters 138 = .ok (.bipush 116, 2) := by decide +kernel
theorem dX10_letters_140 : decode cX10_letters 140 = .ok (.bipush 121, 2) := by decide +kernel
theorem dX10_letters_142 : decode cX10_letters 142 = .ok (.iconst 0, 1) := by decide +kernel
theorem dX10_letters_143 : decode cX10_letters 143 = .ok (.iconst 0, 1) := by decide +kernel
theorem dX10_letters_144 : decode cX10_letters 144 = .ok (.invokestatic 168, 3) := by decide +kernel
theorem dX10_letters_147 : decode cX10_letters 147 = .ok (.lreturn, 1) := by decide +kernel
theorem dX10_letters_148 : decode cX10_letters 148 = .ok (.bipush 100, 2) := by decide +kernel
theorem dX10_letters_150 : decode cX10_letters 150 = .ok (.bipush 97, 2) := by decide +kernel
theorem dX10_letters_152 : decode cX10_letters 152 = .ok (.bipush 121, 2) := by decide +kernel
theorem dX10_letters_154 : decode cX10_letters 154 = .ok (.iconst 0, 1) := by decide +kernel
theorem dX10_letters_155 : decode cX10_letters 155 = .ok (.iconst 0, 1) := by decide +kernel
theorem dX10_letters_156 : decode cX10_letters 156 = .ok (.iconst 0, 1) := by decide +kernel
theorem dX10_letters_157 : decode cX10_letters 157 = .ok (.invokestatic 168, 3) := by decide +kernel
theorem dX10_letters_160 : decode cX10_letters 160 = .ok (.lreturn, 1) := by decide +kernel
theorem dX10_letters_161 : decode cX10_letters 161 = .ok (.bipush 119, 2) := by decide +kernel
theorem dX10_letters_163 : decode cX10_letters 163 = .ok (.bipush 97, 2) := by decide +kernel
theorem dX10_letters_165 : decode cX10_letters 165 = .ok (.bipush 121, 2) := by decide +kernel
theorem dX10_letters_167 : decode cX10_letters 167 = .ok (.iconst 0, 1) := by decide +kernel
theorem dX10_letters_168 : decode cX10_letters 168 = .ok (.iconst 0, 1) := by decide +kernel
theorem dX10_letters_169 : decode cX10_letters 169 = .ok (.iconst 0, 1) := by decide +kernel
theorem dX10_letters_170 : decode cX10_letters 170 = .ok (.invokestatic 168, 3) := by decide +kernel
theorem dX10_letters_173 : decode cX10_letters 173 = .ok (.lreturn, 1) := by decide +kernel
theorem dX10_letters_174 : decode cX10_letters 174 = .ok (.bipush 112, 2) := by decide +kernel
theorem dX10_letters_176 : decode cX10_letters 176 = .ok (.bipush 101, 2) := by decide +kernel
theorem dX10_letters_178 : decode cX10_letters 178 = .ok (.bipush 114, 2) := by decide +kernel
theorem dX10_letters_180 : decode cX10_letters 180 = .ok (.bipush 115, 2) := by decide +kernel
theorem dX10_letters_182 : decode cX10_letters 182 = .ok (.bipush 111, 2) := by decide +kernel
theorem dX10_letters_184 : decode cX10_letters 184 = .ok (.bipush 110, 2) := by decide +kernel
theorem dX10_letters_186 : decode cX10_letters 186 = .ok (.invokestatic 168, 3) := by decide +kernel
theorem dX10_letters_189 : decode cX10_letters 189 = .ok (.lreturn, 1) := by decide +kernel
theorem dX10_letters_190 : decode cX10_letters 190 = .ok (.bipush 109, 2) := by decide +kernel
theorem dX10_letters_192 : decode cX10_letters 192 = .ok (.bipush 117, 2) := by decide +kernel
theorem dX10_letters_194 : decode cX10_letters 194 = .ok (.bipush 108, 2) := by decide +kernel
theorem dX10_letters_196 : decode cX10_letters 196 = .ok (.bipush 101, 2) := by decide +kernel
theorem dX10_letters_198 : decode cX10_letters 198 = .ok (.iconst 0, 1) := by decide +kernel
theorem dX10_letters_199 : decode cX10_letters 199 = .ok (.iconst 0, 1) := by decide +kernel
theorem dX10_letters_200 : decode cX10_letters 200 = .ok (.invokestatic 168, 3) := by decide +kernel
theorem dX10_letters_203 : decode cX10_letters 203 = .ok (.lreturn, 1) := by decide +kernel
theorem dX10_letters_204 : decode cX10_letters 204 = .ok (.bipush 99, 2) := by decide +kernel
theorem dX10_letters_206 : decode cX10_letters 206 = .ok (.bipush 111, 2) := by decide +kernel
theorem dX10_letters_208 : decode cX10_letters 208 = .ok (.bipush 111, 2) := by decide +kernel
theorem dX10_letters_210 : decode cX10_letters 210 = .ok (.bipush 107, 2) := by decide +kernel
theorem dX10_letters_212 : decode cX10_letters 212 = .ok (.iconst 0, 1) := by decide +kernel
theorem dX10_letters_213 : decode cX10_letters 213 = .ok (.iconst 0, 1) := by decide +kernel
theorem dX10_letters_214 : decode cX10_letters 214 = .ok (.invokestatic 168, 3) := by decide +kernel
theorem dX10_letters_217 : decode cX10_letters 217 = .ok (.lreturn, 1) := by decide +kernel
theorem dX10_letters_218 : decode cX10_letters 218 = .ok (.bipush 112, 2) := by decide +kernel
theorem dX10_letters_220 : decode cX10_letters 220 = .ok (.bipush 97, 2) := by decide +kernel
theorem dX10_letters_222 : decode cX10_letters 222 = .ok (.bipush 99, 2) := by decide +kernel
theorem dX10_letters_224 : decode cX10_letters 224 = .ok (.bipush 101, 2) := by decide +kernel
theorem dX10_letters_226 : decode cX10_letters 226 = .ok (.iconst 0, 1) := by decide +kernel
theorem dX10_letters_227 : decode cX10_letters 227 = .ok (.iconst 0, 1) := by decide +kernel
theorem dX10_letters_228 : decode cX10_letters 228 = .ok (.invokestatic 168, 3) := by decide +kernel
theorem dX10_letters_231 : decode cX10_letters 231 = .ok (.lreturn, 1) := by decide +kernel
theorem dX10_letters_232 : decode cX10_letters 232 = .ok (.bipush 114, 2) := by decide +kernel
theorem dX10_letters_234 : decode cX10_letters 234 = .ok (.bipush 105, 2) := by decide +kernel
theorem dX10_letters_236 : decode cX10_letters 236 = .ok (.bipush 110, 2) := by decide +kernel
theorem dX10_letters_238 : decode cX10_letters 238 = .ok (.bipush 103, 2) := by decide +kernel
theorem dX10_letters_240 : decode cX10_letters 240 = .ok (.bipush 115, 2) := by decide +kernel
theorem dX10_letters_242 : decode cX10_letters 242 = .ok (.iconst 0, 1) := by decide +kernel
theorem dX10_letters_243 : decode cX10_letters 243 = .ok (.invokestatic 168, 3) := by decide +kernel
theorem dX10_letters_246 : decode cX10_letters 246 = .ok (.lreturn, 1) := by decide +kernel
theorem dX10_letters_247 : decode cX10_letters 247 = .ok (.bipush 109, 2) := by decide +kernel
theorem dX10_letters_249 : decode cX10_letters 249 = .ok (.bipush 101, 2) := by decide +kernel
theorem dX10_letters_251 : decode cX10_letters 251 = .ok (.bipush 110, 2) := by decide +kernel
theorem dX10_letters_253 : decode cX10_letters 253 = .ok (.bipush 100, 2) := by decide +kernel
theorem dX10_letters_255 : decode cX10_letters 255 = .ok (.bipush 115, 2) := by decide +kernel
theorem dX10_letters_257 : decode cX10_letters 257 = .ok (.iconst 0, 1) := by decide +kernel
theorem dX10_letters_258 : decode cX10_letters 258 = .ok (.invokestatic 168, 3) := by decide +kernel
theorem dX10_letters_261 : decode cX10_letters 261 = .ok (.lreturn, 1) := by decide +kernel
theorem dX10_letters_262 : decode cX10_letters 262 = .ok (.bipush 97, 2) := by decide +kernel
theorem dX10_letters_264 : decode cX10_letters 264 = .ok (.bipush 110, 2) := by decide +kernel
theorem dX10_letters_266 : decode cX10_letters 266 = .ok (.bipush 100, 2) := by decide +kernel
theorem dX10_letters_268 : decode cX10_letters 268 = .ok (.iconst 0, 1) := by decide +kernel
theorem dX10_letters_269 : decode cX10_letters 269 = .ok (.iconst 0, 1) := by decide +kernel
theorem dX10_letters_270 : decode cX10_letters 270 = .ok (.iconst 0, 1) := by decide +kernel
theorem dX10_letters_271 : decode cX10_letters 271 = .ok (.invokestatic 168, 3) := by decide +kernel
theorem dX10_letters_274 : decode cX10_letters 274 = .ok (.lreturn, 1) := by decide +kernel
theorem dX10_letters_275 : decode cX10_letters 275 = .ok (.bipush 111, 2) := by decide +kernel
theorem dX10_letters_277 : decode cX10_letters 277 = .ok (.bipush 114, 2) := by decide +kernel
theorem dX10_letters_279 : decode cX10_letters 279 = .ok (.iconst 0, 1) := by decide +kernel
theorem dX10_letters_280 : decode cX10_letters 280 = .ok (.iconst 0, 1) := by decide +kernel
theorem dX10_letters_281 : decode cX10_letters 281 = .ok (.iconst 0, 1) := by decide +kernel
theorem dX10_letters_282 : decode cX10_letters 282 = .ok (.iconst 0, 1) := by decide +kernel
theorem dX10_letters_283 : decode cX10_letters 283 = .ok (.invokestatic 168, 3) := by decide +kernel
theorem dX10_letters_286 : decode cX10_letters 286 = .ok (.lreturn, 1) := by decide +kernel
theorem dX10_letters_287 : decode cX10_letters 287 = .ok (.bipush 110, 2) := by decide +kernel
theorem dX10_letters_289 : decode cX10_letters 289 = .ok (.bipush 111, 2) := by decide +kernel
theorem dX10_letters_291 : decode cX10_letters 291 = .ok (.bipush 116, 2) := by decide +kernel
theorem dX10_letters_293 : decode cX10_letters 293 = .ok (.iconst 0, 1) := by decide +kernel
theorem dX10_letters_294 : decode cX10_letters 294 = .ok (.iconst 0, 1) := by decide +kernel
theorem dX10_letters_295 : decode cX10_letters 295 = .ok (.iconst 0, 1) := by decide +kernel
theorem dX10_letters_296 : decode cX10_letters 296 = .ok (.invokestatic 168, 3) := by decide +kernel
theorem dX10_letters_299 : decode cX10_letters 299 = .ok (.lreturn, 1) := by decide +kernel
theorem dX10_knownWord_0 : decode cX10_knownWord 0 = .ok (.aload_n 0, 1) := by decide +kernel
theorem dX10_knownWord_1 : decode cX10_knownWord 1 = .ok (.getfield 153, 3) := by decide +kernel
theorem dX10_knownWord_4 : decode cX10_knownWord 4 = .ok (.iconst 1, 1) := by decide +kernel
theorem dX10_knownWord_5 : decode cX10_knownWord 5 = .ok (.if_icmp .ne 12, 3) := by decide +kernel
theorem dX10_knownWord_8 : decode cX10_knownWord 8 = .ok (.aload_n 0, 1) := by decide +kernel
theorem dX10_knownWord_9 : decode cX10_knownWord 9 = .ok (.getfield 163, 3) := by decide +kernel
theorem dX10_knownWord_12 : decode cX10_knownWord 12 = .ok (.bipush 6, 2) := by decide +kernel
theorem dX10_knownWord_14 : decode cX10_knownWord 14 = .ok (.if_icmp .le 5, 3) := by decide +kernel
theorem dX10_knownWord_17 : decode cX10_knownWord 17 = .ok (.iconst (-1), 1) := by decide +kernel
theorem dX10_knownWord_18 : decode cX10_knownWord 18 = .ok (.ireturn, 1) := by decide +kernel
theorem dX10_knownWord_19 : decode cX10_knownWord 19 = .ok (.iconst 0, 1) := by decide +kernel
theorem dX10_knownWord_20 : decode cX10_knownWord 20 = .ok (.istore_n 1, 1) := by decide +kernel
theorem dX10_knownWord_21 : decode cX10_knownWord 21 = .ok (.iload_n 1, 1) := by decide +kernel
theorem dX10_knownWord_22 : decode cX10_knownWord 22 = .ok (.bipush 16, 2) := by decide +kernel
theorem dX10_knownWord_24 : decode cX10_knownWord 24 = .ok (.if_icmp .ge 23, 3) := by decide +kernel
theorem dX10_knownWord_27 : decode cX10_knownWord 27 = .ok (.iload_n 1, 1) := by decide +kernel
theorem dX10_knownWord_28 : decode cX10_knownWord 28 = .ok (.invokestatic 172, 3) := by decide +kernel
theorem dX10_knownWord_31 : decode cX10_knownWord 31 = .ok (.aload_n 0, 1) := by decide +kernel
theorem dX10_knownWord_32 : decode cX10_knownWord 32 = .ok (.getfield 143, 3) := by decide +kernel
theorem dX10_knownWord_35 : decode cX10_knownWord 35 = .ok (.lcmp, 1) := by decide +kernel
theorem dX10_knownWord_36 : decode cX10_knownWord 36 = .ok (.ifCond .ne 5, 3) := by decide +kernel
theorem dX10_knownWord_39 : decode cX10_knownWord 39 = .ok (.iload_n 1, 1) := by decide +kernel
theorem dX10_knownWord_40 : decode cX10_knownWord 40 = .ok (.ireturn, 1) := by decide +kernel
theorem dX10_knownWord_41 : decode cX10_knownWord 41 = .ok (.iinc 1 1, 3) := by decide +kernel
theorem dX10_knownWord_44 : decode cX10_knownWord 44 = .ok (.goto (-23), 3) := by decide +kernel
theorem dX10_knownWord_47 : decode cX10_knownWord 47 = .ok (.iconst (-1), 1) := by decide +kernel
theorem dX10_knownWord_48 : decode cX10_knownWord 48 = .ok (.ireturn, 1) := by decide +kernel
theorem dX10_wrong_0 : decode cX10_wrong 0 = .ok (.aload_n 0, 1) := by decide +kernel
theorem dX10_wrong_1 : decode cX10_wrong 1 = .ok (.getfield 176, 3) := by decide +kernel
theorem dX10_wrong_4 : decode cX10_wrong 4 = .ok (.ifCond .eq 4, 3) := by decide +kernel
theorem dX10_wrong_7 : decode cX10_wrong 7 = .ok (.return_, 1) := by decide +kernel
theorem dX10_wrong_8 : decode cX10_wrong 8 = .ok (.aload_n 0, 1) := by decide +kernel
theorem dX10_wrong_9 : decode cX10_wrong 9 = .ok (.iload_n 1, 1) := by decide +kernel
theorem dX10_wrong_10 : decode cX10_wrong 10 = .ok (.putfield 176, 3) := by decide +kernel
theorem dX10_wrong_13 : decode cX10_wrong 13 = .ok (.aload_n 0, 1) := by decide +kernel
theorem dX10_wrong_14 : decode cX10_wrong 14 = .ok (.aload_n 0, 1) := by decide +kernel
theorem dX10_wrong_15 : decode cX10_wrong 15 = .ok (.getfield 140, 3) := by decide +kernel
theorem dX10_wrong_18 : decode cX10_wrong 18 = .ok (.putfield 38, 3) := by decide +kernel
theorem dX10_wrong_21 : decode cX10_wrong 21 = .ok (.return_, 1) := by decide +kernel
theorem dX10_isGood_0 : decode cX10_isGood 0 = .ok (.aload_n 0, 1) := by decide +kernel
theorem dX10_isGood_1 : decode cX10_isGood 1 = .ok (.getfield 176, 3) := by decide +kernel
theorem dX10_isGood_4 : decode cX10_isGood 4 = .ok (.ifCond .ne 7, 3) := by decide +kernel
theorem dX10_isGood_7 : decode cX10_isGood 7 = .ok (.iconst 1, 1) := by decide +kernel
theorem dX10_isGood_8 : decode cX10_isGood 8 = .ok (.goto 4, 3) := by decide +kernel
theorem dX10_isGood_11 : decode cX10_isGood 11 = .ok (.iconst 0, 1) := by decide +kernel
theorem dX10_isGood_12 : decode cX10_isGood 12 = .ok (.ireturn, 1) := by decide +kernel
theorem dX10_isSign_0 : decode cX10_isSign 0 = .ok (.aload_n 0, 1) := by decide +kernel
theorem dX10_isSign_1 : decode cX10_isSign 1 = .ok (.getfield 153, 3) := by decide +kernel
theorem dX10_isSign_4 : decode cX10_isSign 4 = .ok (.iconst 3, 1) := by decide +kernel
theorem dX10_isSign_5 : decode cX10_isSign 5 = .ok (.if_icmp .ne 15, 3) := by decide +kernel
theorem dX10_isSign_8 : decode cX10_isSign 8 = .ok (.aload_n 0, 1) := by decide +kernel
theorem dX10_isSign_9 : decode cX10_isSign 9 = .ok (.getfield 150, 3) := by decide +kernel
theorem dX10_isSign_12 : decode cX10_isSign 12 = .ok (.iload_n 1, 1) := by decide +kernel
theorem dX10_isSign_13 : decode cX10_isSign 13 = .ok (.if_icmp .ne 7, 3) := by decide +kernel
theorem dX10_isSign_16 : decode cX10_isSign 16 = .ok (.iconst 1, 1) := by decide +kernel
theorem dX10_isSign_17 : decode cX10_isSign 17 = .ok (.goto 4, 3) := by decide +kernel
theorem dX10_isSign_20 : decode cX10_isSign 20 = .ok (.iconst 0, 1) := by decide +kernel
theorem dX10_isSign_21 : decode cX10_isSign 21 = .ok (.ireturn, 1) := by decide +kernel
theorem dX10_need_0 : decode cX10_need 0 = .ok (.aload_n 0, 1) := by decide +kernel
theorem dX10_need_1 : decode cX10_need 1 = .ok (.invokevirtual 179, 3) := by decide +kernel
theorem dX10_need_4 : decode cX10_need 4 = .ok (.ifCond .ne 4, 3) := by decide +kernel
theorem dX10_need_7 : decode cX10_need 7 = .ok (.return_, 1) := by decide +kernel
theorem dX10_need_8 : decode cX10_need 8 = .ok (.iload_n 1, 1) := by decide +kernel
theorem dX10_need_9 : decode cX10_need 9 = .ok (.ifCond .eq 10, 3) := by decide +kernel
theorem dX10_need_12 : decode cX10_need 12 = .ok (.aload_n 0, 1) := by decide +kernel
theorem dX10_need_13 : decode cX10_need 13 = .ok (.invokevirtual 183, 3) := by decide +kernel
theorem dX10_need_16 : decode cX10_need 16 = .ok (.goto 8, 3) := by decide +kernel
theorem dX10_need_19 : decode cX10_need 19 = .ok (.aload_n 0, 1) := by decide +kernel
theorem dX10_need_20 : decode cX10_need 20 = .ok (.iconst 1, 1) := by decide +kernel
theorem dX10_need_21 : decode cX10_need 21 = .ok (.invokevirtual 186, 3) := by decide +kernel
theorem dX10_need_24 : decode cX10_need 24 = .ok (.return_, 1) := by decide +kernel
theorem dX10_number_0 : decode cX10_number 0 = .ok (.aload_n 0, 1) := by decide +kernel
theorem dX10_number_1 : decode cX10_number 1 = .ok (.invokevirtual 179, 3) := by decide +kernel
theorem dX10_number_4 : decode cX10_number 4 = .ok (.ifCond .ne 5, 3) := by decide +kernel
theorem dX10_number_7 : decode cX10_number 7 = .ok (.iconst 0, 1) := by decide +kernel
theorem dX10_number_8 : decode cX10_number 8 = .ok (.ireturn, 1) := by decide +kernel
theorem dX10_number_9 : decode cX10_number 9 = .ok (.aload_n 0, 1) := by decide +kernel
theorem dX10_number_10 : decode cX10_number 10 = .ok (.getfield 153, 3) := by decide +kernel
theorem dX10_number_13 : decode cX10_number 13 = .ok (.iconst 2, 1) := by decide +kernel
theorem dX10_number_14 : decode cX10_number 14 = .ok (.if_icmp .eq 11, 3) := by decide +kernel
theorem dX10_number_17 : decode cX10_number 17 = .ok (.aload_n 0, 1) := by decide +kernel
theorem dX10_number_18 : decode cX10_number 18 = .ok (.iconst 1, 1) := by decide +kernel
theorem dX10_number_19 : decode cX10_number 19 = .ok (.invokevirtual 186, 3) := by decide +kernel
theorem dX10_number_22 : decode cX10_number 22 = .ok (.goto 32, 3) := by decide +kernel
theorem dX10_number_25 : decode cX10_number 25 = .ok (.aload_n 0, 1) := by decide +kernel
theorem dX10_number_26 : decode cX10_number 26 = .ok (.getfield 163, 3) := by decide +kernel
theorem dX10_number_29 : decode cX10_number 29 = .ok (.iconst 4, 1) := by decide +kernel
theorem dX10_number_30 : decode cX10_number 30 = .ok (.if_icmp .gt 19, 3) := by decide +kernel
theorem dX10_number_33 : decode cX10_number 33 = .ok (.aload_n 0, 1) := by decide +kernel
theorem dX10_number_34 : decode cX10_number 34 = .ok (.getfield 147, 3) := by decide +kernel
theorem dX10_number_37 : decode cX10_number 37 = .ok (.iload_n 1, 1) := by decide +kernel
theorem dX10_number_38 : decode cX10_number 38 = .ok (.if_icmp .lt 11, 3) := by decide +kernel
theorem dX10_number_41 : decode cX10_number 41 = .ok (.aload_n 0, 1) := by decide +kernel
theorem dX10_number_42 : decode cX10_number 42 = .ok (.getfield 147, 3) := by decide +kernel
theorem dX10_number_45 : decode cX10_number 45 = .ok (.iload_n 2, 1) := by decide +kernel
theorem dX10_number_46 : decode cX10_number 46 = .ok (.if_icmp .le 8, 3) := by decide +kernel
theorem dX10_number_49 : decode cX10_number 49 = .ok (.aload_n 0, 1) := by decide +kernel
theorem dX10_number_50 : decode cX10_number 50 = .ok (.iconst 2, 1) := by decide +kernel
theorem dX10_number_51 : decode cX10_number 51 = .ok (.invokevirtual 186, 3) := by decide +kernel
theorem dX10_number_54 : decode cX10_number 54 = .ok (.aload_n 0, 1) := by decide +kernel
theorem dX10_number_55 : decode cX10_number 55 = .ok (.getfield 147, 3) := by decide +kernel
theorem dX10_number_58 : decode cX10_number 58 = .ok (.istore_n 3, 1) := by decide +kernel
theorem dX10_number_59 : decode cX10_number 59 = .ok (.aload_n 0, 1) := by decide +kernel
theorem dX10_number_60 : decode cX10_number 60 = .ok (.invokevirtual 179, 3) := by decide +kernel
theorem dX10_number_63 : decode cX10_number 63 = .ok (.ifCond .eq 7, 3) := by decide +kernel
theorem dX10_number_66 : decode cX10_number 66 = .ok (.aload_n 0, 1) := by decide +kernel
theorem dX10_number_67 : decode cX10_number 67 = .ok (.invokevirtual 183, 3) := by decide +kernel
theorem dX10_number_70 : decode cX10_number 70 = .ok (.iload_n 3, 1) := by decide +kernel
theorem dX10_number_71 : decode cX10_number 71 = .ok (.ireturn, 1) := by decide +kernel
theorem dX10_puts_0 : decode cX10_puts 0 = .ok (.aload_n 0, 1) := by decide +kernel
theorem dX10_puts_1 : decode cX10_puts 1 = .ok (.getfield 59, 3) := by decide +kernel
theorem dX10_puts_4 : decode cX10_puts 4 = .ok (.aload_n 0, 1) := by decide +kernel
theorem dX10_puts_5 : decode cX10_puts 5 = .ok (.getfield 189, 3) := by decide +kernel
theorem dX10_puts_8 : decode cX10_puts 8 = .ok (.iload_n 1, 1) := by decide +kernel
theorem dX10_puts_9 : decode cX10_puts 9 = .ok (.iastore, 1) := by decide +kernel
theorem dX10_puts_10 : decode cX10_puts 10 = .ok (.aload_n 0, 1) := by decide +kernel
theorem dX10_puts_11 : decode cX10_puts 11 = .ok (.dup, 1) := by decide +kernel
theorem dX10_puts_12 : decode cX10_puts 12 = .ok (.getfield 189, 3) := by decide +kernel
theorem dX10_puts_15 : decode cX10_puts 15 = .ok (.iconst 1, 1) := by decide +kernel
theorem dX10_puts_16 : decode cX10_puts 16 = .ok (.iadd, 1) := by decide +kernel
theorem dX10_puts_17 : decode cX10_puts 17 = .ok (.putfield 189, 3) := by decide +kernel
theorem dX10_puts_20 : decode cX10_puts 20 = .ok (.return_, 1) := by decide +kernel
theorem dX10_isOpen_0 : decode cX10_isOpen 0 = .ok (.iload_n 0, 1) := by decide +kernel
theorem dX10_isOpen_1 : decode cX10_isOpen 1 = .ok (.bipush 14, 2) := by decide +kernel
theorem dX10_isOpen_3 : decode cX10_isOpen 3 = .ok (.if_icmp .lt 7, 3) := by decide +kernel
theorem dX10_isOpen_6 : decode cX10_isOpen 6 = .ok (.iconst 1, 1) := by decide +kernel
theorem dX10_isOpen_7 : decode cX10_isOpen 7 = .ok (.goto 4, 3) := by decide +kernel
theorem dX10_isOpen_10 : decode cX10_isOpen 10 = .ok (.iconst 0, 1) := by decide +kernel
theorem dX10_isOpen_11 : decode cX10_isOpen 11 = .ok (.ireturn, 1) := by decide +kernel
theorem dX10_strength_0 : decode cX10_strength 0 = .ok (.iload_n 0, 1) := by decide +kernel
theorem dX10_strength_1 : decode cX10_strength 1 = .ok (.iconst 5, 1) := by decide +kernel
theorem dX10_strength_2 : decode cX10_strength 2 = .ok (.if_icmp .ne 7, 3) := by decide +kernel
theorem dX10_strength_5 : decode cX10_strength 5 = .ok (.iconst 1, 1) := by decide +kernel
theorem dX10_strength_6 : decode cX10_strength 6 = .ok (.goto 55, 3) := by decide +kernel
theorem dX10_strength_9 : decode cX10_strength 9 = .ok (.iload_n 0, 1) := by decide +kernel
theorem dX10_strength_10 : decode cX10_strength 10 = .ok (.iconst 4, 1) := by decide +kernel
theorem dX10_strength_11 : decode cX10_strength 11 = .ok (.if_icmp .ne 7, 3) := by decide +kernel
theorem dX10_strength_14 : decode cX10_strength 14 = .ok (.iconst 2, 1) := by decide +kernel
theorem dX10_strength_15 : decode cX10_strength 15 = .ok (.goto 46, 3) := by decide +kernel
theorem dX10_strength_18 : decode cX10_strength 18 = .ok (.iload_n 0, 1) := by decide +kernel
theorem dX10_strength_19 : decode cX10_strength 19 = .ok (.iconst 3, 1) := by decide +kernel
theorem dX10_strength_20 : decode cX10_strength 20 = .ok (.if_icmp .ne 7, 3) := by decide +kernel
theorem dX10_strength_23 : decode cX10_strength 23 = .ok (.iconst 3, 1) := by decide +kernel
theorem dX10_strength_24 : decode cX10_strength 24 = .ok (.goto 37, 3) := by decide +kernel
theorem dX10_strength_27 : decode cX10_strength 27 = .ok (.iload_n 0, 1) := by decide +kernel
theorem dX10_strength_28 : decode cX10_strength 28 = .ok (.bipush 6, 2) := by decide +kernel
theorem dX10_strength_30 : decode cX10_strength 30 = .ok (.if_icmp .eq 9, 3) := by decide +kernel
theorem dX10_strength_33 : decode cX10_strength 33 = .ok (.iload_n 0, 1) := by decide +kernel
theorem dX10_strength_34 : decode cX10_strength 34 = .ok (.bipush 7, 2) := by decide +kernel
theorem dX10_strength_36 : decode cX10_strength 36 = .ok (.if_icmp .ne 7, 3) := by decide +kernel
theorem dX10_strength_39 : decode cX10_strength 39 = .ok (.iconst 4, 1) := by decide +kernel
theorem dX10_strength_40 : decode cX10_strength 40 = .ok (.goto 21, 3) := by decide +kernel
theorem dX10_strength_43 : decode cX10_strength 43 = .ok (.iload_n 0, 1) := by decide +kernel
theorem dX10_strength_44 : decode cX10_strength 44 = .ok (.bipush 8, 2) := by decide +kernel
theorem dX10_strength_46 : decode cX10_strength 46 = .ok (.if_icmp .eq 9, 3) := by decide +kernel
theorem dX10_strength_49 : decode cX10_strength 49 = .ok (.iload_n 0, 1) := by decide +kernel
theorem dX10_strength_50 : decode cX10_strength 50 = .ok (.bipush 9, 2) := by decide +kernel
theorem dX10_strength_52 : decode cX10_strength 52 = .ok (.if_icmp .ne 7, 3) := by decide +kernel
theorem dX10_strength_55 : decode cX10_strength 55 = .ok (.iconst 5, 1) := by decide +kernel
theorem dX10_strength_56 : decode cX10_strength 56 = .ok (.goto 5, 3) := by decide +kernel
theorem dX10_strength_59 : decode cX10_strength 59 = .ok (.bipush 6, 2) := by decide +kernel
theorem dX10_strength_61 : decode cX10_strength 61 = .ok (.ireturn, 1) := by decide +kernel
theorem dX10_drops_0 : decode cX10_drops 0 = .ok (.aload_n 0, 1) := by decide +kernel
theorem dX10_drops_1 : decode cX10_drops 1 = .ok (.getfield 192, 3) := by decide +kernel
theorem dX10_drops_4 : decode cX10_drops 4 = .ok (.ifCond .le 64, 3) := by decide +kernel
theorem dX10_drops_7 : decode cX10_drops 7 = .ok (.aload_n 0, 1) := by decide +kernel
theorem dX10_drops_8 : decode cX10_drops 8 = .ok (.getfield 62, 3) := by decide +kernel
theorem dX10_drops_11 : decode cX10_drops 11 = .ok (.aload_n 0, 1) := by decide +kernel
theorem dX10_drops_12 : decode cX10_drops 12 = .ok (.getfield 192, 3) := by decide +kernel
theorem dX10_drops_15 : decode cX10_drops 15 = .ok (.iconst 1, 1) := by decide +kernel
theorem dX10_drops_16 : decode cX10_drops 16 = .ok (.isub, 1) := by decide +kernel
theorem dX10_drops_17 : decode cX10_drops 17 = .ok (.iaload, 1) := by decide +kernel
theorem dX10_drops_18 : decode cX10_drops 18 = .ok (.invokestatic 195, 3) := by decide +kernel
theorem dX10_drops_21 : decode cX10_drops 21 = .ok (.ifCond .ne 47, 3) := by decide +kernel
theorem dX10_drops_24 : decode cX10_drops 24 = .ok (.aload_n 0, 1) := by decide +kernel
theorem dX10_drops_25 : decode cX10_drops 25 = .ok (.getfield 62, 3) := by decide +kernel
theorem dX10_drops_28 : decode cX10_drops 28 = .ok (.aload_n 0, 1) := by decide +kernel
theorem dX10_drops_29 : decode cX10_drops 29 = .ok (.getfield 192, 3) := by decide +kernel
theorem dX10_drops_32 : decode cX10_drops 32 = .ok (.iconst 1, 1) := by decide +kernel
theorem dX10_drops_33 : decode cX10_drops 33 = .ok (.isub, 1) := by decide +kernel
theorem dX10_drops_34 : decode cX10_drops 34 = .ok (.iaload, 1) := by decide +kernel
theorem dX10_drops_35 : decode cX10_drops 35 = .ok (.invokestatic 198, 3) := by decide +kernel
theorem dX10_drops_38 : decode cX10_drops 38 = .ok (.iload_n 1, 1) := by decide +kernel
theorem dX10_drops_39 : decode cX10_drops 39 = .ok (.if_icmp .lt 29, 3) := by decide +kernel
theorem dX10_drops_42 : decode cX10_drops 42 = .ok (.aload_n 0, 1) := by decide +kernel
theorem dX10_drops_43 : decode cX10_drops 43 = .ok (.dup, 1) := by decide +kernel
theorem dX10_drops_44 : decode cX10_drops 44 = .ok (.getfield 192, 3) := by decide +kernel
theorem dX10_drops_47 : decode cX10_drops 47 = .ok (.iconst 1, 1) := by decide +kernel
theorem dX10_drops_48 : decode cX10_drops 48 = .ok (.isub, 1) := by decide +kernel
theorem dX10_drops_49 : decode cX10_drops 49 = .ok (.putfield 192, 3) := by decide +kernel
theorem dX10_drops_52 : decode cX10_drops 52 = .ok (.aload_n 0, 1) := by decide +kernel
theorem dX10_drops_53 : decode cX10_drops 53 = .ok (.aload_n 0, 1) := by decide +kernel
theorem dX10_drops_54 : decode cX10_drops 54 = .ok (.getfield 62, 3) := by decide +kernel
theorem dX10_drops_57 : decode cX10_drops 57 = .ok (.aload_n 0, 1) := by decide +kernel
theorem dX10_drops_58 : decode cX10_drops 58 = .ok (.getfield 192, 3) := by decide +kernel
theorem dX10_drops_61 : decode cX10_drops 61 = .ok (.iaload, 1) := by decide +kernel
theorem dX10_drops_62 : decode cX10_drops 62 = .ok (.invokevirtual 201, 3) := by decide +kernel
theorem dX10_drops_65 : decode cX10_drops 65 = .ok (.goto (-65), 3) := by decide +kernel
theorem dX10_drops_68 : decode cX10_drops 68 = .ok (.return_, 1) := by decide +kernel
theorem dX10_waitsFor_0 : decode cX10_waitsFor 0 = .ok (.aload_n 0, 1) := by decide +kernel
theorem dX10_waitsFor_1 : decode cX10_waitsFor 1 = .ok (.getfield 62, 3) := by decide +kernel
theorem dX10_waitsFor_4 : decode cX10_waitsFor 4 = .ok (.aload_n 0, 1) := by decide +kernel
theorem dX10_waitsFor_5 : decode cX10_waitsFor 5 = .ok (.getfield 192, 3) := by decide +kernel
theorem dX10_waitsFor_8 : decode cX10_waitsFor 8 = .ok (.iload_n 1, 1) := by decide +kernel
theorem dX10_waitsFor_9 : decode cX10_waitsFor 9 = .ok (.iastore, 1) := by decide +kernel
theorem dX10_waitsFor_10 : decode cX10_waitsFor 10 = .ok (.aload_n 0, 1) := by decide +kernel
theorem dX10_waitsFor_11 : decode cX10_waitsFor 11 = .ok (.dup, 1) := by decide +kernel
theorem dX10_waitsFor_12 : decode cX10_waitsFor 12 = .ok (.getfield 192, 3) := by decide +kernel
theorem dX10_waitsFor_15 : decode cX10_waitsFor 15 = .ok (.iconst 1, 1) := by decide +kernel
theorem dX10_waitsFor_16 : decode cX10_waitsFor 16 = .ok (.iadd, 1) := by decide +kernel
theorem dX10_waitsFor_17 : decode cX10_waitsFor 17 = .ok (.putfield 192, 3) := by decide +kernel
theorem dX10_waitsFor_20 : decode cX10_waitsFor 20 = .ok (.return_, 1) := by decide +kernel
theorem dX10_part_0 : decode cX10_part 0 = .ok (.aload_n 0, 1) := by decide +kernel
theorem dX10_part_1 : decode cX10_part 1 = .ok (.invokevirtual 179, 3) := by decide +kernel
theorem dX10_part_4 : decode cX10_part 4 = .ok (.ifCond .ne 4, 3) := by decide +kernel
theorem dX10_part_7 : decode cX10_part 7 = .ok (.return_, 1) := by decide +kernel
theorem dX10_part_8 : decode cX10_part 8 = .ok (.aload_n 0, 1) := by decide +kernel
theorem dX10_part_9 : decode cX10_part 9 = .ok (.getfield 153, 3) := by decide +kernel
theorem dX10_part_12 : decode cX10_part 12 = .ok (.iconst 2, 1) := by decide +kernel
theorem dX10_part_13 : decode cX10_part 13 = .ok (.if_icmp .ne 32, 3) := by decide +kernel
theorem dX10_part_16 : decode cX10_part 16 = .ok (.aload_n 0, 1) := by decide +kernel
theorem dX10_part_17 : decode cX10_part 17 = .ok (.getfield 163, 3) := by decide +kernel
theorem dX10_part_20 : decode cX10_part 20 = .ok (.iconst 4, 1) := by decide +kernel
theorem dX10_part_21 : decode cX10_part 21 = .ok (.if_icmp .le 8, 3) := by decide +kernel
theorem dX10_part_24 : decode cX10_part 24 = .ok (.aload_n 0, 1) := by decide +kernel
theorem dX10_part_25 : decode cX10_part 25 = .ok (.iconst 2, 1) := by decide +kernel
theorem dX10_part_26 : decode cX10_part 26 = .ok (.invokevirtual 186, 3) := by decide +kernel
theorem dX10_part_29 : decode cX10_part 29 = .ok (.aload_n 0, 1) := by decide +kernel
theorem dX10_part_30 : decode cX10_part 30 = .ok (.iconst 1, 1) := by decide +kernel
theorem dX10_part_31 : decode cX10_part 31 = .ok (.invokevirtual 201, 3) := by decide +kernel
theorem dX10_part_34 : decode cX10_part 34 = .ok (.aload_n 0, 1) := by decide +kernel
theorem dX10_part_35 : decode cX10_part 35 = .ok (.aload_n 0, 1) := by decide +kernel
theorem dX10_part_36 : decode cX10_part 36 = .ok (.getfield 147, 3) := by decide +kernel
theorem dX10_part_39 : decode cX10_part 39 = .ok (.invokevirtual 201, 3) := by decide +kernel
theorem dX10_part_42 : decode cX10_part 42 = .ok (.goto 51, 3) := by decide +kernel
theorem dX10_part_45 : decode cX10_part 45 = .ok (.aload_n 0, 1) := by decide +kernel
theorem dX10_part_46 : decode cX10_part 46 = .ok (.getfield 153, 3) := by decide +kernel
theorem dX10_part_49 : decode cX10_part 49 = .ok (.iconst 1, 1) := by decide +kernel
theorem dX10_part_50 : decode cX10_part 50 = .ok (.if_icmp .ne 38, 3) := by decide +kernel
theorem dX10_part_53 : decode cX10_part 53 = .ok (.aload_n 0, 1) := by decide +kernel
theorem dX10_part_54 : decode cX10_part 54 = .ok (.invokevirtual 204, 3) := by decide +kernel
theorem dX10_part_57 : decode cX10_part 57 = .ok (.istore_n 1, 1) := by decide +kernel
theorem dX10_part_58 : decode cX10_part 58 = .ok (.iload_n 1, 1) := by decide +kernel
theorem dX10_part_59 : decode cX10_part 59 = .ok (.ifCond .lt 11, 3) := by decide +kernel
theorem dX10_part_62 : decode cX10_part 62 = .ok (.iload_n 1, 1) := by decide +kernel
theorem dX10_part_63 : decode cX10_part 63 = .ok (.aload_n 0, 1) := by decide +kernel
theorem dX10_part_64 : decode cX10_part 64 = .ok (.getfield 208, 3) := by decide +kernel
theorem dX10_part_67 : decode cX10_part 67 = .ok (.if_icmp .le 8, 3) := by decide +kernel
theorem dX10_part_70 : decode cX10_part 70 = .ok (.aload_n 0, 1) := by decide +kernel
theorem dX10_part_71 : decode cX10_part 71 = .ok (.iconst 3, 1) := by decide +kernel
theorem dX10_part_72 : decode cX10_part 72 = .ok (.invokevirtual 186, 3) := by decide +kernel
theorem dX10_part_75 : decode cX10_part 75 = .ok (.aload_n 0, 1) := by decide +kernel
theorem dX10_part_76 : decode cX10_part 76 = .ok (.iconst 2, 1) := by decide +kernel
theorem dX10_part_77 : decode cX10_part 77 = .ok (.invokevirtual 201, 3) := by decide +kernel
theorem dX10_part_80 : decode cX10_part 80 = .ok (.aload_n 0, 1) := by decide +kernel
theorem dX10_part_81 : decode cX10_part 81 = .ok (.iload_n 1, 1) := by decide +kernel
theorem dX10_part_82 : decode cX10_part 82 = .ok (.invokevirtual 201, 3) := by decide +kernel
theorem dX10_part_85 : decode cX10_part 85 = .ok (.goto 8, 3) := by decide +kernel
theorem dX10_part_88 : decode cX10_part 88 = .ok (.aload_n 0, 1) := by decide +kernel
theorem dX10_part_89 : decode cX10_part 89 = .ok (.iconst 1, 1) := by decide +kernel
theorem dX10_part_90 : decode cX10_part 90 = .ok (.invokevirtual 186, 3) := by decide +kernel
theorem dX10_part_93 : decode cX10_part 93 = .ok (.aload_n 0, 1) := by decide +kernel
theorem dX10_part_94 : decode cX10_part 94 = .ok (.invokevirtual 179, 3) := by decide +kernel
theorem dX10_part_97 : decode cX10_part 97 = .ok (.ifCond .eq 7, 3) := by decide +kernel
theorem dX10_part_100 : decode cX10_part 100 = .ok (.aload_n 0, 1) := by decide +kernel
theorem dX10_part_101 : decode cX10_part 101 = .ok (.invokevirtual 183, 3) := by decide +kernel
theorem dX10_part_104 : decode cX10_part 104 = .ok (.return_, 1) := by decide +kernel
theorem dX10_deeper_0 : decode cX10_deeper 0 = .ok (.aload_n 0, 1) := by decide +kernel
theorem dX10_deeper_1 : decode cX10_deeper 1 = .ok (.getfield 211, 3) := by decide +kernel
theorem dX10_deeper_4 : decode cX10_deeper 4 = .ok (.bipush 6, 2) := by decide +kernel
theorem dX10_deeper_6 : decode cX10_deeper 6 = .ok (.if_icmp .ge 24, 3) := by decide +kernel
theorem dX10_deeper_9 : decode cX10_deeper 9 = .ok (.aload_n 0, 1) := by decide +kernel
theorem dX10_deeper_10 : decode cX10_deeper 10 = .ok (.dup, 1) := by decide +kernel
theorem dX10_deeper_11 : decode cX10_deeper 11 = .ok (.getfield 211, 3) := by decide +kernel
theorem dX10_deeper_14 : decode cX10_deeper 14 = .ok (.iconst 1, 1) := by decide +kernel
theorem dX10_deeper_15 : decode cX10_deeper 15 = .ok (.iadd, 1) := by decide +kernel
theorem dX10_deeper_16 : decode cX10_deeper 16 = .ok (.putfield 211, 3) := by decide +kernel
theorem dX10_deeper_19 : decode cX10_deeper 19 = .ok (.aload_n 0, 1) := by decide +kernel
theorem dX10_deeper_20 : decode cX10_deeper 20 = .ok (.getfield 65, 3) := by decide +kernel
theorem dX10_deeper_23 : decode cX10_deeper 23 = .ok (.aload_n 0, 1) := by decide +kernel
theorem dX10_deeper_24 : decode cX10_deeper 24 = .ok (.getfield 211, 3) := by decide +kernel
theorem dX10_deeper_27 : decode cX10_deeper 27 = .ok (.iconst 0, 1) := by decide +kernel
theorem dX10_deeper_28 : decode cX10_deeper 28 = .ok (.bastore, 1) := by decide +kernel
theorem dX10_deeper_29 : decode cX10_deeper 29 = .ok (.return_, 1) := by decide +kernel
theorem dX10_deeper_30 : decode cX10_deeper 30 = .ok (.aload_n 0, 1) := by decide +kernel
theorem dX10_deeper_31 : decode cX10_deeper 31 = .ok (.aload_n 0, 1) := by decide +kernel
theorem dX10_deeper_32 : decode cX10_deeper 32 = .ok (.getfield 153, 3) := by decide +kernel
theorem dX10_deeper_35 : decode cX10_deeper 35 = .ok (.iconst 2, 1) := by decide +kernel
theorem dX10_deeper_36 : decode cX10_deeper 36 = .ok (.if_icmp .eq 20, 3) := by decide +kernel
theorem dX10_deeper_39 : decode cX10_deeper 39 = .ok (.aload_n 0, 1) := by decide +kernel
theorem dX10_deeper_40 : decode cX10_deeper 40 = .ok (.getfield 153, 3) := by decide +kernel
theorem dX10_deeper_43 : decode cX10_deeper 43 = .ok (.iconst 1, 1) := by decide +kernel
theorem dX10_deeper_44 : decode cX10_deeper 44 = .ok (.if_icmp .eq 12, 3) := by decide +kernel
theorem dX10_deeper_47 : decode cX10_deeper 47 = .ok (.aload_n 0, 1) := by decide +kernel
theorem dX10_deeper_48 : decode cX10_deeper 48 = .ok (.bipush 40, 2) := by decide +kernel
theorem dX10_deeper_50 : decode cX10_deeper 50 = .ok (.invokevirtual 214, 3) := by decide +kernel
theorem dX10_deeper_53 : decode cX10_deeper 53 = .ok (.ifCond .eq 7, 3) := by decide +kernel
theorem dX10_deeper_56 : decode cX10_deeper 56 = .ok (.iconst 2, 1) := by decide +kernel
theorem dX10_deeper_57 : decode cX10_deeper 57 = .ok (.goto 4, 3) := by decide +kernel
theorem dX10_deeper_60 : decode cX10_deeper 60 = .ok (.iconst 1, 1) := by decide +kernel
theorem dX10_deeper_61 : decode cX10_deeper 61 = .ok (.invokevirtual 186, 3) := by decide +kernel
theorem dX10_deeper_64 : decode cX10_deeper 64 = .ok (.return_, 1) := by decide +kernel
theorem dX10_operand_0 : decode cX10_operand 0 = .ok (.iload_n 1, 1) := by decide +kernel
theorem dX10_operand_1 : decode cX10_operand 1 = .ok (.istore_n 2, 1) := by decide +kernel
theorem dX10_operand_2 : decode cX10_operand 2 = .ok (.iconst 1, 1) := by decide +kernel
theorem dX10_operand_3 : decode cX10_operand 3 = .ok (.istore_n 3, 1) := by decide +kernel
theorem dX10_operand_4 : decode cX10_operand 4 = .ok (.iload_n 3, 1) := by decide +kernel
theorem dX10_operand_5 : decode cX10_operand 5 = .ok (.ifCond .eq 115, 3) := by decide +kernel
theorem dX10_operand_8 : decode cX10_operand 8 = .ok (.aload_n 0, 1) := by decide +kernel
theorem dX10_operand_9 : decode cX10_operand 9 = .ok (.invokevirtual 179, 3) := by decide +kernel
theorem dX10_operand_12 : decode cX10_operand 12 = .ok (.ifCond .eq 108, 3) := by decide +kernel
theorem dX10_operand_15 : decode cX10_operand 15 = .ok (.iconst 0, 1) := by decide +kernel
theorem dX10_operand_16 : decode cX10_operand 16 = .ok (.istore 4, 2) := by decide +kernel
theorem dX10_operand_18 : decode cX10_operand 18 = .ok (.aload_n 0, 1) := by decide +kernel
theorem dX10_operand_19 : decode cX10_operand 19 = .ok (.invokevirtual 179, 3) := by decide +kernel
theorem dX10_operand_22 : decode cX10_operand 22 = .ok (.ifCond .eq 53, 3) := by decide +kernel
theorem dX10_operand_25 : decode cX10_operand 25 = .ok (.iload_n 2, 1) := by decide +kernel
theorem dX10_operand_26 : decode cX10_operand 26 = .ok (.ifCond .eq 49, 3) := by decide +kernel
theorem dX10_operand_29 : decode cX10_operand 29 = .ok (.aload_n 0, 1) := by decide +kernel
theorem dX10_operand_30 : decode cX10_operand 30 = .ok (.invokevirtual 204, 3) := by decide +kernel
theorem dX10_operand_33 : decode cX10_operand 33 = .ok (.bipush 15, 2) := by decide +kernel
theorem dX10_operand_35 : decode cX10_operand 35 = .ok (.if_icmp .ne 40, 3) := by decide +kernel
theorem dX10_operand_38 : decode cX10_operand 38 = .ok (.iload 4, 2) := by decide +kernel
theorem dX10_operand_40 : decode cX10_operand 40 = .ok (.bipush 6, 2) := by decide +kernel
theorem dX10_operand_42 : decode cX10_operand 42 = .ok (.if_icmp .ne 8, 3) := by decide +kernel
theorem dX10_operand_45 : decode cX10_operand 45 = .ok (.aload_n 0, 1) := by decide +kernel
theorem dX10_operand_46 : decode cX10_operand 46 = .ok (.iconst 2, 1) := by decide +kernel
theorem dX10_operand_47 : decode cX10_operand 47 = .ok (.invokevirtual 186, 3) := by decide +kernel
theorem dX10_operand_50 : decode cX10_operand 50 = .ok (.iinc 4 1, 3) := by decide +kernel
theorem dX10_operand_53 : decode cX10_operand 53 = .ok (.aload_n 0, 1) := by decide +kernel
theorem dX10_operand_54 : decode cX10_operand 54 = .ok (.invokevirtual 179, 3) := by decide +kernel
theorem dX10_operand_57 : decode cX10_operand 57 = .ok (.ifCond .ne 6, 3) := by decide +kernel
theorem dX10_operand_60 : decode cX10_operand 60 = .ok (.goto (-42), 3) := by decide +kernel
theorem dX10_operand_63 : decode cX10_operand 63 = .ok (.aload_n 0, 1) := by decide +kernel
theorem dX10_operand_64 : decode cX10_operand 64 = .ok (.iconst 3, 1) := by decide +kernel
theorem dX10_operand_65 : decode cX10_operand 65 = .ok (.invokevirtual 217, 3) := by decide +kernel
theorem dX10_operand_68 : decode cX10_operand 68 = .ok (.aload_n 0, 1) := by decide +kernel
theorem dX10_operand_69 : decode cX10_operand 69 = .ok (.invokevirtual 183, 3) := by decide +kernel
theorem dX10_operand_72 : decode cX10_operand 72 = .ok (.goto (-54), 3) := by decide +kernel
theorem dX10_operand_75 : decode cX10_operand 75 = .ok (.aload_n 0, 1) := by decide +kernel
theorem dX10_operand_76 : decode cX10_operand 76 = .ok (.invokevirtual 179, 3) := by decide +kernel
theorem dX10_operand_79 : decode cX10_operand 79 = .ok (.ifCond .eq 16, 3) := by decide +kernel
theorem dX10_operand_82 : decode cX10_operand 82 = .ok (.aload_n 0, 1) := by decide +kernel
theorem dX10_operand_83 : decode cX10_operand 83 = .ok (.bipush 40, 2) := by decide +kernel
theorem dX10_operand_85 : decode cX10_operand 85 = .ok (.invokevirtual 214, 3) := by decide +kernel
theorem dX10_operand_88 : decode cX10_operand 88 = .ok (.ifCond .eq 7, 3) := by decide +kernel
theorem dX10_operand_91 : decode cX10_operand 91 = .ok (.iconst 1, 1) := by decide +kernel
theorem dX10_operand_92 : decode cX10_operand 92 = .ok (.goto 4, 3) := by decide +kernel
theorem dX10_operand_95 : decode cX10_operand 95 = .ok (.iconst 0, 1) := by decide +kernel
theorem dX10_operand_96 : decode cX10_operand 96 = .ok (.istore_n 3, 1) := by decide +kernel
theorem dX10_operand_97 : decode cX10_operand 97 = .ok (.iload_n 3, 1) := by decide +kernel
theorem dX10_operand_98 : decode cX10_operand 98 = .ok (.ifCond .eq 19, 3) := by decide +kernel
theorem dX10_operand_101 : decode cX10_operand 101 = .ok (.aload_n 0, 1) := by decide +kernel
theorem dX10_operand_102 : decode cX10_operand 102 = .ok (.bipush 14, 2) := by decide +kernel
theorem dX10_operand_104 : decode cX10_operand 104 = .ok (.invokevirtual 217, 3) := by decide +kernel
theorem dX10_operand_107 : decode cX10_operand 107 = .ok (.aload_n 0, 1) := by decide +kernel
theorem dX10_operand_108 : decode cX10_operand 108 = .ok (.invokevirtual 183, 3) := by decide +kernel
theorem dX10_operand_111 : decode cX10_operand 111 = .ok (.aload_n 0, 1) := by decide +kernel
theorem dX10_operand_112 : decode cX10_operand 112 = .ok (.invokevirtual 220, 3) := by decide +kernel
theorem dX10_operand_115 : decode cX10_operand 115 = .ok (.iconst 1, 1) := by decide +kernel
theorem dX10_operand_116 : decode cX10_operand 116 = .ok (.istore_n 2, 1) := by decide +kernel
theorem dX10_operand_117 : decode cX10_operand 117 = .ok (.goto (-113), 3) := by decide +kernel
theorem dX10_operand_120 : decode cX10_operand 120 = .ok (.aload_n 0, 1) := by decide +kernel
theorem dX10_operand_121 : decode cX10_operand 121 = .ok (.invokevirtual 223, 3) := by decide +kernel
theorem dX10_operand_124 : decode cX10_operand 124 = .ok (.return_, 1) := by decide +kernel
theorem dX10_isOpened_0 : decode cX10_isOpened 0 = .ok (.aload_n 0, 1) := by decide +kernel
theorem dX10_isOpened_1 : decode cX10_isOpened 1 = .ok (.getfield 192, 3) := by decide +kernel
theorem dX10_isOpened_4 : decode cX10_isOpened 4 = .ok (.iconst 1, 1) := by decide +kernel
theorem dX10_isOpened_5 : decode cX10_isOpened 5 = .ok (.isub, 1) := by decide +kernel
theorem dX10_isOpened_6 : decode cX10_isOpened 6 = .ok (.istore_n 1, 1) := by decide +kernel
theorem dX10_isOpened_7 : decode cX10_isOpened 7 = .ok (.iload_n 1, 1) := by decide +kernel
theorem dX10_isOpened_8 : decode cX10_isOpened 8 = .ok (.ifCond .lt 21, 3) := by decide +kernel
theorem dX10_isOpened_11 : decode cX10_isOpened 11 = .ok (.aload_n 0, 1) := by decide +kernel
theorem dX10_isOpened_12 : decode cX10_isOpened 12 = .ok (.getfield 62, 3) := by decide +kernel
theorem dX10_isOpened_15 : decode cX10_isOpened 15 = .ok (.iload_n 1, 1) := by decide +kernel
theorem dX10_isOpened_16 : decode cX10_isOpened 16 = .ok (.iaload, 1) := by decide +kernel
theorem dX10_isOpened_17 : decode cX10_isOpened 17 = .ok (.invokestatic 195, 3) := by decide +kernel
theorem dX10_isOpened_20 : decode cX10_isOpened 20 = .ok (.ifCond .ne 9, 3) := by decide +kernel
theorem dX10_isOpened_23 : decode cX10_isOpened 23 = .ok (.iinc 1 (-1), 3) := by decide +kernel
theorem dX10_isOpened_26 : decode cX10_isOpened 26 = .ok (.goto (-19), 3) := by decide +kernel
theorem dX10_isOpened_29 : decode cX10_isOpened 29 = .ok (.iload_n 1, 1) := by decide +kernel
theorem dX10_isOpened_30 : decode cX10_isOpened 30 = .ok (.ifCond .lt 7, 3) := by decide +kernel
theorem dX10_isOpened_33 : decode cX10_isOpened 33 = .ok (.iconst 1, 1) := by decide +kernel
theorem dX10_isOpened_34 : decode cX10_isOpened 34 = .ok (.goto 4, 3) := by decide +kernel
theorem dX10_isOpened_37 : decode cX10_isOpened 37 = .ok (.iconst 0, 1) := by decide +kernel
theorem dX10_isOpened_38 : decode cX10_isOpened 38 = .ok (.ireturn, 1) := by decide +kernel
theorem dX10_closes_0 : decode cX10_closes 0 = .ok (.aload_n 0, 1) := by decide +kernel
theorem dX10_closes_1 : decode cX10_closes 1 = .ok (.iconst 0, 1) := by decide +kernel
theorem dX10_closes_2 : decode cX10_closes 2 = .ok (.invokevirtual 226, 3) := by decide +kernel
theorem dX10_closes_5 : decode cX10_closes 5 = .ok (.aload_n 0, 1) := by decide +kernel
theorem dX10_closes_6 : decode cX10_closes 6 = .ok (.dup, 1) := by decide +kernel
theorem dX10_closes_7 : decode cX10_closes 7 = .ok (.getfield 192, 3) := by decide +kernel
theorem dX10_closes_10 : decode cX10_closes 10 = .ok (.iconst 1, 1) := by decide +kernel
theorem dX10_closes_11 : decode cX10_closes 11 = .ok (.isub, 1) := by decide +kernel
theorem dX10_closes_12 : decode cX10_closes 12 = .ok (.putfield 192, 3) := by decide +kernel
theorem dX10_closes_15 : decode cX10_closes 15 = .ok (.aload_n 0, 1) := by decide +kernel
theorem dX10_closes_16 : decode cX10_closes 16 = .ok (.dup, 1) := by decide +kernel
theorem dX10_closes_17 : decode cX10_closes 17 = .ok (.getfield 211, 3) := by decide +kernel
theorem dX10_closes_20 : decode cX10_closes 20 = .ok (.iconst 1, 1) := by decide +kernel
theorem dX10_closes_21 : decode cX10_closes 21 = .ok (.isub, 1) := by decide +kernel
theorem dX10_closes_22 : decode cX10_closes 22 = .ok (.putfield 211, 3) := by decide +kernel
theorem dX10_closes_25 : decode cX10_closes 25 = .ok (.aload_n 0, 1) := by decide +kernel
theorem dX10_closes_26 : decode cX10_closes 26 = .ok (.invokevirtual 183, 3) := by decide +kernel
theorem dX10_closes_29 : decode cX10_closes 29 = .ok (.return_, 1) := by decide +kernel
theorem dX10_expression_0 : decode cX10_expression 0 = .ok (.aload_n 0, 1) := by decide +kernel
theorem dX10_expression_1 : decode cX10_expression 1 = .ok (.invokevirtual 179, 3) := by decide +kernel
theorem dX10_expression_4 : decode cX10_expression 4 = .ok (.ifCond .ne 4, 3) := by decide +kernel
theorem dX10_expression_7 : decode cX10_expression 7 = .ok (.return_, 1) := by decide +kernel
theorem dX10_expression_8 : decode cX10_expression 8 = .ok (.aload_n 0, 1) := by decide +kernel
theorem dX10_expression_9 : decode cX10_expression 9 = .ok (.iload_n 1, 1) := by decide +kernel
theorem dX10_expression_10 : decode cX10_expression 10 = .ok (.putfield 208, 3) := by decide +kernel
theorem dX10_expression_13 : decode cX10_expression 13 = .ok (.aload_n 0, 1) := by decide +kernel
theorem dX10_expression_14 : decode cX10_expression 14 = .ok (.iconst 0, 1) := by decide +kernel
theorem dX10_expression_15 : decode cX10_expression 15 = .ok (.putfield 192, 3) := by decide +kernel
theorem dX10_expression_18 : decode cX10_expression 18 = .ok (.aload_n 0, 1) := by decide +kernel
theorem dX10_expression_19 : decode cX10_expression 19 = .ok (.iconst 0, 1) := by decide +kernel
theorem dX10_expression_20 : decode cX10_expression 20 = .ok (.putfield 211, 3) := by decide +kernel
theorem dX10_expression_23 : decode cX10_expression 23 = .ok (.aload_n 0, 1) := by decide +kernel
theorem dX10_expression_24 : decode cX10_expression 24 = .ok (.invokevirtual 220, 3) := by decide +kernel
theorem dX10_expression_27 : decode cX10_expression 27 = .ok (.aload_n 0, 1) := by decide +kernel
theorem dX10_expression_28 : decode cX10_expression 28 = .ok (.iconst 1, 1) := by decide +kernel
theorem dX10_expression_29 : decode cX10_expression 29 = .ok (.invokevirtual 229, 3) := by decide +kernel
theorem dX10_expression_32 : decode cX10_expression 32 = .ok (.iconst 1, 1) := by decide +kernel
theorem dX10_expression_33 : decode cX10_expression 33 = .ok (.istore_n 2, 1) := by decide +kernel
theorem dX10_expression_34 : decode cX10_expression 34 = .ok (.iload_n 2, 1) := by decide +kernel
theorem dX10_expression_35 : decode cX10_expression 35 = .ok (.ifCond .eq 295, 3) := by decide +kernel
theorem dX10_expression_38 : decode cX10_expression 38 = .ok (.aload_n 0, 1) := by decide +kernel
theorem dX10_expression_39 : decode cX10_expression 39 = .ok (.invokevirtual 179, 3) := by decide +kernel
theorem dX10_expression_42 : decode cX10_expression 42 = .ok (.ifCond .eq 288, 3) := by decide +kernel
theorem dX10_expression_45 : decode cX10_expression 45 = .ok (.aload_n 0, 1) := by decide +kernel
theorem dX10_expression_46 : decode cX10_expression 46 = .ok (.invokevirtual 204, 3) := by decide +kernel
theorem dX10_expression_49 : decode cX10_expression 49 = .ok (.istore_n 3, 1) := by decide +kernel
theorem dX10_expression_50 : decode cX10_expression 50 = .ok (.iload_n 3, 1) := by decide +kernel
theorem dX10_expression_51 : decode cX10_expression 51 = .ok (.bipush 13, 2) := by decide +kernel
theorem dX10_expression_53 : decode cX10_expression 53 = .ok (.if_icmp .eq 9, 3) := by decide +kernel
theorem dX10_expression_56 : decode cX10_expression 56 = .ok (.iload_n 3, 1) := by decide +kernel
theorem dX10_expression_57 : decode cX10_expression 57 = .ok (.bipush 14, 2) := by decide +kernel
theorem dX10_expression_59 : decode cX10_expression 59 = .ok (.if_icmp .ne 55, 3) := by decide +kernel
theorem dX10_expression_62 : decode cX10_expression 62 = .ok (.aload_n 0, 1) := by decide +kernel
theorem dX10_expression_63 : decode cX10_expression 63 = .ok (.iload_n 3, 1) := by decide +kernel
theorem dX10_expression_64 : decode cX10_expression 64 = .ok (.bipush 13, 2) := by decide +kernel
theorem dX10_expression_66 : decode cX10_expression 66 = .ok (.if_icmp .ne 7, 3) := by decide +kernel
theorem dX10_expression_69 : decode cX10_expression 69 = .ok (.iconst 2, 1) := by decide +kernel
theorem dX10_expression_70 : decode cX10_expression 70 = .ok (.goto 4, 3) := by decide +kernel
theorem dX10_expression_73 : decode cX10_expression 73 = .ok (.iconst 1, 1) := by decide +kernel
theorem dX10_expression_74 : decode cX10_expression 74 = .ok (.invokevirtual 226, 3) := by decide +kernel
theorem dX10_expression_77 : decode cX10_expression 77 = .ok (.aload_n 0, 1) := by decide +kernel
theorem dX10_expression_78 : decode cX10_expression 78 = .ok (.iload_n 3, 1) := by decide +kernel
theorem dX10_expression_79 : decode cX10_expression 79 = .ok (.bipush 13, 2) := by decide +kernel
theorem dX10_expression_81 : decode cX10_expression 81 = .ok (.if_icmp .ne 7, 3) := by decide +kernel
theorem dX10_expression_84 : decode cX10_expression 84 = .ok (.iconst 4, 1) := by decide +kernel
theorem dX10_expression_85 : decode cX10_expression 85 = .ok (.goto 4, 3) := by decide +kernel
theorem dX10_expression_88 : decode cX10_expression 88 = .ok (.iconst 5, 1) := by decide +kernel
theorem dX10_expression_89 : decode cX10_expression 89 = .ok (.invokevirtual 217, 3) := by decide +kernel
theorem dX10_expression_92 : decode cX10_expression 92 = .ok (.aload_n 0, 1) := by decide +kernel
theorem dX10_expression_93 : decode cX10_expression 93 = .ok (.getfield 65, 3) := by decide +kernel
theorem dX10_expression_96 : decode cX10_expression 96 = .ok (.aload_n 0, 1) := by decide +kernel
theorem dX10_expression_97 : decode cX10_expression 97 = .ok (.getfield 211, 3) := by decide +kernel
theorem dX10_expression_100 : decode cX10_expression 100 = .ok (.iconst 0, 1) := by decide +kernel
theorem dX10_expression_101 : decode cX10_expression 101 = .ok (.bastore, 1) := by decide +kernel
theorem dX10_expression_102 : decode cX10_expression 102 = .ok (.aload_n 0, 1) := by decide +kernel
theorem dX10_expression_103 : decode cX10_expression 103 = .ok (.invokevirtual 183, 3) := by decide +kernel
theorem dX10_expression_106 : decode cX10_expression 106 = .ok (.aload_n 0, 1) := by decide +kernel
theorem dX10_expression_107 : decode cX10_expression 107 = .ok (.iconst 1, 1) := by decide +kernel
theorem dX10_expression_108 : decode cX10_expression 108 = .ok (.invokevirtual 229, 3) := by decide +kernel
theorem dX10_expression_111 : decode cX10_expression 111 = .ok (.goto 216, 3) := by decide +kernel
theorem dX10_expression_114 : decode cX10_expression 114 = .ok (.aload_n 0, 1) := by decide +kernel
theorem dX10_expression_115 : decode cX10_expression 115 = .ok (.bipush 60, 2) := by decide +kernel
theorem dX10_expression_117 : decode cX10_expression 117 = .ok (.invokevirtual 214, 3) := by decide +kernel
theorem dX10_expression_120 : decode cX10_expression 120 = .ok (.ifCond .ne 12, 3) := by decide +kernel
theorem dX10_expression_123 : decode cX10_expression 123 = .ok (.aload_n 0, 1) := by decide +kernel
theorem dX10_expression_124 : decode cX10_expression 124 = .ok (.bipush 61, 2) := by decide +kernel
theorem dX10_expression_126 : decode cX10_expression 126 = .ok (.invokevirtual 214, 3) := by decide +kernel
theorem dX10_expression_129 : decode cX10_expression 129 = .ok (.ifCond .eq 62, 3) := by decide +kernel
theorem dX10_expression_132 : decode cX10_expression 132 = .ok (.aload_n 0, 1) := by decide +kernel
theorem dX10_expression_133 : decode cX10_expression 133 = .ok (.getfield 65, 3) := by decide +kernel
theorem dX10_expression_136 : decode cX10_expression 136 = .ok (.aload_n 0, 1) := by decide +kernel
theorem dX10_expression_137 : decode cX10_expression 137 = .ok (.getfield 211, 3) := by decide +kernel
theorem dX10_expression_140 : decode cX10_expression 140 = .ok (.baload, 1) := by decide +kernel
theorem dX10_expression_141 : decode cX10_expression 141 = .ok (.ifCond .ne 50, 3) := by decide +kernel
theorem dX10_expression_144 : decode cX10_expression 144 = .ok (.aload_n 0, 1) := by decide +kernel
theorem dX10_expression_145 : decode cX10_expression 145 = .ok (.iconst 4, 1) := by decide +kernel
theorem dX10_expression_146 : decode cX10_expression 146 = .ok (.invokevirtual 226, 3) := by decide +kernel
theorem dX10_expression_149 : decode cX10_expression 149 = .ok (.aload_n 0, 1) := by decide +kernel
theorem dX10_expression_150 : decode cX10_expression 150 = .ok (.aload_n 0, 1) := by decide +kernel
theorem dX10_expression_151 : decode cX10_expression 151 = .ok (.bipush 60, 2) := by decide +kernel
theorem dX10_expression_153 : decode cX10_expression 153 = .ok (.invokevirtual 214, 3) := by decide +kernel
theorem dX10_expression_156 : decode cX10_expression 156 = .ok (.ifCond .eq 8, 3) := by decide +kernel
theorem dX10_expression_159 : decode cX10_expression 159 = .ok (.bipush 6, 2) := by decide +kernel
theorem dX10_expression_161 : decode cX10_expression 161 = .ok (.goto 5, 3) := by decide +kernel
theorem dX10_expression_164 : decode cX10_expression 164 = .ok (.bipush 7, 2) := by decide +kernel
theorem dX10_expression_166 : decode cX10_expression 166 = .ok (.invokevirtual 217, 3) := by decide +kernel
theorem dX10_expression_169 : decode cX10_expression 169 = .ok (.aload_n 0, 1) := by decide +kernel
theorem dX10_expression_170 : decode cX10_expression 170 = .ok (.getfield 65, 3) := by decide +kernel
theorem dX10_expression_173 : decode cX10_expression 173 = .ok (.aload_n 0, 1) := by decide +kernel
theorem dX10_expression_174 : decode cX10_expression 174 = .ok (.getfield 211, 3) := by decide +kernel
theorem dX10_expression_177 : decode cX10_expression 177 = .ok (.iconst 1, 1) := by decide +kernel
theorem dX10_expression_178 : decode cX10_expression 178 = .ok (.bastore, 1) := by decide +kernel
theorem dX10_expression_179 : decode cX10_expression 179 = .ok (.aload_n 0, 1) := by decide +kernel
theorem dX10_expression_180 : decode cX10_expression 180 = .ok (.invokevirtual 183, 3) := by decide +kernel
theorem dX10_expression_183 : decode cX10_expression 183 = .ok (.aload_n 0, 1) := by decide +kernel
theorem dX10_expression_184 : decode cX10_expression 184 = .ok (.iconst 0, 1) := by decide +kernel
theorem dX10_expression_185 : decode cX10_expression 185 = .ok (.invokevirtual 229, 3) := by decide +kernel
theorem dX10_expression_188 : decode cX10_expression 188 = .ok (.goto 139, 3) := by decide +kernel
theorem dX10_expression_191 : decode cX10_expression 191 = .ok (.aload_n 0, 1) := by decide +kernel
theorem dX10_expression_192 : decode cX10_expression 192 = .ok (.bipush 43, 2) := by decide +kernel
theorem dX10_expression_194 : decode cX10_expression 194 = .ok (.invokevirtual 214, 3) := by decide +kernel
theorem dX10_expression_197 : decode cX10_expression 197 = .ok (.ifCond .ne 12, 3) := by decide +kernel
theorem dX10_expression_200 : decode cX10_expression 200 = .ok (.aload_n 0, 1) := by decide +kernel
theorem dX10_expression_201 : decode cX10_expression 201 = .ok (.bipush 45, 2) := by decide +kernel
theorem dX10_expression_203 : decode cX10_expression 203 = .ok (.invokevirtual 214, 3) := by decide +kernel
theorem dX10_expression_206 : decode cX10_expression 206 = .ok (.ifCond .eq 40, 3) := by decide +kernel
theorem dX10_expression_209 : decode cX10_expression 209 = .ok (.aload_n 0, 1) := by decide +kernel
theorem dX10_expression_210 : decode cX10_expression 210 = .ok (.iconst 5, 1) := by decide +kernel
theorem dX10_expression_211 : decode cX10_expression 211 = .ok (.invokevirtual 226, 3) := by decide +kernel
theorem dX10_expression_214 : decode cX10_expression 214 = .ok (.aload_n 0, 1) := by decide +kernel
theorem dX10_expression_215 : decode cX10_expression 215 = .ok (.aload_n 0, 1) := by decide +kernel
theorem dX10_expression_216 : decode cX10_expression 216 = .ok (.bipush 43, 2) := by decide +kernel
theorem dX10_expression_218 : decode cX10_expression 218 = .ok (.invokevirtual 214, 3) := by decide +kernel
theorem dX10_expression_221 : decode cX10_expression 221 = .ok (.ifCond .eq 8, 3) := by decide +kernel
theorem dX10_expression_224 : decode cX10_expression 224 = .ok (.bipush 8, 2) := by decide +kernel
theorem dX10_expression_226 : decode cX10_expression 226 = .ok (.goto 5, 3) := by decide +kernel
theorem dX10_expression_229 : decode cX10_expression 229 = .ok (.bipush 9, 2) := by decide +kernel
theorem dX10_expression_231 : decode cX10_expression 231 = .ok (.invokevirtual 217, 3) := by decide +kernel
theorem dX10_expression_234 : decode cX10_expression 234 = .ok (.aload_n 0, 1) := by decide +kernel
theorem dX10_expression_235 : decode cX10_expression 235 = .ok (.invokevirtual 183, 3) := by decide +kernel
theorem dX10_expression_238 : decode cX10_expression 238 = .ok (.aload_n 0, 1) := by decide +kernel
theorem dX10_expression_239 : decode cX10_expression 239 = .ok (.iconst 0, 1) := by decide +kernel
theorem dX10_expression_240 : decode cX10_expression 240 = .ok (.invokevirtual 229, 3) := by decide +kernel
theorem dX10_expression_243 : decode cX10_expression 243 = .ok (.goto 84, 3) := by decide +kernel
theorem dX10_expression_246 : decode cX10_expression 246 = .ok (.aload_n 0, 1) := by decide +kernel
theorem dX10_expression_247 : decode cX10_expression 247 = .ok (.bipush 42, 2) := by decide +kernel
theorem dX10_expression_249 : decode cX10_expression 249 = .ok (.invokevirtual 214, 3) := by decide +kernel
theorem dX10_expression_252 : decode cX10_expression 252 = .ok (.ifCond .ne 12, 3) := by decide +kernel
theorem dX10_expression_255 : decode cX10_expression 255 = .ok (.aload_n 0, 1) := by decide +kernel
theorem dX10_expression_256 : decode cX10_expression 256 = .ok (.bipush 47, 2) := by decide +kernel
theorem dX10_expression_258 : decode cX10_expression 258 = .ok (.invokevirtual 214, 3) := by decide +kernel
theorem dX10_expression_261 : decode cX10_expression 261 = .ok (.ifCond .eq 41, 3) := by decide +kernel
theorem dX10_expression_264 : decode cX10_expression 264 = .ok (.aload_n 0, 1) := by decide +kernel
theorem dX10_expression_265 : decode cX10_expression 265 = .ok (.bipush 6, 2) := by decide +kernel
theorem dX10_expression_267 : decode cX10_expression 267 = .ok (.invokevirtual 226, 3) := by decide +kernel
theorem dX10_expression_270 : decode cX10_expression 270 = .ok (.aload_n 0, 1) := by decide +kernel
theorem dX10_expression_271 : decode cX10_expression 271 = .ok (.aload_n 0, 1) := by decide +kernel
theorem dX10_expression_272 : decode cX10_expression 272 = .ok (.bipush 42, 2) := by decide +kernel
theorem dX10_expression_274 : decode cX10_expression 274 = .ok (.invokevirtual 214, 3) := by decide +kernel
theorem dX10_expression_277 : decode cX10_expression 277 = .ok (.ifCond .eq 8, 3) := by decide +kernel
theorem dX10_expression_280 : decode cX10_expression 280 = .ok (.bipush 10, 2) := by decide +kernel
theorem dX10_expression_282 : decode cX10_expression 282 = .ok (.goto 5, 3) := by decide +kernel
theorem dX10_expression_285 : decode cX10_expression 285 = .ok (.bipush 11, 2) := by decide +kernel
theorem dX10_expression_287 : decode cX10_expression 287 = .ok (.invokevirtual 217, 3) := by decide +kernel
theorem dX10_expression_290 : decode cX10_expression 290 = .ok (.aload_n 0, 1) := by decide +kernel
theorem dX10_expression_291 : decode cX10_expression 291 = .ok (.invokevirtual 183, 3) := by decide +kernel
theorem dX10_expression_294 : decode cX10_expression 294 = .ok (.aload_n 0, 1) := by decide +kernel
theorem dX10_expression_295 : decode cX10_expression 295 = .ok (.iconst 0, 1) := by decide +kernel
theorem dX10_expression_296 : decode cX10_expression 296 = .ok (.invokevirtual 229, 3) := by decide +kernel
theorem dX10_expression_299 : decode cX10_expression 299 = .ok (.goto 28, 3) := by decide +kernel
theorem dX10_expression_302 : decode cX10_expression 302 = .ok (.aload_n 0, 1) := by decide +kernel
theorem dX10_expression_303 : decode cX10_expression 303 = .ok (.bipush 41, 2) := by decide +kernel
theorem dX10_expression_305 : decode cX10_expression 305 = .ok (.invokevirtual 214, 3) := by decide +kernel
theorem dX10_expression_308 : decode cX10_expression 308 = .ok (.ifCond .eq 17, 3) := by decide +kernel
theorem dX10_expression_311 : decode cX10_expression 311 = .ok (.aload_n 0, 1) := by decide +kernel
theorem dX10_expression_312 : decode cX10_expression 312 = .ok (.invokevirtual 233, 3) := by decide +kernel
theorem dX10_expression_315 : decode cX10_expression 315 = .ok (.ifCond .eq 10, 3) := by decide +kernel
theorem dX10_expression_318 : decode cX10_expression 318 = .ok (.aload_n 0, 1) := by decide +kernel
theorem dX10_expression_319 : decode cX10_expression 319 = .ok (.invokevirtual 236, 3) := by decide +kernel
theorem dX10_expression_322 : decode cX10_expression 322 = .ok (.goto 5, 3) := by decide +kernel
theorem dX10_expression_325 : decode cX10_expression 325 = .ok (.iconst 0, 1) := by decide +kernel
theorem dX10_expression_326 : decode cX10_expression 326 = .ok (.istore_n 2, 1) := by decide +kernel
theorem dX10_expression_327 : decode cX10_expression 327 = .ok (.goto (-293), 3) := by decide +kernel
theorem dX10_expression_330 : decode cX10_expression 330 = .ok (.aload_n 0, 1) := by decide +kernel
theorem dX10_expression_331 : decode cX10_expression 331 = .ok (.invokevirtual 179, 3) := by decide +kernel
theorem dX10_expression_334 : decode cX10_expression 334 = .ok (.ifCond .eq 16, 3) := by decide +kernel
theorem dX10_expression_337 : decode cX10_expression 337 = .ok (.aload_n 0, 1) := by decide +kernel
theorem dX10_expression_338 : decode cX10_expression 338 = .ok (.getfield 211, 3) := by decide +kernel
theorem dX10_expression_341 : decode cX10_expression 341 = .ok (.iconst 1, 1) := by decide +kernel
theorem dX10_expression_342 : decode cX10_expression 342 = .ok (.if_icmp .le 8, 3) := by decide +kernel
theorem dX10_expression_345 : decode cX10_expression 345 = .ok (.aload_n 0, 1) := by decide +kernel
theorem dX10_expression_346 : decode cX10_expression 346 = .ok (.iconst 1, 1) := by decide +kernel
theorem dX10_expression_347 : decode cX10_expression 347 = .ok (.invokevirtual 186, 3) := by decide +kernel
theorem dX10_expression_350 : decode cX10_expression 350 = .ok (.aload_n 0, 1) := by decide +kernel
theorem dX10_expression_351 : decode cX10_expression 351 = .ok (.iconst 0, 1) := by decide +kernel
theorem dX10_expression_352 : decode cX10_expression 352 = .ok (.invokevirtual 226, 3) := by decide +kernel
theorem dX10_expression_355 : decode cX10_expression 355 = .ok (.aload_n 0, 1) := by decide +kernel
theorem dX10_expression_356 : decode cX10_expression 356 = .ok (.iconst 0, 1) := by decide +kernel
theorem dX10_expression_357 : decode cX10_expression 357 = .ok (.invokevirtual 201, 3) := by decide +kernel
theorem dX10_expression_360 : decode cX10_expression 360 = .ok (.return_, 1) := by decide +kernel
theorem dX10_begins_0 : decode cX10_begins 0 = .ok (.iload_n 1, 1) := by decide +kernel
theorem dX10_begins_1 : decode cX10_begins 1 = .ok (.ifCond .eq 8, 3) := by decide +kernel
theorem dX10_begins_4 : decode cX10_begins 4 = .ok (.aload_n 0, 1) := by decide +kernel
theorem dX10_begins_5 : decode cX10_begins 5 = .ok (.iconst 2, 1) := by decide +kernel
theorem dX10_begins_6 : decode cX10_begins 6 = .ok (.invokevirtual 186, 3) := by decide +kernel
theorem dX10_begins_9 : decode cX10_begins 9 = .ok (.iload_n 2, 1) := by decide +kernel
theorem dX10_begins_10 : decode cX10_begins 10 = .ok (.ifCond .eq 8, 3) := by decide +kernel
theorem dX10_begins_13 : decode cX10_begins 13 = .ok (.aload_n 0, 1) := by decide +kernel
theorem dX10_begins_14 : decode cX10_begins 14 = .ok (.iconst 5, 1) := by decide +kernel
theorem dX10_begins_15 : decode cX10_begins 15 = .ok (.invokevirtual 186, 3) := by decide +kernel
theorem dX10_begins_18 : decode cX10_begins 18 = .ok (.aload_n 0, 1) := by decide +kernel
theorem dX10_begins_19 : decode cX10_begins 19 = .ok (.invokevirtual 179, 3) := by decide +kernel
theorem dX10_begins_22 : decode cX10_begins 22 = .ok (.ifCond .ne 5, 3) := by decide +kernel
theorem dX10_begins_25 : decode cX10_begins 25 = .ok (.iconst 0, 1) := by decide +kernel
theorem dX10_begins_26 : decode cX10_begins 26 = .ok (.ireturn, 1) := by decide +kernel
theorem dX10_begins_27 : decode cX10_begins 27 = .ok (.aload_n 0, 1) := by decide +kernel
theorem dX10_begins_28 : decode cX10_begins 28 = .ok (.invokevirtual 183, 3) := by decide +kernel
theorem dX10_begins_31 : decode cX10_begins 31 = .ok (.iconst 1, 1) := by decide +kernel
theorem dX10_begins_32 : decode cX10_begins 32 = .ok (.ireturn, 1) := by decide +kernel
theorem dX10_readsPerson_0 : decode cX10_readsPerson 0 = .ok (.aload_n 0, 1) := by decide +kernel
theorem dX10_readsPerson_1 : decode cX10_readsPerson 1 = .ok (.getfield 239, 3) := by decide +kernel
theorem dX10_readsPerson_4 : decode cX10_readsPerson 4 = .ok (.istore_n 2, 1) := by decide +kernel
theorem dX10_readsPerson_5 : decode cX10_readsPerson 5 = .ok (.aload_n 0, 1) := by decide +kernel
theorem dX10_readsPerson_6 : decode cX10_readsPerson 6 = .ok (.getfield 44, 3) := by decide +kernel
theorem dX10_readsPerson_9 : decode cX10_readsPerson 9 = .ok (.iload_n 2, 1) := by decide +kernel
theorem dX10_readsPerson_10 : decode cX10_readsPerson 10 = .ok (.iload_n 1, 1) := by decide +kernel
theorem dX10_readsPerson_11 : decode cX10_readsPerson 11 = .ok (.iastore, 1) := by decide +kernel
theorem dX10_readsPerson_12 : decode cX10_readsPerson 12 = .ok (.aload_n 0, 1) := by decide +kernel
theorem dX10_readsPerson_13 : decode cX10_readsPerson 13 = .ok (.getfield 47, 3) := by decide +kernel
theorem dX10_readsPerson_16 : decode cX10_readsPerson 16 = .ok (.iload_n 2, 1) := by decide +kernel
theorem dX10_readsPerson_17 : decode cX10_readsPerson 17 = .ok (.aload_n 0, 1) := by decide +kernel
theorem dX10_readsPerson_18 : decode cX10_readsPerson 18 = .ok (.iconst 0, 1) := by decide +kernel
theorem dX10_readsPerson_19 : decode cX10_readsPerson 19 = .ok (.bipush 60, 2) := by decide +kernel
theorem dX10_readsPerson_21 : decode cX10_readsPerson 21 = .ok (.invokevirtual 242, 3) := by decide +kernel
theorem dX10_readsPerson_24 : decode cX10_readsPerson 24 = .ok (.iastore, 1) := by decide +kernel
theorem dX10_readsPerson_25 : decode cX10_readsPerson 25 = .ok (.aload_n 0, 1) := by decide +kernel
theorem dX10_readsPerson_26 : decode cX10_readsPerson 26 = .ok (.getfield 56, 3) := by decide +kernel
theorem dX10_readsPerson_29 : decode cX10_readsPerson 29 = .ok (.iconst 3, 1) := by decide +kernel
theorem dX10_readsPerson_30 : decode cX10_readsPerson 30 = .ok (.iload_n 2, 1) := by decide +kernel
theorem dX10_readsPerson_31 : decode cX10_readsPerson 31 = .ok (.iadd, 1) := by decide +kernel
theorem dX10_readsPerson_32 : decode cX10_readsPerson 32 = .ok (.aload_n 0, 1) := by decide +kernel
theorem dX10_readsPerson_33 : decode cX10_readsPerson 33 = .ok (.iconst 0, 1) := by decide +kernel
theorem dX10_readsPerson_34 : decode cX10_readsPerson 34 = .ok (.bipush 60, 2) := by decide +kernel
theorem dX10_readsPerson_36 : decode cX10_readsPerson 36 = .ok (.invokevirtual 242, 3) := by decide +kernel
theorem dX10_readsPerson_39 : decode cX10_readsPerson 39 = .ok (.iastore, 1) := by decide +kernel
theorem dX10_readsPerson_40 : decode cX10_readsPerson 40 = .ok (.aload_n 0, 1) := by decide +kernel
theorem dX10_readsPerson_41 : decode cX10_readsPerson 41 = .ok (.getfield 50, 3) := by decide +kernel
theorem dX10_readsPerson_44 : decode cX10_readsPerson 44 = .ok (.iload_n 2, 1) := by decide +kernel
theorem dX10_readsPerson_45 : decode cX10_readsPerson 45 = .ok (.aload_n 0, 1) := by decide +kernel
theorem dX10_readsPerson_46 : decode cX10_readsPerson 46 = .ok (.iconst 0, 1) := by decide +kernel
theorem dX10_readsPerson_47 : decode cX10_readsPerson 47 = .ok (.bipush 30, 2) := by decide +kernel
theorem dX10_readsPerson_49 : decode cX10_readsPerson 49 = .ok (.invokevirtual 242, 3) := by decide +kernel
theorem dX10_readsPerson_52 : decode cX10_readsPerson 52 = .ok (.iastore, 1) := by decide +kernel
theorem dX10_readsPerson_53 : decode cX10_readsPerson 53 = .ok (.aload_n 0, 1) := by decide +kernel
theorem dX10_readsPerson_54 : decode cX10_readsPerson 54 = .ok (.invokevirtual 179, 3) := by decide +kernel
theorem dX10_readsPerson_57 : decode cX10_readsPerson 57 = .ok (.ifCond .eq 13, 3) := by decide +kernel
theorem dX10_readsPerson_60 : decode cX10_readsPerson 60 = .ok (.aload_n 0, 1) := by decide +kernel
theorem dX10_readsPerson_61 : decode cX10_readsPerson 61 = .ok (.dup, 1) := by decide +kernel
theorem dX10_readsPerson_62 : decode cX10_readsPerson 62 = .ok (.getfield 239, 3) := by decide +kernel
theorem dX10_readsPerson_65 : decode cX10_readsPerson 65 = .ok (.iconst 1, 1) := by decide +kernel
theorem dX10_readsPerson_66 : decode cX10_readsPerson 66 = .ok (.iadd, 1) := by decide +kernel
theorem dX10_readsPerson_67 : decode cX10_readsPerson 67 = .ok (.putfield 239, 3) := by decide +kernel
theorem dX10_readsPerson_70 : decode cX10_readsPerson 70 = .ok (.return_, 1) := by decide +kernel
theorem dX10_line_0 : decode cX10_line 0 = .ok (.aload_n 0, 1) := by decide +kernel
theorem dX10_line_1 : decode cX10_line 1 = .ok (.invokevirtual 204, 3) := by decide +kernel
theorem dX10_line_4 : decode cX10_line 4 = .ok (.istore_n 1, 1) := by decide +kernel
theorem dX10_line_5 : decode cX10_line 5 = .ok (.iload_n 1, 1) := by decide +kernel
theorem dX10_line_6 : decode cX10_line 6 = .ok (.bipush 7, 2) := by decide +kernel
theorem dX10_line_8 : decode cX10_line 8 = .ok (.if_icmp .eq 15, 3) := by decide +kernel
theorem dX10_line_11 : decode cX10_line 11 = .ok (.iload_n 1, 1) := by decide +kernel
theorem dX10_line_12 : decode cX10_line 12 = .ok (.bipush 8, 2) := by decide +kernel
theorem dX10_line_14 : decode cX10_line 14 = .ok (.if_icmp .eq 9, 3) := by decide +kernel
theorem dX10_line_17 : decode cX10_line 17 = .ok (.iload_n 1, 1) := by decide +kernel
theorem dX10_line_18 : decode cX10_line 18 = .ok (.bipush 9, 2) := by decide +kernel
theorem dX10_line_20 : decode cX10_line 20 = .ok (.if_icmp .ne 36, 3) := by decide +kernel
theorem dX10_line_23 : decode cX10_line 23 = .ok (.aload_n 0, 1) := by decide +kernel
theorem dX10_line_24 : decode cX10_line 24 = .ok (.aload_n 0, 1) := by decide +kernel
theorem dX10_line_25 : decode cX10_line 25 = .ok (.getfield 239, 3) := by decide +kernel
theorem dX10_line_28 : decode cX10_line 28 = .ok (.bipush 8, 2) := by decide +kernel
theorem dX10_line_30 : decode cX10_line 30 = .ok (.if_icmp .ne 7, 3) := by decide +kernel
theorem dX10_line_33 : decode cX10_line 33 = .ok (.iconst 1, 1) := by decide +kernel
theorem dX10_line_34 : decode cX10_line 34 = .ok (.goto 4, 3) := by decide +kernel
theorem dX10_line_37 : decode cX10_line 37 = .ok (.iconst 0, 1) := by decide +kernel
theorem dX10_line_38 : decode cX10_line 38 = .ok (.iconst 0, 1) := by decide +kernel
theorem dX10_line_39 : decode cX10_line 39 = .ok (.invokevirtual 246, 3) := by decide +kernel
theorem dX10_line_42 : decode cX10_line 42 = .ok (.ifCond .eq 230, 3) := by decide +kernel
theorem dX10_line_45 : decode cX10_line 45 = .ok (.aload_n 0, 1) := by decide +kernel
theorem dX10_line_46 : decode cX10_line 46 = .ok (.iload_n 1, 1) := by decide +kernel
theorem dX10_line_47 : decode cX10_line 47 = .ok (.bipush 7, 2) := by decide +kernel
theorem dX10_line_49 : decode cX10_line 49 = .ok (.isub, 1) := by decide +kernel
theorem dX10_line_50 : decode cX10_line 50 = .ok (.invokevirtual 250, 3) := by decide +kernel
theorem dX10_line_53 : decode cX10_line 53 = .ok (.goto 219, 3) := by decide +kernel
theorem dX10_line_56 : decode cX10_line 56 = .ok (.iload_n 1, 1) := by decide +kernel
theorem dX10_line_57 : decode cX10_line 57 = .ok (.iconst 4, 1) := by decide +kernel
theorem dX10_line_58 : decode cX10_line 58 = .ok (.if_icmp .ne 81, 3) := by decide +kernel
theorem dX10_line_61 : decode cX10_line 61 = .ok (.aload_n 0, 1) := by decide +kernel
theorem dX10_line_62 : decode cX10_line 62 = .ok (.aload_n 0, 1) := by decide +kernel
theorem dX10_line_63 : decode cX10_line 63 = .ok (.getfield 253, 3) := by decide +kernel
theorem dX10_line_66 : decode cX10_line 66 = .ok (.bipush 6, 2) := by decide +kernel
theorem dX10_line_68 : decode cX10_line 68 = .ok (.if_icmp .ne 7, 3) := by decide +kernel
theorem dX10_line_71 : decode cX10_line 71 = .ok (.iconst 1, 1) := by decide +kernel
theorem dX10_line_72 : decode cX10_line 72 = .ok (.goto 4, 3) := by decide +kernel
theorem dX10_line_75 : decode cX10_line 75 = .ok (.iconst 0, 1) := by decide +kernel
theorem dX10_line_76 : decode cX10_line 76 = .ok (.iconst 0, 1) := by decide +kernel
theorem dX10_line_77 : decode cX10_line 77 = .ok (.invokevirtual 246, 3) := by decide +kernel
theorem dX10_line_80 : decode cX10_line 80 = .ok (.ifCond .eq 192, 3) := by decide +kernel
theorem dX10_line_83 : decode cX10_line 83 = .ok (.aload_n 0, 1) := by decide +kernel
theorem dX10_line_84 : decode cX10_line 84 = .ok (.getfield 56, 3) := by decide +kernel
theorem dX10_line_87 : decode cX10_line 87 = .ok (.bipush 27, 2) := by decide +kernel
theorem dX10_line_89 : decode cX10_line 89 = .ok (.aload_n 0, 1) := by decide +kernel
theorem dX10_line_90 : decode cX10_line 90 = .ok (.getfield 253, 3) := by decide +kernel
theorem dX10_line_93 : decode cX10_line 93 = .ok (.iadd, 1) := by decide +kernel
theorem dX10_line_94 : decode cX10_line 94 = .ok (.aload_n 0, 1) := by decide +kernel
theorem dX10_line_95 : decode cX10_line 95 = .ok (.iconst 0, 1) := by decide +kernel
theorem dX10_line_96 : decode cX10_line 96 = .ok (.sipush 999, 3) := by decide +kernel
theorem dX10_line_99 : decode cX10_line 99 = .ok (.invokevirtual 242, 3) := by decide +kernel
theorem dX10_line_102 : decode cX10_line 102 = .ok (.iastore, 1) := by decide +kernel
theorem dX10_line_103 : decode cX10_line 103 = .ok (.aload_n 0, 1) := by decide +kernel
theorem dX10_line_104 : decode cX10_line 104 = .ok (.getfield 53, 3) := by decide +kernel
theorem dX10_line_107 : decode cX10_line 107 = .ok (.aload_n 0, 1) := by decide +kernel
theorem dX10_line_108 : decode cX10_line 108 = .ok (.getfield 253, 3) := by decide +kernel
theorem dX10_line_111 : decode cX10_line 111 = .ok (.aload_n 0, 1) := by decide +kernel
theorem dX10_line_112 : decode cX10_line 112 = .ok (.iconst 0, 1) := by decide +kernel
theorem dX10_line_113 : decode cX10_line 113 = .ok (.bipush 30, 2) := by decide +kernel
theorem dX10_line_115 : decode cX10_line 115 = .ok (.invokevirtual 242, 3) := by decide +kernel
theorem dX10_line_118 : decode cX10_line 118 = .ok (.iastore, 1) := by decide +kernel
theorem dX10_line_119 : decode cX10_line 119 = .ok (.aload_n 0, 1) := by decide +kernel
theorem dX10_line_120 : decode cX10_line 120 = .ok (.invokevirtual 179, 3) := by decide +kernel
theorem dX10_line_123 : decode cX10_line 123 = .ok (.ifCond .eq 149, 3) := by decide +kernel
theorem dX10_line_126 : decode cX10_line 126 = .ok (.aload_n 0, 1) := by decide +kernel
theorem dX10_line_127 : decode cX10_line 127 = .ok (.dup, 1) := by decide +kernel
theorem dX10_line_128 : decode cX10_line 128 = .ok (.getfield 253, 3) := by decide +kernel
theorem dX10_line_131 : decode cX10_line 131 = .ok (.iconst 1, 1) := by decide +kernel
theorem dX10_line_132 : decode cX10_line 132 = .ok (.iadd, 1) := by decide +kernel
theorem dX10_line_133 : decode cX10_line 133 = .ok (.putfield 253, 3) := by decide +kernel
theorem dX10_line_136 : decode cX10_line 136 = .ok (.goto 136, 3) := by decide +kernel
theorem dX10_line_139 : decode cX10_line 139 = .ok (.iload_n 1, 1) := by decide +kernel
theorem dX10_line_140 : decode cX10_line 140 = .ok (.bipush 10, 2) := by decide +kernel
theorem dX10_line_142 : decode cX10_line 142 = .ok (.if_icmp .ne 38, 3) := by decide +kernel
theorem dX10_line_145 : decode cX10_line 145 = .ok (.aload_n 0, 1) := by decide +kernel
theorem dX10_line_146 : decode cX10_line 146 = .ok (.iconst 0, 1) := by decide +kernel
theorem dX10_line_147 : decode cX10_line 147 = .ok (.aload_n 0, 1) := by decide +kernel
theorem dX10_line_148 : decode cX10_line 148 = .ok (.getfield 256, 3) := by decide +kernel
theorem dX10_line_151 : decode cX10_line 151 = .ok (.iconst (-1), 1) := by decide +kernel
theorem dX10_line_152 : decode cX10_line 152 = .ok (.if_icmp .eq 7, 3) := by decide +kernel
theorem dX10_line_155 : decode cX10_line 155 = .ok (.iconst 1, 1) := by decide +kernel
theorem dX10_line_156 : decode cX10_line 156 = .ok (.goto 4, 3) := by decide +kernel
theorem dX10_line_159 : decode cX10_line 159 = .ok (.iconst 0, 1) := by decide +kernel
theorem dX10_line_160 : decode cX10_line 160 = .ok (.invokevirtual 246, 3) := by decide +kernel
theorem dX10_line_163 : decode cX10_line 163 = .ok (.ifCond .eq 109, 3) := by decide +kernel
theorem dX10_line_166 : decode cX10_line 166 = .ok (.aload_n 0, 1) := by decide +kernel
theorem dX10_line_167 : decode cX10_line 167 = .ok (.aload_n 0, 1) := by decide +kernel
theorem dX10_line_168 : decode cX10_line 168 = .ok (.iconst 1, 1) := by decide +kernel
theorem dX10_line_169 : decode cX10_line 169 = .ok (.bipush 9, 2) := by decide +kernel
theorem dX10_line_171 : decode cX10_line 171 = .ok (.invokevirtual 242, 3) := by decide +kernel
theorem dX10_line_174 : decode cX10_line 174 = .ok (.putfield 256, 3) := by decide +kernel
theorem dX10_line_177 : decode cX10_line 177 = .ok (.goto 95, 3) := by decide +kernel
theorem dX10_line_180 : decode cX10_line 180 = .ok (.iload_n 1, 1) := by decide +kernel
theorem dX10_line_181 : decode cX10_line 181 = .ok (.bipush 11, 2) := by decide +kernel
theorem dX10_line_183 : decode cX10_line 183 = .ok (.if_icmp .ne 40, 3) := by decide +kernel
theorem dX10_line_186 : decode cX10_line 186 = .ok (.aload_n 0, 1) := by decide +kernel
theorem dX10_line_187 : decode cX10_line 187 = .ok (.iconst 0, 1) := by decide +kernel
theorem dX10_line_188 : decode cX10_line 188 = .ok (.aload_n 0, 1) := by decide +kernel
theorem dX10_line_189 : decode cX10_line 189 = .ok (.getfield 259, 3) := by decide +kernel
theorem dX10_line_192 : decode cX10_line 192 = .ok (.iconst (-1), 1) := by decide +kernel
theorem dX10_line_193 : decode cX10_line 193 = .ok (.if_icmp .eq 7, 3) := by decide +kernel
theorem dX10_line_196 : decode cX10_line 196 = .ok (.iconst 1, 1) := by decide +kernel
theorem dX10_line_197 : decode cX10_line 197 = .ok (.goto 4, 3) := by decide +kernel
theorem dX10_line_200 : decode cX10_line 200 = .ok (.iconst 0, 1) := by decide +kernel
theorem dX10_line_201 : decode cX10_line 201 = .ok (.invokevirtual 246, 3) := by decide +kernel
theorem dX10_line_204 : decode cX10_line 204 = .ok (.ifCond .eq 68, 3) := by decide +kernel
theorem dX10_line_207 : decode cX10_line 207 = .ok (.aload_n 0, 1) := by decide +kernel
theorem dX10_line_208 : decode cX10_line 208 = .ok (.aload_n 0, 1) := by decide +kernel
theorem dX10_line_209 : decode cX10_line 209 = .ok (.getfield 189, 3) := by decide +kernel
theorem dX10_line_212 : decode cX10_line 212 = .ok (.putfield 259, 3) := by decide +kernel
theorem dX10_line_215 : decode cX10_line 215 = .ok (.aload_n 0, 1) := by decide +kernel
theorem dX10_line_216 : decode cX10_line 216 = .ok (.iconst 5, 1) := by decide +kernel
theorem dX10_line_217 : decode cX10_line 217 = .ok (.invokevirtual 262, 3) := by decide +kernel
theorem dX10_line_220 : decode cX10_line 220 = .ok (.goto 52, 3) := by decide +kernel
theorem dX10_line_223 : decode cX10_line 223 = .ok (.iload_n 1, 1) := by decide +kernel
theorem dX10_line_224 : decode cX10_line 224 = .ok (.bipush 12, 2) := by decide +kernel
theorem dX10_line_226 : decode cX10_line 226 = .ok (.if_icmp .ne 41, 3) := by decide +kernel
theorem dX10_line_229 : decode cX10_line 229 = .ok (.aload_n 0, 1) := by decide +kernel
theorem dX10_line_230 : decode cX10_line 230 = .ok (.iconst 0, 1) := by decide +kernel
theorem dX10_line_231 : decode cX10_line 231 = .ok (.aload_n 0, 1) := by decide +kernel
theorem dX10_line_232 : decode cX10_line 232 = .ok (.getfield 265, 3) := by decide +kernel
theorem dX10_line_235 : decode cX10_line 235 = .ok (.iconst (-1), 1) := by decide +kernel
theorem dX10_line_236 : decode cX10_line 236 = .ok (.if_icmp .eq 7, 3) := by decide +kernel
theorem dX10_line_239 : decode cX10_line 239 = .ok (.iconst 1, 1) := by decide +kernel
theorem dX10_line_240 : decode cX10_line 240 = .ok (.goto 4, 3) := by decide +kernel
theorem dX10_line_243 : decode cX10_line 243 = .ok (.iconst 0, 1) := by decide +kernel
theorem dX10_line_244 : decode cX10_line 244 = .ok (.invokevirtual 246, 3) := by decide +kernel
theorem dX10_line_247 : decode cX10_line 247 = .ok (.ifCond .eq 25, 3) := by decide +kernel
theorem dX10_line_250 : decode cX10_line 250 = .ok (.aload_n 0, 1) := by decide +kernel
theorem dX10_line_251 : decode cX10_line 251 = .ok (.aload_n 0, 1) := by decide +kernel
theorem dX10_line_252 : decode cX10_line 252 = .ok (.getfield 189, 3) := by decide +kernel
theorem dX10_line_255 : decode cX10_line 255 = .ok (.putfield 265, 3) := by decide +kernel
theorem dX10_line_258 : decode cX10_line 258 = .ok (.aload_n 0, 1) := by decide +kernel
theorem dX10_line_259 : decode cX10_line 259 = .ok (.bipush 6, 2) := by decide +kernel
theorem dX10_line_261 : decode cX10_line 261 = .ok (.invokevirtual 262, 3) := by decide +kernel
theorem dX10_line_264 : decode cX10_line 264 = .ok (.goto 8, 3) := by decide +kernel
theorem dX10_line_267 : decode cX10_line 267 = .ok (.aload_n 0, 1) := by decide +kernel
theorem dX10_line_268 : decode cX10_line 268 = .ok (.iconst 1, 1) := by decide +kernel
theorem dX10_line_269 : decode cX10_line 269 = .ok (.invokevirtual 186, 3) := by decide +kernel
theorem dX10_line_272 : decode cX10_line 272 = .ok (.aload_n 0, 1) := by decide +kernel
theorem dX10_line_273 : decode cX10_line 273 = .ok (.aload_n 0, 1) := by decide +kernel
theorem dX10_line_274 : decode cX10_line 274 = .ok (.bipush 59, 2) := by decide +kernel
theorem dX10_line_276 : decode cX10_line 276 = .ok (.invokevirtual 214, 3) := by decide +kernel
theorem dX10_line_279 : decode cX10_line 279 = .ok (.invokevirtual 268, 3) := by decide +kernel
theorem dX10_line_282 : decode cX10_line 282 = .ok (.return_, 1) := by decide +kernel
theorem dX10_town_0 : decode cX10_town 0 = .ok (.aload_n 0, 1) := by decide +kernel
theorem dX10_town_1 : decode cX10_town 1 = .ok (.iconst 0, 1) := by decide +kernel
theorem dX10_town_2 : decode cX10_town 2 = .ok (.putfield 120, 3) := by decide +kernel
theorem dX10_town_5 : decode cX10_town 5 = .ok (.aload_n 0, 1) := by decide +kernel
theorem dX10_town_6 : decode cX10_town 6 = .ok (.iload_n 1, 1) := by decide +kernel
theorem dX10_town_7 : decode cX10_town 7 = .ok (.ifCond .lt 15, 3) := by decide +kernel
theorem dX10_town_10 : decode cX10_town 10 = .ok (.iload_n 1, 1) := by decide +kernel
theorem dX10_town_11 : decode cX10_town 11 = .ok (.aload_n 0, 1) := by decide +kernel
theorem dX10_town_12 : decode cX10_town 12 = .ok (.getfield 123, 3) := by decide +kernel
theorem dX10_town_15 : decode cX10_town 15 = .ok (.if_icmp .gt 7, 3) := by decide +kernel
theorem dX10_town_18 : decode cX10_town 18 = .ok (.iconst 1, 1) := by decide +kernel
theorem dX10_town_19 : decode cX10_town 19 = .ok (.goto 4, 3) := by decide +kernel
theorem dX10_town_22 : decode cX10_town 22 = .ok (.iconst 0, 1) := by decide +kernel
theorem dX10_town_23 : decode cX10_town 23 = .ok (.iconst 1, 1) := by decide +kernel
theorem dX10_town_24 : decode cX10_town 24 = .ok (.invokevirtual 271, 3) := by decide +kernel
theorem dX10_town_27 : decode cX10_town 27 = .ok (.ifCond .ne 5, 3) := by decide +kernel
theorem dX10_town_30 : decode cX10_town 30 = .ok (.iconst 0, 1) := by decide +kernel
theorem dX10_town_31 : decode cX10_town 31 = .ok (.ireturn, 1) := by decide +kernel
theorem dX10_town_32 : decode cX10_town 32 = .ok (.aload_n 0, 1) := by decide +kernel
theorem dX10_town_33 : decode cX10_town 33 = .ok (.iconst 0, 1) := by decide +kernel
theorem dX10_town_34 : decode cX10_town 34 = .ok (.putfield 123, 3) := by decide +kernel
theorem dX10_town_37 : decode cX10_town 37 = .ok (.aload_n 0, 1) := by decide +kernel
theorem dX10_town_38 : decode cX10_town 38 = .ok (.iconst (-1), 1) := by decide +kernel
theorem dX10_town_39 : decode cX10_town 39 = .ok (.putfield 38, 3) := by decide +kernel
theorem dX10_town_42 : decode cX10_town 42 = .ok (.aload_n 0, 1) := by decide +kernel
theorem dX10_town_43 : decode cX10_town 43 = .ok (.iconst 0, 1) := by decide +kernel
theorem dX10_town_44 : decode cX10_town 44 = .ok (.putfield 176, 3) := by decide +kernel
theorem dX10_town_47 : decode cX10_town 47 = .ok (.aload_n 0, 1) := by decide +kernel
theorem dX10_town_48 : decode cX10_town 48 = .ok (.iload_n 1, 1) := by decide +kernel
theorem dX10_town_49 : decode cX10_town 49 = .ok (.putfield 130, 3) := by decide +kernel
theorem dX10_town_52 : decode cX10_town 52 = .ok (.aload_n 0, 1) := by decide +kernel
theorem dX10_town_53 : decode cX10_town 53 = .ok (.iconst 0, 1) := by decide +kernel
theorem dX10_town_54 : decode cX10_town 54 = .ok (.putfield 133, 3) := by decide +kernel
theorem dX10_town_57 : decode cX10_town 57 = .ok (.aload_n 0, 1) := by decide +kernel
theorem dX10_town_58 : decode cX10_town 58 = .ok (.iconst 0, 1) := by decide +kernel
theorem dX10_town_59 : decode cX10_town 59 = .ok (.putfield 239, 3) := by decide +kernel
theorem dX10_town_62 : decode cX10_town 62 = .ok (.aload_n 0, 1) := by decide +kernel
theorem dX10_town_63 : decode cX10_town 63 = .ok (.iconst 0, 1) := by decide +kernel
theorem dX10_town_64 : decode cX10_town 64 = .ok (.putfield 253, 3) := by decide +kernel
theorem dX10_town_67 : decode cX10_town 67 = .ok (.aload_n 0, 1) := by decide +kernel
theorem dX10_town_68 : decode cX10_town 68 = .ok (.iconst (-1), 1) := by decide +kernel
theorem dX10_town_69 : decode cX10_town 69 = .ok (.putfield 256, 3) := by decide +kernel
theorem dX10_town_72 : decode cX10_town 72 = .ok (.aload_n 0, 1) := by decide +kernel
theorem dX10_town_73 : decode cX10_town 73 = .ok (.iconst (-1), 1) := by decide +kernel
theorem dX10_town_74 : decode cX10_town 74 = .ok (.putfield 259, 3) := by decide +kernel
theorem dX10_town_77 : decode cX10_town 77 = .ok (.aload_n 0, 1) := by decide +kernel
theorem dX10_town_78 : decode cX10_town 78 = .ok (.iconst (-1), 1) := by decide +kernel
theorem dX10_town_79 : decode cX10_town 79 = .ok (.putfield 265, 3) := by decide +kernel
theorem dX10_town_82 : decode cX10_town 82 = .ok (.iconst 0, 1) := by decide +kernel
theorem dX10_town_83 : decode cX10_town 83 = .ok (.istore_n 2, 1) := by decide +kernel
theorem dX10_town_84 : decode cX10_town 84 = .ok (.iload_n 2, 1) := by decide +kernel
theorem dX10_town_85 : decode cX10_town 85 = .ok (.bipush 33, 2) := by decide +kernel
theorem dX10_town_87 : decode cX10_town 87 = .ok (.if_icmp .ge 16, 3) := by decide +kernel
theorem dX10_town_90 : decode cX10_town 90 = .ok (.aload_n 0, 1) := by decide +kernel
theorem dX10_town_91 : decode cX10_town 91 = .ok (.getfield 56, 3) := by decide +kernel
theorem dX10_town_94 : decode cX10_town 94 = .ok (.iload_n 2, 1) := by decide +kernel
theorem dX10_town_95 : decode cX10_town 95 = .ok (.iconst 0, 1) := by decide +kernel
theorem dX10_town_96 : decode cX10_town 96 = .ok (.iastore, 1) := by decide +kernel
theorem dX10_town_97 : decode cX10_town 97 = .ok (.iinc 2 1, 3) := by decide +kernel
theorem dX10_town_100 : decode cX10_town 100 = .ok (.goto (-16), 3) := by decide +kernel
theorem dX10_town_103 : decode cX10_town 103 = .ok (.aload_n 0, 1) := by decide +kernel
theorem dX10_town_104 : decode cX10_town 104 = .ok (.getfield 56, 3) := by decide +kernel
theorem dX10_town_107 : decode cX10_town 107 = .ok (.iconst 1, 1) := by decide +kernel
theorem dX10_town_108 : decode cX10_town 108 = .ok (.iconst (-1), 1) := by decide +kernel
theorem dX10_town_109 : decode cX10_town 109 = .ok (.iastore, 1) := by decide +kernel
theorem dX10_town_110 : decode cX10_town 110 = .ok (.aload_n 0, 1) := by decide +kernel
theorem dX10_town_111 : decode cX10_town 111 = .ok (.iconst 0, 1) := by decide +kernel
theorem dX10_town_112 : decode cX10_town 112 = .ok (.putfield 189, 3) := by decide +kernel
theorem dX10_town_115 : decode cX10_town 115 = .ok (.aload_n 0, 1) := by decide +kernel
theorem dX10_town_116 : decode cX10_town 116 = .ok (.invokevirtual 183, 3) := by decide +kernel
theorem dX10_town_119 : decode cX10_town 119 = .ok (.aload_n 0, 1) := by decide +kernel
theorem dX10_town_120 : decode cX10_town 120 = .ok (.invokevirtual 179, 3) := by decide +kernel
theorem dX10_town_123 : decode cX10_town 123 = .ok (.ifCond .eq 17, 3) := by decide +kernel
theorem dX10_town_126 : decode cX10_town 126 = .ok (.aload_n 0, 1) := by decide +kernel
theorem dX10_town_127 : decode cX10_town 127 = .ok (.getfield 153, 3) := by decide +kernel
theorem dX10_town_130 : decode cX10_town 130 = .ok (.ifCond .eq 10, 3) := by decide +kernel
theorem dX10_town_133 : decode cX10_town 133 = .ok (.aload_n 0, 1) := by decide +kernel
theorem dX10_town_134 : decode cX10_town 134 = .ok (.invokevirtual 275, 3) := by decide +kernel
theorem dX10_town_137 : decode cX10_town 137 = .ok (.goto (-18), 3) := by decide +kernel
theorem dX10_town_140 : decode cX10_town 140 = .ok (.aload_n 0, 1) := by decide +kernel
theorem dX10_town_141 : decode cX10_town 141 = .ok (.invokevirtual 179, 3) := by decide +kernel
theorem dX10_town_144 : decode cX10_town 144 = .ok (.ifCond .ne 18, 3) := by decide +kernel
theorem dX10_town_147 : decode cX10_town 147 = .ok (.aload_n 0, 1) := by decide +kernel
theorem dX10_town_148 : decode cX10_town 148 = .ok (.getfield 41, 3) := by decide +kernel
theorem dX10_town_151 : decode cX10_town 151 = .ok (.iconst 0, 1) := by decide +kernel
theorem dX10_town_152 : decode cX10_town 152 = .ok (.dup2, 1) := by decide +kernel
theorem dX10_town_153 : decode cX10_town 153 = .ok (.iaload, 1) := by decide +kernel
theorem dX10_town_154 : decode cX10_town 154 = .ok (.iconst 1, 1) := by decide +kernel
theorem dX10_town_155 : decode cX10_town 155 = .ok (.iadd, 1) := by decide +kernel
theorem dX10_town_156 : decode cX10_town 156 = .ok (.iastore, 1) := by decide +kernel
theorem dX10_town_157 : decode cX10_town 157 = .ok (.aload_n 0, 1) := by decide +kernel
theorem dX10_town_158 : decode cX10_town 158 = .ok (.getfield 176, 3) := by decide +kernel
theorem dX10_town_161 : decode cX10_town 161 = .ok (.ireturn, 1) := by decide +kernel
theorem dX10_town_162 : decode cX10_town 162 = .ok (.aload_n 0, 1) := by decide +kernel
theorem dX10_town_163 : decode cX10_town 163 = .ok (.aload_n 0, 1) := by decide +kernel
theorem dX10_town_164 : decode cX10_town 164 = .ok (.getfield 239, 3) := by decide +kernel
theorem dX10_town_167 : decode cX10_town 167 = .ok (.putfield 278, 3) := by decide +kernel
theorem dX10_town_170 : decode cX10_town 170 = .ok (.aload_n 0, 1) := by decide +kernel
theorem dX10_town_171 : decode cX10_town 171 = .ok (.aload_n 0, 1) := by decide +kernel
theorem dX10_town_172 : decode cX10_town 172 = .ok (.getfield 253, 3) := by decide +kernel
theorem dX10_town_175 : decode cX10_town 175 = .ok (.putfield 281, 3) := by decide +kernel
theorem dX10_town_178 : decode cX10_town 178 = .ok (.aload_n 0, 1) := by decide +kernel
theorem dX10_town_179 : decode cX10_town 179 = .ok (.aload_n 0, 1) := by decide +kernel
theorem dX10_town_180 : decode cX10_town 180 = .ok (.getfield 256, 3) := by decide +kernel
theorem dX10_town_183 : decode cX10_town 183 = .ok (.iconst (-1), 1) := by decide +kernel
theorem dX10_town_184 : decode cX10_town 184 = .ok (.if_icmp .ne 7, 3) := by decide +kernel
theorem dX10_town_187 : decode cX10_town 187 = .ok (.iconst 2, 1) := by decide +kernel
theorem dX10_town_188 : decode cX10_town 188 = .ok (.goto 7, 3) := by decide +kernel
theorem dX10_town_191 : decode cX10_town 191 = .ok (.aload_n 0, 1) := by decide +kernel
theorem dX10_town_192 : decode cX10_town 192 = .ok (.getfield 256, 3) := by decide +kernel
theorem dX10_town_195 : decode cX10_town 195 = .ok (.putfield 7, 3) := by decide +kernel
theorem dX10_town_198 : decode cX10_town 198 = .ok (.aload_n 0, 1) := by decide +kernel
theorem dX10_town_199 : decode cX10_town 199 = .ok (.aload_n 0, 1) := by decide +kernel
theorem dX10_town_200 : decode cX10_town 200 = .ok (.getfield 259, 3) := by decide +kernel
theorem dX10_town_203 : decode cX10_town 203 = .ok (.putfield 13, 3) := by decide +kernel
theorem dX10_town_206 : decode cX10_town 206 = .ok (.aload_n 0, 1) := by decide +kernel
theorem dX10_town_207 : decode cX10_town 207 = .ok (.aload_n 0, 1) := by decide +kernel
theorem dX10_town_208 : decode cX10_town 208 = .ok (.getfield 265, 3) := by decide +kernel
theorem dX10_town_211 : decode cX10_town 211 = .ok (.putfield 16, 3) := by decide +kernel
theorem dX10_town_214 : decode cX10_town 214 = .ok (.aload_n 0, 1) := by decide +kernel
theorem dX10_town_215 : decode cX10_town 215 = .ok (.aload_n 0, 1) := by decide +kernel
theorem dX10_town_216 : decode cX10_town 216 = .ok (.getfield 44, 3) := by decide +kernel
theorem dX10_town_219 : decode cX10_town 219 = .ok (.aload_n 0, 1) := by decide +kernel
theorem dX10_town_220 : decode cX10_town 220 = .ok (.getfield 19, 3) := by decide +kernel
theorem dX10_town_223 : decode cX10_town 223 = .ok (.invokevirtual 284, 3) := by decide +kernel
theorem dX10_town_226 : decode cX10_town 226 = .ok (.aload_n 0, 1) := by decide +kernel
theorem dX10_town_227 : decode cX10_town 227 = .ok (.aload_n 0, 1) := by decide +kernel
theorem dX10_town_228 : decode cX10_town 228 = .ok (.getfield 47, 3) := by decide +kernel
theorem dX10_town_231 : decode cX10_town 231 = .ok (.aload_n 0, 1) := by decide +kernel
theorem dX10_town_232 : decode cX10_town 232 = .ok (.getfield 23, 3) := by decide +kernel
theorem dX10_town_235 : decode cX10_town 235 = .ok (.invokevirtual 284, 3) := by decide +kernel
theorem dX10_town_238 : decode cX10_town 238 = .ok (.aload_n 0, 1) := by decide +kernel
theorem dX10_town_239 : decode cX10_town 239 = .ok (.aload_n 0, 1) := by decide +kernel
theorem dX10_town_240 : decode cX10_town 240 = .ok (.getfield 50, 3) := by decide +kernel
theorem dX10_town_243 : decode cX10_town 243 = .ok (.aload_n 0, 1) := by decide +kernel
theorem dX10_town_244 : decode cX10_town 244 = .ok (.getfield 26, 3) := by decide +kernel
theorem dX10_town_247 : decode cX10_town 247 = .ok (.invokevirtual 284, 3) := by decide +kernel
theorem dX10_town_250 : decode cX10_town 250 = .ok (.aload_n 0, 1) := by decide +kernel
theorem dX10_town_251 : decode cX10_town 251 = .ok (.aload_n 0, 1) := by decide +kernel
theorem dX10_town_252 : decode cX10_town 252 = .ok (.getfield 53, 3) := by decide +kernel
theorem dX10_town_255 : decode cX10_town 255 = .ok (.aload_n 0, 1) := by decide +kernel
theorem dX10_town_256 : decode cX10_town 256 = .ok (.getfield 29, 3) := by decide +kernel
theorem dX10_town_259 : decode cX10_town 259 = .ok (.invokevirtual 284, 3) := by decide +kernel
theorem dX10_town_262 : decode cX10_town 262 = .ok (.aload_n 0, 1) := by decide +kernel
theorem dX10_town_263 : decode cX10_town 263 = .ok (.aload_n 0, 1) := by decide +kernel
theorem dX10_town_264 : decode cX10_town 264 = .ok (.getfield 59, 3) := by decide +kernel
theorem dX10_town_267 : decode cX10_town 267 = .ok (.aload_n 0, 1) := by decide +kernel
theorem dX10_town_268 : decode cX10_town 268 = .ok (.getfield 32, 3) := by decide +kernel
theorem dX10_town_271 : decode cX10_town 271 = .ok (.invokevirtual 284, 3) := by decide +kernel
theorem dX10_town_274 : decode cX10_town 274 = .ok (.iconst 0, 1) := by decide +kernel
theorem dX10_town_275 : decode cX10_town 275 = .ok (.istore_n 2, 1) := by decide +kernel
theorem dX10_town_276 : decode cX10_town 276 = .ok (.iload_n 2, 1) := by decide +kernel
theorem dX10_town_277 : decode cX10_town 277 = .ok (.bipush 33, 2) := by decide +kernel
theorem dX10_town_279 : decode cX10_town 279 = .ok (.if_icmp .ge 21, 3) := by decide +kernel
theorem dX10_town_282 : decode cX10_town 282 = .ok (.aload_n 0, 1) := by decide +kernel
theorem dX10_town_283 : decode cX10_town 283 = .ok (.getfield 69, 3) := by decide +kernel
theorem dX10_town_286 : decode cX10_town 286 = .ok (.iload_n 2, 1) := by decide +kernel
theorem dX10_town_287 : decode cX10_town 287 = .ok (.aload_n 0, 1) := by decide +kernel
theorem dX10_town_288 : decode cX10_town 288 = .ok (.getfield 56, 3) := by decide +kernel
theorem dX10_town_291 : decode cX10_town 291 = .ok (.iload_n 2, 1) := by decide +kernel
theorem dX10_town_292 : decode cX10_town 292 = .ok (.iaload, 1) := by decide +kernel
theorem dX10_town_293 : decode cX10_town 293 = .ok (.iastore, 1) := by decide +kernel
theorem dX10_town_294 : decode cX10_town 294 = .ok (.iinc 2 1, 3) := by decide +kernel
theorem dX10_town_297 : decode cX10_town 297 = .ok (.goto (-21), 3) := by decide +kernel
theorem dX10_town_300 : decode cX10_town 300 = .ok (.aload_n 0, 1) := by decide +kernel
theorem dX10_town_301 : decode cX10_town 301 = .ok (.iconst 0, 1) := by decide +kernel
theorem dX10_town_302 : decode cX10_town 302 = .ok (.putfield 288, 3) := by decide +kernel
theorem dX10_town_305 : decode cX10_town 305 = .ok (.aload_n 0, 1) := by decide +kernel
theorem dX10_town_306 : decode cX10_town 306 = .ok (.iconst 0, 1) := by decide +kernel
theorem dX10_town_307 : decode cX10_town 307 = .ok (.putfield 291, 3) := by decide +kernel
theorem dX10_town_310 : decode cX10_town 310 = .ok (.aload_n 0, 1) := by decide +kernel
theorem dX10_town_311 : decode cX10_town 311 = .ok (.iconst 0, 1) := by decide +kernel
theorem dX10_town_312 : decode cX10_town 312 = .ok (.putfield 294, 3) := by decide +kernel
theorem dX10_town_315 : decode cX10_town 315 = .ok (.iconst 0, 1) := by decide +kernel
theorem dX10_town_316 : decode cX10_town 316 = .ok (.ireturn, 1) := by decide +kernel
theorem dX10_fault_0 : decode cX10_fault 0 = .ok (.aload_n 0, 1) := by decide +kernel
theorem dX10_fault_1 : decode cX10_fault 1 = .ok (.iconst 0, 1) := by decide +kernel
theorem dX10_fault_2 : decode cX10_fault 2 = .ok (.putfield 120, 3) := by decide +kernel
theorem dX10_fault_5 : decode cX10_fault 5 = .ok (.aload_n 0, 1) := by decide +kernel
theorem dX10_fault_6 : decode cX10_fault 6 = .ok (.getfield 38, 3) := by decide +kernel
theorem dX10_fault_9 : decode cX10_fault 9 = .ok (.ireturn, 1) := by decide +kernel
theorem dX10_keeps_0 : decode cX10_keeps 0 = .ok (.aload_n 0, 1) := by decide +kernel
theorem dX10_keeps_1 : decode cX10_keeps 1 = .ok (.getfield 288, 3) := by decide +kernel
theorem dX10_keeps_4 : decode cX10_keeps 4 = .ok (.bipush 40, 2) := by decide +kernel
theorem dX10_keeps_6 : decode cX10_keeps 6 = .ok (.if_icmp .ne 44, 3) := by decide +kernel
theorem dX10_keeps_9 : decode cX10_keeps 9 = .ok (.bipush 33, 2) := by decide +kernel
theorem dX10_keeps_11 : decode cX10_keeps 11 = .ok (.istore_n 1, 1) := by decide +kernel
theorem dX10_keeps_12 : decode cX10_keeps 12 = .ok (.iload_n 1, 1) := by decide +kernel
theorem dX10_keeps_13 : decode cX10_keeps 13 = .ok (.sipush 1320, 3) := by decide +kernel
theorem dX10_keeps_16 : decode cX10_keeps 16 = .ok (.if_icmp .ge 24, 3) := by decide +kernel
theorem dX10_keeps_19 : decode cX10_keeps 19 = .ok (.aload_n 0, 1) := by decide +kernel
theorem dX10_keeps_20 : decode cX10_keeps 20 = .ok (.getfield 72, 3) := by decide +kernel
theorem dX10_keeps_23 : decode cX10_keeps 23 = .ok (.iload_n 1, 1) := by decide +kernel
theorem dX10_keeps_24 : decode cX10_keeps 24 = .ok (.bipush 33, 2) := by decide +kernel
theorem dX10_keeps_26 : decode cX10_keeps 26 = .ok (.isub, 1) := by decide +kernel
theorem dX10_keeps_27 : decode cX10_keeps 27 = .ok (.aload_n 0, 1) := by decide +kernel
theorem dX10_keeps_28 : decode cX10_keeps 28 = .ok (.getfield 72, 3) := by decide +kernel
theorem dX10_keeps_31 : decode cX10_keeps 31 = .ok (.iload_n 1, 1) := by decide +kernel
theorem dX10_keeps_32 : decode cX10_keeps 32 = .ok (.iaload, 1) := by decide +kernel
theorem dX10_keeps_33 : decode cX10_keeps 33 = .ok (.iastore, 1) := by decide +kernel
theorem dX10_keeps_34 : decode cX10_keeps 34 = .ok (.iinc 1 1, 3) := by decide +kernel
theorem dX10_keeps_37 : decode cX10_keeps 37 = .ok (.goto (-25), 3) := by decide +kernel
theorem dX10_keeps_40 : decode cX10_keeps 40 = .ok (.aload_n 0, 1) := by decide +kernel
theorem dX10_keeps_41 : decode cX10_keeps 41 = .ok (.dup, 1) := by decide +kernel
theorem dX10_keeps_42 : decode cX10_keeps 42 = .ok (.getfield 288, 3) := by decide +kernel
theorem dX10_keeps_45 : decode cX10_keeps 45 = .ok (.iconst 1, 1) := by decide +kernel
theorem dX10_keeps_46 : decode cX10_keeps 46 = .ok (.isub, 1) := by decide +kernel
theorem dX10_keeps_47 : decode cX10_keeps 47 = .ok (.putfield 288, 3) := by decide +kernel
theorem dX10_keeps_50 : decode cX10_keeps 50 = .ok (.iconst 0, 1) := by decide +kernel
theorem dX10_keeps_51 : decode cX10_keeps 51 = .ok (.istore_n 1, 1) := by decide +kernel
theorem dX10_keeps_52 : decode cX10_keeps 52 = .ok (.iload_n 1, 1) := by decide +kernel
theorem dX10_keeps_53 : decode cX10_keeps 53 = .ok (.bipush 33, 2) := by decide +kernel
theorem dX10_keeps_55 : decode cX10_keeps 55 = .ok (.if_icmp .ge 29, 3) := by decide +kernel
theorem dX10_keeps_58 : decode cX10_keeps 58 = .ok (.aload_n 0, 1) := by decide +kernel
theorem dX10_keeps_59 : decode cX10_keeps 59 = .ok (.getfield 72, 3) := by decide +kernel
theorem dX10_keeps_62 : decode cX10_keeps 62 = .ok (.bipush 33, 2) := by decide +kernel
theorem dX10_keeps_64 : decode cX10_keeps 64 = .ok (.aload_n 0, 1) := by decide +kernel
theorem dX10_keeps_65 : decode cX10_keeps 65 = .ok (.getfield 288, 3) := by decide +kernel
theorem dX10_keeps_68 : decode cX10_keeps 68 = .ok (.imul, 1) := by decide +kernel
theorem dX10_keeps_69 : decode cX10_keeps 69 = .ok (.iload_n 1, 1) := by decide +kernel
theorem dX10_keeps_70 : decode cX10_keeps 70 = .ok (.iadd, 1) := by decide +kernel
theorem dX10_keeps_71 : decode cX10_keeps 71 = .ok (.aload_n 0, 1) := by decide +kernel
theorem dX10_keeps_72 : decode cX10_keeps 72 = .ok (.getfield 69, 3) := by decide +kernel
theorem dX10_keeps_75 : decode cX10_keeps 75 = .ok (.iload_n 1, 1) := by decide +kernel
theorem dX10_keeps_76 : decode cX10_keeps 76 = .ok (.iaload, 1) := by decide +kernel
theorem dX10_keeps_77 : decode cX10_keeps 77 = .ok (.iastore, 1) := by decide +kernel
theorem dX10_keeps_78 : decode cX10_keeps 78 = .ok (.iinc 1 1, 3) := by decide +kernel
theorem dX10_keeps_81 : decode cX10_keeps 81 = .ok (.goto (-29), 3) := by decide +kernel
theorem dX10_keeps_84 : decode cX10_keeps 84 = .ok (.aload_n 0, 1) := by decide +kernel
theorem dX10_keeps_85 : decode cX10_keeps 85 = .ok (.dup, 1) := by decide +kernel
theorem dX10_keeps_86 : decode cX10_keeps 86 = .ok (.getfield 288, 3) := by decide +kernel
theorem dX10_keeps_89 : decode cX10_keeps 89 = .ok (.iconst 1, 1) := by decide +kernel
theorem dX10_keeps_90 : decode cX10_keeps 90 = .ok (.iadd, 1) := by decide +kernel
theorem dX10_keeps_91 : decode cX10_keeps 91 = .ok (.putfield 288, 3) := by decide +kernel
theorem dX10_keeps_94 : decode cX10_keeps 94 = .ok (.return_, 1) := by decide +kernel
theorem dX10_refuses_0 : decode cX10_refuses 0 = .ok (.aload_n 0, 1) := by decide +kernel
theorem dX10_refuses_1 : decode cX10_refuses 1 = .ok (.getfield 41, 3) := by decide +kernel
theorem dX10_refuses_4 : decode cX10_refuses 4 = .ok (.iload_n 1, 1) := by decide +kernel
theorem dX10_refuses_5 : decode cX10_refuses 5 = .ok (.dup2, 1) := by decide +kernel
theorem dX10_refuses_6 : decode cX10_refuses 6 = .ok (.iaload, 1) := by decide +kernel
theorem dX10_refuses_7 : decode cX10_refuses 7 = .ok (.iconst 1, 1) := by decide +kernel
theorem dX10_refuses_8 : decode cX10_refuses 8 = .ok (.iadd, 1) := by decide +kernel
theorem dX10_refuses_9 : decode cX10_refuses 9 = .ok (.iastore, 1) := by decide +kernel
theorem dX10_refuses_10 : decode cX10_refuses 10 = .ok (.iconst (-1), 1) := by decide +kernel
theorem dX10_refuses_11 : decode cX10_refuses 11 = .ok (.ireturn, 1) := by decide +kernel
theorem dX10_undo_0 : decode cX10_undo 0 = .ok (.aload_n 0, 1) := by decide +kernel
theorem dX10_undo_1 : decode cX10_undo 1 = .ok (.iconst 0, 1) := by decide +kernel
theorem dX10_undo_2 : decode cX10_undo 2 = .ok (.putfield 120, 3) := by decide +kernel
theorem dX10_undo_5 : decode cX10_undo 5 = .ok (.aload_n 0, 1) := by decide +kernel
theorem dX10_undo_6 : decode cX10_undo 6 = .ok (.getfield 288, 3) := by decide +kernel
theorem dX10_undo_9 : decode cX10_undo 9 = .ok (.ifCond .ne 5, 3) := by decide +kernel
theorem dX10_undo_12 : decode cX10_undo 12 = .ok (.iconst (-1), 1) := by decide +kernel
theorem dX10_undo_13 : decode cX10_undo 13 = .ok (.ireturn, 1) := by decide +kernel
theorem dX10_undo_14 : decode cX10_undo 14 = .ok (.aload_n 0, 1) := by decide +kernel
theorem dX10_undo_15 : decode cX10_undo 15 = .ok (.dup, 1) := by decide +kernel
theorem dX10_undo_16 : decode cX10_undo 16 = .ok (.getfield 288, 3) := by decide +kernel
theorem dX10_undo_19 : decode cX10_undo 19 = .ok (.iconst 1, 1) := by decide +kernel
theorem dX10_undo_20 : decode cX10_undo 20 = .ok (.isub, 1) := by decide +kernel
theorem dX10_undo_21 : decode cX10_undo 21 = .ok (.putfield 288, 3) := by decide +kernel
theorem dX10_undo_24 : decode cX10_undo 24 = .ok (.iconst 0, 1) := by decide +kernel
theorem dX10_undo_25 : decode cX10_undo 25 = .ok (.istore_n 1, 1) := by decide +kernel
theorem dX10_undo_26 : decode cX10_undo 26 = .ok (.iload_n 1, 1) := by decide +kernel
theorem dX10_undo_27 : decode cX10_undo 27 = .ok (.bipush 33, 2) := by decide +kernel
theorem dX10_undo_29 : decode cX10_undo 29 = .ok (.if_icmp .ge 29, 3) := by decide +kernel
theorem dX10_undo_32 : decode cX10_undo 32 = .ok (.aload_n 0, 1) := by decide +kernel
theorem dX10_undo_33 : decode cX10_undo 33 = .ok (.getfield 69, 3) := by decide +kernel
theorem dX10_undo_36 : decode cX10_undo 36 = .ok (.iload_n 1, 1) := by decide +kernel
theorem dX10_undo_37 : decode cX10_undo 37 = .ok (.aload_n 0, 1) := by decide +kernel
theorem dX10_undo_38 : decode cX10_undo 38 = .ok (.getfield 72, 3) := by decide +kernel
theorem dX10_undo_41 : decode cX10_undo 41 = .ok (.bipush 33, 2) := by decide +kernel
theorem dX10_undo_43 : decode cX10_undo 43 = .ok (.aload_n 0, 1) := by decide +kernel
theorem dX10_undo_44 : decode cX10_undo 44 = .ok (.getfield 288, 3) := by decide +kernel
theorem dX10_undo_47 : decode cX10_undo 47 = .ok (.imul, 1) := by decide +kernel
theorem dX10_undo_48 : decode cX10_undo 48 = .ok (.iload_n 1, 1) := by decide +kernel
theorem dX10_undo_49 : decode cX10_undo 49 = .ok (.iadd, 1) := by decide +kernel
theorem dX10_undo_50 : decode cX10_undo 50 = .ok (.iaload, 1) := by decide +kernel
theorem dX10_undo_51 : decode cX10_undo 51 = .ok (.iastore, 1) := by decide +kernel
theorem dX10_undo_52 : decode cX10_undo 52 = .ok (.iinc 1 1, 3) := by decide +kernel
theorem dX10_undo_55 : decode cX10_undo 55 = .ok (.goto (-29), 3) := by decide +kernel
theorem dX10_undo_58 : decode cX10_undo 58 = .ok (.aload_n 0, 1) := by decide +kernel
theorem dX10_undo_59 : decode cX10_undo 59 = .ok (.getfield 288, 3) := by decide +kernel
theorem dX10_undo_62 : decode cX10_undo 62 = .ok (.ireturn, 1) := by decide +kernel
theorem dX10_tries_0 : decode cX10_tries 0 = .ok (.iconst 0, 1) := by decide +kernel
theorem dX10_tries_1 : decode cX10_tries 1 = .ok (.istore_n 1, 1) := by decide +kernel
theorem dX10_tries_2 : decode cX10_tries 2 = .ok (.iload_n 1, 1) := by decide +kernel
theorem dX10_tries_3 : decode cX10_tries 3 = .ok (.bipush 33, 2) := by decide +kernel
theorem dX10_tries_5 : decode cX10_tries 5 = .ok (.if_icmp .ge 24, 3) := by decide +kernel
theorem dX10_tries_8 : decode cX10_tries 8 = .ok (.aload_n 0, 1) := by decide +kernel
theorem dX10_tries_9 : decode cX10_tries 9 = .ok (.getfield 69, 3) := by decide +kernel
theorem dX10_tries_12 : decode cX10_tries 12 = .ok (.bipush 33, 2) := by decide +kernel
theorem dX10_tries_14 : decode cX10_tries 14 = .ok (.iload_n 1, 1) := by decide +kernel
theorem dX10_tries_15 : decode cX10_tries 15 = .ok (.iadd, 1) := by decide +kernel
theorem dX10_tries_16 : decode cX10_tries 16 = .ok (.aload_n 0, 1) := by decide +kernel
theorem dX10_tries_17 : decode cX10_tries 17 = .ok (.getfield 69, 3) := by decide +kernel
theorem dX10_tries_20 : decode cX10_tries 20 = .ok (.iload_n 1, 1) := by decide +kernel
theorem dX10_tries_21 : decode cX10_tries 21 = .ok (.iaload, 1) := by decide +kernel
theorem dX10_tries_22 : decode cX10_tries 22 = .ok (.iastore, 1) := by decide +kernel
theorem dX10_tries_23 : decode cX10_tries 23 = .ok (.iinc 1 1, 3) := by decide +kernel
theorem dX10_tries_26 : decode cX10_tries 26 = .ok (.goto (-24), 3) := by decide +kernel
theorem dX10_tries_29 : decode cX10_tries 29 = .ok (.return_, 1) := by decide +kernel
theorem dX10_works_0 : decode cX10_works 0 = .ok (.iload_n 0, 1) := by decide +kernel
theorem dX10_works_1 : decode cX10_works 1 = .ok (.tableswitch 105 4 10 #[43, 57, 71, 82, 93, 97, 101], 43) := by decide +kernel
theorem dX10_works_44 : decode cX10_works 44 = .ok (.iload_n 1, 1) := by decide +kernel
theorem dX10_works_45 : decode cX10_works 45 = .ok (.ifCond .eq 11, 3) := by decide +kernel
theorem dX10_works_48 : decode cX10_works 48 = .ok (.iload_n 2, 1) := by decide +kernel
theorem dX10_works_49 : decode cX10_works 49 = .ok (.ifCond .eq 7, 3) := by decide +kernel
theorem dX10_works_52 : decode cX10_works 52 = .ok (.iconst 1, 1) := by decide +kernel
theorem dX10_works_53 : decode cX10_works 53 = .ok (.goto 4, 3) := by decide +kernel
theorem dX10_works_56 : decode cX10_works 56 = .ok (.iconst 0, 1) := by decide +kernel
theorem dX10_works_57 : decode cX10_works 57 = .ok (.ireturn, 1) := by decide +kernel
theorem dX10_works_58 : decode cX10_works 58 = .ok (.iload_n 1, 1) := by decide +kernel
theorem dX10_works_59 : decode cX10_works 59 = .ok (.ifCond .ne 7, 3) := by decide +kernel
theorem dX10_works_62 : decode cX10_works 62 = .ok (.iload_n 2, 1) := by decide +kernel
theorem dX10_works_63 : decode cX10_works 63 = .ok (.ifCond .eq 7, 3) := by decide +kernel
theorem dX10_works_66 : decode cX10_works 66 = .ok (.iconst 1, 1) := by decide +kernel
theorem dX10_works_67 : decode cX10_works 67 = .ok (.goto 4, 3) := by decide +kernel
theorem dX10_works_70 : decode cX10_works 70 = .ok (.iconst 0, 1) := by decide +kernel
theorem dX10_works_71 : decode cX10_works 71 = .ok (.ireturn, 1) := by decide +kernel
theorem dX10_works_72 : decode cX10_works 72 = .ok (.iload_n 1, 1) := by decide +kernel
theorem dX10_works_73 : decode cX10_works 73 = .ok (.iload_n 2, 1) := by decide +kernel
theorem dX10_works_74 : decode cX10_works 74 = .ok (.if_icmp .ge 7, 3) := by decide +kernel
theorem dX10_works_77 : decode cX10_works 77 = .ok (.iconst 1, 1) := by decide +kernel
theorem dX10_works_78 : decode cX10_works 78 = .ok (.goto 4, 3) := by decide +kernel
theorem dX10_works_81 : decode cX10_works 81 = .ok (.iconst 0, 1) := by decide +kernel
theorem dX10_works_82 : decode cX10_works 82 = .ok (.ireturn, 1) := by decide +kernel
theorem dX10_works_83 : decode cX10_works 83 = .ok (.iload_n 1, 1) := by decide +kernel
theorem dX10_works_84 : decode cX10_works 84 = .ok (.iload_n 2, 1) := by decide +kernel
theorem dX10_works_85 : decode cX10_works 85 = .ok (.if_icmp .ne 7, 3) := by decide +kernel
theorem dX10_works_88 : decode cX10_works 88 = .ok (.iconst 1, 1) := by decide +kernel
theorem dX10_works_89 : decode cX10_works 89 = .ok (.goto 4, 3) := by decide +kernel
theorem dX10_works_92 : decode cX10_works 92 = .ok (.iconst 0, 1) := by decide +kernel
theorem dX10_works_93 : decode cX10_works 93 = .ok (.ireturn, 1) := by decide +kernel
theorem dX10_works_94 : decode cX10_works 94 = .ok (.iload_n 1, 1) := by decide +kernel
theorem dX10_works_95 : decode cX10_works 95 = .ok (.iload_n 2, 1) := by decide +kernel
theorem dX10_works_96 : decode cX10_works 96 = .ok (.iadd, 1) := by decide +kernel
theorem dX10_works_97 : decode cX10_works 97 = .ok (.ireturn, 1) := by decide +kernel
theorem dX10_works_98 : decode cX10_works 98 = .ok (.iload_n 1, 1) := by decide +kernel
theorem dX10_works_99 : decode cX10_works 99 = .ok (.iload_n 2, 1) := by decide +kernel
theorem dX10_works_100 : decode cX10_works 100 = .ok (.isub, 1) := by decide +kernel
theorem dX10_works_101 : decode cX10_works 101 = .ok (.ireturn, 1) := by decide +kernel
theorem dX10_works_102 : decode cX10_works 102 = .ok (.iload_n 1, 1) := by decide +kernel
theorem dX10_works_103 : decode cX10_works 103 = .ok (.iload_n 2, 1) := by decide +kernel
theorem dX10_works_104 : decode cX10_works 104 = .ok (.imul, 1) := by decide +kernel
theorem dX10_works_105 : decode cX10_works 105 = .ok (.ireturn, 1) := by decide +kernel
theorem dX10_works_106 : decode cX10_works 106 = .ok (.iload_n 2, 1) := by decide +kernel
theorem dX10_works_107 : decode cX10_works 107 = .ok (.ifCond .ne 7, 3) := by decide +kernel
theorem dX10_works_110 : decode cX10_works 110 = .ok (.iconst 0, 1) := by decide +kernel
theorem dX10_works_111 : decode cX10_works 111 = .ok (.goto 6, 3) := by decide +kernel
theorem dX10_works_114 : decode cX10_works 114 = .ok (.iload_n 1, 1) := by decide +kernel
theorem dX10_works_115 : decode cX10_works 115 = .ok (.iload_n 2, 1) := by decide +kernel
theorem dX10_works_116 : decode cX10_works 116 = .ok (.idiv, 1) := by decide +kernel
theorem dX10_works_117 : decode cX10_works 117 = .ok (.ireturn, 1) := by decide +kernel
theorem dX10_reckons_0 : decode cX10_reckons 0 = .ok (.iconst 0, 1) := by decide +kernel
theorem dX10_reckons_1 : decode cX10_reckons 1 = .ok (.istore_n 2, 1) := by decide +kernel
theorem dX10_reckons_2 : decode cX10_reckons 2 = .ok (.iload_n 1, 1) := by decide +kernel
theorem dX10_reckons_3 : decode cX10_reckons 3 = .ok (.istore_n 3, 1) := by decide +kernel
theorem dX10_reckons_4 : decode cX10_reckons 4 = .ok (.aload_n 0, 1) := by decide +kernel
theorem dX10_reckons_5 : decode cX10_reckons 5 = .ok (.getfield 32, 3) := by decide +kernel
theorem dX10_reckons_8 : decode cX10_reckons 8 = .ok (.iload_n 3, 1) := by decide +kernel
theorem dX10_reckons_9 : decode cX10_reckons 9 = .ok (.iaload, 1) := by decide +kernel
theorem dX10_reckons_10 : decode cX10_reckons 10 = .ok (.ifCond .eq 133, 3) := by decide +kernel
theorem dX10_reckons_13 : decode cX10_reckons 13 = .ok (.aload_n 0, 1) := by decide +kernel
theorem dX10_reckons_14 : decode cX10_reckons 14 = .ok (.getfield 32, 3) := by decide +kernel
theorem dX10_reckons_17 : decode cX10_reckons 17 = .ok (.iload_n 3, 1) := by decide +kernel
theorem dX10_reckons_18 : decode cX10_reckons 18 = .ok (.iaload, 1) := by decide +kernel
theorem dX10_reckons_19 : decode cX10_reckons 19 = .ok (.istore 4, 2) := by decide +kernel
theorem dX10_reckons_21 : decode cX10_reckons 21 = .ok (.iinc 3 1, 3) := by decide +kernel
theorem dX10_reckons_24 : decode cX10_reckons 24 = .ok (.iload 4, 2) := by decide +kernel
theorem dX10_reckons_26 : decode cX10_reckons 26 = .ok (.iconst 1, 1) := by decide +kernel
theorem dX10_reckons_27 : decode cX10_reckons 27 = .ok (.if_icmp .eq 9, 3) := by decide +kernel
theorem dX10_reckons_30 : decode cX10_reckons 30 = .ok (.iload 4, 2) := by decide +kernel
theorem dX10_reckons_32 : decode cX10_reckons 32 = .ok (.iconst 2, 1) := by decide +kernel
theorem dX10_reckons_33 : decode cX10_reckons 33 = .ok (.if_icmp .ne 44, 3) := by decide +kernel
theorem dX10_reckons_36 : decode cX10_reckons 36 = .ok (.aload_n 0, 1) := by decide +kernel
theorem dX10_reckons_37 : decode cX10_reckons 37 = .ok (.getfield 78, 3) := by decide +kernel
theorem dX10_reckons_40 : decode cX10_reckons 40 = .ok (.iload_n 2, 1) := by decide +kernel
theorem dX10_reckons_41 : decode cX10_reckons 41 = .ok (.iload 4, 2) := by decide +kernel
theorem dX10_reckons_43 : decode cX10_reckons 43 = .ok (.iconst 1, 1) := by decide +kernel
theorem dX10_reckons_44 : decode cX10_reckons 44 = .ok (.if_icmp .ne 12, 3) := by decide +kernel
theorem dX10_reckons_47 : decode cX10_reckons 47 = .ok (.aload_n 0, 1) := by decide +kernel
theorem dX10_reckons_48 : decode cX10_reckons 48 = .ok (.getfield 32, 3) := by decide +kernel
theorem dX10_reckons_51 : decode cX10_reckons 51 = .ok (.iload_n 3, 1) := by decide +kernel
theorem dX10_reckons_52 : decode cX10_reckons 52 = .ok (.iaload, 1) := by decide +kernel
theorem dX10_reckons_53 : decode cX10_reckons 53 = .ok (.goto 14, 3) := by decide +kernel
theorem dX10_reckons_56 : decode cX10_reckons 56 = .ok (.aload_n 0, 1) := by decide +kernel
theorem dX10_reckons_57 : decode cX10_reckons 57 = .ok (.getfield 75, 3) := by decide +kernel
theorem dX10_reckons_60 : decode cX10_reckons 60 = .ok (.aload_n 0, 1) := by decide +kernel
theorem dX10_reckons_61 : decode cX10_reckons 61 = .ok (.getfield 32, 3) := by decide +kernel
