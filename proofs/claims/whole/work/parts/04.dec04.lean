theorem dX10_reckons_64 : decode cX10_reckons 64 = .ok (.iload_n 3, 1) := by decide +kernel
theorem dX10_reckons_65 : decode cX10_reckons 65 = .ok (.iaload, 1) := by decide +kernel
theorem dX10_reckons_66 : decode cX10_reckons 66 = .ok (.iaload, 1) := by decide +kernel
theorem dX10_reckons_67 : decode cX10_reckons 67 = .ok (.iastore, 1) := by decide +kernel
theorem dX10_reckons_68 : decode cX10_reckons 68 = .ok (.iinc 3 1, 3) := by decide +kernel
theorem dX10_reckons_71 : decode cX10_reckons 71 = .ok (.iinc 2 1, 3) := by decide +kernel
theorem dX10_reckons_74 : decode cX10_reckons 74 = .ok (.goto 66, 3) := by decide +kernel
theorem dX10_reckons_77 : decode cX10_reckons 77 = .ok (.iload 4, 2) := by decide +kernel
theorem dX10_reckons_79 : decode cX10_reckons 79 = .ok (.iconst 3, 1) := by decide +kernel
theorem dX10_reckons_80 : decode cX10_reckons 80 = .ok (.if_icmp .ne 30, 3) := by decide +kernel
theorem dX10_reckons_83 : decode cX10_reckons 83 = .ok (.aload_n 0, 1) := by decide +kernel
theorem dX10_reckons_84 : decode cX10_reckons 84 = .ok (.getfield 78, 3) := by decide +kernel
theorem dX10_reckons_87 : decode cX10_reckons 87 = .ok (.iload_n 2, 1) := by decide +kernel
theorem dX10_reckons_88 : decode cX10_reckons 88 = .ok (.iconst 1, 1) := by decide +kernel
theorem dX10_reckons_89 : decode cX10_reckons 89 = .ok (.isub, 1) := by decide +kernel
theorem dX10_reckons_90 : decode cX10_reckons 90 = .ok (.aload_n 0, 1) := by decide +kernel
theorem dX10_reckons_91 : decode cX10_reckons 91 = .ok (.getfield 78, 3) := by decide +kernel
theorem dX10_reckons_94 : decode cX10_reckons 94 = .ok (.iload_n 2, 1) := by decide +kernel
theorem dX10_reckons_95 : decode cX10_reckons 95 = .ok (.iconst 1, 1) := by decide +kernel
theorem dX10_reckons_96 : decode cX10_reckons 96 = .ok (.isub, 1) := by decide +kernel
theorem dX10_reckons_97 : decode cX10_reckons 97 = .ok (.iaload, 1) := by decide +kernel
theorem dX10_reckons_98 : decode cX10_reckons 98 = .ok (.ifCond .ne 7, 3) := by decide +kernel
theorem dX10_reckons_101 : decode cX10_reckons 101 = .ok (.iconst 1, 1) := by decide +kernel
theorem dX10_reckons_102 : decode cX10_reckons 102 = .ok (.goto 4, 3) := by decide +kernel
theorem dX10_reckons_105 : decode cX10_reckons 105 = .ok (.iconst 0, 1) := by decide +kernel
theorem dX10_reckons_106 : decode cX10_reckons 106 = .ok (.iastore, 1) := by decide +kernel
theorem dX10_reckons_107 : decode cX10_reckons 107 = .ok (.goto 33, 3) := by decide +kernel
theorem dX10_reckons_110 : decode cX10_reckons 110 = .ok (.iinc 2 (-1), 3) := by decide +kernel
theorem dX10_reckons_113 : decode cX10_reckons 113 = .ok (.aload_n 0, 1) := by decide +kernel
theorem dX10_reckons_114 : decode cX10_reckons 114 = .ok (.getfield 78, 3) := by decide +kernel
theorem dX10_reckons_117 : decode cX10_reckons 117 = .ok (.iload_n 2, 1) := by decide +kernel
theorem dX10_reckons_118 : decode cX10_reckons 118 = .ok (.iconst 1, 1) := by decide +kernel
theorem dX10_reckons_119 : decode cX10_reckons 119 = .ok (.isub, 1) := by decide +kernel
theorem dX10_reckons_120 : decode cX10_reckons 120 = .ok (.iload 4, 2) := by decide +kernel
theorem dX10_reckons_122 : decode cX10_reckons 122 = .ok (.aload_n 0, 1) := by decide +kernel
theorem dX10_reckons_123 : decode cX10_reckons 123 = .ok (.getfield 78, 3) := by decide +kernel
theorem dX10_reckons_126 : decode cX10_reckons 126 = .ok (.iload_n 2, 1) := by decide +kernel
theorem dX10_reckons_127 : decode cX10_reckons 127 = .ok (.iconst 1, 1) := by decide +kernel
theorem dX10_reckons_128 : decode cX10_reckons 128 = .ok (.isub, 1) := by decide +kernel
theorem dX10_reckons_129 : decode cX10_reckons 129 = .ok (.iaload, 1) := by decide +kernel
theorem dX10_reckons_130 : decode cX10_reckons 130 = .ok (.aload_n 0, 1) := by decide +kernel
theorem dX10_reckons_131 : decode cX10_reckons 131 = .ok (.getfield 78, 3) := by decide +kernel
theorem dX10_reckons_134 : decode cX10_reckons 134 = .ok (.iload_n 2, 1) := by decide +kernel
theorem dX10_reckons_135 : decode cX10_reckons 135 = .ok (.iaload, 1) := by decide +kernel
theorem dX10_reckons_136 : decode cX10_reckons 136 = .ok (.invokestatic 298, 3) := by decide +kernel
theorem dX10_reckons_139 : decode cX10_reckons 139 = .ok (.iastore, 1) := by decide +kernel
theorem dX10_reckons_140 : decode cX10_reckons 140 = .ok (.goto (-136), 3) := by decide +kernel
theorem dX10_reckons_143 : decode cX10_reckons 143 = .ok (.aload_n 0, 1) := by decide +kernel
theorem dX10_reckons_144 : decode cX10_reckons 144 = .ok (.getfield 78, 3) := by decide +kernel
theorem dX10_reckons_147 : decode cX10_reckons 147 = .ok (.iconst 0, 1) := by decide +kernel
theorem dX10_reckons_148 : decode cX10_reckons 148 = .ok (.iaload, 1) := by decide +kernel
theorem dX10_reckons_149 : decode cX10_reckons 149 = .ok (.ireturn, 1) := by decide +kernel
theorem dX10_farOf_0 : decode cX10_farOf 0 = .ok (.aload_n 0, 1) := by decide +kernel
theorem dX10_farOf_1 : decode cX10_farOf 1 = .ok (.getfield 26, 3) := by decide +kernel
theorem dX10_farOf_4 : decode cX10_farOf 4 = .ok (.iload_n 1, 1) := by decide +kernel
theorem dX10_farOf_5 : decode cX10_farOf 5 = .ok (.iaload, 1) := by decide +kernel
theorem dX10_farOf_6 : decode cX10_farOf 6 = .ok (.aload_n 0, 1) := by decide +kernel
theorem dX10_farOf_7 : decode cX10_farOf 7 = .ok (.getfield 29, 3) := by decide +kernel
theorem dX10_farOf_10 : decode cX10_farOf 10 = .ok (.iload_n 2, 1) := by decide +kernel
theorem dX10_farOf_11 : decode cX10_farOf 11 = .ok (.iaload, 1) := by decide +kernel
theorem dX10_farOf_12 : decode cX10_farOf 12 = .ok (.invokestatic 302, 3) := by decide +kernel
theorem dX10_farOf_15 : decode cX10_farOf 15 = .ok (.ireturn, 1) := by decide +kernel
theorem dX10_asks_0 : decode cX10_asks 0 = .ok (.aload_n 0, 1) := by decide +kernel
theorem dX10_asks_1 : decode cX10_asks 1 = .ok (.getfield 75, 3) := by decide +kernel
theorem dX10_asks_4 : decode cX10_asks 4 = .ok (.iconst 0, 1) := by decide +kernel
theorem dX10_asks_5 : decode cX10_asks 5 = .ok (.aload_n 0, 1) := by decide +kernel
theorem dX10_asks_6 : decode cX10_asks 6 = .ok (.getfield 69, 3) := by decide +kernel
theorem dX10_asks_9 : decode cX10_asks 9 = .ok (.iload_n 2, 1) := by decide +kernel
theorem dX10_asks_10 : decode cX10_asks 10 = .ok (.bipush 11, 2) := by decide +kernel
theorem dX10_asks_12 : decode cX10_asks 12 = .ok (.iadd, 1) := by decide +kernel
theorem dX10_asks_13 : decode cX10_asks 13 = .ok (.iload_n 3, 1) := by decide +kernel
theorem dX10_asks_14 : decode cX10_asks 14 = .ok (.iadd, 1) := by decide +kernel
theorem dX10_asks_15 : decode cX10_asks 15 = .ok (.iaload, 1) := by decide +kernel
theorem dX10_asks_16 : decode cX10_asks 16 = .ok (.iastore, 1) := by decide +kernel
theorem dX10_asks_17 : decode cX10_asks 17 = .ok (.aload_n 0, 1) := by decide +kernel
theorem dX10_asks_18 : decode cX10_asks 18 = .ok (.getfield 75, 3) := by decide +kernel
theorem dX10_asks_21 : decode cX10_asks 21 = .ok (.iconst 1, 1) := by decide +kernel
theorem dX10_asks_22 : decode cX10_asks 22 = .ok (.aload_n 0, 1) := by decide +kernel
theorem dX10_asks_23 : decode cX10_asks 23 = .ok (.getfield 23, 3) := by decide +kernel
theorem dX10_asks_26 : decode cX10_asks 26 = .ok (.iload_n 3, 1) := by decide +kernel
theorem dX10_asks_27 : decode cX10_asks 27 = .ok (.iaload, 1) := by decide +kernel
theorem dX10_asks_28 : decode cX10_asks 28 = .ok (.iastore, 1) := by decide +kernel
theorem dX10_asks_29 : decode cX10_asks 29 = .ok (.aload_n 0, 1) := by decide +kernel
theorem dX10_asks_30 : decode cX10_asks 30 = .ok (.getfield 75, 3) := by decide +kernel
theorem dX10_asks_33 : decode cX10_asks 33 = .ok (.iconst 2, 1) := by decide +kernel
theorem dX10_asks_34 : decode cX10_asks 34 = .ok (.aload_n 0, 1) := by decide +kernel
theorem dX10_asks_35 : decode cX10_asks 35 = .ok (.getfield 69, 3) := by decide +kernel
theorem dX10_asks_38 : decode cX10_asks 38 = .ok (.iload_n 2, 1) := by decide +kernel
theorem dX10_asks_39 : decode cX10_asks 39 = .ok (.iconst 3, 1) := by decide +kernel
theorem dX10_asks_40 : decode cX10_asks 40 = .ok (.iadd, 1) := by decide +kernel
theorem dX10_asks_41 : decode cX10_asks 41 = .ok (.iload_n 3, 1) := by decide +kernel
theorem dX10_asks_42 : decode cX10_asks 42 = .ok (.iadd, 1) := by decide +kernel
theorem dX10_asks_43 : decode cX10_asks 43 = .ok (.iaload, 1) := by decide +kernel
theorem dX10_asks_44 : decode cX10_asks 44 = .ok (.iastore, 1) := by decide +kernel
theorem dX10_asks_45 : decode cX10_asks 45 = .ok (.aload_n 0, 1) := by decide +kernel
theorem dX10_asks_46 : decode cX10_asks 46 = .ok (.getfield 75, 3) := by decide +kernel
theorem dX10_asks_49 : decode cX10_asks 49 = .ok (.iconst 3, 1) := by decide +kernel
theorem dX10_asks_50 : decode cX10_asks 50 = .ok (.aload_n 0, 1) := by decide +kernel
theorem dX10_asks_51 : decode cX10_asks 51 = .ok (.getfield 69, 3) := by decide +kernel
theorem dX10_asks_54 : decode cX10_asks 54 = .ok (.iload_n 2, 1) := by decide +kernel
theorem dX10_asks_55 : decode cX10_asks 55 = .ok (.bipush 19, 2) := by decide +kernel
theorem dX10_asks_57 : decode cX10_asks 57 = .ok (.iadd, 1) := by decide +kernel
theorem dX10_asks_58 : decode cX10_asks 58 = .ok (.iload_n 3, 1) := by decide +kernel
theorem dX10_asks_59 : decode cX10_asks 59 = .ok (.iadd, 1) := by decide +kernel
theorem dX10_asks_60 : decode cX10_asks 60 = .ok (.iaload, 1) := by decide +kernel
theorem dX10_asks_61 : decode cX10_asks 61 = .ok (.iastore, 1) := by decide +kernel
theorem dX10_asks_62 : decode cX10_asks 62 = .ok (.aload_n 0, 1) := by decide +kernel
theorem dX10_asks_63 : decode cX10_asks 63 = .ok (.getfield 75, 3) := by decide +kernel
theorem dX10_asks_66 : decode cX10_asks 66 = .ok (.iconst 4, 1) := by decide +kernel
theorem dX10_asks_67 : decode cX10_asks 67 = .ok (.iload 4, 2) := by decide +kernel
theorem dX10_asks_69 : decode cX10_asks 69 = .ok (.iastore, 1) := by decide +kernel
theorem dX10_asks_70 : decode cX10_asks 70 = .ok (.aload_n 0, 1) := by decide +kernel
theorem dX10_asks_71 : decode cX10_asks 71 = .ok (.getfield 75, 3) := by decide +kernel
theorem dX10_asks_74 : decode cX10_asks 74 = .ok (.iconst 5, 1) := by decide +kernel
theorem dX10_asks_75 : decode cX10_asks 75 = .ok (.aload_n 0, 1) := by decide +kernel
theorem dX10_asks_76 : decode cX10_asks 76 = .ok (.getfield 69, 3) := by decide +kernel
theorem dX10_asks_79 : decode cX10_asks 79 = .ok (.iload_n 2, 1) := by decide +kernel
theorem dX10_asks_80 : decode cX10_asks 80 = .ok (.iconst 0, 1) := by decide +kernel
theorem dX10_asks_81 : decode cX10_asks 81 = .ok (.iadd, 1) := by decide +kernel
theorem dX10_asks_82 : decode cX10_asks 82 = .ok (.iaload, 1) := by decide +kernel
theorem dX10_asks_83 : decode cX10_asks 83 = .ok (.iastore, 1) := by decide +kernel
theorem dX10_asks_84 : decode cX10_asks 84 = .ok (.aload_n 0, 1) := by decide +kernel
theorem dX10_asks_85 : decode cX10_asks 85 = .ok (.getfield 75, 3) := by decide +kernel
theorem dX10_asks_88 : decode cX10_asks 88 = .ok (.bipush 6, 2) := by decide +kernel
theorem dX10_asks_90 : decode cX10_asks 90 = .ok (.aload_n 0, 1) := by decide +kernel
theorem dX10_asks_91 : decode cX10_asks 91 = .ok (.iload_n 3, 1) := by decide +kernel
theorem dX10_asks_92 : decode cX10_asks 92 = .ok (.iload 4, 2) := by decide +kernel
theorem dX10_asks_94 : decode cX10_asks 94 = .ok (.invokevirtual 305, 3) := by decide +kernel
theorem dX10_asks_97 : decode cX10_asks 97 = .ok (.iastore, 1) := by decide +kernel
theorem dX10_asks_98 : decode cX10_asks 98 = .ok (.aload_n 0, 1) := by decide +kernel
theorem dX10_asks_99 : decode cX10_asks 99 = .ok (.iload_n 1, 1) := by decide +kernel
theorem dX10_asks_100 : decode cX10_asks 100 = .ok (.invokevirtual 308, 3) := by decide +kernel
theorem dX10_asks_103 : decode cX10_asks 103 = .ok (.ireturn, 1) := by decide +kernel
theorem dX10_wayOf_0 : decode cX10_wayOf 0 = .ok (.aload_n 0, 1) := by decide +kernel
theorem dX10_wayOf_1 : decode cX10_wayOf 1 = .ok (.getfield 7, 3) := by decide +kernel
theorem dX10_wayOf_4 : decode cX10_wayOf 4 = .ok (.aload_n 0, 1) := by decide +kernel
theorem dX10_wayOf_5 : decode cX10_wayOf 5 = .ok (.iload_n 2, 1) := by decide +kernel
theorem dX10_wayOf_6 : decode cX10_wayOf 6 = .ok (.iload_n 3, 1) := by decide +kernel
theorem dX10_wayOf_7 : decode cX10_wayOf 7 = .ok (.invokevirtual 305, 3) := by decide +kernel
theorem dX10_wayOf_10 : decode cX10_wayOf 10 = .ok (.imul, 1) := by decide +kernel
theorem dX10_wayOf_11 : decode cX10_wayOf 11 = .ok (.aload_n 0, 1) := by decide +kernel
theorem dX10_wayOf_12 : decode cX10_wayOf 12 = .ok (.getfield 23, 3) := by decide +kernel
theorem dX10_wayOf_15 : decode cX10_wayOf 15 = .ok (.iload_n 2, 1) := by decide +kernel
theorem dX10_wayOf_16 : decode cX10_wayOf 16 = .ok (.iaload, 1) := by decide +kernel
theorem dX10_wayOf_17 : decode cX10_wayOf 17 = .ok (.iadd, 1) := by decide +kernel
theorem dX10_wayOf_18 : decode cX10_wayOf 18 = .ok (.aload_n 0, 1) := by decide +kernel
theorem dX10_wayOf_19 : decode cX10_wayOf 19 = .ok (.getfield 69, 3) := by decide +kernel
theorem dX10_wayOf_22 : decode cX10_wayOf 22 = .ok (.iload_n 1, 1) := by decide +kernel
theorem dX10_wayOf_23 : decode cX10_wayOf 23 = .ok (.iconst 3, 1) := by decide +kernel
theorem dX10_wayOf_24 : decode cX10_wayOf 24 = .ok (.iadd, 1) := by decide +kernel
theorem dX10_wayOf_25 : decode cX10_wayOf 25 = .ok (.iload_n 2, 1) := by decide +kernel
theorem dX10_wayOf_26 : decode cX10_wayOf 26 = .ok (.iadd, 1) := by decide +kernel
theorem dX10_wayOf_27 : decode cX10_wayOf 27 = .ok (.iaload, 1) := by decide +kernel
theorem dX10_wayOf_28 : decode cX10_wayOf 28 = .ok (.isub, 1) := by decide +kernel
theorem dX10_wayOf_29 : decode cX10_wayOf 29 = .ok (.iconst 0, 1) := by decide +kernel
theorem dX10_wayOf_30 : decode cX10_wayOf 30 = .ok (.ldc_w 311, 3) := by decide +kernel
theorem dX10_wayOf_33 : decode cX10_wayOf 33 = .ok (.invokestatic 312, 3) := by decide +kernel
theorem dX10_wayOf_36 : decode cX10_wayOf 36 = .ok (.ireturn, 1) := by decide +kernel
theorem dX10_doesCome_0 : decode cX10_doesCome 0 = .ok (.aload_n 0, 1) := by decide +kernel
theorem dX10_doesCome_1 : decode cX10_doesCome 1 = .ok (.getfield 19, 3) := by decide +kernel
theorem dX10_doesCome_4 : decode cX10_doesCome 4 = .ok (.iload_n 2, 1) := by decide +kernel
theorem dX10_doesCome_5 : decode cX10_doesCome 5 = .ok (.iaload, 1) := by decide +kernel
theorem dX10_doesCome_6 : decode cX10_doesCome 6 = .ok (.iconst 2, 1) := by decide +kernel
theorem dX10_doesCome_7 : decode cX10_doesCome 7 = .ok (.if_icmp .eq 22, 3) := by decide +kernel
theorem dX10_doesCome_10 : decode cX10_doesCome 10 = .ok (.aload_n 0, 1) := by decide +kernel
theorem dX10_doesCome_11 : decode cX10_doesCome 11 = .ok (.getfield 69, 3) := by decide +kernel
theorem dX10_doesCome_14 : decode cX10_doesCome 14 = .ok (.iload_n 1, 1) := by decide +kernel
theorem dX10_doesCome_15 : decode cX10_doesCome 15 = .ok (.iconst 2, 1) := by decide +kernel
theorem dX10_doesCome_16 : decode cX10_doesCome 16 = .ok (.iadd, 1) := by decide +kernel
theorem dX10_doesCome_17 : decode cX10_doesCome 17 = .ok (.iaload, 1) := by decide +kernel
theorem dX10_doesCome_18 : decode cX10_doesCome 18 = .ok (.iload_n 2, 1) := by decide +kernel
theorem dX10_doesCome_19 : decode cX10_doesCome 19 = .ok (.ishr, 1) := by decide +kernel
theorem dX10_doesCome_20 : decode cX10_doesCome 20 = .ok (.iconst 1, 1) := by decide +kernel
theorem dX10_doesCome_21 : decode cX10_doesCome 21 = .ok (.iand, 1) := by decide +kernel
theorem dX10_doesCome_22 : decode cX10_doesCome 22 = .ok (.ifCond .ne 7, 3) := by decide +kernel
theorem dX10_doesCome_25 : decode cX10_doesCome 25 = .ok (.iconst 1, 1) := by decide +kernel
theorem dX10_doesCome_26 : decode cX10_doesCome 26 = .ok (.goto 4, 3) := by decide +kernel
theorem dX10_doesCome_29 : decode cX10_doesCome 29 = .ok (.iconst 0, 1) := by decide +kernel
theorem dX10_doesCome_30 : decode cX10_doesCome 30 = .ok (.ireturn, 1) := by decide +kernel
theorem dX10_comesAt_0 : decode cX10_comesAt 0 = .ok (.aload_n 0, 1) := by decide +kernel
theorem dX10_comesAt_1 : decode cX10_comesAt 1 = .ok (.getfield 69, 3) := by decide +kernel
theorem dX10_comesAt_4 : decode cX10_comesAt 4 = .ok (.iload_n 1, 1) := by decide +kernel
theorem dX10_comesAt_5 : decode cX10_comesAt 5 = .ok (.bipush 27, 2) := by decide +kernel
theorem dX10_comesAt_7 : decode cX10_comesAt 7 = .ok (.iadd, 1) := by decide +kernel
theorem dX10_comesAt_8 : decode cX10_comesAt 8 = .ok (.iload_n 3, 1) := by decide +kernel
theorem dX10_comesAt_9 : decode cX10_comesAt 9 = .ok (.iadd, 1) := by decide +kernel
theorem dX10_comesAt_10 : decode cX10_comesAt 10 = .ok (.iaload, 1) := by decide +kernel
theorem dX10_comesAt_11 : decode cX10_comesAt 11 = .ok (.istore 4, 2) := by decide +kernel
theorem dX10_comesAt_13 : decode cX10_comesAt 13 = .ok (.aload_n 0, 1) := by decide +kernel
theorem dX10_comesAt_14 : decode cX10_comesAt 14 = .ok (.getfield 19, 3) := by decide +kernel
theorem dX10_comesAt_17 : decode cX10_comesAt 17 = .ok (.iload_n 2, 1) := by decide +kernel
theorem dX10_comesAt_18 : decode cX10_comesAt 18 = .ok (.iaload, 1) := by decide +kernel
theorem dX10_comesAt_19 : decode cX10_comesAt 19 = .ok (.iconst 1, 1) := by decide +kernel
theorem dX10_comesAt_20 : decode cX10_comesAt 20 = .ok (.if_icmp .ne 8, 3) := by decide +kernel
theorem dX10_comesAt_23 : decode cX10_comesAt 23 = .ok (.iload 4, 2) := by decide +kernel
theorem dX10_comesAt_25 : decode cX10_comesAt 25 = .ok (.goto 20, 3) := by decide +kernel
theorem dX10_comesAt_28 : decode cX10_comesAt 28 = .ok (.iload 4, 2) := by decide +kernel
theorem dX10_comesAt_30 : decode cX10_comesAt 30 = .ok (.aload_n 0, 1) := by decide +kernel
theorem dX10_comesAt_31 : decode cX10_comesAt 31 = .ok (.getfield 81, 3) := by decide +kernel
theorem dX10_comesAt_34 : decode cX10_comesAt 34 = .ok (.iload_n 3, 1) := by decide +kernel
theorem dX10_comesAt_35 : decode cX10_comesAt 35 = .ok (.iaload, 1) := by decide +kernel
theorem dX10_comesAt_36 : decode cX10_comesAt 36 = .ok (.iadd, 1) := by decide +kernel
theorem dX10_comesAt_37 : decode cX10_comesAt 37 = .ok (.aload_n 0, 1) := by decide +kernel
theorem dX10_comesAt_38 : decode cX10_comesAt 38 = .ok (.iload_n 1, 1) := by decide +kernel
theorem dX10_comesAt_39 : decode cX10_comesAt 39 = .ok (.iload_n 2, 1) := by decide +kernel
theorem dX10_comesAt_40 : decode cX10_comesAt 40 = .ok (.iload_n 3, 1) := by decide +kernel
theorem dX10_comesAt_41 : decode cX10_comesAt 41 = .ok (.invokevirtual 315, 3) := by decide +kernel
theorem dX10_comesAt_44 : decode cX10_comesAt 44 = .ok (.iadd, 1) := by decide +kernel
theorem dX10_comesAt_45 : decode cX10_comesAt 45 = .ok (.istore 5, 2) := by decide +kernel
theorem dX10_comesAt_47 : decode cX10_comesAt 47 = .ok (.iload 5, 2) := by decide +kernel
theorem dX10_comesAt_49 : decode cX10_comesAt 49 = .ok (.aload_n 0, 1) := by decide +kernel
theorem dX10_comesAt_50 : decode cX10_comesAt 50 = .ok (.getfield 318, 3) := by decide +kernel
theorem dX10_comesAt_53 : decode cX10_comesAt 53 = .ok (.iadd, 1) := by decide +kernel
theorem dX10_comesAt_54 : decode cX10_comesAt 54 = .ok (.iload_n 2, 1) := by decide +kernel
theorem dX10_comesAt_55 : decode cX10_comesAt 55 = .ok (.aload_n 0, 1) := by decide +kernel
theorem dX10_comesAt_56 : decode cX10_comesAt 56 = .ok (.getfield 90, 3) := by decide +kernel
theorem dX10_comesAt_59 : decode cX10_comesAt 59 = .ok (.if_icmp .ne 18, 3) := by decide +kernel
theorem dX10_comesAt_62 : decode cX10_comesAt 62 = .ok (.iload_n 3, 1) := by decide +kernel
theorem dX10_comesAt_63 : decode cX10_comesAt 63 = .ok (.aload_n 0, 1) := by decide +kernel
theorem dX10_comesAt_64 : decode cX10_comesAt 64 = .ok (.getfield 321, 3) := by decide +kernel
theorem dX10_comesAt_67 : decode cX10_comesAt 67 = .ok (.if_icmp .ne 10, 3) := by decide +kernel
theorem dX10_comesAt_70 : decode cX10_comesAt 70 = .ok (.aload_n 0, 1) := by decide +kernel
theorem dX10_comesAt_71 : decode cX10_comesAt 71 = .ok (.getfield 324, 3) := by decide +kernel
theorem dX10_comesAt_74 : decode cX10_comesAt 74 = .ok (.goto 4, 3) := by decide +kernel
theorem dX10_comesAt_77 : decode cX10_comesAt 77 = .ok (.iconst 0, 1) := by decide +kernel
theorem dX10_comesAt_78 : decode cX10_comesAt 78 = .ok (.iadd, 1) := by decide +kernel
theorem dX10_comesAt_79 : decode cX10_comesAt 79 = .ok (.ireturn, 1) := by decide +kernel
theorem dX10_isLater_0 : decode cX10_isLater 0 = .ok (.aload_n 0, 1) := by decide +kernel
theorem dX10_isLater_1 : decode cX10_isLater 1 = .ok (.getfield 87, 3) := by decide +kernel
theorem dX10_isLater_4 : decode cX10_isLater 4 = .ok (.bipush 8, 2) := by decide +kernel
theorem dX10_isLater_6 : decode cX10_isLater 6 = .ok (.iload_n 1, 1) := by decide +kernel
theorem dX10_isLater_7 : decode cX10_isLater 7 = .ok (.imul, 1) := by decide +kernel
theorem dX10_isLater_8 : decode cX10_isLater 8 = .ok (.iload_n 2, 1) := by decide +kernel
theorem dX10_isLater_9 : decode cX10_isLater 9 = .ok (.iadd, 1) := by decide +kernel
theorem dX10_isLater_10 : decode cX10_isLater 10 = .ok (.iaload, 1) := by decide +kernel
theorem dX10_isLater_11 : decode cX10_isLater 11 = .ok (.istore 4, 2) := by decide +kernel
theorem dX10_isLater_13 : decode cX10_isLater 13 = .ok (.aload_n 0, 1) := by decide +kernel
theorem dX10_isLater_14 : decode cX10_isLater 14 = .ok (.getfield 87, 3) := by decide +kernel
theorem dX10_isLater_17 : decode cX10_isLater 17 = .ok (.bipush 8, 2) := by decide +kernel
theorem dX10_isLater_19 : decode cX10_isLater 19 = .ok (.iload_n 1, 1) := by decide +kernel
theorem dX10_isLater_20 : decode cX10_isLater 20 = .ok (.imul, 1) := by decide +kernel
theorem dX10_isLater_21 : decode cX10_isLater 21 = .ok (.iload_n 3, 1) := by decide +kernel
theorem dX10_isLater_22 : decode cX10_isLater 22 = .ok (.iadd, 1) := by decide +kernel
theorem dX10_isLater_23 : decode cX10_isLater 23 = .ok (.iaload, 1) := by decide +kernel
theorem dX10_isLater_24 : decode cX10_isLater 24 = .ok (.istore 5, 2) := by decide +kernel
theorem dX10_isLater_26 : decode cX10_isLater 26 = .ok (.iload 4, 2) := by decide +kernel
theorem dX10_isLater_28 : decode cX10_isLater 28 = .ok (.iload 5, 2) := by decide +kernel
theorem dX10_isLater_30 : decode cX10_isLater 30 = .ok (.if_icmp .eq 16, 3) := by decide +kernel
theorem dX10_isLater_33 : decode cX10_isLater 33 = .ok (.iload 4, 2) := by decide +kernel
theorem dX10_isLater_35 : decode cX10_isLater 35 = .ok (.iload 5, 2) := by decide +kernel
theorem dX10_isLater_37 : decode cX10_isLater 37 = .ok (.if_icmp .le 7, 3) := by decide +kernel
theorem dX10_isLater_40 : decode cX10_isLater 40 = .ok (.iconst 1, 1) := by decide +kernel
theorem dX10_isLater_41 : decode cX10_isLater 41 = .ok (.goto 4, 3) := by decide +kernel
theorem dX10_isLater_44 : decode cX10_isLater 44 = .ok (.iconst 0, 1) := by decide +kernel
theorem dX10_isLater_45 : decode cX10_isLater 45 = .ok (.ireturn, 1) := by decide +kernel
theorem dX10_isLater_46 : decode cX10_isLater 46 = .ok (.aload_n 0, 1) := by decide +kernel
theorem dX10_isLater_47 : decode cX10_isLater 47 = .ok (.iload_n 2, 1) := by decide +kernel
theorem dX10_isLater_48 : decode cX10_isLater 48 = .ok (.iload_n 1, 1) := by decide +kernel
theorem dX10_isLater_49 : decode cX10_isLater 49 = .ok (.invokevirtual 305, 3) := by decide +kernel
theorem dX10_isLater_52 : decode cX10_isLater 52 = .ok (.aload_n 0, 1) := by decide +kernel
theorem dX10_isLater_53 : decode cX10_isLater 53 = .ok (.iload_n 3, 1) := by decide +kernel
theorem dX10_isLater_54 : decode cX10_isLater 54 = .ok (.iload_n 1, 1) := by decide +kernel
theorem dX10_isLater_55 : decode cX10_isLater 55 = .ok (.invokevirtual 305, 3) := by decide +kernel
theorem dX10_isLater_58 : decode cX10_isLater 58 = .ok (.if_icmp .lt 23, 3) := by decide +kernel
theorem dX10_isLater_61 : decode cX10_isLater 61 = .ok (.aload_n 0, 1) := by decide +kernel
theorem dX10_isLater_62 : decode cX10_isLater 62 = .ok (.iload_n 2, 1) := by decide +kernel
theorem dX10_isLater_63 : decode cX10_isLater 63 = .ok (.iload_n 1, 1) := by decide +kernel
theorem dX10_isLater_64 : decode cX10_isLater 64 = .ok (.invokevirtual 305, 3) := by decide +kernel
theorem dX10_isLater_67 : decode cX10_isLater 67 = .ok (.aload_n 0, 1) := by decide +kernel
theorem dX10_isLater_68 : decode cX10_isLater 68 = .ok (.iload_n 3, 1) := by decide +kernel
theorem dX10_isLater_69 : decode cX10_isLater 69 = .ok (.iload_n 1, 1) := by decide +kernel
theorem dX10_isLater_70 : decode cX10_isLater 70 = .ok (.invokevirtual 305, 3) := by decide +kernel
theorem dX10_isLater_73 : decode cX10_isLater 73 = .ok (.if_icmp .ne 12, 3) := by decide +kernel
theorem dX10_isLater_76 : decode cX10_isLater 76 = .ok (.iload_n 2, 1) := by decide +kernel
theorem dX10_isLater_77 : decode cX10_isLater 77 = .ok (.iload_n 3, 1) := by decide +kernel
theorem dX10_isLater_78 : decode cX10_isLater 78 = .ok (.if_icmp .ge 7, 3) := by decide +kernel
theorem dX10_isLater_81 : decode cX10_isLater 81 = .ok (.iconst 1, 1) := by decide +kernel
theorem dX10_isLater_82 : decode cX10_isLater 82 = .ok (.goto 4, 3) := by decide +kernel
theorem dX10_isLater_85 : decode cX10_isLater 85 = .ok (.iconst 0, 1) := by decide +kernel
theorem dX10_isLater_86 : decode cX10_isLater 86 = .ok (.ireturn, 1) := by decide +kernel
theorem dX10_turnOf_0 : decode cX10_turnOf 0 = .ok (.aload_n 0, 1) := by decide +kernel
theorem dX10_turnOf_1 : decode cX10_turnOf 1 = .ok (.getfield 69, 3) := by decide +kernel
theorem dX10_turnOf_4 : decode cX10_turnOf 4 = .ok (.iload_n 1, 1) := by decide +kernel
theorem dX10_turnOf_5 : decode cX10_turnOf 5 = .ok (.iconst 1, 1) := by decide +kernel
theorem dX10_turnOf_6 : decode cX10_turnOf 6 = .ok (.iadd, 1) := by decide +kernel
theorem dX10_turnOf_7 : decode cX10_turnOf 7 = .ok (.iaload, 1) := by decide +kernel
theorem dX10_turnOf_8 : decode cX10_turnOf 8 = .ok (.istore_n 3, 1) := by decide +kernel
theorem dX10_turnOf_9 : decode cX10_turnOf 9 = .ok (.aload_n 0, 1) := by decide +kernel
theorem dX10_turnOf_10 : decode cX10_turnOf 10 = .ok (.getfield 81, 3) := by decide +kernel
theorem dX10_turnOf_13 : decode cX10_turnOf 13 = .ok (.iload_n 2, 1) := by decide +kernel
theorem dX10_turnOf_14 : decode cX10_turnOf 14 = .ok (.iconst 0, 1) := by decide +kernel
theorem dX10_turnOf_15 : decode cX10_turnOf 15 = .ok (.iastore, 1) := by decide +kernel
theorem dX10_turnOf_16 : decode cX10_turnOf 16 = .ok (.iload_n 3, 1) := by decide +kernel
theorem dX10_turnOf_17 : decode cX10_turnOf 17 = .ok (.iconst (-1), 1) := by decide +kernel
theorem dX10_turnOf_18 : decode cX10_turnOf 18 = .ok (.if_icmp .eq 92, 3) := by decide +kernel
theorem dX10_turnOf_21 : decode cX10_turnOf 21 = .ok (.aload_n 0, 1) := by decide +kernel
theorem dX10_turnOf_22 : decode cX10_turnOf 22 = .ok (.getfield 81, 3) := by decide +kernel
theorem dX10_turnOf_25 : decode cX10_turnOf 25 = .ok (.iload_n 2, 1) := by decide +kernel
theorem dX10_turnOf_26 : decode cX10_turnOf 26 = .ok (.aload_n 0, 1) := by decide +kernel
theorem dX10_turnOf_27 : decode cX10_turnOf 27 = .ok (.getfield 13, 3) := by decide +kernel
theorem dX10_turnOf_30 : decode cX10_turnOf 30 = .ok (.iconst (-1), 1) := by decide +kernel
theorem dX10_turnOf_31 : decode cX10_turnOf 31 = .ok (.if_icmp .ne 19, 3) := by decide +kernel
theorem dX10_turnOf_34 : decode cX10_turnOf 34 = .ok (.aload_n 0, 1) := by decide +kernel
theorem dX10_turnOf_35 : decode cX10_turnOf 35 = .ok (.getfield 69, 3) := by decide +kernel
theorem dX10_turnOf_38 : decode cX10_turnOf 38 = .ok (.iload_n 1, 1) := by decide +kernel
theorem dX10_turnOf_39 : decode cX10_turnOf 39 = .ok (.bipush 11, 2) := by decide +kernel
theorem dX10_turnOf_41 : decode cX10_turnOf 41 = .ok (.iadd, 1) := by decide +kernel
theorem dX10_turnOf_42 : decode cX10_turnOf 42 = .ok (.iload_n 3, 1) := by decide +kernel
theorem dX10_turnOf_43 : decode cX10_turnOf 43 = .ok (.iadd, 1) := by decide +kernel
theorem dX10_turnOf_44 : decode cX10_turnOf 44 = .ok (.iaload, 1) := by decide +kernel
theorem dX10_turnOf_45 : decode cX10_turnOf 45 = .ok (.iconst 2, 1) := by decide +kernel
theorem dX10_turnOf_46 : decode cX10_turnOf 46 = .ok (.idiv, 1) := by decide +kernel
theorem dX10_turnOf_47 : decode cX10_turnOf 47 = .ok (.goto 14, 3) := by decide +kernel
theorem dX10_turnOf_50 : decode cX10_turnOf 50 = .ok (.aload_n 0, 1) := by decide +kernel
theorem dX10_turnOf_51 : decode cX10_turnOf 51 = .ok (.aload_n 0, 1) := by decide +kernel
theorem dX10_turnOf_52 : decode cX10_turnOf 52 = .ok (.getfield 13, 3) := by decide +kernel
theorem dX10_turnOf_55 : decode cX10_turnOf 55 = .ok (.iload_n 1, 1) := by decide +kernel
theorem dX10_turnOf_56 : decode cX10_turnOf 56 = .ok (.iload_n 3, 1) := by decide +kernel
theorem dX10_turnOf_57 : decode cX10_turnOf 57 = .ok (.iload_n 2, 1) := by decide +kernel
theorem dX10_turnOf_58 : decode cX10_turnOf 58 = .ok (.invokevirtual 327, 3) := by decide +kernel
theorem dX10_turnOf_61 : decode cX10_turnOf 61 = .ok (.iconst 0, 1) := by decide +kernel
theorem dX10_turnOf_62 : decode cX10_turnOf 62 = .ok (.bipush 120, 2) := by decide +kernel
theorem dX10_turnOf_64 : decode cX10_turnOf 64 = .ok (.invokestatic 312, 3) := by decide +kernel
theorem dX10_turnOf_67 : decode cX10_turnOf 67 = .ok (.iastore, 1) := by decide +kernel
theorem dX10_turnOf_68 : decode cX10_turnOf 68 = .ok (.aload_n 0, 1) := by decide +kernel
theorem dX10_turnOf_69 : decode cX10_turnOf 69 = .ok (.getfield 69, 3) := by decide +kernel
theorem dX10_turnOf_72 : decode cX10_turnOf 72 = .ok (.iload_n 1, 1) := by decide +kernel
theorem dX10_turnOf_73 : decode cX10_turnOf 73 = .ok (.bipush 19, 2) := by decide +kernel
theorem dX10_turnOf_75 : decode cX10_turnOf 75 = .ok (.iadd, 1) := by decide +kernel
theorem dX10_turnOf_76 : decode cX10_turnOf 76 = .ok (.iload_n 3, 1) := by decide +kernel
theorem dX10_turnOf_77 : decode cX10_turnOf 77 = .ok (.iadd, 1) := by decide +kernel
theorem dX10_turnOf_78 : decode cX10_turnOf 78 = .ok (.sipush 999, 3) := by decide +kernel
theorem dX10_turnOf_81 : decode cX10_turnOf 81 = .ok (.aload_n 0, 1) := by decide +kernel
theorem dX10_turnOf_82 : decode cX10_turnOf 82 = .ok (.getfield 69, 3) := by decide +kernel
theorem dX10_turnOf_85 : decode cX10_turnOf 85 = .ok (.iload_n 1, 1) := by decide +kernel
theorem dX10_turnOf_86 : decode cX10_turnOf 86 = .ok (.bipush 19, 2) := by decide +kernel
theorem dX10_turnOf_88 : decode cX10_turnOf 88 = .ok (.iadd, 1) := by decide +kernel
theorem dX10_turnOf_89 : decode cX10_turnOf 89 = .ok (.iload_n 3, 1) := by decide +kernel
theorem dX10_turnOf_90 : decode cX10_turnOf 90 = .ok (.iadd, 1) := by decide +kernel
theorem dX10_turnOf_91 : decode cX10_turnOf 91 = .ok (.iaload, 1) := by decide +kernel
theorem dX10_turnOf_92 : decode cX10_turnOf 92 = .ok (.iconst 1, 1) := by decide +kernel
theorem dX10_turnOf_93 : decode cX10_turnOf 93 = .ok (.iadd, 1) := by decide +kernel
theorem dX10_turnOf_94 : decode cX10_turnOf 94 = .ok (.invokestatic 331, 3) := by decide +kernel
theorem dX10_turnOf_97 : decode cX10_turnOf 97 = .ok (.iastore, 1) := by decide +kernel
theorem dX10_turnOf_98 : decode cX10_turnOf 98 = .ok (.aload_n 0, 1) := by decide +kernel
theorem dX10_turnOf_99 : decode cX10_turnOf 99 = .ok (.dup, 1) := by decide +kernel
theorem dX10_turnOf_100 : decode cX10_turnOf 100 = .ok (.getfield 334, 3) := by decide +kernel
theorem dX10_turnOf_103 : decode cX10_turnOf 103 = .ok (.iconst 1, 1) := by decide +kernel
theorem dX10_turnOf_104 : decode cX10_turnOf 104 = .ok (.iload_n 3, 1) := by decide +kernel
theorem dX10_turnOf_105 : decode cX10_turnOf 105 = .ok (.ishl, 1) := by decide +kernel
theorem dX10_turnOf_106 : decode cX10_turnOf 106 = .ok (.ior, 1) := by decide +kernel
theorem dX10_turnOf_107 : decode cX10_turnOf 107 = .ok (.putfield 334, 3) := by decide +kernel
theorem dX10_turnOf_110 : decode cX10_turnOf 110 = .ok (.aload_n 0, 1) := by decide +kernel
theorem dX10_turnOf_111 : decode cX10_turnOf 111 = .ok (.dup, 1) := by decide +kernel
theorem dX10_turnOf_112 : decode cX10_turnOf 112 = .ok (.getfield 337, 3) := by decide +kernel
theorem dX10_turnOf_115 : decode cX10_turnOf 115 = .ok (.aload_n 0, 1) := by decide +kernel
theorem dX10_turnOf_116 : decode cX10_turnOf 116 = .ok (.getfield 81, 3) := by decide +kernel
theorem dX10_turnOf_119 : decode cX10_turnOf 119 = .ok (.iload_n 2, 1) := by decide +kernel
theorem dX10_turnOf_120 : decode cX10_turnOf 120 = .ok (.iaload, 1) := by decide +kernel
theorem dX10_turnOf_121 : decode cX10_turnOf 121 = .ok (.iadd, 1) := by decide +kernel
theorem dX10_turnOf_122 : decode cX10_turnOf 122 = .ok (.putfield 337, 3) := by decide +kernel
theorem dX10_turnOf_125 : decode cX10_turnOf 125 = .ok (.iconst (-1), 1) := by decide +kernel
theorem dX10_turnOf_126 : decode cX10_turnOf 126 = .ok (.istore 4, 2) := by decide +kernel
theorem dX10_turnOf_128 : decode cX10_turnOf 128 = .ok (.iconst 0, 1) := by decide +kernel
theorem dX10_turnOf_129 : decode cX10_turnOf 129 = .ok (.istore 5, 2) := by decide +kernel
theorem dX10_turnOf_131 : decode cX10_turnOf 131 = .ok (.iload 5, 2) := by decide +kernel
theorem dX10_turnOf_133 : decode cX10_turnOf 133 = .ok (.aload_n 0, 1) := by decide +kernel
theorem dX10_turnOf_134 : decode cX10_turnOf 134 = .ok (.getfield 278, 3) := by decide +kernel
theorem dX10_turnOf_137 : decode cX10_turnOf 137 = .ok (.if_icmp .ge 131, 3) := by decide +kernel
theorem dX10_turnOf_140 : decode cX10_turnOf 140 = .ok (.aload_n 0, 1) := by decide +kernel
theorem dX10_turnOf_141 : decode cX10_turnOf 141 = .ok (.getfield 87, 3) := by decide +kernel
theorem dX10_turnOf_144 : decode cX10_turnOf 144 = .ok (.bipush 8, 2) := by decide +kernel
theorem dX10_turnOf_146 : decode cX10_turnOf 146 = .ok (.iload_n 2, 1) := by decide +kernel
theorem dX10_turnOf_147 : decode cX10_turnOf 147 = .ok (.imul, 1) := by decide +kernel
theorem dX10_turnOf_148 : decode cX10_turnOf 148 = .ok (.iload 5, 2) := by decide +kernel
theorem dX10_turnOf_150 : decode cX10_turnOf 150 = .ok (.iadd, 1) := by decide +kernel
theorem dX10_turnOf_151 : decode cX10_turnOf 151 = .ok (.iconst (-1), 1) := by decide +kernel
theorem dX10_turnOf_152 : decode cX10_turnOf 152 = .ok (.iastore, 1) := by decide +kernel
theorem dX10_turnOf_153 : decode cX10_turnOf 153 = .ok (.aload_n 0, 1) := by decide +kernel
theorem dX10_turnOf_154 : decode cX10_turnOf 154 = .ok (.iload_n 1, 1) := by decide +kernel
theorem dX10_turnOf_155 : decode cX10_turnOf 155 = .ok (.iload 5, 2) := by decide +kernel
theorem dX10_turnOf_157 : decode cX10_turnOf 157 = .ok (.invokevirtual 340, 3) := by decide +kernel
theorem dX10_turnOf_160 : decode cX10_turnOf 160 = .ok (.ifCond .ne 6, 3) := by decide +kernel
theorem dX10_turnOf_163 : decode cX10_turnOf 163 = .ok (.goto 99, 3) := by decide +kernel
theorem dX10_turnOf_166 : decode cX10_turnOf 166 = .ok (.aload_n 0, 1) := by decide +kernel
theorem dX10_turnOf_167 : decode cX10_turnOf 167 = .ok (.getfield 87, 3) := by decide +kernel
theorem dX10_turnOf_170 : decode cX10_turnOf 170 = .ok (.bipush 8, 2) := by decide +kernel
theorem dX10_turnOf_172 : decode cX10_turnOf 172 = .ok (.iload_n 2, 1) := by decide +kernel
theorem dX10_turnOf_173 : decode cX10_turnOf 173 = .ok (.imul, 1) := by decide +kernel
theorem dX10_turnOf_174 : decode cX10_turnOf 174 = .ok (.iload 5, 2) := by decide +kernel
theorem dX10_turnOf_176 : decode cX10_turnOf 176 = .ok (.iadd, 1) := by decide +kernel
theorem dX10_turnOf_177 : decode cX10_turnOf 177 = .ok (.aload_n 0, 1) := by decide +kernel
theorem dX10_turnOf_178 : decode cX10_turnOf 178 = .ok (.iload_n 1, 1) := by decide +kernel
theorem dX10_turnOf_179 : decode cX10_turnOf 179 = .ok (.iload 5, 2) := by decide +kernel
theorem dX10_turnOf_181 : decode cX10_turnOf 181 = .ok (.iload_n 2, 1) := by decide +kernel
theorem dX10_turnOf_182 : decode cX10_turnOf 182 = .ok (.invokevirtual 344, 3) := by decide +kernel
theorem dX10_turnOf_185 : decode cX10_turnOf 185 = .ok (.iastore, 1) := by decide +kernel
theorem dX10_turnOf_186 : decode cX10_turnOf 186 = .ok (.aload_n 0, 1) := by decide +kernel
theorem dX10_turnOf_187 : decode cX10_turnOf 187 = .ok (.getfield 69, 3) := by decide +kernel
theorem dX10_turnOf_190 : decode cX10_turnOf 190 = .ok (.iload_n 1, 1) := by decide +kernel
theorem dX10_turnOf_191 : decode cX10_turnOf 191 = .ok (.bipush 11, 2) := by decide +kernel
theorem dX10_turnOf_193 : decode cX10_turnOf 193 = .ok (.iadd, 1) := by decide +kernel
theorem dX10_turnOf_194 : decode cX10_turnOf 194 = .ok (.iload 5, 2) := by decide +kernel
theorem dX10_turnOf_196 : decode cX10_turnOf 196 = .ok (.iadd, 1) := by decide +kernel
theorem dX10_turnOf_197 : decode cX10_turnOf 197 = .ok (.aload_n 0, 1) := by decide +kernel
theorem dX10_turnOf_198 : decode cX10_turnOf 198 = .ok (.getfield 87, 3) := by decide +kernel
theorem dX10_turnOf_201 : decode cX10_turnOf 201 = .ok (.bipush 8, 2) := by decide +kernel
theorem dX10_turnOf_203 : decode cX10_turnOf 203 = .ok (.iload_n 2, 1) := by decide +kernel
theorem dX10_turnOf_204 : decode cX10_turnOf 204 = .ok (.imul, 1) := by decide +kernel
theorem dX10_turnOf_205 : decode cX10_turnOf 205 = .ok (.iload 5, 2) := by decide +kernel
theorem dX10_turnOf_207 : decode cX10_turnOf 207 = .ok (.iadd, 1) := by decide +kernel
theorem dX10_turnOf_208 : decode cX10_turnOf 208 = .ok (.iaload, 1) := by decide +kernel
theorem dX10_turnOf_209 : decode cX10_turnOf 209 = .ok (.aload_n 0, 1) := by decide +kernel
theorem dX10_turnOf_210 : decode cX10_turnOf 210 = .ok (.getfield 69, 3) := by decide +kernel
theorem dX10_turnOf_213 : decode cX10_turnOf 213 = .ok (.iload_n 1, 1) := by decide +kernel
theorem dX10_turnOf_214 : decode cX10_turnOf 214 = .ok (.bipush 27, 2) := by decide +kernel
theorem dX10_turnOf_216 : decode cX10_turnOf 216 = .ok (.iadd, 1) := by decide +kernel
theorem dX10_turnOf_217 : decode cX10_turnOf 217 = .ok (.iload_n 2, 1) := by decide +kernel
theorem dX10_turnOf_218 : decode cX10_turnOf 218 = .ok (.iadd, 1) := by decide +kernel
theorem dX10_turnOf_219 : decode cX10_turnOf 219 = .ok (.iaload, 1) := by decide +kernel
theorem dX10_turnOf_220 : decode cX10_turnOf 220 = .ok (.isub, 1) := by decide +kernel
theorem dX10_turnOf_221 : decode cX10_turnOf 221 = .ok (.iconst 0, 1) := by decide +kernel
theorem dX10_turnOf_222 : decode cX10_turnOf 222 = .ok (.sipush 999, 3) := by decide +kernel
theorem dX10_turnOf_225 : decode cX10_turnOf 225 = .ok (.invokestatic 312, 3) := by decide +kernel
theorem dX10_turnOf_228 : decode cX10_turnOf 228 = .ok (.iastore, 1) := by decide +kernel
theorem dX10_turnOf_229 : decode cX10_turnOf 229 = .ok (.aload_n 0, 1) := by decide +kernel
theorem dX10_turnOf_230 : decode cX10_turnOf 230 = .ok (.getfield 19, 3) := by decide +kernel
theorem dX10_turnOf_233 : decode cX10_turnOf 233 = .ok (.iload 5, 2) := by decide +kernel
theorem dX10_turnOf_235 : decode cX10_turnOf 235 = .ok (.iaload, 1) := by decide +kernel
theorem dX10_turnOf_236 : decode cX10_turnOf 236 = .ok (.iconst 1, 1) := by decide +kernel
theorem dX10_turnOf_237 : decode cX10_turnOf 237 = .ok (.if_icmp .eq 25, 3) := by decide +kernel
theorem dX10_turnOf_240 : decode cX10_turnOf 240 = .ok (.iload 4, 2) := by decide +kernel
theorem dX10_turnOf_242 : decode cX10_turnOf 242 = .ok (.iconst (-1), 1) := by decide +kernel
theorem dX10_turnOf_243 : decode cX10_turnOf 243 = .ok (.if_icmp .eq 15, 3) := by decide +kernel
theorem dX10_turnOf_246 : decode cX10_turnOf 246 = .ok (.aload_n 0, 1) := by decide +kernel
theorem dX10_turnOf_247 : decode cX10_turnOf 247 = .ok (.iload_n 2, 1) := by decide +kernel
theorem dX10_turnOf_248 : decode cX10_turnOf 248 = .ok (.iload 5, 2) := by decide +kernel
theorem dX10_turnOf_250 : decode cX10_turnOf 250 = .ok (.iload 4, 2) := by decide +kernel
theorem dX10_turnOf_252 : decode cX10_turnOf 252 = .ok (.invokevirtual 347, 3) := by decide +kernel
theorem dX10_turnOf_255 : decode cX10_turnOf 255 = .ok (.ifCond .eq 7, 3) := by decide +kernel
theorem dX10_turnOf_258 : decode cX10_turnOf 258 = .ok (.iload 5, 2) := by decide +kernel
theorem dX10_turnOf_260 : decode cX10_turnOf 260 = .ok (.istore 4, 2) := by decide +kernel
theorem dX10_turnOf_262 : decode cX10_turnOf 262 = .ok (.iinc 5 1, 3) := by decide +kernel
theorem dX10_turnOf_265 : decode cX10_turnOf 265 = .ok (.goto (-134), 3) := by decide +kernel
theorem dX10_turnOf_268 : decode cX10_turnOf 268 = .ok (.aload_n 0, 1) := by decide +kernel
theorem dX10_turnOf_269 : decode cX10_turnOf 269 = .ok (.getfield 84, 3) := by decide +kernel
theorem dX10_turnOf_272 : decode cX10_turnOf 272 = .ok (.iload_n 2, 1) := by decide +kernel
theorem dX10_turnOf_273 : decode cX10_turnOf 273 = .ok (.iload 4, 2) := by decide +kernel
theorem dX10_turnOf_275 : decode cX10_turnOf 275 = .ok (.iastore, 1) := by decide +kernel
theorem dX10_turnOf_276 : decode cX10_turnOf 276 = .ok (.aload_n 0, 1) := by decide +kernel
theorem dX10_turnOf_277 : decode cX10_turnOf 277 = .ok (.dup, 1) := by decide +kernel
theorem dX10_turnOf_278 : decode cX10_turnOf 278 = .ok (.getfield 351, 3) := by decide +kernel
theorem dX10_turnOf_281 : decode cX10_turnOf 281 = .ok (.iload 4, 2) := by decide +kernel
theorem dX10_turnOf_283 : decode cX10_turnOf 283 = .ok (.iload_n 3, 1) := by decide +kernel
theorem dX10_turnOf_284 : decode cX10_turnOf 284 = .ok (.if_icmp .eq 7, 3) := by decide +kernel
theorem dX10_turnOf_287 : decode cX10_turnOf 287 = .ok (.iconst 1, 1) := by decide +kernel
theorem dX10_turnOf_288 : decode cX10_turnOf 288 = .ok (.goto 4, 3) := by decide +kernel
theorem dX10_turnOf_291 : decode cX10_turnOf 291 = .ok (.iconst 0, 1) := by decide +kernel
theorem dX10_turnOf_292 : decode cX10_turnOf 292 = .ok (.iadd, 1) := by decide +kernel
theorem dX10_turnOf_293 : decode cX10_turnOf 293 = .ok (.putfield 351, 3) := by decide +kernel
theorem dX10_turnOf_296 : decode cX10_turnOf 296 = .ok (.aload_n 0, 1) := by decide +kernel
theorem dX10_turnOf_297 : decode cX10_turnOf 297 = .ok (.getfield 69, 3) := by decide +kernel
theorem dX10_turnOf_300 : decode cX10_turnOf 300 = .ok (.iload_n 1, 1) := by decide +kernel
theorem dX10_turnOf_301 : decode cX10_turnOf 301 = .ok (.iconst 1, 1) := by decide +kernel
theorem dX10_turnOf_302 : decode cX10_turnOf 302 = .ok (.iadd, 1) := by decide +kernel
theorem dX10_turnOf_303 : decode cX10_turnOf 303 = .ok (.iload 4, 2) := by decide +kernel
theorem dX10_turnOf_305 : decode cX10_turnOf 305 = .ok (.iastore, 1) := by decide +kernel
theorem dX10_turnOf_306 : decode cX10_turnOf 306 = .ok (.iload 4, 2) := by decide +kernel
theorem dX10_turnOf_308 : decode cX10_turnOf 308 = .ok (.iconst (-1), 1) := by decide +kernel
theorem dX10_turnOf_309 : decode cX10_turnOf 309 = .ok (.if_icmp .ne 4, 3) := by decide +kernel
theorem dX10_turnOf_312 : decode cX10_turnOf 312 = .ok (.return_, 1) := by decide +kernel
theorem dX10_turnOf_313 : decode cX10_turnOf 313 = .ok (.aload_n 0, 1) := by decide +kernel
theorem dX10_turnOf_314 : decode cX10_turnOf 314 = .ok (.getfield 16, 3) := by decide +kernel
theorem dX10_turnOf_317 : decode cX10_turnOf 317 = .ok (.iconst (-1), 1) := by decide +kernel
theorem dX10_turnOf_318 : decode cX10_turnOf 318 = .ok (.if_icmp .ne 7, 3) := by decide +kernel
theorem dX10_turnOf_321 : decode cX10_turnOf 321 = .ok (.iconst 1, 1) := by decide +kernel
theorem dX10_turnOf_322 : decode cX10_turnOf 322 = .ok (.goto 21, 3) := by decide +kernel
theorem dX10_turnOf_325 : decode cX10_turnOf 325 = .ok (.aload_n 0, 1) := by decide +kernel
theorem dX10_turnOf_326 : decode cX10_turnOf 326 = .ok (.aload_n 0, 1) := by decide +kernel
theorem dX10_turnOf_327 : decode cX10_turnOf 327 = .ok (.getfield 16, 3) := by decide +kernel
theorem dX10_turnOf_330 : decode cX10_turnOf 330 = .ok (.iload_n 1, 1) := by decide +kernel
theorem dX10_turnOf_331 : decode cX10_turnOf 331 = .ok (.iload 4, 2) := by decide +kernel
theorem dX10_turnOf_333 : decode cX10_turnOf 333 = .ok (.iload_n 2, 1) := by decide +kernel
theorem dX10_turnOf_334 : decode cX10_turnOf 334 = .ok (.invokevirtual 327, 3) := by decide +kernel
theorem dX10_turnOf_337 : decode cX10_turnOf 337 = .ok (.iconst 0, 1) := by decide +kernel
theorem dX10_turnOf_338 : decode cX10_turnOf 338 = .ok (.bipush 9, 2) := by decide +kernel
theorem dX10_turnOf_340 : decode cX10_turnOf 340 = .ok (.invokestatic 312, 3) := by decide +kernel
theorem dX10_turnOf_343 : decode cX10_turnOf 343 = .ok (.istore 5, 2) := by decide +kernel
theorem dX10_turnOf_345 : decode cX10_turnOf 345 = .ok (.aload_n 0, 1) := by decide +kernel
theorem dX10_turnOf_346 : decode cX10_turnOf 346 = .ok (.getfield 69, 3) := by decide +kernel
theorem dX10_turnOf_349 : decode cX10_turnOf 349 = .ok (.iload_n 1, 1) := by decide +kernel
theorem dX10_turnOf_350 : decode cX10_turnOf 350 = .ok (.iconst 3, 1) := by decide +kernel
theorem dX10_turnOf_351 : decode cX10_turnOf 351 = .ok (.iadd, 1) := by decide +kernel
theorem dX10_turnOf_352 : decode cX10_turnOf 352 = .ok (.iload 4, 2) := by decide +kernel
theorem dX10_turnOf_354 : decode cX10_turnOf 354 = .ok (.iadd, 1) := by decide +kernel
theorem dX10_turnOf_355 : decode cX10_turnOf 355 = .ok (.bipush 60, 2) := by decide +kernel
theorem dX10_turnOf_357 : decode cX10_turnOf 357 = .ok (.aload_n 0, 1) := by decide +kernel
theorem dX10_turnOf_358 : decode cX10_turnOf 358 = .ok (.getfield 69, 3) := by decide +kernel
theorem dX10_turnOf_361 : decode cX10_turnOf 361 = .ok (.iload_n 1, 1) := by decide +kernel
theorem dX10_turnOf_362 : decode cX10_turnOf 362 = .ok (.iconst 3, 1) := by decide +kernel
theorem dX10_turnOf_363 : decode cX10_turnOf 363 = .ok (.iadd, 1) := by decide +kernel
theorem dX10_turnOf_364 : decode cX10_turnOf 364 = .ok (.iload 4, 2) := by decide +kernel
theorem dX10_turnOf_366 : decode cX10_turnOf 366 = .ok (.iadd, 1) := by decide +kernel
theorem dX10_turnOf_367 : decode cX10_turnOf 367 = .ok (.iaload, 1) := by decide +kernel
theorem dX10_turnOf_368 : decode cX10_turnOf 368 = .ok (.iload 5, 2) := by decide +kernel
theorem dX10_turnOf_370 : decode cX10_turnOf 370 = .ok (.iadd, 1) := by decide +kernel
theorem dX10_turnOf_371 : decode cX10_turnOf 371 = .ok (.invokestatic 331, 3) := by decide +kernel
theorem dX10_turnOf_374 : decode cX10_turnOf 374 = .ok (.iastore, 1) := by decide +kernel
theorem dX10_turnOf_375 : decode cX10_turnOf 375 = .ok (.return_, 1) := by decide +kernel
theorem dX10_dayGoes_0 : decode cX10_dayGoes 0 = .ok (.aload_n 0, 1) := by decide +kernel
theorem dX10_dayGoes_1 : decode cX10_dayGoes 1 = .ok (.iconst 0, 1) := by decide +kernel
theorem dX10_dayGoes_2 : decode cX10_dayGoes 2 = .ok (.putfield 334, 3) := by decide +kernel
theorem dX10_dayGoes_5 : decode cX10_dayGoes 5 = .ok (.aload_n 0, 1) := by decide +kernel
theorem dX10_dayGoes_6 : decode cX10_dayGoes 6 = .ok (.iconst 0, 1) := by decide +kernel
theorem dX10_dayGoes_7 : decode cX10_dayGoes 7 = .ok (.putfield 351, 3) := by decide +kernel
theorem dX10_dayGoes_10 : decode cX10_dayGoes 10 = .ok (.aload_n 0, 1) := by decide +kernel
theorem dX10_dayGoes_11 : decode cX10_dayGoes 11 = .ok (.iconst 0, 1) := by decide +kernel
theorem dX10_dayGoes_12 : decode cX10_dayGoes 12 = .ok (.putfield 337, 3) := by decide +kernel
theorem dX10_dayGoes_15 : decode cX10_dayGoes 15 = .ok (.iconst 0, 1) := by decide +kernel
theorem dX10_dayGoes_16 : decode cX10_dayGoes 16 = .ok (.istore_n 2, 1) := by decide +kernel
theorem dX10_dayGoes_17 : decode cX10_dayGoes 17 = .ok (.iload_n 2, 1) := by decide +kernel
theorem dX10_dayGoes_18 : decode cX10_dayGoes 18 = .ok (.aload_n 0, 1) := by decide +kernel
theorem dX10_dayGoes_19 : decode cX10_dayGoes 19 = .ok (.getfield 281, 3) := by decide +kernel
theorem dX10_dayGoes_22 : decode cX10_dayGoes 22 = .ok (.if_icmp .ge 15, 3) := by decide +kernel
theorem dX10_dayGoes_25 : decode cX10_dayGoes 25 = .ok (.aload_n 0, 1) := by decide +kernel
theorem dX10_dayGoes_26 : decode cX10_dayGoes 26 = .ok (.iload_n 1, 1) := by decide +kernel
theorem dX10_dayGoes_27 : decode cX10_dayGoes 27 = .ok (.iload_n 2, 1) := by decide +kernel
theorem dX10_dayGoes_28 : decode cX10_dayGoes 28 = .ok (.invokevirtual 354, 3) := by decide +kernel
theorem dX10_dayGoes_31 : decode cX10_dayGoes 31 = .ok (.iinc 2 1, 3) := by decide +kernel
theorem dX10_dayGoes_34 : decode cX10_dayGoes 34 = .ok (.goto (-17), 3) := by decide +kernel
theorem dX10_dayGoes_37 : decode cX10_dayGoes 37 = .ok (.iconst 0, 1) := by decide +kernel
theorem dX10_dayGoes_38 : decode cX10_dayGoes 38 = .ok (.istore_n 2, 1) := by decide +kernel
theorem dX10_dayGoes_39 : decode cX10_dayGoes 39 = .ok (.iload_n 2, 1) := by decide +kernel
theorem dX10_dayGoes_40 : decode cX10_dayGoes 40 = .ok (.aload_n 0, 1) := by decide +kernel
theorem dX10_dayGoes_41 : decode cX10_dayGoes 41 = .ok (.getfield 278, 3) := by decide +kernel
theorem dX10_dayGoes_44 : decode cX10_dayGoes 44 = .ok (.if_icmp .ge 51, 3) := by decide +kernel
theorem dX10_dayGoes_47 : decode cX10_dayGoes 47 = .ok (.aload_n 0, 1) := by decide +kernel
theorem dX10_dayGoes_48 : decode cX10_dayGoes 48 = .ok (.getfield 69, 3) := by decide +kernel
theorem dX10_dayGoes_51 : decode cX10_dayGoes 51 = .ok (.iload_n 1, 1) := by decide +kernel
theorem dX10_dayGoes_52 : decode cX10_dayGoes 52 = .ok (.iconst 3, 1) := by decide +kernel
theorem dX10_dayGoes_53 : decode cX10_dayGoes 53 = .ok (.iadd, 1) := by decide +kernel
theorem dX10_dayGoes_54 : decode cX10_dayGoes 54 = .ok (.iload_n 2, 1) := by decide +kernel
theorem dX10_dayGoes_55 : decode cX10_dayGoes 55 = .ok (.iadd, 1) := by decide +kernel
theorem dX10_dayGoes_56 : decode cX10_dayGoes 56 = .ok (.dup2, 1) := by decide +kernel
theorem dX10_dayGoes_57 : decode cX10_dayGoes 57 = .ok (.iaload, 1) := by decide +kernel
theorem dX10_dayGoes_58 : decode cX10_dayGoes 58 = .ok (.aload_n 0, 1) := by decide +kernel
theorem dX10_dayGoes_59 : decode cX10_dayGoes 59 = .ok (.getfield 334, 3) := by decide +kernel
theorem dX10_dayGoes_62 : decode cX10_dayGoes 62 = .ok (.iload_n 2, 1) := by decide +kernel
theorem dX10_dayGoes_63 : decode cX10_dayGoes 63 = .ok (.ishr, 1) := by decide +kernel
theorem dX10_dayGoes_64 : decode cX10_dayGoes 64 = .ok (.iconst 1, 1) := by decide +kernel
theorem dX10_dayGoes_65 : decode cX10_dayGoes 65 = .ok (.iand, 1) := by decide +kernel
theorem dX10_dayGoes_66 : decode cX10_dayGoes 66 = .ok (.ifCond .ne 20, 3) := by decide +kernel
theorem dX10_dayGoes_69 : decode cX10_dayGoes 69 = .ok (.aload_n 0, 1) := by decide +kernel
theorem dX10_dayGoes_70 : decode cX10_dayGoes 70 = .ok (.getfield 69, 3) := by decide +kernel
theorem dX10_dayGoes_73 : decode cX10_dayGoes 73 = .ok (.iload_n 1, 1) := by decide +kernel
theorem dX10_dayGoes_74 : decode cX10_dayGoes 74 = .ok (.iconst 3, 1) := by decide +kernel
theorem dX10_dayGoes_75 : decode cX10_dayGoes 75 = .ok (.iadd, 1) := by decide +kernel
theorem dX10_dayGoes_76 : decode cX10_dayGoes 76 = .ok (.iload_n 2, 1) := by decide +kernel
theorem dX10_dayGoes_77 : decode cX10_dayGoes 77 = .ok (.iadd, 1) := by decide +kernel
theorem dX10_dayGoes_78 : decode cX10_dayGoes 78 = .ok (.iaload, 1) := by decide +kernel
theorem dX10_dayGoes_79 : decode cX10_dayGoes 79 = .ok (.ifCond .le 7, 3) := by decide +kernel
theorem dX10_dayGoes_82 : decode cX10_dayGoes 82 = .ok (.iconst 1, 1) := by decide +kernel
theorem dX10_dayGoes_83 : decode cX10_dayGoes 83 = .ok (.goto 4, 3) := by decide +kernel
theorem dX10_dayGoes_86 : decode cX10_dayGoes 86 = .ok (.iconst 0, 1) := by decide +kernel
theorem dX10_dayGoes_87 : decode cX10_dayGoes 87 = .ok (.isub, 1) := by decide +kernel
theorem dX10_dayGoes_88 : decode cX10_dayGoes 88 = .ok (.iastore, 1) := by decide +kernel
theorem dX10_dayGoes_89 : decode cX10_dayGoes 89 = .ok (.iinc 2 1, 3) := by decide +kernel
theorem dX10_dayGoes_92 : decode cX10_dayGoes 92 = .ok (.goto (-53), 3) := by decide +kernel
theorem dX10_dayGoes_95 : decode cX10_dayGoes 95 = .ok (.aload_n 0, 1) := by decide +kernel
theorem dX10_dayGoes_96 : decode cX10_dayGoes 96 = .ok (.getfield 69, 3) := by decide +kernel
theorem dX10_dayGoes_99 : decode cX10_dayGoes 99 = .ok (.iload_n 1, 1) := by decide +kernel
theorem dX10_dayGoes_100 : decode cX10_dayGoes 100 = .ok (.iconst 0, 1) := by decide +kernel
theorem dX10_dayGoes_101 : decode cX10_dayGoes 101 = .ok (.iadd, 1) := by decide +kernel
theorem dX10_dayGoes_102 : decode cX10_dayGoes 102 = .ok (.dup2, 1) := by decide +kernel
theorem dX10_dayGoes_103 : decode cX10_dayGoes 103 = .ok (.iaload, 1) := by decide +kernel
theorem dX10_dayGoes_104 : decode cX10_dayGoes 104 = .ok (.iconst 1, 1) := by decide +kernel
theorem dX10_dayGoes_105 : decode cX10_dayGoes 105 = .ok (.iadd, 1) := by decide +kernel
theorem dX10_dayGoes_106 : decode cX10_dayGoes 106 = .ok (.iastore, 1) := by decide +kernel
theorem dX10_dayGoes_107 : decode cX10_dayGoes 107 = .ok (.return_, 1) := by decide +kernel
theorem dX10_daysGo_0 : decode cX10_daysGo 0 = .ok (.iconst 0, 1) := by decide +kernel
theorem dX10_daysGo_1 : decode cX10_daysGo 1 = .ok (.istore_n 2, 1) := by decide +kernel
theorem dX10_daysGo_2 : decode cX10_daysGo 2 = .ok (.iload_n 2, 1) := by decide +kernel
theorem dX10_daysGo_3 : decode cX10_daysGo 3 = .ok (.iload_n 1, 1) := by decide +kernel
theorem dX10_daysGo_4 : decode cX10_daysGo 4 = .ok (.if_icmp .ge 15, 3) := by decide +kernel
theorem dX10_daysGo_7 : decode cX10_daysGo 7 = .ok (.aload_n 0, 1) := by decide +kernel
theorem dX10_daysGo_8 : decode cX10_daysGo 8 = .ok (.bipush 33, 2) := by decide +kernel
theorem dX10_daysGo_10 : decode cX10_daysGo 10 = .ok (.invokevirtual 358, 3) := by decide +kernel
theorem dX10_daysGo_13 : decode cX10_daysGo 13 = .ok (.iinc 2 1, 3) := by decide +kernel
theorem dX10_daysGo_16 : decode cX10_daysGo 16 = .ok (.goto (-14), 3) := by decide +kernel
theorem dX10_daysGo_19 : decode cX10_daysGo 19 = .ok (.return_, 1) := by decide +kernel
theorem dX10_hasteOf_0 : decode cX10_hasteOf 0 = .ok (.iconst 0, 1) := by decide +kernel
theorem dX10_hasteOf_1 : decode cX10_hasteOf 1 = .ok (.istore_n 2, 1) := by decide +kernel
theorem dX10_hasteOf_2 : decode cX10_hasteOf 2 = .ok (.iconst 0, 1) := by decide +kernel
theorem dX10_hasteOf_3 : decode cX10_hasteOf 3 = .ok (.istore_n 3, 1) := by decide +kernel
theorem dX10_hasteOf_4 : decode cX10_hasteOf 4 = .ok (.iload_n 3, 1) := by decide +kernel
theorem dX10_hasteOf_5 : decode cX10_hasteOf 5 = .ok (.aload_n 0, 1) := by decide +kernel
theorem dX10_hasteOf_6 : decode cX10_hasteOf 6 = .ok (.getfield 278, 3) := by decide +kernel
theorem dX10_hasteOf_9 : decode cX10_hasteOf 9 = .ok (.if_icmp .ge 22, 3) := by decide +kernel
theorem dX10_hasteOf_12 : decode cX10_hasteOf 12 = .ok (.iload_n 2, 1) := by decide +kernel
theorem dX10_hasteOf_13 : decode cX10_hasteOf 13 = .ok (.aload_n 0, 1) := by decide +kernel
theorem dX10_hasteOf_14 : decode cX10_hasteOf 14 = .ok (.getfield 69, 3) := by decide +kernel
theorem dX10_hasteOf_17 : decode cX10_hasteOf 17 = .ok (.iload_n 1, 1) := by decide +kernel
theorem dX10_hasteOf_18 : decode cX10_hasteOf 18 = .ok (.iconst 3, 1) := by decide +kernel
theorem dX10_hasteOf_19 : decode cX10_hasteOf 19 = .ok (.iadd, 1) := by decide +kernel
theorem dX10_hasteOf_20 : decode cX10_hasteOf 20 = .ok (.iload_n 3, 1) := by decide +kernel
theorem dX10_hasteOf_21 : decode cX10_hasteOf 21 = .ok (.iadd, 1) := by decide +kernel
theorem dX10_hasteOf_22 : decode cX10_hasteOf 22 = .ok (.iaload, 1) := by decide +kernel
theorem dX10_hasteOf_23 : decode cX10_hasteOf 23 = .ok (.iadd, 1) := by decide +kernel
theorem dX10_hasteOf_24 : decode cX10_hasteOf 24 = .ok (.istore_n 2, 1) := by decide +kernel
theorem dX10_hasteOf_25 : decode cX10_hasteOf 25 = .ok (.iinc 3 1, 3) := by decide +kernel
theorem dX10_hasteOf_28 : decode cX10_hasteOf 28 = .ok (.goto (-24), 3) := by decide +kernel
theorem dX10_hasteOf_31 : decode cX10_hasteOf 31 = .ok (.iload_n 2, 1) := by decide +kernel
theorem dX10_hasteOf_32 : decode cX10_hasteOf 32 = .ok (.ireturn, 1) := by decide +kernel
theorem dX10_count_0 : decode cX10_count 0 = .ok (.aload_n 0, 1) := by decide +kernel
theorem dX10_count_1 : decode cX10_count 1 = .ok (.iconst 0, 1) := by decide +kernel
theorem dX10_count_2 : decode cX10_count 2 = .ok (.putfield 120, 3) := by decide +kernel
theorem dX10_count_5 : decode cX10_count 5 = .ok (.aload_n 0, 1) := by decide +kernel
theorem dX10_count_6 : decode cX10_count 6 = .ok (.iload_n 1, 1) := by decide +kernel
theorem dX10_count_7 : decode cX10_count 7 = .ok (.iconst 0, 1) := by decide +kernel
theorem dX10_count_8 : decode cX10_count 8 = .ok (.bipush 12, 2) := by decide +kernel
theorem dX10_count_10 : decode cX10_count 10 = .ok (.invokestatic 361, 3) := by decide +kernel
theorem dX10_count_13 : decode cX10_count 13 = .ok (.iconst 1, 1) := by decide +kernel
theorem dX10_count_14 : decode cX10_count 14 = .ok (.invokevirtual 271, 3) := by decide +kernel
theorem dX10_count_17 : decode cX10_count 17 = .ok (.ifCond .ne 5, 3) := by decide +kernel
theorem dX10_count_20 : decode cX10_count 20 = .ok (.iconst 0, 1) := by decide +kernel
theorem dX10_count_21 : decode cX10_count 21 = .ok (.ireturn, 1) := by decide +kernel
theorem dX10_count_22 : decode cX10_count 22 = .ok (.iload_n 1, 1) := by decide +kernel
theorem dX10_count_23 : decode cX10_count 23 = .ok (.tableswitch 110 0 9 #[53, 58, 63, 68, 75, 82, 89, 95, 100, 105], 53) := by decide +kernel
theorem dX10_count_76 : decode cX10_count 76 = .ok (.aload_n 0, 1) := by decide +kernel
theorem dX10_count_77 : decode cX10_count 77 = .ok (.getfield 278, 3) := by decide +kernel
theorem dX10_count_80 : decode cX10_count 80 = .ok (.ireturn, 1) := by decide +kernel
theorem dX10_count_81 : decode cX10_count 81 = .ok (.aload_n 0, 1) := by decide +kernel
theorem dX10_count_82 : decode cX10_count 82 = .ok (.getfield 281, 3) := by decide +kernel
theorem dX10_count_85 : decode cX10_count 85 = .ok (.ireturn, 1) := by decide +kernel
theorem dX10_count_86 : decode cX10_count 86 = .ok (.aload_n 0, 1) := by decide +kernel
theorem dX10_count_87 : decode cX10_count 87 = .ok (.getfield 7, 3) := by decide +kernel
theorem dX10_count_90 : decode cX10_count 90 = .ok (.ireturn, 1) := by decide +kernel
theorem dX10_count_91 : decode cX10_count 91 = .ok (.aload_n 0, 1) := by decide +kernel
theorem dX10_count_92 : decode cX10_count 92 = .ok (.getfield 69, 3) := by decide +kernel
theorem dX10_count_95 : decode cX10_count 95 = .ok (.iconst 0, 1) := by decide +kernel
theorem dX10_count_96 : decode cX10_count 96 = .ok (.iaload, 1) := by decide +kernel
theorem dX10_count_97 : decode cX10_count 97 = .ok (.ireturn, 1) := by decide +kernel
theorem dX10_count_98 : decode cX10_count 98 = .ok (.aload_n 0, 1) := by decide +kernel
theorem dX10_count_99 : decode cX10_count 99 = .ok (.getfield 69, 3) := by decide +kernel
theorem dX10_count_102 : decode cX10_count 102 = .ok (.iconst 1, 1) := by decide +kernel
theorem dX10_count_103 : decode cX10_count 103 = .ok (.iaload, 1) := by decide +kernel
theorem dX10_count_104 : decode cX10_count 104 = .ok (.ireturn, 1) := by decide +kernel
theorem dX10_count_105 : decode cX10_count 105 = .ok (.aload_n 0, 1) := by decide +kernel
theorem dX10_count_106 : decode cX10_count 106 = .ok (.getfield 69, 3) := by decide +kernel
theorem dX10_count_109 : decode cX10_count 109 = .ok (.iconst 2, 1) := by decide +kernel
theorem dX10_count_110 : decode cX10_count 110 = .ok (.iaload, 1) := by decide +kernel
theorem dX10_count_111 : decode cX10_count 111 = .ok (.ireturn, 1) := by decide +kernel
theorem dX10_count_112 : decode cX10_count 112 = .ok (.aload_n 0, 1) := by decide +kernel
theorem dX10_count_113 : decode cX10_count 113 = .ok (.iconst 0, 1) := by decide +kernel
theorem dX10_count_114 : decode cX10_count 114 = .ok (.invokevirtual 364, 3) := by decide +kernel
theorem dX10_count_117 : decode cX10_count 117 = .ok (.ireturn, 1) := by decide +kernel
theorem dX10_count_118 : decode cX10_count 118 = .ok (.aload_n 0, 1) := by decide +kernel
theorem dX10_count_119 : decode cX10_count 119 = .ok (.getfield 288, 3) := by decide +kernel
theorem dX10_count_122 : decode cX10_count 122 = .ok (.ireturn, 1) := by decide +kernel
theorem dX10_count_123 : decode cX10_count 123 = .ok (.aload_n 0, 1) := by decide +kernel
theorem dX10_count_124 : decode cX10_count 124 = .ok (.getfield 291, 3) := by decide +kernel
theorem dX10_count_127 : decode cX10_count 127 = .ok (.ireturn, 1) := by decide +kernel
theorem dX10_count_128 : decode cX10_count 128 = .ok (.aload_n 0, 1) := by decide +kernel
theorem dX10_count_129 : decode cX10_count 129 = .ok (.getfield 123, 3) := by decide +kernel
theorem dX10_count_132 : decode cX10_count 132 = .ok (.ireturn, 1) := by decide +kernel
theorem dX10_count_133 : decode cX10_count 133 = .ok (.aload_n 0, 1) := by decide +kernel
theorem dX10_count_134 : decode cX10_count 134 = .ok (.getfield 41, 3) := by decide +kernel
theorem dX10_count_137 : decode cX10_count 137 = .ok (.iload_n 1, 1) := by decide +kernel
theorem dX10_count_138 : decode cX10_count 138 = .ok (.bipush 10, 2) := by decide +kernel
theorem dX10_count_140 : decode cX10_count 140 = .ok (.isub, 1) := by decide +kernel
theorem dX10_count_141 : decode cX10_count 141 = .ok (.iaload, 1) := by decide +kernel
theorem dX10_count_142 : decode cX10_count 142 = .ok (.ireturn, 1) := by decide +kernel
theorem dX10_isPerson_0 : decode cX10_isPerson 0 = .ok (.aload_n 0, 1) := by decide +kernel
theorem dX10_isPerson_1 : decode cX10_isPerson 1 = .ok (.iload_n 1, 1) := by decide +kernel
theorem dX10_isPerson_2 : decode cX10_isPerson 2 = .ok (.ifCond .lt 15, 3) := by decide +kernel
theorem dX10_isPerson_5 : decode cX10_isPerson 5 = .ok (.iload_n 1, 1) := by decide +kernel
theorem dX10_isPerson_6 : decode cX10_isPerson 6 = .ok (.aload_n 0, 1) := by decide +kernel
theorem dX10_isPerson_7 : decode cX10_isPerson 7 = .ok (.getfield 278, 3) := by decide +kernel
theorem dX10_isPerson_10 : decode cX10_isPerson 10 = .ok (.if_icmp .ge 7, 3) := by decide +kernel
theorem dX10_isPerson_13 : decode cX10_isPerson 13 = .ok (.iconst 1, 1) := by decide +kernel
theorem dX10_isPerson_14 : decode cX10_isPerson 14 = .ok (.goto 4, 3) := by decide +kernel
theorem dX10_isPerson_17 : decode cX10_isPerson 17 = .ok (.iconst 0, 1) := by decide +kernel
theorem dX10_isPerson_18 : decode cX10_isPerson 18 = .ok (.iconst 1, 1) := by decide +kernel
theorem dX10_isPerson_19 : decode cX10_isPerson 19 = .ok (.invokevirtual 271, 3) := by decide +kernel
theorem dX10_isPerson_22 : decode cX10_isPerson 22 = .ok (.ireturn, 1) := by decide +kernel
theorem dX10_isDuty_0 : decode cX10_isDuty 0 = .ok (.aload_n 0, 1) := by decide +kernel
theorem dX10_isDuty_1 : decode cX10_isDuty 1 = .ok (.iload_n 1, 1) := by decide +kernel
theorem dX10_isDuty_2 : decode cX10_isDuty 2 = .ok (.ifCond .lt 15, 3) := by decide +kernel
theorem dX10_isDuty_5 : decode cX10_isDuty 5 = .ok (.iload_n 1, 1) := by decide +kernel
theorem dX10_isDuty_6 : decode cX10_isDuty 6 = .ok (.aload_n 0, 1) := by decide +kernel
theorem dX10_isDuty_7 : decode cX10_isDuty 7 = .ok (.getfield 281, 3) := by decide +kernel
theorem dX10_isDuty_10 : decode cX10_isDuty 10 = .ok (.if_icmp .ge 7, 3) := by decide +kernel
theorem dX10_isDuty_13 : decode cX10_isDuty 13 = .ok (.iconst 1, 1) := by decide +kernel
theorem dX10_isDuty_14 : decode cX10_isDuty 14 = .ok (.goto 4, 3) := by decide +kernel
theorem dX10_isDuty_17 : decode cX10_isDuty 17 = .ok (.iconst 0, 1) := by decide +kernel
theorem dX10_isDuty_18 : decode cX10_isDuty 18 = .ok (.iconst 1, 1) := by decide +kernel
theorem dX10_isDuty_19 : decode cX10_isDuty 19 = .ok (.invokevirtual 271, 3) := by decide +kernel
theorem dX10_isDuty_22 : decode cX10_isDuty 22 = .ok (.ireturn, 1) := by decide +kernel
theorem dX10_isWhat_0 : decode cX10_isWhat 0 = .ok (.aload_n 0, 1) := by decide +kernel
theorem dX10_isWhat_1 : decode cX10_isWhat 1 = .ok (.iload_n 1, 1) := by decide +kernel
theorem dX10_isWhat_2 : decode cX10_isWhat 2 = .ok (.iconst 0, 1) := by decide +kernel
theorem dX10_isWhat_3 : decode cX10_isWhat 3 = .ok (.iload_n 2, 1) := by decide +kernel
theorem dX10_isWhat_4 : decode cX10_isWhat 4 = .ok (.invokestatic 361, 3) := by decide +kernel
theorem dX10_isWhat_7 : decode cX10_isWhat 7 = .ok (.iconst 1, 1) := by decide +kernel
theorem dX10_isWhat_8 : decode cX10_isWhat 8 = .ok (.invokevirtual 271, 3) := by decide +kernel
theorem dX10_isWhat_11 : decode cX10_isWhat 11 = .ok (.ireturn, 1) := by decide +kernel
theorem dX10_isDays_0 : decode cX10_isDays 0 = .ok (.aload_n 0, 1) := by decide +kernel
theorem dX10_isDays_1 : decode cX10_isDays 1 = .ok (.iload_n 1, 1) := by decide +kernel
theorem dX10_isDays_2 : decode cX10_isDays 2 = .ok (.iload_n 2, 1) := by decide +kernel
theorem dX10_isDays_3 : decode cX10_isDays 3 = .ok (.bipush 40, 2) := by decide +kernel
theorem dX10_isDays_5 : decode cX10_isDays 5 = .ok (.invokestatic 361, 3) := by decide +kernel
theorem dX10_isDays_8 : decode cX10_isDays 8 = .ok (.iload_n 3, 1) := by decide +kernel
theorem dX10_isDays_9 : decode cX10_isDays 9 = .ok (.invokevirtual 271, 3) := by decide +kernel
theorem dX10_isDays_12 : decode cX10_isDays 12 = .ok (.ireturn, 1) := by decide +kernel
theorem dX10_doesCount_0 : decode cX10_doesCount 0 = .ok (.aload_n 0, 1) := by decide +kernel
theorem dX10_doesCount_1 : decode cX10_doesCount 1 = .ok (.getfield 19, 3) := by decide +kernel
theorem dX10_doesCount_4 : decode cX10_doesCount 4 = .ok (.iload_n 1, 1) := by decide +kernel
theorem dX10_doesCount_5 : decode cX10_doesCount 5 = .ok (.iaload, 1) := by decide +kernel
theorem dX10_doesCount_6 : decode cX10_doesCount 6 = .ok (.iconst 1, 1) := by decide +kernel
theorem dX10_doesCount_7 : decode cX10_doesCount 7 = .ok (.if_icmp .eq 17, 3) := by decide +kernel
theorem dX10_doesCount_10 : decode cX10_doesCount 10 = .ok (.aload_n 0, 1) := by decide +kernel
theorem dX10_doesCount_11 : decode cX10_doesCount 11 = .ok (.getfield 19, 3) := by decide +kernel
theorem dX10_doesCount_14 : decode cX10_doesCount 14 = .ok (.iload_n 1, 1) := by decide +kernel
theorem dX10_doesCount_15 : decode cX10_doesCount 15 = .ok (.iaload, 1) := by decide +kernel
theorem dX10_doesCount_16 : decode cX10_doesCount 16 = .ok (.iconst 2, 1) := by decide +kernel
theorem dX10_doesCount_17 : decode cX10_doesCount 17 = .ok (.if_icmp .eq 7, 3) := by decide +kernel
theorem dX10_doesCount_20 : decode cX10_doesCount 20 = .ok (.iconst 1, 1) := by decide +kernel
theorem dX10_doesCount_21 : decode cX10_doesCount 21 = .ok (.goto 4, 3) := by decide +kernel
theorem dX10_doesCount_24 : decode cX10_doesCount 24 = .ok (.iconst 0, 1) := by decide +kernel
theorem dX10_doesCount_25 : decode cX10_doesCount 25 = .ok (.ireturn, 1) := by decide +kernel
theorem dX10_slowestOf_0 : decode cX10_slowestOf 0 = .ok (.iconst (-1), 1) := by decide +kernel
theorem dX10_slowestOf_1 : decode cX10_slowestOf 1 = .ok (.istore_n 2, 1) := by decide +kernel
theorem dX10_slowestOf_2 : decode cX10_slowestOf 2 = .ok (.iconst 0, 1) := by decide +kernel
theorem dX10_slowestOf_3 : decode cX10_slowestOf 3 = .ok (.istore_n 3, 1) := by decide +kernel
theorem dX10_slowestOf_4 : decode cX10_slowestOf 4 = .ok (.iload_n 3, 1) := by decide +kernel
theorem dX10_slowestOf_5 : decode cX10_slowestOf 5 = .ok (.aload_n 0, 1) := by decide +kernel
theorem dX10_slowestOf_6 : decode cX10_slowestOf 6 = .ok (.getfield 278, 3) := by decide +kernel
theorem dX10_slowestOf_9 : decode cX10_slowestOf 9 = .ok (.if_icmp .ge 41, 3) := by decide +kernel
theorem dX10_slowestOf_12 : decode cX10_slowestOf 12 = .ok (.aload_n 0, 1) := by decide +kernel
theorem dX10_slowestOf_13 : decode cX10_slowestOf 13 = .ok (.iload_n 3, 1) := by decide +kernel
theorem dX10_slowestOf_14 : decode cX10_slowestOf 14 = .ok (.invokevirtual 367, 3) := by decide +kernel
theorem dX10_slowestOf_17 : decode cX10_slowestOf 17 = .ok (.ifCond .eq 27, 3) := by decide +kernel
theorem dX10_slowestOf_20 : decode cX10_slowestOf 20 = .ok (.iload_n 2, 1) := by decide +kernel
theorem dX10_slowestOf_21 : decode cX10_slowestOf 21 = .ok (.iconst (-1), 1) := by decide +kernel
theorem dX10_slowestOf_22 : decode cX10_slowestOf 22 = .ok (.if_icmp .eq 20, 3) := by decide +kernel
theorem dX10_slowestOf_25 : decode cX10_slowestOf 25 = .ok (.aload_n 0, 1) := by decide +kernel
theorem dX10_slowestOf_26 : decode cX10_slowestOf 26 = .ok (.iconst 0, 1) := by decide +kernel
theorem dX10_slowestOf_27 : decode cX10_slowestOf 27 = .ok (.iload_n 3, 1) := by decide +kernel
theorem dX10_slowestOf_28 : decode cX10_slowestOf 28 = .ok (.iload_n 1, 1) := by decide +kernel
theorem dX10_slowestOf_29 : decode cX10_slowestOf 29 = .ok (.invokevirtual 315, 3) := by decide +kernel
theorem dX10_slowestOf_32 : decode cX10_slowestOf 32 = .ok (.aload_n 0, 1) := by decide +kernel
theorem dX10_slowestOf_33 : decode cX10_slowestOf 33 = .ok (.iconst 0, 1) := by decide +kernel
theorem dX10_slowestOf_34 : decode cX10_slowestOf 34 = .ok (.iload_n 2, 1) := by decide +kernel
theorem dX10_slowestOf_35 : decode cX10_slowestOf 35 = .ok (.iload_n 1, 1) := by decide +kernel
theorem dX10_slowestOf_36 : decode cX10_slowestOf 36 = .ok (.invokevirtual 315, 3) := by decide +kernel
theorem dX10_slowestOf_39 : decode cX10_slowestOf 39 = .ok (.if_icmp .le 5, 3) := by decide +kernel
theorem dX10_slowestOf_42 : decode cX10_slowestOf 42 = .ok (.iload_n 3, 1) := by decide +kernel
theorem dX10_slowestOf_43 : decode cX10_slowestOf 43 = .ok (.istore_n 2, 1) := by decide +kernel
theorem dX10_slowestOf_44 : decode cX10_slowestOf 44 = .ok (.iinc 3 1, 3) := by decide +kernel
theorem dX10_slowestOf_47 : decode cX10_slowestOf 47 = .ok (.goto (-43), 3) := by decide +kernel
theorem dX10_slowestOf_50 : decode cX10_slowestOf 50 = .ok (.iload_n 2, 1) := by decide +kernel
theorem dX10_slowestOf_51 : decode cX10_slowestOf 51 = .ok (.ireturn, 1) := by decide +kernel
theorem dX10_person_0 : decode cX10_person 0 = .ok (.aload_n 0, 1) := by decide +kernel
theorem dX10_person_1 : decode cX10_person 1 = .ok (.iconst 0, 1) := by decide +kernel
theorem dX10_person_2 : decode cX10_person 2 = .ok (.putfield 120, 3) := by decide +kernel
theorem dX10_person_5 : decode cX10_person 5 = .ok (.aload_n 0, 1) := by decide +kernel
theorem dX10_person_6 : decode cX10_person 6 = .ok (.iload_n 1, 1) := by decide +kernel
theorem dX10_person_7 : decode cX10_person 7 = .ok (.invokevirtual 370, 3) := by decide +kernel
theorem dX10_person_10 : decode cX10_person 10 = .ok (.ifCond .eq 13, 3) := by decide +kernel
theorem dX10_person_13 : decode cX10_person 13 = .ok (.aload_n 0, 1) := by decide +kernel
theorem dX10_person_14 : decode cX10_person 14 = .ok (.iload_n 2, 1) := by decide +kernel
theorem dX10_person_15 : decode cX10_person 15 = .ok (.bipush 6, 2) := by decide +kernel
theorem dX10_person_17 : decode cX10_person 17 = .ok (.invokevirtual 373, 3) := by decide +kernel
theorem dX10_person_20 : decode cX10_person 20 = .ok (.ifCond .ne 5, 3) := by decide +kernel
theorem dX10_person_23 : decode cX10_person 23 = .ok (.iconst 0, 1) := by decide +kernel
theorem dX10_person_24 : decode cX10_person 24 = .ok (.ireturn, 1) := by decide +kernel
theorem dX10_person_25 : decode cX10_person 25 = .ok (.iload_n 2, 1) := by decide +kernel
theorem dX10_person_26 : decode cX10_person 26 = .ok (.tableswitch 88 0 5 #[38, 45, 54, 61, 71, 81], 38) := by decide +kernel
theorem dX10_person_64 : decode cX10_person 64 = .ok (.aload_n 0, 1) := by decide +kernel
theorem dX10_person_65 : decode cX10_person 65 = .ok (.getfield 23, 3) := by decide +kernel
theorem dX10_person_68 : decode cX10_person 68 = .ok (.iload_n 1, 1) := by decide +kernel
theorem dX10_person_69 : decode cX10_person 69 = .ok (.iaload, 1) := by decide +kernel
theorem dX10_person_70 : decode cX10_person 70 = .ok (.ireturn, 1) := by decide +kernel
theorem dX10_person_71 : decode cX10_person 71 = .ok (.aload_n 0, 1) := by decide +kernel
theorem dX10_person_72 : decode cX10_person 72 = .ok (.getfield 69, 3) := by decide +kernel
theorem dX10_person_75 : decode cX10_person 75 = .ok (.iconst 3, 1) := by decide +kernel
theorem dX10_person_76 : decode cX10_person 76 = .ok (.iload_n 1, 1) := by decide +kernel
theorem dX10_person_77 : decode cX10_person 77 = .ok (.iadd, 1) := by decide +kernel
theorem dX10_person_78 : decode cX10_person 78 = .ok (.iaload, 1) := by decide +kernel
theorem dX10_person_79 : decode cX10_person 79 = .ok (.ireturn, 1) := by decide +kernel
theorem dX10_person_80 : decode cX10_person 80 = .ok (.aload_n 0, 1) := by decide +kernel
theorem dX10_person_81 : decode cX10_person 81 = .ok (.getfield 26, 3) := by decide +kernel
theorem dX10_person_84 : decode cX10_person 84 = .ok (.iload_n 1, 1) := by decide +kernel
theorem dX10_person_85 : decode cX10_person 85 = .ok (.iaload, 1) := by decide +kernel
theorem dX10_person_86 : decode cX10_person 86 = .ok (.ireturn, 1) := by decide +kernel
theorem dX10_person_87 : decode cX10_person 87 = .ok (.aload_n 0, 1) := by decide +kernel
theorem dX10_person_88 : decode cX10_person 88 = .ok (.getfield 69, 3) := by decide +kernel
theorem dX10_person_91 : decode cX10_person 91 = .ok (.bipush 11, 2) := by decide +kernel
theorem dX10_person_93 : decode cX10_person 93 = .ok (.iload_n 1, 1) := by decide +kernel
theorem dX10_person_94 : decode cX10_person 94 = .ok (.iadd, 1) := by decide +kernel
theorem dX10_person_95 : decode cX10_person 95 = .ok (.iaload, 1) := by decide +kernel
theorem dX10_person_96 : decode cX10_person 96 = .ok (.ireturn, 1) := by decide +kernel
theorem dX10_person_97 : decode cX10_person 97 = .ok (.aload_n 0, 1) := by decide +kernel
theorem dX10_person_98 : decode cX10_person 98 = .ok (.getfield 69, 3) := by decide +kernel
theorem dX10_person_101 : decode cX10_person 101 = .ok (.bipush 19, 2) := by decide +kernel
theorem dX10_person_103 : decode cX10_person 103 = .ok (.iload_n 1, 1) := by decide +kernel
theorem dX10_person_104 : decode cX10_person 104 = .ok (.iadd, 1) := by decide +kernel
theorem dX10_person_105 : decode cX10_person 105 = .ok (.iaload, 1) := by decide +kernel
theorem dX10_person_106 : decode cX10_person 106 = .ok (.ireturn, 1) := by decide +kernel
theorem dX10_person_107 : decode cX10_person 107 = .ok (.aload_n 0, 1) := by decide +kernel
theorem dX10_person_108 : decode cX10_person 108 = .ok (.getfield 19, 3) := by decide +kernel
theorem dX10_person_111 : decode cX10_person 111 = .ok (.iload_n 1, 1) := by decide +kernel
theorem dX10_person_112 : decode cX10_person 112 = .ok (.iaload, 1) := by decide +kernel
theorem dX10_person_113 : decode cX10_person 113 = .ok (.ireturn, 1) := by decide +kernel
theorem dX10_person_114 : decode cX10_person 114 = .ok (.aload_n 0, 1) := by decide +kernel
theorem dX10_person_115 : decode cX10_person 115 = .ok (.getfield 69, 3) := by decide +kernel
theorem dX10_person_118 : decode cX10_person 118 = .ok (.iconst 2, 1) := by decide +kernel
theorem dX10_person_119 : decode cX10_person 119 = .ok (.iaload, 1) := by decide +kernel
theorem dX10_person_120 : decode cX10_person 120 = .ok (.iload_n 1, 1) := by decide +kernel
theorem dX10_person_121 : decode cX10_person 121 = .ok (.ishr, 1) := by decide +kernel
theorem dX10_person_122 : decode cX10_person 122 = .ok (.iconst 1, 1) := by decide +kernel
theorem dX10_person_123 : decode cX10_person 123 = .ok (.iand, 1) := by decide +kernel
theorem dX10_person_124 : decode cX10_person 124 = .ok (.ireturn, 1) := by decide +kernel
theorem dX10_duty_0 : decode cX10_duty 0 = .ok (.aload_n 0, 1) := by decide +kernel
theorem dX10_duty_1 : decode cX10_duty 1 = .ok (.iconst 0, 1) := by decide +kernel
theorem dX10_duty_2 : decode cX10_duty 2 = .ok (.putfield 120, 3) := by decide +kernel
theorem dX10_duty_5 : decode cX10_duty 5 = .ok (.aload_n 0, 1) := by decide +kernel
theorem dX10_duty_6 : decode cX10_duty 6 = .ok (.iload_n 1, 1) := by decide +kernel
theorem dX10_duty_7 : decode cX10_duty 7 = .ok (.invokevirtual 376, 3) := by decide +kernel
theorem dX10_duty_10 : decode cX10_duty 10 = .ok (.ifCond .eq 12, 3) := by decide +kernel
theorem dX10_duty_13 : decode cX10_duty 13 = .ok (.aload_n 0, 1) := by decide +kernel
theorem dX10_duty_14 : decode cX10_duty 14 = .ok (.iload_n 2, 1) := by decide +kernel
theorem dX10_duty_15 : decode cX10_duty 15 = .ok (.iconst 2, 1) := by decide +kernel
theorem dX10_duty_16 : decode cX10_duty 16 = .ok (.invokevirtual 373, 3) := by decide +kernel
theorem dX10_duty_19 : decode cX10_duty 19 = .ok (.ifCond .ne 5, 3) := by decide +kernel
theorem dX10_duty_22 : decode cX10_duty 22 = .ok (.iconst 0, 1) := by decide +kernel
theorem dX10_duty_23 : decode cX10_duty 23 = .ok (.ireturn, 1) := by decide +kernel
theorem dX10_duty_24 : decode cX10_duty 24 = .ok (.iload_n 2, 1) := by decide +kernel
theorem dX10_duty_25 : decode cX10_duty 25 = .ok (.ifCond .ne 15, 3) := by decide +kernel
theorem dX10_duty_28 : decode cX10_duty 28 = .ok (.aload_n 0, 1) := by decide +kernel
theorem dX10_duty_29 : decode cX10_duty 29 = .ok (.getfield 69, 3) := by decide +kernel
theorem dX10_duty_32 : decode cX10_duty 32 = .ok (.bipush 27, 2) := by decide +kernel
theorem dX10_duty_34 : decode cX10_duty 34 = .ok (.iload_n 1, 1) := by decide +kernel
theorem dX10_duty_35 : decode cX10_duty 35 = .ok (.iadd, 1) := by decide +kernel
theorem dX10_duty_36 : decode cX10_duty 36 = .ok (.iaload, 1) := by decide +kernel
theorem dX10_duty_37 : decode cX10_duty 37 = .ok (.goto 22, 3) := by decide +kernel
theorem dX10_duty_40 : decode cX10_duty 40 = .ok (.iload_n 2, 1) := by decide +kernel
theorem dX10_duty_41 : decode cX10_duty 41 = .ok (.iconst 1, 1) := by decide +kernel
theorem dX10_duty_42 : decode cX10_duty 42 = .ok (.if_icmp .ne 12, 3) := by decide +kernel
theorem dX10_duty_45 : decode cX10_duty 45 = .ok (.aload_n 0, 1) := by decide +kernel
theorem dX10_duty_46 : decode cX10_duty 46 = .ok (.getfield 29, 3) := by decide +kernel
theorem dX10_duty_49 : decode cX10_duty 49 = .ok (.iload_n 1, 1) := by decide +kernel
theorem dX10_duty_50 : decode cX10_duty 50 = .ok (.iaload, 1) := by decide +kernel
theorem dX10_duty_51 : decode cX10_duty 51 = .ok (.goto 8, 3) := by decide +kernel
theorem dX10_duty_54 : decode cX10_duty 54 = .ok (.aload_n 0, 1) := by decide +kernel
theorem dX10_duty_55 : decode cX10_duty 55 = .ok (.iload_n 1, 1) := by decide +kernel
theorem dX10_duty_56 : decode cX10_duty 56 = .ok (.invokevirtual 379, 3) := by decide +kernel
theorem dX10_duty_59 : decode cX10_duty 59 = .ok (.ireturn, 1) := by decide +kernel
theorem dX10_days_0 : decode cX10_days 0 = .ok (.aload_n 0, 1) := by decide +kernel
theorem dX10_days_1 : decode cX10_days 1 = .ok (.iconst 0, 1) := by decide +kernel
theorem dX10_days_2 : decode cX10_days 2 = .ok (.putfield 120, 3) := by decide +kernel
theorem dX10_days_5 : decode cX10_days 5 = .ok (.iload_n 1, 1) := by decide +kernel
theorem dX10_days_6 : decode cX10_days 6 = .ok (.iconst 1, 1) := by decide +kernel
theorem dX10_days_7 : decode cX10_days 7 = .ok (.bipush 20, 2) := by decide +kernel
theorem dX10_days_9 : decode cX10_days 9 = .ok (.invokestatic 361, 3) := by decide +kernel
theorem dX10_days_12 : decode cX10_days 12 = .ok (.ifCond .eq 17, 3) := by decide +kernel
theorem dX10_days_15 : decode cX10_days 15 = .ok (.aload_n 0, 1) := by decide +kernel
theorem dX10_days_16 : decode cX10_days 16 = .ok (.getfield 69, 3) := by decide +kernel
theorem dX10_days_19 : decode cX10_days 19 = .ok (.iconst 0, 1) := by decide +kernel
theorem dX10_days_20 : decode cX10_days 20 = .ok (.iaload, 1) := by decide +kernel
theorem dX10_days_21 : decode cX10_days 21 = .ok (.iload_n 1, 1) := by decide +kernel
theorem dX10_days_22 : decode cX10_days 22 = .ok (.iadd, 1) := by decide +kernel
theorem dX10_days_23 : decode cX10_days 23 = .ok (.sipush 999, 3) := by decide +kernel
theorem dX10_days_26 : decode cX10_days 26 = .ok (.if_icmp .le 9, 3) := by decide +kernel
theorem dX10_days_29 : decode cX10_days 29 = .ok (.aload_n 0, 1) := by decide +kernel
theorem dX10_days_30 : decode cX10_days 30 = .ok (.iconst 1, 1) := by decide +kernel
theorem dX10_days_31 : decode cX10_days 31 = .ok (.invokevirtual 382, 3) := by decide +kernel
theorem dX10_days_34 : decode cX10_days 34 = .ok (.ireturn, 1) := by decide +kernel
theorem dX10_days_35 : decode cX10_days 35 = .ok (.aload_n 0, 1) := by decide +kernel
theorem dX10_days_36 : decode cX10_days 36 = .ok (.invokevirtual 385, 3) := by decide +kernel
theorem dX10_days_39 : decode cX10_days 39 = .ok (.iconst 0, 1) := by decide +kernel
theorem dX10_days_40 : decode cX10_days 40 = .ok (.istore_n 2, 1) := by decide +kernel
theorem dX10_days_41 : decode cX10_days 41 = .ok (.iload_n 2, 1) := by decide +kernel
theorem dX10_days_42 : decode cX10_days 42 = .ok (.iload_n 1, 1) := by decide +kernel
theorem dX10_days_43 : decode cX10_days 43 = .ok (.if_icmp .ge 14, 3) := by decide +kernel
theorem dX10_days_46 : decode cX10_days 46 = .ok (.aload_n 0, 1) := by decide +kernel
theorem dX10_days_47 : decode cX10_days 47 = .ok (.iconst 0, 1) := by decide +kernel
theorem dX10_days_48 : decode cX10_days 48 = .ok (.invokevirtual 358, 3) := by decide +kernel
theorem dX10_days_51 : decode cX10_days 51 = .ok (.iinc 2 1, 3) := by decide +kernel
theorem dX10_days_54 : decode cX10_days 54 = .ok (.goto (-13), 3) := by decide +kernel
theorem dX10_days_57 : decode cX10_days 57 = .ok (.aload_n 0, 1) := by decide +kernel
theorem dX10_days_58 : decode cX10_days 58 = .ok (.getfield 69, 3) := by decide +kernel
theorem dX10_days_61 : decode cX10_days 61 = .ok (.iconst 0, 1) := by decide +kernel
theorem dX10_days_62 : decode cX10_days 62 = .ok (.iaload, 1) := by decide +kernel
theorem dX10_days_63 : decode cX10_days 63 = .ok (.ireturn, 1) := by decide +kernel
theorem dX10_hurry_0 : decode cX10_hurry 0 = .ok (.aload_n 0, 1) := by decide +kernel
theorem dX10_hurry_1 : decode cX10_hurry 1 = .ok (.iconst 0, 1) := by decide +kernel
theorem dX10_hurry_2 : decode cX10_hurry 2 = .ok (.putfield 120, 3) := by decide +kernel
theorem dX10_hurry_5 : decode cX10_hurry 5 = .ok (.aload_n 0, 1) := by decide +kernel
theorem dX10_hurry_6 : decode cX10_hurry 6 = .ok (.iload_n 1, 1) := by decide +kernel
theorem dX10_hurry_7 : decode cX10_hurry 7 = .ok (.invokevirtual 370, 3) := by decide +kernel
theorem dX10_hurry_10 : decode cX10_hurry 10 = .ok (.ifCond .ne 5, 3) := by decide +kernel
theorem dX10_hurry_13 : decode cX10_hurry 13 = .ok (.iconst 0, 1) := by decide +kernel
theorem dX10_hurry_14 : decode cX10_hurry 14 = .ok (.ireturn, 1) := by decide +kernel
theorem dX10_hurry_15 : decode cX10_hurry 15 = .ok (.iload_n 2, 1) := by decide +kernel
theorem dX10_hurry_16 : decode cX10_hurry 16 = .ok (.iconst 0, 1) := by decide +kernel
theorem dX10_hurry_17 : decode cX10_hurry 17 = .ok (.bipush 60, 2) := by decide +kernel
theorem dX10_hurry_19 : decode cX10_hurry 19 = .ok (.invokestatic 361, 3) := by decide +kernel
theorem dX10_hurry_22 : decode cX10_hurry 22 = .ok (.ifCond .ne 9, 3) := by decide +kernel
theorem dX10_hurry_25 : decode cX10_hurry 25 = .ok (.aload_n 0, 1) := by decide +kernel
theorem dX10_hurry_26 : decode cX10_hurry 26 = .ok (.iconst 1, 1) := by decide +kernel
theorem dX10_hurry_27 : decode cX10_hurry 27 = .ok (.invokevirtual 382, 3) := by decide +kernel
theorem dX10_hurry_30 : decode cX10_hurry 30 = .ok (.ireturn, 1) := by decide +kernel
theorem dX10_hurry_31 : decode cX10_hurry 31 = .ok (.aload_n 0, 1) := by decide +kernel
theorem dX10_hurry_32 : decode cX10_hurry 32 = .ok (.invokevirtual 385, 3) := by decide +kernel
theorem dX10_hurry_35 : decode cX10_hurry 35 = .ok (.aload_n 0, 1) := by decide +kernel
theorem dX10_hurry_36 : decode cX10_hurry 36 = .ok (.getfield 69, 3) := by decide +kernel
theorem dX10_hurry_39 : decode cX10_hurry 39 = .ok (.iconst 3, 1) := by decide +kernel
theorem dX10_hurry_40 : decode cX10_hurry 40 = .ok (.iload_n 1, 1) := by decide +kernel
theorem dX10_hurry_41 : decode cX10_hurry 41 = .ok (.iadd, 1) := by decide +kernel
theorem dX10_hurry_42 : decode cX10_hurry 42 = .ok (.iaload, 1) := by decide +kernel
theorem dX10_hurry_43 : decode cX10_hurry 43 = .ok (.istore_n 3, 1) := by decide +kernel
theorem dX10_hurry_44 : decode cX10_hurry 44 = .ok (.aload_n 0, 1) := by decide +kernel
theorem dX10_hurry_45 : decode cX10_hurry 45 = .ok (.getfield 69, 3) := by decide +kernel
theorem dX10_hurry_48 : decode cX10_hurry 48 = .ok (.iconst 3, 1) := by decide +kernel
theorem dX10_hurry_49 : decode cX10_hurry 49 = .ok (.iload_n 1, 1) := by decide +kernel
theorem dX10_hurry_50 : decode cX10_hurry 50 = .ok (.iadd, 1) := by decide +kernel
theorem dX10_hurry_51 : decode cX10_hurry 51 = .ok (.iload_n 2, 1) := by decide +kernel
theorem dX10_hurry_52 : decode cX10_hurry 52 = .ok (.iastore, 1) := by decide +kernel
theorem dX10_hurry_53 : decode cX10_hurry 53 = .ok (.iload_n 3, 1) := by decide +kernel
theorem dX10_hurry_54 : decode cX10_hurry 54 = .ok (.ireturn, 1) := by decide +kernel
theorem dX10_ill_0 : decode cX10_ill 0 = .ok (.aload_n 0, 1) := by decide +kernel
theorem dX10_ill_1 : decode cX10_ill 1 = .ok (.iconst 0, 1) := by decide +kernel
theorem dX10_ill_2 : decode cX10_ill 2 = .ok (.putfield 120, 3) := by decide +kernel
theorem dX10_ill_5 : decode cX10_ill 5 = .ok (.aload_n 0, 1) := by decide +kernel
theorem dX10_ill_6 : decode cX10_ill 6 = .ok (.iload_n 1, 1) := by decide +kernel
theorem dX10_ill_7 : decode cX10_ill 7 = .ok (.invokevirtual 370, 3) := by decide +kernel
theorem dX10_ill_10 : decode cX10_ill 10 = .ok (.ifCond .ne 5, 3) := by decide +kernel
theorem dX10_ill_13 : decode cX10_ill 13 = .ok (.iconst 0, 1) := by decide +kernel
theorem dX10_ill_14 : decode cX10_ill 14 = .ok (.ireturn, 1) := by decide +kernel
theorem dX10_ill_15 : decode cX10_ill 15 = .ok (.aload_n 0, 1) := by decide +kernel
theorem dX10_ill_16 : decode cX10_ill 16 = .ok (.getfield 69, 3) := by decide +kernel
theorem dX10_ill_19 : decode cX10_ill 19 = .ok (.iconst 2, 1) := by decide +kernel
theorem dX10_ill_20 : decode cX10_ill 20 = .ok (.iaload, 1) := by decide +kernel
theorem dX10_ill_21 : decode cX10_ill 21 = .ok (.iload_n 1, 1) := by decide +kernel
theorem dX10_ill_22 : decode cX10_ill 22 = .ok (.ishr, 1) := by decide +kernel
theorem dX10_ill_23 : decode cX10_ill 23 = .ok (.iconst 1, 1) := by decide +kernel
theorem dX10_ill_24 : decode cX10_ill 24 = .ok (.iand, 1) := by decide +kernel
theorem dX10_ill_25 : decode cX10_ill 25 = .ok (.iconst 1, 1) := by decide +kernel
theorem dX10_ill_26 : decode cX10_ill 26 = .ok (.if_icmp .ne 7, 3) := by decide +kernel
theorem dX10_ill_29 : decode cX10_ill 29 = .ok (.iconst 1, 1) := by decide +kernel
theorem dX10_ill_30 : decode cX10_ill 30 = .ok (.goto 4, 3) := by decide +kernel
theorem dX10_ill_33 : decode cX10_ill 33 = .ok (.iconst 0, 1) := by decide +kernel
theorem dX10_ill_34 : decode cX10_ill 34 = .ok (.iload_n 2, 1) := by decide +kernel
theorem dX10_ill_35 : decode cX10_ill 35 = .ok (.if_icmp .ne 17, 3) := by decide +kernel
theorem dX10_ill_38 : decode cX10_ill 38 = .ok (.aload_n 0, 1) := by decide +kernel
theorem dX10_ill_39 : decode cX10_ill 39 = .ok (.iconst 1, 1) := by decide +kernel
theorem dX10_ill_40 : decode cX10_ill 40 = .ok (.invokevirtual 382, 3) := by decide +kernel
theorem dX10_ill_43 : decode cX10_ill 43 = .ok (.ifCond .le 7, 3) := by decide +kernel
theorem dX10_ill_46 : decode cX10_ill 46 = .ok (.iconst 1, 1) := by decide +kernel
theorem dX10_ill_47 : decode cX10_ill 47 = .ok (.goto 4, 3) := by decide +kernel
theorem dX10_ill_50 : decode cX10_ill 50 = .ok (.iconst 0, 1) := by decide +kernel
theorem dX10_ill_51 : decode cX10_ill 51 = .ok (.ireturn, 1) := by decide +kernel
theorem dX10_ill_52 : decode cX10_ill 52 = .ok (.aload_n 0, 1) := by decide +kernel
theorem dX10_ill_53 : decode cX10_ill 53 = .ok (.invokevirtual 385, 3) := by decide +kernel
theorem dX10_ill_56 : decode cX10_ill 56 = .ok (.aload_n 0, 1) := by decide +kernel
theorem dX10_ill_57 : decode cX10_ill 57 = .ok (.getfield 69, 3) := by decide +kernel
theorem dX10_ill_60 : decode cX10_ill 60 = .ok (.iconst 2, 1) := by decide +kernel
theorem dX10_ill_61 : decode cX10_ill 61 = .ok (.dup2, 1) := by decide +kernel
theorem dX10_ill_62 : decode cX10_ill 62 = .ok (.iaload, 1) := by decide +kernel
theorem dX10_ill_63 : decode cX10_ill 63 = .ok (.iconst 1, 1) := by decide +kernel
theorem dX10_ill_64 : decode cX10_ill 64 = .ok (.iload_n 1, 1) := by decide +kernel
theorem dX10_ill_65 : decode cX10_ill 65 = .ok (.ishl, 1) := by decide +kernel
theorem dX10_ill_66 : decode cX10_ill 66 = .ok (.ixor, 1) := by decide +kernel
theorem dX10_ill_67 : decode cX10_ill 67 = .ok (.iastore, 1) := by decide +kernel
theorem dX10_ill_68 : decode cX10_ill 68 = .ok (.iconst 1, 1) := by decide +kernel
theorem dX10_ill_69 : decode cX10_ill 69 = .ok (.ireturn, 1) := by decide +kernel
theorem dX10_appoint_0 : decode cX10_appoint 0 = .ok (.aload_n 0, 1) := by decide +kernel
theorem dX10_appoint_1 : decode cX10_appoint 1 = .ok (.iconst 0, 1) := by decide +kernel
theorem dX10_appoint_2 : decode cX10_appoint 2 = .ok (.putfield 120, 3) := by decide +kernel
theorem dX10_appoint_5 : decode cX10_appoint 5 = .ok (.aload_n 0, 1) := by decide +kernel
theorem dX10_appoint_6 : decode cX10_appoint 6 = .ok (.iload_n 1, 1) := by decide +kernel
theorem dX10_appoint_7 : decode cX10_appoint 7 = .ok (.invokevirtual 370, 3) := by decide +kernel
theorem dX10_appoint_10 : decode cX10_appoint 10 = .ok (.ifCond .ne 5, 3) := by decide +kernel
theorem dX10_appoint_13 : decode cX10_appoint 13 = .ok (.iconst 0, 1) := by decide +kernel
theorem dX10_appoint_14 : decode cX10_appoint 14 = .ok (.ireturn, 1) := by decide +kernel
theorem dX10_appoint_15 : decode cX10_appoint 15 = .ok (.aload_n 0, 1) := by decide +kernel
theorem dX10_appoint_16 : decode cX10_appoint 16 = .ok (.getfield 69, 3) := by decide +kernel
theorem dX10_appoint_19 : decode cX10_appoint 19 = .ok (.iconst 1, 1) := by decide +kernel
theorem dX10_appoint_20 : decode cX10_appoint 20 = .ok (.iaload, 1) := by decide +kernel
theorem dX10_appoint_21 : decode cX10_appoint 21 = .ok (.istore_n 2, 1) := by decide +kernel
theorem dX10_appoint_22 : decode cX10_appoint 22 = .ok (.iload_n 2, 1) := by decide +kernel
theorem dX10_appoint_23 : decode cX10_appoint 23 = .ok (.iload_n 1, 1) := by decide +kernel
theorem dX10_appoint_24 : decode cX10_appoint 24 = .ok (.if_icmp .eq 27, 3) := by decide +kernel
theorem dX10_appoint_27 : decode cX10_appoint 27 = .ok (.aload_n 0, 1) := by decide +kernel
theorem dX10_appoint_28 : decode cX10_appoint 28 = .ok (.getfield 19, 3) := by decide +kernel
theorem dX10_appoint_31 : decode cX10_appoint 31 = .ok (.iload_n 1, 1) := by decide +kernel
theorem dX10_appoint_32 : decode cX10_appoint 32 = .ok (.iaload, 1) := by decide +kernel
theorem dX10_appoint_33 : decode cX10_appoint 33 = .ok (.iconst 2, 1) := by decide +kernel
theorem dX10_appoint_34 : decode cX10_appoint 34 = .ok (.if_icmp .eq 17, 3) := by decide +kernel
theorem dX10_appoint_37 : decode cX10_appoint 37 = .ok (.aload_n 0, 1) := by decide +kernel
theorem dX10_appoint_38 : decode cX10_appoint 38 = .ok (.getfield 69, 3) := by decide +kernel
theorem dX10_appoint_41 : decode cX10_appoint 41 = .ok (.iconst 2, 1) := by decide +kernel
theorem dX10_appoint_42 : decode cX10_appoint 42 = .ok (.iaload, 1) := by decide +kernel
theorem dX10_appoint_43 : decode cX10_appoint 43 = .ok (.iload_n 1, 1) := by decide +kernel
theorem dX10_appoint_44 : decode cX10_appoint 44 = .ok (.ishr, 1) := by decide +kernel
theorem dX10_appoint_45 : decode cX10_appoint 45 = .ok (.iconst 1, 1) := by decide +kernel
theorem dX10_appoint_46 : decode cX10_appoint 46 = .ok (.iand, 1) := by decide +kernel
theorem dX10_appoint_47 : decode cX10_appoint 47 = .ok (.iconst 1, 1) := by decide +kernel
theorem dX10_appoint_48 : decode cX10_appoint 48 = .ok (.if_icmp .ne 11, 3) := by decide +kernel
theorem dX10_appoint_51 : decode cX10_appoint 51 = .ok (.aload_n 0, 1) := by decide +kernel
theorem dX10_appoint_52 : decode cX10_appoint 52 = .ok (.iconst 1, 1) := by decide +kernel
theorem dX10_appoint_53 : decode cX10_appoint 53 = .ok (.invokevirtual 382, 3) := by decide +kernel
theorem dX10_appoint_56 : decode cX10_appoint 56 = .ok (.iconst 1, 1) := by decide +kernel
theorem dX10_appoint_57 : decode cX10_appoint 57 = .ok (.isub, 1) := by decide +kernel
theorem dX10_appoint_58 : decode cX10_appoint 58 = .ok (.ireturn, 1) := by decide +kernel
theorem dX10_appoint_59 : decode cX10_appoint 59 = .ok (.aload_n 0, 1) := by decide +kernel
theorem dX10_appoint_60 : decode cX10_appoint 60 = .ok (.invokevirtual 385, 3) := by decide +kernel
theorem dX10_appoint_63 : decode cX10_appoint 63 = .ok (.aload_n 0, 1) := by decide +kernel
theorem dX10_appoint_64 : decode cX10_appoint 64 = .ok (.getfield 69, 3) := by decide +kernel
theorem dX10_appoint_67 : decode cX10_appoint 67 = .ok (.iconst 1, 1) := by decide +kernel
theorem dX10_appoint_68 : decode cX10_appoint 68 = .ok (.iload_n 1, 1) := by decide +kernel
theorem dX10_appoint_69 : decode cX10_appoint 69 = .ok (.iastore, 1) := by decide +kernel
theorem dX10_appoint_70 : decode cX10_appoint 70 = .ok (.iload_n 2, 1) := by decide +kernel
theorem dX10_appoint_71 : decode cX10_appoint 71 = .ok (.ireturn, 1) := by decide +kernel
theorem dX10_due_0 : decode cX10_due 0 = .ok (.aload_n 0, 1) := by decide +kernel
theorem dX10_due_1 : decode cX10_due 1 = .ok (.iconst 0, 1) := by decide +kernel
theorem dX10_due_2 : decode cX10_due 2 = .ok (.putfield 120, 3) := by decide +kernel
theorem dX10_due_5 : decode cX10_due 5 = .ok (.aload_n 0, 1) := by decide +kernel
theorem dX10_due_6 : decode cX10_due 6 = .ok (.iload_n 1, 1) := by decide +kernel
theorem dX10_due_7 : decode cX10_due 7 = .ok (.invokevirtual 376, 3) := by decide +kernel
theorem dX10_due_10 : decode cX10_due 10 = .ok (.ifCond .ne 5, 3) := by decide +kernel
theorem dX10_due_13 : decode cX10_due 13 = .ok (.iconst 0, 1) := by decide +kernel
theorem dX10_due_14 : decode cX10_due 14 = .ok (.ireturn, 1) := by decide +kernel
theorem dX10_due_15 : decode cX10_due 15 = .ok (.iload_n 2, 1) := by decide +kernel
theorem dX10_due_16 : decode cX10_due 16 = .ok (.iconst 0, 1) := by decide +kernel
theorem dX10_due_17 : decode cX10_due 17 = .ok (.sipush 999, 3) := by decide +kernel
theorem dX10_due_20 : decode cX10_due 20 = .ok (.invokestatic 361, 3) := by decide +kernel
theorem dX10_due_23 : decode cX10_due 23 = .ok (.ifCond .ne 9, 3) := by decide +kernel
theorem dX10_due_26 : decode cX10_due 26 = .ok (.aload_n 0, 1) := by decide +kernel
theorem dX10_due_27 : decode cX10_due 27 = .ok (.iconst 1, 1) := by decide +kernel
theorem dX10_due_28 : decode cX10_due 28 = .ok (.invokevirtual 382, 3) := by decide +kernel
theorem dX10_due_31 : decode cX10_due 31 = .ok (.ireturn, 1) := by decide +kernel
theorem dX10_due_32 : decode cX10_due 32 = .ok (.aload_n 0, 1) := by decide +kernel
theorem dX10_due_33 : decode cX10_due 33 = .ok (.invokevirtual 385, 3) := by decide +kernel
theorem dX10_due_36 : decode cX10_due 36 = .ok (.aload_n 0, 1) := by decide +kernel
theorem dX10_due_37 : decode cX10_due 37 = .ok (.getfield 69, 3) := by decide +kernel
theorem dX10_due_40 : decode cX10_due 40 = .ok (.bipush 27, 2) := by decide +kernel
theorem dX10_due_42 : decode cX10_due 42 = .ok (.iload_n 1, 1) := by decide +kernel
theorem dX10_due_43 : decode cX10_due 43 = .ok (.iadd, 1) := by decide +kernel
theorem dX10_due_44 : decode cX10_due 44 = .ok (.iaload, 1) := by decide +kernel
theorem dX10_due_45 : decode cX10_due 45 = .ok (.istore_n 3, 1) := by decide +kernel
theorem dX10_due_46 : decode cX10_due 46 = .ok (.aload_n 0, 1) := by decide +kernel
theorem dX10_due_47 : decode cX10_due 47 = .ok (.getfield 69, 3) := by decide +kernel
theorem dX10_due_50 : decode cX10_due 50 = .ok (.bipush 27, 2) := by decide +kernel
theorem dX10_due_52 : decode cX10_due 52 = .ok (.iload_n 1, 1) := by decide +kernel
theorem dX10_due_53 : decode cX10_due 53 = .ok (.iadd, 1) := by decide +kernel
theorem dX10_due_54 : decode cX10_due 54 = .ok (.iload_n 2, 1) := by decide +kernel
theorem dX10_due_55 : decode cX10_due 55 = .ok (.iastore, 1) := by decide +kernel
theorem dX10_due_56 : decode cX10_due 56 = .ok (.iload_n 3, 1) := by decide +kernel
theorem dX10_due_57 : decode cX10_due 57 = .ok (.ireturn, 1) := by decide +kernel
theorem dX10_goesTo_0 : decode cX10_goesTo 0 = .ok (.aload_n 0, 1) := by decide +kernel
theorem dX10_goesTo_1 : decode cX10_goesTo 1 = .ok (.invokevirtual 388, 3) := by decide +kernel
theorem dX10_goesTo_4 : decode cX10_goesTo 4 = .ok (.aload_n 0, 1) := by decide +kernel
theorem dX10_goesTo_5 : decode cX10_goesTo 5 = .ok (.iload_n 1, 1) := by decide +kernel
theorem dX10_goesTo_6 : decode cX10_goesTo 6 = .ok (.invokevirtual 391, 3) := by decide +kernel
theorem dX10_goesTo_9 : decode cX10_goesTo 9 = .ok (.return_, 1) := by decide +kernel
theorem dX10_then_0 : decode cX10_then 0 = .ok (.aload_n 0, 1) := by decide +kernel
theorem dX10_then_1 : decode cX10_then 1 = .ok (.iconst 0, 1) := by decide +kernel
theorem dX10_then_2 : decode cX10_then 2 = .ok (.putfield 120, 3) := by decide +kernel
theorem dX10_then_5 : decode cX10_then 5 = .ok (.aload_n 0, 1) := by decide +kernel
theorem dX10_then_6 : decode cX10_then 6 = .ok (.iload_n 1, 1) := by decide +kernel
theorem dX10_then_7 : decode cX10_then 7 = .ok (.invokevirtual 376, 3) := by decide +kernel
theorem dX10_then_10 : decode cX10_then 10 = .ok (.ifCond .eq 22, 3) := by decide +kernel
theorem dX10_then_13 : decode cX10_then 13 = .ok (.aload_n 0, 1) := by decide +kernel
theorem dX10_then_14 : decode cX10_then 14 = .ok (.iload_n 3, 1) := by decide +kernel
theorem dX10_then_15 : decode cX10_then 15 = .ok (.iconst 1, 1) := by decide +kernel
theorem dX10_then_16 : decode cX10_then 16 = .ok (.invokevirtual 373, 3) := by decide +kernel
theorem dX10_then_19 : decode cX10_then 19 = .ok (.ifCond .eq 13, 3) := by decide +kernel
theorem dX10_then_22 : decode cX10_then 22 = .ok (.aload_n 0, 1) := by decide +kernel
theorem dX10_then_23 : decode cX10_then 23 = .ok (.iload_n 2, 1) := by decide +kernel
theorem dX10_then_24 : decode cX10_then 24 = .ok (.iconst 1, 1) := by decide +kernel
theorem dX10_then_25 : decode cX10_then 25 = .ok (.iconst 2, 1) := by decide +kernel
theorem dX10_then_26 : decode cX10_then 26 = .ok (.invokevirtual 394, 3) := by decide +kernel
theorem dX10_then_29 : decode cX10_then 29 = .ok (.ifCond .ne 5, 3) := by decide +kernel
theorem dX10_then_32 : decode cX10_then 32 = .ok (.iconst 0, 1) := by decide +kernel
theorem dX10_then_33 : decode cX10_then 33 = .ok (.ireturn, 1) := by decide +kernel
theorem dX10_then_34 : decode cX10_then 34 = .ok (.aload_n 0, 1) := by decide +kernel
theorem dX10_then_35 : decode cX10_then 35 = .ok (.iload_n 2, 1) := by decide +kernel
theorem dX10_then_36 : decode cX10_then 36 = .ok (.invokevirtual 397, 3) := by decide +kernel
theorem dX10_then_39 : decode cX10_then 39 = .ok (.iload_n 3, 1) := by decide +kernel
theorem dX10_then_40 : decode cX10_then 40 = .ok (.ifCond .ne 22, 3) := by decide +kernel
theorem dX10_then_43 : decode cX10_then 43 = .ok (.aload_n 0, 1) := by decide +kernel
theorem dX10_then_44 : decode cX10_then 44 = .ok (.getfield 69, 3) := by decide +kernel
theorem dX10_then_47 : decode cX10_then 47 = .ok (.bipush 27, 2) := by decide +kernel
theorem dX10_then_49 : decode cX10_then 49 = .ok (.iload_n 1, 1) := by decide +kernel
theorem dX10_then_50 : decode cX10_then 50 = .ok (.iadd, 1) := by decide +kernel
theorem dX10_then_51 : decode cX10_then 51 = .ok (.iaload, 1) := by decide +kernel
theorem dX10_then_52 : decode cX10_then 52 = .ok (.aload_n 0, 1) := by decide +kernel
theorem dX10_then_53 : decode cX10_then 53 = .ok (.getfield 81, 3) := by decide +kernel
theorem dX10_then_56 : decode cX10_then 56 = .ok (.iload_n 1, 1) := by decide +kernel
theorem dX10_then_57 : decode cX10_then 57 = .ok (.iaload, 1) := by decide +kernel
theorem dX10_then_58 : decode cX10_then 58 = .ok (.iadd, 1) := by decide +kernel
theorem dX10_then_59 : decode cX10_then 59 = .ok (.goto 9, 3) := by decide +kernel
theorem dX10_then_62 : decode cX10_then 62 = .ok (.aload_n 0, 1) := by decide +kernel
theorem dX10_then_63 : decode cX10_then 63 = .ok (.getfield 84, 3) := by decide +kernel
theorem dX10_then_66 : decode cX10_then 66 = .ok (.iload_n 1, 1) := by decide +kernel
theorem dX10_then_67 : decode cX10_then 67 = .ok (.iaload, 1) := by decide +kernel
theorem dX10_then_68 : decode cX10_then 68 = .ok (.ireturn, 1) := by decide +kernel
theorem dX10_later_0 : decode cX10_later 0 = .ok (.aload_n 0, 1) := by decide +kernel
theorem dX10_later_1 : decode cX10_later 1 = .ok (.iconst 0, 1) := by decide +kernel
theorem dX10_later_2 : decode cX10_later 2 = .ok (.putfield 120, 3) := by decide +kernel
theorem dX10_later_5 : decode cX10_later 5 = .ok (.aload_n 0, 1) := by decide +kernel
theorem dX10_later_6 : decode cX10_later 6 = .ok (.iload_n 1, 1) := by decide +kernel
theorem dX10_later_7 : decode cX10_later 7 = .ok (.invokevirtual 370, 3) := by decide +kernel
theorem dX10_later_10 : decode cX10_later 10 = .ok (.ifCond .eq 22, 3) := by decide +kernel
theorem dX10_later_13 : decode cX10_later 13 = .ok (.aload_n 0, 1) := by decide +kernel
theorem dX10_later_14 : decode cX10_later 14 = .ok (.iload_n 3, 1) := by decide +kernel
theorem dX10_later_15 : decode cX10_later 15 = .ok (.iconst 1, 1) := by decide +kernel
theorem dX10_later_16 : decode cX10_later 16 = .ok (.invokevirtual 373, 3) := by decide +kernel
theorem dX10_later_19 : decode cX10_later 19 = .ok (.ifCond .eq 13, 3) := by decide +kernel
theorem dX10_later_22 : decode cX10_later 22 = .ok (.aload_n 0, 1) := by decide +kernel
theorem dX10_later_23 : decode cX10_later 23 = .ok (.iload_n 2, 1) := by decide +kernel
theorem dX10_later_24 : decode cX10_later 24 = .ok (.iconst 0, 1) := by decide +kernel
theorem dX10_later_25 : decode cX10_later 25 = .ok (.iconst 2, 1) := by decide +kernel
theorem dX10_later_26 : decode cX10_later 26 = .ok (.invokevirtual 394, 3) := by decide +kernel
theorem dX10_later_29 : decode cX10_later 29 = .ok (.ifCond .ne 5, 3) := by decide +kernel
theorem dX10_later_32 : decode cX10_later 32 = .ok (.iconst 0, 1) := by decide +kernel
theorem dX10_later_33 : decode cX10_later 33 = .ok (.ireturn, 1) := by decide +kernel
theorem dX10_later_34 : decode cX10_later 34 = .ok (.aload_n 0, 1) := by decide +kernel
theorem dX10_later_35 : decode cX10_later 35 = .ok (.iload_n 2, 1) := by decide +kernel
theorem dX10_later_36 : decode cX10_later 36 = .ok (.invokevirtual 397, 3) := by decide +kernel
theorem dX10_later_39 : decode cX10_later 39 = .ok (.aload_n 0, 1) := by decide +kernel
theorem dX10_later_40 : decode cX10_later 40 = .ok (.getfield 69, 3) := by decide +kernel
theorem dX10_later_43 : decode cX10_later 43 = .ok (.bipush 33, 2) := by decide +kernel
theorem dX10_later_45 : decode cX10_later 45 = .ok (.iload_n 3, 1) := by decide +kernel
theorem dX10_later_46 : decode cX10_later 46 = .ok (.ifCond .ne 7, 3) := by decide +kernel
theorem dX10_later_49 : decode cX10_later 49 = .ok (.iconst 3, 1) := by decide +kernel
theorem dX10_later_50 : decode cX10_later 50 = .ok (.goto 5, 3) := by decide +kernel
theorem dX10_later_53 : decode cX10_later 53 = .ok (.bipush 19, 2) := by decide +kernel
theorem dX10_later_55 : decode cX10_later 55 = .ok (.iadd, 1) := by decide +kernel
theorem dX10_later_56 : decode cX10_later 56 = .ok (.iload_n 1, 1) := by decide +kernel
theorem dX10_later_57 : decode cX10_later 57 = .ok (.iadd, 1) := by decide +kernel
theorem dX10_later_58 : decode cX10_later 58 = .ok (.iaload, 1) := by decide +kernel
theorem dX10_later_59 : decode cX10_later 59 = .ok (.ireturn, 1) := by decide +kernel
theorem dX10_first_0 : decode cX10_first 0 = .ok (.aload_n 0, 1) := by decide +kernel
theorem dX10_first_1 : decode cX10_first 1 = .ok (.iconst 0, 1) := by decide +kernel
theorem dX10_first_2 : decode cX10_first 2 = .ok (.putfield 120, 3) := by decide +kernel
theorem dX10_first_5 : decode cX10_first 5 = .ok (.aload_n 0, 1) := by decide +kernel
theorem dX10_first_6 : decode cX10_first 6 = .ok (.iload_n 1, 1) := by decide +kernel
theorem dX10_first_7 : decode cX10_first 7 = .ok (.invokevirtual 370, 3) := by decide +kernel
theorem dX10_first_10 : decode cX10_first 10 = .ok (.ifCond .ne 5, 3) := by decide +kernel
theorem dX10_first_13 : decode cX10_first 13 = .ok (.iconst 0, 1) := by decide +kernel
theorem dX10_first_14 : decode cX10_first 14 = .ok (.ireturn, 1) := by decide +kernel
theorem dX10_first_15 : decode cX10_first 15 = .ok (.aload_n 0, 1) := by decide +kernel
theorem dX10_first_16 : decode cX10_first 16 = .ok (.invokevirtual 388, 3) := by decide +kernel
theorem dX10_first_19 : decode cX10_first 19 = .ok (.iconst 1, 1) := by decide +kernel
theorem dX10_first_20 : decode cX10_first 20 = .ok (.istore_n 2, 1) := by decide +kernel
theorem dX10_first_21 : decode cX10_first 21 = .ok (.iload_n 2, 1) := by decide +kernel
theorem dX10_first_22 : decode cX10_first 22 = .ok (.bipush 40, 2) := by decide +kernel
theorem dX10_first_24 : decode cX10_first 24 = .ok (.if_icmp .gt 29, 3) := by decide +kernel
theorem dX10_first_27 : decode cX10_first 27 = .ok (.aload_n 0, 1) := by decide +kernel
theorem dX10_first_28 : decode cX10_first 28 = .ok (.bipush 33, 2) := by decide +kernel
theorem dX10_first_30 : decode cX10_first 30 = .ok (.invokevirtual 358, 3) := by decide +kernel
theorem dX10_first_33 : decode cX10_first 33 = .ok (.aload_n 0, 1) := by decide +kernel
theorem dX10_first_34 : decode cX10_first 34 = .ok (.getfield 334, 3) := by decide +kernel
theorem dX10_first_37 : decode cX10_first 37 = .ok (.iload_n 1, 1) := by decide +kernel
theorem dX10_first_38 : decode cX10_first 38 = .ok (.ishr, 1) := by decide +kernel
theorem dX10_first_39 : decode cX10_first 39 = .ok (.iconst 1, 1) := by decide +kernel
theorem dX10_first_40 : decode cX10_first 40 = .ok (.iand, 1) := by decide +kernel
theorem dX10_first_41 : decode cX10_first 41 = .ok (.iconst 1, 1) := by decide +kernel
theorem dX10_first_42 : decode cX10_first 42 = .ok (.if_icmp .ne 5, 3) := by decide +kernel
theorem dX10_first_45 : decode cX10_first 45 = .ok (.iload_n 2, 1) := by decide +kernel
theorem dX10_first_46 : decode cX10_first 46 = .ok (.ireturn, 1) := by decide +kernel
theorem dX10_first_47 : decode cX10_first 47 = .ok (.iinc 2 1, 3) := by decide +kernel
theorem dX10_first_50 : decode cX10_first 50 = .ok (.goto (-29), 3) := by decide +kernel
theorem dX10_first_53 : decode cX10_first 53 = .ok (.iconst (-1), 1) := by decide +kernel
theorem dX10_first_54 : decode cX10_first 54 = .ok (.ireturn, 1) := by decide +kernel
theorem dX10_worst_0 : decode cX10_worst 0 = .ok (.aload_n 0, 1) := by decide +kernel
theorem dX10_worst_1 : decode cX10_worst 1 = .ok (.iconst 0, 1) := by decide +kernel
theorem dX10_worst_2 : decode cX10_worst 2 = .ok (.putfield 120, 3) := by decide +kernel
theorem dX10_worst_5 : decode cX10_worst 5 = .ok (.aload_n 0, 1) := by decide +kernel
theorem dX10_worst_6 : decode cX10_worst 6 = .ok (.iload_n 1, 1) := by decide +kernel
theorem dX10_worst_7 : decode cX10_worst 7 = .ok (.iconst 1, 1) := by decide +kernel
theorem dX10_worst_8 : decode cX10_worst 8 = .ok (.iconst 1, 1) := by decide +kernel
theorem dX10_worst_9 : decode cX10_worst 9 = .ok (.invokevirtual 394, 3) := by decide +kernel
theorem dX10_worst_12 : decode cX10_worst 12 = .ok (.ifCond .ne 5, 3) := by decide +kernel
theorem dX10_worst_15 : decode cX10_worst 15 = .ok (.iconst 0, 1) := by decide +kernel
theorem dX10_worst_16 : decode cX10_worst 16 = .ok (.ireturn, 1) := by decide +kernel
theorem dX10_worst_17 : decode cX10_worst 17 = .ok (.aload_n 0, 1) := by decide +kernel
theorem dX10_worst_18 : decode cX10_worst 18 = .ok (.iload_n 1, 1) := by decide +kernel
theorem dX10_worst_19 : decode cX10_worst 19 = .ok (.invokevirtual 397, 3) := by decide +kernel
theorem dX10_worst_22 : decode cX10_worst 22 = .ok (.iconst (-1), 1) := by decide +kernel
theorem dX10_worst_23 : decode cX10_worst 23 = .ok (.istore_n 2, 1) := by decide +kernel
theorem dX10_worst_24 : decode cX10_worst 24 = .ok (.iconst 0, 1) := by decide +kernel
theorem dX10_worst_25 : decode cX10_worst 25 = .ok (.istore_n 3, 1) := by decide +kernel
theorem dX10_worst_26 : decode cX10_worst 26 = .ok (.iload_n 3, 1) := by decide +kernel
theorem dX10_worst_27 : decode cX10_worst 27 = .ok (.aload_n 0, 1) := by decide +kernel
theorem dX10_worst_28 : decode cX10_worst 28 = .ok (.getfield 281, 3) := by decide +kernel
theorem dX10_worst_31 : decode cX10_worst 31 = .ok (.if_icmp .ge 31, 3) := by decide +kernel
theorem dX10_worst_34 : decode cX10_worst 34 = .ok (.iload_n 2, 1) := by decide +kernel
theorem dX10_worst_35 : decode cX10_worst 35 = .ok (.iconst (-1), 1) := by decide +kernel
theorem dX10_worst_36 : decode cX10_worst 36 = .ok (.if_icmp .eq 18, 3) := by decide +kernel
theorem dX10_worst_39 : decode cX10_worst 39 = .ok (.aload_n 0, 1) := by decide +kernel
theorem dX10_worst_40 : decode cX10_worst 40 = .ok (.getfield 81, 3) := by decide +kernel
theorem dX10_worst_43 : decode cX10_worst 43 = .ok (.iload_n 3, 1) := by decide +kernel
theorem dX10_worst_44 : decode cX10_worst 44 = .ok (.iaload, 1) := by decide +kernel
theorem dX10_worst_45 : decode cX10_worst 45 = .ok (.aload_n 0, 1) := by decide +kernel
theorem dX10_worst_46 : decode cX10_worst 46 = .ok (.getfield 81, 3) := by decide +kernel
theorem dX10_worst_49 : decode cX10_worst 49 = .ok (.iload_n 2, 1) := by decide +kernel
theorem dX10_worst_50 : decode cX10_worst 50 = .ok (.iaload, 1) := by decide +kernel
theorem dX10_worst_51 : decode cX10_worst 51 = .ok (.if_icmp .le 5, 3) := by decide +kernel
theorem dX10_worst_54 : decode cX10_worst 54 = .ok (.iload_n 3, 1) := by decide +kernel
theorem dX10_worst_55 : decode cX10_worst 55 = .ok (.istore_n 2, 1) := by decide +kernel
theorem dX10_worst_56 : decode cX10_worst 56 = .ok (.iinc 3 1, 3) := by decide +kernel
theorem dX10_worst_59 : decode cX10_worst 59 = .ok (.goto (-33), 3) := by decide +kernel
theorem dX10_worst_62 : decode cX10_worst 62 = .ok (.iload_n 2, 1) := by decide +kernel
theorem dX10_worst_63 : decode cX10_worst 63 = .ok (.ireturn, 1) := by decide +kernel
theorem dX10_rangIn_0 : decode cX10_rangIn 0 = .ok (.iconst 0, 1) := by decide +kernel
theorem dX10_rangIn_1 : decode cX10_rangIn 1 = .ok (.istore_n 2, 1) := by decide +kernel
theorem dX10_rangIn_2 : decode cX10_rangIn 2 = .ok (.aload_n 0, 1) := by decide +kernel
theorem dX10_rangIn_3 : decode cX10_rangIn 3 = .ok (.invokevirtual 388, 3) := by decide +kernel
theorem dX10_rangIn_6 : decode cX10_rangIn 6 = .ok (.iconst 0, 1) := by decide +kernel
theorem dX10_rangIn_7 : decode cX10_rangIn 7 = .ok (.istore_n 3, 1) := by decide +kernel
theorem dX10_rangIn_8 : decode cX10_rangIn 8 = .ok (.iload_n 3, 1) := by decide +kernel
theorem dX10_rangIn_9 : decode cX10_rangIn 9 = .ok (.iload_n 1, 1) := by decide +kernel
theorem dX10_rangIn_10 : decode cX10_rangIn 10 = .ok (.if_icmp .ge 22, 3) := by decide +kernel
theorem dX10_rangIn_13 : decode cX10_rangIn 13 = .ok (.aload_n 0, 1) := by decide +kernel
theorem dX10_rangIn_14 : decode cX10_rangIn 14 = .ok (.bipush 33, 2) := by decide +kernel
theorem dX10_rangIn_16 : decode cX10_rangIn 16 = .ok (.invokevirtual 358, 3) := by decide +kernel
theorem dX10_rangIn_19 : decode cX10_rangIn 19 = .ok (.iload_n 2, 1) := by decide +kernel
theorem dX10_rangIn_20 : decode cX10_rangIn 20 = .ok (.aload_n 0, 1) := by decide +kernel
theorem dX10_rangIn_21 : decode cX10_rangIn 21 = .ok (.getfield 334, 3) := by decide +kernel
theorem dX10_rangIn_24 : decode cX10_rangIn 24 = .ok (.ior, 1) := by decide +kernel
theorem dX10_rangIn_25 : decode cX10_rangIn 25 = .ok (.istore_n 2, 1) := by decide +kernel
theorem dX10_rangIn_26 : decode cX10_rangIn 26 = .ok (.iinc 3 1, 3) := by decide +kernel
theorem dX10_rangIn_29 : decode cX10_rangIn 29 = .ok (.goto (-21), 3) := by decide +kernel
theorem dX10_rangIn_32 : decode cX10_rangIn 32 = .ok (.iload_n 2, 1) := by decide +kernel
theorem dX10_rangIn_33 : decode cX10_rangIn 33 = .ok (.ireturn, 1) := by decide +kernel
theorem dX10_idle_0 : decode cX10_idle 0 = .ok (.aload_n 0, 1) := by decide +kernel
theorem dX10_idle_1 : decode cX10_idle 1 = .ok (.iconst 0, 1) := by decide +kernel
theorem dX10_idle_2 : decode cX10_idle 2 = .ok (.putfield 120, 3) := by decide +kernel
theorem dX10_idle_5 : decode cX10_idle 5 = .ok (.aload_n 0, 1) := by decide +kernel
theorem dX10_idle_6 : decode cX10_idle 6 = .ok (.iload_n 1, 1) := by decide +kernel
theorem dX10_idle_7 : decode cX10_idle 7 = .ok (.iconst 0, 1) := by decide +kernel
theorem dX10_idle_8 : decode cX10_idle 8 = .ok (.iconst 1, 1) := by decide +kernel
theorem dX10_idle_9 : decode cX10_idle 9 = .ok (.invokevirtual 394, 3) := by decide +kernel
theorem dX10_idle_12 : decode cX10_idle 12 = .ok (.ifCond .eq 22, 3) := by decide +kernel
theorem dX10_idle_15 : decode cX10_idle 15 = .ok (.iconst 1, 1) := by decide +kernel
theorem dX10_idle_16 : decode cX10_idle 16 = .ok (.aload_n 0, 1) := by decide +kernel
theorem dX10_idle_17 : decode cX10_idle 17 = .ok (.getfield 278, 3) := by decide +kernel
theorem dX10_idle_20 : decode cX10_idle 20 = .ok (.ishl, 1) := by decide +kernel
theorem dX10_idle_21 : decode cX10_idle 21 = .ok (.iconst 1, 1) := by decide +kernel
theorem dX10_idle_22 : decode cX10_idle 22 = .ok (.isub, 1) := by decide +kernel
theorem dX10_idle_23 : decode cX10_idle 23 = .ok (.aload_n 0, 1) := by decide +kernel
theorem dX10_idle_24 : decode cX10_idle 24 = .ok (.iload_n 1, 1) := by decide +kernel
theorem dX10_idle_25 : decode cX10_idle 25 = .ok (.invokevirtual 400, 3) := by decide +kernel
theorem dX10_idle_28 : decode cX10_idle 28 = .ok (.iconst (-1), 1) := by decide +kernel
theorem dX10_idle_29 : decode cX10_idle 29 = .ok (.ixor, 1) := by decide +kernel
theorem dX10_idle_30 : decode cX10_idle 30 = .ok (.iand, 1) := by decide +kernel
theorem dX10_idle_31 : decode cX10_idle 31 = .ok (.goto 4, 3) := by decide +kernel
theorem dX10_idle_34 : decode cX10_idle 34 = .ok (.iconst 0, 1) := by decide +kernel
theorem dX10_idle_35 : decode cX10_idle 35 = .ok (.ireturn, 1) := by decide +kernel
theorem dX10_round_0 : decode cX10_round 0 = .ok (.aload_n 0, 1) := by decide +kernel
theorem dX10_round_1 : decode cX10_round 1 = .ok (.iconst 0, 1) := by decide +kernel
theorem dX10_round_2 : decode cX10_round 2 = .ok (.putfield 120, 3) := by decide +kernel
theorem dX10_round_5 : decode cX10_round 5 = .ok (.aload_n 0, 1) := by decide +kernel
theorem dX10_round_6 : decode cX10_round 6 = .ok (.iload_n 1, 1) := by decide +kernel
theorem dX10_round_7 : decode cX10_round 7 = .ok (.iconst 1, 1) := by decide +kernel
theorem dX10_round_8 : decode cX10_round 8 = .ok (.invokevirtual 373, 3) := by decide +kernel
theorem dX10_round_11 : decode cX10_round 11 = .ok (.ifCond .ne 5, 3) := by decide +kernel
theorem dX10_round_14 : decode cX10_round 14 = .ok (.iconst 0, 1) := by decide +kernel
theorem dX10_round_15 : decode cX10_round 15 = .ok (.ireturn, 1) := by decide +kernel
theorem dX10_round_16 : decode cX10_round 16 = .ok (.aload_n 0, 1) := by decide +kernel
theorem dX10_round_17 : decode cX10_round 17 = .ok (.invokevirtual 388, 3) := by decide +kernel
theorem dX10_round_20 : decode cX10_round 20 = .ok (.iconst 0, 1) := by decide +kernel
theorem dX10_round_21 : decode cX10_round 21 = .ok (.istore_n 2, 1) := by decide +kernel
theorem dX10_round_22 : decode cX10_round 22 = .ok (.iload_n 2, 1) := by decide +kernel
theorem dX10_round_23 : decode cX10_round 23 = .ok (.bipush 40, 2) := by decide +kernel
theorem dX10_round_25 : decode cX10_round 25 = .ok (.if_icmp .gt 154, 3) := by decide +kernel
theorem dX10_round_28 : decode cX10_round 28 = .ok (.iconst 0, 1) := by decide +kernel
theorem dX10_round_29 : decode cX10_round 29 = .ok (.istore_n 3, 1) := by decide +kernel
theorem dX10_round_30 : decode cX10_round 30 = .ok (.iload_n 3, 1) := by decide +kernel
theorem dX10_round_31 : decode cX10_round 31 = .ok (.bipush 16, 2) := by decide +kernel
theorem dX10_round_33 : decode cX10_round 33 = .ok (.if_icmp .ge 29, 3) := by decide +kernel
theorem dX10_round_36 : decode cX10_round 36 = .ok (.aload_n 0, 1) := by decide +kernel
theorem dX10_round_37 : decode cX10_round 37 = .ok (.getfield 93, 3) := by decide +kernel
theorem dX10_round_40 : decode cX10_round 40 = .ok (.bipush 17, 2) := by decide +kernel
theorem dX10_round_42 : decode cX10_round 42 = .ok (.iload_n 2, 1) := by decide +kernel
theorem dX10_round_43 : decode cX10_round 43 = .ok (.imul, 1) := by decide +kernel
theorem dX10_round_44 : decode cX10_round 44 = .ok (.iload_n 3, 1) := by decide +kernel
theorem dX10_round_45 : decode cX10_round 45 = .ok (.iadd, 1) := by decide +kernel
theorem dX10_round_46 : decode cX10_round 46 = .ok (.aload_n 0, 1) := by decide +kernel
theorem dX10_round_47 : decode cX10_round 47 = .ok (.getfield 69, 3) := by decide +kernel
theorem dX10_round_50 : decode cX10_round 50 = .ok (.bipush 36, 2) := by decide +kernel
theorem dX10_round_52 : decode cX10_round 52 = .ok (.iload_n 3, 1) := by decide +kernel
theorem dX10_round_53 : decode cX10_round 53 = .ok (.iadd, 1) := by decide +kernel
theorem dX10_round_54 : decode cX10_round 54 = .ok (.iaload, 1) := by decide +kernel
theorem dX10_round_55 : decode cX10_round 55 = .ok (.iastore, 1) := by decide +kernel
theorem dX10_round_56 : decode cX10_round 56 = .ok (.iinc 3 1, 3) := by decide +kernel
theorem dX10_round_59 : decode cX10_round 59 = .ok (.goto (-29), 3) := by decide +kernel
theorem dX10_round_62 : decode cX10_round 62 = .ok (.aload_n 0, 1) := by decide +kernel
theorem dX10_round_63 : decode cX10_round 63 = .ok (.getfield 93, 3) := by decide +kernel
theorem dX10_round_66 : decode cX10_round 66 = .ok (.bipush 17, 2) := by decide +kernel
theorem dX10_round_68 : decode cX10_round 68 = .ok (.iload_n 2, 1) := by decide +kernel
theorem dX10_round_69 : decode cX10_round 69 = .ok (.imul, 1) := by decide +kernel
theorem dX10_round_70 : decode cX10_round 70 = .ok (.bipush 16, 2) := by decide +kernel
theorem dX10_round_72 : decode cX10_round 72 = .ok (.iadd, 1) := by decide +kernel
theorem dX10_round_73 : decode cX10_round 73 = .ok (.aload_n 0, 1) := by decide +kernel
theorem dX10_round_74 : decode cX10_round 74 = .ok (.getfield 69, 3) := by decide +kernel
theorem dX10_round_77 : decode cX10_round 77 = .ok (.bipush 34, 2) := by decide +kernel
theorem dX10_round_79 : decode cX10_round 79 = .ok (.iaload, 1) := by decide +kernel
theorem dX10_round_80 : decode cX10_round 80 = .ok (.iastore, 1) := by decide +kernel
theorem dX10_round_81 : decode cX10_round 81 = .ok (.iconst 0, 1) := by decide +kernel
theorem dX10_round_82 : decode cX10_round 82 = .ok (.istore_n 3, 1) := by decide +kernel
theorem dX10_round_83 : decode cX10_round 83 = .ok (.iload_n 3, 1) := by decide +kernel
theorem dX10_round_84 : decode cX10_round 84 = .ok (.iload_n 2, 1) := by decide +kernel
theorem dX10_round_85 : decode cX10_round 85 = .ok (.if_icmp .ge 82, 3) := by decide +kernel
theorem dX10_round_88 : decode cX10_round 88 = .ok (.iconst 1, 1) := by decide +kernel
theorem dX10_round_89 : decode cX10_round 89 = .ok (.istore 4, 2) := by decide +kernel
theorem dX10_round_91 : decode cX10_round 91 = .ok (.iconst 0, 1) := by decide +kernel
theorem dX10_round_92 : decode cX10_round 92 = .ok (.istore 5, 2) := by decide +kernel
theorem dX10_round_94 : decode cX10_round 94 = .ok (.iload 5, 2) := by decide +kernel
theorem dX10_round_96 : decode cX10_round 96 = .ok (.bipush 17, 2) := by decide +kernel
theorem dX10_round_98 : decode cX10_round 98 = .ok (.if_icmp .ge 48, 3) := by decide +kernel
theorem dX10_round_101 : decode cX10_round 101 = .ok (.iload 4, 2) := by decide +kernel
theorem dX10_round_103 : decode cX10_round 103 = .ok (.ifCond .eq 34, 3) := by decide +kernel
theorem dX10_round_106 : decode cX10_round 106 = .ok (.aload_n 0, 1) := by decide +kernel
theorem dX10_round_107 : decode cX10_round 107 = .ok (.getfield 93, 3) := by decide +kernel
theorem dX10_round_110 : decode cX10_round 110 = .ok (.bipush 17, 2) := by decide +kernel
theorem dX10_round_112 : decode cX10_round 112 = .ok (.iload_n 2, 1) := by decide +kernel
theorem dX10_round_113 : decode cX10_round 113 = .ok (.imul, 1) := by decide +kernel
theorem dX10_round_114 : decode cX10_round 114 = .ok (.iload 5, 2) := by decide +kernel
theorem dX10_round_116 : decode cX10_round 116 = .ok (.iadd, 1) := by decide +kernel
theorem dX10_round_117 : decode cX10_round 117 = .ok (.iaload, 1) := by decide +kernel
theorem dX10_round_118 : decode cX10_round 118 = .ok (.aload_n 0, 1) := by decide +kernel
theorem dX10_round_119 : decode cX10_round 119 = .ok (.getfield 93, 3) := by decide +kernel
theorem dX10_round_122 : decode cX10_round 122 = .ok (.bipush 17, 2) := by decide +kernel
theorem dX10_round_124 : decode cX10_round 124 = .ok (.iload_n 3, 1) := by decide +kernel
theorem dX10_round_125 : decode cX10_round 125 = .ok (.imul, 1) := by decide +kernel
theorem dX10_round_126 : decode cX10_round 126 = .ok (.iload 5, 2) := by decide +kernel
theorem dX10_round_128 : decode cX10_round 128 = .ok (.iadd, 1) := by decide +kernel
theorem dX10_round_129 : decode cX10_round 129 = .ok (.iaload, 1) := by decide +kernel
theorem dX10_round_130 : decode cX10_round 130 = .ok (.if_icmp .ne 7, 3) := by decide +kernel
theorem dX10_round_133 : decode cX10_round 133 = .ok (.iconst 1, 1) := by decide +kernel
theorem dX10_round_134 : decode cX10_round 134 = .ok (.goto 4, 3) := by decide +kernel
theorem dX10_round_137 : decode cX10_round 137 = .ok (.iconst 0, 1) := by decide +kernel
theorem dX10_round_138 : decode cX10_round 138 = .ok (.istore 4, 2) := by decide +kernel
theorem dX10_round_140 : decode cX10_round 140 = .ok (.iinc 5 1, 3) := by decide +kernel
theorem dX10_round_143 : decode cX10_round 143 = .ok (.goto (-49), 3) := by decide +kernel
theorem dX10_round_146 : decode cX10_round 146 = .ok (.iload 4, 2) := by decide +kernel
theorem dX10_round_148 : decode cX10_round 148 = .ok (.ifCond .eq 13, 3) := by decide +kernel
theorem dX10_round_151 : decode cX10_round 151 = .ok (.iload_n 1, 1) := by decide +kernel
theorem dX10_round_152 : decode cX10_round 152 = .ok (.ifCond .ne 7, 3) := by decide +kernel
theorem dX10_round_155 : decode cX10_round 155 = .ok (.iload_n 2, 1) := by decide +kernel
theorem dX10_round_156 : decode cX10_round 156 = .ok (.goto 4, 3) := by decide +kernel
theorem dX10_round_159 : decode cX10_round 159 = .ok (.iload_n 3, 1) := by decide +kernel
theorem dX10_round_160 : decode cX10_round 160 = .ok (.ireturn, 1) := by decide +kernel
theorem dX10_round_161 : decode cX10_round 161 = .ok (.iinc 3 1, 3) := by decide +kernel
theorem dX10_round_164 : decode cX10_round 164 = .ok (.goto (-81), 3) := by decide +kernel
theorem dX10_round_167 : decode cX10_round 167 = .ok (.aload_n 0, 1) := by decide +kernel
theorem dX10_round_168 : decode cX10_round 168 = .ok (.bipush 33, 2) := by decide +kernel
theorem dX10_round_170 : decode cX10_round 170 = .ok (.invokevirtual 358, 3) := by decide +kernel
theorem dX10_round_173 : decode cX10_round 173 = .ok (.iinc 2 1, 3) := by decide +kernel
theorem dX10_round_176 : decode cX10_round 176 = .ok (.goto (-154), 3) := by decide +kernel
theorem dX10_round_179 : decode cX10_round 179 = .ok (.iconst (-1), 1) := by decide +kernel
theorem dX10_round_180 : decode cX10_round 180 = .ok (.ireturn, 1) := by decide +kernel
theorem dX10_delay_0 : decode cX10_delay 0 = .ok (.aload_n 0, 1) := by decide +kernel
theorem dX10_delay_1 : decode cX10_delay 1 = .ok (.iconst 0, 1) := by decide +kernel
theorem dX10_delay_2 : decode cX10_delay 2 = .ok (.putfield 120, 3) := by decide +kernel
theorem dX10_delay_5 : decode cX10_delay 5 = .ok (.aload_n 0, 1) := by decide +kernel
theorem dX10_delay_6 : decode cX10_delay 6 = .ok (.iload_n 1, 1) := by decide +kernel
theorem dX10_delay_7 : decode cX10_delay 7 = .ok (.invokevirtual 370, 3) := by decide +kernel
theorem dX10_delay_10 : decode cX10_delay 10 = .ok (.ifCond .eq 11, 3) := by decide +kernel
theorem dX10_delay_13 : decode cX10_delay 13 = .ok (.aload_n 0, 1) := by decide +kernel
theorem dX10_delay_14 : decode cX10_delay 14 = .ok (.iload_n 2, 1) := by decide +kernel
theorem dX10_delay_15 : decode cX10_delay 15 = .ok (.invokevirtual 376, 3) := by decide +kernel
theorem dX10_delay_18 : decode cX10_delay 18 = .ok (.ifCond .ne 5, 3) := by decide +kernel
theorem dX10_delay_21 : decode cX10_delay 21 = .ok (.iconst 0, 1) := by decide +kernel
theorem dX10_delay_22 : decode cX10_delay 22 = .ok (.ireturn, 1) := by decide +kernel
theorem dX10_delay_23 : decode cX10_delay 23 = .ok (.aload_n 0, 1) := by decide +kernel
theorem dX10_delay_24 : decode cX10_delay 24 = .ok (.getfield 19, 3) := by decide +kernel
theorem dX10_delay_27 : decode cX10_delay 27 = .ok (.iload_n 1, 1) := by decide +kernel
theorem dX10_delay_28 : decode cX10_delay 28 = .ok (.iaload, 1) := by decide +kernel
theorem dX10_delay_29 : decode cX10_delay 29 = .ok (.iconst 1, 1) := by decide +kernel
theorem dX10_delay_30 : decode cX10_delay 30 = .ok (.if_icmp .eq 12, 3) := by decide +kernel
theorem dX10_delay_33 : decode cX10_delay 33 = .ok (.aload_n 0, 1) := by decide +kernel
theorem dX10_delay_34 : decode cX10_delay 34 = .ok (.iconst 0, 1) := by decide +kernel
theorem dX10_delay_35 : decode cX10_delay 35 = .ok (.iload_n 1, 1) := by decide +kernel
theorem dX10_delay_36 : decode cX10_delay 36 = .ok (.invokevirtual 340, 3) := by decide +kernel
theorem dX10_delay_39 : decode cX10_delay 39 = .ok (.ifCond .ne 5, 3) := by decide +kernel
theorem dX10_delay_42 : decode cX10_delay 42 = .ok (.iconst (-1), 1) := by decide +kernel
theorem dX10_delay_43 : decode cX10_delay 43 = .ok (.ireturn, 1) := by decide +kernel
theorem dX10_delay_44 : decode cX10_delay 44 = .ok (.aload_n 0, 1) := by decide +kernel
theorem dX10_delay_45 : decode cX10_delay 45 = .ok (.iload_n 1, 1) := by decide +kernel
theorem dX10_delay_46 : decode cX10_delay 46 = .ok (.putfield 90, 3) := by decide +kernel
theorem dX10_delay_49 : decode cX10_delay 49 = .ok (.aload_n 0, 1) := by decide +kernel
theorem dX10_delay_50 : decode cX10_delay 50 = .ok (.iload_n 2, 1) := by decide +kernel
theorem dX10_delay_51 : decode cX10_delay 51 = .ok (.putfield 321, 3) := by decide +kernel
theorem dX10_delay_54 : decode cX10_delay 54 = .ok (.iconst (-1), 1) := by decide +kernel
theorem dX10_delay_55 : decode cX10_delay 55 = .ok (.istore_n 3, 1) := by decide +kernel
theorem dX10_delay_56 : decode cX10_delay 56 = .ok (.iconst 0, 1) := by decide +kernel
theorem dX10_delay_57 : decode cX10_delay 57 = .ok (.istore 4, 2) := by decide +kernel
theorem dX10_delay_59 : decode cX10_delay 59 = .ok (.iload 4, 2) := by decide +kernel
theorem dX10_delay_61 : decode cX10_delay 61 = .ok (.bipush 99, 2) := by decide +kernel
theorem dX10_delay_63 : decode cX10_delay 63 = .ok (.if_icmp .gt 42, 3) := by decide +kernel
theorem dX10_delay_66 : decode cX10_delay 66 = .ok (.iload_n 3, 1) := by decide +kernel
theorem dX10_delay_67 : decode cX10_delay 67 = .ok (.iconst (-1), 1) := by decide +kernel
theorem dX10_delay_68 : decode cX10_delay 68 = .ok (.if_icmp .ne 37, 3) := by decide +kernel
theorem dX10_delay_71 : decode cX10_delay 71 = .ok (.aload_n 0, 1) := by decide +kernel
theorem dX10_delay_72 : decode cX10_delay 72 = .ok (.iload 4, 2) := by decide +kernel
theorem dX10_delay_74 : decode cX10_delay 74 = .ok (.putfield 324, 3) := by decide +kernel
theorem dX10_delay_77 : decode cX10_delay 77 = .ok (.aload_n 0, 1) := by decide +kernel
theorem dX10_delay_78 : decode cX10_delay 78 = .ok (.iconst 1, 1) := by decide +kernel
theorem dX10_delay_79 : decode cX10_delay 79 = .ok (.invokevirtual 397, 3) := by decide +kernel
theorem dX10_delay_82 : decode cX10_delay 82 = .ok (.aload_n 0, 1) := by decide +kernel
theorem dX10_delay_83 : decode cX10_delay 83 = .ok (.getfield 84, 3) := by decide +kernel
theorem dX10_delay_86 : decode cX10_delay 86 = .ok (.iload_n 2, 1) := by decide +kernel
theorem dX10_delay_87 : decode cX10_delay 87 = .ok (.iaload, 1) := by decide +kernel
theorem dX10_delay_88 : decode cX10_delay 88 = .ok (.iload_n 1, 1) := by decide +kernel
theorem dX10_delay_89 : decode cX10_delay 89 = .ok (.if_icmp .ne 8, 3) := by decide +kernel
theorem dX10_delay_92 : decode cX10_delay 92 = .ok (.iload 4, 2) := by decide +kernel
theorem dX10_delay_94 : decode cX10_delay 94 = .ok (.goto 4, 3) := by decide +kernel
theorem dX10_delay_97 : decode cX10_delay 97 = .ok (.iconst (-1), 1) := by decide +kernel
theorem dX10_delay_98 : decode cX10_delay 98 = .ok (.istore_n 3, 1) := by decide +kernel
theorem dX10_delay_99 : decode cX10_delay 99 = .ok (.iinc 4 1, 3) := by decide +kernel
theorem dX10_delay_102 : decode cX10_delay 102 = .ok (.goto (-43), 3) := by decide +kernel
theorem dX10_delay_105 : decode cX10_delay 105 = .ok (.aload_n 0, 1) := by decide +kernel
theorem dX10_delay_106 : decode cX10_delay 106 = .ok (.iconst (-1), 1) := by decide +kernel
theorem dX10_delay_107 : decode cX10_delay 107 = .ok (.putfield 90, 3) := by decide +kernel
theorem dX10_delay_110 : decode cX10_delay 110 = .ok (.iload_n 3, 1) := by decide +kernel
theorem dX10_delay_111 : decode cX10_delay 111 = .ok (.ireturn, 1) := by decide +kernel
theorem dX10_club_0 : decode cX10_club 0 = .ok (.aload_n 0, 1) := by decide +kernel
theorem dX10_club_1 : decode cX10_club 1 = .ok (.iconst 0, 1) := by decide +kernel
theorem dX10_club_2 : decode cX10_club 2 = .ok (.putfield 120, 3) := by decide +kernel
theorem dX10_club_5 : decode cX10_club 5 = .ok (.aload_n 0, 1) := by decide +kernel
theorem dX10_club_6 : decode cX10_club 6 = .ok (.iload_n 1, 1) := by decide +kernel
theorem dX10_club_7 : decode cX10_club 7 = .ok (.invokevirtual 376, 3) := by decide +kernel
theorem dX10_club_10 : decode cX10_club 10 = .ok (.ifCond .eq 18, 3) := by decide +kernel
theorem dX10_club_13 : decode cX10_club 13 = .ok (.aload_n 0, 1) := by decide +kernel
theorem dX10_club_14 : decode cX10_club 14 = .ok (.iload_n 2, 1) := by decide +kernel
theorem dX10_club_15 : decode cX10_club 15 = .ok (.iconst 1, 1) := by decide +kernel
theorem dX10_club_16 : decode cX10_club 16 = .ok (.bipush 6, 2) := by decide +kernel
theorem dX10_club_18 : decode cX10_club 18 = .ok (.invokestatic 361, 3) := by decide +kernel
theorem dX10_club_21 : decode cX10_club 21 = .ok (.iconst 2, 1) := by decide +kernel
theorem dX10_club_22 : decode cX10_club 22 = .ok (.invokevirtual 271, 3) := by decide +kernel
theorem dX10_club_25 : decode cX10_club 25 = .ok (.ifCond .ne 5, 3) := by decide +kernel
theorem dX10_club_28 : decode cX10_club 28 = .ok (.iconst 0, 1) := by decide +kernel
theorem dX10_club_29 : decode cX10_club 29 = .ok (.ireturn, 1) := by decide +kernel
theorem dX10_club_30 : decode cX10_club 30 = .ok (.aload_n 0, 1) := by decide +kernel
theorem dX10_club_31 : decode cX10_club 31 = .ok (.iconst 1, 1) := by decide +kernel
theorem dX10_club_32 : decode cX10_club 32 = .ok (.invokevirtual 397, 3) := by decide +kernel
theorem dX10_club_35 : decode cX10_club 35 = .ok (.iconst 0, 1) := by decide +kernel
theorem dX10_club_36 : decode cX10_club 36 = .ok (.istore_n 3, 1) := by decide +kernel
theorem dX10_club_37 : decode cX10_club 37 = .ok (.iconst 0, 1) := by decide +kernel
theorem dX10_club_38 : decode cX10_club 38 = .ok (.istore 4, 2) := by decide +kernel
theorem dX10_club_40 : decode cX10_club 40 = .ok (.iconst 0, 1) := by decide +kernel
theorem dX10_club_41 : decode cX10_club 41 = .ok (.istore 5, 2) := by decide +kernel
theorem dX10_club_43 : decode cX10_club 43 = .ok (.iload 5, 2) := by decide +kernel
theorem dX10_club_45 : decode cX10_club 45 = .ok (.aload_n 0, 1) := by decide +kernel
theorem dX10_club_46 : decode cX10_club 46 = .ok (.getfield 278, 3) := by decide +kernel
theorem dX10_club_49 : decode cX10_club 49 = .ok (.if_icmp .ge 124, 3) := by decide +kernel
theorem dX10_club_52 : decode cX10_club 52 = .ok (.aload_n 0, 1) := by decide +kernel
theorem dX10_club_53 : decode cX10_club 53 = .ok (.getfield 19, 3) := by decide +kernel
theorem dX10_club_56 : decode cX10_club 56 = .ok (.iload 5, 2) := by decide +kernel
theorem dX10_club_58 : decode cX10_club 58 = .ok (.iaload, 1) := by decide +kernel
theorem dX10_club_59 : decode cX10_club 59 = .ok (.iconst 1, 1) := by decide +kernel
theorem dX10_club_60 : decode cX10_club 60 = .ok (.if_icmp .eq 107, 3) := by decide +kernel
theorem dX10_club_63 : decode cX10_club 63 = .ok (.aload_n 0, 1) := by decide +kernel
theorem dX10_club_64 : decode cX10_club 64 = .ok (.iconst 0, 1) := by decide +kernel
theorem dX10_club_65 : decode cX10_club 65 = .ok (.iload 5, 2) := by decide +kernel
theorem dX10_club_67 : decode cX10_club 67 = .ok (.invokevirtual 340, 3) := by decide +kernel
theorem dX10_club_70 : decode cX10_club 70 = .ok (.ifCond .ne 6, 3) := by decide +kernel
theorem dX10_club_73 : decode cX10_club 73 = .ok (.goto 94, 3) := by decide +kernel
theorem dX10_club_76 : decode cX10_club 76 = .ok (.iconst 0, 1) := by decide +kernel
theorem dX10_club_77 : decode cX10_club 77 = .ok (.istore 6, 2) := by decide +kernel
theorem dX10_club_79 : decode cX10_club 79 = .ok (.iconst 0, 1) := by decide +kernel
theorem dX10_club_80 : decode cX10_club 80 = .ok (.istore 7, 2) := by decide +kernel
theorem dX10_club_82 : decode cX10_club 82 = .ok (.iload 7, 2) := by decide +kernel
theorem dX10_club_84 : decode cX10_club 84 = .ok (.aload_n 0, 1) := by decide +kernel
theorem dX10_club_85 : decode cX10_club 85 = .ok (.getfield 278, 3) := by decide +kernel
theorem dX10_club_88 : decode cX10_club 88 = .ok (.if_icmp .ge 59, 3) := by decide +kernel
theorem dX10_club_91 : decode cX10_club 91 = .ok (.iload 6, 2) := by decide +kernel
theorem dX10_club_93 : decode cX10_club 93 = .ok (.iload 7, 2) := by decide +kernel
theorem dX10_club_95 : decode cX10_club 95 = .ok (.iload 5, 2) := by decide +kernel
theorem dX10_club_97 : decode cX10_club 97 = .ok (.if_icmp .eq 40, 3) := by decide +kernel
theorem dX10_club_100 : decode cX10_club 100 = .ok (.aload_n 0, 1) := by decide +kernel
theorem dX10_club_101 : decode cX10_club 101 = .ok (.getfield 19, 3) := by decide +kernel
theorem dX10_club_104 : decode cX10_club 104 = .ok (.iload 7, 2) := by decide +kernel
theorem dX10_club_106 : decode cX10_club 106 = .ok (.iaload, 1) := by decide +kernel
theorem dX10_club_107 : decode cX10_club 107 = .ok (.iconst 1, 1) := by decide +kernel
theorem dX10_club_108 : decode cX10_club 108 = .ok (.if_icmp .eq 29, 3) := by decide +kernel
theorem dX10_club_111 : decode cX10_club 111 = .ok (.aload_n 0, 1) := by decide +kernel
theorem dX10_club_112 : decode cX10_club 112 = .ok (.iconst 0, 1) := by decide +kernel
theorem dX10_club_113 : decode cX10_club 113 = .ok (.iload 7, 2) := by decide +kernel
theorem dX10_club_115 : decode cX10_club 115 = .ok (.invokevirtual 340, 3) := by decide +kernel
theorem dX10_club_118 : decode cX10_club 118 = .ok (.ifCond .eq 19, 3) := by decide +kernel
theorem dX10_club_121 : decode cX10_club 121 = .ok (.aload_n 0, 1) := by decide +kernel
theorem dX10_club_122 : decode cX10_club 122 = .ok (.iload_n 1, 1) := by decide +kernel
theorem dX10_club_123 : decode cX10_club 123 = .ok (.iload 7, 2) := by decide +kernel
theorem dX10_club_125 : decode cX10_club 125 = .ok (.iload 5, 2) := by decide +kernel
theorem dX10_club_127 : decode cX10_club 127 = .ok (.invokevirtual 347, 3) := by decide +kernel
theorem dX10_club_130 : decode cX10_club 130 = .ok (.ifCond .eq 7, 3) := by decide +kernel
theorem dX10_club_133 : decode cX10_club 133 = .ok (.iconst 1, 1) := by decide +kernel
theorem dX10_club_134 : decode cX10_club 134 = .ok (.goto 4, 3) := by decide +kernel
theorem dX10_club_137 : decode cX10_club 137 = .ok (.iconst 0, 1) := by decide +kernel
theorem dX10_club_138 : decode cX10_club 138 = .ok (.iadd, 1) := by decide +kernel
theorem dX10_club_139 : decode cX10_club 139 = .ok (.istore 6, 2) := by decide +kernel
theorem dX10_club_141 : decode cX10_club 141 = .ok (.iinc 7 1, 3) := by decide +kernel
theorem dX10_club_144 : decode cX10_club 144 = .ok (.goto (-62), 3) := by decide +kernel
theorem dX10_club_147 : decode cX10_club 147 = .ok (.iinc 4 1, 3) := by decide +kernel
theorem dX10_club_150 : decode cX10_club 150 = .ok (.iload_n 3, 1) := by decide +kernel
theorem dX10_club_151 : decode cX10_club 151 = .ok (.iload 6, 2) := by decide +kernel
theorem dX10_club_153 : decode cX10_club 153 = .ok (.iload_n 2, 1) := by decide +kernel
theorem dX10_club_154 : decode cX10_club 154 = .ok (.if_icmp .ge 10, 3) := by decide +kernel
theorem dX10_club_157 : decode cX10_club 157 = .ok (.iconst 1, 1) := by decide +kernel
theorem dX10_club_158 : decode cX10_club 158 = .ok (.iload 5, 2) := by decide +kernel
theorem dX10_club_160 : decode cX10_club 160 = .ok (.ishl, 1) := by decide +kernel
theorem dX10_club_161 : decode cX10_club 161 = .ok (.goto 4, 3) := by decide +kernel
theorem dX10_club_164 : decode cX10_club 164 = .ok (.iconst 0, 1) := by decide +kernel
theorem dX10_club_165 : decode cX10_club 165 = .ok (.ior, 1) := by decide +kernel
theorem dX10_club_166 : decode cX10_club 166 = .ok (.istore_n 3, 1) := by decide +kernel
theorem dX10_club_167 : decode cX10_club 167 = .ok (.iinc 5 1, 3) := by decide +kernel
theorem dX10_club_170 : decode cX10_club 170 = .ok (.goto (-127), 3) := by decide +kernel
theorem dX10_club_173 : decode cX10_club 173 = .ok (.iload 4, 2) := by decide +kernel
theorem dX10_club_175 : decode cX10_club 175 = .ok (.iload_n 2, 1) := by decide +kernel
theorem dX10_club_176 : decode cX10_club 176 = .ok (.if_icmp .ge 7, 3) := by decide +kernel
theorem dX10_club_179 : decode cX10_club 179 = .ok (.iconst (-1), 1) := by decide +kernel
theorem dX10_club_180 : decode cX10_club 180 = .ok (.goto 4, 3) := by decide +kernel
theorem dX10_club_183 : decode cX10_club 183 = .ok (.iload_n 3, 1) := by decide +kernel
theorem dX10_club_184 : decode cX10_club 184 = .ok (.ireturn, 1) := by decide +kernel
theorem dX10_leastOf_0 : decode cX10_leastOf 0 = .ok (.iload_n 1, 1) := by decide +kernel
theorem dX10_leastOf_1 : decode cX10_leastOf 1 = .ok (.aload_n 0, 1) := by decide +kernel
theorem dX10_leastOf_2 : decode cX10_leastOf 2 = .ok (.getfield 281, 3) := by decide +kernel
theorem dX10_leastOf_5 : decode cX10_leastOf 5 = .ok (.if_icmp .ne 7, 3) := by decide +kernel
theorem dX10_leastOf_8 : decode cX10_leastOf 8 = .ok (.iconst 0, 1) := by decide +kernel
theorem dX10_leastOf_9 : decode cX10_leastOf 9 = .ok (.goto 15, 3) := by decide +kernel
theorem dX10_leastOf_12 : decode cX10_leastOf 12 = .ok (.aload_n 0, 1) := by decide +kernel
theorem dX10_leastOf_13 : decode cX10_leastOf 13 = .ok (.getfield 96, 3) := by decide +kernel
theorem dX10_leastOf_16 : decode cX10_leastOf 16 = .ok (.sipush 256, 3) := by decide +kernel
theorem dX10_leastOf_19 : decode cX10_leastOf 19 = .ok (.iload_n 1, 1) := by decide +kernel
theorem dX10_leastOf_20 : decode cX10_leastOf 20 = .ok (.imul, 1) := by decide +kernel
theorem dX10_leastOf_21 : decode cX10_leastOf 21 = .ok (.iload_n 2, 1) := by decide +kernel
theorem dX10_leastOf_22 : decode cX10_leastOf 22 = .ok (.iadd, 1) := by decide +kernel
theorem dX10_leastOf_23 : decode cX10_leastOf 23 = .ok (.iaload, 1) := by decide +kernel
theorem dX10_leastOf_24 : decode cX10_leastOf 24 = .ok (.ireturn, 1) := by decide +kernel
theorem dX10_canDo_0 : decode cX10_canDo 0 = .ok (.aload_n 0, 1) := by decide +kernel
theorem dX10_canDo_1 : decode cX10_canDo 1 = .ok (.iload_n 1, 1) := by decide +kernel
theorem dX10_canDo_2 : decode cX10_canDo 2 = .ok (.invokevirtual 367, 3) := by decide +kernel
theorem dX10_canDo_5 : decode cX10_canDo 5 = .ok (.ifCond .eq 28, 3) := by decide +kernel
theorem dX10_canDo_8 : decode cX10_canDo 8 = .ok (.aload_n 0, 1) := by decide +kernel
theorem dX10_canDo_9 : decode cX10_canDo 9 = .ok (.getfield 69, 3) := by decide +kernel
theorem dX10_canDo_12 : decode cX10_canDo 12 = .ok (.iconst 2, 1) := by decide +kernel
theorem dX10_canDo_13 : decode cX10_canDo 13 = .ok (.iaload, 1) := by decide +kernel
theorem dX10_canDo_14 : decode cX10_canDo 14 = .ok (.iload_n 1, 1) := by decide +kernel
theorem dX10_canDo_15 : decode cX10_canDo 15 = .ok (.ishr, 1) := by decide +kernel
theorem dX10_canDo_16 : decode cX10_canDo 16 = .ok (.iconst 1, 1) := by decide +kernel
theorem dX10_canDo_17 : decode cX10_canDo 17 = .ok (.iand, 1) := by decide +kernel
theorem dX10_canDo_18 : decode cX10_canDo 18 = .ok (.ifCond .ne 15, 3) := by decide +kernel
theorem dX10_canDo_21 : decode cX10_canDo 21 = .ok (.iload_n 2, 1) := by decide +kernel
theorem dX10_canDo_22 : decode cX10_canDo 22 = .ok (.iload_n 1, 1) := by decide +kernel
theorem dX10_canDo_23 : decode cX10_canDo 23 = .ok (.ishr, 1) := by decide +kernel
theorem dX10_canDo_24 : decode cX10_canDo 24 = .ok (.iconst 1, 1) := by decide +kernel
theorem dX10_canDo_25 : decode cX10_canDo 25 = .ok (.iand, 1) := by decide +kernel
theorem dX10_canDo_26 : decode cX10_canDo 26 = .ok (.ifCond .ne 7, 3) := by decide +kernel
theorem dX10_canDo_29 : decode cX10_canDo 29 = .ok (.iconst 1, 1) := by decide +kernel
theorem dX10_canDo_30 : decode cX10_canDo 30 = .ok (.goto 4, 3) := by decide +kernel
theorem dX10_canDo_33 : decode cX10_canDo 33 = .ok (.iconst 0, 1) := by decide +kernel
theorem dX10_canDo_34 : decode cX10_canDo 34 = .ok (.ireturn, 1) := by decide +kernel
theorem dX10_rota_0 : decode cX10_rota 0 = .ok (.aload_n 0, 1) := by decide +kernel
theorem dX10_rota_1 : decode cX10_rota 1 = .ok (.iconst 0, 1) := by decide +kernel
theorem dX10_rota_2 : decode cX10_rota 2 = .ok (.putfield 120, 3) := by decide +kernel
theorem dX10_rota_5 : decode cX10_rota 5 = .ok (.aload_n 0, 1) := by decide +kernel
theorem dX10_rota_6 : decode cX10_rota 6 = .ok (.iload_n 1, 1) := by decide +kernel
theorem dX10_rota_7 : decode cX10_rota 7 = .ok (.iconst (-1), 1) := by decide +kernel
theorem dX10_rota_8 : decode cX10_rota 8 = .ok (.if_icmp .lt 15, 3) := by decide +kernel
theorem dX10_rota_11 : decode cX10_rota 11 = .ok (.iload_n 1, 1) := by decide +kernel
theorem dX10_rota_12 : decode cX10_rota 12 = .ok (.aload_n 0, 1) := by decide +kernel
theorem dX10_rota_13 : decode cX10_rota 13 = .ok (.getfield 281, 3) := by decide +kernel
theorem dX10_rota_16 : decode cX10_rota 16 = .ok (.if_icmp .ge 7, 3) := by decide +kernel
theorem dX10_rota_19 : decode cX10_rota 19 = .ok (.iconst 1, 1) := by decide +kernel
theorem dX10_rota_20 : decode cX10_rota 20 = .ok (.goto 4, 3) := by decide +kernel
theorem dX10_rota_23 : decode cX10_rota 23 = .ok (.iconst 0, 1) := by decide +kernel
theorem dX10_rota_24 : decode cX10_rota 24 = .ok (.iconst 1, 1) := by decide +kernel
theorem dX10_rota_25 : decode cX10_rota 25 = .ok (.invokevirtual 271, 3) := by decide +kernel
theorem dX10_rota_28 : decode cX10_rota 28 = .ok (.ifCond .ne 5, 3) := by decide +kernel
theorem dX10_rota_31 : decode cX10_rota 31 = .ok (.iconst 0, 1) := by decide +kernel
theorem dX10_rota_32 : decode cX10_rota 32 = .ok (.ireturn, 1) := by decide +kernel
theorem dX10_rota_33 : decode cX10_rota 33 = .ok (.aload_n 0, 1) := by decide +kernel
theorem dX10_rota_34 : decode cX10_rota 34 = .ok (.getfield 281, 3) := by decide +kernel
theorem dX10_rota_37 : decode cX10_rota 37 = .ok (.iconst 1, 1) := by decide +kernel
theorem dX10_rota_38 : decode cX10_rota 38 = .ok (.isub, 1) := by decide +kernel
theorem dX10_rota_39 : decode cX10_rota 39 = .ok (.istore_n 2, 1) := by decide +kernel
theorem dX10_rota_40 : decode cX10_rota 40 = .ok (.iload_n 2, 1) := by decide +kernel
theorem dX10_rota_41 : decode cX10_rota 41 = .ok (.ifCond .lt 103, 3) := by decide +kernel
theorem dX10_rota_44 : decode cX10_rota 44 = .ok (.iconst 0, 1) := by decide +kernel
theorem dX10_rota_45 : decode cX10_rota 45 = .ok (.istore_n 3, 1) := by decide +kernel
theorem dX10_rota_46 : decode cX10_rota 46 = .ok (.iload_n 3, 1) := by decide +kernel
theorem dX10_rota_47 : decode cX10_rota 47 = .ok (.iconst 1, 1) := by decide +kernel
theorem dX10_rota_48 : decode cX10_rota 48 = .ok (.aload_n 0, 1) := by decide +kernel
theorem dX10_rota_49 : decode cX10_rota 49 = .ok (.getfield 278, 3) := by decide +kernel
theorem dX10_rota_52 : decode cX10_rota 52 = .ok (.ishl, 1) := by decide +kernel
theorem dX10_rota_53 : decode cX10_rota 53 = .ok (.if_icmp .ge 85, 3) := by decide +kernel
theorem dX10_rota_56 : decode cX10_rota 56 = .ok (.ldc_w 311, 3) := by decide +kernel
theorem dX10_rota_59 : decode cX10_rota 59 = .ok (.istore 4, 2) := by decide +kernel
theorem dX10_rota_61 : decode cX10_rota 61 = .ok (.iconst 0, 1) := by decide +kernel
theorem dX10_rota_62 : decode cX10_rota 62 = .ok (.istore 5, 2) := by decide +kernel
theorem dX10_rota_64 : decode cX10_rota 64 = .ok (.iload 5, 2) := by decide +kernel
theorem dX10_rota_66 : decode cX10_rota 66 = .ok (.aload_n 0, 1) := by decide +kernel
theorem dX10_rota_67 : decode cX10_rota 67 = .ok (.getfield 278, 3) := by decide +kernel
theorem dX10_rota_70 : decode cX10_rota 70 = .ok (.if_icmp .ge 48, 3) := by decide +kernel
theorem dX10_rota_73 : decode cX10_rota 73 = .ok (.aload_n 0, 1) := by decide +kernel
theorem dX10_rota_74 : decode cX10_rota 74 = .ok (.iload 5, 2) := by decide +kernel
theorem dX10_rota_76 : decode cX10_rota 76 = .ok (.iload_n 3, 1) := by decide +kernel
theorem dX10_rota_77 : decode cX10_rota 77 = .ok (.invokevirtual 403, 3) := by decide +kernel
theorem dX10_rota_80 : decode cX10_rota 80 = .ok (.ifCond .eq 32, 3) := by decide +kernel
theorem dX10_rota_83 : decode cX10_rota 83 = .ok (.iload 4, 2) := by decide +kernel
theorem dX10_rota_85 : decode cX10_rota 85 = .ok (.aload_n 0, 1) := by decide +kernel
theorem dX10_rota_86 : decode cX10_rota 86 = .ok (.iconst 0, 1) := by decide +kernel
theorem dX10_rota_87 : decode cX10_rota 87 = .ok (.iload 5, 2) := by decide +kernel
theorem dX10_rota_89 : decode cX10_rota 89 = .ok (.iload_n 2, 1) := by decide +kernel
theorem dX10_rota_90 : decode cX10_rota 90 = .ok (.invokevirtual 315, 3) := by decide +kernel
theorem dX10_rota_93 : decode cX10_rota 93 = .ok (.aload_n 0, 1) := by decide +kernel
theorem dX10_rota_94 : decode cX10_rota 94 = .ok (.iload_n 2, 1) := by decide +kernel
theorem dX10_rota_95 : decode cX10_rota 95 = .ok (.iconst 1, 1) := by decide +kernel
theorem dX10_rota_96 : decode cX10_rota 96 = .ok (.iadd, 1) := by decide +kernel
theorem dX10_rota_97 : decode cX10_rota 97 = .ok (.iload_n 3, 1) := by decide +kernel
theorem dX10_rota_98 : decode cX10_rota 98 = .ok (.iconst 1, 1) := by decide +kernel
theorem dX10_rota_99 : decode cX10_rota 99 = .ok (.iload 5, 2) := by decide +kernel
theorem dX10_rota_101 : decode cX10_rota 101 = .ok (.ishl, 1) := by decide +kernel
theorem dX10_rota_102 : decode cX10_rota 102 = .ok (.ior, 1) := by decide +kernel
theorem dX10_rota_103 : decode cX10_rota 103 = .ok (.invokevirtual 406, 3) := by decide +kernel
theorem dX10_rota_106 : decode cX10_rota 106 = .ok (.iadd, 1) := by decide +kernel
theorem dX10_rota_107 : decode cX10_rota 107 = .ok (.invokestatic 331, 3) := by decide +kernel
theorem dX10_rota_110 : decode cX10_rota 110 = .ok (.istore 4, 2) := by decide +kernel
theorem dX10_rota_112 : decode cX10_rota 112 = .ok (.iinc 5 1, 3) := by decide +kernel
theorem dX10_rota_115 : decode cX10_rota 115 = .ok (.goto (-51), 3) := by decide +kernel
theorem dX10_rota_118 : decode cX10_rota 118 = .ok (.aload_n 0, 1) := by decide +kernel
theorem dX10_rota_119 : decode cX10_rota 119 = .ok (.getfield 96, 3) := by decide +kernel
theorem dX10_rota_122 : decode cX10_rota 122 = .ok (.sipush 256, 3) := by decide +kernel
theorem dX10_rota_125 : decode cX10_rota 125 = .ok (.iload_n 2, 1) := by decide +kernel
theorem dX10_rota_126 : decode cX10_rota 126 = .ok (.imul, 1) := by decide +kernel
theorem dX10_rota_127 : decode cX10_rota 127 = .ok (.iload_n 3, 1) := by decide +kernel
theorem dX10_rota_128 : decode cX10_rota 128 = .ok (.iadd, 1) := by decide +kernel
theorem dX10_rota_129 : decode cX10_rota 129 = .ok (.iload 4, 2) := by decide +kernel
theorem dX10_rota_131 : decode cX10_rota 131 = .ok (.iastore, 1) := by decide +kernel
theorem dX10_rota_132 : decode cX10_rota 132 = .ok (.iinc 3 1, 3) := by decide +kernel
theorem dX10_rota_135 : decode cX10_rota 135 = .ok (.goto (-89), 3) := by decide +kernel
theorem dX10_rota_138 : decode cX10_rota 138 = .ok (.iinc 2 (-1), 3) := by decide +kernel
theorem dX10_rota_141 : decode cX10_rota 141 = .ok (.goto (-101), 3) := by decide +kernel
theorem dX10_rota_144 : decode cX10_rota 144 = .ok (.aload_n 0, 1) := by decide +kernel
theorem dX10_rota_145 : decode cX10_rota 145 = .ok (.iconst 0, 1) := by decide +kernel
theorem dX10_rota_146 : decode cX10_rota 146 = .ok (.iconst 0, 1) := by decide +kernel
theorem dX10_rota_147 : decode cX10_rota 147 = .ok (.invokevirtual 406, 3) := by decide +kernel
theorem dX10_rota_150 : decode cX10_rota 150 = .ok (.ldc_w 311, 3) := by decide +kernel
theorem dX10_rota_153 : decode cX10_rota 153 = .ok (.if_icmp .lt 6, 3) := by decide +kernel
theorem dX10_rota_156 : decode cX10_rota 156 = .ok (.bipush (-2), 2) := by decide +kernel
theorem dX10_rota_158 : decode cX10_rota 158 = .ok (.ireturn, 1) := by decide +kernel
theorem dX10_rota_159 : decode cX10_rota 159 = .ok (.iload_n 1, 1) := by decide +kernel
theorem dX10_rota_160 : decode cX10_rota 160 = .ok (.iconst (-1), 1) := by decide +kernel
theorem dX10_rota_161 : decode cX10_rota 161 = .ok (.if_icmp .ne 10, 3) := by decide +kernel
theorem dX10_rota_164 : decode cX10_rota 164 = .ok (.aload_n 0, 1) := by decide +kernel
theorem dX10_rota_165 : decode cX10_rota 165 = .ok (.iconst 0, 1) := by decide +kernel
theorem dX10_rota_166 : decode cX10_rota 166 = .ok (.iconst 0, 1) := by decide +kernel
theorem dX10_rota_167 : decode cX10_rota 167 = .ok (.invokevirtual 406, 3) := by decide +kernel
theorem dX10_rota_170 : decode cX10_rota 170 = .ok (.ireturn, 1) := by decide +kernel
theorem dX10_rota_171 : decode cX10_rota 171 = .ok (.iconst 0, 1) := by decide +kernel
theorem dX10_rota_172 : decode cX10_rota 172 = .ok (.istore_n 2, 1) := by decide +kernel
theorem dX10_rota_173 : decode cX10_rota 173 = .ok (.iconst (-1), 1) := by decide +kernel
theorem dX10_rota_174 : decode cX10_rota 174 = .ok (.istore_n 3, 1) := by decide +kernel
theorem dX10_rota_175 : decode cX10_rota 175 = .ok (.iconst 0, 1) := by decide +kernel
theorem dX10_rota_176 : decode cX10_rota 176 = .ok (.istore 4, 2) := by decide +kernel
theorem dX10_rota_178 : decode cX10_rota 178 = .ok (.iload 4, 2) := by decide +kernel
theorem dX10_rota_180 : decode cX10_rota 180 = .ok (.iload_n 1, 1) := by decide +kernel
theorem dX10_rota_181 : decode cX10_rota 181 = .ok (.if_icmp .gt 83, 3) := by decide +kernel
theorem dX10_rota_184 : decode cX10_rota 184 = .ok (.iconst (-1), 1) := by decide +kernel
theorem dX10_rota_185 : decode cX10_rota 185 = .ok (.istore_n 3, 1) := by decide +kernel
theorem dX10_rota_186 : decode cX10_rota 186 = .ok (.aload_n 0, 1) := by decide +kernel
theorem dX10_rota_187 : decode cX10_rota 187 = .ok (.getfield 278, 3) := by decide +kernel
theorem dX10_rota_190 : decode cX10_rota 190 = .ok (.iconst 1, 1) := by decide +kernel
theorem dX10_rota_191 : decode cX10_rota 191 = .ok (.isub, 1) := by decide +kernel
theorem dX10_rota_192 : decode cX10_rota 192 = .ok (.istore 5, 2) := by decide +kernel
theorem dX10_rota_194 : decode cX10_rota 194 = .ok (.iload 5, 2) := by decide +kernel
theorem dX10_rota_196 : decode cX10_rota 196 = .ok (.ifCond .lt 56, 3) := by decide +kernel
theorem dX10_rota_199 : decode cX10_rota 199 = .ok (.aload_n 0, 1) := by decide +kernel
theorem dX10_rota_200 : decode cX10_rota 200 = .ok (.iload 5, 2) := by decide +kernel
theorem dX10_rota_202 : decode cX10_rota 202 = .ok (.iload_n 2, 1) := by decide +kernel
theorem dX10_rota_203 : decode cX10_rota 203 = .ok (.invokevirtual 403, 3) := by decide +kernel
theorem dX10_rota_206 : decode cX10_rota 206 = .ok (.ifCond .eq 40, 3) := by decide +kernel
theorem dX10_rota_209 : decode cX10_rota 209 = .ok (.aload_n 0, 1) := by decide +kernel
theorem dX10_rota_210 : decode cX10_rota 210 = .ok (.iconst 0, 1) := by decide +kernel
theorem dX10_rota_211 : decode cX10_rota 211 = .ok (.iload 5, 2) := by decide +kernel
theorem dX10_rota_213 : decode cX10_rota 213 = .ok (.iload 4, 2) := by decide +kernel
theorem dX10_rota_215 : decode cX10_rota 215 = .ok (.invokevirtual 315, 3) := by decide +kernel
theorem dX10_rota_218 : decode cX10_rota 218 = .ok (.aload_n 0, 1) := by decide +kernel
theorem dX10_rota_219 : decode cX10_rota 219 = .ok (.iload 4, 2) := by decide +kernel
theorem dX10_rota_221 : decode cX10_rota 221 = .ok (.iconst 1, 1) := by decide +kernel
theorem dX10_rota_222 : decode cX10_rota 222 = .ok (.iadd, 1) := by decide +kernel
theorem dX10_rota_223 : decode cX10_rota 223 = .ok (.iload_n 2, 1) := by decide +kernel
theorem dX10_rota_224 : decode cX10_rota 224 = .ok (.iconst 1, 1) := by decide +kernel
