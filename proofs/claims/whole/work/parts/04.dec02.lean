theorem dX9_habits_75 : decode cX9_habits 75 = .ok (.iconst 1, 1) := by decide +kernel
theorem dX9_habits_76 : decode cX9_habits 76 = .ok (.if_icmp .ne 11, 3) := by decide +kernel
theorem dX9_habits_79 : decode cX9_habits 79 = .ok (.bipush 100, 2) := by decide +kernel
theorem dX9_habits_81 : decode cX9_habits 81 = .ok (.iload_n 3, 1) := by decide +kernel
theorem dX9_habits_82 : decode cX9_habits 82 = .ok (.imul, 1) := by decide +kernel
theorem dX9_habits_83 : decode cX9_habits 83 = .ok (.iload 4, 2) := by decide +kernel
theorem dX9_habits_85 : decode cX9_habits 85 = .ok (.iadd, 1) := by decide +kernel
theorem dX9_habits_86 : decode cX9_habits 86 = .ok (.ireturn, 1) := by decide +kernel
theorem dX9_habits_87 : decode cX9_habits 87 = .ok (.iinc 2 1, 3) := by decide +kernel
theorem dX9_habits_90 : decode cX9_habits 90 = .ok (.iinc 4 1, 3) := by decide +kernel
theorem dX9_habits_93 : decode cX9_habits 93 = .ok (.goto (-50), 3) := by decide +kernel
theorem dX9_habits_96 : decode cX9_habits 96 = .ok (.iinc 3 1, 3) := by decide +kernel
theorem dX9_habits_99 : decode cX9_habits 99 = .ok (.goto (-70), 3) := by decide +kernel
theorem dX9_habits_102 : decode cX9_habits 102 = .ok (.iload_n 1, 1) := by decide +kernel
theorem dX9_habits_103 : decode cX9_habits 103 = .ok (.ifCond .ne 7, 3) := by decide +kernel
theorem dX9_habits_106 : decode cX9_habits 106 = .ok (.iload_n 2, 1) := by decide +kernel
theorem dX9_habits_107 : decode cX9_habits 107 = .ok (.goto 4, 3) := by decide +kernel
theorem dX9_habits_110 : decode cX9_habits 110 = .ok (.iconst (-1), 1) := by decide +kernel
theorem dX9_habits_111 : decode cX9_habits 111 = .ok (.ireturn, 1) := by decide +kernel
theorem dX9_next_0 : decode cX9_next 0 = .ok (.iload_n 1, 1) := by decide +kernel
theorem dX9_next_1 : decode cX9_next 1 = .ok (.iconst 1, 1) := by decide +kernel
theorem dX9_next_2 : decode cX9_next 2 = .ok (.invokestatic 221, 3) := by decide +kernel
theorem dX9_next_5 : decode cX9_next 5 = .ok (.aload_n 0, 1) := by decide +kernel
theorem dX9_next_6 : decode cX9_next 6 = .ok (.getfield 48, 3) := by decide +kernel
theorem dX9_next_9 : decode cX9_next 9 = .ok (.lconst 0, 1) := by decide +kernel
theorem dX9_next_10 : decode cX9_next 10 = .ok (.invokestatic 295, 3) := by decide +kernel
theorem dX9_next_13 : decode cX9_next 13 = .ok (.iconst 0, 1) := by decide +kernel
theorem dX9_next_14 : decode cX9_next 14 = .ok (.istore_n 2, 1) := by decide +kernel
theorem dX9_next_15 : decode cX9_next 15 = .ok (.iload_n 2, 1) := by decide +kernel
theorem dX9_next_16 : decode cX9_next 16 = .ok (.aload_n 0, 1) := by decide +kernel
theorem dX9_next_17 : decode cX9_next 17 = .ok (.getfield 55, 3) := by decide +kernel
theorem dX9_next_20 : decode cX9_next 20 = .ok (.getfield 99, 3) := by decide +kernel
theorem dX9_next_23 : decode cX9_next 23 = .ok (.if_icmp .ge 51, 3) := by decide +kernel
theorem dX9_next_26 : decode cX9_next 26 = .ok (.iconst 0, 1) := by decide +kernel
theorem dX9_next_27 : decode cX9_next 27 = .ok (.istore_n 3, 1) := by decide +kernel
theorem dX9_next_28 : decode cX9_next 28 = .ok (.iload_n 3, 1) := by decide +kernel
theorem dX9_next_29 : decode cX9_next 29 = .ok (.bipush 60, 2) := by decide +kernel
theorem dX9_next_31 : decode cX9_next 31 = .ok (.if_icmp .gt 37, 3) := by decide +kernel
theorem dX9_next_34 : decode cX9_next 34 = .ok (.iload_n 3, 1) := by decide +kernel
theorem dX9_next_35 : decode cX9_next 35 = .ok (.aload_n 0, 1) := by decide +kernel
theorem dX9_next_36 : decode cX9_next 36 = .ok (.getfield 55, 3) := by decide +kernel
theorem dX9_next_39 : decode cX9_next 39 = .ok (.getfield 150, 3) := by decide +kernel
theorem dX9_next_42 : decode cX9_next 42 = .ok (.iload_n 2, 1) := by decide +kernel
theorem dX9_next_43 : decode cX9_next 43 = .ok (.iaload, 1) := by decide +kernel
theorem dX9_next_44 : decode cX9_next 44 = .ok (.if_icmp .eq 18, 3) := by decide +kernel
theorem dX9_next_47 : decode cX9_next 47 = .ok (.aload_n 0, 1) := by decide +kernel
theorem dX9_next_48 : decode cX9_next 48 = .ok (.iload_n 2, 1) := by decide +kernel
theorem dX9_next_49 : decode cX9_next 49 = .ok (.iload_n 3, 1) := by decide +kernel
theorem dX9_next_50 : decode cX9_next 50 = .ok (.invokevirtual 292, 3) := by decide +kernel
theorem dX9_next_53 : decode cX9_next 53 = .ok (.ifCond .eq 9, 3) := by decide +kernel
theorem dX9_next_56 : decode cX9_next 56 = .ok (.aload_n 0, 1) := by decide +kernel
theorem dX9_next_57 : decode cX9_next 57 = .ok (.iload_n 2, 1) := by decide +kernel
theorem dX9_next_58 : decode cX9_next 58 = .ok (.iload_n 3, 1) := by decide +kernel
theorem dX9_next_59 : decode cX9_next 59 = .ok (.invokevirtual 301, 3) := by decide +kernel
theorem dX9_next_62 : decode cX9_next 62 = .ok (.iinc 3 1, 3) := by decide +kernel
theorem dX9_next_65 : decode cX9_next 65 = .ok (.goto (-37), 3) := by decide +kernel
theorem dX9_next_68 : decode cX9_next 68 = .ok (.iinc 2 1, 3) := by decide +kernel
theorem dX9_next_71 : decode cX9_next 71 = .ok (.goto (-56), 3) := by decide +kernel
theorem dX9_next_74 : decode cX9_next 74 = .ok (.iconst (-1), 1) := by decide +kernel
theorem dX9_next_75 : decode cX9_next 75 = .ok (.istore_n 2, 1) := by decide +kernel
theorem dX9_next_76 : decode cX9_next 76 = .ok (.iconst 0, 1) := by decide +kernel
theorem dX9_next_77 : decode cX9_next 77 = .ok (.istore_n 3, 1) := by decide +kernel
theorem dX9_next_78 : decode cX9_next 78 = .ok (.iconst 0, 1) := by decide +kernel
theorem dX9_next_79 : decode cX9_next 79 = .ok (.istore 4, 2) := by decide +kernel
theorem dX9_next_81 : decode cX9_next 81 = .ok (.iload 4, 2) := by decide +kernel
theorem dX9_next_83 : decode cX9_next 83 = .ok (.aload_n 0, 1) := by decide +kernel
theorem dX9_next_84 : decode cX9_next 84 = .ok (.getfield 55, 3) := by decide +kernel
theorem dX9_next_87 : decode cX9_next 87 = .ok (.getfield 102, 3) := by decide +kernel
theorem dX9_next_90 : decode cX9_next 90 = .ok (.if_icmp .ge 50, 3) := by decide +kernel
theorem dX9_next_93 : decode cX9_next 93 = .ok (.aload_n 0, 1) := by decide +kernel
theorem dX9_next_94 : decode cX9_next 94 = .ok (.getfield 48, 3) := by decide +kernel
theorem dX9_next_97 : decode cX9_next 97 = .ok (.iconst 2, 1) := by decide +kernel
theorem dX9_next_98 : decode cX9_next 98 = .ok (.iload 4, 2) := by decide +kernel
theorem dX9_next_100 : decode cX9_next 100 = .ok (.imul, 1) := by decide +kernel
theorem dX9_next_101 : decode cX9_next 101 = .ok (.laload, 1) := by decide +kernel
theorem dX9_next_102 : decode cX9_next 102 = .ok (.invokestatic 304, 3) := by decide +kernel
theorem dX9_next_105 : decode cX9_next 105 = .ok (.aload_n 0, 1) := by decide +kernel
theorem dX9_next_106 : decode cX9_next 106 = .ok (.getfield 48, 3) := by decide +kernel
theorem dX9_next_109 : decode cX9_next 109 = .ok (.iconst 2, 1) := by decide +kernel
theorem dX9_next_110 : decode cX9_next 110 = .ok (.iload 4, 2) := by decide +kernel
theorem dX9_next_112 : decode cX9_next 112 = .ok (.imul, 1) := by decide +kernel
theorem dX9_next_113 : decode cX9_next 113 = .ok (.iconst 1, 1) := by decide +kernel
theorem dX9_next_114 : decode cX9_next 114 = .ok (.iadd, 1) := by decide +kernel
theorem dX9_next_115 : decode cX9_next 115 = .ok (.laload, 1) := by decide +kernel
theorem dX9_next_116 : decode cX9_next 116 = .ok (.invokestatic 304, 3) := by decide +kernel
theorem dX9_next_119 : decode cX9_next 119 = .ok (.iadd, 1) := by decide +kernel
theorem dX9_next_120 : decode cX9_next 120 = .ok (.istore 5, 2) := by decide +kernel
theorem dX9_next_122 : decode cX9_next 122 = .ok (.iload 5, 2) := by decide +kernel
theorem dX9_next_124 : decode cX9_next 124 = .ok (.iload_n 3, 1) := by decide +kernel
theorem dX9_next_125 : decode cX9_next 125 = .ok (.if_icmp .le 9, 3) := by decide +kernel
theorem dX9_next_128 : decode cX9_next 128 = .ok (.iload 4, 2) := by decide +kernel
theorem dX9_next_130 : decode cX9_next 130 = .ok (.istore_n 2, 1) := by decide +kernel
theorem dX9_next_131 : decode cX9_next 131 = .ok (.iload 5, 2) := by decide +kernel
theorem dX9_next_133 : decode cX9_next 133 = .ok (.istore_n 3, 1) := by decide +kernel
theorem dX9_next_134 : decode cX9_next 134 = .ok (.iinc 4 1, 3) := by decide +kernel
theorem dX9_next_137 : decode cX9_next 137 = .ok (.goto (-56), 3) := by decide +kernel
theorem dX9_next_140 : decode cX9_next 140 = .ok (.iload_n 1, 1) := by decide +kernel
theorem dX9_next_141 : decode cX9_next 141 = .ok (.ifCond .ne 7, 3) := by decide +kernel
theorem dX9_next_144 : decode cX9_next 144 = .ok (.iload_n 2, 1) := by decide +kernel
theorem dX9_next_145 : decode cX9_next 145 = .ok (.goto 4, 3) := by decide +kernel
theorem dX9_next_148 : decode cX9_next 148 = .ok (.iload_n 3, 1) := by decide +kernel
theorem dX9_next_149 : decode cX9_next 149 = .ok (.ireturn, 1) := by decide +kernel
theorem dX9_snow_0 : decode cX9_snow 0 = .ok (.aload_n 0, 1) := by decide +kernel
theorem dX9_snow_1 : decode cX9_snow 1 = .ok (.iload_n 1, 1) := by decide +kernel
theorem dX9_snow_2 : decode cX9_snow 2 = .ok (.invokevirtual 147, 3) := by decide +kernel
theorem dX9_snow_5 : decode cX9_snow 5 = .ok (.iload_n 2, 1) := by decide +kernel
theorem dX9_snow_6 : decode cX9_snow 6 = .ok (.iconst 1, 1) := by decide +kernel
theorem dX9_snow_7 : decode cX9_snow 7 = .ok (.iconst 5, 1) := by decide +kernel
theorem dX9_snow_8 : decode cX9_snow 8 = .ok (.invokestatic 224, 3) := by decide +kernel
theorem dX9_snow_11 : decode cX9_snow 11 = .ok (.iload_n 3, 1) := by decide +kernel
theorem dX9_snow_12 : decode cX9_snow 12 = .ok (.iconst 0, 1) := by decide +kernel
theorem dX9_snow_13 : decode cX9_snow 13 = .ok (.bipush 10, 2) := by decide +kernel
theorem dX9_snow_15 : decode cX9_snow 15 = .ok (.invokestatic 224, 3) := by decide +kernel
theorem dX9_snow_18 : decode cX9_snow 18 = .ok (.iconst 0, 1) := by decide +kernel
theorem dX9_snow_19 : decode cX9_snow 19 = .ok (.istore 4, 2) := by decide +kernel
theorem dX9_snow_21 : decode cX9_snow 21 = .ok (.iconst 0, 1) := by decide +kernel
theorem dX9_snow_22 : decode cX9_snow 22 = .ok (.istore 5, 2) := by decide +kernel
theorem dX9_snow_24 : decode cX9_snow 24 = .ok (.iload 5, 2) := by decide +kernel
theorem dX9_snow_26 : decode cX9_snow 26 = .ok (.iconst 1, 1) := by decide +kernel
theorem dX9_snow_27 : decode cX9_snow 27 = .ok (.iload_n 2, 1) := by decide +kernel
theorem dX9_snow_28 : decode cX9_snow 28 = .ok (.ishl, 1) := by decide +kernel
theorem dX9_snow_29 : decode cX9_snow 29 = .ok (.if_icmp .ge 109, 3) := by decide +kernel
theorem dX9_snow_32 : decode cX9_snow 32 = .ok (.iconst 1, 1) := by decide +kernel
theorem dX9_snow_33 : decode cX9_snow 33 = .ok (.istore 6, 2) := by decide +kernel
theorem dX9_snow_35 : decode cX9_snow 35 = .ok (.aload_n 0, 1) := by decide +kernel
theorem dX9_snow_36 : decode cX9_snow 36 = .ok (.invokevirtual 193, 3) := by decide +kernel
theorem dX9_snow_39 : decode cX9_snow 39 = .ok (.astore 7, 2) := by decide +kernel
theorem dX9_snow_41 : decode cX9_snow 41 = .ok (.iconst 0, 1) := by decide +kernel
theorem dX9_snow_42 : decode cX9_snow 42 = .ok (.istore 8, 2) := by decide +kernel
theorem dX9_snow_44 : decode cX9_snow 44 = .ok (.iload 8, 2) := by decide +kernel
theorem dX9_snow_46 : decode cX9_snow 46 = .ok (.iload_n 2, 1) := by decide +kernel
theorem dX9_snow_47 : decode cX9_snow 47 = .ok (.if_icmp .ge 66, 3) := by decide +kernel
theorem dX9_snow_50 : decode cX9_snow 50 = .ok (.iload 5, 2) := by decide +kernel
theorem dX9_snow_52 : decode cX9_snow 52 = .ok (.iload 8, 2) := by decide +kernel
theorem dX9_snow_54 : decode cX9_snow 54 = .ok (.ishr, 1) := by decide +kernel
theorem dX9_snow_55 : decode cX9_snow 55 = .ok (.iconst 1, 1) := by decide +kernel
theorem dX9_snow_56 : decode cX9_snow 56 = .ok (.iand, 1) := by decide +kernel
theorem dX9_snow_57 : decode cX9_snow 57 = .ok (.iconst 1, 1) := by decide +kernel
theorem dX9_snow_58 : decode cX9_snow 58 = .ok (.if_icmp .ne 7, 3) := by decide +kernel
theorem dX9_snow_61 : decode cX9_snow 61 = .ok (.iconst 1, 1) := by decide +kernel
theorem dX9_snow_62 : decode cX9_snow 62 = .ok (.goto 4, 3) := by decide +kernel
theorem dX9_snow_65 : decode cX9_snow 65 = .ok (.iconst 0, 1) := by decide +kernel
theorem dX9_snow_66 : decode cX9_snow 66 = .ok (.istore 9, 2) := by decide +kernel
theorem dX9_snow_68 : decode cX9_snow 68 = .ok (.iload 6, 2) := by decide +kernel
theorem dX9_snow_70 : decode cX9_snow 70 = .ok (.iload 9, 2) := by decide +kernel
theorem dX9_snow_72 : decode cX9_snow 72 = .ok (.ifCond .eq 7, 3) := by decide +kernel
theorem dX9_snow_75 : decode cX9_snow 75 = .ok (.iload_n 3, 1) := by decide +kernel
theorem dX9_snow_76 : decode cX9_snow 76 = .ok (.goto 7, 3) := by decide +kernel
theorem dX9_snow_79 : decode cX9_snow 79 = .ok (.bipush 10, 2) := by decide +kernel
theorem dX9_snow_81 : decode cX9_snow 81 = .ok (.iload_n 3, 1) := by decide +kernel
theorem dX9_snow_82 : decode cX9_snow 82 = .ok (.isub, 1) := by decide +kernel
theorem dX9_snow_83 : decode cX9_snow 83 = .ok (.imul, 1) := by decide +kernel
theorem dX9_snow_84 : decode cX9_snow 84 = .ok (.istore 6, 2) := by decide +kernel
theorem dX9_snow_86 : decode cX9_snow 86 = .ok (.aload 7, 2) := by decide +kernel
theorem dX9_snow_88 : decode cX9_snow 88 = .ok (.iload 9, 2) := by decide +kernel
theorem dX9_snow_90 : decode cX9_snow 90 = .ok (.ifCond .eq 8, 3) := by decide +kernel
theorem dX9_snow_93 : decode cX9_snow 93 = .ok (.bipush 15, 2) := by decide +kernel
theorem dX9_snow_95 : decode cX9_snow 95 = .ok (.goto 4, 3) := by decide +kernel
theorem dX9_snow_98 : decode cX9_snow 98 = .ok (.iconst 0, 1) := by decide +kernel
theorem dX9_snow_99 : decode cX9_snow 99 = .ok (.putfield 309, 3) := by decide +kernel
theorem dX9_snow_102 : decode cX9_snow 102 = .ok (.aload 7, 2) := by decide +kernel
theorem dX9_snow_104 : decode cX9_snow 104 = .ok (.invokevirtual 234, 3) := by decide +kernel
theorem dX9_snow_107 : decode cX9_snow 107 = .ok (.iinc 8 1, 3) := by decide +kernel
theorem dX9_snow_110 : decode cX9_snow 110 = .ok (.goto (-66), 3) := by decide +kernel
theorem dX9_snow_113 : decode cX9_snow 113 = .ok (.aload 7, 2) := by decide +kernel
theorem dX9_snow_115 : decode cX9_snow 115 = .ok (.getfield 200, 3) := by decide +kernel
theorem dX9_snow_118 : decode cX9_snow 118 = .ok (.invokevirtual 116, 3) := by decide +kernel
theorem dX9_snow_121 : decode cX9_snow 121 = .ok (.iload_n 1, 1) := by decide +kernel
theorem dX9_snow_122 : decode cX9_snow 122 = .ok (.if_icmp .ne 10, 3) := by decide +kernel
theorem dX9_snow_125 : decode cX9_snow 125 = .ok (.iload 4, 2) := by decide +kernel
theorem dX9_snow_127 : decode cX9_snow 127 = .ok (.iload 6, 2) := by decide +kernel
theorem dX9_snow_129 : decode cX9_snow 129 = .ok (.iadd, 1) := by decide +kernel
theorem dX9_snow_130 : decode cX9_snow 130 = .ok (.istore 4, 2) := by decide +kernel
theorem dX9_snow_132 : decode cX9_snow 132 = .ok (.iinc 5 1, 3) := by decide +kernel
theorem dX9_snow_135 : decode cX9_snow 135 = .ok (.goto (-111), 3) := by decide +kernel
theorem dX9_snow_138 : decode cX9_snow 138 = .ok (.iload 4, 2) := by decide +kernel
theorem dX9_snow_140 : decode cX9_snow 140 = .ok (.ireturn, 1) := by decide +kernel
theorem dX9_game_0 : decode cX9_game 0 = .ok (.aload_n 0, 1) := by decide +kernel
theorem dX9_game_1 : decode cX9_game 1 = .ok (.iload_n 1, 1) := by decide +kernel
theorem dX9_game_2 : decode cX9_game 2 = .ok (.invokevirtual 147, 3) := by decide +kernel
theorem dX9_game_5 : decode cX9_game 5 = .ok (.aload_n 0, 1) := by decide +kernel
theorem dX9_game_6 : decode cX9_game 6 = .ok (.iload_n 2, 1) := by decide +kernel
theorem dX9_game_7 : decode cX9_game 7 = .ok (.invokevirtual 147, 3) := by decide +kernel
theorem dX9_game_10 : decode cX9_game 10 = .ok (.iload_n 3, 1) := by decide +kernel
theorem dX9_game_11 : decode cX9_game 11 = .ok (.iconst 1, 1) := by decide +kernel
theorem dX9_game_12 : decode cX9_game 12 = .ok (.invokestatic 221, 3) := by decide +kernel
theorem dX9_game_15 : decode cX9_game 15 = .ok (.iload_n 1, 1) := by decide +kernel
theorem dX9_game_16 : decode cX9_game 16 = .ok (.iload_n 2, 1) := by decide +kernel
theorem dX9_game_17 : decode cX9_game 17 = .ok (.if_icmp .ne 14, 3) := by decide +kernel
theorem dX9_game_20 : decode cX9_game 20 = .ok (.new 80, 3) := by decide +kernel
theorem dX9_game_23 : decode cX9_game 23 = .ok (.dup, 1) := by decide +kernel
theorem dX9_game_24 : decode cX9_game 24 = .ok (.ldc_w 312, 3) := by decide +kernel
theorem dX9_game_27 : decode cX9_game 27 = .ok (.invokespecial 84, 3) := by decide +kernel
theorem dX9_game_30 : decode cX9_game 30 = .ok (.athrow, 1) := by decide +kernel
theorem dX9_game_31 : decode cX9_game 31 = .ok (.iconst 0, 1) := by decide +kernel
theorem dX9_game_32 : decode cX9_game 32 = .ok (.istore 4, 2) := by decide +kernel
theorem dX9_game_34 : decode cX9_game 34 = .ok (.iload 4, 2) := by decide +kernel
theorem dX9_game_36 : decode cX9_game 36 = .ok (.iconst 4, 1) := by decide +kernel
theorem dX9_game_37 : decode cX9_game 37 = .ok (.if_icmp .ge 17, 3) := by decide +kernel
theorem dX9_game_40 : decode cX9_game 40 = .ok (.aload_n 0, 1) := by decide +kernel
theorem dX9_game_41 : decode cX9_game 41 = .ok (.iload_n 1, 1) := by decide +kernel
theorem dX9_game_42 : decode cX9_game 42 = .ok (.iload_n 2, 1) := by decide +kernel
theorem dX9_game_43 : decode cX9_game 43 = .ok (.iload 4, 2) := by decide +kernel
theorem dX9_game_45 : decode cX9_game 45 = .ok (.invokevirtual 314, 3) := by decide +kernel
theorem dX9_game_48 : decode cX9_game 48 = .ok (.iinc 4 1, 3) := by decide +kernel
theorem dX9_game_51 : decode cX9_game 51 = .ok (.goto (-17), 3) := by decide +kernel
theorem dX9_game_54 : decode cX9_game 54 = .ok (.iconst 0, 1) := by decide +kernel
theorem dX9_game_55 : decode cX9_game 55 = .ok (.istore 4, 2) := by decide +kernel
theorem dX9_game_57 : decode cX9_game 57 = .ok (.iconst (-1), 1) := by decide +kernel
theorem dX9_game_58 : decode cX9_game 58 = .ok (.istore 5, 2) := by decide +kernel
theorem dX9_game_60 : decode cX9_game 60 = .ok (.iconst 0, 1) := by decide +kernel
theorem dX9_game_61 : decode cX9_game 61 = .ok (.istore 6, 2) := by decide +kernel
theorem dX9_game_63 : decode cX9_game 63 = .ok (.iload 6, 2) := by decide +kernel
theorem dX9_game_65 : decode cX9_game 65 = .ok (.iconst 4, 1) := by decide +kernel
theorem dX9_game_66 : decode cX9_game 66 = .ok (.if_icmp .ge 87, 3) := by decide +kernel
theorem dX9_game_69 : decode cX9_game 69 = .ok (.aload_n 0, 1) := by decide +kernel
theorem dX9_game_70 : decode cX9_game 70 = .ok (.getfield 45, 3) := by decide +kernel
theorem dX9_game_73 : decode cX9_game 73 = .ok (.iconst 2, 1) := by decide +kernel
theorem dX9_game_74 : decode cX9_game 74 = .ok (.iload 6, 2) := by decide +kernel
theorem dX9_game_76 : decode cX9_game 76 = .ok (.imul, 1) := by decide +kernel
theorem dX9_game_77 : decode cX9_game 77 = .ok (.iaload, 1) := by decide +kernel
theorem dX9_game_78 : decode cX9_game 78 = .ok (.aload_n 0, 1) := by decide +kernel
theorem dX9_game_79 : decode cX9_game 79 = .ok (.getfield 45, 3) := by decide +kernel
theorem dX9_game_82 : decode cX9_game 82 = .ok (.iconst 2, 1) := by decide +kernel
theorem dX9_game_83 : decode cX9_game 83 = .ok (.iload 6, 2) := by decide +kernel
theorem dX9_game_85 : decode cX9_game 85 = .ok (.iconst 2, 1) := by decide +kernel
theorem dX9_game_86 : decode cX9_game 86 = .ok (.ixor, 1) := by decide +kernel
theorem dX9_game_87 : decode cX9_game 87 = .ok (.imul, 1) := by decide +kernel
theorem dX9_game_88 : decode cX9_game 88 = .ok (.iaload, 1) := by decide +kernel
theorem dX9_game_89 : decode cX9_game 89 = .ok (.if_icmp .lt 58, 3) := by decide +kernel
theorem dX9_game_92 : decode cX9_game 92 = .ok (.aload_n 0, 1) := by decide +kernel
theorem dX9_game_93 : decode cX9_game 93 = .ok (.getfield 45, 3) := by decide +kernel
theorem dX9_game_96 : decode cX9_game 96 = .ok (.iconst 2, 1) := by decide +kernel
theorem dX9_game_97 : decode cX9_game 97 = .ok (.iload 6, 2) := by decide +kernel
theorem dX9_game_99 : decode cX9_game 99 = .ok (.imul, 1) := by decide +kernel
theorem dX9_game_100 : decode cX9_game 100 = .ok (.iconst 1, 1) := by decide +kernel
theorem dX9_game_101 : decode cX9_game 101 = .ok (.iadd, 1) := by decide +kernel
theorem dX9_game_102 : decode cX9_game 102 = .ok (.iaload, 1) := by decide +kernel
theorem dX9_game_103 : decode cX9_game 103 = .ok (.aload_n 0, 1) := by decide +kernel
theorem dX9_game_104 : decode cX9_game 104 = .ok (.getfield 45, 3) := by decide +kernel
theorem dX9_game_107 : decode cX9_game 107 = .ok (.iconst 2, 1) := by decide +kernel
theorem dX9_game_108 : decode cX9_game 108 = .ok (.iload 6, 2) := by decide +kernel
theorem dX9_game_110 : decode cX9_game 110 = .ok (.iconst 1, 1) := by decide +kernel
theorem dX9_game_111 : decode cX9_game 111 = .ok (.ixor, 1) := by decide +kernel
theorem dX9_game_112 : decode cX9_game 112 = .ok (.imul, 1) := by decide +kernel
theorem dX9_game_113 : decode cX9_game 113 = .ok (.iconst 1, 1) := by decide +kernel
theorem dX9_game_114 : decode cX9_game 114 = .ok (.iadd, 1) := by decide +kernel
theorem dX9_game_115 : decode cX9_game 115 = .ok (.iaload, 1) := by decide +kernel
theorem dX9_game_116 : decode cX9_game 116 = .ok (.if_icmp .lt 31, 3) := by decide +kernel
theorem dX9_game_119 : decode cX9_game 119 = .ok (.iinc 4 1, 3) := by decide +kernel
theorem dX9_game_122 : decode cX9_game 122 = .ok (.iload 5, 2) := by decide +kernel
theorem dX9_game_124 : decode cX9_game 124 = .ok (.iconst (-1), 1) := by decide +kernel
theorem dX9_game_125 : decode cX9_game 125 = .ok (.if_icmp .ne 18, 3) := by decide +kernel
theorem dX9_game_128 : decode cX9_game 128 = .ok (.bipush 10, 2) := by decide +kernel
theorem dX9_game_130 : decode cX9_game 130 = .ok (.iload 6, 2) := by decide +kernel
theorem dX9_game_132 : decode cX9_game 132 = .ok (.iconst 1, 1) := by decide +kernel
theorem dX9_game_133 : decode cX9_game 133 = .ok (.ishr, 1) := by decide +kernel
theorem dX9_game_134 : decode cX9_game 134 = .ok (.imul, 1) := by decide +kernel
theorem dX9_game_135 : decode cX9_game 135 = .ok (.iload 6, 2) := by decide +kernel
theorem dX9_game_137 : decode cX9_game 137 = .ok (.iconst 1, 1) := by decide +kernel
theorem dX9_game_138 : decode cX9_game 138 = .ok (.iand, 1) := by decide +kernel
theorem dX9_game_139 : decode cX9_game 139 = .ok (.iadd, 1) := by decide +kernel
theorem dX9_game_140 : decode cX9_game 140 = .ok (.goto 5, 3) := by decide +kernel
theorem dX9_game_143 : decode cX9_game 143 = .ok (.iload 5, 2) := by decide +kernel
theorem dX9_game_145 : decode cX9_game 145 = .ok (.istore 5, 2) := by decide +kernel
theorem dX9_game_147 : decode cX9_game 147 = .ok (.iinc 6 1, 3) := by decide +kernel
theorem dX9_game_150 : decode cX9_game 150 = .ok (.goto (-87), 3) := by decide +kernel
theorem dX9_game_153 : decode cX9_game 153 = .ok (.iload_n 3, 1) := by decide +kernel
theorem dX9_game_154 : decode cX9_game 154 = .ok (.ifCond .ne 8, 3) := by decide +kernel
theorem dX9_game_157 : decode cX9_game 157 = .ok (.iload 4, 2) := by decide +kernel
theorem dX9_game_159 : decode cX9_game 159 = .ok (.goto 5, 3) := by decide +kernel
theorem dX9_game_162 : decode cX9_game 162 = .ok (.iload 5, 2) := by decide +kernel
theorem dX9_game_164 : decode cX9_game 164 = .ok (.ireturn, 1) := by decide +kernel
theorem dX9_years_0 : decode cX9_years 0 = .ok (.iload_n 3, 1) := by decide +kernel
theorem dX9_years_1 : decode cX9_years 1 = .ok (.iconst 2, 1) := by decide +kernel
theorem dX9_years_2 : decode cX9_years 2 = .ok (.invokestatic 221, 3) := by decide +kernel
theorem dX9_years_5 : decode cX9_years 5 = .ok (.iload_n 2, 1) := by decide +kernel
theorem dX9_years_6 : decode cX9_years 6 = .ok (.iconst 0, 1) := by decide +kernel
theorem dX9_years_7 : decode cX9_years 7 = .ok (.bipush 40, 2) := by decide +kernel
theorem dX9_years_9 : decode cX9_years 9 = .ok (.invokestatic 224, 3) := by decide +kernel
theorem dX9_years_12 : decode cX9_years 12 = .ok (.aload_n 0, 1) := by decide +kernel
theorem dX9_years_13 : decode cX9_years 13 = .ok (.invokevirtual 193, 3) := by decide +kernel
theorem dX9_years_16 : decode cX9_years 16 = .ok (.astore 4, 2) := by decide +kernel
theorem dX9_years_18 : decode cX9_years 18 = .ok (.iload_n 1, 1) := by decide +kernel
theorem dX9_years_19 : decode cX9_years 19 = .ok (.istore 5, 2) := by decide +kernel
theorem dX9_years_21 : decode cX9_years 21 = .ok (.iconst 0, 1) := by decide +kernel
theorem dX9_years_22 : decode cX9_years 22 = .ok (.istore 6, 2) := by decide +kernel
theorem dX9_years_24 : decode cX9_years 24 = .ok (.iconst 0, 1) := by decide +kernel
theorem dX9_years_25 : decode cX9_years 25 = .ok (.istore 7, 2) := by decide +kernel
theorem dX9_years_27 : decode cX9_years 27 = .ok (.iload 7, 2) := by decide +kernel
theorem dX9_years_29 : decode cX9_years 29 = .ok (.iload_n 2, 1) := by decide +kernel
theorem dX9_years_30 : decode cX9_years 30 = .ok (.if_icmp .ge 77, 3) := by decide +kernel
theorem dX9_years_33 : decode cX9_years 33 = .ok (.aload_n 0, 1) := by decide +kernel
theorem dX9_years_34 : decode cX9_years 34 = .ok (.getfield 55, 3) := by decide +kernel
theorem dX9_years_37 : decode cX9_years 37 = .ok (.getfield 99, 3) := by decide +kernel
theorem dX9_years_40 : decode cX9_years 40 = .ok (.ifCond .le 46, 3) := by decide +kernel
theorem dX9_years_43 : decode cX9_years 43 = .ok (.iload 5, 2) := by decide +kernel
theorem dX9_years_45 : decode cX9_years 45 = .ok (.invokestatic 317, 3) := by decide +kernel
theorem dX9_years_48 : decode cX9_years 48 = .ok (.istore 5, 2) := by decide +kernel
theorem dX9_years_50 : decode cX9_years 50 = .ok (.iload 5, 2) := by decide +kernel
theorem dX9_years_52 : decode cX9_years 52 = .ok (.invokestatic 320, 3) := by decide +kernel
theorem dX9_years_55 : decode cX9_years 55 = .ok (.aload_n 0, 1) := by decide +kernel
theorem dX9_years_56 : decode cX9_years 56 = .ok (.getfield 55, 3) := by decide +kernel
theorem dX9_years_59 : decode cX9_years 59 = .ok (.getfield 99, 3) := by decide +kernel
theorem dX9_years_62 : decode cX9_years 62 = .ok (.irem, 1) := by decide +kernel
theorem dX9_years_63 : decode cX9_years 63 = .ok (.istore 8, 2) := by decide +kernel
theorem dX9_years_65 : decode cX9_years 65 = .ok (.iload 5, 2) := by decide +kernel
theorem dX9_years_67 : decode cX9_years 67 = .ok (.invokestatic 317, 3) := by decide +kernel
theorem dX9_years_70 : decode cX9_years 70 = .ok (.istore 5, 2) := by decide +kernel
theorem dX9_years_72 : decode cX9_years 72 = .ok (.aload 4, 2) := by decide +kernel
theorem dX9_years_74 : decode cX9_years 74 = .ok (.iload 8, 2) := by decide +kernel
theorem dX9_years_76 : decode cX9_years 76 = .ok (.iload 5, 2) := by decide +kernel
theorem dX9_years_78 : decode cX9_years 78 = .ok (.invokestatic 320, 3) := by decide +kernel
theorem dX9_years_81 : decode cX9_years 81 = .ok (.iconst 5, 1) := by decide +kernel
theorem dX9_years_82 : decode cX9_years 82 = .ok (.irem, 1) := by decide +kernel
theorem dX9_years_83 : decode cX9_years 83 = .ok (.invokevirtual 323, 3) := by decide +kernel
theorem dX9_years_86 : decode cX9_years 86 = .ok (.aload 4, 2) := by decide +kernel
theorem dX9_years_88 : decode cX9_years 88 = .ok (.invokevirtual 234, 3) := by decide +kernel
theorem dX9_years_91 : decode cX9_years 91 = .ok (.iload 6, 2) := by decide +kernel
theorem dX9_years_93 : decode cX9_years 93 = .ok (.aload 4, 2) := by decide +kernel
theorem dX9_years_95 : decode cX9_years 95 = .ok (.invokevirtual 326, 3) := by decide +kernel
theorem dX9_years_98 : decode cX9_years 98 = .ok (.iadd, 1) := by decide +kernel
theorem dX9_years_99 : decode cX9_years 99 = .ok (.istore 6, 2) := by decide +kernel
theorem dX9_years_101 : decode cX9_years 101 = .ok (.iinc 7 1, 3) := by decide +kernel
theorem dX9_years_104 : decode cX9_years 104 = .ok (.goto (-77), 3) := by decide +kernel
theorem dX9_years_107 : decode cX9_years 107 = .ok (.iload_n 3, 1) := by decide +kernel
theorem dX9_years_108 : decode cX9_years 108 = .ok (.lookupswitch 41 #[(0, 28), (1, 38)], 28) := by decide +kernel
theorem dX9_years_136 : decode cX9_years 136 = .ok (.aload_n 0, 1) := by decide +kernel
theorem dX9_years_137 : decode cX9_years 137 = .ok (.aload 4, 2) := by decide +kernel
theorem dX9_years_139 : decode cX9_years 139 = .ok (.getfield 200, 3) := by decide +kernel
theorem dX9_years_142 : decode cX9_years 142 = .ok (.invokevirtual 329, 3) := by decide +kernel
theorem dX9_years_145 : decode cX9_years 145 = .ok (.ireturn, 1) := by decide +kernel
theorem dX9_years_146 : decode cX9_years 146 = .ok (.iload 6, 2) := by decide +kernel
theorem dX9_years_148 : decode cX9_years 148 = .ok (.ireturn, 1) := by decide +kernel
theorem dX9_years_149 : decode cX9_years 149 = .ok (.aload_n 0, 1) := by decide +kernel
theorem dX9_years_150 : decode cX9_years 150 = .ok (.aload 4, 2) := by decide +kernel
theorem dX9_years_152 : decode cX9_years 152 = .ok (.getfield 200, 3) := by decide +kernel
theorem dX9_years_155 : decode cX9_years 155 = .ok (.invokevirtual 122, 3) := by decide +kernel
theorem dX9_years_158 : decode cX9_years 158 = .ok (.ireturn, 1) := by decide +kernel
theorem dX9_coming_0 : decode cX9_coming 0 = .ok (.aload_n 0, 1) := by decide +kernel
theorem dX9_coming_1 : decode cX9_coming 1 = .ok (.iload_n 1, 1) := by decide +kernel
theorem dX9_coming_2 : decode cX9_coming 2 = .ok (.invokevirtual 175, 3) := by decide +kernel
theorem dX9_coming_5 : decode cX9_coming 5 = .ok (.iload_n 3, 1) := by decide +kernel
theorem dX9_coming_6 : decode cX9_coming 6 = .ok (.iconst 1, 1) := by decide +kernel
theorem dX9_coming_7 : decode cX9_coming 7 = .ok (.invokestatic 221, 3) := by decide +kernel
theorem dX9_coming_10 : decode cX9_coming 10 = .ok (.iload_n 2, 1) := by decide +kernel
theorem dX9_coming_11 : decode cX9_coming 11 = .ok (.ifCond .ge 14, 3) := by decide +kernel
theorem dX9_coming_14 : decode cX9_coming 14 = .ok (.new 142, 3) := by decide +kernel
theorem dX9_coming_17 : decode cX9_coming 17 = .ok (.dup, 1) := by decide +kernel
theorem dX9_coming_18 : decode cX9_coming 18 = .ok (.ldc_w 332, 3) := by decide +kernel
theorem dX9_coming_21 : decode cX9_coming 21 = .ok (.invokespecial 146, 3) := by decide +kernel
theorem dX9_coming_24 : decode cX9_coming 24 = .ok (.athrow, 1) := by decide +kernel
theorem dX9_coming_25 : decode cX9_coming 25 = .ok (.aload_n 0, 1) := by decide +kernel
theorem dX9_coming_26 : decode cX9_coming 26 = .ok (.iload_n 1, 1) := by decide +kernel
theorem dX9_coming_27 : decode cX9_coming 27 = .ok (.invokevirtual 251, 3) := by decide +kernel
theorem dX9_coming_30 : decode cX9_coming 30 = .ok (.astore 4, 2) := by decide +kernel
theorem dX9_coming_32 : decode cX9_coming 32 = .ok (.iconst 0, 1) := by decide +kernel
theorem dX9_coming_33 : decode cX9_coming 33 = .ok (.istore 5, 2) := by decide +kernel
theorem dX9_coming_35 : decode cX9_coming 35 = .ok (.iload 5, 2) := by decide +kernel
theorem dX9_coming_37 : decode cX9_coming 37 = .ok (.aload_n 0, 1) := by decide +kernel
theorem dX9_coming_38 : decode cX9_coming 38 = .ok (.getfield 55, 3) := by decide +kernel
theorem dX9_coming_41 : decode cX9_coming 41 = .ok (.getfield 99, 3) := by decide +kernel
theorem dX9_coming_44 : decode cX9_coming 44 = .ok (.if_icmp .ge 50, 3) := by decide +kernel
theorem dX9_coming_47 : decode cX9_coming 47 = .ok (.aload 4, 2) := by decide +kernel
theorem dX9_coming_49 : decode cX9_coming 49 = .ok (.getfield 261, 3) := by decide +kernel
theorem dX9_coming_52 : decode cX9_coming 52 = .ok (.iload 5, 2) := by decide +kernel
theorem dX9_coming_54 : decode cX9_coming 54 = .ok (.iaload, 1) := by decide +kernel
theorem dX9_coming_55 : decode cX9_coming 55 = .ok (.iconst (-1), 1) := by decide +kernel
theorem dX9_coming_56 : decode cX9_coming 56 = .ok (.if_icmp .eq 32, 3) := by decide +kernel
theorem dX9_coming_59 : decode cX9_coming 59 = .ok (.aload 4, 2) := by decide +kernel
theorem dX9_coming_61 : decode cX9_coming 61 = .ok (.iload 5, 2) := by decide +kernel
theorem dX9_coming_63 : decode cX9_coming 63 = .ok (.invokevirtual 334, 3) := by decide +kernel
theorem dX9_coming_66 : decode cX9_coming 66 = .ok (.iload_n 2, 1) := by decide +kernel
theorem dX9_coming_67 : decode cX9_coming 67 = .ok (.if_icmp .ne 21, 3) := by decide +kernel
theorem dX9_coming_70 : decode cX9_coming 70 = .ok (.iload_n 3, 1) := by decide +kernel
theorem dX9_coming_71 : decode cX9_coming 71 = .ok (.ifCond .ne 8, 3) := by decide +kernel
theorem dX9_coming_74 : decode cX9_coming 74 = .ok (.iload 5, 2) := by decide +kernel
theorem dX9_coming_76 : decode cX9_coming 76 = .ok (.goto 11, 3) := by decide +kernel
theorem dX9_coming_79 : decode cX9_coming 79 = .ok (.aload 4, 2) := by decide +kernel
theorem dX9_coming_81 : decode cX9_coming 81 = .ok (.getfield 261, 3) := by decide +kernel
theorem dX9_coming_84 : decode cX9_coming 84 = .ok (.iload 5, 2) := by decide +kernel
theorem dX9_coming_86 : decode cX9_coming 86 = .ok (.iaload, 1) := by decide +kernel
theorem dX9_coming_87 : decode cX9_coming 87 = .ok (.ireturn, 1) := by decide +kernel
theorem dX9_coming_88 : decode cX9_coming 88 = .ok (.iinc 5 1, 3) := by decide +kernel
theorem dX9_coming_91 : decode cX9_coming 91 = .ok (.goto (-56), 3) := by decide +kernel
theorem dX9_coming_94 : decode cX9_coming 94 = .ok (.iconst (-1), 1) := by decide +kernel
theorem dX9_coming_95 : decode cX9_coming 95 = .ok (.ireturn, 1) := by decide +kernel
theorem dX9_spread_0 : decode cX9_spread 0 = .ok (.aload_n 0, 1) := by decide +kernel
theorem dX9_spread_1 : decode cX9_spread 1 = .ok (.iload_n 1, 1) := by decide +kernel
theorem dX9_spread_2 : decode cX9_spread 2 = .ok (.invokevirtual 175, 3) := by decide +kernel
theorem dX9_spread_5 : decode cX9_spread 5 = .ok (.aload_n 0, 1) := by decide +kernel
theorem dX9_spread_6 : decode cX9_spread 6 = .ok (.iload_n 1, 1) := by decide +kernel
theorem dX9_spread_7 : decode cX9_spread 7 = .ok (.invokevirtual 251, 3) := by decide +kernel
theorem dX9_spread_10 : decode cX9_spread 10 = .ok (.astore_n 2, 1) := by decide +kernel
theorem dX9_spread_11 : decode cX9_spread 11 = .ok (.iconst (-1), 1) := by decide +kernel
theorem dX9_spread_12 : decode cX9_spread 12 = .ok (.istore_n 3, 1) := by decide +kernel
theorem dX9_spread_13 : decode cX9_spread 13 = .ok (.iconst (-1), 1) := by decide +kernel
theorem dX9_spread_14 : decode cX9_spread 14 = .ok (.istore 4, 2) := by decide +kernel
theorem dX9_spread_16 : decode cX9_spread 16 = .ok (.iconst 0, 1) := by decide +kernel
theorem dX9_spread_17 : decode cX9_spread 17 = .ok (.istore 5, 2) := by decide +kernel
theorem dX9_spread_19 : decode cX9_spread 19 = .ok (.iload 5, 2) := by decide +kernel
theorem dX9_spread_21 : decode cX9_spread 21 = .ok (.aload_n 0, 1) := by decide +kernel
theorem dX9_spread_22 : decode cX9_spread 22 = .ok (.getfield 55, 3) := by decide +kernel
theorem dX9_spread_25 : decode cX9_spread 25 = .ok (.getfield 99, 3) := by decide +kernel
theorem dX9_spread_28 : decode cX9_spread 28 = .ok (.if_icmp .ge 50, 3) := by decide +kernel
theorem dX9_spread_31 : decode cX9_spread 31 = .ok (.aload_n 2, 1) := by decide +kernel
theorem dX9_spread_32 : decode cX9_spread 32 = .ok (.getfield 261, 3) := by decide +kernel
theorem dX9_spread_35 : decode cX9_spread 35 = .ok (.iload 5, 2) := by decide +kernel
theorem dX9_spread_37 : decode cX9_spread 37 = .ok (.iaload, 1) := by decide +kernel
theorem dX9_spread_38 : decode cX9_spread 38 = .ok (.istore 6, 2) := by decide +kernel
theorem dX9_spread_40 : decode cX9_spread 40 = .ok (.iload 6, 2) := by decide +kernel
theorem dX9_spread_42 : decode cX9_spread 42 = .ok (.iconst (-1), 1) := by decide +kernel
theorem dX9_spread_43 : decode cX9_spread 43 = .ok (.if_icmp .eq 29, 3) := by decide +kernel
theorem dX9_spread_46 : decode cX9_spread 46 = .ok (.iload_n 3, 1) := by decide +kernel
theorem dX9_spread_47 : decode cX9_spread 47 = .ok (.iconst (-1), 1) := by decide +kernel
theorem dX9_spread_48 : decode cX9_spread 48 = .ok (.if_icmp .ne 8, 3) := by decide +kernel
theorem dX9_spread_51 : decode cX9_spread 51 = .ok (.iload 6, 2) := by decide +kernel
theorem dX9_spread_53 : decode cX9_spread 53 = .ok (.goto 9, 3) := by decide +kernel
theorem dX9_spread_56 : decode cX9_spread 56 = .ok (.iload_n 3, 1) := by decide +kernel
theorem dX9_spread_57 : decode cX9_spread 57 = .ok (.iload 6, 2) := by decide +kernel
theorem dX9_spread_59 : decode cX9_spread 59 = .ok (.invokestatic 337, 3) := by decide +kernel
theorem dX9_spread_62 : decode cX9_spread 62 = .ok (.istore_n 3, 1) := by decide +kernel
theorem dX9_spread_63 : decode cX9_spread 63 = .ok (.iload 4, 2) := by decide +kernel
theorem dX9_spread_65 : decode cX9_spread 65 = .ok (.iload 6, 2) := by decide +kernel
theorem dX9_spread_67 : decode cX9_spread 67 = .ok (.invokestatic 264, 3) := by decide +kernel
theorem dX9_spread_70 : decode cX9_spread 70 = .ok (.istore 4, 2) := by decide +kernel
theorem dX9_spread_72 : decode cX9_spread 72 = .ok (.iinc 5 1, 3) := by decide +kernel
theorem dX9_spread_75 : decode cX9_spread 75 = .ok (.goto (-56), 3) := by decide +kernel
theorem dX9_spread_78 : decode cX9_spread 78 = .ok (.iload_n 3, 1) := by decide +kernel
theorem dX9_spread_79 : decode cX9_spread 79 = .ok (.iconst (-1), 1) := by decide +kernel
theorem dX9_spread_80 : decode cX9_spread 80 = .ok (.if_icmp .ne 7, 3) := by decide +kernel
theorem dX9_spread_83 : decode cX9_spread 83 = .ok (.iconst (-1), 1) := by decide +kernel
theorem dX9_spread_84 : decode cX9_spread 84 = .ok (.goto 7, 3) := by decide +kernel
theorem dX9_spread_87 : decode cX9_spread 87 = .ok (.iload 4, 2) := by decide +kernel
theorem dX9_spread_89 : decode cX9_spread 89 = .ok (.iload_n 3, 1) := by decide +kernel
theorem dX9_spread_90 : decode cX9_spread 90 = .ok (.isub, 1) := by decide +kernel
theorem dX9_spread_91 : decode cX9_spread 91 = .ok (.ireturn, 1) := by decide +kernel
theorem dX9_ahead_0 : decode cX9_ahead 0 = .ok (.aload_n 0, 1) := by decide +kernel
theorem dX9_ahead_1 : decode cX9_ahead 1 = .ok (.iload_n 1, 1) := by decide +kernel
theorem dX9_ahead_2 : decode cX9_ahead 2 = .ok (.invokevirtual 147, 3) := by decide +kernel
theorem dX9_ahead_5 : decode cX9_ahead 5 = .ok (.aload_n 0, 1) := by decide +kernel
theorem dX9_ahead_6 : decode cX9_ahead 6 = .ok (.iload_n 2, 1) := by decide +kernel
theorem dX9_ahead_7 : decode cX9_ahead 7 = .ok (.invokevirtual 175, 3) := by decide +kernel
theorem dX9_ahead_10 : decode cX9_ahead 10 = .ok (.aload_n 0, 1) := by decide +kernel
theorem dX9_ahead_11 : decode cX9_ahead 11 = .ok (.iload_n 2, 1) := by decide +kernel
theorem dX9_ahead_12 : decode cX9_ahead 12 = .ok (.invokevirtual 251, 3) := by decide +kernel
theorem dX9_ahead_15 : decode cX9_ahead 15 = .ok (.astore_n 3, 1) := by decide +kernel
theorem dX9_ahead_16 : decode cX9_ahead 16 = .ok (.aload_n 3, 1) := by decide +kernel
theorem dX9_ahead_17 : decode cX9_ahead 17 = .ok (.getfield 261, 3) := by decide +kernel
theorem dX9_ahead_20 : decode cX9_ahead 20 = .ok (.iload_n 1, 1) := by decide +kernel
theorem dX9_ahead_21 : decode cX9_ahead 21 = .ok (.iaload, 1) := by decide +kernel
theorem dX9_ahead_22 : decode cX9_ahead 22 = .ok (.iconst (-1), 1) := by decide +kernel
theorem dX9_ahead_23 : decode cX9_ahead 23 = .ok (.if_icmp .ne 5, 3) := by decide +kernel
theorem dX9_ahead_26 : decode cX9_ahead 26 = .ok (.iconst (-1), 1) := by decide +kernel
theorem dX9_ahead_27 : decode cX9_ahead 27 = .ok (.ireturn, 1) := by decide +kernel
theorem dX9_ahead_28 : decode cX9_ahead 28 = .ok (.iconst 0, 1) := by decide +kernel
theorem dX9_ahead_29 : decode cX9_ahead 29 = .ok (.istore 4, 2) := by decide +kernel
theorem dX9_ahead_31 : decode cX9_ahead 31 = .ok (.iconst 0, 1) := by decide +kernel
theorem dX9_ahead_32 : decode cX9_ahead 32 = .ok (.istore 5, 2) := by decide +kernel
theorem dX9_ahead_34 : decode cX9_ahead 34 = .ok (.iload 5, 2) := by decide +kernel
theorem dX9_ahead_36 : decode cX9_ahead 36 = .ok (.aload_n 0, 1) := by decide +kernel
theorem dX9_ahead_37 : decode cX9_ahead 37 = .ok (.getfield 55, 3) := by decide +kernel
theorem dX9_ahead_40 : decode cX9_ahead 40 = .ok (.getfield 99, 3) := by decide +kernel
theorem dX9_ahead_43 : decode cX9_ahead 43 = .ok (.if_icmp .ge 39, 3) := by decide +kernel
theorem dX9_ahead_46 : decode cX9_ahead 46 = .ok (.aload_n 3, 1) := by decide +kernel
theorem dX9_ahead_47 : decode cX9_ahead 47 = .ok (.getfield 261, 3) := by decide +kernel
theorem dX9_ahead_50 : decode cX9_ahead 50 = .ok (.iload 5, 2) := by decide +kernel
theorem dX9_ahead_52 : decode cX9_ahead 52 = .ok (.iaload, 1) := by decide +kernel
theorem dX9_ahead_53 : decode cX9_ahead 53 = .ok (.iconst (-1), 1) := by decide +kernel
theorem dX9_ahead_54 : decode cX9_ahead 54 = .ok (.if_icmp .eq 22, 3) := by decide +kernel
theorem dX9_ahead_57 : decode cX9_ahead 57 = .ok (.aload_n 3, 1) := by decide +kernel
theorem dX9_ahead_58 : decode cX9_ahead 58 = .ok (.getfield 261, 3) := by decide +kernel
theorem dX9_ahead_61 : decode cX9_ahead 61 = .ok (.iload 5, 2) := by decide +kernel
theorem dX9_ahead_63 : decode cX9_ahead 63 = .ok (.iaload, 1) := by decide +kernel
theorem dX9_ahead_64 : decode cX9_ahead 64 = .ok (.aload_n 3, 1) := by decide +kernel
theorem dX9_ahead_65 : decode cX9_ahead 65 = .ok (.getfield 261, 3) := by decide +kernel
theorem dX9_ahead_68 : decode cX9_ahead 68 = .ok (.iload_n 1, 1) := by decide +kernel
theorem dX9_ahead_69 : decode cX9_ahead 69 = .ok (.iaload, 1) := by decide +kernel
theorem dX9_ahead_70 : decode cX9_ahead 70 = .ok (.if_icmp .ge 6, 3) := by decide +kernel
theorem dX9_ahead_73 : decode cX9_ahead 73 = .ok (.iinc 4 1, 3) := by decide +kernel
theorem dX9_ahead_76 : decode cX9_ahead 76 = .ok (.iinc 5 1, 3) := by decide +kernel
theorem dX9_ahead_79 : decode cX9_ahead 79 = .ok (.goto (-45), 3) := by decide +kernel
theorem dX9_ahead_82 : decode cX9_ahead 82 = .ok (.iload 4, 2) := by decide +kernel
theorem dX9_ahead_84 : decode cX9_ahead 84 = .ok (.ireturn, 1) := by decide +kernel
theorem dX9_loses_0 : decode cX9_loses 0 = .ok (.aload_n 0, 1) := by decide +kernel
theorem dX9_loses_1 : decode cX9_loses 1 = .ok (.iload_n 1, 1) := by decide +kernel
theorem dX9_loses_2 : decode cX9_loses 2 = .ok (.invokevirtual 147, 3) := by decide +kernel
theorem dX9_loses_5 : decode cX9_loses 5 = .ok (.aload_n 0, 1) := by decide +kernel
theorem dX9_loses_6 : decode cX9_loses 6 = .ok (.invokevirtual 193, 3) := by decide +kernel
theorem dX9_loses_9 : decode cX9_loses 9 = .ok (.astore_n 2, 1) := by decide +kernel
theorem dX9_loses_10 : decode cX9_loses 10 = .ok (.aload_n 2, 1) := by decide +kernel
theorem dX9_loses_11 : decode cX9_loses 11 = .ok (.invokevirtual 234, 3) := by decide +kernel
theorem dX9_loses_14 : decode cX9_loses 14 = .ok (.iconst 0, 1) := by decide +kernel
theorem dX9_loses_15 : decode cX9_loses 15 = .ok (.istore_n 3, 1) := by decide +kernel
theorem dX9_loses_16 : decode cX9_loses 16 = .ok (.iconst 0, 1) := by decide +kernel
theorem dX9_loses_17 : decode cX9_loses 17 = .ok (.istore 4, 2) := by decide +kernel
theorem dX9_loses_19 : decode cX9_loses 19 = .ok (.iload 4, 2) := by decide +kernel
theorem dX9_loses_21 : decode cX9_loses 21 = .ok (.aload_n 0, 1) := by decide +kernel
theorem dX9_loses_22 : decode cX9_loses 22 = .ok (.getfield 55, 3) := by decide +kernel
theorem dX9_loses_25 : decode cX9_loses 25 = .ok (.getfield 102, 3) := by decide +kernel
theorem dX9_loses_28 : decode cX9_loses 28 = .ok (.if_icmp .ge 27, 3) := by decide +kernel
theorem dX9_loses_31 : decode cX9_loses 31 = .ok (.aload_n 2, 1) := by decide +kernel
theorem dX9_loses_32 : decode cX9_loses 32 = .ok (.getfield 231, 3) := by decide +kernel
theorem dX9_loses_35 : decode cX9_loses 35 = .ok (.iload 4, 2) := by decide +kernel
theorem dX9_loses_37 : decode cX9_loses 37 = .ok (.iaload, 1) := by decide +kernel
theorem dX9_loses_38 : decode cX9_loses 38 = .ok (.iload_n 1, 1) := by decide +kernel
theorem dX9_loses_39 : decode cX9_loses 39 = .ok (.if_icmp .ne 10, 3) := by decide +kernel
theorem dX9_loses_42 : decode cX9_loses 42 = .ok (.iload_n 3, 1) := by decide +kernel
theorem dX9_loses_43 : decode cX9_loses 43 = .ok (.iconst 1, 1) := by decide +kernel
theorem dX9_loses_44 : decode cX9_loses 44 = .ok (.iload 4, 2) := by decide +kernel
theorem dX9_loses_46 : decode cX9_loses 46 = .ok (.ishl, 1) := by decide +kernel
theorem dX9_loses_47 : decode cX9_loses 47 = .ok (.ior, 1) := by decide +kernel
theorem dX9_loses_48 : decode cX9_loses 48 = .ok (.istore_n 3, 1) := by decide +kernel
theorem dX9_loses_49 : decode cX9_loses 49 = .ok (.iinc 4 1, 3) := by decide +kernel
theorem dX9_loses_52 : decode cX9_loses 52 = .ok (.goto (-33), 3) := by decide +kernel
theorem dX9_loses_55 : decode cX9_loses 55 = .ok (.iload_n 3, 1) := by decide +kernel
theorem dX9_loses_56 : decode cX9_loses 56 = .ok (.ireturn, 1) := by decide +kernel
theorem dX9_late_0 : decode cX9_late 0 = .ok (.aload_n 0, 1) := by decide +kernel
theorem dX9_late_1 : decode cX9_late 1 = .ok (.iload_n 1, 1) := by decide +kernel
theorem dX9_late_2 : decode cX9_late 2 = .ok (.invokevirtual 147, 3) := by decide +kernel
theorem dX9_late_5 : decode cX9_late 5 = .ok (.aload_n 0, 1) := by decide +kernel
theorem dX9_late_6 : decode cX9_late 6 = .ok (.iload_n 2, 1) := by decide +kernel
theorem dX9_late_7 : decode cX9_late 7 = .ok (.invokevirtual 175, 3) := by decide +kernel
theorem dX9_late_10 : decode cX9_late 10 = .ok (.aload_n 0, 1) := by decide +kernel
theorem dX9_late_11 : decode cX9_late 11 = .ok (.iload_n 2, 1) := by decide +kernel
theorem dX9_late_12 : decode cX9_late 12 = .ok (.invokevirtual 251, 3) := by decide +kernel
theorem dX9_late_15 : decode cX9_late 15 = .ok (.astore_n 3, 1) := by decide +kernel
theorem dX9_late_16 : decode cX9_late 16 = .ok (.aload_n 3, 1) := by decide +kernel
theorem dX9_late_17 : decode cX9_late 17 = .ok (.getfield 261, 3) := by decide +kernel
theorem dX9_late_20 : decode cX9_late 20 = .ok (.iload_n 1, 1) := by decide +kernel
theorem dX9_late_21 : decode cX9_late 21 = .ok (.iaload, 1) := by decide +kernel
theorem dX9_late_22 : decode cX9_late 22 = .ok (.iconst (-1), 1) := by decide +kernel
theorem dX9_late_23 : decode cX9_late 23 = .ok (.if_icmp .ne 7, 3) := by decide +kernel
theorem dX9_late_26 : decode cX9_late 26 = .ok (.iconst (-1), 1) := by decide +kernel
theorem dX9_late_27 : decode cX9_late 27 = .ok (.goto 11, 3) := by decide +kernel
theorem dX9_late_30 : decode cX9_late 30 = .ok (.aload_n 3, 1) := by decide +kernel
theorem dX9_late_31 : decode cX9_late 31 = .ok (.getfield 200, 3) := by decide +kernel
theorem dX9_late_34 : decode cX9_late 34 = .ok (.iload_n 1, 1) := by decide +kernel
theorem dX9_late_35 : decode cX9_late 35 = .ok (.invokevirtual 160, 3) := by decide +kernel
theorem dX9_late_38 : decode cX9_late 38 = .ok (.ireturn, 1) := by decide +kernel
theorem dX9_nearest_0 : decode cX9_nearest 0 = .ok (.aload_n 0, 1) := by decide +kernel
theorem dX9_nearest_1 : decode cX9_nearest 1 = .ok (.iload_n 1, 1) := by decide +kernel
theorem dX9_nearest_2 : decode cX9_nearest 2 = .ok (.invokevirtual 147, 3) := by decide +kernel
theorem dX9_nearest_5 : decode cX9_nearest 5 = .ok (.iconst (-1), 1) := by decide +kernel
theorem dX9_nearest_6 : decode cX9_nearest 6 = .ok (.istore_n 2, 1) := by decide +kernel
theorem dX9_nearest_7 : decode cX9_nearest 7 = .ok (.iconst 0, 1) := by decide +kernel
theorem dX9_nearest_8 : decode cX9_nearest 8 = .ok (.istore_n 3, 1) := by decide +kernel
theorem dX9_nearest_9 : decode cX9_nearest 9 = .ok (.iload_n 3, 1) := by decide +kernel
theorem dX9_nearest_10 : decode cX9_nearest 10 = .ok (.aload_n 0, 1) := by decide +kernel
theorem dX9_nearest_11 : decode cX9_nearest 11 = .ok (.getfield 55, 3) := by decide +kernel
theorem dX9_nearest_14 : decode cX9_nearest 14 = .ok (.getfield 102, 3) := by decide +kernel
theorem dX9_nearest_17 : decode cX9_nearest 17 = .ok (.if_icmp .ge 37, 3) := by decide +kernel
theorem dX9_nearest_20 : decode cX9_nearest 20 = .ok (.iload_n 2, 1) := by decide +kernel
theorem dX9_nearest_21 : decode cX9_nearest 21 = .ok (.iconst (-1), 1) := by decide +kernel
theorem dX9_nearest_22 : decode cX9_nearest 22 = .ok (.if_icmp .eq 24, 3) := by decide +kernel
theorem dX9_nearest_25 : decode cX9_nearest 25 = .ok (.aload_n 0, 1) := by decide +kernel
theorem dX9_nearest_26 : decode cX9_nearest 26 = .ok (.getfield 55, 3) := by decide +kernel
theorem dX9_nearest_29 : decode cX9_nearest 29 = .ok (.iload_n 1, 1) := by decide +kernel
theorem dX9_nearest_30 : decode cX9_nearest 30 = .ok (.iload_n 3, 1) := by decide +kernel
theorem dX9_nearest_31 : decode cX9_nearest 31 = .ok (.invokevirtual 340, 3) := by decide +kernel
theorem dX9_nearest_34 : decode cX9_nearest 34 = .ok (.aload_n 0, 1) := by decide +kernel
theorem dX9_nearest_35 : decode cX9_nearest 35 = .ok (.getfield 55, 3) := by decide +kernel
theorem dX9_nearest_38 : decode cX9_nearest 38 = .ok (.iload_n 1, 1) := by decide +kernel
theorem dX9_nearest_39 : decode cX9_nearest 39 = .ok (.iload_n 2, 1) := by decide +kernel
theorem dX9_nearest_40 : decode cX9_nearest 40 = .ok (.invokevirtual 340, 3) := by decide +kernel
theorem dX9_nearest_43 : decode cX9_nearest 43 = .ok (.if_icmp .ge 5, 3) := by decide +kernel
theorem dX9_nearest_46 : decode cX9_nearest 46 = .ok (.iload_n 3, 1) := by decide +kernel
theorem dX9_nearest_47 : decode cX9_nearest 47 = .ok (.istore_n 2, 1) := by decide +kernel
theorem dX9_nearest_48 : decode cX9_nearest 48 = .ok (.iinc 3 1, 3) := by decide +kernel
theorem dX9_nearest_51 : decode cX9_nearest 51 = .ok (.goto (-42), 3) := by decide +kernel
theorem dX9_nearest_54 : decode cX9_nearest 54 = .ok (.iload_n 2, 1) := by decide +kernel
theorem dX9_nearest_55 : decode cX9_nearest 55 = .ok (.ireturn, 1) := by decide +kernel
theorem dX9_neighbours_0 : decode cX9_neighbours 0 = .ok (.aload_n 0, 1) := by decide +kernel
theorem dX9_neighbours_1 : decode cX9_neighbours 1 = .ok (.iload_n 1, 1) := by decide +kernel
theorem dX9_neighbours_2 : decode cX9_neighbours 2 = .ok (.invokevirtual 147, 3) := by decide +kernel
theorem dX9_neighbours_5 : decode cX9_neighbours 5 = .ok (.iload_n 2, 1) := by decide +kernel
theorem dX9_neighbours_6 : decode cX9_neighbours 6 = .ok (.iconst 0, 1) := by decide +kernel
theorem dX9_neighbours_7 : decode cX9_neighbours 7 = .ok (.bipush 30, 2) := by decide +kernel
theorem dX9_neighbours_9 : decode cX9_neighbours 9 = .ok (.invokestatic 224, 3) := by decide +kernel
theorem dX9_neighbours_12 : decode cX9_neighbours 12 = .ok (.iconst 0, 1) := by decide +kernel
theorem dX9_neighbours_13 : decode cX9_neighbours 13 = .ok (.istore_n 3, 1) := by decide +kernel
theorem dX9_neighbours_14 : decode cX9_neighbours 14 = .ok (.iconst 0, 1) := by decide +kernel
theorem dX9_neighbours_15 : decode cX9_neighbours 15 = .ok (.istore 4, 2) := by decide +kernel
theorem dX9_neighbours_17 : decode cX9_neighbours 17 = .ok (.iload 4, 2) := by decide +kernel
theorem dX9_neighbours_19 : decode cX9_neighbours 19 = .ok (.aload_n 0, 1) := by decide +kernel
theorem dX9_neighbours_20 : decode cX9_neighbours 20 = .ok (.getfield 55, 3) := by decide +kernel
theorem dX9_neighbours_23 : decode cX9_neighbours 23 = .ok (.getfield 99, 3) := by decide +kernel
theorem dX9_neighbours_26 : decode cX9_neighbours 26 = .ok (.if_icmp .ge 49, 3) := by decide +kernel
theorem dX9_neighbours_29 : decode cX9_neighbours 29 = .ok (.iload 4, 2) := by decide +kernel
theorem dX9_neighbours_31 : decode cX9_neighbours 31 = .ok (.iload_n 1, 1) := by decide +kernel
theorem dX9_neighbours_32 : decode cX9_neighbours 32 = .ok (.if_icmp .eq 37, 3) := by decide +kernel
theorem dX9_neighbours_35 : decode cX9_neighbours 35 = .ok (.aload_n 0, 1) := by decide +kernel
theorem dX9_neighbours_36 : decode cX9_neighbours 36 = .ok (.getfield 55, 3) := by decide +kernel
theorem dX9_neighbours_39 : decode cX9_neighbours 39 = .ok (.getfield 157, 3) := by decide +kernel
theorem dX9_neighbours_42 : decode cX9_neighbours 42 = .ok (.iload 4, 2) := by decide +kernel
theorem dX9_neighbours_44 : decode cX9_neighbours 44 = .ok (.iaload, 1) := by decide +kernel
theorem dX9_neighbours_45 : decode cX9_neighbours 45 = .ok (.aload_n 0, 1) := by decide +kernel
theorem dX9_neighbours_46 : decode cX9_neighbours 46 = .ok (.getfield 55, 3) := by decide +kernel
theorem dX9_neighbours_49 : decode cX9_neighbours 49 = .ok (.getfield 157, 3) := by decide +kernel
theorem dX9_neighbours_52 : decode cX9_neighbours 52 = .ok (.iload_n 1, 1) := by decide +kernel
theorem dX9_neighbours_53 : decode cX9_neighbours 53 = .ok (.iaload, 1) := by decide +kernel
theorem dX9_neighbours_54 : decode cX9_neighbours 54 = .ok (.isub, 1) := by decide +kernel
theorem dX9_neighbours_55 : decode cX9_neighbours 55 = .ok (.invokestatic 343, 3) := by decide +kernel
theorem dX9_neighbours_58 : decode cX9_neighbours 58 = .ok (.iload_n 2, 1) := by decide +kernel
theorem dX9_neighbours_59 : decode cX9_neighbours 59 = .ok (.if_icmp .gt 10, 3) := by decide +kernel
theorem dX9_neighbours_62 : decode cX9_neighbours 62 = .ok (.iload_n 3, 1) := by decide +kernel
theorem dX9_neighbours_63 : decode cX9_neighbours 63 = .ok (.iconst 1, 1) := by decide +kernel
theorem dX9_neighbours_64 : decode cX9_neighbours 64 = .ok (.iload 4, 2) := by decide +kernel
theorem dX9_neighbours_66 : decode cX9_neighbours 66 = .ok (.ishl, 1) := by decide +kernel
theorem dX9_neighbours_67 : decode cX9_neighbours 67 = .ok (.ior, 1) := by decide +kernel
theorem dX9_neighbours_68 : decode cX9_neighbours 68 = .ok (.istore_n 3, 1) := by decide +kernel
theorem dX9_neighbours_69 : decode cX9_neighbours 69 = .ok (.iinc 4 1, 3) := by decide +kernel
theorem dX9_neighbours_72 : decode cX9_neighbours 72 = .ok (.goto (-55), 3) := by decide +kernel
theorem dX9_neighbours_75 : decode cX9_neighbours 75 = .ok (.iload_n 3, 1) := by decide +kernel
theorem dX9_neighbours_76 : decode cX9_neighbours 76 = .ok (.ireturn, 1) := by decide +kernel
theorem dX9_prompt_0 : decode cX9_prompt 0 = .ok (.aload_n 0, 1) := by decide +kernel
theorem dX9_prompt_1 : decode cX9_prompt 1 = .ok (.iload_n 1, 1) := by decide +kernel
theorem dX9_prompt_2 : decode cX9_prompt 2 = .ok (.invokevirtual 175, 3) := by decide +kernel
theorem dX9_prompt_5 : decode cX9_prompt 5 = .ok (.iconst 0, 1) := by decide +kernel
theorem dX9_prompt_6 : decode cX9_prompt 6 = .ok (.istore_n 2, 1) := by decide +kernel
theorem dX9_prompt_7 : decode cX9_prompt 7 = .ok (.iconst 0, 1) := by decide +kernel
theorem dX9_prompt_8 : decode cX9_prompt 8 = .ok (.istore_n 3, 1) := by decide +kernel
theorem dX9_prompt_9 : decode cX9_prompt 9 = .ok (.iload_n 3, 1) := by decide +kernel
theorem dX9_prompt_10 : decode cX9_prompt 10 = .ok (.aload_n 0, 1) := by decide +kernel
theorem dX9_prompt_11 : decode cX9_prompt 11 = .ok (.getfield 55, 3) := by decide +kernel
theorem dX9_prompt_14 : decode cX9_prompt 14 = .ok (.getfield 99, 3) := by decide +kernel
theorem dX9_prompt_17 : decode cX9_prompt 17 = .ok (.if_icmp .ge 36, 3) := by decide +kernel
theorem dX9_prompt_20 : decode cX9_prompt 20 = .ok (.aload_n 0, 1) := by decide +kernel
theorem dX9_prompt_21 : decode cX9_prompt 21 = .ok (.getfield 55, 3) := by decide +kernel
theorem dX9_prompt_24 : decode cX9_prompt 24 = .ok (.getfield 166, 3) := by decide +kernel
theorem dX9_prompt_27 : decode cX9_prompt 27 = .ok (.iload_n 3, 1) := by decide +kernel
theorem dX9_prompt_28 : decode cX9_prompt 28 = .ok (.iaload, 1) := by decide +kernel
theorem dX9_prompt_29 : decode cX9_prompt 29 = .ok (.ifCond .ne 18, 3) := by decide +kernel
theorem dX9_prompt_32 : decode cX9_prompt 32 = .ok (.aload_n 0, 1) := by decide +kernel
theorem dX9_prompt_33 : decode cX9_prompt 33 = .ok (.iload_n 3, 1) := by decide +kernel
theorem dX9_prompt_34 : decode cX9_prompt 34 = .ok (.iload_n 1, 1) := by decide +kernel
theorem dX9_prompt_35 : decode cX9_prompt 35 = .ok (.invokevirtual 346, 3) := by decide +kernel
theorem dX9_prompt_38 : decode cX9_prompt 38 = .ok (.ifCond .ne 9, 3) := by decide +kernel
theorem dX9_prompt_41 : decode cX9_prompt 41 = .ok (.iload_n 2, 1) := by decide +kernel
theorem dX9_prompt_42 : decode cX9_prompt 42 = .ok (.iconst 1, 1) := by decide +kernel
theorem dX9_prompt_43 : decode cX9_prompt 43 = .ok (.iload_n 3, 1) := by decide +kernel
theorem dX9_prompt_44 : decode cX9_prompt 44 = .ok (.ishl, 1) := by decide +kernel
theorem dX9_prompt_45 : decode cX9_prompt 45 = .ok (.ior, 1) := by decide +kernel
theorem dX9_prompt_46 : decode cX9_prompt 46 = .ok (.istore_n 2, 1) := by decide +kernel
theorem dX9_prompt_47 : decode cX9_prompt 47 = .ok (.iinc 3 1, 3) := by decide +kernel
theorem dX9_prompt_50 : decode cX9_prompt 50 = .ok (.goto (-41), 3) := by decide +kernel
theorem dX9_prompt_53 : decode cX9_prompt 53 = .ok (.iload_n 2, 1) := by decide +kernel
theorem dX9_prompt_54 : decode cX9_prompt 54 = .ok (.ireturn, 1) := by decide +kernel
theorem dX9_walk_0 : decode cX9_walk 0 = .ok (.aload_n 0, 1) := by decide +kernel
theorem dX9_walk_1 : decode cX9_walk 1 = .ok (.iload_n 1, 1) := by decide +kernel
theorem dX9_walk_2 : decode cX9_walk 2 = .ok (.invokevirtual 147, 3) := by decide +kernel
theorem dX9_walk_5 : decode cX9_walk 5 = .ok (.aload_n 0, 1) := by decide +kernel
theorem dX9_walk_6 : decode cX9_walk 6 = .ok (.getfield 55, 3) := by decide +kernel
theorem dX9_walk_9 : decode cX9_walk 9 = .ok (.getfield 102, 3) := by decide +kernel
theorem dX9_walk_12 : decode cX9_walk 12 = .ok (.ifCond .ne 5, 3) := by decide +kernel
theorem dX9_walk_15 : decode cX9_walk 15 = .ok (.iconst 0, 1) := by decide +kernel
theorem dX9_walk_16 : decode cX9_walk 16 = .ok (.ireturn, 1) := by decide +kernel
theorem dX9_walk_17 : decode cX9_walk 17 = .ok (.bipush 30, 2) := by decide +kernel
theorem dX9_walk_19 : decode cX9_walk 19 = .ok (.istore_n 2, 1) := by decide +kernel
theorem dX9_walk_20 : decode cX9_walk 20 = .ok (.iconst 0, 1) := by decide +kernel
theorem dX9_walk_21 : decode cX9_walk 21 = .ok (.istore_n 3, 1) := by decide +kernel
theorem dX9_walk_22 : decode cX9_walk 22 = .ok (.iconst 0, 1) := by decide +kernel
theorem dX9_walk_23 : decode cX9_walk 23 = .ok (.istore 4, 2) := by decide +kernel
theorem dX9_walk_25 : decode cX9_walk 25 = .ok (.iload 4, 2) := by decide +kernel
theorem dX9_walk_27 : decode cX9_walk 27 = .ok (.aload_n 0, 1) := by decide +kernel
theorem dX9_walk_28 : decode cX9_walk 28 = .ok (.getfield 55, 3) := by decide +kernel
theorem dX9_walk_31 : decode cX9_walk 31 = .ok (.getfield 102, 3) := by decide +kernel
theorem dX9_walk_34 : decode cX9_walk 34 = .ok (.if_icmp .ge 39, 3) := by decide +kernel
theorem dX9_walk_37 : decode cX9_walk 37 = .ok (.iload_n 2, 1) := by decide +kernel
theorem dX9_walk_38 : decode cX9_walk 38 = .ok (.aload_n 0, 1) := by decide +kernel
theorem dX9_walk_39 : decode cX9_walk 39 = .ok (.getfield 55, 3) := by decide +kernel
theorem dX9_walk_42 : decode cX9_walk 42 = .ok (.getfield 181, 3) := by decide +kernel
theorem dX9_walk_45 : decode cX9_walk 45 = .ok (.iload 4, 2) := by decide +kernel
theorem dX9_walk_47 : decode cX9_walk 47 = .ok (.iaload, 1) := by decide +kernel
theorem dX9_walk_48 : decode cX9_walk 48 = .ok (.invokestatic 337, 3) := by decide +kernel
theorem dX9_walk_51 : decode cX9_walk 51 = .ok (.istore_n 2, 1) := by decide +kernel
theorem dX9_walk_52 : decode cX9_walk 52 = .ok (.iload_n 3, 1) := by decide +kernel
theorem dX9_walk_53 : decode cX9_walk 53 = .ok (.aload_n 0, 1) := by decide +kernel
theorem dX9_walk_54 : decode cX9_walk 54 = .ok (.getfield 55, 3) := by decide +kernel
theorem dX9_walk_57 : decode cX9_walk 57 = .ok (.getfield 181, 3) := by decide +kernel
theorem dX9_walk_60 : decode cX9_walk 60 = .ok (.iload 4, 2) := by decide +kernel
theorem dX9_walk_62 : decode cX9_walk 62 = .ok (.iaload, 1) := by decide +kernel
theorem dX9_walk_63 : decode cX9_walk 63 = .ok (.invokestatic 264, 3) := by decide +kernel
theorem dX9_walk_66 : decode cX9_walk 66 = .ok (.istore_n 3, 1) := by decide +kernel
theorem dX9_walk_67 : decode cX9_walk 67 = .ok (.iinc 4 1, 3) := by decide +kernel
theorem dX9_walk_70 : decode cX9_walk 70 = .ok (.goto (-45), 3) := by decide +kernel
theorem dX9_walk_73 : decode cX9_walk 73 = .ok (.aload_n 0, 1) := by decide +kernel
theorem dX9_walk_74 : decode cX9_walk 74 = .ok (.getfield 55, 3) := by decide +kernel
theorem dX9_walk_77 : decode cX9_walk 77 = .ok (.getfield 157, 3) := by decide +kernel
theorem dX9_walk_80 : decode cX9_walk 80 = .ok (.iload_n 1, 1) := by decide +kernel
theorem dX9_walk_81 : decode cX9_walk 81 = .ok (.iaload, 1) := by decide +kernel
theorem dX9_walk_82 : decode cX9_walk 82 = .ok (.istore 4, 2) := by decide +kernel
theorem dX9_walk_84 : decode cX9_walk 84 = .ok (.iload 4, 2) := by decide +kernel
theorem dX9_walk_86 : decode cX9_walk 86 = .ok (.iload_n 2, 1) := by decide +kernel
theorem dX9_walk_87 : decode cX9_walk 87 = .ok (.isub, 1) := by decide +kernel
theorem dX9_walk_88 : decode cX9_walk 88 = .ok (.invokestatic 343, 3) := by decide +kernel
theorem dX9_walk_91 : decode cX9_walk 91 = .ok (.iload 4, 2) := by decide +kernel
theorem dX9_walk_93 : decode cX9_walk 93 = .ok (.iload_n 3, 1) := by decide +kernel
theorem dX9_walk_94 : decode cX9_walk 94 = .ok (.isub, 1) := by decide +kernel
theorem dX9_walk_95 : decode cX9_walk 95 = .ok (.invokestatic 343, 3) := by decide +kernel
theorem dX9_walk_98 : decode cX9_walk 98 = .ok (.invokestatic 337, 3) := by decide +kernel
theorem dX9_walk_101 : decode cX9_walk 101 = .ok (.istore 5, 2) := by decide +kernel
theorem dX9_walk_103 : decode cX9_walk 103 = .ok (.aload_n 0, 1) := by decide +kernel
theorem dX9_walk_104 : decode cX9_walk 104 = .ok (.getfield 55, 3) := by decide +kernel
theorem dX9_walk_107 : decode cX9_walk 107 = .ok (.getfield 105, 3) := by decide +kernel
theorem dX9_walk_110 : decode cX9_walk 110 = .ok (.iload 5, 2) := by decide +kernel
theorem dX9_walk_112 : decode cX9_walk 112 = .ok (.iload_n 3, 1) := by decide +kernel
theorem dX9_walk_113 : decode cX9_walk 113 = .ok (.iadd, 1) := by decide +kernel
theorem dX9_walk_114 : decode cX9_walk 114 = .ok (.iload_n 2, 1) := by decide +kernel
theorem dX9_walk_115 : decode cX9_walk 115 = .ok (.isub, 1) := by decide +kernel
theorem dX9_walk_116 : decode cX9_walk 116 = .ok (.imul, 1) := by decide +kernel
theorem dX9_walk_117 : decode cX9_walk 117 = .ok (.ireturn, 1) := by decide +kernel
theorem dX9_twins_0 : decode cX9_twins 0 = .ok (.iconst 0, 1) := by decide +kernel
theorem dX9_twins_1 : decode cX9_twins 1 = .ok (.istore_n 1, 1) := by decide +kernel
theorem dX9_twins_2 : decode cX9_twins 2 = .ok (.iconst 0, 1) := by decide +kernel
theorem dX9_twins_3 : decode cX9_twins 3 = .ok (.istore_n 2, 1) := by decide +kernel
theorem dX9_twins_4 : decode cX9_twins 4 = .ok (.iload_n 2, 1) := by decide +kernel
theorem dX9_twins_5 : decode cX9_twins 5 = .ok (.aload_n 0, 1) := by decide +kernel
theorem dX9_twins_6 : decode cX9_twins 6 = .ok (.getfield 55, 3) := by decide +kernel
theorem dX9_twins_9 : decode cX9_twins 9 = .ok (.getfield 99, 3) := by decide +kernel
theorem dX9_twins_12 : decode cX9_twins 12 = .ok (.if_icmp .ge 34, 3) := by decide +kernel
theorem dX9_twins_15 : decode cX9_twins 15 = .ok (.iconst 0, 1) := by decide +kernel
theorem dX9_twins_16 : decode cX9_twins 16 = .ok (.istore_n 3, 1) := by decide +kernel
theorem dX9_twins_17 : decode cX9_twins 17 = .ok (.iload_n 3, 1) := by decide +kernel
theorem dX9_twins_18 : decode cX9_twins 18 = .ok (.iload_n 2, 1) := by decide +kernel
theorem dX9_twins_19 : decode cX9_twins 19 = .ok (.if_icmp .ge 21, 3) := by decide +kernel
theorem dX9_twins_22 : decode cX9_twins 22 = .ok (.aload_n 0, 1) := by decide +kernel
theorem dX9_twins_23 : decode cX9_twins 23 = .ok (.iload_n 2, 1) := by decide +kernel
theorem dX9_twins_24 : decode cX9_twins 24 = .ok (.iload_n 3, 1) := by decide +kernel
theorem dX9_twins_25 : decode cX9_twins 25 = .ok (.invokevirtual 349, 3) := by decide +kernel
theorem dX9_twins_28 : decode cX9_twins 28 = .ok (.ifCond .eq 6, 3) := by decide +kernel
theorem dX9_twins_31 : decode cX9_twins 31 = .ok (.iinc 1 1, 3) := by decide +kernel
theorem dX9_twins_34 : decode cX9_twins 34 = .ok (.iinc 3 1, 3) := by decide +kernel
theorem dX9_twins_37 : decode cX9_twins 37 = .ok (.goto (-20), 3) := by decide +kernel
theorem dX9_twins_40 : decode cX9_twins 40 = .ok (.iinc 2 1, 3) := by decide +kernel
theorem dX9_twins_43 : decode cX9_twins 43 = .ok (.goto (-39), 3) := by decide +kernel
theorem dX9_twins_46 : decode cX9_twins 46 = .ok (.iload_n 1, 1) := by decide +kernel
theorem dX9_twins_47 : decode cX9_twins 47 = .ok (.ireturn, 1) := by decide +kernel
theorem dX9_toMend_0 : decode cX9_toMend 0 = .ok (.aload_n 0, 1) := by decide +kernel
theorem dX9_toMend_1 : decode cX9_toMend 1 = .ok (.iload_n 1, 1) := by decide +kernel
theorem dX9_toMend_2 : decode cX9_toMend 2 = .ok (.invokevirtual 147, 3) := by decide +kernel
theorem dX9_toMend_5 : decode cX9_toMend 5 = .ok (.iload_n 2, 1) := by decide +kernel
theorem dX9_toMend_6 : decode cX9_toMend 6 = .ok (.iconst 1, 1) := by decide +kernel
theorem dX9_toMend_7 : decode cX9_toMend 7 = .ok (.bipush 40, 2) := by decide +kernel
theorem dX9_toMend_9 : decode cX9_toMend 9 = .ok (.invokestatic 224, 3) := by decide +kernel
theorem dX9_toMend_12 : decode cX9_toMend 12 = .ok (.iconst 0, 1) := by decide +kernel
theorem dX9_toMend_13 : decode cX9_toMend 13 = .ok (.istore_n 3, 1) := by decide +kernel
theorem dX9_toMend_14 : decode cX9_toMend 14 = .ok (.iload_n 3, 1) := by decide +kernel
theorem dX9_toMend_15 : decode cX9_toMend 15 = .ok (.bipush 60, 2) := by decide +kernel
theorem dX9_toMend_17 : decode cX9_toMend 17 = .ok (.if_icmp .gt 21, 3) := by decide +kernel
theorem dX9_toMend_20 : decode cX9_toMend 20 = .ok (.aload_n 0, 1) := by decide +kernel
theorem dX9_toMend_21 : decode cX9_toMend 21 = .ok (.iload_n 1, 1) := by decide +kernel
theorem dX9_toMend_22 : decode cX9_toMend 22 = .ok (.iload_n 3, 1) := by decide +kernel
theorem dX9_toMend_23 : decode cX9_toMend 23 = .ok (.iload_n 2, 1) := by decide +kernel
theorem dX9_toMend_24 : decode cX9_toMend 24 = .ok (.invokevirtual 352, 3) := by decide +kernel
theorem dX9_toMend_27 : decode cX9_toMend 27 = .ok (.ifCond .eq 5, 3) := by decide +kernel
theorem dX9_toMend_30 : decode cX9_toMend 30 = .ok (.iload_n 3, 1) := by decide +kernel
theorem dX9_toMend_31 : decode cX9_toMend 31 = .ok (.ireturn, 1) := by decide +kernel
theorem dX9_toMend_32 : decode cX9_toMend 32 = .ok (.iinc 3 1, 3) := by decide +kernel
theorem dX9_toMend_35 : decode cX9_toMend 35 = .ok (.goto (-21), 3) := by decide +kernel
theorem dX9_toMend_38 : decode cX9_toMend 38 = .ok (.iconst (-1), 1) := by decide +kernel
theorem dX9_toMend_39 : decode cX9_toMend 39 = .ok (.ireturn, 1) := by decide +kernel
theorem dX9_silent_0 : decode cX9_silent 0 = .ok (.iload_n 1, 1) := by decide +kernel
theorem dX9_silent_1 : decode cX9_silent 1 = .ok (.iconst 0, 1) := by decide +kernel
theorem dX9_silent_2 : decode cX9_silent 2 = .ok (.bipush 40, 2) := by decide +kernel
theorem dX9_silent_4 : decode cX9_silent 4 = .ok (.invokestatic 224, 3) := by decide +kernel
theorem dX9_silent_7 : decode cX9_silent 7 = .ok (.aload_n 0, 1) := by decide +kernel
theorem dX9_silent_8 : decode cX9_silent 8 = .ok (.invokevirtual 193, 3) := by decide +kernel
theorem dX9_silent_11 : decode cX9_silent 11 = .ok (.astore_n 2, 1) := by decide +kernel
theorem dX9_silent_12 : decode cX9_silent 12 = .ok (.iconst 1, 1) := by decide +kernel
theorem dX9_silent_13 : decode cX9_silent 13 = .ok (.aload_n 0, 1) := by decide +kernel
theorem dX9_silent_14 : decode cX9_silent 14 = .ok (.getfield 55, 3) := by decide +kernel
theorem dX9_silent_17 : decode cX9_silent 17 = .ok (.getfield 102, 3) := by decide +kernel
theorem dX9_silent_20 : decode cX9_silent 20 = .ok (.ishl, 1) := by decide +kernel
theorem dX9_silent_21 : decode cX9_silent 21 = .ok (.iconst 1, 1) := by decide +kernel
theorem dX9_silent_22 : decode cX9_silent 22 = .ok (.isub, 1) := by decide +kernel
theorem dX9_silent_23 : decode cX9_silent 23 = .ok (.istore_n 3, 1) := by decide +kernel
theorem dX9_silent_24 : decode cX9_silent 24 = .ok (.iconst 0, 1) := by decide +kernel
theorem dX9_silent_25 : decode cX9_silent 25 = .ok (.istore 4, 2) := by decide +kernel
theorem dX9_silent_27 : decode cX9_silent 27 = .ok (.iload 4, 2) := by decide +kernel
theorem dX9_silent_29 : decode cX9_silent 29 = .ok (.iload_n 1, 1) := by decide +kernel
theorem dX9_silent_30 : decode cX9_silent 30 = .ok (.if_icmp .ge 53, 3) := by decide +kernel
theorem dX9_silent_33 : decode cX9_silent 33 = .ok (.aload_n 2, 1) := by decide +kernel
theorem dX9_silent_34 : decode cX9_silent 34 = .ok (.invokevirtual 234, 3) := by decide +kernel
theorem dX9_silent_37 : decode cX9_silent 37 = .ok (.iconst 0, 1) := by decide +kernel
theorem dX9_silent_38 : decode cX9_silent 38 = .ok (.istore 5, 2) := by decide +kernel
theorem dX9_silent_40 : decode cX9_silent 40 = .ok (.iload 5, 2) := by decide +kernel
theorem dX9_silent_42 : decode cX9_silent 42 = .ok (.aload_n 0, 1) := by decide +kernel
theorem dX9_silent_43 : decode cX9_silent 43 = .ok (.getfield 55, 3) := by decide +kernel
theorem dX9_silent_46 : decode cX9_silent 46 = .ok (.getfield 102, 3) := by decide +kernel
theorem dX9_silent_49 : decode cX9_silent 49 = .ok (.if_icmp .ge 28, 3) := by decide +kernel
theorem dX9_silent_52 : decode cX9_silent 52 = .ok (.aload_n 2, 1) := by decide +kernel
theorem dX9_silent_53 : decode cX9_silent 53 = .ok (.getfield 228, 3) := by decide +kernel
theorem dX9_silent_56 : decode cX9_silent 56 = .ok (.iload 5, 2) := by decide +kernel
theorem dX9_silent_58 : decode cX9_silent 58 = .ok (.iaload, 1) := by decide +kernel
theorem dX9_silent_59 : decode cX9_silent 59 = .ok (.ifCond .eq 12, 3) := by decide +kernel
theorem dX9_silent_62 : decode cX9_silent 62 = .ok (.iload_n 3, 1) := by decide +kernel
theorem dX9_silent_63 : decode cX9_silent 63 = .ok (.iconst 1, 1) := by decide +kernel
theorem dX9_silent_64 : decode cX9_silent 64 = .ok (.iload 5, 2) := by decide +kernel
theorem dX9_silent_66 : decode cX9_silent 66 = .ok (.ishl, 1) := by decide +kernel
theorem dX9_silent_67 : decode cX9_silent 67 = .ok (.iconst (-1), 1) := by decide +kernel
theorem dX9_silent_68 : decode cX9_silent 68 = .ok (.ixor, 1) := by decide +kernel
theorem dX9_silent_69 : decode cX9_silent 69 = .ok (.iand, 1) := by decide +kernel
theorem dX9_silent_70 : decode cX9_silent 70 = .ok (.istore_n 3, 1) := by decide +kernel
theorem dX9_silent_71 : decode cX9_silent 71 = .ok (.iinc 5 1, 3) := by decide +kernel
theorem dX9_silent_74 : decode cX9_silent 74 = .ok (.goto (-34), 3) := by decide +kernel
theorem dX9_silent_77 : decode cX9_silent 77 = .ok (.iinc 4 1, 3) := by decide +kernel
theorem dX9_silent_80 : decode cX9_silent 80 = .ok (.goto (-53), 3) := by decide +kernel
theorem dX9_silent_83 : decode cX9_silent 83 = .ok (.iload_n 3, 1) := by decide +kernel
theorem dX9_silent_84 : decode cX9_silent 84 = .ok (.ireturn, 1) := by decide +kernel
theorem dX9_behind_0 : decode cX9_behind 0 = .ok (.iload_n 1, 1) := by decide +kernel
theorem dX9_behind_1 : decode cX9_behind 1 = .ok (.iconst 0, 1) := by decide +kernel
theorem dX9_behind_2 : decode cX9_behind 2 = .ok (.bipush 40, 2) := by decide +kernel
theorem dX9_behind_4 : decode cX9_behind 4 = .ok (.invokestatic 224, 3) := by decide +kernel
theorem dX9_behind_7 : decode cX9_behind 7 = .ok (.aload_n 0, 1) := by decide +kernel
theorem dX9_behind_8 : decode cX9_behind 8 = .ok (.invokevirtual 193, 3) := by decide +kernel
theorem dX9_behind_11 : decode cX9_behind 11 = .ok (.astore_n 2, 1) := by decide +kernel
theorem dX9_behind_12 : decode cX9_behind 12 = .ok (.iconst 0, 1) := by decide +kernel
theorem dX9_behind_13 : decode cX9_behind 13 = .ok (.istore_n 3, 1) := by decide +kernel
theorem dX9_behind_14 : decode cX9_behind 14 = .ok (.iconst 0, 1) := by decide +kernel
theorem dX9_behind_15 : decode cX9_behind 15 = .ok (.istore 4, 2) := by decide +kernel
theorem dX9_behind_17 : decode cX9_behind 17 = .ok (.iload 4, 2) := by decide +kernel
theorem dX9_behind_19 : decode cX9_behind 19 = .ok (.iload_n 1, 1) := by decide +kernel
theorem dX9_behind_20 : decode cX9_behind 20 = .ok (.if_icmp .ge 20, 3) := by decide +kernel
theorem dX9_behind_23 : decode cX9_behind 23 = .ok (.aload_n 2, 1) := by decide +kernel
theorem dX9_behind_24 : decode cX9_behind 24 = .ok (.invokevirtual 234, 3) := by decide +kernel
theorem dX9_behind_27 : decode cX9_behind 27 = .ok (.iload_n 3, 1) := by decide +kernel
theorem dX9_behind_28 : decode cX9_behind 28 = .ok (.aload_n 2, 1) := by decide +kernel
theorem dX9_behind_29 : decode cX9_behind 29 = .ok (.invokevirtual 326, 3) := by decide +kernel
theorem dX9_behind_32 : decode cX9_behind 32 = .ok (.iadd, 1) := by decide +kernel
theorem dX9_behind_33 : decode cX9_behind 33 = .ok (.istore_n 3, 1) := by decide +kernel
theorem dX9_behind_34 : decode cX9_behind 34 = .ok (.iinc 4 1, 3) := by decide +kernel
theorem dX9_behind_37 : decode cX9_behind 37 = .ok (.goto (-20), 3) := by decide +kernel
theorem dX9_behind_40 : decode cX9_behind 40 = .ok (.iload_n 3, 1) := by decide +kernel
theorem dX9_behind_41 : decode cX9_behind 41 = .ok (.ireturn, 1) := by decide +kernel
theorem dX9_most_0 : decode cX9_most 0 = .ok (.iload_n 1, 1) := by decide +kernel
theorem dX9_most_1 : decode cX9_most 1 = .ok (.iconst 1, 1) := by decide +kernel
theorem dX9_most_2 : decode cX9_most 2 = .ok (.bipush 40, 2) := by decide +kernel
theorem dX9_most_4 : decode cX9_most 4 = .ok (.invokestatic 224, 3) := by decide +kernel
theorem dX9_most_7 : decode cX9_most 7 = .ok (.aload_n 0, 1) := by decide +kernel
theorem dX9_most_8 : decode cX9_most 8 = .ok (.invokevirtual 193, 3) := by decide +kernel
theorem dX9_most_11 : decode cX9_most 11 = .ok (.astore_n 2, 1) := by decide +kernel
theorem dX9_most_12 : decode cX9_most 12 = .ok (.aload_n 2, 1) := by decide +kernel
theorem dX9_most_13 : decode cX9_most 13 = .ok (.iload_n 1, 1) := by decide +kernel
theorem dX9_most_14 : decode cX9_most 14 = .ok (.invokevirtual 197, 3) := by decide +kernel
theorem dX9_most_17 : decode cX9_most 17 = .ok (.iconst (-1), 1) := by decide +kernel
theorem dX9_most_18 : decode cX9_most 18 = .ok (.istore_n 3, 1) := by decide +kernel
theorem dX9_most_19 : decode cX9_most 19 = .ok (.iconst 0, 1) := by decide +kernel
theorem dX9_most_20 : decode cX9_most 20 = .ok (.istore 4, 2) := by decide +kernel
theorem dX9_most_22 : decode cX9_most 22 = .ok (.iload 4, 2) := by decide +kernel
theorem dX9_most_24 : decode cX9_most 24 = .ok (.aload_n 0, 1) := by decide +kernel
theorem dX9_most_25 : decode cX9_most 25 = .ok (.getfield 55, 3) := by decide +kernel
theorem dX9_most_28 : decode cX9_most 28 = .ok (.getfield 99, 3) := by decide +kernel
theorem dX9_most_31 : decode cX9_most 31 = .ok (.if_icmp .ge 37, 3) := by decide +kernel
theorem dX9_most_34 : decode cX9_most 34 = .ok (.aload_n 2, 1) := by decide +kernel
theorem dX9_most_35 : decode cX9_most 35 = .ok (.getfield 240, 3) := by decide +kernel
theorem dX9_most_38 : decode cX9_most 38 = .ok (.iload 4, 2) := by decide +kernel
theorem dX9_most_40 : decode cX9_most 40 = .ok (.iaload, 1) := by decide +kernel
theorem dX9_most_41 : decode cX9_most 41 = .ok (.iload_n 3, 1) := by decide +kernel
theorem dX9_most_42 : decode cX9_most 42 = .ok (.iconst (-1), 1) := by decide +kernel
theorem dX9_most_43 : decode cX9_most 43 = .ok (.if_icmp .ne 7, 3) := by decide +kernel
theorem dX9_most_46 : decode cX9_most 46 = .ok (.iconst 0, 1) := by decide +kernel
theorem dX9_most_47 : decode cX9_most 47 = .ok (.goto 9, 3) := by decide +kernel
theorem dX9_most_50 : decode cX9_most 50 = .ok (.aload_n 2, 1) := by decide +kernel
theorem dX9_most_51 : decode cX9_most 51 = .ok (.getfield 240, 3) := by decide +kernel
theorem dX9_most_54 : decode cX9_most 54 = .ok (.iload_n 3, 1) := by decide +kernel
theorem dX9_most_55 : decode cX9_most 55 = .ok (.iaload, 1) := by decide +kernel
theorem dX9_most_56 : decode cX9_most 56 = .ok (.if_icmp .le 6, 3) := by decide +kernel
theorem dX9_most_59 : decode cX9_most 59 = .ok (.iload 4, 2) := by decide +kernel
theorem dX9_most_61 : decode cX9_most 61 = .ok (.istore_n 3, 1) := by decide +kernel
theorem dX9_most_62 : decode cX9_most 62 = .ok (.iinc 4 1, 3) := by decide +kernel
theorem dX9_most_65 : decode cX9_most 65 = .ok (.goto (-43), 3) := by decide +kernel
theorem dX9_most_68 : decode cX9_most 68 = .ok (.iload_n 3, 1) := by decide +kernel
theorem dX9_most_69 : decode cX9_most 69 = .ok (.ireturn, 1) := by decide +kernel
theorem dX9_soonest_0 : decode cX9_soonest 0 = .ok (.aload_n 0, 1) := by decide +kernel
theorem dX9_soonest_1 : decode cX9_soonest 1 = .ok (.iload_n 1, 1) := by decide +kernel
theorem dX9_soonest_2 : decode cX9_soonest 2 = .ok (.invokevirtual 175, 3) := by decide +kernel
theorem dX9_soonest_5 : decode cX9_soonest 5 = .ok (.iload_n 2, 1) := by decide +kernel
theorem dX9_soonest_6 : decode cX9_soonest 6 = .ok (.iconst 0, 1) := by decide +kernel
theorem dX9_soonest_7 : decode cX9_soonest 7 = .ok (.bipush 120, 2) := by decide +kernel
theorem dX9_soonest_9 : decode cX9_soonest 9 = .ok (.invokestatic 224, 3) := by decide +kernel
theorem dX9_soonest_12 : decode cX9_soonest 12 = .ok (.aload_n 0, 1) := by decide +kernel
theorem dX9_soonest_13 : decode cX9_soonest 13 = .ok (.invokevirtual 193, 3) := by decide +kernel
theorem dX9_soonest_16 : decode cX9_soonest 16 = .ok (.astore_n 3, 1) := by decide +kernel
theorem dX9_soonest_17 : decode cX9_soonest 17 = .ok (.iconst 1, 1) := by decide +kernel
theorem dX9_soonest_18 : decode cX9_soonest 18 = .ok (.istore 4, 2) := by decide +kernel
theorem dX9_soonest_20 : decode cX9_soonest 20 = .ok (.iload 4, 2) := by decide +kernel
theorem dX9_soonest_22 : decode cX9_soonest 22 = .ok (.bipush 40, 2) := by decide +kernel
theorem dX9_soonest_24 : decode cX9_soonest 24 = .ok (.if_icmp .gt 26, 3) := by decide +kernel
theorem dX9_soonest_27 : decode cX9_soonest 27 = .ok (.aload_n 3, 1) := by decide +kernel
theorem dX9_soonest_28 : decode cX9_soonest 28 = .ok (.invokevirtual 234, 3) := by decide +kernel
theorem dX9_soonest_31 : decode cX9_soonest 31 = .ok (.aload_n 3, 1) := by decide +kernel
theorem dX9_soonest_32 : decode cX9_soonest 32 = .ok (.getfield 228, 3) := by decide +kernel
theorem dX9_soonest_35 : decode cX9_soonest 35 = .ok (.iload_n 1, 1) := by decide +kernel
theorem dX9_soonest_36 : decode cX9_soonest 36 = .ok (.iaload, 1) := by decide +kernel
theorem dX9_soonest_37 : decode cX9_soonest 37 = .ok (.iload_n 2, 1) := by decide +kernel
theorem dX9_soonest_38 : decode cX9_soonest 38 = .ok (.if_icmp .lt 6, 3) := by decide +kernel
theorem dX9_soonest_41 : decode cX9_soonest 41 = .ok (.iload 4, 2) := by decide +kernel
theorem dX9_soonest_43 : decode cX9_soonest 43 = .ok (.ireturn, 1) := by decide +kernel
theorem dX9_soonest_44 : decode cX9_soonest 44 = .ok (.iinc 4 1, 3) := by decide +kernel
theorem dX9_soonest_47 : decode cX9_soonest 47 = .ok (.goto (-27), 3) := by decide +kernel
theorem dX9_soonest_50 : decode cX9_soonest 50 = .ok (.iconst (-1), 1) := by decide +kernel
theorem dX9_soonest_51 : decode cX9_soonest 51 = .ok (.ireturn, 1) := by decide +kernel
theorem dX9_handed_0 : decode cX9_handed 0 = .ok (.iload_n 1, 1) := by decide +kernel
theorem dX9_handed_1 : decode cX9_handed 1 = .ok (.iconst 0, 1) := by decide +kernel
theorem dX9_handed_2 : decode cX9_handed 2 = .ok (.bipush 40, 2) := by decide +kernel
theorem dX9_handed_4 : decode cX9_handed 4 = .ok (.invokestatic 224, 3) := by decide +kernel
theorem dX9_handed_7 : decode cX9_handed 7 = .ok (.aload_n 0, 1) := by decide +kernel
theorem dX9_handed_8 : decode cX9_handed 8 = .ok (.invokevirtual 193, 3) := by decide +kernel
theorem dX9_handed_11 : decode cX9_handed 11 = .ok (.astore_n 2, 1) := by decide +kernel
theorem dX9_handed_12 : decode cX9_handed 12 = .ok (.iconst 0, 1) := by decide +kernel
theorem dX9_handed_13 : decode cX9_handed 13 = .ok (.istore_n 3, 1) := by decide +kernel
theorem dX9_handed_14 : decode cX9_handed 14 = .ok (.iconst 0, 1) := by decide +kernel
theorem dX9_handed_15 : decode cX9_handed 15 = .ok (.istore 4, 2) := by decide +kernel
theorem dX9_handed_17 : decode cX9_handed 17 = .ok (.iload 4, 2) := by decide +kernel
theorem dX9_handed_19 : decode cX9_handed 19 = .ok (.iload_n 1, 1) := by decide +kernel
theorem dX9_handed_20 : decode cX9_handed 20 = .ok (.if_icmp .ge 54, 3) := by decide +kernel
theorem dX9_handed_23 : decode cX9_handed 23 = .ok (.aload_n 2, 1) := by decide +kernel
theorem dX9_handed_24 : decode cX9_handed 24 = .ok (.invokevirtual 234, 3) := by decide +kernel
theorem dX9_handed_27 : decode cX9_handed 27 = .ok (.iconst 0, 1) := by decide +kernel
theorem dX9_handed_28 : decode cX9_handed 28 = .ok (.istore 5, 2) := by decide +kernel
theorem dX9_handed_30 : decode cX9_handed 30 = .ok (.iload 5, 2) := by decide +kernel
theorem dX9_handed_32 : decode cX9_handed 32 = .ok (.aload_n 0, 1) := by decide +kernel
theorem dX9_handed_33 : decode cX9_handed 33 = .ok (.getfield 55, 3) := by decide +kernel
theorem dX9_handed_36 : decode cX9_handed 36 = .ok (.getfield 102, 3) := by decide +kernel
theorem dX9_handed_39 : decode cX9_handed 39 = .ok (.if_icmp .ge 29, 3) := by decide +kernel
theorem dX9_handed_42 : decode cX9_handed 42 = .ok (.aload_n 2, 1) := by decide +kernel
theorem dX9_handed_43 : decode cX9_handed 43 = .ok (.getfield 355, 3) := by decide +kernel
theorem dX9_handed_46 : decode cX9_handed 46 = .ok (.iload 5, 2) := by decide +kernel
theorem dX9_handed_48 : decode cX9_handed 48 = .ok (.iaload, 1) := by decide +kernel
theorem dX9_handed_49 : decode cX9_handed 49 = .ok (.aload_n 2, 1) := by decide +kernel
theorem dX9_handed_50 : decode cX9_handed 50 = .ok (.getfield 231, 3) := by decide +kernel
theorem dX9_handed_53 : decode cX9_handed 53 = .ok (.iload 5, 2) := by decide +kernel
theorem dX9_handed_55 : decode cX9_handed 55 = .ok (.iaload, 1) := by decide +kernel
theorem dX9_handed_56 : decode cX9_handed 56 = .ok (.if_icmp .eq 6, 3) := by decide +kernel
theorem dX9_handed_59 : decode cX9_handed 59 = .ok (.iinc 3 1, 3) := by decide +kernel
theorem dX9_handed_62 : decode cX9_handed 62 = .ok (.iinc 5 1, 3) := by decide +kernel
theorem dX9_handed_65 : decode cX9_handed 65 = .ok (.goto (-35), 3) := by decide +kernel
theorem dX9_handed_68 : decode cX9_handed 68 = .ok (.iinc 4 1, 3) := by decide +kernel
theorem dX9_handed_71 : decode cX9_handed 71 = .ok (.goto (-54), 3) := by decide +kernel
theorem dX9_handed_74 : decode cX9_handed 74 = .ok (.iload_n 3, 1) := by decide +kernel
theorem dX9_handed_75 : decode cX9_handed 75 = .ok (.ireturn, 1) := by decide +kernel
theorem dX9_image_0 : decode cX9_image 0 = .ok (.aload_n 0, 1) := by decide +kernel
theorem dX9_image_1 : decode cX9_image 1 = .ok (.getfield 23, 3) := by decide +kernel
theorem dX9_image_4 : decode cX9_image 4 = .ok (.aload_n 0, 1) := by decide +kernel
theorem dX9_image_5 : decode cX9_image 5 = .ok (.getfield 19, 3) := by decide +kernel
theorem dX9_image_8 : decode cX9_image 8 = .ok (.invokevirtual 358, 3) := by decide +kernel
theorem dX9_image_11 : decode cX9_image 11 = .ok (.aload_n 0, 1) := by decide +kernel
theorem dX9_image_12 : decode cX9_image 12 = .ok (.iconst 1, 1) := by decide +kernel
theorem dX9_image_13 : decode cX9_image 13 = .ok (.putfield 59, 3) := by decide +kernel
theorem dX9_image_16 : decode cX9_image 16 = .ok (.return_, 1) := by decide +kernel
theorem dX9_restore_0 : decode cX9_restore 0 = .ok (.aload_n 0, 1) := by decide +kernel
theorem dX9_restore_1 : decode cX9_restore 1 = .ok (.getfield 59, 3) := by decide +kernel
theorem dX9_restore_4 : decode cX9_restore 4 = .ok (.ifCond .eq 14, 3) := by decide +kernel
theorem dX9_restore_7 : decode cX9_restore 7 = .ok (.aload_n 0, 1) := by decide +kernel
theorem dX9_restore_8 : decode cX9_restore 8 = .ok (.getfield 19, 3) := by decide +kernel
theorem dX9_restore_11 : decode cX9_restore 11 = .ok (.aload_n 0, 1) := by decide +kernel
theorem dX9_restore_12 : decode cX9_restore 12 = .ok (.getfield 23, 3) := by decide +kernel
theorem dX9_restore_15 : decode cX9_restore 15 = .ok (.invokevirtual 358, 3) := by decide +kernel
theorem dX9_restore_18 : decode cX9_restore 18 = .ok (.aload_n 0, 1) := by decide +kernel
theorem dX9_restore_19 : decode cX9_restore 19 = .ok (.getfield 59, 3) := by decide +kernel
theorem dX9_restore_22 : decode cX9_restore 22 = .ok (.ireturn, 1) := by decide +kernel
theorem dX9_needPerson_0 : decode cX9_needPerson 0 = .ok (.iload_n 1, 1) := by decide +kernel
theorem dX9_needPerson_1 : decode cX9_needPerson 1 = .ok (.ifCond .lt 14, 3) := by decide +kernel
theorem dX9_needPerson_4 : decode cX9_needPerson 4 = .ok (.iload_n 1, 1) := by decide +kernel
theorem dX9_needPerson_5 : decode cX9_needPerson 5 = .ok (.aload_n 0, 1) := by decide +kernel
theorem dX9_needPerson_6 : decode cX9_needPerson 6 = .ok (.getfield 55, 3) := by decide +kernel
theorem dX9_needPerson_9 : decode cX9_needPerson 9 = .ok (.getfield 99, 3) := by decide +kernel
theorem dX9_needPerson_12 : decode cX9_needPerson 12 = .ok (.if_icmp .lt 14, 3) := by decide +kernel
theorem dX9_needPerson_15 : decode cX9_needPerson 15 = .ok (.new 142, 3) := by decide +kernel
theorem dX9_needPerson_18 : decode cX9_needPerson 18 = .ok (.dup, 1) := by decide +kernel
theorem dX9_needPerson_19 : decode cX9_needPerson 19 = .ok (.ldc_w 361, 3) := by decide +kernel
theorem dX9_needPerson_22 : decode cX9_needPerson 22 = .ok (.invokespecial 146, 3) := by decide +kernel
theorem dX9_needPerson_25 : decode cX9_needPerson 25 = .ok (.athrow, 1) := by decide +kernel
theorem dX9_needPerson_26 : decode cX9_needPerson 26 = .ok (.return_, 1) := by decide +kernel
theorem dX9_needDuty_0 : decode cX9_needDuty 0 = .ok (.iload_n 1, 1) := by decide +kernel
theorem dX9_needDuty_1 : decode cX9_needDuty 1 = .ok (.ifCond .lt 14, 3) := by decide +kernel
theorem dX9_needDuty_4 : decode cX9_needDuty 4 = .ok (.iload_n 1, 1) := by decide +kernel
theorem dX9_needDuty_5 : decode cX9_needDuty 5 = .ok (.aload_n 0, 1) := by decide +kernel
theorem dX9_needDuty_6 : decode cX9_needDuty 6 = .ok (.getfield 55, 3) := by decide +kernel
theorem dX9_needDuty_9 : decode cX9_needDuty 9 = .ok (.getfield 102, 3) := by decide +kernel
theorem dX9_needDuty_12 : decode cX9_needDuty 12 = .ok (.if_icmp .lt 14, 3) := by decide +kernel
theorem dX9_needDuty_15 : decode cX9_needDuty 15 = .ok (.new 142, 3) := by decide +kernel
theorem dX9_needDuty_18 : decode cX9_needDuty 18 = .ok (.dup, 1) := by decide +kernel
theorem dX9_needDuty_19 : decode cX9_needDuty 19 = .ok (.ldc_w 363, 3) := by decide +kernel
theorem dX9_needDuty_22 : decode cX9_needDuty 22 = .ok (.invokespecial 146, 3) := by decide +kernel
theorem dX9_needDuty_25 : decode cX9_needDuty 25 = .ok (.athrow, 1) := by decide +kernel
theorem dX9_needDuty_26 : decode cX9_needDuty 26 = .ok (.return_, 1) := by decide +kernel
theorem dX9_needWhat_0 : decode cX9_needWhat 0 = .ok (.iload_n 0, 1) := by decide +kernel
theorem dX9_needWhat_1 : decode cX9_needWhat 1 = .ok (.ifCond .lt 8, 3) := by decide +kernel
theorem dX9_needWhat_4 : decode cX9_needWhat 4 = .ok (.iload_n 0, 1) := by decide +kernel
theorem dX9_needWhat_5 : decode cX9_needWhat 5 = .ok (.iload_n 1, 1) := by decide +kernel
theorem dX9_needWhat_6 : decode cX9_needWhat 6 = .ok (.if_icmp .le 14, 3) := by decide +kernel
theorem dX9_needWhat_9 : decode cX9_needWhat 9 = .ok (.new 142, 3) := by decide +kernel
theorem dX9_needWhat_12 : decode cX9_needWhat 12 = .ok (.dup, 1) := by decide +kernel
theorem dX9_needWhat_13 : decode cX9_needWhat 13 = .ok (.ldc_w 365, 3) := by decide +kernel
theorem dX9_needWhat_16 : decode cX9_needWhat 16 = .ok (.invokespecial 146, 3) := by decide +kernel
theorem dX9_needWhat_19 : decode cX9_needWhat 19 = .ok (.athrow, 1) := by decide +kernel
theorem dX9_needWhat_20 : decode cX9_needWhat 20 = .ok (.return_, 1) := by decide +kernel
theorem dX9_needRange_0 : decode cX9_needRange 0 = .ok (.iload_n 0, 1) := by decide +kernel
theorem dX9_needRange_1 : decode cX9_needRange 1 = .ok (.iload_n 1, 1) := by decide +kernel
theorem dX9_needRange_2 : decode cX9_needRange 2 = .ok (.if_icmp .lt 8, 3) := by decide +kernel
theorem dX9_needRange_5 : decode cX9_needRange 5 = .ok (.iload_n 0, 1) := by decide +kernel
theorem dX9_needRange_6 : decode cX9_needRange 6 = .ok (.iload_n 2, 1) := by decide +kernel
theorem dX9_needRange_7 : decode cX9_needRange 7 = .ok (.if_icmp .le 14, 3) := by decide +kernel
theorem dX9_needRange_10 : decode cX9_needRange 10 = .ok (.new 80, 3) := by decide +kernel
theorem dX9_needRange_13 : decode cX9_needRange 13 = .ok (.dup, 1) := by decide +kernel
theorem dX9_needRange_14 : decode cX9_needRange 14 = .ok (.ldc_w 367, 3) := by decide +kernel
theorem dX9_needRange_17 : decode cX9_needRange 17 = .ok (.invokespecial 84, 3) := by decide +kernel
theorem dX9_needRange_20 : decode cX9_needRange 20 = .ok (.athrow, 1) := by decide +kernel
theorem dX9_needRange_21 : decode cX9_needRange 21 = .ok (.return_, 1) := by decide +kernel
theorem dX9_fromNow_0 : decode cX9_fromNow 0 = .ok (.aload_n 0, 1) := by decide +kernel
theorem dX9_fromNow_1 : decode cX9_fromNow 1 = .ok (.getfield 29, 3) := by decide +kernel
theorem dX9_fromNow_4 : decode cX9_fromNow 4 = .ok (.aload_n 0, 1) := by decide +kernel
theorem dX9_fromNow_5 : decode cX9_fromNow 5 = .ok (.getfield 55, 3) := by decide +kernel
theorem dX9_fromNow_8 : decode cX9_fromNow 8 = .ok (.aload_n 0, 1) := by decide +kernel
theorem dX9_fromNow_9 : decode cX9_fromNow 9 = .ok (.getfield 19, 3) := by decide +kernel
theorem dX9_fromNow_12 : decode cX9_fromNow 12 = .ok (.getfield 108, 3) := by decide +kernel
theorem dX9_fromNow_15 : decode cX9_fromNow 15 = .ok (.invokevirtual 369, 3) := by decide +kernel
theorem dX9_fromNow_18 : decode cX9_fromNow 18 = .ok (.aload_n 0, 1) := by decide +kernel
theorem dX9_fromNow_19 : decode cX9_fromNow 19 = .ok (.getfield 29, 3) := by decide +kernel
theorem dX9_fromNow_22 : decode cX9_fromNow 22 = .ok (.areturn, 1) := by decide +kernel
theorem dX9_nextDayTo_0 : decode cX9_nextDayTo 0 = .ok (.aload_n 0, 1) := by decide +kernel
theorem dX9_nextDayTo_1 : decode cX9_nextDayTo 1 = .ok (.invokevirtual 193, 3) := by decide +kernel
theorem dX9_nextDayTo_4 : decode cX9_nextDayTo 4 = .ok (.astore_n 2, 1) := by decide +kernel
theorem dX9_nextDayTo_5 : decode cX9_nextDayTo 5 = .ok (.iconst 0, 1) := by decide +kernel
theorem dX9_nextDayTo_6 : decode cX9_nextDayTo 6 = .ok (.istore_n 3, 1) := by decide +kernel
theorem dX9_nextDayTo_7 : decode cX9_nextDayTo 7 = .ok (.iload_n 3, 1) := by decide +kernel
theorem dX9_nextDayTo_8 : decode cX9_nextDayTo 8 = .ok (.iload_n 1, 1) := by decide +kernel
theorem dX9_nextDayTo_9 : decode cX9_nextDayTo 9 = .ok (.if_icmp .gt 14, 3) := by decide +kernel
theorem dX9_nextDayTo_12 : decode cX9_nextDayTo 12 = .ok (.aload_n 2, 1) := by decide +kernel
theorem dX9_nextDayTo_13 : decode cX9_nextDayTo 13 = .ok (.iload_n 3, 1) := by decide +kernel
theorem dX9_nextDayTo_14 : decode cX9_nextDayTo 14 = .ok (.invokevirtual 372, 3) := by decide +kernel
theorem dX9_nextDayTo_17 : decode cX9_nextDayTo 17 = .ok (.iinc 3 1, 3) := by decide +kernel
theorem dX9_nextDayTo_20 : decode cX9_nextDayTo 20 = .ok (.goto (-13), 3) := by decide +kernel
theorem dX9_nextDayTo_23 : decode cX9_nextDayTo 23 = .ok (.aload_n 2, 1) := by decide +kernel
theorem dX9_nextDayTo_24 : decode cX9_nextDayTo 24 = .ok (.areturn, 1) := by decide +kernel
theorem dX9_hasteOfAll_0 : decode cX9_hasteOfAll 0 = .ok (.iconst 0, 1) := by decide +kernel
theorem dX9_hasteOfAll_1 : decode cX9_hasteOfAll 1 = .ok (.istore_n 2, 1) := by decide +kernel
theorem dX9_hasteOfAll_2 : decode cX9_hasteOfAll 2 = .ok (.iconst 0, 1) := by decide +kernel
theorem dX9_hasteOfAll_3 : decode cX9_hasteOfAll 3 = .ok (.istore_n 3, 1) := by decide +kernel
theorem dX9_hasteOfAll_4 : decode cX9_hasteOfAll 4 = .ok (.iload_n 3, 1) := by decide +kernel
theorem dX9_hasteOfAll_5 : decode cX9_hasteOfAll 5 = .ok (.aload_n 0, 1) := by decide +kernel
theorem dX9_hasteOfAll_6 : decode cX9_hasteOfAll 6 = .ok (.getfield 55, 3) := by decide +kernel
theorem dX9_hasteOfAll_9 : decode cX9_hasteOfAll 9 = .ok (.getfield 99, 3) := by decide +kernel
theorem dX9_hasteOfAll_12 : decode cX9_hasteOfAll 12 = .ok (.if_icmp .ge 17, 3) := by decide +kernel
theorem dX9_hasteOfAll_15 : decode cX9_hasteOfAll 15 = .ok (.iload_n 2, 1) := by decide +kernel
theorem dX9_hasteOfAll_16 : decode cX9_hasteOfAll 16 = .ok (.aload_n 1, 1) := by decide +kernel
theorem dX9_hasteOfAll_17 : decode cX9_hasteOfAll 17 = .ok (.iload_n 3, 1) := by decide +kernel
theorem dX9_hasteOfAll_18 : decode cX9_hasteOfAll 18 = .ok (.invokevirtual 153, 3) := by decide +kernel
theorem dX9_hasteOfAll_21 : decode cX9_hasteOfAll 21 = .ok (.iadd, 1) := by decide +kernel
theorem dX9_hasteOfAll_22 : decode cX9_hasteOfAll 22 = .ok (.istore_n 2, 1) := by decide +kernel
theorem dX9_hasteOfAll_23 : decode cX9_hasteOfAll 23 = .ok (.iinc 3 1, 3) := by decide +kernel
theorem dX9_hasteOfAll_26 : decode cX9_hasteOfAll 26 = .ok (.goto (-22), 3) := by decide +kernel
theorem dX9_hasteOfAll_29 : decode cX9_hasteOfAll 29 = .ok (.iload_n 2, 1) := by decide +kernel
theorem dX9_hasteOfAll_30 : decode cX9_hasteOfAll 30 = .ok (.ireturn, 1) := by decide +kernel
theorem dX9_wayNow_0 : decode cX9_wayNow 0 = .ok (.aload_n 0, 1) := by decide +kernel
theorem dX9_wayNow_1 : decode cX9_wayNow 1 = .ok (.getfield 55, 3) := by decide +kernel
theorem dX9_wayNow_4 : decode cX9_wayNow 4 = .ok (.iload_n 1, 1) := by decide +kernel
theorem dX9_wayNow_5 : decode cX9_wayNow 5 = .ok (.iload_n 2, 1) := by decide +kernel
theorem dX9_wayNow_6 : decode cX9_wayNow 6 = .ok (.aload_n 0, 1) := by decide +kernel
theorem dX9_wayNow_7 : decode cX9_wayNow 7 = .ok (.getfield 55, 3) := by decide +kernel
theorem dX9_wayNow_10 : decode cX9_wayNow 10 = .ok (.getfield 150, 3) := by decide +kernel
theorem dX9_wayNow_13 : decode cX9_wayNow 13 = .ok (.iload_n 1, 1) := by decide +kernel
theorem dX9_wayNow_14 : decode cX9_wayNow 14 = .ok (.iaload, 1) := by decide +kernel
theorem dX9_wayNow_15 : decode cX9_wayNow 15 = .ok (.aload_n 0, 1) := by decide +kernel
theorem dX9_wayNow_16 : decode cX9_wayNow 16 = .ok (.getfield 19, 3) := by decide +kernel
theorem dX9_wayNow_19 : decode cX9_wayNow 19 = .ok (.getfield 108, 3) := by decide +kernel
theorem dX9_wayNow_22 : decode cX9_wayNow 22 = .ok (.iload_n 1, 1) := by decide +kernel
theorem dX9_wayNow_23 : decode cX9_wayNow 23 = .ok (.invokevirtual 153, 3) := by decide +kernel
theorem dX9_wayNow_26 : decode cX9_wayNow 26 = .ok (.invokevirtual 375, 3) := by decide +kernel
theorem dX9_wayNow_29 : decode cX9_wayNow 29 = .ok (.ireturn, 1) := by decide +kernel
theorem dX9_slowest_0 : decode cX9_slowest 0 = .ok (.iconst (-1), 1) := by decide +kernel
theorem dX9_slowest_1 : decode cX9_slowest 1 = .ok (.istore_n 2, 1) := by decide +kernel
theorem dX9_slowest_2 : decode cX9_slowest 2 = .ok (.iconst 0, 1) := by decide +kernel
theorem dX9_slowest_3 : decode cX9_slowest 3 = .ok (.istore_n 3, 1) := by decide +kernel
theorem dX9_slowest_4 : decode cX9_slowest 4 = .ok (.iload_n 3, 1) := by decide +kernel
theorem dX9_slowest_5 : decode cX9_slowest 5 = .ok (.aload_n 0, 1) := by decide +kernel
theorem dX9_slowest_6 : decode cX9_slowest 6 = .ok (.getfield 55, 3) := by decide +kernel
theorem dX9_slowest_9 : decode cX9_slowest 9 = .ok (.getfield 99, 3) := by decide +kernel
theorem dX9_slowest_12 : decode cX9_slowest 12 = .ok (.if_icmp .ge 43, 3) := by decide +kernel
theorem dX9_slowest_15 : decode cX9_slowest 15 = .ok (.aload_n 0, 1) := by decide +kernel
theorem dX9_slowest_16 : decode cX9_slowest 16 = .ok (.getfield 55, 3) := by decide +kernel
theorem dX9_slowest_19 : decode cX9_slowest 19 = .ok (.getfield 166, 3) := by decide +kernel
theorem dX9_slowest_22 : decode cX9_slowest 22 = .ok (.iload_n 3, 1) := by decide +kernel
theorem dX9_slowest_23 : decode cX9_slowest 23 = .ok (.iaload, 1) := by decide +kernel
theorem dX9_slowest_24 : decode cX9_slowest 24 = .ok (.ifCond .ne 25, 3) := by decide +kernel
theorem dX9_slowest_27 : decode cX9_slowest 27 = .ok (.iload_n 2, 1) := by decide +kernel
theorem dX9_slowest_28 : decode cX9_slowest 28 = .ok (.iconst (-1), 1) := by decide +kernel
theorem dX9_slowest_29 : decode cX9_slowest 29 = .ok (.if_icmp .eq 18, 3) := by decide +kernel
theorem dX9_slowest_32 : decode cX9_slowest 32 = .ok (.aload_n 0, 1) := by decide +kernel
theorem dX9_slowest_33 : decode cX9_slowest 33 = .ok (.iload_n 3, 1) := by decide +kernel
theorem dX9_slowest_34 : decode cX9_slowest 34 = .ok (.iload_n 1, 1) := by decide +kernel
theorem dX9_slowest_35 : decode cX9_slowest 35 = .ok (.invokevirtual 346, 3) := by decide +kernel
theorem dX9_slowest_38 : decode cX9_slowest 38 = .ok (.aload_n 0, 1) := by decide +kernel
theorem dX9_slowest_39 : decode cX9_slowest 39 = .ok (.iload_n 2, 1) := by decide +kernel
theorem dX9_slowest_40 : decode cX9_slowest 40 = .ok (.iload_n 1, 1) := by decide +kernel
theorem dX9_slowest_41 : decode cX9_slowest 41 = .ok (.invokevirtual 346, 3) := by decide +kernel
theorem dX9_slowest_44 : decode cX9_slowest 44 = .ok (.if_icmp .le 5, 3) := by decide +kernel
theorem dX9_slowest_47 : decode cX9_slowest 47 = .ok (.iload_n 3, 1) := by decide +kernel
theorem dX9_slowest_48 : decode cX9_slowest 48 = .ok (.istore_n 2, 1) := by decide +kernel
theorem dX9_slowest_49 : decode cX9_slowest 49 = .ok (.iinc 3 1, 3) := by decide +kernel
theorem dX9_slowest_52 : decode cX9_slowest 52 = .ok (.goto (-48), 3) := by decide +kernel
theorem dX9_slowest_55 : decode cX9_slowest 55 = .ok (.iload_n 2, 1) := by decide +kernel
theorem dX9_slowest_56 : decode cX9_slowest 56 = .ok (.ireturn, 1) := by decide +kernel
theorem dX9_areAlike_0 : decode cX9_areAlike 0 = .ok (.iconst 0, 1) := by decide +kernel
theorem dX9_areAlike_1 : decode cX9_areAlike 1 = .ok (.istore_n 3, 1) := by decide +kernel
theorem dX9_areAlike_2 : decode cX9_areAlike 2 = .ok (.iload_n 3, 1) := by decide +kernel
theorem dX9_areAlike_3 : decode cX9_areAlike 3 = .ok (.bipush 17, 2) := by decide +kernel
theorem dX9_areAlike_5 : decode cX9_areAlike 5 = .ok (.if_icmp .ge 36, 3) := by decide +kernel
theorem dX9_areAlike_8 : decode cX9_areAlike 8 = .ok (.aload_n 0, 1) := by decide +kernel
theorem dX9_areAlike_9 : decode cX9_areAlike 9 = .ok (.getfield 39, 3) := by decide +kernel
theorem dX9_areAlike_12 : decode cX9_areAlike 12 = .ok (.iload_n 1, 1) := by decide +kernel
theorem dX9_areAlike_13 : decode cX9_areAlike 13 = .ok (.bipush 17, 2) := by decide +kernel
theorem dX9_areAlike_15 : decode cX9_areAlike 15 = .ok (.imul, 1) := by decide +kernel
theorem dX9_areAlike_16 : decode cX9_areAlike 16 = .ok (.iload_n 3, 1) := by decide +kernel
theorem dX9_areAlike_17 : decode cX9_areAlike 17 = .ok (.iadd, 1) := by decide +kernel
theorem dX9_areAlike_18 : decode cX9_areAlike 18 = .ok (.iaload, 1) := by decide +kernel
theorem dX9_areAlike_19 : decode cX9_areAlike 19 = .ok (.aload_n 0, 1) := by decide +kernel
theorem dX9_areAlike_20 : decode cX9_areAlike 20 = .ok (.getfield 39, 3) := by decide +kernel
theorem dX9_areAlike_23 : decode cX9_areAlike 23 = .ok (.iload_n 2, 1) := by decide +kernel
theorem dX9_areAlike_24 : decode cX9_areAlike 24 = .ok (.bipush 17, 2) := by decide +kernel
theorem dX9_areAlike_26 : decode cX9_areAlike 26 = .ok (.imul, 1) := by decide +kernel
theorem dX9_areAlike_27 : decode cX9_areAlike 27 = .ok (.iload_n 3, 1) := by decide +kernel
theorem dX9_areAlike_28 : decode cX9_areAlike 28 = .ok (.iadd, 1) := by decide +kernel
theorem dX9_areAlike_29 : decode cX9_areAlike 29 = .ok (.iaload, 1) := by decide +kernel
theorem dX9_areAlike_30 : decode cX9_areAlike 30 = .ok (.if_icmp .eq 5, 3) := by decide +kernel
theorem dX9_areAlike_33 : decode cX9_areAlike 33 = .ok (.iconst 0, 1) := by decide +kernel
theorem dX9_areAlike_34 : decode cX9_areAlike 34 = .ok (.ireturn, 1) := by decide +kernel
theorem dX9_areAlike_35 : decode cX9_areAlike 35 = .ok (.iinc 3 1, 3) := by decide +kernel
theorem dX9_areAlike_38 : decode cX9_areAlike 38 = .ok (.goto (-36), 3) := by decide +kernel
theorem dX9_areAlike_41 : decode cX9_areAlike 41 = .ok (.iconst 1, 1) := by decide +kernel
theorem dX9_areAlike_42 : decode cX9_areAlike 42 = .ok (.ireturn, 1) := by decide +kernel
theorem dX9_areTwins_0 : decode cX9_areTwins 0 = .ok (.aload_n 0, 1) := by decide +kernel
theorem dX9_areTwins_1 : decode cX9_areTwins 1 = .ok (.getfield 55, 3) := by decide +kernel
theorem dX9_areTwins_4 : decode cX9_areTwins 4 = .ok (.getfield 157, 3) := by decide +kernel
theorem dX9_areTwins_7 : decode cX9_areTwins 7 = .ok (.iload_n 1, 1) := by decide +kernel
theorem dX9_areTwins_8 : decode cX9_areTwins 8 = .ok (.iaload, 1) := by decide +kernel
theorem dX9_areTwins_9 : decode cX9_areTwins 9 = .ok (.aload_n 0, 1) := by decide +kernel
theorem dX9_areTwins_10 : decode cX9_areTwins 10 = .ok (.getfield 55, 3) := by decide +kernel
theorem dX9_areTwins_13 : decode cX9_areTwins 13 = .ok (.getfield 157, 3) := by decide +kernel
theorem dX9_areTwins_16 : decode cX9_areTwins 16 = .ok (.iload_n 2, 1) := by decide +kernel
theorem dX9_areTwins_17 : decode cX9_areTwins 17 = .ok (.iaload, 1) := by decide +kernel
theorem dX9_areTwins_18 : decode cX9_areTwins 18 = .ok (.if_icmp .ne 53, 3) := by decide +kernel
theorem dX9_areTwins_21 : decode cX9_areTwins 21 = .ok (.aload_n 0, 1) := by decide +kernel
theorem dX9_areTwins_22 : decode cX9_areTwins 22 = .ok (.getfield 55, 3) := by decide +kernel
theorem dX9_areTwins_25 : decode cX9_areTwins 25 = .ok (.getfield 150, 3) := by decide +kernel
theorem dX9_areTwins_28 : decode cX9_areTwins 28 = .ok (.iload_n 1, 1) := by decide +kernel
theorem dX9_areTwins_29 : decode cX9_areTwins 29 = .ok (.iaload, 1) := by decide +kernel
theorem dX9_areTwins_30 : decode cX9_areTwins 30 = .ok (.aload_n 0, 1) := by decide +kernel
theorem dX9_areTwins_31 : decode cX9_areTwins 31 = .ok (.getfield 55, 3) := by decide +kernel
theorem dX9_areTwins_34 : decode cX9_areTwins 34 = .ok (.getfield 150, 3) := by decide +kernel
theorem dX9_areTwins_37 : decode cX9_areTwins 37 = .ok (.iload_n 2, 1) := by decide +kernel
theorem dX9_areTwins_38 : decode cX9_areTwins 38 = .ok (.iaload, 1) := by decide +kernel
theorem dX9_areTwins_39 : decode cX9_areTwins 39 = .ok (.if_icmp .ne 32, 3) := by decide +kernel
theorem dX9_areTwins_42 : decode cX9_areTwins 42 = .ok (.aload_n 0, 1) := by decide +kernel
theorem dX9_areTwins_43 : decode cX9_areTwins 43 = .ok (.getfield 19, 3) := by decide +kernel
theorem dX9_areTwins_46 : decode cX9_areTwins 46 = .ok (.getfield 108, 3) := by decide +kernel
theorem dX9_areTwins_49 : decode cX9_areTwins 49 = .ok (.iload_n 1, 1) := by decide +kernel
theorem dX9_areTwins_50 : decode cX9_areTwins 50 = .ok (.invokevirtual 153, 3) := by decide +kernel
theorem dX9_areTwins_53 : decode cX9_areTwins 53 = .ok (.aload_n 0, 1) := by decide +kernel
theorem dX9_areTwins_54 : decode cX9_areTwins 54 = .ok (.getfield 19, 3) := by decide +kernel
theorem dX9_areTwins_57 : decode cX9_areTwins 57 = .ok (.getfield 108, 3) := by decide +kernel
theorem dX9_areTwins_60 : decode cX9_areTwins 60 = .ok (.iload_n 2, 1) := by decide +kernel
theorem dX9_areTwins_61 : decode cX9_areTwins 61 = .ok (.invokevirtual 153, 3) := by decide +kernel
theorem dX9_areTwins_64 : decode cX9_areTwins 64 = .ok (.if_icmp .ne 7, 3) := by decide +kernel
theorem dX9_areTwins_67 : decode cX9_areTwins 67 = .ok (.iconst 1, 1) := by decide +kernel
theorem dX9_areTwins_68 : decode cX9_areTwins 68 = .ok (.goto 4, 3) := by decide +kernel
theorem dX9_areTwins_71 : decode cX9_areTwins 71 = .ok (.iconst 0, 1) := by decide +kernel
theorem dX9_areTwins_72 : decode cX9_areTwins 72 = .ok (.ireturn, 1) := by decide +kernel
theorem dX9_fillLeastWays_0 : decode cX9_fillLeastWays 0 = .ok (.iconst 1, 1) := by decide +kernel
theorem dX9_fillLeastWays_1 : decode cX9_fillLeastWays 1 = .ok (.aload_n 0, 1) := by decide +kernel
theorem dX9_fillLeastWays_2 : decode cX9_fillLeastWays 2 = .ok (.getfield 55, 3) := by decide +kernel
theorem dX9_fillLeastWays_5 : decode cX9_fillLeastWays 5 = .ok (.getfield 99, 3) := by decide +kernel
theorem dX9_fillLeastWays_8 : decode cX9_fillLeastWays 8 = .ok (.ishl, 1) := by decide +kernel
theorem dX9_fillLeastWays_9 : decode cX9_fillLeastWays 9 = .ok (.iconst 1, 1) := by decide +kernel
theorem dX9_fillLeastWays_10 : decode cX9_fillLeastWays 10 = .ok (.isub, 1) := by decide +kernel
theorem dX9_fillLeastWays_11 : decode cX9_fillLeastWays 11 = .ok (.istore_n 1, 1) := by decide +kernel
theorem dX9_fillLeastWays_12 : decode cX9_fillLeastWays 12 = .ok (.iload_n 1, 1) := by decide +kernel
theorem dX9_fillLeastWays_13 : decode cX9_fillLeastWays 13 = .ok (.ifCond .lt 106, 3) := by decide +kernel
theorem dX9_fillLeastWays_16 : decode cX9_fillLeastWays 16 = .ok (.iload_n 1, 1) := by decide +kernel
theorem dX9_fillLeastWays_17 : decode cX9_fillLeastWays 17 = .ok (.invokestatic 283, 3) := by decide +kernel
theorem dX9_fillLeastWays_20 : decode cX9_fillLeastWays 20 = .ok (.istore_n 2, 1) := by decide +kernel
theorem dX9_fillLeastWays_21 : decode cX9_fillLeastWays 21 = .ok (.iload_n 2, 1) := by decide +kernel
theorem dX9_fillLeastWays_22 : decode cX9_fillLeastWays 22 = .ok (.aload_n 0, 1) := by decide +kernel
theorem dX9_fillLeastWays_23 : decode cX9_fillLeastWays 23 = .ok (.getfield 55, 3) := by decide +kernel
theorem dX9_fillLeastWays_26 : decode cX9_fillLeastWays 26 = .ok (.getfield 102, 3) := by decide +kernel
theorem dX9_fillLeastWays_29 : decode cX9_fillLeastWays 29 = .ok (.if_icmp .lt 7, 3) := by decide +kernel
theorem dX9_fillLeastWays_32 : decode cX9_fillLeastWays 32 = .ok (.iconst 0, 1) := by decide +kernel
theorem dX9_fillLeastWays_33 : decode cX9_fillLeastWays 33 = .ok (.goto 6, 3) := by decide +kernel
theorem dX9_fillLeastWays_36 : decode cX9_fillLeastWays 36 = .ok (.ldc_w 276, 3) := by decide +kernel
theorem dX9_fillLeastWays_39 : decode cX9_fillLeastWays 39 = .ok (.istore_n 3, 1) := by decide +kernel
theorem dX9_fillLeastWays_40 : decode cX9_fillLeastWays 40 = .ok (.iconst 0, 1) := by decide +kernel
theorem dX9_fillLeastWays_41 : decode cX9_fillLeastWays 41 = .ok (.istore 4, 2) := by decide +kernel
theorem dX9_fillLeastWays_43 : decode cX9_fillLeastWays 43 = .ok (.iload 4, 2) := by decide +kernel
theorem dX9_fillLeastWays_45 : decode cX9_fillLeastWays 45 = .ok (.aload_n 0, 1) := by decide +kernel
theorem dX9_fillLeastWays_46 : decode cX9_fillLeastWays 46 = .ok (.getfield 55, 3) := by decide +kernel
theorem dX9_fillLeastWays_49 : decode cX9_fillLeastWays 49 = .ok (.getfield 99, 3) := by decide +kernel
theorem dX9_fillLeastWays_52 : decode cX9_fillLeastWays 52 = .ok (.if_icmp .ge 54, 3) := by decide +kernel
theorem dX9_fillLeastWays_55 : decode cX9_fillLeastWays 55 = .ok (.iload_n 2, 1) := by decide +kernel
theorem dX9_fillLeastWays_56 : decode cX9_fillLeastWays 56 = .ok (.aload_n 0, 1) := by decide +kernel
theorem dX9_fillLeastWays_57 : decode cX9_fillLeastWays 57 = .ok (.getfield 55, 3) := by decide +kernel
theorem dX9_fillLeastWays_60 : decode cX9_fillLeastWays 60 = .ok (.getfield 102, 3) := by decide +kernel
theorem dX9_fillLeastWays_63 : decode cX9_fillLeastWays 63 = .ok (.if_icmp .ge 43, 3) := by decide +kernel
theorem dX9_fillLeastWays_66 : decode cX9_fillLeastWays 66 = .ok (.aload_n 0, 1) := by decide +kernel
theorem dX9_fillLeastWays_67 : decode cX9_fillLeastWays 67 = .ok (.iload 4, 2) := by decide +kernel
theorem dX9_fillLeastWays_69 : decode cX9_fillLeastWays 69 = .ok (.iload_n 1, 1) := by decide +kernel
theorem dX9_fillLeastWays_70 : decode cX9_fillLeastWays 70 = .ok (.invokevirtual 379, 3) := by decide +kernel
theorem dX9_fillLeastWays_73 : decode cX9_fillLeastWays 73 = .ok (.ifCond .eq 27, 3) := by decide +kernel
theorem dX9_fillLeastWays_76 : decode cX9_fillLeastWays 76 = .ok (.iload_n 3, 1) := by decide +kernel
theorem dX9_fillLeastWays_77 : decode cX9_fillLeastWays 77 = .ok (.aload_n 0, 1) := by decide +kernel
theorem dX9_fillLeastWays_78 : decode cX9_fillLeastWays 78 = .ok (.iload 4, 2) := by decide +kernel
theorem dX9_fillLeastWays_80 : decode cX9_fillLeastWays 80 = .ok (.iload_n 2, 1) := by decide +kernel
theorem dX9_fillLeastWays_81 : decode cX9_fillLeastWays 81 = .ok (.invokevirtual 346, 3) := by decide +kernel
theorem dX9_fillLeastWays_84 : decode cX9_fillLeastWays 84 = .ok (.aload_n 0, 1) := by decide +kernel
theorem dX9_fillLeastWays_85 : decode cX9_fillLeastWays 85 = .ok (.getfield 42, 3) := by decide +kernel
theorem dX9_fillLeastWays_88 : decode cX9_fillLeastWays 88 = .ok (.iload_n 1, 1) := by decide +kernel
theorem dX9_fillLeastWays_89 : decode cX9_fillLeastWays 89 = .ok (.iconst 1, 1) := by decide +kernel
theorem dX9_fillLeastWays_90 : decode cX9_fillLeastWays 90 = .ok (.iload 4, 2) := by decide +kernel
theorem dX9_fillLeastWays_92 : decode cX9_fillLeastWays 92 = .ok (.ishl, 1) := by decide +kernel
theorem dX9_fillLeastWays_93 : decode cX9_fillLeastWays 93 = .ok (.ior, 1) := by decide +kernel
theorem dX9_fillLeastWays_94 : decode cX9_fillLeastWays 94 = .ok (.iaload, 1) := by decide +kernel
theorem dX9_fillLeastWays_95 : decode cX9_fillLeastWays 95 = .ok (.iadd, 1) := by decide +kernel
theorem dX9_fillLeastWays_96 : decode cX9_fillLeastWays 96 = .ok (.invokestatic 337, 3) := by decide +kernel
theorem dX9_fillLeastWays_99 : decode cX9_fillLeastWays 99 = .ok (.istore_n 3, 1) := by decide +kernel
theorem dX9_fillLeastWays_100 : decode cX9_fillLeastWays 100 = .ok (.iinc 4 1, 3) := by decide +kernel
theorem dX9_fillLeastWays_103 : decode cX9_fillLeastWays 103 = .ok (.goto (-60), 3) := by decide +kernel
theorem dX9_fillLeastWays_106 : decode cX9_fillLeastWays 106 = .ok (.aload_n 0, 1) := by decide +kernel
theorem dX9_fillLeastWays_107 : decode cX9_fillLeastWays 107 = .ok (.getfield 42, 3) := by decide +kernel
theorem dX9_fillLeastWays_110 : decode cX9_fillLeastWays 110 = .ok (.iload_n 1, 1) := by decide +kernel
theorem dX9_fillLeastWays_111 : decode cX9_fillLeastWays 111 = .ok (.iload_n 3, 1) := by decide +kernel
theorem dX9_fillLeastWays_112 : decode cX9_fillLeastWays 112 = .ok (.iastore, 1) := by decide +kernel
theorem dX9_fillLeastWays_113 : decode cX9_fillLeastWays 113 = .ok (.iinc 1 (-1), 3) := by decide +kernel
theorem dX9_fillLeastWays_116 : decode cX9_fillLeastWays 116 = .ok (.goto (-104), 3) := by decide +kernel
theorem dX9_fillLeastWays_119 : decode cX9_fillLeastWays 119 = .ok (.return_, 1) := by decide +kernel
theorem dX9_firstOfRota_0 : decode cX9_firstOfRota 0 = .ok (.iconst 0, 1) := by decide +kernel
theorem dX9_firstOfRota_1 : decode cX9_firstOfRota 1 = .ok (.istore_n 3, 1) := by decide +kernel
theorem dX9_firstOfRota_2 : decode cX9_firstOfRota 2 = .ok (.iload_n 3, 1) := by decide +kernel
theorem dX9_firstOfRota_3 : decode cX9_firstOfRota 3 = .ok (.aload_n 0, 1) := by decide +kernel
theorem dX9_firstOfRota_4 : decode cX9_firstOfRota 4 = .ok (.getfield 55, 3) := by decide +kernel
theorem dX9_firstOfRota_7 : decode cX9_firstOfRota 7 = .ok (.getfield 99, 3) := by decide +kernel
theorem dX9_firstOfRota_10 : decode cX9_firstOfRota 10 = .ok (.if_icmp .ge 46, 3) := by decide +kernel
theorem dX9_firstOfRota_13 : decode cX9_firstOfRota 13 = .ok (.aload_n 0, 1) := by decide +kernel
theorem dX9_firstOfRota_14 : decode cX9_firstOfRota 14 = .ok (.iload_n 3, 1) := by decide +kernel
theorem dX9_firstOfRota_15 : decode cX9_firstOfRota 15 = .ok (.iload_n 2, 1) := by decide +kernel
theorem dX9_firstOfRota_16 : decode cX9_firstOfRota 16 = .ok (.invokevirtual 379, 3) := by decide +kernel
theorem dX9_firstOfRota_19 : decode cX9_firstOfRota 19 = .ok (.ifCond .eq 31, 3) := by decide +kernel
theorem dX9_firstOfRota_22 : decode cX9_firstOfRota 22 = .ok (.aload_n 0, 1) := by decide +kernel
theorem dX9_firstOfRota_23 : decode cX9_firstOfRota 23 = .ok (.iload_n 3, 1) := by decide +kernel
theorem dX9_firstOfRota_24 : decode cX9_firstOfRota 24 = .ok (.iload_n 1, 1) := by decide +kernel
theorem dX9_firstOfRota_25 : decode cX9_firstOfRota 25 = .ok (.invokevirtual 346, 3) := by decide +kernel
theorem dX9_firstOfRota_28 : decode cX9_firstOfRota 28 = .ok (.aload_n 0, 1) := by decide +kernel
theorem dX9_firstOfRota_29 : decode cX9_firstOfRota 29 = .ok (.getfield 42, 3) := by decide +kernel
theorem dX9_firstOfRota_32 : decode cX9_firstOfRota 32 = .ok (.iload_n 2, 1) := by decide +kernel
theorem dX9_firstOfRota_33 : decode cX9_firstOfRota 33 = .ok (.iconst 1, 1) := by decide +kernel
theorem dX9_firstOfRota_34 : decode cX9_firstOfRota 34 = .ok (.iload_n 3, 1) := by decide +kernel
theorem dX9_firstOfRota_35 : decode cX9_firstOfRota 35 = .ok (.ishl, 1) := by decide +kernel
theorem dX9_firstOfRota_36 : decode cX9_firstOfRota 36 = .ok (.ior, 1) := by decide +kernel
theorem dX9_firstOfRota_37 : decode cX9_firstOfRota 37 = .ok (.iaload, 1) := by decide +kernel
theorem dX9_firstOfRota_38 : decode cX9_firstOfRota 38 = .ok (.iadd, 1) := by decide +kernel
theorem dX9_firstOfRota_39 : decode cX9_firstOfRota 39 = .ok (.aload_n 0, 1) := by decide +kernel
theorem dX9_firstOfRota_40 : decode cX9_firstOfRota 40 = .ok (.getfield 42, 3) := by decide +kernel
theorem dX9_firstOfRota_43 : decode cX9_firstOfRota 43 = .ok (.iload_n 2, 1) := by decide +kernel
theorem dX9_firstOfRota_44 : decode cX9_firstOfRota 44 = .ok (.iaload, 1) := by decide +kernel
theorem dX9_firstOfRota_45 : decode cX9_firstOfRota 45 = .ok (.if_icmp .ne 5, 3) := by decide +kernel
theorem dX9_firstOfRota_48 : decode cX9_firstOfRota 48 = .ok (.iload_n 3, 1) := by decide +kernel
theorem dX9_firstOfRota_49 : decode cX9_firstOfRota 49 = .ok (.ireturn, 1) := by decide +kernel
theorem dX9_firstOfRota_50 : decode cX9_firstOfRota 50 = .ok (.iinc 3 1, 3) := by decide +kernel
theorem dX9_firstOfRota_53 : decode cX9_firstOfRota 53 = .ok (.goto (-51), 3) := by decide +kernel
theorem dX9_firstOfRota_56 : decode cX9_firstOfRota 56 = .ok (.iconst (-1), 1) := by decide +kernel
theorem dX9_firstOfRota_57 : decode cX9_firstOfRota 57 = .ok (.ireturn, 1) := by decide +kernel
theorem dX9_mayHave_0 : decode cX9_mayHave 0 = .ok (.iload_n 2, 1) := by decide +kernel
theorem dX9_mayHave_1 : decode cX9_mayHave 1 = .ok (.iload_n 1, 1) := by decide +kernel
theorem dX9_mayHave_2 : decode cX9_mayHave 2 = .ok (.ishr, 1) := by decide +kernel
theorem dX9_mayHave_3 : decode cX9_mayHave 3 = .ok (.iconst 1, 1) := by decide +kernel
theorem dX9_mayHave_4 : decode cX9_mayHave 4 = .ok (.iand, 1) := by decide +kernel
theorem dX9_mayHave_5 : decode cX9_mayHave 5 = .ok (.ifCond .ne 33, 3) := by decide +kernel
theorem dX9_mayHave_8 : decode cX9_mayHave 8 = .ok (.aload_n 0, 1) := by decide +kernel
theorem dX9_mayHave_9 : decode cX9_mayHave 9 = .ok (.getfield 55, 3) := by decide +kernel
theorem dX9_mayHave_12 : decode cX9_mayHave 12 = .ok (.getfield 166, 3) := by decide +kernel
theorem dX9_mayHave_15 : decode cX9_mayHave 15 = .ok (.iload_n 1, 1) := by decide +kernel
theorem dX9_mayHave_16 : decode cX9_mayHave 16 = .ok (.iaload, 1) := by decide +kernel
theorem dX9_mayHave_17 : decode cX9_mayHave 17 = .ok (.ifCond .ne 21, 3) := by decide +kernel
theorem dX9_mayHave_20 : decode cX9_mayHave 20 = .ok (.aload_n 0, 1) := by decide +kernel
theorem dX9_mayHave_21 : decode cX9_mayHave 21 = .ok (.getfield 19, 3) := by decide +kernel
theorem dX9_mayHave_24 : decode cX9_mayHave 24 = .ok (.getfield 108, 3) := by decide +kernel
theorem dX9_mayHave_27 : decode cX9_mayHave 27 = .ok (.iload_n 1, 1) := by decide +kernel
theorem dX9_mayHave_28 : decode cX9_mayHave 28 = .ok (.invokevirtual 169, 3) := by decide +kernel
theorem dX9_mayHave_31 : decode cX9_mayHave 31 = .ok (.ifCond .ne 7, 3) := by decide +kernel
theorem dX9_mayHave_34 : decode cX9_mayHave 34 = .ok (.iconst 1, 1) := by decide +kernel
theorem dX9_mayHave_35 : decode cX9_mayHave 35 = .ok (.goto 4, 3) := by decide +kernel
theorem dX9_mayHave_38 : decode cX9_mayHave 38 = .ok (.iconst 0, 1) := by decide +kernel
theorem dX9_mayHave_39 : decode cX9_mayHave 39 = .ok (.ireturn, 1) := by decide +kernel
theorem dX9_furthestHome_0 : decode cX9_furthestHome 0 = .ok (.iconst (-1), 1) := by decide +kernel
theorem dX9_furthestHome_1 : decode cX9_furthestHome 1 = .ok (.istore_n 2, 1) := by decide +kernel
theorem dX9_furthestHome_2 : decode cX9_furthestHome 2 = .ok (.iconst 0, 1) := by decide +kernel
theorem dX9_furthestHome_3 : decode cX9_furthestHome 3 = .ok (.istore_n 3, 1) := by decide +kernel
theorem dX9_furthestHome_4 : decode cX9_furthestHome 4 = .ok (.iload_n 3, 1) := by decide +kernel
theorem dX9_furthestHome_5 : decode cX9_furthestHome 5 = .ok (.aload_n 0, 1) := by decide +kernel
theorem dX9_furthestHome_6 : decode cX9_furthestHome 6 = .ok (.getfield 55, 3) := by decide +kernel
theorem dX9_furthestHome_9 : decode cX9_furthestHome 9 = .ok (.getfield 99, 3) := by decide +kernel
theorem dX9_furthestHome_12 : decode cX9_furthestHome 12 = .ok (.if_icmp .ge 36, 3) := by decide +kernel
theorem dX9_furthestHome_15 : decode cX9_furthestHome 15 = .ok (.aload_n 0, 1) := by decide +kernel
theorem dX9_furthestHome_16 : decode cX9_furthestHome 16 = .ok (.getfield 55, 3) := by decide +kernel
theorem dX9_furthestHome_19 : decode cX9_furthestHome 19 = .ok (.getfield 157, 3) := by decide +kernel
theorem dX9_furthestHome_22 : decode cX9_furthestHome 22 = .ok (.iload_n 3, 1) := by decide +kernel
theorem dX9_furthestHome_23 : decode cX9_furthestHome 23 = .ok (.iaload, 1) := by decide +kernel
theorem dX9_furthestHome_24 : decode cX9_furthestHome 24 = .ok (.iload_n 1, 1) := by decide +kernel
theorem dX9_furthestHome_25 : decode cX9_furthestHome 25 = .ok (.if_icmp .ge 17, 3) := by decide +kernel
theorem dX9_furthestHome_28 : decode cX9_furthestHome 28 = .ok (.iload_n 2, 1) := by decide +kernel
theorem dX9_furthestHome_29 : decode cX9_furthestHome 29 = .ok (.aload_n 0, 1) := by decide +kernel
theorem dX9_furthestHome_30 : decode cX9_furthestHome 30 = .ok (.getfield 55, 3) := by decide +kernel
theorem dX9_furthestHome_33 : decode cX9_furthestHome 33 = .ok (.getfield 157, 3) := by decide +kernel
theorem dX9_furthestHome_36 : decode cX9_furthestHome 36 = .ok (.iload_n 3, 1) := by decide +kernel
theorem dX9_furthestHome_37 : decode cX9_furthestHome 37 = .ok (.iaload, 1) := by decide +kernel
theorem dX9_furthestHome_38 : decode cX9_furthestHome 38 = .ok (.invokestatic 264, 3) := by decide +kernel
theorem dX9_furthestHome_41 : decode cX9_furthestHome 41 = .ok (.istore_n 2, 1) := by decide +kernel
theorem dX9_furthestHome_42 : decode cX9_furthestHome 42 = .ok (.iinc 3 1, 3) := by decide +kernel
theorem dX9_furthestHome_45 : decode cX9_furthestHome 45 = .ok (.goto (-41), 3) := by decide +kernel
theorem dX9_furthestHome_48 : decode cX9_furthestHome 48 = .ok (.iload_n 2, 1) := by decide +kernel
theorem dX9_furthestHome_49 : decode cX9_furthestHome 49 = .ok (.ireturn, 1) := by decide +kernel
theorem dX9_isAsSeen_0 : decode cX9_isAsSeen 0 = .ok (.aload_n 0, 1) := by decide +kernel
theorem dX9_isAsSeen_1 : decode cX9_isAsSeen 1 = .ok (.invokevirtual 193, 3) := by decide +kernel
theorem dX9_isAsSeen_4 : decode cX9_isAsSeen 4 = .ok (.astore_n 3, 1) := by decide +kernel
theorem dX9_isAsSeen_5 : decode cX9_isAsSeen 5 = .ok (.iload_n 1, 1) := by decide +kernel
theorem dX9_isAsSeen_6 : decode cX9_isAsSeen 6 = .ok (.iconst (-1), 1) := by decide +kernel
theorem dX9_isAsSeen_7 : decode cX9_isAsSeen 7 = .ok (.if_icmp .eq 10, 3) := by decide +kernel
theorem dX9_isAsSeen_10 : decode cX9_isAsSeen 10 = .ok (.aload_n 3, 1) := by decide +kernel
theorem dX9_isAsSeen_11 : decode cX9_isAsSeen 11 = .ok (.getfield 382, 3) := by decide +kernel
theorem dX9_isAsSeen_14 : decode cX9_isAsSeen 14 = .ok (.iload_n 1, 1) := by decide +kernel
theorem dX9_isAsSeen_15 : decode cX9_isAsSeen 15 = .ok (.iload_n 2, 1) := by decide +kernel
theorem dX9_isAsSeen_16 : decode cX9_isAsSeen 16 = .ok (.iastore, 1) := by decide +kernel
theorem dX9_isAsSeen_17 : decode cX9_isAsSeen 17 = .ok (.aload_n 0, 1) := by decide +kernel
theorem dX9_isAsSeen_18 : decode cX9_isAsSeen 18 = .ok (.getfield 19, 3) := by decide +kernel
theorem dX9_isAsSeen_21 : decode cX9_isAsSeen 21 = .ok (.getfield 135, 3) := by decide +kernel
theorem dX9_isAsSeen_24 : decode cX9_isAsSeen 24 = .ok (.invokevirtual 383, 3) := by decide +kernel
theorem dX9_isAsSeen_27 : decode cX9_isAsSeen 27 = .ok (.istore 4, 2) := by decide +kernel
theorem dX9_isAsSeen_29 : decode cX9_isAsSeen 29 = .ok (.iconst 1, 1) := by decide +kernel
theorem dX9_isAsSeen_30 : decode cX9_isAsSeen 30 = .ok (.istore 5, 2) := by decide +kernel
theorem dX9_isAsSeen_32 : decode cX9_isAsSeen 32 = .ok (.iload 5, 2) := by decide +kernel
theorem dX9_isAsSeen_34 : decode cX9_isAsSeen 34 = .ok (.iload 4, 2) := by decide +kernel
theorem dX9_isAsSeen_36 : decode cX9_isAsSeen 36 = .ok (.if_icmp .gt 31, 3) := by decide +kernel
theorem dX9_isAsSeen_39 : decode cX9_isAsSeen 39 = .ok (.aload_n 3, 1) := by decide +kernel
theorem dX9_isAsSeen_40 : decode cX9_isAsSeen 40 = .ok (.invokevirtual 234, 3) := by decide +kernel
theorem dX9_isAsSeen_43 : decode cX9_isAsSeen 43 = .ok (.aload_n 0, 1) := by decide +kernel
theorem dX9_isAsSeen_44 : decode cX9_isAsSeen 44 = .ok (.getfield 19, 3) := by decide +kernel
theorem dX9_isAsSeen_47 : decode cX9_isAsSeen 47 = .ok (.getfield 135, 3) := by decide +kernel
theorem dX9_isAsSeen_50 : decode cX9_isAsSeen 50 = .ok (.aload_n 3, 1) := by decide +kernel
theorem dX9_isAsSeen_51 : decode cX9_isAsSeen 51 = .ok (.iload 5, 2) := by decide +kernel
theorem dX9_isAsSeen_53 : decode cX9_isAsSeen 53 = .ok (.invokevirtual 386, 3) := by decide +kernel
theorem dX9_isAsSeen_56 : decode cX9_isAsSeen 56 = .ok (.ifCond .ne 5, 3) := by decide +kernel
theorem dX9_isAsSeen_59 : decode cX9_isAsSeen 59 = .ok (.iconst 0, 1) := by decide +kernel
theorem dX9_isAsSeen_60 : decode cX9_isAsSeen 60 = .ok (.ireturn, 1) := by decide +kernel
theorem dX9_isAsSeen_61 : decode cX9_isAsSeen 61 = .ok (.iinc 5 1, 3) := by decide +kernel
theorem dX9_isAsSeen_64 : decode cX9_isAsSeen 64 = .ok (.goto (-32), 3) := by decide +kernel
theorem dX9_isAsSeen_67 : decode cX9_isAsSeen 67 = .ok (.iconst 1, 1) := by decide +kernel
theorem dX9_isAsSeen_68 : decode cX9_isAsSeen 68 = .ok (.ireturn, 1) := by decide +kernel
theorem dX9_hearSecondDay_0 : decode cX9_hearSecondDay 0 = .ok (.aload_n 0, 1) := by decide +kernel
theorem dX9_hearSecondDay_1 : decode cX9_hearSecondDay 1 = .ok (.invokevirtual 193, 3) := by decide +kernel
theorem dX9_hearSecondDay_4 : decode cX9_hearSecondDay 4 = .ok (.astore_n 3, 1) := by decide +kernel
theorem dX9_hearSecondDay_5 : decode cX9_hearSecondDay 5 = .ok (.aload_n 3, 1) := by decide +kernel
theorem dX9_hearSecondDay_6 : decode cX9_hearSecondDay 6 = .ok (.getfield 382, 3) := by decide +kernel
theorem dX9_hearSecondDay_9 : decode cX9_hearSecondDay 9 = .ok (.iload_n 1, 1) := by decide +kernel
theorem dX9_hearSecondDay_10 : decode cX9_hearSecondDay 10 = .ok (.iload_n 2, 1) := by decide +kernel
theorem dX9_hearSecondDay_11 : decode cX9_hearSecondDay 11 = .ok (.iastore, 1) := by decide +kernel
theorem dX9_hearSecondDay_12 : decode cX9_hearSecondDay 12 = .ok (.aload_n 3, 1) := by decide +kernel
theorem dX9_hearSecondDay_13 : decode cX9_hearSecondDay 13 = .ok (.invokevirtual 234, 3) := by decide +kernel
theorem dX9_hearSecondDay_16 : decode cX9_hearSecondDay 16 = .ok (.aload_n 3, 1) := by decide +kernel
theorem dX9_hearSecondDay_17 : decode cX9_hearSecondDay 17 = .ok (.invokevirtual 234, 3) := by decide +kernel
theorem dX9_hearSecondDay_20 : decode cX9_hearSecondDay 20 = .ok (.iconst 0, 1) := by decide +kernel
theorem dX9_hearSecondDay_21 : decode cX9_hearSecondDay 21 = .ok (.istore 4, 2) := by decide +kernel
theorem dX9_hearSecondDay_23 : decode cX9_hearSecondDay 23 = .ok (.iload 4, 2) := by decide +kernel
theorem dX9_hearSecondDay_25 : decode cX9_hearSecondDay 25 = .ok (.aload_n 0, 1) := by decide +kernel
theorem dX9_hearSecondDay_26 : decode cX9_hearSecondDay 26 = .ok (.getfield 55, 3) := by decide +kernel
theorem dX9_hearSecondDay_29 : decode cX9_hearSecondDay 29 = .ok (.getfield 102, 3) := by decide +kernel
theorem dX9_hearSecondDay_32 : decode cX9_hearSecondDay 32 = .ok (.if_icmp .ge 45, 3) := by decide +kernel
theorem dX9_hearSecondDay_35 : decode cX9_hearSecondDay 35 = .ok (.aload_n 3, 1) := by decide +kernel
theorem dX9_hearSecondDay_36 : decode cX9_hearSecondDay 36 = .ok (.getfield 228, 3) := by decide +kernel
theorem dX9_hearSecondDay_39 : decode cX9_hearSecondDay 39 = .ok (.iload 4, 2) := by decide +kernel
theorem dX9_hearSecondDay_41 : decode cX9_hearSecondDay 41 = .ok (.iaload, 1) := by decide +kernel
theorem dX9_hearSecondDay_42 : decode cX9_hearSecondDay 42 = .ok (.istore 5, 2) := by decide +kernel
theorem dX9_hearSecondDay_44 : decode cX9_hearSecondDay 44 = .ok (.aload_n 0, 1) := by decide +kernel
theorem dX9_hearSecondDay_45 : decode cX9_hearSecondDay 45 = .ok (.getfield 48, 3) := by decide +kernel
theorem dX9_hearSecondDay_48 : decode cX9_hearSecondDay 48 = .ok (.iconst 2, 1) := by decide +kernel
theorem dX9_hearSecondDay_49 : decode cX9_hearSecondDay 49 = .ok (.iload 4, 2) := by decide +kernel
theorem dX9_hearSecondDay_51 : decode cX9_hearSecondDay 51 = .ok (.imul, 1) := by decide +kernel
theorem dX9_hearSecondDay_52 : decode cX9_hearSecondDay 52 = .ok (.iload 5, 2) := by decide +kernel
theorem dX9_hearSecondDay_54 : decode cX9_hearSecondDay 54 = .ok (.bipush 6, 2) := by decide +kernel
theorem dX9_hearSecondDay_56 : decode cX9_hearSecondDay 56 = .ok (.ishr, 1) := by decide +kernel
theorem dX9_hearSecondDay_57 : decode cX9_hearSecondDay 57 = .ok (.iconst 1, 1) := by decide +kernel
theorem dX9_hearSecondDay_58 : decode cX9_hearSecondDay 58 = .ok (.iand, 1) := by decide +kernel
theorem dX9_hearSecondDay_59 : decode cX9_hearSecondDay 59 = .ok (.iadd, 1) := by decide +kernel
theorem dX9_hearSecondDay_60 : decode cX9_hearSecondDay 60 = .ok (.dup2, 1) := by decide +kernel
theorem dX9_hearSecondDay_61 : decode cX9_hearSecondDay 61 = .ok (.laload, 1) := by decide +kernel
theorem dX9_hearSecondDay_62 : decode cX9_hearSecondDay 62 = .ok (.lconst 1, 1) := by decide +kernel
theorem dX9_hearSecondDay_63 : decode cX9_hearSecondDay 63 = .ok (.iload 5, 2) := by decide +kernel
theorem dX9_hearSecondDay_65 : decode cX9_hearSecondDay 65 = .ok (.bipush 63, 2) := by decide +kernel
theorem dX9_hearSecondDay_67 : decode cX9_hearSecondDay 67 = .ok (.iand, 1) := by decide +kernel
theorem dX9_hearSecondDay_68 : decode cX9_hearSecondDay 68 = .ok (.lshl, 1) := by decide +kernel
theorem dX9_hearSecondDay_69 : decode cX9_hearSecondDay 69 = .ok (.lor, 1) := by decide +kernel
theorem dX9_hearSecondDay_70 : decode cX9_hearSecondDay 70 = .ok (.lastore, 1) := by decide +kernel
theorem dX9_hearSecondDay_71 : decode cX9_hearSecondDay 71 = .ok (.iinc 4 1, 3) := by decide +kernel
theorem dX9_hearSecondDay_74 : decode cX9_hearSecondDay 74 = .ok (.goto (-51), 3) := by decide +kernel
theorem dX9_hearSecondDay_77 : decode cX9_hearSecondDay 77 = .ok (.return_, 1) := by decide +kernel
theorem dX9_play_0 : decode cX9_play 0 = .ok (.iload_n 3, 1) := by decide +kernel
theorem dX9_play_1 : decode cX9_play 1 = .ok (.iconst 1, 1) := by decide +kernel
theorem dX9_play_2 : decode cX9_play 2 = .ok (.ishr, 1) := by decide +kernel
theorem dX9_play_3 : decode cX9_play 3 = .ok (.istore 4, 2) := by decide +kernel
theorem dX9_play_5 : decode cX9_play 5 = .ok (.iload_n 3, 1) := by decide +kernel
theorem dX9_play_6 : decode cX9_play 6 = .ok (.iconst 1, 1) := by decide +kernel
theorem dX9_play_7 : decode cX9_play 7 = .ok (.iand, 1) := by decide +kernel
theorem dX9_play_8 : decode cX9_play 8 = .ok (.istore 5, 2) := by decide +kernel
theorem dX9_play_10 : decode cX9_play 10 = .ok (.aload_n 0, 1) := by decide +kernel
theorem dX9_play_11 : decode cX9_play 11 = .ok (.invokevirtual 193, 3) := by decide +kernel
theorem dX9_play_14 : decode cX9_play 14 = .ok (.astore 6, 2) := by decide +kernel
theorem dX9_play_16 : decode cX9_play 16 = .ok (.aload 6, 2) := by decide +kernel
theorem dX9_play_18 : decode cX9_play 18 = .ok (.iload_n 1, 1) := by decide +kernel
theorem dX9_play_19 : decode cX9_play 19 = .ok (.bipush 9, 2) := by decide +kernel
theorem dX9_play_21 : decode cX9_play 21 = .ok (.iload 4, 2) := by decide +kernel
theorem dX9_play_23 : decode cX9_play 23 = .ok (.imul, 1) := by decide +kernel
theorem dX9_play_24 : decode cX9_play 24 = .ok (.invokevirtual 390, 3) := by decide +kernel
theorem dX9_play_27 : decode cX9_play 27 = .ok (.aload 6, 2) := by decide +kernel
theorem dX9_play_29 : decode cX9_play 29 = .ok (.iload_n 2, 1) := by decide +kernel
theorem dX9_play_30 : decode cX9_play 30 = .ok (.bipush 9, 2) := by decide +kernel
theorem dX9_play_32 : decode cX9_play 32 = .ok (.iload 5, 2) := by decide +kernel
theorem dX9_play_34 : decode cX9_play 34 = .ok (.imul, 1) := by decide +kernel
theorem dX9_play_35 : decode cX9_play 35 = .ok (.invokevirtual 390, 3) := by decide +kernel
theorem dX9_play_38 : decode cX9_play 38 = .ok (.iload 4, 2) := by decide +kernel
theorem dX9_play_40 : decode cX9_play 40 = .ok (.ineg, 1) := by decide +kernel
theorem dX9_play_41 : decode cX9_play 41 = .ok (.istore 7, 2) := by decide +kernel
theorem dX9_play_43 : decode cX9_play 43 = .ok (.iload 5, 2) := by decide +kernel
theorem dX9_play_45 : decode cX9_play 45 = .ok (.ineg, 1) := by decide +kernel
theorem dX9_play_46 : decode cX9_play 46 = .ok (.istore 8, 2) := by decide +kernel
theorem dX9_play_48 : decode cX9_play 48 = .ok (.iconst 0, 1) := by decide +kernel
theorem dX9_play_49 : decode cX9_play 49 = .ok (.istore 9, 2) := by decide +kernel
theorem dX9_play_51 : decode cX9_play 51 = .ok (.iload 9, 2) := by decide +kernel
theorem dX9_play_53 : decode cX9_play 53 = .ok (.bipush 8, 2) := by decide +kernel
theorem dX9_play_55 : decode cX9_play 55 = .ok (.if_icmp .ge 52, 3) := by decide +kernel
theorem dX9_play_58 : decode cX9_play 58 = .ok (.aload 6, 2) := by decide +kernel
theorem dX9_play_60 : decode cX9_play 60 = .ok (.invokevirtual 234, 3) := by decide +kernel
theorem dX9_play_63 : decode cX9_play 63 = .ok (.iload 7, 2) := by decide +kernel
theorem dX9_play_65 : decode cX9_play 65 = .ok (.aload 6, 2) := by decide +kernel
theorem dX9_play_67 : decode cX9_play 67 = .ok (.iload_n 1, 1) := by decide +kernel
theorem dX9_play_68 : decode cX9_play 68 = .ok (.invokevirtual 237, 3) := by decide +kernel
theorem dX9_play_71 : decode cX9_play 71 = .ok (.ifCond .eq 7, 3) := by decide +kernel
theorem dX9_play_74 : decode cX9_play 74 = .ok (.iconst 0, 1) := by decide +kernel
theorem dX9_play_75 : decode cX9_play 75 = .ok (.goto 4, 3) := by decide +kernel
theorem dX9_play_78 : decode cX9_play 78 = .ok (.iconst 1, 1) := by decide +kernel
theorem dX9_play_79 : decode cX9_play 79 = .ok (.iadd, 1) := by decide +kernel
theorem dX9_play_80 : decode cX9_play 80 = .ok (.istore 7, 2) := by decide +kernel
theorem dX9_play_82 : decode cX9_play 82 = .ok (.iload 8, 2) := by decide +kernel
theorem dX9_play_84 : decode cX9_play 84 = .ok (.aload 6, 2) := by decide +kernel
theorem dX9_play_86 : decode cX9_play 86 = .ok (.iload_n 2, 1) := by decide +kernel
theorem dX9_play_87 : decode cX9_play 87 = .ok (.invokevirtual 237, 3) := by decide +kernel
theorem dX9_play_90 : decode cX9_play 90 = .ok (.ifCond .eq 7, 3) := by decide +kernel
theorem dX9_play_93 : decode cX9_play 93 = .ok (.iconst 0, 1) := by decide +kernel
theorem dX9_play_94 : decode cX9_play 94 = .ok (.goto 4, 3) := by decide +kernel
theorem dX9_play_97 : decode cX9_play 97 = .ok (.iconst 1, 1) := by decide +kernel
theorem dX9_play_98 : decode cX9_play 98 = .ok (.iadd, 1) := by decide +kernel
theorem dX9_play_99 : decode cX9_play 99 = .ok (.istore 8, 2) := by decide +kernel
theorem dX9_play_101 : decode cX9_play 101 = .ok (.iinc 9 1, 3) := by decide +kernel
theorem dX9_play_104 : decode cX9_play 104 = .ok (.goto (-53), 3) := by decide +kernel
theorem dX9_play_107 : decode cX9_play 107 = .ok (.aload_n 0, 1) := by decide +kernel
theorem dX9_play_108 : decode cX9_play 108 = .ok (.getfield 45, 3) := by decide +kernel
theorem dX9_play_111 : decode cX9_play 111 = .ok (.iconst 2, 1) := by decide +kernel
theorem dX9_play_112 : decode cX9_play 112 = .ok (.iload_n 3, 1) := by decide +kernel
theorem dX9_play_113 : decode cX9_play 113 = .ok (.imul, 1) := by decide +kernel
theorem dX9_play_114 : decode cX9_play 114 = .ok (.iload 7, 2) := by decide +kernel
theorem dX9_play_116 : decode cX9_play 116 = .ok (.iastore, 1) := by decide +kernel
theorem dX9_play_117 : decode cX9_play 117 = .ok (.aload_n 0, 1) := by decide +kernel
theorem dX9_play_118 : decode cX9_play 118 = .ok (.getfield 45, 3) := by decide +kernel
theorem dX9_play_121 : decode cX9_play 121 = .ok (.iconst 2, 1) := by decide +kernel
theorem dX9_play_122 : decode cX9_play 122 = .ok (.iload_n 3, 1) := by decide +kernel
theorem dX9_play_123 : decode cX9_play 123 = .ok (.imul, 1) := by decide +kernel
theorem dX9_play_124 : decode cX9_play 124 = .ok (.iconst 1, 1) := by decide +kernel
theorem dX9_play_125 : decode cX9_play 125 = .ok (.iadd, 1) := by decide +kernel
theorem dX9_play_126 : decode cX9_play 126 = .ok (.iload 8, 2) := by decide +kernel
theorem dX9_play_128 : decode cX9_play 128 = .ok (.iastore, 1) := by decide +kernel
theorem dX9_play_129 : decode cX9_play 129 = .ok (.return_, 1) := by decide +kernel
theorem dX9_seedBehind_0 : decode cX9_seedBehind 0 = .ok (.iload_n 0, 1) := by decide +kernel
theorem dX9_seedBehind_1 : decode cX9_seedBehind 1 = .ok (.ldc_w 393, 3) := by decide +kernel
theorem dX9_seedBehind_4 : decode cX9_seedBehind 4 = .ok (.imul, 1) := by decide +kernel
theorem dX9_seedBehind_5 : decode cX9_seedBehind 5 = .ok (.sipush 12345, 3) := by decide +kernel
theorem dX9_seedBehind_8 : decode cX9_seedBehind 8 = .ok (.iadd, 1) := by decide +kernel
theorem dX9_seedBehind_9 : decode cX9_seedBehind 9 = .ok (.ireturn, 1) := by decide +kernel
theorem dX9_bitsOf_0 : decode cX9_bitsOf 0 = .ok (.iload_n 0, 1) := by decide +kernel
theorem dX9_bitsOf_1 : decode cX9_bitsOf 1 = .ok (.bipush 16, 2) := by decide +kernel
theorem dX9_bitsOf_3 : decode cX9_bitsOf 3 = .ok (.ishr, 1) := by decide +kernel
theorem dX9_bitsOf_4 : decode cX9_bitsOf 4 = .ok (.sipush 32767, 3) := by decide +kernel
theorem dX9_bitsOf_7 : decode cX9_bitsOf 7 = .ok (.iand, 1) := by decide +kernel
theorem dX9_bitsOf_8 : decode cX9_bitsOf 8 = .ok (.ireturn, 1) := by decide +kernel
theorem dX9_whoHasRungMost_0 : decode cX9_whoHasRungMost 0 = .ok (.iconst (-1), 1) := by decide +kernel
theorem dX9_whoHasRungMost_1 : decode cX9_whoHasRungMost 1 = .ok (.istore_n 2, 1) := by decide +kernel
theorem dX9_whoHasRungMost_2 : decode cX9_whoHasRungMost 2 = .ok (.iconst 0, 1) := by decide +kernel
theorem dX9_whoHasRungMost_3 : decode cX9_whoHasRungMost 3 = .ok (.istore_n 3, 1) := by decide +kernel
theorem dX9_whoHasRungMost_4 : decode cX9_whoHasRungMost 4 = .ok (.iload_n 3, 1) := by decide +kernel
theorem dX9_whoHasRungMost_5 : decode cX9_whoHasRungMost 5 = .ok (.aload_n 0, 1) := by decide +kernel
theorem dX9_whoHasRungMost_6 : decode cX9_whoHasRungMost 6 = .ok (.getfield 55, 3) := by decide +kernel
theorem dX9_whoHasRungMost_9 : decode cX9_whoHasRungMost 9 = .ok (.getfield 99, 3) := by decide +kernel
theorem dX9_whoHasRungMost_12 : decode cX9_whoHasRungMost 12 = .ok (.if_icmp .ge 29, 3) := by decide +kernel
theorem dX9_whoHasRungMost_15 : decode cX9_whoHasRungMost 15 = .ok (.iload_n 2, 1) := by decide +kernel
theorem dX9_whoHasRungMost_16 : decode cX9_whoHasRungMost 16 = .ok (.iconst (-1), 1) := by decide +kernel
theorem dX9_whoHasRungMost_17 : decode cX9_whoHasRungMost 17 = .ok (.if_icmp .eq 16, 3) := by decide +kernel
theorem dX9_whoHasRungMost_20 : decode cX9_whoHasRungMost 20 = .ok (.aload_n 1, 1) := by decide +kernel
theorem dX9_whoHasRungMost_21 : decode cX9_whoHasRungMost 21 = .ok (.iload_n 3, 1) := by decide +kernel
theorem dX9_whoHasRungMost_22 : decode cX9_whoHasRungMost 22 = .ok (.invokevirtual 163, 3) := by decide +kernel
theorem dX9_whoHasRungMost_25 : decode cX9_whoHasRungMost 25 = .ok (.aload_n 1, 1) := by decide +kernel
theorem dX9_whoHasRungMost_26 : decode cX9_whoHasRungMost 26 = .ok (.iload_n 2, 1) := by decide +kernel
theorem dX9_whoHasRungMost_27 : decode cX9_whoHasRungMost 27 = .ok (.invokevirtual 163, 3) := by decide +kernel
theorem dX9_whoHasRungMost_30 : decode cX9_whoHasRungMost 30 = .ok (.if_icmp .le 5, 3) := by decide +kernel
theorem dX9_whoHasRungMost_33 : decode cX9_whoHasRungMost 33 = .ok (.iload_n 3, 1) := by decide +kernel
theorem dX9_whoHasRungMost_34 : decode cX9_whoHasRungMost 34 = .ok (.istore_n 2, 1) := by decide +kernel
theorem dX9_whoHasRungMost_35 : decode cX9_whoHasRungMost 35 = .ok (.iinc 3 1, 3) := by decide +kernel
theorem dX9_whoHasRungMost_38 : decode cX9_whoHasRungMost 38 = .ok (.goto (-34), 3) := by decide +kernel
theorem dX9_whoHasRungMost_41 : decode cX9_whoHasRungMost 41 = .ok (.iload_n 2, 1) := by decide +kernel
theorem dX9_whoHasRungMost_42 : decode cX9_whoHasRungMost 42 = .ok (.ireturn, 1) := by decide +kernel
theorem dX9_isSpared_0 : decode cX9_isSpared 0 = .ok (.aload_n 0, 1) := by decide +kernel
theorem dX9_isSpared_1 : decode cX9_isSpared 1 = .ok (.invokevirtual 193, 3) := by decide +kernel
theorem dX9_isSpared_4 : decode cX9_isSpared 4 = .ok (.astore 4, 2) := by decide +kernel
theorem dX9_isSpared_6 : decode cX9_isSpared 6 = .ok (.aload 4, 2) := by decide +kernel
theorem dX9_isSpared_8 : decode cX9_isSpared 8 = .ok (.getfield 200, 3) := by decide +kernel
theorem dX9_isSpared_11 : decode cX9_isSpared 11 = .ok (.iload_n 1, 1) := by decide +kernel
theorem dX9_isSpared_12 : decode cX9_isSpared 12 = .ok (.iload_n 2, 1) := by decide +kernel
theorem dX9_isSpared_13 : decode cX9_isSpared 13 = .ok (.invokevirtual 204, 3) := by decide +kernel
theorem dX9_isSpared_16 : decode cX9_isSpared 16 = .ok (.iconst 0, 1) := by decide +kernel
theorem dX9_isSpared_17 : decode cX9_isSpared 17 = .ok (.istore 5, 2) := by decide +kernel
theorem dX9_isSpared_19 : decode cX9_isSpared 19 = .ok (.iload 5, 2) := by decide +kernel
theorem dX9_isSpared_21 : decode cX9_isSpared 21 = .ok (.iload_n 3, 1) := by decide +kernel
theorem dX9_isSpared_22 : decode cX9_isSpared 22 = .ok (.if_icmp .ge 25, 3) := by decide +kernel
theorem dX9_isSpared_25 : decode cX9_isSpared 25 = .ok (.aload 4, 2) := by decide +kernel
theorem dX9_isSpared_27 : decode cX9_isSpared 27 = .ok (.invokevirtual 234, 3) := by decide +kernel
theorem dX9_isSpared_30 : decode cX9_isSpared 30 = .ok (.aload 4, 2) := by decide +kernel
theorem dX9_isSpared_32 : decode cX9_isSpared 32 = .ok (.iload_n 1, 1) := by decide +kernel
theorem dX9_isSpared_33 : decode cX9_isSpared 33 = .ok (.invokevirtual 237, 3) := by decide +kernel
theorem dX9_isSpared_36 : decode cX9_isSpared 36 = .ok (.ifCond .eq 5, 3) := by decide +kernel
theorem dX9_isSpared_39 : decode cX9_isSpared 39 = .ok (.iconst 0, 1) := by decide +kernel
theorem dX9_isSpared_40 : decode cX9_isSpared 40 = .ok (.ireturn, 1) := by decide +kernel
theorem dX9_isSpared_41 : decode cX9_isSpared 41 = .ok (.iinc 5 1, 3) := by decide +kernel
theorem dX9_isSpared_44 : decode cX9_isSpared 44 = .ok (.goto (-25), 3) := by decide +kernel
theorem dX9_isSpared_47 : decode cX9_isSpared 47 = .ok (.iconst 1, 1) := by decide +kernel
theorem dX9_isSpared_48 : decode cX9_isSpared 48 = .ok (.ireturn, 1) := by decide +kernel
theorem dX9_within_0 : decode cX9_within 0 = .ok (.iload_n 1, 1) := by decide +kernel
theorem dX9_within_1 : decode cX9_within 1 = .ok (.iload_n 2, 1) := by decide +kernel
theorem dX9_within_2 : decode cX9_within 2 = .ok (.iload_n 0, 1) := by decide +kernel
theorem dX9_within_3 : decode cX9_within 3 = .ok (.invokestatic 337, 3) := by decide +kernel
theorem dX9_within_6 : decode cX9_within 6 = .ok (.invokestatic 264, 3) := by decide +kernel
theorem dX9_within_9 : decode cX9_within 9 = .ok (.ireturn, 1) := by decide +kernel
theorem dX10_init_0 : decode cX10_init 0 = .ok (.aload_n 0, 1) := by decide +kernel
theorem dX10_init_1 : decode cX10_init 1 = .ok (.invokespecial 1, 3) := by decide +kernel
theorem dX10_init_4 : decode cX10_init 4 = .ok (.aload_n 0, 1) := by decide +kernel
theorem dX10_init_5 : decode cX10_init 5 = .ok (.iconst 2, 1) := by decide +kernel
theorem dX10_init_6 : decode cX10_init 6 = .ok (.putfield 7, 3) := by decide +kernel
theorem dX10_init_9 : decode cX10_init 9 = .ok (.aload_n 0, 1) := by decide +kernel
theorem dX10_init_10 : decode cX10_init 10 = .ok (.iconst (-1), 1) := by decide +kernel
theorem dX10_init_11 : decode cX10_init 11 = .ok (.putfield 13, 3) := by decide +kernel
theorem dX10_init_14 : decode cX10_init 14 = .ok (.aload_n 0, 1) := by decide +kernel
theorem dX10_init_15 : decode cX10_init 15 = .ok (.iconst (-1), 1) := by decide +kernel
theorem dX10_init_16 : decode cX10_init 16 = .ok (.putfield 16, 3) := by decide +kernel
theorem dX10_init_19 : decode cX10_init 19 = .ok (.aload_n 0, 1) := by decide +kernel
theorem dX10_init_20 : decode cX10_init 20 = .ok (.bipush 8, 2) := by decide +kernel
theorem dX10_init_22 : decode cX10_init 22 = .ok (.newarray .int, 2) := by decide +kernel
theorem dX10_init_24 : decode cX10_init 24 = .ok (.putfield 19, 3) := by decide +kernel
theorem dX10_init_27 : decode cX10_init 27 = .ok (.aload_n 0, 1) := by decide +kernel
theorem dX10_init_28 : decode cX10_init 28 = .ok (.bipush 8, 2) := by decide +kernel
theorem dX10_init_30 : decode cX10_init 30 = .ok (.newarray .int, 2) := by decide +kernel
theorem dX10_init_32 : decode cX10_init 32 = .ok (.putfield 23, 3) := by decide +kernel
theorem dX10_init_35 : decode cX10_init 35 = .ok (.aload_n 0, 1) := by decide +kernel
theorem dX10_init_36 : decode cX10_init 36 = .ok (.bipush 8, 2) := by decide +kernel
theorem dX10_init_38 : decode cX10_init 38 = .ok (.newarray .int, 2) := by decide +kernel
theorem dX10_init_40 : decode cX10_init 40 = .ok (.putfield 26, 3) := by decide +kernel
theorem dX10_init_43 : decode cX10_init 43 = .ok (.aload_n 0, 1) := by decide +kernel
theorem dX10_init_44 : decode cX10_init 44 = .ok (.bipush 6, 2) := by decide +kernel
theorem dX10_init_46 : decode cX10_init 46 = .ok (.newarray .int, 2) := by decide +kernel
theorem dX10_init_48 : decode cX10_init 48 = .ok (.putfield 29, 3) := by decide +kernel
theorem dX10_init_51 : decode cX10_init 51 = .ok (.aload_n 0, 1) := by decide +kernel
theorem dX10_init_52 : decode cX10_init 52 = .ok (.sipush 1400, 3) := by decide +kernel
theorem dX10_init_55 : decode cX10_init 55 = .ok (.newarray .int, 2) := by decide +kernel
theorem dX10_init_57 : decode cX10_init 57 = .ok (.putfield 32, 3) := by decide +kernel
theorem dX10_init_60 : decode cX10_init 60 = .ok (.aload_n 0, 1) := by decide +kernel
theorem dX10_init_61 : decode cX10_init 61 = .ok (.sipush 700, 3) := by decide +kernel
theorem dX10_init_64 : decode cX10_init 64 = .ok (.newarray .int, 2) := by decide +kernel
theorem dX10_init_66 : decode cX10_init 66 = .ok (.putfield 35, 3) := by decide +kernel
theorem dX10_init_69 : decode cX10_init 69 = .ok (.aload_n 0, 1) := by decide +kernel
theorem dX10_init_70 : decode cX10_init 70 = .ok (.iconst (-1), 1) := by decide +kernel
theorem dX10_init_71 : decode cX10_init 71 = .ok (.putfield 38, 3) := by decide +kernel
theorem dX10_init_74 : decode cX10_init 74 = .ok (.aload_n 0, 1) := by decide +kernel
theorem dX10_init_75 : decode cX10_init 75 = .ok (.iconst 3, 1) := by decide +kernel
theorem dX10_init_76 : decode cX10_init 76 = .ok (.newarray .int, 2) := by decide +kernel
theorem dX10_init_78 : decode cX10_init 78 = .ok (.putfield 41, 3) := by decide +kernel
theorem dX10_init_81 : decode cX10_init 81 = .ok (.aload_n 0, 1) := by decide +kernel
theorem dX10_init_82 : decode cX10_init 82 = .ok (.bipush 8, 2) := by decide +kernel
theorem dX10_init_84 : decode cX10_init 84 = .ok (.newarray .int, 2) := by decide +kernel
theorem dX10_init_86 : decode cX10_init 86 = .ok (.putfield 44, 3) := by decide +kernel
theorem dX10_init_89 : decode cX10_init 89 = .ok (.aload_n 0, 1) := by decide +kernel
theorem dX10_init_90 : decode cX10_init 90 = .ok (.bipush 8, 2) := by decide +kernel
theorem dX10_init_92 : decode cX10_init 92 = .ok (.newarray .int, 2) := by decide +kernel
theorem dX10_init_94 : decode cX10_init 94 = .ok (.putfield 47, 3) := by decide +kernel
theorem dX10_init_97 : decode cX10_init 97 = .ok (.aload_n 0, 1) := by decide +kernel
theorem dX10_init_98 : decode cX10_init 98 = .ok (.bipush 8, 2) := by decide +kernel
theorem dX10_init_100 : decode cX10_init 100 = .ok (.newarray .int, 2) := by decide +kernel
theorem dX10_init_102 : decode cX10_init 102 = .ok (.putfield 50, 3) := by decide +kernel
theorem dX10_init_105 : decode cX10_init 105 = .ok (.aload_n 0, 1) := by decide +kernel
theorem dX10_init_106 : decode cX10_init 106 = .ok (.bipush 6, 2) := by decide +kernel
theorem dX10_init_108 : decode cX10_init 108 = .ok (.newarray .int, 2) := by decide +kernel
theorem dX10_init_110 : decode cX10_init 110 = .ok (.putfield 53, 3) := by decide +kernel
theorem dX10_init_113 : decode cX10_init 113 = .ok (.aload_n 0, 1) := by decide +kernel
theorem dX10_init_114 : decode cX10_init 114 = .ok (.bipush 33, 2) := by decide +kernel
theorem dX10_init_116 : decode cX10_init 116 = .ok (.newarray .int, 2) := by decide +kernel
theorem dX10_init_118 : decode cX10_init 118 = .ok (.putfield 56, 3) := by decide +kernel
theorem dX10_init_121 : decode cX10_init 121 = .ok (.aload_n 0, 1) := by decide +kernel
theorem dX10_init_122 : decode cX10_init 122 = .ok (.sipush 1400, 3) := by decide +kernel
theorem dX10_init_125 : decode cX10_init 125 = .ok (.newarray .int, 2) := by decide +kernel
theorem dX10_init_127 : decode cX10_init 127 = .ok (.putfield 59, 3) := by decide +kernel
theorem dX10_init_130 : decode cX10_init 130 = .ok (.aload_n 0, 1) := by decide +kernel
theorem dX10_init_131 : decode cX10_init 131 = .ok (.sipush 950, 3) := by decide +kernel
theorem dX10_init_134 : decode cX10_init 134 = .ok (.newarray .int, 2) := by decide +kernel
theorem dX10_init_136 : decode cX10_init 136 = .ok (.putfield 62, 3) := by decide +kernel
theorem dX10_init_139 : decode cX10_init 139 = .ok (.aload_n 0, 1) := by decide +kernel
theorem dX10_init_140 : decode cX10_init 140 = .ok (.bipush 9, 2) := by decide +kernel
theorem dX10_init_142 : decode cX10_init 142 = .ok (.newarray .boolean, 2) := by decide +kernel
theorem dX10_init_144 : decode cX10_init 144 = .ok (.putfield 65, 3) := by decide +kernel
theorem dX10_init_147 : decode cX10_init 147 = .ok (.aload_n 0, 1) := by decide +kernel
theorem dX10_init_148 : decode cX10_init 148 = .ok (.bipush 66, 2) := by decide +kernel
theorem dX10_init_150 : decode cX10_init 150 = .ok (.newarray .int, 2) := by decide +kernel
theorem dX10_init_152 : decode cX10_init 152 = .ok (.putfield 69, 3) := by decide +kernel
theorem dX10_init_155 : decode cX10_init 155 = .ok (.aload_n 0, 1) := by decide +kernel
theorem dX10_init_156 : decode cX10_init 156 = .ok (.sipush 1320, 3) := by decide +kernel
theorem dX10_init_159 : decode cX10_init 159 = .ok (.newarray .int, 2) := by decide +kernel
theorem dX10_init_161 : decode cX10_init 161 = .ok (.putfield 72, 3) := by decide +kernel
theorem dX10_init_164 : decode cX10_init 164 = .ok (.aload_n 0, 1) := by decide +kernel
theorem dX10_init_165 : decode cX10_init 165 = .ok (.bipush 7, 2) := by decide +kernel
theorem dX10_init_167 : decode cX10_init 167 = .ok (.newarray .int, 2) := by decide +kernel
theorem dX10_init_169 : decode cX10_init 169 = .ok (.putfield 75, 3) := by decide +kernel
theorem dX10_init_172 : decode cX10_init 172 = .ok (.aload_n 0, 1) := by decide +kernel
theorem dX10_init_173 : decode cX10_init 173 = .ok (.sipush 950, 3) := by decide +kernel
theorem dX10_init_176 : decode cX10_init 176 = .ok (.newarray .int, 2) := by decide +kernel
theorem dX10_init_178 : decode cX10_init 178 = .ok (.putfield 78, 3) := by decide +kernel
theorem dX10_init_181 : decode cX10_init 181 = .ok (.aload_n 0, 1) := by decide +kernel
theorem dX10_init_182 : decode cX10_init 182 = .ok (.bipush 6, 2) := by decide +kernel
theorem dX10_init_184 : decode cX10_init 184 = .ok (.newarray .int, 2) := by decide +kernel
theorem dX10_init_186 : decode cX10_init 186 = .ok (.putfield 81, 3) := by decide +kernel
theorem dX10_init_189 : decode cX10_init 189 = .ok (.aload_n 0, 1) := by decide +kernel
theorem dX10_init_190 : decode cX10_init 190 = .ok (.bipush 6, 2) := by decide +kernel
theorem dX10_init_192 : decode cX10_init 192 = .ok (.newarray .int, 2) := by decide +kernel
theorem dX10_init_194 : decode cX10_init 194 = .ok (.putfield 84, 3) := by decide +kernel
theorem dX10_init_197 : decode cX10_init 197 = .ok (.aload_n 0, 1) := by decide +kernel
theorem dX10_init_198 : decode cX10_init 198 = .ok (.bipush 48, 2) := by decide +kernel
theorem dX10_init_200 : decode cX10_init 200 = .ok (.newarray .int, 2) := by decide +kernel
theorem dX10_init_202 : decode cX10_init 202 = .ok (.putfield 87, 3) := by decide +kernel
theorem dX10_init_205 : decode cX10_init 205 = .ok (.aload_n 0, 1) := by decide +kernel
theorem dX10_init_206 : decode cX10_init 206 = .ok (.iconst (-1), 1) := by decide +kernel
theorem dX10_init_207 : decode cX10_init 207 = .ok (.putfield 90, 3) := by decide +kernel
theorem dX10_init_210 : decode cX10_init 210 = .ok (.aload_n 0, 1) := by decide +kernel
theorem dX10_init_211 : decode cX10_init 211 = .ok (.sipush 697, 3) := by decide +kernel
theorem dX10_init_214 : decode cX10_init 214 = .ok (.newarray .int, 2) := by decide +kernel
theorem dX10_init_216 : decode cX10_init 216 = .ok (.putfield 93, 3) := by decide +kernel
theorem dX10_init_219 : decode cX10_init 219 = .ok (.aload_n 0, 1) := by decide +kernel
theorem dX10_init_220 : decode cX10_init 220 = .ok (.sipush 1536, 3) := by decide +kernel
theorem dX10_init_223 : decode cX10_init 223 = .ok (.newarray .int, 2) := by decide +kernel
theorem dX10_init_225 : decode cX10_init 225 = .ok (.putfield 96, 3) := by decide +kernel
theorem dX10_init_228 : decode cX10_init 228 = .ok (.aload_n 0, 1) := by decide +kernel
theorem dX10_init_229 : decode cX10_init 229 = .ok (.bipush 24, 2) := by decide +kernel
theorem dX10_init_231 : decode cX10_init 231 = .ok (.newarray .int, 2) := by decide +kernel
theorem dX10_init_233 : decode cX10_init 233 = .ok (.putfield 99, 3) := by decide +kernel
theorem dX10_init_236 : decode cX10_init 236 = .ok (.aload_n 0, 1) := by decide +kernel
theorem dX10_init_237 : decode cX10_init 237 = .ok (.bipush 6, 2) := by decide +kernel
theorem dX10_init_239 : decode cX10_init 239 = .ok (.newarray .int, 2) := by decide +kernel
theorem dX10_init_241 : decode cX10_init 241 = .ok (.putfield 102, 3) := by decide +kernel
theorem dX10_init_244 : decode cX10_init 244 = .ok (.aload_n 0, 1) := by decide +kernel
theorem dX10_init_245 : decode cX10_init 245 = .ok (.sipush 2928, 3) := by decide +kernel
theorem dX10_init_248 : decode cX10_init 248 = .ok (.newarray .int, 2) := by decide +kernel
theorem dX10_init_250 : decode cX10_init 250 = .ok (.putfield 105, 3) := by decide +kernel
theorem dX10_init_253 : decode cX10_init 253 = .ok (.aload_n 0, 1) := by decide +kernel
theorem dX10_init_254 : decode cX10_init 254 = .ok (.bipush 8, 2) := by decide +kernel
theorem dX10_init_256 : decode cX10_init 256 = .ok (.newarray .int, 2) := by decide +kernel
theorem dX10_init_258 : decode cX10_init 258 = .ok (.putfield 108, 3) := by decide +kernel
theorem dX10_init_261 : decode cX10_init 261 = .ok (.aload_n 0, 1) := by decide +kernel
theorem dX10_init_262 : decode cX10_init 262 = .ok (.bipush 33, 2) := by decide +kernel
theorem dX10_init_264 : decode cX10_init 264 = .ok (.newarray .int, 2) := by decide +kernel
theorem dX10_init_266 : decode cX10_init 266 = .ok (.putfield 111, 3) := by decide +kernel
theorem dX10_init_269 : decode cX10_init 269 = .ok (.aload_n 0, 1) := by decide +kernel
theorem dX10_init_270 : decode cX10_init 270 = .ok (.sipush 1320, 3) := by decide +kernel
theorem dX10_init_273 : decode cX10_init 273 = .ok (.newarray .int, 2) := by decide +kernel
theorem dX10_init_275 : decode cX10_init 275 = .ok (.putfield 114, 3) := by decide +kernel
theorem dX10_init_278 : decode cX10_init 278 = .ok (.aload_n 0, 1) := by decide +kernel
theorem dX10_init_279 : decode cX10_init 279 = .ok (.bipush 24, 2) := by decide +kernel
theorem dX10_init_281 : decode cX10_init 281 = .ok (.newarray .int, 2) := by decide +kernel
theorem dX10_init_283 : decode cX10_init 283 = .ok (.putfield 117, 3) := by decide +kernel
theorem dX10_init_286 : decode cX10_init 286 = .ok (.aload_n 0, 1) := by decide +kernel
theorem dX10_init_287 : decode cX10_init 287 = .ok (.getfield 69, 3) := by decide +kernel
theorem dX10_init_290 : decode cX10_init 290 = .ok (.iconst 1, 1) := by decide +kernel
theorem dX10_init_291 : decode cX10_init 291 = .ok (.iconst (-1), 1) := by decide +kernel
theorem dX10_init_292 : decode cX10_init 292 = .ok (.iastore, 1) := by decide +kernel
theorem dX10_init_293 : decode cX10_init 293 = .ok (.return_, 1) := by decide +kernel
theorem dX10_thrown_0 : decode cX10_thrown 0 = .ok (.aload_n 0, 1) := by decide +kernel
theorem dX10_thrown_1 : decode cX10_thrown 1 = .ok (.getfield 120, 3) := by decide +kernel
theorem dX10_thrown_4 : decode cX10_thrown 4 = .ok (.ireturn, 1) := by decide +kernel
theorem dX10_right_0 : decode cX10_right 0 = .ok (.aload_n 0, 1) := by decide +kernel
theorem dX10_right_1 : decode cX10_right 1 = .ok (.getfield 120, 3) := by decide +kernel
theorem dX10_right_4 : decode cX10_right 4 = .ok (.ifCond .ne 12, 3) := by decide +kernel
