theorem dX10_rota_225 : decode cX10_rota 225 = .ok (.iload 5, 2) := by decide +kernel
theorem dX10_rota_227 : decode cX10_rota 227 = .ok (.ishl, 1) := by decide +kernel
theorem dX10_rota_228 : decode cX10_rota 228 = .ok (.ior, 1) := by decide +kernel
theorem dX10_rota_229 : decode cX10_rota 229 = .ok (.invokevirtual 406, 3) := by decide +kernel
theorem dX10_rota_232 : decode cX10_rota 232 = .ok (.iadd, 1) := by decide +kernel
theorem dX10_rota_233 : decode cX10_rota 233 = .ok (.aload_n 0, 1) := by decide +kernel
theorem dX10_rota_234 : decode cX10_rota 234 = .ok (.iload 4, 2) := by decide +kernel
theorem dX10_rota_236 : decode cX10_rota 236 = .ok (.iload_n 2, 1) := by decide +kernel
theorem dX10_rota_237 : decode cX10_rota 237 = .ok (.invokevirtual 406, 3) := by decide +kernel
theorem dX10_rota_240 : decode cX10_rota 240 = .ok (.if_icmp .ne 6, 3) := by decide +kernel
theorem dX10_rota_243 : decode cX10_rota 243 = .ok (.iload 5, 2) := by decide +kernel
theorem dX10_rota_245 : decode cX10_rota 245 = .ok (.istore_n 3, 1) := by decide +kernel
theorem dX10_rota_246 : decode cX10_rota 246 = .ok (.iinc 5 (-1), 3) := by decide +kernel
theorem dX10_rota_249 : decode cX10_rota 249 = .ok (.goto (-55), 3) := by decide +kernel
theorem dX10_rota_252 : decode cX10_rota 252 = .ok (.iload_n 2, 1) := by decide +kernel
theorem dX10_rota_253 : decode cX10_rota 253 = .ok (.iconst 1, 1) := by decide +kernel
theorem dX10_rota_254 : decode cX10_rota 254 = .ok (.iload_n 3, 1) := by decide +kernel
theorem dX10_rota_255 : decode cX10_rota 255 = .ok (.ishl, 1) := by decide +kernel
theorem dX10_rota_256 : decode cX10_rota 256 = .ok (.ior, 1) := by decide +kernel
theorem dX10_rota_257 : decode cX10_rota 257 = .ok (.istore_n 2, 1) := by decide +kernel
theorem dX10_rota_258 : decode cX10_rota 258 = .ok (.iinc 4 1, 3) := by decide +kernel
theorem dX10_rota_261 : decode cX10_rota 261 = .ok (.goto (-83), 3) := by decide +kernel
theorem dX10_rota_264 : decode cX10_rota 264 = .ok (.iload_n 3, 1) := by decide +kernel
theorem dX10_rota_265 : decode cX10_rota 265 = .ok (.ireturn, 1) := by decide +kernel
theorem dX10_towers_0 : decode cX10_towers 0 = .ok (.aload_n 0, 1) := by decide +kernel
theorem dX10_towers_1 : decode cX10_towers 1 = .ok (.iconst 0, 1) := by decide +kernel
theorem dX10_towers_2 : decode cX10_towers 2 = .ok (.putfield 120, 3) := by decide +kernel
theorem dX10_towers_5 : decode cX10_towers 5 = .ok (.aload_n 0, 1) := by decide +kernel
theorem dX10_towers_6 : decode cX10_towers 6 = .ok (.iload_n 2, 1) := by decide +kernel
theorem dX10_towers_7 : decode cX10_towers 7 = .ok (.iconst 1, 1) := by decide +kernel
theorem dX10_towers_8 : decode cX10_towers 8 = .ok (.invokevirtual 373, 3) := by decide +kernel
theorem dX10_towers_11 : decode cX10_towers 11 = .ok (.ifCond .eq 18, 3) := by decide +kernel
theorem dX10_towers_14 : decode cX10_towers 14 = .ok (.aload_n 0, 1) := by decide +kernel
theorem dX10_towers_15 : decode cX10_towers 15 = .ok (.iload_n 1, 1) := by decide +kernel
theorem dX10_towers_16 : decode cX10_towers 16 = .ok (.iconst 0, 1) := by decide +kernel
theorem dX10_towers_17 : decode cX10_towers 17 = .ok (.bipush 30, 2) := by decide +kernel
theorem dX10_towers_19 : decode cX10_towers 19 = .ok (.invokestatic 361, 3) := by decide +kernel
theorem dX10_towers_22 : decode cX10_towers 22 = .ok (.iconst 2, 1) := by decide +kernel
theorem dX10_towers_23 : decode cX10_towers 23 = .ok (.invokevirtual 271, 3) := by decide +kernel
theorem dX10_towers_26 : decode cX10_towers 26 = .ok (.ifCond .ne 5, 3) := by decide +kernel
theorem dX10_towers_29 : decode cX10_towers 29 = .ok (.iconst 0, 1) := by decide +kernel
theorem dX10_towers_30 : decode cX10_towers 30 = .ok (.ireturn, 1) := by decide +kernel
theorem dX10_towers_31 : decode cX10_towers 31 = .ok (.iconst 0, 1) := by decide +kernel
theorem dX10_towers_32 : decode cX10_towers 32 = .ok (.istore_n 3, 1) := by decide +kernel
theorem dX10_towers_33 : decode cX10_towers 33 = .ok (.iconst 0, 1) := by decide +kernel
theorem dX10_towers_34 : decode cX10_towers 34 = .ok (.istore 4, 2) := by decide +kernel
theorem dX10_towers_36 : decode cX10_towers 36 = .ok (.bipush 31, 2) := by decide +kernel
theorem dX10_towers_38 : decode cX10_towers 38 = .ok (.istore 5, 2) := by decide +kernel
theorem dX10_towers_40 : decode cX10_towers 40 = .ok (.iload 5, 2) := by decide +kernel
theorem dX10_towers_42 : decode cX10_towers 42 = .ok (.ifCond .le 116, 3) := by decide +kernel
theorem dX10_towers_45 : decode cX10_towers 45 = .ok (.iconst (-1), 1) := by decide +kernel
theorem dX10_towers_46 : decode cX10_towers 46 = .ok (.istore 6, 2) := by decide +kernel
theorem dX10_towers_48 : decode cX10_towers 48 = .ok (.iconst 0, 1) := by decide +kernel
theorem dX10_towers_49 : decode cX10_towers 49 = .ok (.istore 7, 2) := by decide +kernel
theorem dX10_towers_51 : decode cX10_towers 51 = .ok (.iload 7, 2) := by decide +kernel
theorem dX10_towers_53 : decode cX10_towers 53 = .ok (.aload_n 0, 1) := by decide +kernel
theorem dX10_towers_54 : decode cX10_towers 54 = .ok (.getfield 278, 3) := by decide +kernel
theorem dX10_towers_57 : decode cX10_towers 57 = .ok (.if_icmp .ge 47, 3) := by decide +kernel
theorem dX10_towers_60 : decode cX10_towers 60 = .ok (.aload_n 0, 1) := by decide +kernel
theorem dX10_towers_61 : decode cX10_towers 61 = .ok (.getfield 26, 3) := by decide +kernel
theorem dX10_towers_64 : decode cX10_towers 64 = .ok (.iload 7, 2) := by decide +kernel
theorem dX10_towers_66 : decode cX10_towers 66 = .ok (.iaload, 1) := by decide +kernel
theorem dX10_towers_67 : decode cX10_towers 67 = .ok (.iload 5, 2) := by decide +kernel
theorem dX10_towers_69 : decode cX10_towers 69 = .ok (.if_icmp .ge 25, 3) := by decide +kernel
theorem dX10_towers_72 : decode cX10_towers 72 = .ok (.aload_n 0, 1) := by decide +kernel
theorem dX10_towers_73 : decode cX10_towers 73 = .ok (.getfield 26, 3) := by decide +kernel
theorem dX10_towers_76 : decode cX10_towers 76 = .ok (.iload 7, 2) := by decide +kernel
theorem dX10_towers_78 : decode cX10_towers 78 = .ok (.iaload, 1) := by decide +kernel
theorem dX10_towers_79 : decode cX10_towers 79 = .ok (.iload 6, 2) := by decide +kernel
theorem dX10_towers_81 : decode cX10_towers 81 = .ok (.if_icmp .le 13, 3) := by decide +kernel
theorem dX10_towers_84 : decode cX10_towers 84 = .ok (.aload_n 0, 1) := by decide +kernel
theorem dX10_towers_85 : decode cX10_towers 85 = .ok (.getfield 26, 3) := by decide +kernel
theorem dX10_towers_88 : decode cX10_towers 88 = .ok (.iload 7, 2) := by decide +kernel
theorem dX10_towers_90 : decode cX10_towers 90 = .ok (.iaload, 1) := by decide +kernel
theorem dX10_towers_91 : decode cX10_towers 91 = .ok (.goto 5, 3) := by decide +kernel
theorem dX10_towers_94 : decode cX10_towers 94 = .ok (.iload 6, 2) := by decide +kernel
theorem dX10_towers_96 : decode cX10_towers 96 = .ok (.istore 6, 2) := by decide +kernel
theorem dX10_towers_98 : decode cX10_towers 98 = .ok (.iinc 7 1, 3) := by decide +kernel
theorem dX10_towers_101 : decode cX10_towers 101 = .ok (.goto (-50), 3) := by decide +kernel
theorem dX10_towers_104 : decode cX10_towers 104 = .ok (.iload 6, 2) := by decide +kernel
theorem dX10_towers_106 : decode cX10_towers 106 = .ok (.iconst (-1), 1) := by decide +kernel
theorem dX10_towers_107 : decode cX10_towers 107 = .ok (.if_icmp .ne 14, 3) := by decide +kernel
theorem dX10_towers_110 : decode cX10_towers 110 = .ok (.iload_n 2, 1) := by decide +kernel
theorem dX10_towers_111 : decode cX10_towers 111 = .ok (.ifCond .ne 7, 3) := by decide +kernel
theorem dX10_towers_114 : decode cX10_towers 114 = .ok (.iload_n 3, 1) := by decide +kernel
theorem dX10_towers_115 : decode cX10_towers 115 = .ok (.goto 5, 3) := by decide +kernel
theorem dX10_towers_118 : decode cX10_towers 118 = .ok (.iload 4, 2) := by decide +kernel
theorem dX10_towers_120 : decode cX10_towers 120 = .ok (.ireturn, 1) := by decide +kernel
theorem dX10_towers_121 : decode cX10_towers 121 = .ok (.iload 6, 2) := by decide +kernel
theorem dX10_towers_123 : decode cX10_towers 123 = .ok (.iload_n 1, 1) := by decide +kernel
theorem dX10_towers_124 : decode cX10_towers 124 = .ok (.if_icmp .ge 7, 3) := by decide +kernel
theorem dX10_towers_127 : decode cX10_towers 127 = .ok (.iconst 0, 1) := by decide +kernel
theorem dX10_towers_128 : decode cX10_towers 128 = .ok (.goto 7, 3) := by decide +kernel
theorem dX10_towers_131 : decode cX10_towers 131 = .ok (.iload 6, 2) := by decide +kernel
theorem dX10_towers_133 : decode cX10_towers 133 = .ok (.iload_n 1, 1) := by decide +kernel
theorem dX10_towers_134 : decode cX10_towers 134 = .ok (.isub, 1) := by decide +kernel
theorem dX10_towers_135 : decode cX10_towers 135 = .ok (.istore 7, 2) := by decide +kernel
theorem dX10_towers_137 : decode cX10_towers 137 = .ok (.iload 4, 2) := by decide +kernel
theorem dX10_towers_139 : decode cX10_towers 139 = .ok (.iconst 1, 1) := by decide +kernel
theorem dX10_towers_140 : decode cX10_towers 140 = .ok (.iload 7, 2) := by decide +kernel
theorem dX10_towers_142 : decode cX10_towers 142 = .ok (.ishl, 1) := by decide +kernel
theorem dX10_towers_143 : decode cX10_towers 143 = .ok (.ior, 1) := by decide +kernel
theorem dX10_towers_144 : decode cX10_towers 144 = .ok (.istore 4, 2) := by decide +kernel
theorem dX10_towers_146 : decode cX10_towers 146 = .ok (.iinc 3 1, 3) := by decide +kernel
theorem dX10_towers_149 : decode cX10_towers 149 = .ok (.iload 7, 2) := by decide +kernel
theorem dX10_towers_151 : decode cX10_towers 151 = .ok (.iload_n 1, 1) := by decide +kernel
theorem dX10_towers_152 : decode cX10_towers 152 = .ok (.isub, 1) := by decide +kernel
theorem dX10_towers_153 : decode cX10_towers 153 = .ok (.istore 5, 2) := by decide +kernel
theorem dX10_towers_155 : decode cX10_towers 155 = .ok (.goto (-115), 3) := by decide +kernel
theorem dX10_towers_158 : decode cX10_towers 158 = .ok (.iload_n 2, 1) := by decide +kernel
theorem dX10_towers_159 : decode cX10_towers 159 = .ok (.ifCond .ne 7, 3) := by decide +kernel
theorem dX10_towers_162 : decode cX10_towers 162 = .ok (.iload_n 3, 1) := by decide +kernel
theorem dX10_towers_163 : decode cX10_towers 163 = .ok (.goto 5, 3) := by decide +kernel
theorem dX10_towers_166 : decode cX10_towers 166 = .ok (.iload 4, 2) := by decide +kernel
theorem dX10_towers_168 : decode cX10_towers 168 = .ok (.ireturn, 1) := by decide +kernel
theorem dX10_see_0 : decode cX10_see 0 = .ok (.aload_n 0, 1) := by decide +kernel
theorem dX10_see_1 : decode cX10_see 1 = .ok (.iconst 0, 1) := by decide +kernel
theorem dX10_see_2 : decode cX10_see 2 = .ok (.putfield 120, 3) := by decide +kernel
theorem dX10_see_5 : decode cX10_see 5 = .ok (.aload_n 0, 1) := by decide +kernel
theorem dX10_see_6 : decode cX10_see 6 = .ok (.iload_n 1, 1) := by decide +kernel
theorem dX10_see_7 : decode cX10_see 7 = .ok (.invokevirtual 376, 3) := by decide +kernel
theorem dX10_see_10 : decode cX10_see 10 = .ok (.ifCond .ne 5, 3) := by decide +kernel
theorem dX10_see_13 : decode cX10_see 13 = .ok (.iconst 0, 1) := by decide +kernel
theorem dX10_see_14 : decode cX10_see 14 = .ok (.ireturn, 1) := by decide +kernel
theorem dX10_see_15 : decode cX10_see 15 = .ok (.aload_n 0, 1) := by decide +kernel
theorem dX10_see_16 : decode cX10_see 16 = .ok (.getfield 291, 3) := by decide +kernel
theorem dX10_see_19 : decode cX10_see 19 = .ok (.bipush 8, 2) := by decide +kernel
theorem dX10_see_21 : decode cX10_see 21 = .ok (.if_icmp .eq 24, 3) := by decide +kernel
theorem dX10_see_24 : decode cX10_see 24 = .ok (.iload_n 2, 1) := by decide +kernel
theorem dX10_see_25 : decode cX10_see 25 = .ok (.iconst 1, 1) := by decide +kernel
theorem dX10_see_26 : decode cX10_see 26 = .ok (.bipush 12, 2) := by decide +kernel
theorem dX10_see_28 : decode cX10_see 28 = .ok (.invokestatic 361, 3) := by decide +kernel
theorem dX10_see_31 : decode cX10_see 31 = .ok (.ifCond .eq 14, 3) := by decide +kernel
theorem dX10_see_34 : decode cX10_see 34 = .ok (.iload_n 3, 1) := by decide +kernel
theorem dX10_see_35 : decode cX10_see 35 = .ok (.iconst 0, 1) := by decide +kernel
theorem dX10_see_36 : decode cX10_see 36 = .ok (.sipush 1999, 3) := by decide +kernel
theorem dX10_see_39 : decode cX10_see 39 = .ok (.invokestatic 361, 3) := by decide +kernel
theorem dX10_see_42 : decode cX10_see 42 = .ok (.ifCond .ne 9, 3) := by decide +kernel
theorem dX10_see_45 : decode cX10_see 45 = .ok (.aload_n 0, 1) := by decide +kernel
theorem dX10_see_46 : decode cX10_see 46 = .ok (.iconst 2, 1) := by decide +kernel
theorem dX10_see_47 : decode cX10_see 47 = .ok (.invokevirtual 382, 3) := by decide +kernel
theorem dX10_see_50 : decode cX10_see 50 = .ok (.ireturn, 1) := by decide +kernel
theorem dX10_see_51 : decode cX10_see 51 = .ok (.aload_n 0, 1) := by decide +kernel
theorem dX10_see_52 : decode cX10_see 52 = .ok (.getfield 99, 3) := by decide +kernel
theorem dX10_see_55 : decode cX10_see 55 = .ok (.iconst 3, 1) := by decide +kernel
theorem dX10_see_56 : decode cX10_see 56 = .ok (.aload_n 0, 1) := by decide +kernel
theorem dX10_see_57 : decode cX10_see 57 = .ok (.getfield 291, 3) := by decide +kernel
theorem dX10_see_60 : decode cX10_see 60 = .ok (.imul, 1) := by decide +kernel
theorem dX10_see_61 : decode cX10_see 61 = .ok (.iload_n 1, 1) := by decide +kernel
theorem dX10_see_62 : decode cX10_see 62 = .ok (.iastore, 1) := by decide +kernel
theorem dX10_see_63 : decode cX10_see 63 = .ok (.aload_n 0, 1) := by decide +kernel
theorem dX10_see_64 : decode cX10_see 64 = .ok (.getfield 99, 3) := by decide +kernel
theorem dX10_see_67 : decode cX10_see 67 = .ok (.iconst 3, 1) := by decide +kernel
theorem dX10_see_68 : decode cX10_see 68 = .ok (.aload_n 0, 1) := by decide +kernel
theorem dX10_see_69 : decode cX10_see 69 = .ok (.getfield 291, 3) := by decide +kernel
theorem dX10_see_72 : decode cX10_see 72 = .ok (.imul, 1) := by decide +kernel
theorem dX10_see_73 : decode cX10_see 73 = .ok (.iconst 1, 1) := by decide +kernel
theorem dX10_see_74 : decode cX10_see 74 = .ok (.iadd, 1) := by decide +kernel
theorem dX10_see_75 : decode cX10_see 75 = .ok (.iload_n 2, 1) := by decide +kernel
theorem dX10_see_76 : decode cX10_see 76 = .ok (.iastore, 1) := by decide +kernel
theorem dX10_see_77 : decode cX10_see 77 = .ok (.aload_n 0, 1) := by decide +kernel
theorem dX10_see_78 : decode cX10_see 78 = .ok (.getfield 99, 3) := by decide +kernel
theorem dX10_see_81 : decode cX10_see 81 = .ok (.iconst 3, 1) := by decide +kernel
theorem dX10_see_82 : decode cX10_see 82 = .ok (.aload_n 0, 1) := by decide +kernel
theorem dX10_see_83 : decode cX10_see 83 = .ok (.getfield 291, 3) := by decide +kernel
theorem dX10_see_86 : decode cX10_see 86 = .ok (.imul, 1) := by decide +kernel
theorem dX10_see_87 : decode cX10_see 87 = .ok (.iconst 2, 1) := by decide +kernel
theorem dX10_see_88 : decode cX10_see 88 = .ok (.iadd, 1) := by decide +kernel
theorem dX10_see_89 : decode cX10_see 89 = .ok (.iload_n 3, 1) := by decide +kernel
theorem dX10_see_90 : decode cX10_see 90 = .ok (.iastore, 1) := by decide +kernel
theorem dX10_see_91 : decode cX10_see 91 = .ok (.aload_n 0, 1) := by decide +kernel
theorem dX10_see_92 : decode cX10_see 92 = .ok (.dup, 1) := by decide +kernel
theorem dX10_see_93 : decode cX10_see 93 = .ok (.getfield 291, 3) := by decide +kernel
theorem dX10_see_96 : decode cX10_see 96 = .ok (.iconst 1, 1) := by decide +kernel
theorem dX10_see_97 : decode cX10_see 97 = .ok (.iadd, 1) := by decide +kernel
theorem dX10_see_98 : decode cX10_see 98 = .ok (.putfield 291, 3) := by decide +kernel
theorem dX10_see_101 : decode cX10_see 101 = .ok (.aload_n 0, 1) := by decide +kernel
theorem dX10_see_102 : decode cX10_see 102 = .ok (.getfield 291, 3) := by decide +kernel
theorem dX10_see_105 : decode cX10_see 105 = .ok (.ireturn, 1) := by decide +kernel
theorem dX10_forget_0 : decode cX10_forget 0 = .ok (.aload_n 0, 1) := by decide +kernel
theorem dX10_forget_1 : decode cX10_forget 1 = .ok (.iconst 0, 1) := by decide +kernel
theorem dX10_forget_2 : decode cX10_forget 2 = .ok (.putfield 120, 3) := by decide +kernel
theorem dX10_forget_5 : decode cX10_forget 5 = .ok (.aload_n 0, 1) := by decide +kernel
theorem dX10_forget_6 : decode cX10_forget 6 = .ok (.iconst 0, 1) := by decide +kernel
theorem dX10_forget_7 : decode cX10_forget 7 = .ok (.putfield 291, 3) := by decide +kernel
theorem dX10_forget_10 : decode cX10_forget 10 = .ok (.return_, 1) := by decide +kernel
theorem dX10_isSeen_0 : decode cX10_isSeen 0 = .ok (.iconst 1, 1) := by decide +kernel
theorem dX10_isSeen_1 : decode cX10_isSeen 1 = .ok (.istore_n 1, 1) := by decide +kernel
theorem dX10_isSeen_2 : decode cX10_isSeen 2 = .ok (.iload_n 1, 1) := by decide +kernel
theorem dX10_isSeen_3 : decode cX10_isSeen 3 = .ok (.bipush 12, 2) := by decide +kernel
theorem dX10_isSeen_5 : decode cX10_isSeen 5 = .ok (.if_icmp .gt 107, 3) := by decide +kernel
theorem dX10_isSeen_8 : decode cX10_isSeen 8 = .ok (.aload_n 0, 1) := by decide +kernel
theorem dX10_isSeen_9 : decode cX10_isSeen 9 = .ok (.bipush 33, 2) := by decide +kernel
theorem dX10_isSeen_11 : decode cX10_isSeen 11 = .ok (.invokevirtual 358, 3) := by decide +kernel
theorem dX10_isSeen_14 : decode cX10_isSeen 14 = .ok (.iconst 0, 1) := by decide +kernel
theorem dX10_isSeen_15 : decode cX10_isSeen 15 = .ok (.istore_n 2, 1) := by decide +kernel
theorem dX10_isSeen_16 : decode cX10_isSeen 16 = .ok (.iload_n 2, 1) := by decide +kernel
theorem dX10_isSeen_17 : decode cX10_isSeen 17 = .ok (.aload_n 0, 1) := by decide +kernel
theorem dX10_isSeen_18 : decode cX10_isSeen 18 = .ok (.getfield 291, 3) := by decide +kernel
theorem dX10_isSeen_21 : decode cX10_isSeen 21 = .ok (.if_icmp .ge 68, 3) := by decide +kernel
theorem dX10_isSeen_24 : decode cX10_isSeen 24 = .ok (.aload_n 0, 1) := by decide +kernel
theorem dX10_isSeen_25 : decode cX10_isSeen 25 = .ok (.getfield 99, 3) := by decide +kernel
theorem dX10_isSeen_28 : decode cX10_isSeen 28 = .ok (.iconst 3, 1) := by decide +kernel
theorem dX10_isSeen_29 : decode cX10_isSeen 29 = .ok (.iload_n 2, 1) := by decide +kernel
theorem dX10_isSeen_30 : decode cX10_isSeen 30 = .ok (.imul, 1) := by decide +kernel
theorem dX10_isSeen_31 : decode cX10_isSeen 31 = .ok (.iconst 1, 1) := by decide +kernel
theorem dX10_isSeen_32 : decode cX10_isSeen 32 = .ok (.iadd, 1) := by decide +kernel
theorem dX10_isSeen_33 : decode cX10_isSeen 33 = .ok (.iaload, 1) := by decide +kernel
theorem dX10_isSeen_34 : decode cX10_isSeen 34 = .ok (.iload_n 1, 1) := by decide +kernel
theorem dX10_isSeen_35 : decode cX10_isSeen 35 = .ok (.if_icmp .ne 48, 3) := by decide +kernel
theorem dX10_isSeen_38 : decode cX10_isSeen 38 = .ok (.aload_n 0, 1) := by decide +kernel
theorem dX10_isSeen_39 : decode cX10_isSeen 39 = .ok (.getfield 69, 3) := by decide +kernel
theorem dX10_isSeen_42 : decode cX10_isSeen 42 = .ok (.bipush 27, 2) := by decide +kernel
theorem dX10_isSeen_44 : decode cX10_isSeen 44 = .ok (.aload_n 0, 1) := by decide +kernel
theorem dX10_isSeen_45 : decode cX10_isSeen 45 = .ok (.getfield 99, 3) := by decide +kernel
theorem dX10_isSeen_48 : decode cX10_isSeen 48 = .ok (.iconst 3, 1) := by decide +kernel
theorem dX10_isSeen_49 : decode cX10_isSeen 49 = .ok (.iload_n 2, 1) := by decide +kernel
theorem dX10_isSeen_50 : decode cX10_isSeen 50 = .ok (.imul, 1) := by decide +kernel
theorem dX10_isSeen_51 : decode cX10_isSeen 51 = .ok (.iaload, 1) := by decide +kernel
theorem dX10_isSeen_52 : decode cX10_isSeen 52 = .ok (.iadd, 1) := by decide +kernel
theorem dX10_isSeen_53 : decode cX10_isSeen 53 = .ok (.iaload, 1) := by decide +kernel
theorem dX10_isSeen_54 : decode cX10_isSeen 54 = .ok (.aload_n 0, 1) := by decide +kernel
theorem dX10_isSeen_55 : decode cX10_isSeen 55 = .ok (.getfield 81, 3) := by decide +kernel
theorem dX10_isSeen_58 : decode cX10_isSeen 58 = .ok (.aload_n 0, 1) := by decide +kernel
theorem dX10_isSeen_59 : decode cX10_isSeen 59 = .ok (.getfield 99, 3) := by decide +kernel
theorem dX10_isSeen_62 : decode cX10_isSeen 62 = .ok (.iconst 3, 1) := by decide +kernel
theorem dX10_isSeen_63 : decode cX10_isSeen 63 = .ok (.iload_n 2, 1) := by decide +kernel
theorem dX10_isSeen_64 : decode cX10_isSeen 64 = .ok (.imul, 1) := by decide +kernel
theorem dX10_isSeen_65 : decode cX10_isSeen 65 = .ok (.iaload, 1) := by decide +kernel
theorem dX10_isSeen_66 : decode cX10_isSeen 66 = .ok (.iaload, 1) := by decide +kernel
theorem dX10_isSeen_67 : decode cX10_isSeen 67 = .ok (.iadd, 1) := by decide +kernel
theorem dX10_isSeen_68 : decode cX10_isSeen 68 = .ok (.aload_n 0, 1) := by decide +kernel
theorem dX10_isSeen_69 : decode cX10_isSeen 69 = .ok (.getfield 99, 3) := by decide +kernel
theorem dX10_isSeen_72 : decode cX10_isSeen 72 = .ok (.iconst 3, 1) := by decide +kernel
theorem dX10_isSeen_73 : decode cX10_isSeen 73 = .ok (.iload_n 2, 1) := by decide +kernel
theorem dX10_isSeen_74 : decode cX10_isSeen 74 = .ok (.imul, 1) := by decide +kernel
theorem dX10_isSeen_75 : decode cX10_isSeen 75 = .ok (.iconst 2, 1) := by decide +kernel
theorem dX10_isSeen_76 : decode cX10_isSeen 76 = .ok (.iadd, 1) := by decide +kernel
theorem dX10_isSeen_77 : decode cX10_isSeen 77 = .ok (.iaload, 1) := by decide +kernel
theorem dX10_isSeen_78 : decode cX10_isSeen 78 = .ok (.if_icmp .eq 5, 3) := by decide +kernel
theorem dX10_isSeen_81 : decode cX10_isSeen 81 = .ok (.iconst 0, 1) := by decide +kernel
theorem dX10_isSeen_82 : decode cX10_isSeen 82 = .ok (.ireturn, 1) := by decide +kernel
theorem dX10_isSeen_83 : decode cX10_isSeen 83 = .ok (.iinc 2 1, 3) := by decide +kernel
theorem dX10_isSeen_86 : decode cX10_isSeen 86 = .ok (.goto (-70), 3) := by decide +kernel
theorem dX10_isSeen_89 : decode cX10_isSeen 89 = .ok (.iload_n 1, 1) := by decide +kernel
theorem dX10_isSeen_90 : decode cX10_isSeen 90 = .ok (.iconst 2, 1) := by decide +kernel
theorem dX10_isSeen_91 : decode cX10_isSeen 91 = .ok (.if_icmp .ne 15, 3) := by decide +kernel
theorem dX10_isSeen_94 : decode cX10_isSeen 94 = .ok (.aload_n 0, 1) := by decide +kernel
theorem dX10_isSeen_95 : decode cX10_isSeen 95 = .ok (.aload_n 0, 1) := by decide +kernel
theorem dX10_isSeen_96 : decode cX10_isSeen 96 = .ok (.getfield 81, 3) := by decide +kernel
theorem dX10_isSeen_99 : decode cX10_isSeen 99 = .ok (.aload_n 0, 1) := by decide +kernel
theorem dX10_isSeen_100 : decode cX10_isSeen 100 = .ok (.getfield 102, 3) := by decide +kernel
theorem dX10_isSeen_103 : decode cX10_isSeen 103 = .ok (.invokevirtual 284, 3) := by decide +kernel
theorem dX10_isSeen_106 : decode cX10_isSeen 106 = .ok (.iinc 1 1, 3) := by decide +kernel
theorem dX10_isSeen_109 : decode cX10_isSeen 109 = .ok (.goto (-107), 3) := by decide +kernel
theorem dX10_isSeen_112 : decode cX10_isSeen 112 = .ok (.iconst 1, 1) := by decide +kernel
theorem dX10_isSeen_113 : decode cX10_isSeen 113 = .ok (.ireturn, 1) := by decide +kernel
theorem dX10_isGuess_0 : decode cX10_isGuess 0 = .ok (.iload_n 1, 1) := by decide +kernel
theorem dX10_isGuess_1 : decode cX10_isGuess 1 = .ok (.bipush 61, 2) := by decide +kernel
theorem dX10_isGuess_3 : decode cX10_isGuess 3 = .ok (.idiv, 1) := by decide +kernel
theorem dX10_isGuess_4 : decode cX10_isGuess 4 = .ok (.istore_n 2, 1) := by decide +kernel
theorem dX10_isGuess_5 : decode cX10_isGuess 5 = .ok (.aload_n 0, 1) := by decide +kernel
theorem dX10_isGuess_6 : decode cX10_isGuess 6 = .ok (.getfield 23, 3) := by decide +kernel
theorem dX10_isGuess_9 : decode cX10_isGuess 9 = .ok (.iload_n 2, 1) := by decide +kernel
theorem dX10_isGuess_10 : decode cX10_isGuess 10 = .ok (.iaload, 1) := by decide +kernel
theorem dX10_isGuess_11 : decode cX10_isGuess 11 = .ok (.istore_n 3, 1) := by decide +kernel
theorem dX10_isGuess_12 : decode cX10_isGuess 12 = .ok (.iload_n 1, 1) := by decide +kernel
theorem dX10_isGuess_13 : decode cX10_isGuess 13 = .ok (.bipush 61, 2) := by decide +kernel
theorem dX10_isGuess_15 : decode cX10_isGuess 15 = .ok (.irem, 1) := by decide +kernel
theorem dX10_isGuess_16 : decode cX10_isGuess 16 = .ok (.iload_n 3, 1) := by decide +kernel
theorem dX10_isGuess_17 : decode cX10_isGuess 17 = .ok (.if_icmp .ne 5, 3) := by decide +kernel
theorem dX10_isGuess_20 : decode cX10_isGuess 20 = .ok (.iconst 0, 1) := by decide +kernel
theorem dX10_isGuess_21 : decode cX10_isGuess 21 = .ok (.ireturn, 1) := by decide +kernel
theorem dX10_isGuess_22 : decode cX10_isGuess 22 = .ok (.aload_n 0, 1) := by decide +kernel
theorem dX10_isGuess_23 : decode cX10_isGuess 23 = .ok (.getfield 23, 3) := by decide +kernel
theorem dX10_isGuess_26 : decode cX10_isGuess 26 = .ok (.iload_n 2, 1) := by decide +kernel
theorem dX10_isGuess_27 : decode cX10_isGuess 27 = .ok (.iload_n 1, 1) := by decide +kernel
theorem dX10_isGuess_28 : decode cX10_isGuess 28 = .ok (.bipush 61, 2) := by decide +kernel
theorem dX10_isGuess_30 : decode cX10_isGuess 30 = .ok (.irem, 1) := by decide +kernel
theorem dX10_isGuess_31 : decode cX10_isGuess 31 = .ok (.iastore, 1) := by decide +kernel
theorem dX10_isGuess_32 : decode cX10_isGuess 32 = .ok (.aload_n 0, 1) := by decide +kernel
theorem dX10_isGuess_33 : decode cX10_isGuess 33 = .ok (.invokevirtual 388, 3) := by decide +kernel
theorem dX10_isGuess_36 : decode cX10_isGuess 36 = .ok (.aload_n 0, 1) := by decide +kernel
theorem dX10_isGuess_37 : decode cX10_isGuess 37 = .ok (.invokevirtual 409, 3) := by decide +kernel
theorem dX10_isGuess_40 : decode cX10_isGuess 40 = .ok (.istore 4, 2) := by decide +kernel
theorem dX10_isGuess_42 : decode cX10_isGuess 42 = .ok (.aload_n 0, 1) := by decide +kernel
theorem dX10_isGuess_43 : decode cX10_isGuess 43 = .ok (.getfield 23, 3) := by decide +kernel
theorem dX10_isGuess_46 : decode cX10_isGuess 46 = .ok (.iload_n 2, 1) := by decide +kernel
theorem dX10_isGuess_47 : decode cX10_isGuess 47 = .ok (.iload_n 3, 1) := by decide +kernel
theorem dX10_isGuess_48 : decode cX10_isGuess 48 = .ok (.iastore, 1) := by decide +kernel
theorem dX10_isGuess_49 : decode cX10_isGuess 49 = .ok (.iload 4, 2) := by decide +kernel
theorem dX10_isGuess_51 : decode cX10_isGuess 51 = .ok (.ireturn, 1) := by decide +kernel
theorem dX10_habits_0 : decode cX10_habits 0 = .ok (.aload_n 0, 1) := by decide +kernel
theorem dX10_habits_1 : decode cX10_habits 1 = .ok (.iconst 0, 1) := by decide +kernel
theorem dX10_habits_2 : decode cX10_habits 2 = .ok (.putfield 120, 3) := by decide +kernel
theorem dX10_habits_5 : decode cX10_habits 5 = .ok (.aload_n 0, 1) := by decide +kernel
theorem dX10_habits_6 : decode cX10_habits 6 = .ok (.iload_n 1, 1) := by decide +kernel
theorem dX10_habits_7 : decode cX10_habits 7 = .ok (.iconst 2, 1) := by decide +kernel
theorem dX10_habits_8 : decode cX10_habits 8 = .ok (.invokevirtual 373, 3) := by decide +kernel
theorem dX10_habits_11 : decode cX10_habits 11 = .ok (.ifCond .ne 5, 3) := by decide +kernel
theorem dX10_habits_14 : decode cX10_habits 14 = .ok (.iconst 0, 1) := by decide +kernel
theorem dX10_habits_15 : decode cX10_habits 15 = .ok (.ireturn, 1) := by decide +kernel
theorem dX10_habits_16 : decode cX10_habits 16 = .ok (.iload_n 1, 1) := by decide +kernel
theorem dX10_habits_17 : decode cX10_habits 17 = .ok (.iconst 2, 1) := by decide +kernel
theorem dX10_habits_18 : decode cX10_habits 18 = .ok (.if_icmp .ne 20, 3) := by decide +kernel
theorem dX10_habits_21 : decode cX10_habits 21 = .ok (.aload_n 0, 1) := by decide +kernel
theorem dX10_habits_22 : decode cX10_habits 22 = .ok (.invokevirtual 388, 3) := by decide +kernel
theorem dX10_habits_25 : decode cX10_habits 25 = .ok (.aload_n 0, 1) := by decide +kernel
theorem dX10_habits_26 : decode cX10_habits 26 = .ok (.invokevirtual 409, 3) := by decide +kernel
theorem dX10_habits_29 : decode cX10_habits 29 = .ok (.ifCond .eq 7, 3) := by decide +kernel
theorem dX10_habits_32 : decode cX10_habits 32 = .ok (.iconst 1, 1) := by decide +kernel
theorem dX10_habits_33 : decode cX10_habits 33 = .ok (.goto 4, 3) := by decide +kernel
theorem dX10_habits_36 : decode cX10_habits 36 = .ok (.iconst 0, 1) := by decide +kernel
theorem dX10_habits_37 : decode cX10_habits 37 = .ok (.ireturn, 1) := by decide +kernel
theorem dX10_habits_38 : decode cX10_habits 38 = .ok (.iconst 0, 1) := by decide +kernel
theorem dX10_habits_39 : decode cX10_habits 39 = .ok (.istore_n 2, 1) := by decide +kernel
theorem dX10_habits_40 : decode cX10_habits 40 = .ok (.iconst (-1), 1) := by decide +kernel
theorem dX10_habits_41 : decode cX10_habits 41 = .ok (.istore_n 3, 1) := by decide +kernel
theorem dX10_habits_42 : decode cX10_habits 42 = .ok (.iconst 0, 1) := by decide +kernel
theorem dX10_habits_43 : decode cX10_habits 43 = .ok (.istore 4, 2) := by decide +kernel
theorem dX10_habits_45 : decode cX10_habits 45 = .ok (.iload 4, 2) := by decide +kernel
theorem dX10_habits_47 : decode cX10_habits 47 = .ok (.bipush 61, 2) := by decide +kernel
theorem dX10_habits_49 : decode cX10_habits 49 = .ok (.aload_n 0, 1) := by decide +kernel
theorem dX10_habits_50 : decode cX10_habits 50 = .ok (.getfield 278, 3) := by decide +kernel
theorem dX10_habits_53 : decode cX10_habits 53 = .ok (.imul, 1) := by decide +kernel
theorem dX10_habits_54 : decode cX10_habits 54 = .ok (.if_icmp .ge 44, 3) := by decide +kernel
theorem dX10_habits_57 : decode cX10_habits 57 = .ok (.aload_n 0, 1) := by decide +kernel
theorem dX10_habits_58 : decode cX10_habits 58 = .ok (.iload 4, 2) := by decide +kernel
theorem dX10_habits_60 : decode cX10_habits 60 = .ok (.invokevirtual 412, 3) := by decide +kernel
theorem dX10_habits_63 : decode cX10_habits 63 = .ok (.ifCond .ne 6, 3) := by decide +kernel
theorem dX10_habits_66 : decode cX10_habits 66 = .ok (.goto 26, 3) := by decide +kernel
theorem dX10_habits_69 : decode cX10_habits 69 = .ok (.iinc 2 1, 3) := by decide +kernel
theorem dX10_habits_72 : decode cX10_habits 72 = .ok (.iload_n 3, 1) := by decide +kernel
theorem dX10_habits_73 : decode cX10_habits 73 = .ok (.iconst (-1), 1) := by decide +kernel
theorem dX10_habits_74 : decode cX10_habits 74 = .ok (.if_icmp .ne 18, 3) := by decide +kernel
theorem dX10_habits_77 : decode cX10_habits 77 = .ok (.iload 4, 2) := by decide +kernel
theorem dX10_habits_79 : decode cX10_habits 79 = .ok (.bipush 61, 2) := by decide +kernel
theorem dX10_habits_81 : decode cX10_habits 81 = .ok (.idiv, 1) := by decide +kernel
theorem dX10_habits_82 : decode cX10_habits 82 = .ok (.bipush 100, 2) := by decide +kernel
theorem dX10_habits_84 : decode cX10_habits 84 = .ok (.imul, 1) := by decide +kernel
theorem dX10_habits_85 : decode cX10_habits 85 = .ok (.iload 4, 2) := by decide +kernel
theorem dX10_habits_87 : decode cX10_habits 87 = .ok (.bipush 61, 2) := by decide +kernel
theorem dX10_habits_89 : decode cX10_habits 89 = .ok (.irem, 1) := by decide +kernel
theorem dX10_habits_90 : decode cX10_habits 90 = .ok (.iadd, 1) := by decide +kernel
theorem dX10_habits_91 : decode cX10_habits 91 = .ok (.istore_n 3, 1) := by decide +kernel
theorem dX10_habits_92 : decode cX10_habits 92 = .ok (.iinc 4 1, 3) := by decide +kernel
theorem dX10_habits_95 : decode cX10_habits 95 = .ok (.goto (-50), 3) := by decide +kernel
theorem dX10_habits_98 : decode cX10_habits 98 = .ok (.iload_n 1, 1) := by decide +kernel
theorem dX10_habits_99 : decode cX10_habits 99 = .ok (.ifCond .ne 7, 3) := by decide +kernel
theorem dX10_habits_102 : decode cX10_habits 102 = .ok (.iload_n 2, 1) := by decide +kernel
theorem dX10_habits_103 : decode cX10_habits 103 = .ok (.goto 4, 3) := by decide +kernel
theorem dX10_habits_106 : decode cX10_habits 106 = .ok (.iload_n 3, 1) := by decide +kernel
theorem dX10_habits_107 : decode cX10_habits 107 = .ok (.ireturn, 1) := by decide +kernel
theorem dX10_next_0 : decode cX10_next 0 = .ok (.aload_n 0, 1) := by decide +kernel
theorem dX10_next_1 : decode cX10_next 1 = .ok (.iconst 0, 1) := by decide +kernel
theorem dX10_next_2 : decode cX10_next 2 = .ok (.putfield 120, 3) := by decide +kernel
theorem dX10_next_5 : decode cX10_next 5 = .ok (.aload_n 0, 1) := by decide +kernel
theorem dX10_next_6 : decode cX10_next 6 = .ok (.iload_n 1, 1) := by decide +kernel
theorem dX10_next_7 : decode cX10_next 7 = .ok (.iconst 1, 1) := by decide +kernel
theorem dX10_next_8 : decode cX10_next 8 = .ok (.invokevirtual 373, 3) := by decide +kernel
theorem dX10_next_11 : decode cX10_next 11 = .ok (.ifCond .ne 5, 3) := by decide +kernel
theorem dX10_next_14 : decode cX10_next 14 = .ok (.iconst 0, 1) := by decide +kernel
theorem dX10_next_15 : decode cX10_next 15 = .ok (.ireturn, 1) := by decide +kernel
theorem dX10_next_16 : decode cX10_next 16 = .ok (.iconst 0, 1) := by decide +kernel
theorem dX10_next_17 : decode cX10_next 17 = .ok (.istore_n 2, 1) := by decide +kernel
theorem dX10_next_18 : decode cX10_next 18 = .ok (.iconst 0, 1) := by decide +kernel
theorem dX10_next_19 : decode cX10_next 19 = .ok (.istore_n 3, 1) := by decide +kernel
theorem dX10_next_20 : decode cX10_next 20 = .ok (.iload_n 3, 1) := by decide +kernel
theorem dX10_next_21 : decode cX10_next 21 = .ok (.bipush 61, 2) := by decide +kernel
theorem dX10_next_23 : decode cX10_next 23 = .ok (.aload_n 0, 1) := by decide +kernel
theorem dX10_next_24 : decode cX10_next 24 = .ok (.getfield 278, 3) := by decide +kernel
theorem dX10_next_27 : decode cX10_next 27 = .ok (.imul, 1) := by decide +kernel
theorem dX10_next_28 : decode cX10_next 28 = .ok (.if_icmp .ge 60, 3) := by decide +kernel
theorem dX10_next_31 : decode cX10_next 31 = .ok (.aload_n 0, 1) := by decide +kernel
theorem dX10_next_32 : decode cX10_next 32 = .ok (.iload_n 3, 1) := by decide +kernel
theorem dX10_next_33 : decode cX10_next 33 = .ok (.invokevirtual 412, 3) := by decide +kernel
theorem dX10_next_36 : decode cX10_next 36 = .ok (.ifCond .ne 6, 3) := by decide +kernel
theorem dX10_next_39 : decode cX10_next 39 = .ok (.goto 43, 3) := by decide +kernel
theorem dX10_next_42 : decode cX10_next 42 = .ok (.iconst 0, 1) := by decide +kernel
theorem dX10_next_43 : decode cX10_next 43 = .ok (.istore 4, 2) := by decide +kernel
theorem dX10_next_45 : decode cX10_next 45 = .ok (.iload 4, 2) := by decide +kernel
theorem dX10_next_47 : decode cX10_next 47 = .ok (.aload_n 0, 1) := by decide +kernel
theorem dX10_next_48 : decode cX10_next 48 = .ok (.getfield 281, 3) := by decide +kernel
theorem dX10_next_51 : decode cX10_next 51 = .ok (.if_icmp .ge 28, 3) := by decide +kernel
theorem dX10_next_54 : decode cX10_next 54 = .ok (.aload_n 0, 1) := by decide +kernel
theorem dX10_next_55 : decode cX10_next 55 = .ok (.getfield 105, 3) := by decide +kernel
theorem dX10_next_58 : decode cX10_next 58 = .ok (.bipush 6, 2) := by decide +kernel
theorem dX10_next_60 : decode cX10_next 60 = .ok (.iload_n 2, 1) := by decide +kernel
theorem dX10_next_61 : decode cX10_next 61 = .ok (.imul, 1) := by decide +kernel
theorem dX10_next_62 : decode cX10_next 62 = .ok (.iload 4, 2) := by decide +kernel
theorem dX10_next_64 : decode cX10_next 64 = .ok (.iadd, 1) := by decide +kernel
theorem dX10_next_65 : decode cX10_next 65 = .ok (.aload_n 0, 1) := by decide +kernel
theorem dX10_next_66 : decode cX10_next 66 = .ok (.getfield 102, 3) := by decide +kernel
theorem dX10_next_69 : decode cX10_next 69 = .ok (.iload 4, 2) := by decide +kernel
theorem dX10_next_71 : decode cX10_next 71 = .ok (.iaload, 1) := by decide +kernel
theorem dX10_next_72 : decode cX10_next 72 = .ok (.iastore, 1) := by decide +kernel
theorem dX10_next_73 : decode cX10_next 73 = .ok (.iinc 4 1, 3) := by decide +kernel
theorem dX10_next_76 : decode cX10_next 76 = .ok (.goto (-31), 3) := by decide +kernel
theorem dX10_next_79 : decode cX10_next 79 = .ok (.iinc 2 1, 3) := by decide +kernel
theorem dX10_next_82 : decode cX10_next 82 = .ok (.iinc 3 1, 3) := by decide +kernel
theorem dX10_next_85 : decode cX10_next 85 = .ok (.goto (-65), 3) := by decide +kernel
theorem dX10_next_88 : decode cX10_next 88 = .ok (.iconst (-1), 1) := by decide +kernel
theorem dX10_next_89 : decode cX10_next 89 = .ok (.istore_n 3, 1) := by decide +kernel
theorem dX10_next_90 : decode cX10_next 90 = .ok (.iconst 0, 1) := by decide +kernel
theorem dX10_next_91 : decode cX10_next 91 = .ok (.istore 4, 2) := by decide +kernel
theorem dX10_next_93 : decode cX10_next 93 = .ok (.iconst 0, 1) := by decide +kernel
theorem dX10_next_94 : decode cX10_next 94 = .ok (.istore 5, 2) := by decide +kernel
theorem dX10_next_96 : decode cX10_next 96 = .ok (.iload 5, 2) := by decide +kernel
theorem dX10_next_98 : decode cX10_next 98 = .ok (.aload_n 0, 1) := by decide +kernel
theorem dX10_next_99 : decode cX10_next 99 = .ok (.getfield 281, 3) := by decide +kernel
theorem dX10_next_102 : decode cX10_next 102 = .ok (.if_icmp .ge 119, 3) := by decide +kernel
theorem dX10_next_105 : decode cX10_next 105 = .ok (.iconst 0, 1) := by decide +kernel
theorem dX10_next_106 : decode cX10_next 106 = .ok (.istore 6, 2) := by decide +kernel
theorem dX10_next_108 : decode cX10_next 108 = .ok (.iconst 0, 1) := by decide +kernel
theorem dX10_next_109 : decode cX10_next 109 = .ok (.istore 7, 2) := by decide +kernel
theorem dX10_next_111 : decode cX10_next 111 = .ok (.iload 7, 2) := by decide +kernel
theorem dX10_next_113 : decode cX10_next 113 = .ok (.iload_n 2, 1) := by decide +kernel
theorem dX10_next_114 : decode cX10_next 114 = .ok (.if_icmp .ge 84, 3) := by decide +kernel
theorem dX10_next_117 : decode cX10_next 117 = .ok (.iconst 1, 1) := by decide +kernel
theorem dX10_next_118 : decode cX10_next 118 = .ok (.istore 8, 2) := by decide +kernel
theorem dX10_next_120 : decode cX10_next 120 = .ok (.iconst 0, 1) := by decide +kernel
theorem dX10_next_121 : decode cX10_next 121 = .ok (.istore 9, 2) := by decide +kernel
theorem dX10_next_123 : decode cX10_next 123 = .ok (.iload 9, 2) := by decide +kernel
theorem dX10_next_125 : decode cX10_next 125 = .ok (.iload 7, 2) := by decide +kernel
theorem dX10_next_127 : decode cX10_next 127 = .ok (.if_icmp .ge 50, 3) := by decide +kernel
theorem dX10_next_130 : decode cX10_next 130 = .ok (.iload 8, 2) := by decide +kernel
theorem dX10_next_132 : decode cX10_next 132 = .ok (.ifCond .eq 45, 3) := by decide +kernel
theorem dX10_next_135 : decode cX10_next 135 = .ok (.aload_n 0, 1) := by decide +kernel
theorem dX10_next_136 : decode cX10_next 136 = .ok (.getfield 105, 3) := by decide +kernel
theorem dX10_next_139 : decode cX10_next 139 = .ok (.bipush 6, 2) := by decide +kernel
theorem dX10_next_141 : decode cX10_next 141 = .ok (.iload 7, 2) := by decide +kernel
theorem dX10_next_143 : decode cX10_next 143 = .ok (.imul, 1) := by decide +kernel
theorem dX10_next_144 : decode cX10_next 144 = .ok (.iload 5, 2) := by decide +kernel
theorem dX10_next_146 : decode cX10_next 146 = .ok (.iadd, 1) := by decide +kernel
theorem dX10_next_147 : decode cX10_next 147 = .ok (.iaload, 1) := by decide +kernel
theorem dX10_next_148 : decode cX10_next 148 = .ok (.aload_n 0, 1) := by decide +kernel
theorem dX10_next_149 : decode cX10_next 149 = .ok (.getfield 105, 3) := by decide +kernel
theorem dX10_next_152 : decode cX10_next 152 = .ok (.bipush 6, 2) := by decide +kernel
theorem dX10_next_154 : decode cX10_next 154 = .ok (.iload 9, 2) := by decide +kernel
theorem dX10_next_156 : decode cX10_next 156 = .ok (.imul, 1) := by decide +kernel
theorem dX10_next_157 : decode cX10_next 157 = .ok (.iload 5, 2) := by decide +kernel
theorem dX10_next_159 : decode cX10_next 159 = .ok (.iadd, 1) := by decide +kernel
theorem dX10_next_160 : decode cX10_next 160 = .ok (.iaload, 1) := by decide +kernel
theorem dX10_next_161 : decode cX10_next 161 = .ok (.if_icmp .eq 7, 3) := by decide +kernel
theorem dX10_next_164 : decode cX10_next 164 = .ok (.iconst 1, 1) := by decide +kernel
theorem dX10_next_165 : decode cX10_next 165 = .ok (.goto 4, 3) := by decide +kernel
theorem dX10_next_168 : decode cX10_next 168 = .ok (.iconst 0, 1) := by decide +kernel
theorem dX10_next_169 : decode cX10_next 169 = .ok (.istore 8, 2) := by decide +kernel
theorem dX10_next_171 : decode cX10_next 171 = .ok (.iinc 9 1, 3) := by decide +kernel
theorem dX10_next_174 : decode cX10_next 174 = .ok (.goto (-51), 3) := by decide +kernel
theorem dX10_next_177 : decode cX10_next 177 = .ok (.iload 6, 2) := by decide +kernel
theorem dX10_next_179 : decode cX10_next 179 = .ok (.iload 8, 2) := by decide +kernel
theorem dX10_next_181 : decode cX10_next 181 = .ok (.ifCond .eq 7, 3) := by decide +kernel
theorem dX10_next_184 : decode cX10_next 184 = .ok (.iconst 1, 1) := by decide +kernel
theorem dX10_next_185 : decode cX10_next 185 = .ok (.goto 4, 3) := by decide +kernel
theorem dX10_next_188 : decode cX10_next 188 = .ok (.iconst 0, 1) := by decide +kernel
theorem dX10_next_189 : decode cX10_next 189 = .ok (.iadd, 1) := by decide +kernel
theorem dX10_next_190 : decode cX10_next 190 = .ok (.istore 6, 2) := by decide +kernel
theorem dX10_next_192 : decode cX10_next 192 = .ok (.iinc 7 1, 3) := by decide +kernel
theorem dX10_next_195 : decode cX10_next 195 = .ok (.goto (-84), 3) := by decide +kernel
theorem dX10_next_198 : decode cX10_next 198 = .ok (.iload 6, 2) := by decide +kernel
theorem dX10_next_200 : decode cX10_next 200 = .ok (.iload 4, 2) := by decide +kernel
theorem dX10_next_202 : decode cX10_next 202 = .ok (.if_icmp .gt 6, 3) := by decide +kernel
theorem dX10_next_205 : decode cX10_next 205 = .ok (.goto 10, 3) := by decide +kernel
theorem dX10_next_208 : decode cX10_next 208 = .ok (.iload 5, 2) := by decide +kernel
theorem dX10_next_210 : decode cX10_next 210 = .ok (.istore_n 3, 1) := by decide +kernel
theorem dX10_next_211 : decode cX10_next 211 = .ok (.iload 6, 2) := by decide +kernel
theorem dX10_next_213 : decode cX10_next 213 = .ok (.istore 4, 2) := by decide +kernel
theorem dX10_next_215 : decode cX10_next 215 = .ok (.iinc 5 1, 3) := by decide +kernel
theorem dX10_next_218 : decode cX10_next 218 = .ok (.goto (-122), 3) := by decide +kernel
theorem dX10_next_221 : decode cX10_next 221 = .ok (.iload_n 1, 1) := by decide +kernel
theorem dX10_next_222 : decode cX10_next 222 = .ok (.ifCond .ne 7, 3) := by decide +kernel
theorem dX10_next_225 : decode cX10_next 225 = .ok (.iload_n 3, 1) := by decide +kernel
theorem dX10_next_226 : decode cX10_next 226 = .ok (.goto 5, 3) := by decide +kernel
theorem dX10_next_229 : decode cX10_next 229 = .ok (.iload 4, 2) := by decide +kernel
theorem dX10_next_231 : decode cX10_next 231 = .ok (.ireturn, 1) := by decide +kernel
theorem dX10_snow_0 : decode cX10_snow 0 = .ok (.aload_n 0, 1) := by decide +kernel
theorem dX10_snow_1 : decode cX10_snow 1 = .ok (.iconst 0, 1) := by decide +kernel
theorem dX10_snow_2 : decode cX10_snow 2 = .ok (.putfield 120, 3) := by decide +kernel
theorem dX10_snow_5 : decode cX10_snow 5 = .ok (.aload_n 0, 1) := by decide +kernel
theorem dX10_snow_6 : decode cX10_snow 6 = .ok (.iload_n 1, 1) := by decide +kernel
theorem dX10_snow_7 : decode cX10_snow 7 = .ok (.invokevirtual 370, 3) := by decide +kernel
theorem dX10_snow_10 : decode cX10_snow 10 = .ok (.ifCond .eq 35, 3) := by decide +kernel
theorem dX10_snow_13 : decode cX10_snow 13 = .ok (.aload_n 0, 1) := by decide +kernel
theorem dX10_snow_14 : decode cX10_snow 14 = .ok (.iload_n 2, 1) := by decide +kernel
theorem dX10_snow_15 : decode cX10_snow 15 = .ok (.iconst 1, 1) := by decide +kernel
theorem dX10_snow_16 : decode cX10_snow 16 = .ok (.iconst 5, 1) := by decide +kernel
theorem dX10_snow_17 : decode cX10_snow 17 = .ok (.invokestatic 361, 3) := by decide +kernel
theorem dX10_snow_20 : decode cX10_snow 20 = .ok (.ifCond .eq 17, 3) := by decide +kernel
theorem dX10_snow_23 : decode cX10_snow 23 = .ok (.iload_n 3, 1) := by decide +kernel
theorem dX10_snow_24 : decode cX10_snow 24 = .ok (.iconst 0, 1) := by decide +kernel
theorem dX10_snow_25 : decode cX10_snow 25 = .ok (.bipush 10, 2) := by decide +kernel
theorem dX10_snow_27 : decode cX10_snow 27 = .ok (.invokestatic 361, 3) := by decide +kernel
theorem dX10_snow_30 : decode cX10_snow 30 = .ok (.ifCond .eq 7, 3) := by decide +kernel
theorem dX10_snow_33 : decode cX10_snow 33 = .ok (.iconst 1, 1) := by decide +kernel
theorem dX10_snow_34 : decode cX10_snow 34 = .ok (.goto 4, 3) := by decide +kernel
theorem dX10_snow_37 : decode cX10_snow 37 = .ok (.iconst 0, 1) := by decide +kernel
theorem dX10_snow_38 : decode cX10_snow 38 = .ok (.iconst 2, 1) := by decide +kernel
theorem dX10_snow_39 : decode cX10_snow 39 = .ok (.invokevirtual 271, 3) := by decide +kernel
theorem dX10_snow_42 : decode cX10_snow 42 = .ok (.ifCond .ne 5, 3) := by decide +kernel
theorem dX10_snow_45 : decode cX10_snow 45 = .ok (.iconst 0, 1) := by decide +kernel
theorem dX10_snow_46 : decode cX10_snow 46 = .ok (.ireturn, 1) := by decide +kernel
theorem dX10_snow_47 : decode cX10_snow 47 = .ok (.iconst 0, 1) := by decide +kernel
theorem dX10_snow_48 : decode cX10_snow 48 = .ok (.istore 4, 2) := by decide +kernel
theorem dX10_snow_50 : decode cX10_snow 50 = .ok (.iconst 0, 1) := by decide +kernel
theorem dX10_snow_51 : decode cX10_snow 51 = .ok (.istore 5, 2) := by decide +kernel
theorem dX10_snow_53 : decode cX10_snow 53 = .ok (.iload 5, 2) := by decide +kernel
theorem dX10_snow_55 : decode cX10_snow 55 = .ok (.iconst 1, 1) := by decide +kernel
theorem dX10_snow_56 : decode cX10_snow 56 = .ok (.iload_n 2, 1) := by decide +kernel
theorem dX10_snow_57 : decode cX10_snow 57 = .ok (.ishl, 1) := by decide +kernel
theorem dX10_snow_58 : decode cX10_snow 58 = .ok (.if_icmp .ge 110, 3) := by decide +kernel
theorem dX10_snow_61 : decode cX10_snow 61 = .ok (.iconst 1, 1) := by decide +kernel
theorem dX10_snow_62 : decode cX10_snow 62 = .ok (.istore 6, 2) := by decide +kernel
theorem dX10_snow_64 : decode cX10_snow 64 = .ok (.aload_n 0, 1) := by decide +kernel
theorem dX10_snow_65 : decode cX10_snow 65 = .ok (.invokevirtual 388, 3) := by decide +kernel
theorem dX10_snow_68 : decode cX10_snow 68 = .ok (.iconst 0, 1) := by decide +kernel
theorem dX10_snow_69 : decode cX10_snow 69 = .ok (.istore 7, 2) := by decide +kernel
theorem dX10_snow_71 : decode cX10_snow 71 = .ok (.iload 7, 2) := by decide +kernel
theorem dX10_snow_73 : decode cX10_snow 73 = .ok (.iload_n 2, 1) := by decide +kernel
theorem dX10_snow_74 : decode cX10_snow 74 = .ok (.if_icmp .ge 66, 3) := by decide +kernel
theorem dX10_snow_77 : decode cX10_snow 77 = .ok (.iload 5, 2) := by decide +kernel
theorem dX10_snow_79 : decode cX10_snow 79 = .ok (.iload 7, 2) := by decide +kernel
theorem dX10_snow_81 : decode cX10_snow 81 = .ok (.ishr, 1) := by decide +kernel
theorem dX10_snow_82 : decode cX10_snow 82 = .ok (.iconst 1, 1) := by decide +kernel
theorem dX10_snow_83 : decode cX10_snow 83 = .ok (.iand, 1) := by decide +kernel
theorem dX10_snow_84 : decode cX10_snow 84 = .ok (.iconst 1, 1) := by decide +kernel
theorem dX10_snow_85 : decode cX10_snow 85 = .ok (.if_icmp .ne 7, 3) := by decide +kernel
theorem dX10_snow_88 : decode cX10_snow 88 = .ok (.iconst 1, 1) := by decide +kernel
theorem dX10_snow_89 : decode cX10_snow 89 = .ok (.goto 4, 3) := by decide +kernel
theorem dX10_snow_92 : decode cX10_snow 92 = .ok (.iconst 0, 1) := by decide +kernel
theorem dX10_snow_93 : decode cX10_snow 93 = .ok (.istore 8, 2) := by decide +kernel
theorem dX10_snow_95 : decode cX10_snow 95 = .ok (.iload 6, 2) := by decide +kernel
theorem dX10_snow_97 : decode cX10_snow 97 = .ok (.iload 8, 2) := by decide +kernel
theorem dX10_snow_99 : decode cX10_snow 99 = .ok (.ifCond .eq 7, 3) := by decide +kernel
theorem dX10_snow_102 : decode cX10_snow 102 = .ok (.iload_n 3, 1) := by decide +kernel
theorem dX10_snow_103 : decode cX10_snow 103 = .ok (.goto 7, 3) := by decide +kernel
theorem dX10_snow_106 : decode cX10_snow 106 = .ok (.bipush 10, 2) := by decide +kernel
theorem dX10_snow_108 : decode cX10_snow 108 = .ok (.iload_n 3, 1) := by decide +kernel
theorem dX10_snow_109 : decode cX10_snow 109 = .ok (.isub, 1) := by decide +kernel
theorem dX10_snow_110 : decode cX10_snow 110 = .ok (.imul, 1) := by decide +kernel
theorem dX10_snow_111 : decode cX10_snow 111 = .ok (.istore 6, 2) := by decide +kernel
theorem dX10_snow_113 : decode cX10_snow 113 = .ok (.aload_n 0, 1) := by decide +kernel
theorem dX10_snow_114 : decode cX10_snow 114 = .ok (.iload 8, 2) := by decide +kernel
theorem dX10_snow_116 : decode cX10_snow 116 = .ok (.ifCond .eq 8, 3) := by decide +kernel
theorem dX10_snow_119 : decode cX10_snow 119 = .ok (.bipush 15, 2) := by decide +kernel
theorem dX10_snow_121 : decode cX10_snow 121 = .ok (.goto 4, 3) := by decide +kernel
theorem dX10_snow_124 : decode cX10_snow 124 = .ok (.iconst 0, 1) := by decide +kernel
theorem dX10_snow_125 : decode cX10_snow 125 = .ok (.putfield 318, 3) := by decide +kernel
theorem dX10_snow_128 : decode cX10_snow 128 = .ok (.aload_n 0, 1) := by decide +kernel
theorem dX10_snow_129 : decode cX10_snow 129 = .ok (.bipush 33, 2) := by decide +kernel
theorem dX10_snow_131 : decode cX10_snow 131 = .ok (.invokevirtual 358, 3) := by decide +kernel
theorem dX10_snow_134 : decode cX10_snow 134 = .ok (.iinc 7 1, 3) := by decide +kernel
theorem dX10_snow_137 : decode cX10_snow 137 = .ok (.goto (-66), 3) := by decide +kernel
theorem dX10_snow_140 : decode cX10_snow 140 = .ok (.iload 4, 2) := by decide +kernel
theorem dX10_snow_142 : decode cX10_snow 142 = .ok (.aload_n 0, 1) := by decide +kernel
theorem dX10_snow_143 : decode cX10_snow 143 = .ok (.getfield 69, 3) := by decide +kernel
theorem dX10_snow_146 : decode cX10_snow 146 = .ok (.bipush 34, 2) := by decide +kernel
theorem dX10_snow_148 : decode cX10_snow 148 = .ok (.iaload, 1) := by decide +kernel
theorem dX10_snow_149 : decode cX10_snow 149 = .ok (.iload_n 1, 1) := by decide +kernel
theorem dX10_snow_150 : decode cX10_snow 150 = .ok (.if_icmp .ne 8, 3) := by decide +kernel
theorem dX10_snow_153 : decode cX10_snow 153 = .ok (.iload 6, 2) := by decide +kernel
theorem dX10_snow_155 : decode cX10_snow 155 = .ok (.goto 4, 3) := by decide +kernel
theorem dX10_snow_158 : decode cX10_snow 158 = .ok (.iconst 0, 1) := by decide +kernel
theorem dX10_snow_159 : decode cX10_snow 159 = .ok (.iadd, 1) := by decide +kernel
theorem dX10_snow_160 : decode cX10_snow 160 = .ok (.istore 4, 2) := by decide +kernel
theorem dX10_snow_162 : decode cX10_snow 162 = .ok (.iinc 5 1, 3) := by decide +kernel
theorem dX10_snow_165 : decode cX10_snow 165 = .ok (.goto (-112), 3) := by decide +kernel
theorem dX10_snow_168 : decode cX10_snow 168 = .ok (.aload_n 0, 1) := by decide +kernel
theorem dX10_snow_169 : decode cX10_snow 169 = .ok (.iconst 0, 1) := by decide +kernel
theorem dX10_snow_170 : decode cX10_snow 170 = .ok (.putfield 318, 3) := by decide +kernel
theorem dX10_snow_173 : decode cX10_snow 173 = .ok (.iload 4, 2) := by decide +kernel
theorem dX10_snow_175 : decode cX10_snow 175 = .ok (.ireturn, 1) := by decide +kernel
theorem dX10_gains_0 : decode cX10_gains 0 = .ok (.aload_n 0, 1) := by decide +kernel
theorem dX10_gains_1 : decode cX10_gains 1 = .ok (.invokevirtual 388, 3) := by decide +kernel
theorem dX10_gains_4 : decode cX10_gains 4 = .ok (.iload_n 3, 1) := by decide +kernel
theorem dX10_gains_5 : decode cX10_gains 5 = .ok (.iconst 1, 1) := by decide +kernel
theorem dX10_gains_6 : decode cX10_gains 6 = .ok (.if_icmp .ne 29, 3) := by decide +kernel
theorem dX10_gains_9 : decode cX10_gains 9 = .ok (.aload_n 0, 1) := by decide +kernel
theorem dX10_gains_10 : decode cX10_gains 10 = .ok (.getfield 69, 3) := by decide +kernel
theorem dX10_gains_13 : decode cX10_gains 13 = .ok (.bipush 36, 2) := by decide +kernel
theorem dX10_gains_15 : decode cX10_gains 15 = .ok (.iload_n 1, 1) := by decide +kernel
theorem dX10_gains_16 : decode cX10_gains 16 = .ok (.iadd, 1) := by decide +kernel
theorem dX10_gains_17 : decode cX10_gains 17 = .ok (.bipush 60, 2) := by decide +kernel
theorem dX10_gains_19 : decode cX10_gains 19 = .ok (.aload_n 0, 1) := by decide +kernel
theorem dX10_gains_20 : decode cX10_gains 20 = .ok (.getfield 69, 3) := by decide +kernel
theorem dX10_gains_23 : decode cX10_gains 23 = .ok (.bipush 36, 2) := by decide +kernel
theorem dX10_gains_25 : decode cX10_gains 25 = .ok (.iload_n 1, 1) := by decide +kernel
theorem dX10_gains_26 : decode cX10_gains 26 = .ok (.iadd, 1) := by decide +kernel
theorem dX10_gains_27 : decode cX10_gains 27 = .ok (.iaload, 1) := by decide +kernel
theorem dX10_gains_28 : decode cX10_gains 28 = .ok (.bipush 9, 2) := by decide +kernel
theorem dX10_gains_30 : decode cX10_gains 30 = .ok (.iadd, 1) := by decide +kernel
theorem dX10_gains_31 : decode cX10_gains 31 = .ok (.invokestatic 331, 3) := by decide +kernel
theorem dX10_gains_34 : decode cX10_gains 34 = .ok (.iastore, 1) := by decide +kernel
theorem dX10_gains_35 : decode cX10_gains 35 = .ok (.iload 4, 2) := by decide +kernel
theorem dX10_gains_37 : decode cX10_gains 37 = .ok (.iconst 1, 1) := by decide +kernel
theorem dX10_gains_38 : decode cX10_gains 38 = .ok (.if_icmp .ne 29, 3) := by decide +kernel
theorem dX10_gains_41 : decode cX10_gains 41 = .ok (.aload_n 0, 1) := by decide +kernel
theorem dX10_gains_42 : decode cX10_gains 42 = .ok (.getfield 69, 3) := by decide +kernel
theorem dX10_gains_45 : decode cX10_gains 45 = .ok (.bipush 36, 2) := by decide +kernel
theorem dX10_gains_47 : decode cX10_gains 47 = .ok (.iload_n 2, 1) := by decide +kernel
theorem dX10_gains_48 : decode cX10_gains 48 = .ok (.iadd, 1) := by decide +kernel
theorem dX10_gains_49 : decode cX10_gains 49 = .ok (.bipush 60, 2) := by decide +kernel
theorem dX10_gains_51 : decode cX10_gains 51 = .ok (.aload_n 0, 1) := by decide +kernel
theorem dX10_gains_52 : decode cX10_gains 52 = .ok (.getfield 69, 3) := by decide +kernel
theorem dX10_gains_55 : decode cX10_gains 55 = .ok (.bipush 36, 2) := by decide +kernel
theorem dX10_gains_57 : decode cX10_gains 57 = .ok (.iload_n 2, 1) := by decide +kernel
theorem dX10_gains_58 : decode cX10_gains 58 = .ok (.iadd, 1) := by decide +kernel
theorem dX10_gains_59 : decode cX10_gains 59 = .ok (.iaload, 1) := by decide +kernel
theorem dX10_gains_60 : decode cX10_gains 60 = .ok (.bipush 9, 2) := by decide +kernel
theorem dX10_gains_62 : decode cX10_gains 62 = .ok (.iadd, 1) := by decide +kernel
theorem dX10_gains_63 : decode cX10_gains 63 = .ok (.invokestatic 331, 3) := by decide +kernel
theorem dX10_gains_66 : decode cX10_gains 66 = .ok (.iastore, 1) := by decide +kernel
theorem dX10_gains_67 : decode cX10_gains 67 = .ok (.iconst 0, 1) := by decide +kernel
theorem dX10_gains_68 : decode cX10_gains 68 = .ok (.iload_n 3, 1) := by decide +kernel
theorem dX10_gains_69 : decode cX10_gains 69 = .ok (.isub, 1) := by decide +kernel
theorem dX10_gains_70 : decode cX10_gains 70 = .ok (.istore 5, 2) := by decide +kernel
theorem dX10_gains_72 : decode cX10_gains 72 = .ok (.iconst 0, 1) := by decide +kernel
theorem dX10_gains_73 : decode cX10_gains 73 = .ok (.istore 6, 2) := by decide +kernel
theorem dX10_gains_75 : decode cX10_gains 75 = .ok (.iload 6, 2) := by decide +kernel
theorem dX10_gains_77 : decode cX10_gains 77 = .ok (.bipush 8, 2) := by decide +kernel
theorem dX10_gains_79 : decode cX10_gains 79 = .ok (.if_icmp .ge 30, 3) := by decide +kernel
theorem dX10_gains_82 : decode cX10_gains 82 = .ok (.aload_n 0, 1) := by decide +kernel
theorem dX10_gains_83 : decode cX10_gains 83 = .ok (.bipush 33, 2) := by decide +kernel
theorem dX10_gains_85 : decode cX10_gains 85 = .ok (.invokevirtual 358, 3) := by decide +kernel
theorem dX10_gains_88 : decode cX10_gains 88 = .ok (.iload 5, 2) := by decide +kernel
theorem dX10_gains_90 : decode cX10_gains 90 = .ok (.iconst 1, 1) := by decide +kernel
theorem dX10_gains_91 : decode cX10_gains 91 = .ok (.aload_n 0, 1) := by decide +kernel
theorem dX10_gains_92 : decode cX10_gains 92 = .ok (.getfield 334, 3) := by decide +kernel
theorem dX10_gains_95 : decode cX10_gains 95 = .ok (.iload_n 1, 1) := by decide +kernel
theorem dX10_gains_96 : decode cX10_gains 96 = .ok (.ishr, 1) := by decide +kernel
theorem dX10_gains_97 : decode cX10_gains 97 = .ok (.iconst 1, 1) := by decide +kernel
theorem dX10_gains_98 : decode cX10_gains 98 = .ok (.iand, 1) := by decide +kernel
theorem dX10_gains_99 : decode cX10_gains 99 = .ok (.isub, 1) := by decide +kernel
theorem dX10_gains_100 : decode cX10_gains 100 = .ok (.iadd, 1) := by decide +kernel
theorem dX10_gains_101 : decode cX10_gains 101 = .ok (.istore 5, 2) := by decide +kernel
theorem dX10_gains_103 : decode cX10_gains 103 = .ok (.iinc 6 1, 3) := by decide +kernel
theorem dX10_gains_106 : decode cX10_gains 106 = .ok (.goto (-31), 3) := by decide +kernel
theorem dX10_gains_109 : decode cX10_gains 109 = .ok (.iload 5, 2) := by decide +kernel
theorem dX10_gains_111 : decode cX10_gains 111 = .ok (.ireturn, 1) := by decide +kernel
theorem dX10_game_0 : decode cX10_game 0 = .ok (.aload_n 0, 1) := by decide +kernel
theorem dX10_game_1 : decode cX10_game 1 = .ok (.iconst 0, 1) := by decide +kernel
theorem dX10_game_2 : decode cX10_game 2 = .ok (.putfield 120, 3) := by decide +kernel
theorem dX10_game_5 : decode cX10_game 5 = .ok (.aload_n 0, 1) := by decide +kernel
theorem dX10_game_6 : decode cX10_game 6 = .ok (.iload_n 1, 1) := by decide +kernel
theorem dX10_game_7 : decode cX10_game 7 = .ok (.invokevirtual 370, 3) := by decide +kernel
theorem dX10_game_10 : decode cX10_game 10 = .ok (.ifCond .eq 38, 3) := by decide +kernel
theorem dX10_game_13 : decode cX10_game 13 = .ok (.aload_n 0, 1) := by decide +kernel
theorem dX10_game_14 : decode cX10_game 14 = .ok (.iload_n 2, 1) := by decide +kernel
theorem dX10_game_15 : decode cX10_game 15 = .ok (.invokevirtual 370, 3) := by decide +kernel
theorem dX10_game_18 : decode cX10_game 18 = .ok (.ifCond .eq 30, 3) := by decide +kernel
theorem dX10_game_21 : decode cX10_game 21 = .ok (.aload_n 0, 1) := by decide +kernel
theorem dX10_game_22 : decode cX10_game 22 = .ok (.iload_n 3, 1) := by decide +kernel
theorem dX10_game_23 : decode cX10_game 23 = .ok (.iconst 1, 1) := by decide +kernel
theorem dX10_game_24 : decode cX10_game 24 = .ok (.invokevirtual 373, 3) := by decide +kernel
theorem dX10_game_27 : decode cX10_game 27 = .ok (.ifCond .eq 21, 3) := by decide +kernel
theorem dX10_game_30 : decode cX10_game 30 = .ok (.aload_n 0, 1) := by decide +kernel
theorem dX10_game_31 : decode cX10_game 31 = .ok (.iload_n 1, 1) := by decide +kernel
theorem dX10_game_32 : decode cX10_game 32 = .ok (.iload_n 2, 1) := by decide +kernel
theorem dX10_game_33 : decode cX10_game 33 = .ok (.if_icmp .eq 7, 3) := by decide +kernel
theorem dX10_game_36 : decode cX10_game 36 = .ok (.iconst 1, 1) := by decide +kernel
theorem dX10_game_37 : decode cX10_game 37 = .ok (.goto 4, 3) := by decide +kernel
theorem dX10_game_40 : decode cX10_game 40 = .ok (.iconst 0, 1) := by decide +kernel
theorem dX10_game_41 : decode cX10_game 41 = .ok (.iconst 2, 1) := by decide +kernel
theorem dX10_game_42 : decode cX10_game 42 = .ok (.invokevirtual 271, 3) := by decide +kernel
theorem dX10_game_45 : decode cX10_game 45 = .ok (.ifCond .ne 5, 3) := by decide +kernel
theorem dX10_game_48 : decode cX10_game 48 = .ok (.iconst 0, 1) := by decide +kernel
theorem dX10_game_49 : decode cX10_game 49 = .ok (.ireturn, 1) := by decide +kernel
theorem dX10_game_50 : decode cX10_game 50 = .ok (.iconst 0, 1) := by decide +kernel
theorem dX10_game_51 : decode cX10_game 51 = .ok (.istore 4, 2) := by decide +kernel
theorem dX10_game_53 : decode cX10_game 53 = .ok (.iconst (-1), 1) := by decide +kernel
theorem dX10_game_54 : decode cX10_game 54 = .ok (.istore 5, 2) := by decide +kernel
theorem dX10_game_56 : decode cX10_game 56 = .ok (.iconst 0, 1) := by decide +kernel
theorem dX10_game_57 : decode cX10_game 57 = .ok (.istore 6, 2) := by decide +kernel
theorem dX10_game_59 : decode cX10_game 59 = .ok (.iload 6, 2) := by decide +kernel
theorem dX10_game_61 : decode cX10_game 61 = .ok (.iconst 4, 1) := by decide +kernel
theorem dX10_game_62 : decode cX10_game 62 = .ok (.if_icmp .ge 93, 3) := by decide +kernel
theorem dX10_game_65 : decode cX10_game 65 = .ok (.iload 6, 2) := by decide +kernel
theorem dX10_game_67 : decode cX10_game 67 = .ok (.iconst 2, 1) := by decide +kernel
theorem dX10_game_68 : decode cX10_game 68 = .ok (.idiv, 1) := by decide +kernel
theorem dX10_game_69 : decode cX10_game 69 = .ok (.istore 7, 2) := by decide +kernel
theorem dX10_game_71 : decode cX10_game 71 = .ok (.iload 6, 2) := by decide +kernel
theorem dX10_game_73 : decode cX10_game 73 = .ok (.iconst 2, 1) := by decide +kernel
theorem dX10_game_74 : decode cX10_game 74 = .ok (.irem, 1) := by decide +kernel
theorem dX10_game_75 : decode cX10_game 75 = .ok (.istore 8, 2) := by decide +kernel
theorem dX10_game_77 : decode cX10_game 77 = .ok (.aload_n 0, 1) := by decide +kernel
theorem dX10_game_78 : decode cX10_game 78 = .ok (.iload_n 1, 1) := by decide +kernel
theorem dX10_game_79 : decode cX10_game 79 = .ok (.iload_n 2, 1) := by decide +kernel
theorem dX10_game_80 : decode cX10_game 80 = .ok (.iconst 1, 1) := by decide +kernel
theorem dX10_game_81 : decode cX10_game 81 = .ok (.iload 7, 2) := by decide +kernel
theorem dX10_game_83 : decode cX10_game 83 = .ok (.isub, 1) := by decide +kernel
theorem dX10_game_84 : decode cX10_game 84 = .ok (.iload 8, 2) := by decide +kernel
theorem dX10_game_86 : decode cX10_game 86 = .ok (.invokevirtual 415, 3) := by decide +kernel
theorem dX10_game_89 : decode cX10_game 89 = .ok (.aload_n 0, 1) := by decide +kernel
theorem dX10_game_90 : decode cX10_game 90 = .ok (.iload_n 1, 1) := by decide +kernel
theorem dX10_game_91 : decode cX10_game 91 = .ok (.iload_n 2, 1) := by decide +kernel
theorem dX10_game_92 : decode cX10_game 92 = .ok (.iload 7, 2) := by decide +kernel
theorem dX10_game_94 : decode cX10_game 94 = .ok (.iload 8, 2) := by decide +kernel
theorem dX10_game_96 : decode cX10_game 96 = .ok (.invokevirtual 415, 3) := by decide +kernel
theorem dX10_game_99 : decode cX10_game 99 = .ok (.if_icmp .gt 50, 3) := by decide +kernel
theorem dX10_game_102 : decode cX10_game 102 = .ok (.aload_n 0, 1) := by decide +kernel
theorem dX10_game_103 : decode cX10_game 103 = .ok (.iload_n 2, 1) := by decide +kernel
theorem dX10_game_104 : decode cX10_game 104 = .ok (.iload_n 1, 1) := by decide +kernel
theorem dX10_game_105 : decode cX10_game 105 = .ok (.iconst 1, 1) := by decide +kernel
theorem dX10_game_106 : decode cX10_game 106 = .ok (.iload 8, 2) := by decide +kernel
theorem dX10_game_108 : decode cX10_game 108 = .ok (.isub, 1) := by decide +kernel
theorem dX10_game_109 : decode cX10_game 109 = .ok (.iload 7, 2) := by decide +kernel
theorem dX10_game_111 : decode cX10_game 111 = .ok (.invokevirtual 415, 3) := by decide +kernel
theorem dX10_game_114 : decode cX10_game 114 = .ok (.aload_n 0, 1) := by decide +kernel
theorem dX10_game_115 : decode cX10_game 115 = .ok (.iload_n 2, 1) := by decide +kernel
theorem dX10_game_116 : decode cX10_game 116 = .ok (.iload_n 1, 1) := by decide +kernel
theorem dX10_game_117 : decode cX10_game 117 = .ok (.iload 8, 2) := by decide +kernel
theorem dX10_game_119 : decode cX10_game 119 = .ok (.iload 7, 2) := by decide +kernel
theorem dX10_game_121 : decode cX10_game 121 = .ok (.invokevirtual 415, 3) := by decide +kernel
theorem dX10_game_124 : decode cX10_game 124 = .ok (.if_icmp .le 6, 3) := by decide +kernel
theorem dX10_game_127 : decode cX10_game 127 = .ok (.goto 22, 3) := by decide +kernel
theorem dX10_game_130 : decode cX10_game 130 = .ok (.iinc 4 1, 3) := by decide +kernel
theorem dX10_game_133 : decode cX10_game 133 = .ok (.iload 5, 2) := by decide +kernel
theorem dX10_game_135 : decode cX10_game 135 = .ok (.iconst (-1), 1) := by decide +kernel
theorem dX10_game_136 : decode cX10_game 136 = .ok (.if_icmp .ne 13, 3) := by decide +kernel
theorem dX10_game_139 : decode cX10_game 139 = .ok (.bipush 10, 2) := by decide +kernel
theorem dX10_game_141 : decode cX10_game 141 = .ok (.iload 7, 2) := by decide +kernel
theorem dX10_game_143 : decode cX10_game 143 = .ok (.imul, 1) := by decide +kernel
theorem dX10_game_144 : decode cX10_game 144 = .ok (.iload 8, 2) := by decide +kernel
theorem dX10_game_146 : decode cX10_game 146 = .ok (.iadd, 1) := by decide +kernel
theorem dX10_game_147 : decode cX10_game 147 = .ok (.istore 5, 2) := by decide +kernel
theorem dX10_game_149 : decode cX10_game 149 = .ok (.iinc 6 1, 3) := by decide +kernel
theorem dX10_game_152 : decode cX10_game 152 = .ok (.goto (-93), 3) := by decide +kernel
theorem dX10_game_155 : decode cX10_game 155 = .ok (.iload_n 3, 1) := by decide +kernel
theorem dX10_game_156 : decode cX10_game 156 = .ok (.ifCond .ne 8, 3) := by decide +kernel
theorem dX10_game_159 : decode cX10_game 159 = .ok (.iload 4, 2) := by decide +kernel
theorem dX10_game_161 : decode cX10_game 161 = .ok (.goto 5, 3) := by decide +kernel
theorem dX10_game_164 : decode cX10_game 164 = .ok (.iload 5, 2) := by decide +kernel
theorem dX10_game_166 : decode cX10_game 166 = .ok (.ireturn, 1) := by decide +kernel
theorem dX10_draw_0 : decode cX10_draw 0 = .ok (.aload_n 0, 1) := by decide +kernel
theorem dX10_draw_1 : decode cX10_draw 1 = .ok (.aload_n 0, 1) := by decide +kernel
theorem dX10_draw_2 : decode cX10_draw 2 = .ok (.getfield 418, 3) := by decide +kernel
theorem dX10_draw_5 : decode cX10_draw 5 = .ok (.ldc_w 421, 3) := by decide +kernel
theorem dX10_draw_8 : decode cX10_draw 8 = .ok (.imul, 1) := by decide +kernel
theorem dX10_draw_9 : decode cX10_draw 9 = .ok (.sipush 12345, 3) := by decide +kernel
theorem dX10_draw_12 : decode cX10_draw 12 = .ok (.iadd, 1) := by decide +kernel
theorem dX10_draw_13 : decode cX10_draw 13 = .ok (.putfield 418, 3) := by decide +kernel
theorem dX10_draw_16 : decode cX10_draw 16 = .ok (.aload_n 0, 1) := by decide +kernel
theorem dX10_draw_17 : decode cX10_draw 17 = .ok (.getfield 418, 3) := by decide +kernel
theorem dX10_draw_20 : decode cX10_draw 20 = .ok (.bipush 16, 2) := by decide +kernel
theorem dX10_draw_22 : decode cX10_draw 22 = .ok (.ishr, 1) := by decide +kernel
theorem dX10_draw_23 : decode cX10_draw 23 = .ok (.sipush 32767, 3) := by decide +kernel
theorem dX10_draw_26 : decode cX10_draw 26 = .ok (.iand, 1) := by decide +kernel
theorem dX10_draw_27 : decode cX10_draw 27 = .ok (.iload_n 1, 1) := by decide +kernel
theorem dX10_draw_28 : decode cX10_draw 28 = .ok (.irem, 1) := by decide +kernel
theorem dX10_draw_29 : decode cX10_draw 29 = .ok (.ireturn, 1) := by decide +kernel
theorem dX10_happens_0 : decode cX10_happens 0 = .ok (.aload_n 0, 1) := by decide +kernel
theorem dX10_happens_1 : decode cX10_happens 1 = .ok (.aload_n 0, 1) := by decide +kernel
theorem dX10_happens_2 : decode cX10_happens 2 = .ok (.getfield 278, 3) := by decide +kernel
theorem dX10_happens_5 : decode cX10_happens 5 = .ok (.invokevirtual 422, 3) := by decide +kernel
theorem dX10_happens_8 : decode cX10_happens 8 = .ok (.istore_n 1, 1) := by decide +kernel
theorem dX10_happens_9 : decode cX10_happens 9 = .ok (.aload_n 0, 1) := by decide +kernel
theorem dX10_happens_10 : decode cX10_happens 10 = .ok (.iconst 5, 1) := by decide +kernel
theorem dX10_happens_11 : decode cX10_happens 11 = .ok (.invokevirtual 422, 3) := by decide +kernel
theorem dX10_happens_14 : decode cX10_happens 14 = .ok (.istore_n 2, 1) := by decide +kernel
theorem dX10_happens_15 : decode cX10_happens 15 = .ok (.iload_n 2, 1) := by decide +kernel
theorem dX10_happens_16 : decode cX10_happens 16 = .ok (.ifCond .ne 19, 3) := by decide +kernel
theorem dX10_happens_19 : decode cX10_happens 19 = .ok (.aload_n 0, 1) := by decide +kernel
theorem dX10_happens_20 : decode cX10_happens 20 = .ok (.getfield 69, 3) := by decide +kernel
theorem dX10_happens_23 : decode cX10_happens 23 = .ok (.bipush 35, 2) := by decide +kernel
theorem dX10_happens_25 : decode cX10_happens 25 = .ok (.dup2, 1) := by decide +kernel
theorem dX10_happens_26 : decode cX10_happens 26 = .ok (.iaload, 1) := by decide +kernel
theorem dX10_happens_27 : decode cX10_happens 27 = .ok (.iconst 1, 1) := by decide +kernel
theorem dX10_happens_28 : decode cX10_happens 28 = .ok (.iload_n 1, 1) := by decide +kernel
theorem dX10_happens_29 : decode cX10_happens 29 = .ok (.ishl, 1) := by decide +kernel
theorem dX10_happens_30 : decode cX10_happens 30 = .ok (.ixor, 1) := by decide +kernel
theorem dX10_happens_31 : decode cX10_happens 31 = .ok (.iastore, 1) := by decide +kernel
theorem dX10_happens_32 : decode cX10_happens 32 = .ok (.goto 34, 3) := by decide +kernel
theorem dX10_happens_35 : decode cX10_happens 35 = .ok (.iload_n 2, 1) := by decide +kernel
theorem dX10_happens_36 : decode cX10_happens 36 = .ok (.iconst 1, 1) := by decide +kernel
theorem dX10_happens_37 : decode cX10_happens 37 = .ok (.if_icmp .ne 16, 3) := by decide +kernel
theorem dX10_happens_40 : decode cX10_happens 40 = .ok (.aload_n 0, 1) := by decide +kernel
theorem dX10_happens_41 : decode cX10_happens 41 = .ok (.getfield 69, 3) := by decide +kernel
theorem dX10_happens_44 : decode cX10_happens 44 = .ok (.bipush 36, 2) := by decide +kernel
theorem dX10_happens_46 : decode cX10_happens 46 = .ok (.iload_n 1, 1) := by decide +kernel
theorem dX10_happens_47 : decode cX10_happens 47 = .ok (.iadd, 1) := by decide +kernel
theorem dX10_happens_48 : decode cX10_happens 48 = .ok (.iconst 0, 1) := by decide +kernel
theorem dX10_happens_49 : decode cX10_happens 49 = .ok (.iastore, 1) := by decide +kernel
theorem dX10_happens_50 : decode cX10_happens 50 = .ok (.goto 16, 3) := by decide +kernel
theorem dX10_happens_53 : decode cX10_happens 53 = .ok (.iload_n 2, 1) := by decide +kernel
theorem dX10_happens_54 : decode cX10_happens 54 = .ok (.iconst 2, 1) := by decide +kernel
theorem dX10_happens_55 : decode cX10_happens 55 = .ok (.if_icmp .ne 11, 3) := by decide +kernel
theorem dX10_happens_58 : decode cX10_happens 58 = .ok (.aload_n 0, 1) := by decide +kernel
theorem dX10_happens_59 : decode cX10_happens 59 = .ok (.getfield 69, 3) := by decide +kernel
theorem dX10_happens_62 : decode cX10_happens 62 = .ok (.bipush 34, 2) := by decide +kernel
theorem dX10_happens_64 : decode cX10_happens 64 = .ok (.iload_n 1, 1) := by decide +kernel
theorem dX10_happens_65 : decode cX10_happens 65 = .ok (.iastore, 1) := by decide +kernel
theorem dX10_happens_66 : decode cX10_happens 66 = .ok (.return_, 1) := by decide +kernel
theorem dX10_years_0 : decode cX10_years 0 = .ok (.aload_n 0, 1) := by decide +kernel
theorem dX10_years_1 : decode cX10_years 1 = .ok (.iconst 0, 1) := by decide +kernel
theorem dX10_years_2 : decode cX10_years 2 = .ok (.putfield 120, 3) := by decide +kernel
theorem dX10_years_5 : decode cX10_years 5 = .ok (.aload_n 0, 1) := by decide +kernel
theorem dX10_years_6 : decode cX10_years 6 = .ok (.iload_n 3, 1) := by decide +kernel
theorem dX10_years_7 : decode cX10_years 7 = .ok (.iconst 2, 1) := by decide +kernel
theorem dX10_years_8 : decode cX10_years 8 = .ok (.invokevirtual 373, 3) := by decide +kernel
theorem dX10_years_11 : decode cX10_years 11 = .ok (.ifCond .eq 13, 3) := by decide +kernel
theorem dX10_years_14 : decode cX10_years 14 = .ok (.aload_n 0, 1) := by decide +kernel
theorem dX10_years_15 : decode cX10_years 15 = .ok (.iload_n 2, 1) := by decide +kernel
theorem dX10_years_16 : decode cX10_years 16 = .ok (.iconst 0, 1) := by decide +kernel
theorem dX10_years_17 : decode cX10_years 17 = .ok (.iconst 2, 1) := by decide +kernel
theorem dX10_years_18 : decode cX10_years 18 = .ok (.invokevirtual 394, 3) := by decide +kernel
theorem dX10_years_21 : decode cX10_years 21 = .ok (.ifCond .ne 5, 3) := by decide +kernel
theorem dX10_years_24 : decode cX10_years 24 = .ok (.iconst 0, 1) := by decide +kernel
theorem dX10_years_25 : decode cX10_years 25 = .ok (.ireturn, 1) := by decide +kernel
theorem dX10_years_26 : decode cX10_years 26 = .ok (.aload_n 0, 1) := by decide +kernel
theorem dX10_years_27 : decode cX10_years 27 = .ok (.invokevirtual 388, 3) := by decide +kernel
theorem dX10_years_30 : decode cX10_years 30 = .ok (.aload_n 0, 1) := by decide +kernel
theorem dX10_years_31 : decode cX10_years 31 = .ok (.iload_n 1, 1) := by decide +kernel
theorem dX10_years_32 : decode cX10_years 32 = .ok (.putfield 418, 3) := by decide +kernel
theorem dX10_years_35 : decode cX10_years 35 = .ok (.iconst 0, 1) := by decide +kernel
theorem dX10_years_36 : decode cX10_years 36 = .ok (.istore 4, 2) := by decide +kernel
theorem dX10_years_38 : decode cX10_years 38 = .ok (.iconst 0, 1) := by decide +kernel
theorem dX10_years_39 : decode cX10_years 39 = .ok (.istore 5, 2) := by decide +kernel
theorem dX10_years_41 : decode cX10_years 41 = .ok (.iload 5, 2) := by decide +kernel
theorem dX10_years_43 : decode cX10_years 43 = .ok (.iload_n 2, 1) := by decide +kernel
theorem dX10_years_44 : decode cX10_years 44 = .ok (.if_icmp .ge 35, 3) := by decide +kernel
theorem dX10_years_47 : decode cX10_years 47 = .ok (.aload_n 0, 1) := by decide +kernel
theorem dX10_years_48 : decode cX10_years 48 = .ok (.getfield 278, 3) := by decide +kernel
theorem dX10_years_51 : decode cX10_years 51 = .ok (.ifCond .le 7, 3) := by decide +kernel
theorem dX10_years_54 : decode cX10_years 54 = .ok (.aload_n 0, 1) := by decide +kernel
theorem dX10_years_55 : decode cX10_years 55 = .ok (.invokevirtual 425, 3) := by decide +kernel
theorem dX10_years_58 : decode cX10_years 58 = .ok (.aload_n 0, 1) := by decide +kernel
theorem dX10_years_59 : decode cX10_years 59 = .ok (.bipush 33, 2) := by decide +kernel
theorem dX10_years_61 : decode cX10_years 61 = .ok (.invokevirtual 358, 3) := by decide +kernel
theorem dX10_years_64 : decode cX10_years 64 = .ok (.iload 4, 2) := by decide +kernel
theorem dX10_years_66 : decode cX10_years 66 = .ok (.aload_n 0, 1) := by decide +kernel
theorem dX10_years_67 : decode cX10_years 67 = .ok (.getfield 337, 3) := by decide +kernel
theorem dX10_years_70 : decode cX10_years 70 = .ok (.iadd, 1) := by decide +kernel
theorem dX10_years_71 : decode cX10_years 71 = .ok (.istore 4, 2) := by decide +kernel
theorem dX10_years_73 : decode cX10_years 73 = .ok (.iinc 5 1, 3) := by decide +kernel
theorem dX10_years_76 : decode cX10_years 76 = .ok (.goto (-35), 3) := by decide +kernel
theorem dX10_years_79 : decode cX10_years 79 = .ok (.iconst (-1), 1) := by decide +kernel
theorem dX10_years_80 : decode cX10_years 80 = .ok (.istore 5, 2) := by decide +kernel
theorem dX10_years_82 : decode cX10_years 82 = .ok (.iconst 0, 1) := by decide +kernel
theorem dX10_years_83 : decode cX10_years 83 = .ok (.istore 6, 2) := by decide +kernel
theorem dX10_years_85 : decode cX10_years 85 = .ok (.iload 6, 2) := by decide +kernel
theorem dX10_years_87 : decode cX10_years 87 = .ok (.aload_n 0, 1) := by decide +kernel
theorem dX10_years_88 : decode cX10_years 88 = .ok (.getfield 278, 3) := by decide +kernel
theorem dX10_years_91 : decode cX10_years 91 = .ok (.if_icmp .ge 42, 3) := by decide +kernel
theorem dX10_years_94 : decode cX10_years 94 = .ok (.iload 5, 2) := by decide +kernel
theorem dX10_years_96 : decode cX10_years 96 = .ok (.iconst (-1), 1) := by decide +kernel
theorem dX10_years_97 : decode cX10_years 97 = .ok (.if_icmp .eq 26, 3) := by decide +kernel
theorem dX10_years_100 : decode cX10_years 100 = .ok (.aload_n 0, 1) := by decide +kernel
theorem dX10_years_101 : decode cX10_years 101 = .ok (.getfield 69, 3) := by decide +kernel
theorem dX10_years_104 : decode cX10_years 104 = .ok (.bipush 52, 2) := by decide +kernel
theorem dX10_years_106 : decode cX10_years 106 = .ok (.iload 6, 2) := by decide +kernel
theorem dX10_years_108 : decode cX10_years 108 = .ok (.iadd, 1) := by decide +kernel
theorem dX10_years_109 : decode cX10_years 109 = .ok (.iaload, 1) := by decide +kernel
theorem dX10_years_110 : decode cX10_years 110 = .ok (.aload_n 0, 1) := by decide +kernel
theorem dX10_years_111 : decode cX10_years 111 = .ok (.getfield 69, 3) := by decide +kernel
theorem dX10_years_114 : decode cX10_years 114 = .ok (.bipush 52, 2) := by decide +kernel
theorem dX10_years_116 : decode cX10_years 116 = .ok (.iload 5, 2) := by decide +kernel
theorem dX10_years_118 : decode cX10_years 118 = .ok (.iadd, 1) := by decide +kernel
theorem dX10_years_119 : decode cX10_years 119 = .ok (.iaload, 1) := by decide +kernel
theorem dX10_years_120 : decode cX10_years 120 = .ok (.if_icmp .le 7, 3) := by decide +kernel
theorem dX10_years_123 : decode cX10_years 123 = .ok (.iload 6, 2) := by decide +kernel
theorem dX10_years_125 : decode cX10_years 125 = .ok (.istore 5, 2) := by decide +kernel
theorem dX10_years_127 : decode cX10_years 127 = .ok (.iinc 6 1, 3) := by decide +kernel
theorem dX10_years_130 : decode cX10_years 130 = .ok (.goto (-45), 3) := by decide +kernel
theorem dX10_years_133 : decode cX10_years 133 = .ok (.iload_n 3, 1) := by decide +kernel
theorem dX10_years_134 : decode cX10_years 134 = .ok (.ifCond .ne 8, 3) := by decide +kernel
theorem dX10_years_137 : decode cX10_years 137 = .ok (.iload 5, 2) := by decide +kernel
theorem dX10_years_139 : decode cX10_years 139 = .ok (.goto 19, 3) := by decide +kernel
theorem dX10_years_142 : decode cX10_years 142 = .ok (.iload_n 3, 1) := by decide +kernel
theorem dX10_years_143 : decode cX10_years 143 = .ok (.iconst 1, 1) := by decide +kernel
theorem dX10_years_144 : decode cX10_years 144 = .ok (.if_icmp .ne 8, 3) := by decide +kernel
theorem dX10_years_147 : decode cX10_years 147 = .ok (.iload 4, 2) := by decide +kernel
theorem dX10_years_149 : decode cX10_years 149 = .ok (.goto 9, 3) := by decide +kernel
theorem dX10_years_152 : decode cX10_years 152 = .ok (.aload_n 0, 1) := by decide +kernel
theorem dX10_years_153 : decode cX10_years 153 = .ok (.bipush 33, 2) := by decide +kernel
theorem dX10_years_155 : decode cX10_years 155 = .ok (.invokevirtual 364, 3) := by decide +kernel
theorem dX10_years_158 : decode cX10_years 158 = .ok (.ireturn, 1) := by decide +kernel
theorem dX10_coming_0 : decode cX10_coming 0 = .ok (.aload_n 0, 1) := by decide +kernel
theorem dX10_coming_1 : decode cX10_coming 1 = .ok (.iconst 0, 1) := by decide +kernel
theorem dX10_coming_2 : decode cX10_coming 2 = .ok (.putfield 120, 3) := by decide +kernel
theorem dX10_coming_5 : decode cX10_coming 5 = .ok (.aload_n 0, 1) := by decide +kernel
theorem dX10_coming_6 : decode cX10_coming 6 = .ok (.iload_n 1, 1) := by decide +kernel
theorem dX10_coming_7 : decode cX10_coming 7 = .ok (.invokevirtual 376, 3) := by decide +kernel
theorem dX10_coming_10 : decode cX10_coming 10 = .ok (.ifCond .eq 29, 3) := by decide +kernel
theorem dX10_coming_13 : decode cX10_coming 13 = .ok (.aload_n 0, 1) := by decide +kernel
theorem dX10_coming_14 : decode cX10_coming 14 = .ok (.iload_n 2, 1) := by decide +kernel
theorem dX10_coming_15 : decode cX10_coming 15 = .ok (.ifCond .lt 7, 3) := by decide +kernel
theorem dX10_coming_18 : decode cX10_coming 18 = .ok (.iconst 1, 1) := by decide +kernel
theorem dX10_coming_19 : decode cX10_coming 19 = .ok (.goto 4, 3) := by decide +kernel
theorem dX10_coming_22 : decode cX10_coming 22 = .ok (.iconst 0, 1) := by decide +kernel
theorem dX10_coming_23 : decode cX10_coming 23 = .ok (.iconst 1, 1) := by decide +kernel
theorem dX10_coming_24 : decode cX10_coming 24 = .ok (.invokevirtual 271, 3) := by decide +kernel
theorem dX10_coming_27 : decode cX10_coming 27 = .ok (.ifCond .eq 12, 3) := by decide +kernel
theorem dX10_coming_30 : decode cX10_coming 30 = .ok (.aload_n 0, 1) := by decide +kernel
theorem dX10_coming_31 : decode cX10_coming 31 = .ok (.iload_n 3, 1) := by decide +kernel
theorem dX10_coming_32 : decode cX10_coming 32 = .ok (.iconst 1, 1) := by decide +kernel
theorem dX10_coming_33 : decode cX10_coming 33 = .ok (.invokevirtual 373, 3) := by decide +kernel
theorem dX10_coming_36 : decode cX10_coming 36 = .ok (.ifCond .ne 5, 3) := by decide +kernel
theorem dX10_coming_39 : decode cX10_coming 39 = .ok (.iconst 0, 1) := by decide +kernel
theorem dX10_coming_40 : decode cX10_coming 40 = .ok (.ireturn, 1) := by decide +kernel
theorem dX10_coming_41 : decode cX10_coming 41 = .ok (.aload_n 0, 1) := by decide +kernel
theorem dX10_coming_42 : decode cX10_coming 42 = .ok (.iconst 1, 1) := by decide +kernel
theorem dX10_coming_43 : decode cX10_coming 43 = .ok (.invokevirtual 397, 3) := by decide +kernel
theorem dX10_coming_46 : decode cX10_coming 46 = .ok (.iconst 0, 1) := by decide +kernel
theorem dX10_coming_47 : decode cX10_coming 47 = .ok (.istore 4, 2) := by decide +kernel
theorem dX10_coming_49 : decode cX10_coming 49 = .ok (.iload 4, 2) := by decide +kernel
theorem dX10_coming_51 : decode cX10_coming 51 = .ok (.aload_n 0, 1) := by decide +kernel
theorem dX10_coming_52 : decode cX10_coming 52 = .ok (.getfield 278, 3) := by decide +kernel
theorem dX10_coming_55 : decode cX10_coming 55 = .ok (.if_icmp .ge 187, 3) := by decide +kernel
theorem dX10_coming_58 : decode cX10_coming 58 = .ok (.aload_n 0, 1) := by decide +kernel
theorem dX10_coming_59 : decode cX10_coming 59 = .ok (.iconst 0, 1) := by decide +kernel
theorem dX10_coming_60 : decode cX10_coming 60 = .ok (.iload 4, 2) := by decide +kernel
theorem dX10_coming_62 : decode cX10_coming 62 = .ok (.invokevirtual 340, 3) := by decide +kernel
theorem dX10_coming_65 : decode cX10_coming 65 = .ok (.ifCond .ne 6, 3) := by decide +kernel
theorem dX10_coming_68 : decode cX10_coming 68 = .ok (.goto 168, 3) := by decide +kernel
theorem dX10_coming_71 : decode cX10_coming 71 = .ok (.iconst 0, 1) := by decide +kernel
theorem dX10_coming_72 : decode cX10_coming 72 = .ok (.istore 5, 2) := by decide +kernel
theorem dX10_coming_74 : decode cX10_coming 74 = .ok (.iconst 0, 1) := by decide +kernel
theorem dX10_coming_75 : decode cX10_coming 75 = .ok (.istore 6, 2) := by decide +kernel
theorem dX10_coming_77 : decode cX10_coming 77 = .ok (.iload 6, 2) := by decide +kernel
theorem dX10_coming_79 : decode cX10_coming 79 = .ok (.aload_n 0, 1) := by decide +kernel
theorem dX10_coming_80 : decode cX10_coming 80 = .ok (.getfield 278, 3) := by decide +kernel
theorem dX10_coming_83 : decode cX10_coming 83 = .ok (.if_icmp .ge 125, 3) := by decide +kernel
theorem dX10_coming_86 : decode cX10_coming 86 = .ok (.iload 6, 2) := by decide +kernel
theorem dX10_coming_88 : decode cX10_coming 88 = .ok (.iload 4, 2) := by decide +kernel
theorem dX10_coming_90 : decode cX10_coming 90 = .ok (.if_icmp .eq 112, 3) := by decide +kernel
theorem dX10_coming_93 : decode cX10_coming 93 = .ok (.aload_n 0, 1) := by decide +kernel
theorem dX10_coming_94 : decode cX10_coming 94 = .ok (.iconst 0, 1) := by decide +kernel
theorem dX10_coming_95 : decode cX10_coming 95 = .ok (.iload 6, 2) := by decide +kernel
theorem dX10_coming_97 : decode cX10_coming 97 = .ok (.invokevirtual 340, 3) := by decide +kernel
theorem dX10_coming_100 : decode cX10_coming 100 = .ok (.ifCond .ne 6, 3) := by decide +kernel
theorem dX10_coming_103 : decode cX10_coming 103 = .ok (.goto 99, 3) := by decide +kernel
theorem dX10_coming_106 : decode cX10_coming 106 = .ok (.aload_n 0, 1) := by decide +kernel
theorem dX10_coming_107 : decode cX10_coming 107 = .ok (.getfield 87, 3) := by decide +kernel
theorem dX10_coming_110 : decode cX10_coming 110 = .ok (.bipush 8, 2) := by decide +kernel
theorem dX10_coming_112 : decode cX10_coming 112 = .ok (.iload_n 1, 1) := by decide +kernel
theorem dX10_coming_113 : decode cX10_coming 113 = .ok (.imul, 1) := by decide +kernel
theorem dX10_coming_114 : decode cX10_coming 114 = .ok (.iload 6, 2) := by decide +kernel
theorem dX10_coming_116 : decode cX10_coming 116 = .ok (.iadd, 1) := by decide +kernel
theorem dX10_coming_117 : decode cX10_coming 117 = .ok (.iaload, 1) := by decide +kernel
theorem dX10_coming_118 : decode cX10_coming 118 = .ok (.aload_n 0, 1) := by decide +kernel
theorem dX10_coming_119 : decode cX10_coming 119 = .ok (.getfield 87, 3) := by decide +kernel
theorem dX10_coming_122 : decode cX10_coming 122 = .ok (.bipush 8, 2) := by decide +kernel
theorem dX10_coming_124 : decode cX10_coming 124 = .ok (.iload_n 1, 1) := by decide +kernel
theorem dX10_coming_125 : decode cX10_coming 125 = .ok (.imul, 1) := by decide +kernel
theorem dX10_coming_126 : decode cX10_coming 126 = .ok (.iload 4, 2) := by decide +kernel
theorem dX10_coming_128 : decode cX10_coming 128 = .ok (.iadd, 1) := by decide +kernel
theorem dX10_coming_129 : decode cX10_coming 129 = .ok (.iaload, 1) := by decide +kernel
theorem dX10_coming_130 : decode cX10_coming 130 = .ok (.if_icmp .ne 7, 3) := by decide +kernel
theorem dX10_coming_133 : decode cX10_coming 133 = .ok (.iconst 1, 1) := by decide +kernel
theorem dX10_coming_134 : decode cX10_coming 134 = .ok (.goto 4, 3) := by decide +kernel
theorem dX10_coming_137 : decode cX10_coming 137 = .ok (.iconst 0, 1) := by decide +kernel
theorem dX10_coming_138 : decode cX10_coming 138 = .ok (.istore 7, 2) := by decide +kernel
theorem dX10_coming_140 : decode cX10_coming 140 = .ok (.iload 5, 2) := by decide +kernel
theorem dX10_coming_142 : decode cX10_coming 142 = .ok (.iload 7, 2) := by decide +kernel
theorem dX10_coming_144 : decode cX10_coming 144 = .ok (.ifCond .eq 23, 3) := by decide +kernel
theorem dX10_coming_147 : decode cX10_coming 147 = .ok (.aload_n 0, 1) := by decide +kernel
theorem dX10_coming_148 : decode cX10_coming 148 = .ok (.iload_n 1, 1) := by decide +kernel
theorem dX10_coming_149 : decode cX10_coming 149 = .ok (.iload 6, 2) := by decide +kernel
theorem dX10_coming_151 : decode cX10_coming 151 = .ok (.iload 4, 2) := by decide +kernel
theorem dX10_coming_153 : decode cX10_coming 153 = .ok (.invokevirtual 347, 3) := by decide +kernel
theorem dX10_coming_156 : decode cX10_coming 156 = .ok (.ifCond .eq 7, 3) := by decide +kernel
theorem dX10_coming_159 : decode cX10_coming 159 = .ok (.iconst 1, 1) := by decide +kernel
theorem dX10_coming_160 : decode cX10_coming 160 = .ok (.goto 39, 3) := by decide +kernel
theorem dX10_coming_163 : decode cX10_coming 163 = .ok (.iconst 0, 1) := by decide +kernel
theorem dX10_coming_164 : decode cX10_coming 164 = .ok (.goto 35, 3) := by decide +kernel
theorem dX10_coming_167 : decode cX10_coming 167 = .ok (.aload_n 0, 1) := by decide +kernel
theorem dX10_coming_168 : decode cX10_coming 168 = .ok (.getfield 87, 3) := by decide +kernel
theorem dX10_coming_171 : decode cX10_coming 171 = .ok (.bipush 8, 2) := by decide +kernel
theorem dX10_coming_173 : decode cX10_coming 173 = .ok (.iload_n 1, 1) := by decide +kernel
theorem dX10_coming_174 : decode cX10_coming 174 = .ok (.imul, 1) := by decide +kernel
theorem dX10_coming_175 : decode cX10_coming 175 = .ok (.iload 6, 2) := by decide +kernel
theorem dX10_coming_177 : decode cX10_coming 177 = .ok (.iadd, 1) := by decide +kernel
theorem dX10_coming_178 : decode cX10_coming 178 = .ok (.iaload, 1) := by decide +kernel
theorem dX10_coming_179 : decode cX10_coming 179 = .ok (.aload_n 0, 1) := by decide +kernel
theorem dX10_coming_180 : decode cX10_coming 180 = .ok (.getfield 87, 3) := by decide +kernel
theorem dX10_coming_183 : decode cX10_coming 183 = .ok (.bipush 8, 2) := by decide +kernel
theorem dX10_coming_185 : decode cX10_coming 185 = .ok (.iload_n 1, 1) := by decide +kernel
theorem dX10_coming_186 : decode cX10_coming 186 = .ok (.imul, 1) := by decide +kernel
theorem dX10_coming_187 : decode cX10_coming 187 = .ok (.iload 4, 2) := by decide +kernel
theorem dX10_coming_189 : decode cX10_coming 189 = .ok (.iadd, 1) := by decide +kernel
theorem dX10_coming_190 : decode cX10_coming 190 = .ok (.iaload, 1) := by decide +kernel
theorem dX10_coming_191 : decode cX10_coming 191 = .ok (.if_icmp .ge 7, 3) := by decide +kernel
theorem dX10_coming_194 : decode cX10_coming 194 = .ok (.iconst 1, 1) := by decide +kernel
theorem dX10_coming_195 : decode cX10_coming 195 = .ok (.goto 4, 3) := by decide +kernel
theorem dX10_coming_198 : decode cX10_coming 198 = .ok (.iconst 0, 1) := by decide +kernel
theorem dX10_coming_199 : decode cX10_coming 199 = .ok (.iadd, 1) := by decide +kernel
theorem dX10_coming_200 : decode cX10_coming 200 = .ok (.istore 5, 2) := by decide +kernel
theorem dX10_coming_202 : decode cX10_coming 202 = .ok (.iinc 6 1, 3) := by decide +kernel
theorem dX10_coming_205 : decode cX10_coming 205 = .ok (.goto (-128), 3) := by decide +kernel
theorem dX10_coming_208 : decode cX10_coming 208 = .ok (.iload 5, 2) := by decide +kernel
theorem dX10_coming_210 : decode cX10_coming 210 = .ok (.iload_n 2, 1) := by decide +kernel
theorem dX10_coming_211 : decode cX10_coming 211 = .ok (.if_icmp .ne 25, 3) := by decide +kernel
theorem dX10_coming_214 : decode cX10_coming 214 = .ok (.iload_n 3, 1) := by decide +kernel
theorem dX10_coming_215 : decode cX10_coming 215 = .ok (.ifCond .ne 8, 3) := by decide +kernel
theorem dX10_coming_218 : decode cX10_coming 218 = .ok (.iload 4, 2) := by decide +kernel
theorem dX10_coming_220 : decode cX10_coming 220 = .ok (.goto 15, 3) := by decide +kernel
theorem dX10_coming_223 : decode cX10_coming 223 = .ok (.aload_n 0, 1) := by decide +kernel
theorem dX10_coming_224 : decode cX10_coming 224 = .ok (.getfield 87, 3) := by decide +kernel
theorem dX10_coming_227 : decode cX10_coming 227 = .ok (.bipush 8, 2) := by decide +kernel
theorem dX10_coming_229 : decode cX10_coming 229 = .ok (.iload_n 1, 1) := by decide +kernel
theorem dX10_coming_230 : decode cX10_coming 230 = .ok (.imul, 1) := by decide +kernel
theorem dX10_coming_231 : decode cX10_coming 231 = .ok (.iload 4, 2) := by decide +kernel
theorem dX10_coming_233 : decode cX10_coming 233 = .ok (.iadd, 1) := by decide +kernel
theorem dX10_coming_234 : decode cX10_coming 234 = .ok (.iaload, 1) := by decide +kernel
theorem dX10_coming_235 : decode cX10_coming 235 = .ok (.ireturn, 1) := by decide +kernel
theorem dX10_coming_236 : decode cX10_coming 236 = .ok (.iinc 4 1, 3) := by decide +kernel
theorem dX10_coming_239 : decode cX10_coming 239 = .ok (.goto (-190), 3) := by decide +kernel
theorem dX10_coming_242 : decode cX10_coming 242 = .ok (.iconst (-1), 1) := by decide +kernel
theorem dX10_coming_243 : decode cX10_coming 243 = .ok (.ireturn, 1) := by decide +kernel
theorem dX10_spread_0 : decode cX10_spread 0 = .ok (.aload_n 0, 1) := by decide +kernel
theorem dX10_spread_1 : decode cX10_spread 1 = .ok (.iconst 0, 1) := by decide +kernel
theorem dX10_spread_2 : decode cX10_spread 2 = .ok (.putfield 120, 3) := by decide +kernel
theorem dX10_spread_5 : decode cX10_spread 5 = .ok (.aload_n 0, 1) := by decide +kernel
theorem dX10_spread_6 : decode cX10_spread 6 = .ok (.iload_n 1, 1) := by decide +kernel
theorem dX10_spread_7 : decode cX10_spread 7 = .ok (.invokevirtual 376, 3) := by decide +kernel
theorem dX10_spread_10 : decode cX10_spread 10 = .ok (.ifCond .ne 5, 3) := by decide +kernel
theorem dX10_spread_13 : decode cX10_spread 13 = .ok (.iconst 0, 1) := by decide +kernel
theorem dX10_spread_14 : decode cX10_spread 14 = .ok (.ireturn, 1) := by decide +kernel
theorem dX10_spread_15 : decode cX10_spread 15 = .ok (.aload_n 0, 1) := by decide +kernel
theorem dX10_spread_16 : decode cX10_spread 16 = .ok (.iconst 1, 1) := by decide +kernel
theorem dX10_spread_17 : decode cX10_spread 17 = .ok (.invokevirtual 397, 3) := by decide +kernel
theorem dX10_spread_20 : decode cX10_spread 20 = .ok (.iconst (-1), 1) := by decide +kernel
theorem dX10_spread_21 : decode cX10_spread 21 = .ok (.istore_n 2, 1) := by decide +kernel
theorem dX10_spread_22 : decode cX10_spread 22 = .ok (.ldc_w 311, 3) := by decide +kernel
theorem dX10_spread_25 : decode cX10_spread 25 = .ok (.istore_n 3, 1) := by decide +kernel
theorem dX10_spread_26 : decode cX10_spread 26 = .ok (.iconst 0, 1) := by decide +kernel
theorem dX10_spread_27 : decode cX10_spread 27 = .ok (.istore 4, 2) := by decide +kernel
theorem dX10_spread_29 : decode cX10_spread 29 = .ok (.iload 4, 2) := by decide +kernel
theorem dX10_spread_31 : decode cX10_spread 31 = .ok (.aload_n 0, 1) := by decide +kernel
theorem dX10_spread_32 : decode cX10_spread 32 = .ok (.getfield 278, 3) := by decide +kernel
theorem dX10_spread_35 : decode cX10_spread 35 = .ok (.if_icmp .ge 52, 3) := by decide +kernel
theorem dX10_spread_38 : decode cX10_spread 38 = .ok (.aload_n 0, 1) := by decide +kernel
theorem dX10_spread_39 : decode cX10_spread 39 = .ok (.getfield 87, 3) := by decide +kernel
theorem dX10_spread_42 : decode cX10_spread 42 = .ok (.bipush 8, 2) := by decide +kernel
theorem dX10_spread_44 : decode cX10_spread 44 = .ok (.iload_n 1, 1) := by decide +kernel
theorem dX10_spread_45 : decode cX10_spread 45 = .ok (.imul, 1) := by decide +kernel
theorem dX10_spread_46 : decode cX10_spread 46 = .ok (.iload 4, 2) := by decide +kernel
theorem dX10_spread_48 : decode cX10_spread 48 = .ok (.iadd, 1) := by decide +kernel
theorem dX10_spread_49 : decode cX10_spread 49 = .ok (.iaload, 1) := by decide +kernel
theorem dX10_spread_50 : decode cX10_spread 50 = .ok (.istore 5, 2) := by decide +kernel
theorem dX10_spread_52 : decode cX10_spread 52 = .ok (.iload 5, 2) := by decide +kernel
theorem dX10_spread_54 : decode cX10_spread 54 = .ok (.iconst (-1), 1) := by decide +kernel
theorem dX10_spread_55 : decode cX10_spread 55 = .ok (.if_icmp .ne 6, 3) := by decide +kernel
theorem dX10_spread_58 : decode cX10_spread 58 = .ok (.goto 23, 3) := by decide +kernel
theorem dX10_spread_61 : decode cX10_spread 61 = .ok (.iload 5, 2) := by decide +kernel
theorem dX10_spread_63 : decode cX10_spread 63 = .ok (.iload_n 2, 1) := by decide +kernel
theorem dX10_spread_64 : decode cX10_spread 64 = .ok (.if_icmp .le 8, 3) := by decide +kernel
theorem dX10_spread_67 : decode cX10_spread 67 = .ok (.iload 5, 2) := by decide +kernel
theorem dX10_spread_69 : decode cX10_spread 69 = .ok (.goto 4, 3) := by decide +kernel
theorem dX10_spread_72 : decode cX10_spread 72 = .ok (.iload_n 2, 1) := by decide +kernel
theorem dX10_spread_73 : decode cX10_spread 73 = .ok (.istore_n 2, 1) := by decide +kernel
theorem dX10_spread_74 : decode cX10_spread 74 = .ok (.iload_n 3, 1) := by decide +kernel
theorem dX10_spread_75 : decode cX10_spread 75 = .ok (.iload 5, 2) := by decide +kernel
theorem dX10_spread_77 : decode cX10_spread 77 = .ok (.invokestatic 331, 3) := by decide +kernel
theorem dX10_spread_80 : decode cX10_spread 80 = .ok (.istore_n 3, 1) := by decide +kernel
theorem dX10_spread_81 : decode cX10_spread 81 = .ok (.iinc 4 1, 3) := by decide +kernel
theorem dX10_spread_84 : decode cX10_spread 84 = .ok (.goto (-55), 3) := by decide +kernel
theorem dX10_spread_87 : decode cX10_spread 87 = .ok (.iload_n 2, 1) := by decide +kernel
theorem dX10_spread_88 : decode cX10_spread 88 = .ok (.iconst (-1), 1) := by decide +kernel
theorem dX10_spread_89 : decode cX10_spread 89 = .ok (.if_icmp .ne 7, 3) := by decide +kernel
theorem dX10_spread_92 : decode cX10_spread 92 = .ok (.iconst (-1), 1) := by decide +kernel
theorem dX10_spread_93 : decode cX10_spread 93 = .ok (.goto 6, 3) := by decide +kernel
theorem dX10_spread_96 : decode cX10_spread 96 = .ok (.iload_n 2, 1) := by decide +kernel
theorem dX10_spread_97 : decode cX10_spread 97 = .ok (.iload_n 3, 1) := by decide +kernel
theorem dX10_spread_98 : decode cX10_spread 98 = .ok (.isub, 1) := by decide +kernel
theorem dX10_spread_99 : decode cX10_spread 99 = .ok (.ireturn, 1) := by decide +kernel
theorem dX10_ahead_0 : decode cX10_ahead 0 = .ok (.aload_n 0, 1) := by decide +kernel
theorem dX10_ahead_1 : decode cX10_ahead 1 = .ok (.iconst 0, 1) := by decide +kernel
theorem dX10_ahead_2 : decode cX10_ahead 2 = .ok (.putfield 120, 3) := by decide +kernel
theorem dX10_ahead_5 : decode cX10_ahead 5 = .ok (.aload_n 0, 1) := by decide +kernel
theorem dX10_ahead_6 : decode cX10_ahead 6 = .ok (.iload_n 1, 1) := by decide +kernel
theorem dX10_ahead_7 : decode cX10_ahead 7 = .ok (.invokevirtual 370, 3) := by decide +kernel
theorem dX10_ahead_10 : decode cX10_ahead 10 = .ok (.ifCond .eq 11, 3) := by decide +kernel
theorem dX10_ahead_13 : decode cX10_ahead 13 = .ok (.aload_n 0, 1) := by decide +kernel
theorem dX10_ahead_14 : decode cX10_ahead 14 = .ok (.iload_n 2, 1) := by decide +kernel
theorem dX10_ahead_15 : decode cX10_ahead 15 = .ok (.invokevirtual 376, 3) := by decide +kernel
theorem dX10_ahead_18 : decode cX10_ahead 18 = .ok (.ifCond .ne 5, 3) := by decide +kernel
theorem dX10_ahead_21 : decode cX10_ahead 21 = .ok (.iconst 0, 1) := by decide +kernel
theorem dX10_ahead_22 : decode cX10_ahead 22 = .ok (.ireturn, 1) := by decide +kernel
theorem dX10_ahead_23 : decode cX10_ahead 23 = .ok (.aload_n 0, 1) := by decide +kernel
theorem dX10_ahead_24 : decode cX10_ahead 24 = .ok (.iconst 0, 1) := by decide +kernel
theorem dX10_ahead_25 : decode cX10_ahead 25 = .ok (.iload_n 1, 1) := by decide +kernel
theorem dX10_ahead_26 : decode cX10_ahead 26 = .ok (.invokevirtual 340, 3) := by decide +kernel
theorem dX10_ahead_29 : decode cX10_ahead 29 = .ok (.ifCond .ne 5, 3) := by decide +kernel
theorem dX10_ahead_32 : decode cX10_ahead 32 = .ok (.iconst (-1), 1) := by decide +kernel
theorem dX10_ahead_33 : decode cX10_ahead 33 = .ok (.ireturn, 1) := by decide +kernel
theorem dX10_ahead_34 : decode cX10_ahead 34 = .ok (.aload_n 0, 1) := by decide +kernel
theorem dX10_ahead_35 : decode cX10_ahead 35 = .ok (.iconst 1, 1) := by decide +kernel
theorem dX10_ahead_36 : decode cX10_ahead 36 = .ok (.invokevirtual 397, 3) := by decide +kernel
theorem dX10_ahead_39 : decode cX10_ahead 39 = .ok (.iconst 0, 1) := by decide +kernel
theorem dX10_ahead_40 : decode cX10_ahead 40 = .ok (.istore_n 3, 1) := by decide +kernel
theorem dX10_ahead_41 : decode cX10_ahead 41 = .ok (.iconst 0, 1) := by decide +kernel
theorem dX10_ahead_42 : decode cX10_ahead 42 = .ok (.istore 4, 2) := by decide +kernel
theorem dX10_ahead_44 : decode cX10_ahead 44 = .ok (.iload 4, 2) := by decide +kernel
theorem dX10_ahead_46 : decode cX10_ahead 46 = .ok (.aload_n 0, 1) := by decide +kernel
theorem dX10_ahead_47 : decode cX10_ahead 47 = .ok (.getfield 278, 3) := by decide +kernel
theorem dX10_ahead_50 : decode cX10_ahead 50 = .ok (.if_icmp .ge 59, 3) := by decide +kernel
theorem dX10_ahead_53 : decode cX10_ahead 53 = .ok (.iload_n 3, 1) := by decide +kernel
theorem dX10_ahead_54 : decode cX10_ahead 54 = .ok (.aload_n 0, 1) := by decide +kernel
theorem dX10_ahead_55 : decode cX10_ahead 55 = .ok (.getfield 87, 3) := by decide +kernel
theorem dX10_ahead_58 : decode cX10_ahead 58 = .ok (.bipush 8, 2) := by decide +kernel
theorem dX10_ahead_60 : decode cX10_ahead 60 = .ok (.iload_n 2, 1) := by decide +kernel
theorem dX10_ahead_61 : decode cX10_ahead 61 = .ok (.imul, 1) := by decide +kernel
theorem dX10_ahead_62 : decode cX10_ahead 62 = .ok (.iload 4, 2) := by decide +kernel
theorem dX10_ahead_64 : decode cX10_ahead 64 = .ok (.iadd, 1) := by decide +kernel
theorem dX10_ahead_65 : decode cX10_ahead 65 = .ok (.iaload, 1) := by decide +kernel
theorem dX10_ahead_66 : decode cX10_ahead 66 = .ok (.iconst (-1), 1) := by decide +kernel
theorem dX10_ahead_67 : decode cX10_ahead 67 = .ok (.if_icmp .eq 33, 3) := by decide +kernel
theorem dX10_ahead_70 : decode cX10_ahead 70 = .ok (.aload_n 0, 1) := by decide +kernel
theorem dX10_ahead_71 : decode cX10_ahead 71 = .ok (.getfield 87, 3) := by decide +kernel
theorem dX10_ahead_74 : decode cX10_ahead 74 = .ok (.bipush 8, 2) := by decide +kernel
theorem dX10_ahead_76 : decode cX10_ahead 76 = .ok (.iload_n 2, 1) := by decide +kernel
theorem dX10_ahead_77 : decode cX10_ahead 77 = .ok (.imul, 1) := by decide +kernel
theorem dX10_ahead_78 : decode cX10_ahead 78 = .ok (.iload 4, 2) := by decide +kernel
theorem dX10_ahead_80 : decode cX10_ahead 80 = .ok (.iadd, 1) := by decide +kernel
theorem dX10_ahead_81 : decode cX10_ahead 81 = .ok (.iaload, 1) := by decide +kernel
theorem dX10_ahead_82 : decode cX10_ahead 82 = .ok (.aload_n 0, 1) := by decide +kernel
theorem dX10_ahead_83 : decode cX10_ahead 83 = .ok (.getfield 87, 3) := by decide +kernel
theorem dX10_ahead_86 : decode cX10_ahead 86 = .ok (.bipush 8, 2) := by decide +kernel
theorem dX10_ahead_88 : decode cX10_ahead 88 = .ok (.iload_n 2, 1) := by decide +kernel
theorem dX10_ahead_89 : decode cX10_ahead 89 = .ok (.imul, 1) := by decide +kernel
theorem dX10_ahead_90 : decode cX10_ahead 90 = .ok (.iload_n 1, 1) := by decide +kernel
theorem dX10_ahead_91 : decode cX10_ahead 91 = .ok (.iadd, 1) := by decide +kernel
theorem dX10_ahead_92 : decode cX10_ahead 92 = .ok (.iaload, 1) := by decide +kernel
theorem dX10_ahead_93 : decode cX10_ahead 93 = .ok (.if_icmp .ge 7, 3) := by decide +kernel
theorem dX10_ahead_96 : decode cX10_ahead 96 = .ok (.iconst 1, 1) := by decide +kernel
theorem dX10_ahead_97 : decode cX10_ahead 97 = .ok (.goto 4, 3) := by decide +kernel
theorem dX10_ahead_100 : decode cX10_ahead 100 = .ok (.iconst 0, 1) := by decide +kernel
theorem dX10_ahead_101 : decode cX10_ahead 101 = .ok (.iadd, 1) := by decide +kernel
theorem dX10_ahead_102 : decode cX10_ahead 102 = .ok (.istore_n 3, 1) := by decide +kernel
theorem dX10_ahead_103 : decode cX10_ahead 103 = .ok (.iinc 4 1, 3) := by decide +kernel
theorem dX10_ahead_106 : decode cX10_ahead 106 = .ok (.goto (-62), 3) := by decide +kernel
theorem dX10_ahead_109 : decode cX10_ahead 109 = .ok (.iload_n 3, 1) := by decide +kernel
theorem dX10_ahead_110 : decode cX10_ahead 110 = .ok (.ireturn, 1) := by decide +kernel
theorem dX10_late_0 : decode cX10_late 0 = .ok (.aload_n 0, 1) := by decide +kernel
theorem dX10_late_1 : decode cX10_late 1 = .ok (.iconst 0, 1) := by decide +kernel
theorem dX10_late_2 : decode cX10_late 2 = .ok (.putfield 120, 3) := by decide +kernel
theorem dX10_late_5 : decode cX10_late 5 = .ok (.aload_n 0, 1) := by decide +kernel
theorem dX10_late_6 : decode cX10_late 6 = .ok (.iload_n 1, 1) := by decide +kernel
theorem dX10_late_7 : decode cX10_late 7 = .ok (.invokevirtual 370, 3) := by decide +kernel
theorem dX10_late_10 : decode cX10_late 10 = .ok (.ifCond .eq 11, 3) := by decide +kernel
theorem dX10_late_13 : decode cX10_late 13 = .ok (.aload_n 0, 1) := by decide +kernel
theorem dX10_late_14 : decode cX10_late 14 = .ok (.iload_n 2, 1) := by decide +kernel
theorem dX10_late_15 : decode cX10_late 15 = .ok (.invokevirtual 376, 3) := by decide +kernel
theorem dX10_late_18 : decode cX10_late 18 = .ok (.ifCond .ne 5, 3) := by decide +kernel
theorem dX10_late_21 : decode cX10_late 21 = .ok (.iconst 0, 1) := by decide +kernel
theorem dX10_late_22 : decode cX10_late 22 = .ok (.ireturn, 1) := by decide +kernel
theorem dX10_late_23 : decode cX10_late 23 = .ok (.aload_n 0, 1) := by decide +kernel
theorem dX10_late_24 : decode cX10_late 24 = .ok (.iconst 0, 1) := by decide +kernel
theorem dX10_late_25 : decode cX10_late 25 = .ok (.iload_n 1, 1) := by decide +kernel
theorem dX10_late_26 : decode cX10_late 26 = .ok (.invokevirtual 340, 3) := by decide +kernel
theorem dX10_late_29 : decode cX10_late 29 = .ok (.ifCond .ne 5, 3) := by decide +kernel
theorem dX10_late_32 : decode cX10_late 32 = .ok (.iconst (-1), 1) := by decide +kernel
theorem dX10_late_33 : decode cX10_late 33 = .ok (.ireturn, 1) := by decide +kernel
theorem dX10_late_34 : decode cX10_late 34 = .ok (.aload_n 0, 1) := by decide +kernel
theorem dX10_late_35 : decode cX10_late 35 = .ok (.iconst 1, 1) := by decide +kernel
theorem dX10_late_36 : decode cX10_late 36 = .ok (.invokevirtual 397, 3) := by decide +kernel
theorem dX10_late_39 : decode cX10_late 39 = .ok (.aload_n 0, 1) := by decide +kernel
theorem dX10_late_40 : decode cX10_late 40 = .ok (.getfield 87, 3) := by decide +kernel
theorem dX10_late_43 : decode cX10_late 43 = .ok (.bipush 8, 2) := by decide +kernel
theorem dX10_late_45 : decode cX10_late 45 = .ok (.iload_n 2, 1) := by decide +kernel
theorem dX10_late_46 : decode cX10_late 46 = .ok (.imul, 1) := by decide +kernel
theorem dX10_late_47 : decode cX10_late 47 = .ok (.iload_n 1, 1) := by decide +kernel
theorem dX10_late_48 : decode cX10_late 48 = .ok (.iadd, 1) := by decide +kernel
theorem dX10_late_49 : decode cX10_late 49 = .ok (.iaload, 1) := by decide +kernel
theorem dX10_late_50 : decode cX10_late 50 = .ok (.aload_n 0, 1) := by decide +kernel
theorem dX10_late_51 : decode cX10_late 51 = .ok (.getfield 69, 3) := by decide +kernel
theorem dX10_late_54 : decode cX10_late 54 = .ok (.bipush 27, 2) := by decide +kernel
theorem dX10_late_56 : decode cX10_late 56 = .ok (.iload_n 2, 1) := by decide +kernel
theorem dX10_late_57 : decode cX10_late 57 = .ok (.iadd, 1) := by decide +kernel
theorem dX10_late_58 : decode cX10_late 58 = .ok (.iaload, 1) := by decide +kernel
theorem dX10_late_59 : decode cX10_late 59 = .ok (.isub, 1) := by decide +kernel
theorem dX10_late_60 : decode cX10_late 60 = .ok (.iconst 0, 1) := by decide +kernel
theorem dX10_late_61 : decode cX10_late 61 = .ok (.sipush 999, 3) := by decide +kernel
theorem dX10_late_64 : decode cX10_late 64 = .ok (.invokestatic 312, 3) := by decide +kernel
theorem dX10_late_67 : decode cX10_late 67 = .ok (.ireturn, 1) := by decide +kernel
theorem dX10_loses_0 : decode cX10_loses 0 = .ok (.aload_n 0, 1) := by decide +kernel
theorem dX10_loses_1 : decode cX10_loses 1 = .ok (.iconst 0, 1) := by decide +kernel
theorem dX10_loses_2 : decode cX10_loses 2 = .ok (.putfield 120, 3) := by decide +kernel
theorem dX10_loses_5 : decode cX10_loses 5 = .ok (.aload_n 0, 1) := by decide +kernel
theorem dX10_loses_6 : decode cX10_loses 6 = .ok (.iload_n 1, 1) := by decide +kernel
theorem dX10_loses_7 : decode cX10_loses 7 = .ok (.invokevirtual 370, 3) := by decide +kernel
theorem dX10_loses_10 : decode cX10_loses 10 = .ok (.ifCond .ne 5, 3) := by decide +kernel
theorem dX10_loses_13 : decode cX10_loses 13 = .ok (.iconst 0, 1) := by decide +kernel
theorem dX10_loses_14 : decode cX10_loses 14 = .ok (.ireturn, 1) := by decide +kernel
theorem dX10_loses_15 : decode cX10_loses 15 = .ok (.aload_n 0, 1) := by decide +kernel
theorem dX10_loses_16 : decode cX10_loses 16 = .ok (.iconst 1, 1) := by decide +kernel
theorem dX10_loses_17 : decode cX10_loses 17 = .ok (.invokevirtual 397, 3) := by decide +kernel
theorem dX10_loses_20 : decode cX10_loses 20 = .ok (.iconst 0, 1) := by decide +kernel
theorem dX10_loses_21 : decode cX10_loses 21 = .ok (.istore_n 2, 1) := by decide +kernel
theorem dX10_loses_22 : decode cX10_loses 22 = .ok (.iconst 0, 1) := by decide +kernel
theorem dX10_loses_23 : decode cX10_loses 23 = .ok (.istore_n 3, 1) := by decide +kernel
theorem dX10_loses_24 : decode cX10_loses 24 = .ok (.iload_n 3, 1) := by decide +kernel
theorem dX10_loses_25 : decode cX10_loses 25 = .ok (.aload_n 0, 1) := by decide +kernel
theorem dX10_loses_26 : decode cX10_loses 26 = .ok (.getfield 281, 3) := by decide +kernel
theorem dX10_loses_29 : decode cX10_loses 29 = .ok (.if_icmp .ge 29, 3) := by decide +kernel
theorem dX10_loses_32 : decode cX10_loses 32 = .ok (.iload_n 2, 1) := by decide +kernel
theorem dX10_loses_33 : decode cX10_loses 33 = .ok (.aload_n 0, 1) := by decide +kernel
theorem dX10_loses_34 : decode cX10_loses 34 = .ok (.getfield 84, 3) := by decide +kernel
theorem dX10_loses_37 : decode cX10_loses 37 = .ok (.iload_n 3, 1) := by decide +kernel
theorem dX10_loses_38 : decode cX10_loses 38 = .ok (.iaload, 1) := by decide +kernel
theorem dX10_loses_39 : decode cX10_loses 39 = .ok (.iload_n 1, 1) := by decide +kernel
theorem dX10_loses_40 : decode cX10_loses 40 = .ok (.if_icmp .ne 9, 3) := by decide +kernel
theorem dX10_loses_43 : decode cX10_loses 43 = .ok (.iconst 1, 1) := by decide +kernel
theorem dX10_loses_44 : decode cX10_loses 44 = .ok (.iload_n 3, 1) := by decide +kernel
theorem dX10_loses_45 : decode cX10_loses 45 = .ok (.ishl, 1) := by decide +kernel
theorem dX10_loses_46 : decode cX10_loses 46 = .ok (.goto 4, 3) := by decide +kernel
theorem dX10_loses_49 : decode cX10_loses 49 = .ok (.iconst 0, 1) := by decide +kernel
theorem dX10_loses_50 : decode cX10_loses 50 = .ok (.ior, 1) := by decide +kernel
theorem dX10_loses_51 : decode cX10_loses 51 = .ok (.istore_n 2, 1) := by decide +kernel
theorem dX10_loses_52 : decode cX10_loses 52 = .ok (.iinc 3 1, 3) := by decide +kernel
theorem dX10_loses_55 : decode cX10_loses 55 = .ok (.goto (-31), 3) := by decide +kernel
theorem dX10_loses_58 : decode cX10_loses 58 = .ok (.iload_n 2, 1) := by decide +kernel
theorem dX10_loses_59 : decode cX10_loses 59 = .ok (.ireturn, 1) := by decide +kernel
theorem dX10_nearest_0 : decode cX10_nearest 0 = .ok (.aload_n 0, 1) := by decide +kernel
theorem dX10_nearest_1 : decode cX10_nearest 1 = .ok (.iconst 0, 1) := by decide +kernel
theorem dX10_nearest_2 : decode cX10_nearest 2 = .ok (.putfield 120, 3) := by decide +kernel
theorem dX10_nearest_5 : decode cX10_nearest 5 = .ok (.aload_n 0, 1) := by decide +kernel
theorem dX10_nearest_6 : decode cX10_nearest 6 = .ok (.iload_n 1, 1) := by decide +kernel
theorem dX10_nearest_7 : decode cX10_nearest 7 = .ok (.invokevirtual 370, 3) := by decide +kernel
theorem dX10_nearest_10 : decode cX10_nearest 10 = .ok (.ifCond .ne 5, 3) := by decide +kernel
theorem dX10_nearest_13 : decode cX10_nearest 13 = .ok (.iconst 0, 1) := by decide +kernel
theorem dX10_nearest_14 : decode cX10_nearest 14 = .ok (.ireturn, 1) := by decide +kernel
theorem dX10_nearest_15 : decode cX10_nearest 15 = .ok (.iconst (-1), 1) := by decide +kernel
theorem dX10_nearest_16 : decode cX10_nearest 16 = .ok (.istore_n 2, 1) := by decide +kernel
theorem dX10_nearest_17 : decode cX10_nearest 17 = .ok (.iconst 0, 1) := by decide +kernel
theorem dX10_nearest_18 : decode cX10_nearest 18 = .ok (.istore_n 3, 1) := by decide +kernel
theorem dX10_nearest_19 : decode cX10_nearest 19 = .ok (.iload_n 3, 1) := by decide +kernel
theorem dX10_nearest_20 : decode cX10_nearest 20 = .ok (.aload_n 0, 1) := by decide +kernel
theorem dX10_nearest_21 : decode cX10_nearest 21 = .ok (.getfield 281, 3) := by decide +kernel
theorem dX10_nearest_24 : decode cX10_nearest 24 = .ok (.if_icmp .ge 31, 3) := by decide +kernel
theorem dX10_nearest_27 : decode cX10_nearest 27 = .ok (.iload_n 2, 1) := by decide +kernel
theorem dX10_nearest_28 : decode cX10_nearest 28 = .ok (.iconst (-1), 1) := by decide +kernel
theorem dX10_nearest_29 : decode cX10_nearest 29 = .ok (.if_icmp .eq 18, 3) := by decide +kernel
theorem dX10_nearest_32 : decode cX10_nearest 32 = .ok (.aload_n 0, 1) := by decide +kernel
theorem dX10_nearest_33 : decode cX10_nearest 33 = .ok (.iload_n 1, 1) := by decide +kernel
theorem dX10_nearest_34 : decode cX10_nearest 34 = .ok (.iload_n 3, 1) := by decide +kernel
theorem dX10_nearest_35 : decode cX10_nearest 35 = .ok (.invokevirtual 305, 3) := by decide +kernel
theorem dX10_nearest_38 : decode cX10_nearest 38 = .ok (.aload_n 0, 1) := by decide +kernel
theorem dX10_nearest_39 : decode cX10_nearest 39 = .ok (.iload_n 1, 1) := by decide +kernel
theorem dX10_nearest_40 : decode cX10_nearest 40 = .ok (.iload_n 2, 1) := by decide +kernel
theorem dX10_nearest_41 : decode cX10_nearest 41 = .ok (.invokevirtual 305, 3) := by decide +kernel
theorem dX10_nearest_44 : decode cX10_nearest 44 = .ok (.if_icmp .ge 5, 3) := by decide +kernel
theorem dX10_nearest_47 : decode cX10_nearest 47 = .ok (.iload_n 3, 1) := by decide +kernel
theorem dX10_nearest_48 : decode cX10_nearest 48 = .ok (.istore_n 2, 1) := by decide +kernel
theorem dX10_nearest_49 : decode cX10_nearest 49 = .ok (.iinc 3 1, 3) := by decide +kernel
theorem dX10_nearest_52 : decode cX10_nearest 52 = .ok (.goto (-33), 3) := by decide +kernel
theorem dX10_nearest_55 : decode cX10_nearest 55 = .ok (.iload_n 2, 1) := by decide +kernel
theorem dX10_nearest_56 : decode cX10_nearest 56 = .ok (.ireturn, 1) := by decide +kernel
theorem dX10_neighbours_0 : decode cX10_neighbours 0 = .ok (.aload_n 0, 1) := by decide +kernel
theorem dX10_neighbours_1 : decode cX10_neighbours 1 = .ok (.iconst 0, 1) := by decide +kernel
theorem dX10_neighbours_2 : decode cX10_neighbours 2 = .ok (.putfield 120, 3) := by decide +kernel
theorem dX10_neighbours_5 : decode cX10_neighbours 5 = .ok (.aload_n 0, 1) := by decide +kernel
theorem dX10_neighbours_6 : decode cX10_neighbours 6 = .ok (.iload_n 1, 1) := by decide +kernel
theorem dX10_neighbours_7 : decode cX10_neighbours 7 = .ok (.invokevirtual 370, 3) := by decide +kernel
theorem dX10_neighbours_10 : decode cX10_neighbours 10 = .ok (.ifCond .eq 18, 3) := by decide +kernel
theorem dX10_neighbours_13 : decode cX10_neighbours 13 = .ok (.aload_n 0, 1) := by decide +kernel
theorem dX10_neighbours_14 : decode cX10_neighbours 14 = .ok (.iload_n 2, 1) := by decide +kernel
theorem dX10_neighbours_15 : decode cX10_neighbours 15 = .ok (.iconst 0, 1) := by decide +kernel
theorem dX10_neighbours_16 : decode cX10_neighbours 16 = .ok (.bipush 30, 2) := by decide +kernel
theorem dX10_neighbours_18 : decode cX10_neighbours 18 = .ok (.invokestatic 361, 3) := by decide +kernel
theorem dX10_neighbours_21 : decode cX10_neighbours 21 = .ok (.iconst 2, 1) := by decide +kernel
theorem dX10_neighbours_22 : decode cX10_neighbours 22 = .ok (.invokevirtual 271, 3) := by decide +kernel
theorem dX10_neighbours_25 : decode cX10_neighbours 25 = .ok (.ifCond .ne 5, 3) := by decide +kernel
theorem dX10_neighbours_28 : decode cX10_neighbours 28 = .ok (.iconst 0, 1) := by decide +kernel
theorem dX10_neighbours_29 : decode cX10_neighbours 29 = .ok (.ireturn, 1) := by decide +kernel
theorem dX10_neighbours_30 : decode cX10_neighbours 30 = .ok (.iconst 0, 1) := by decide +kernel
theorem dX10_neighbours_31 : decode cX10_neighbours 31 = .ok (.istore_n 3, 1) := by decide +kernel
theorem dX10_neighbours_32 : decode cX10_neighbours 32 = .ok (.iconst 0, 1) := by decide +kernel
theorem dX10_neighbours_33 : decode cX10_neighbours 33 = .ok (.istore 4, 2) := by decide +kernel
theorem dX10_neighbours_35 : decode cX10_neighbours 35 = .ok (.iload 4, 2) := by decide +kernel
theorem dX10_neighbours_37 : decode cX10_neighbours 37 = .ok (.aload_n 0, 1) := by decide +kernel
theorem dX10_neighbours_38 : decode cX10_neighbours 38 = .ok (.getfield 278, 3) := by decide +kernel
theorem dX10_neighbours_41 : decode cX10_neighbours 41 = .ok (.if_icmp .ge 46, 3) := by decide +kernel
theorem dX10_neighbours_44 : decode cX10_neighbours 44 = .ok (.iload_n 3, 1) := by decide +kernel
theorem dX10_neighbours_45 : decode cX10_neighbours 45 = .ok (.iload 4, 2) := by decide +kernel
theorem dX10_neighbours_47 : decode cX10_neighbours 47 = .ok (.iload_n 1, 1) := by decide +kernel
theorem dX10_neighbours_48 : decode cX10_neighbours 48 = .ok (.if_icmp .eq 30, 3) := by decide +kernel
theorem dX10_neighbours_51 : decode cX10_neighbours 51 = .ok (.aload_n 0, 1) := by decide +kernel
theorem dX10_neighbours_52 : decode cX10_neighbours 52 = .ok (.getfield 26, 3) := by decide +kernel
theorem dX10_neighbours_55 : decode cX10_neighbours 55 = .ok (.iload_n 1, 1) := by decide +kernel
theorem dX10_neighbours_56 : decode cX10_neighbours 56 = .ok (.iaload, 1) := by decide +kernel
theorem dX10_neighbours_57 : decode cX10_neighbours 57 = .ok (.aload_n 0, 1) := by decide +kernel
theorem dX10_neighbours_58 : decode cX10_neighbours 58 = .ok (.getfield 26, 3) := by decide +kernel
theorem dX10_neighbours_61 : decode cX10_neighbours 61 = .ok (.iload 4, 2) := by decide +kernel
theorem dX10_neighbours_63 : decode cX10_neighbours 63 = .ok (.iaload, 1) := by decide +kernel
theorem dX10_neighbours_64 : decode cX10_neighbours 64 = .ok (.invokestatic 302, 3) := by decide +kernel
theorem dX10_neighbours_67 : decode cX10_neighbours 67 = .ok (.iload_n 2, 1) := by decide +kernel
theorem dX10_neighbours_68 : decode cX10_neighbours 68 = .ok (.if_icmp .gt 10, 3) := by decide +kernel
theorem dX10_neighbours_71 : decode cX10_neighbours 71 = .ok (.iconst 1, 1) := by decide +kernel
theorem dX10_neighbours_72 : decode cX10_neighbours 72 = .ok (.iload 4, 2) := by decide +kernel
theorem dX10_neighbours_74 : decode cX10_neighbours 74 = .ok (.ishl, 1) := by decide +kernel
theorem dX10_neighbours_75 : decode cX10_neighbours 75 = .ok (.goto 4, 3) := by decide +kernel
theorem dX10_neighbours_78 : decode cX10_neighbours 78 = .ok (.iconst 0, 1) := by decide +kernel
theorem dX10_neighbours_79 : decode cX10_neighbours 79 = .ok (.ior, 1) := by decide +kernel
theorem dX10_neighbours_80 : decode cX10_neighbours 80 = .ok (.istore_n 3, 1) := by decide +kernel
theorem dX10_neighbours_81 : decode cX10_neighbours 81 = .ok (.iinc 4 1, 3) := by decide +kernel
theorem dX10_neighbours_84 : decode cX10_neighbours 84 = .ok (.goto (-49), 3) := by decide +kernel
theorem dX10_neighbours_87 : decode cX10_neighbours 87 = .ok (.iload_n 3, 1) := by decide +kernel
theorem dX10_neighbours_88 : decode cX10_neighbours 88 = .ok (.ireturn, 1) := by decide +kernel
theorem dX10_toMend_0 : decode cX10_toMend 0 = .ok (.aload_n 0, 1) := by decide +kernel
theorem dX10_toMend_1 : decode cX10_toMend 1 = .ok (.iconst 0, 1) := by decide +kernel
theorem dX10_toMend_2 : decode cX10_toMend 2 = .ok (.putfield 120, 3) := by decide +kernel
theorem dX10_toMend_5 : decode cX10_toMend 5 = .ok (.aload_n 0, 1) := by decide +kernel
theorem dX10_toMend_6 : decode cX10_toMend 6 = .ok (.iload_n 1, 1) := by decide +kernel
theorem dX10_toMend_7 : decode cX10_toMend 7 = .ok (.invokevirtual 370, 3) := by decide +kernel
theorem dX10_toMend_10 : decode cX10_toMend 10 = .ok (.ifCond .eq 13, 3) := by decide +kernel
theorem dX10_toMend_13 : decode cX10_toMend 13 = .ok (.aload_n 0, 1) := by decide +kernel
theorem dX10_toMend_14 : decode cX10_toMend 14 = .ok (.iload_n 2, 1) := by decide +kernel
theorem dX10_toMend_15 : decode cX10_toMend 15 = .ok (.iconst 1, 1) := by decide +kernel
theorem dX10_toMend_16 : decode cX10_toMend 16 = .ok (.iconst 2, 1) := by decide +kernel
theorem dX10_toMend_17 : decode cX10_toMend 17 = .ok (.invokevirtual 394, 3) := by decide +kernel
theorem dX10_toMend_20 : decode cX10_toMend 20 = .ok (.ifCond .ne 5, 3) := by decide +kernel
theorem dX10_toMend_23 : decode cX10_toMend 23 = .ok (.iconst 0, 1) := by decide +kernel
theorem dX10_toMend_24 : decode cX10_toMend 24 = .ok (.ireturn, 1) := by decide +kernel
theorem dX10_toMend_25 : decode cX10_toMend 25 = .ok (.iconst 0, 1) := by decide +kernel
theorem dX10_toMend_26 : decode cX10_toMend 26 = .ok (.istore_n 3, 1) := by decide +kernel
theorem dX10_toMend_27 : decode cX10_toMend 27 = .ok (.iload_n 3, 1) := by decide +kernel
theorem dX10_toMend_28 : decode cX10_toMend 28 = .ok (.bipush 60, 2) := by decide +kernel
theorem dX10_toMend_30 : decode cX10_toMend 30 = .ok (.if_icmp .gt 77, 3) := by decide +kernel
theorem dX10_toMend_33 : decode cX10_toMend 33 = .ok (.aload_n 0, 1) := by decide +kernel
theorem dX10_toMend_34 : decode cX10_toMend 34 = .ok (.invokevirtual 388, 3) := by decide +kernel
theorem dX10_toMend_37 : decode cX10_toMend 37 = .ok (.aload_n 0, 1) := by decide +kernel
theorem dX10_toMend_38 : decode cX10_toMend 38 = .ok (.getfield 69, 3) := by decide +kernel
theorem dX10_toMend_41 : decode cX10_toMend 41 = .ok (.bipush 36, 2) := by decide +kernel
theorem dX10_toMend_43 : decode cX10_toMend 43 = .ok (.iload_n 1, 1) := by decide +kernel
theorem dX10_toMend_44 : decode cX10_toMend 44 = .ok (.iadd, 1) := by decide +kernel
theorem dX10_toMend_45 : decode cX10_toMend 45 = .ok (.iload_n 3, 1) := by decide +kernel
theorem dX10_toMend_46 : decode cX10_toMend 46 = .ok (.iastore, 1) := by decide +kernel
theorem dX10_toMend_47 : decode cX10_toMend 47 = .ok (.iconst 1, 1) := by decide +kernel
theorem dX10_toMend_48 : decode cX10_toMend 48 = .ok (.istore 4, 2) := by decide +kernel
theorem dX10_toMend_50 : decode cX10_toMend 50 = .ok (.iconst 0, 1) := by decide +kernel
theorem dX10_toMend_51 : decode cX10_toMend 51 = .ok (.istore 5, 2) := by decide +kernel
theorem dX10_toMend_53 : decode cX10_toMend 53 = .ok (.iload 5, 2) := by decide +kernel
theorem dX10_toMend_55 : decode cX10_toMend 55 = .ok (.iload_n 2, 1) := by decide +kernel
theorem dX10_toMend_56 : decode cX10_toMend 56 = .ok (.if_icmp .ge 38, 3) := by decide +kernel
theorem dX10_toMend_59 : decode cX10_toMend 59 = .ok (.iload 4, 2) := by decide +kernel
theorem dX10_toMend_61 : decode cX10_toMend 61 = .ok (.ifCond .eq 33, 3) := by decide +kernel
theorem dX10_toMend_64 : decode cX10_toMend 64 = .ok (.aload_n 0, 1) := by decide +kernel
theorem dX10_toMend_65 : decode cX10_toMend 65 = .ok (.bipush 33, 2) := by decide +kernel
theorem dX10_toMend_67 : decode cX10_toMend 67 = .ok (.invokevirtual 358, 3) := by decide +kernel
theorem dX10_toMend_70 : decode cX10_toMend 70 = .ok (.aload_n 0, 1) := by decide +kernel
theorem dX10_toMend_71 : decode cX10_toMend 71 = .ok (.getfield 334, 3) := by decide +kernel
theorem dX10_toMend_74 : decode cX10_toMend 74 = .ok (.iload_n 1, 1) := by decide +kernel
theorem dX10_toMend_75 : decode cX10_toMend 75 = .ok (.ishr, 1) := by decide +kernel
theorem dX10_toMend_76 : decode cX10_toMend 76 = .ok (.iconst 1, 1) := by decide +kernel
theorem dX10_toMend_77 : decode cX10_toMend 77 = .ok (.iand, 1) := by decide +kernel
theorem dX10_toMend_78 : decode cX10_toMend 78 = .ok (.ifCond .ne 7, 3) := by decide +kernel
theorem dX10_toMend_81 : decode cX10_toMend 81 = .ok (.iconst 1, 1) := by decide +kernel
theorem dX10_toMend_82 : decode cX10_toMend 82 = .ok (.goto 4, 3) := by decide +kernel
theorem dX10_toMend_85 : decode cX10_toMend 85 = .ok (.iconst 0, 1) := by decide +kernel
theorem dX10_toMend_86 : decode cX10_toMend 86 = .ok (.istore 4, 2) := by decide +kernel
theorem dX10_toMend_88 : decode cX10_toMend 88 = .ok (.iinc 5 1, 3) := by decide +kernel
theorem dX10_toMend_91 : decode cX10_toMend 91 = .ok (.goto (-38), 3) := by decide +kernel
theorem dX10_toMend_94 : decode cX10_toMend 94 = .ok (.iload 4, 2) := by decide +kernel
theorem dX10_toMend_96 : decode cX10_toMend 96 = .ok (.ifCond .eq 5, 3) := by decide +kernel
theorem dX10_toMend_99 : decode cX10_toMend 99 = .ok (.iload_n 3, 1) := by decide +kernel
theorem dX10_toMend_100 : decode cX10_toMend 100 = .ok (.ireturn, 1) := by decide +kernel
theorem dX10_toMend_101 : decode cX10_toMend 101 = .ok (.iinc 3 1, 3) := by decide +kernel
theorem dX10_toMend_104 : decode cX10_toMend 104 = .ok (.goto (-77), 3) := by decide +kernel
theorem dX10_toMend_107 : decode cX10_toMend 107 = .ok (.iconst (-1), 1) := by decide +kernel
theorem dX10_toMend_108 : decode cX10_toMend 108 = .ok (.ireturn, 1) := by decide +kernel
theorem dX10_silent_0 : decode cX10_silent 0 = .ok (.aload_n 0, 1) := by decide +kernel
theorem dX10_silent_1 : decode cX10_silent 1 = .ok (.iconst 0, 1) := by decide +kernel
theorem dX10_silent_2 : decode cX10_silent 2 = .ok (.putfield 120, 3) := by decide +kernel
theorem dX10_silent_5 : decode cX10_silent 5 = .ok (.aload_n 0, 1) := by decide +kernel
theorem dX10_silent_6 : decode cX10_silent 6 = .ok (.iload_n 1, 1) := by decide +kernel
theorem dX10_silent_7 : decode cX10_silent 7 = .ok (.iconst 0, 1) := by decide +kernel
theorem dX10_silent_8 : decode cX10_silent 8 = .ok (.iconst 1, 1) := by decide +kernel
theorem dX10_silent_9 : decode cX10_silent 9 = .ok (.invokevirtual 394, 3) := by decide +kernel
theorem dX10_silent_12 : decode cX10_silent 12 = .ok (.ifCond .ne 5, 3) := by decide +kernel
theorem dX10_silent_15 : decode cX10_silent 15 = .ok (.iconst 0, 1) := by decide +kernel
theorem dX10_silent_16 : decode cX10_silent 16 = .ok (.ireturn, 1) := by decide +kernel
theorem dX10_silent_17 : decode cX10_silent 17 = .ok (.iconst 1, 1) := by decide +kernel
theorem dX10_silent_18 : decode cX10_silent 18 = .ok (.aload_n 0, 1) := by decide +kernel
theorem dX10_silent_19 : decode cX10_silent 19 = .ok (.getfield 281, 3) := by decide +kernel
theorem dX10_silent_22 : decode cX10_silent 22 = .ok (.ishl, 1) := by decide +kernel
theorem dX10_silent_23 : decode cX10_silent 23 = .ok (.iconst 1, 1) := by decide +kernel
theorem dX10_silent_24 : decode cX10_silent 24 = .ok (.isub, 1) := by decide +kernel
theorem dX10_silent_25 : decode cX10_silent 25 = .ok (.istore_n 2, 1) := by decide +kernel
theorem dX10_silent_26 : decode cX10_silent 26 = .ok (.aload_n 0, 1) := by decide +kernel
theorem dX10_silent_27 : decode cX10_silent 27 = .ok (.invokevirtual 388, 3) := by decide +kernel
theorem dX10_silent_30 : decode cX10_silent 30 = .ok (.iconst 0, 1) := by decide +kernel
theorem dX10_silent_31 : decode cX10_silent 31 = .ok (.istore_n 3, 1) := by decide +kernel
theorem dX10_silent_32 : decode cX10_silent 32 = .ok (.iload_n 3, 1) := by decide +kernel
theorem dX10_silent_33 : decode cX10_silent 33 = .ok (.iload_n 1, 1) := by decide +kernel
theorem dX10_silent_34 : decode cX10_silent 34 = .ok (.if_icmp .ge 56, 3) := by decide +kernel
theorem dX10_silent_37 : decode cX10_silent 37 = .ok (.aload_n 0, 1) := by decide +kernel
theorem dX10_silent_38 : decode cX10_silent 38 = .ok (.bipush 33, 2) := by decide +kernel
theorem dX10_silent_40 : decode cX10_silent 40 = .ok (.invokevirtual 358, 3) := by decide +kernel
theorem dX10_silent_43 : decode cX10_silent 43 = .ok (.iconst 0, 1) := by decide +kernel
theorem dX10_silent_44 : decode cX10_silent 44 = .ok (.istore 4, 2) := by decide +kernel
theorem dX10_silent_46 : decode cX10_silent 46 = .ok (.iload 4, 2) := by decide +kernel
theorem dX10_silent_48 : decode cX10_silent 48 = .ok (.aload_n 0, 1) := by decide +kernel
theorem dX10_silent_49 : decode cX10_silent 49 = .ok (.getfield 281, 3) := by decide +kernel
theorem dX10_silent_52 : decode cX10_silent 52 = .ok (.if_icmp .ge 32, 3) := by decide +kernel
theorem dX10_silent_55 : decode cX10_silent 55 = .ok (.iload_n 2, 1) := by decide +kernel
theorem dX10_silent_56 : decode cX10_silent 56 = .ok (.aload_n 0, 1) := by decide +kernel
theorem dX10_silent_57 : decode cX10_silent 57 = .ok (.getfield 81, 3) := by decide +kernel
theorem dX10_silent_60 : decode cX10_silent 60 = .ok (.iload 4, 2) := by decide +kernel
theorem dX10_silent_62 : decode cX10_silent 62 = .ok (.iaload, 1) := by decide +kernel
theorem dX10_silent_63 : decode cX10_silent 63 = .ok (.ifCond .ne 7, 3) := by decide +kernel
theorem dX10_silent_66 : decode cX10_silent 66 = .ok (.iload_n 2, 1) := by decide +kernel
theorem dX10_silent_67 : decode cX10_silent 67 = .ok (.goto 9, 3) := by decide +kernel
theorem dX10_silent_70 : decode cX10_silent 70 = .ok (.iconst 1, 1) := by decide +kernel
theorem dX10_silent_71 : decode cX10_silent 71 = .ok (.iload 4, 2) := by decide +kernel
theorem dX10_silent_73 : decode cX10_silent 73 = .ok (.ishl, 1) := by decide +kernel
theorem dX10_silent_74 : decode cX10_silent 74 = .ok (.iconst (-1), 1) := by decide +kernel
theorem dX10_silent_75 : decode cX10_silent 75 = .ok (.ixor, 1) := by decide +kernel
theorem dX10_silent_76 : decode cX10_silent 76 = .ok (.iand, 1) := by decide +kernel
theorem dX10_silent_77 : decode cX10_silent 77 = .ok (.istore_n 2, 1) := by decide +kernel
theorem dX10_silent_78 : decode cX10_silent 78 = .ok (.iinc 4 1, 3) := by decide +kernel
theorem dX10_silent_81 : decode cX10_silent 81 = .ok (.goto (-35), 3) := by decide +kernel
theorem dX10_silent_84 : decode cX10_silent 84 = .ok (.iinc 3 1, 3) := by decide +kernel
theorem dX10_silent_87 : decode cX10_silent 87 = .ok (.goto (-55), 3) := by decide +kernel
theorem dX10_silent_90 : decode cX10_silent 90 = .ok (.iload_n 2, 1) := by decide +kernel
theorem dX10_silent_91 : decode cX10_silent 91 = .ok (.ireturn, 1) := by decide +kernel
theorem dX10_behind_0 : decode cX10_behind 0 = .ok (.aload_n 0, 1) := by decide +kernel
theorem dX10_behind_1 : decode cX10_behind 1 = .ok (.iconst 0, 1) := by decide +kernel
theorem dX10_behind_2 : decode cX10_behind 2 = .ok (.putfield 120, 3) := by decide +kernel
theorem dX10_behind_5 : decode cX10_behind 5 = .ok (.aload_n 0, 1) := by decide +kernel
theorem dX10_behind_6 : decode cX10_behind 6 = .ok (.iload_n 1, 1) := by decide +kernel
theorem dX10_behind_7 : decode cX10_behind 7 = .ok (.iconst 0, 1) := by decide +kernel
theorem dX10_behind_8 : decode cX10_behind 8 = .ok (.iconst 1, 1) := by decide +kernel
theorem dX10_behind_9 : decode cX10_behind 9 = .ok (.invokevirtual 394, 3) := by decide +kernel
theorem dX10_behind_12 : decode cX10_behind 12 = .ok (.ifCond .ne 5, 3) := by decide +kernel
theorem dX10_behind_15 : decode cX10_behind 15 = .ok (.iconst 0, 1) := by decide +kernel
theorem dX10_behind_16 : decode cX10_behind 16 = .ok (.ireturn, 1) := by decide +kernel
theorem dX10_behind_17 : decode cX10_behind 17 = .ok (.iconst 0, 1) := by decide +kernel
theorem dX10_behind_18 : decode cX10_behind 18 = .ok (.istore_n 2, 1) := by decide +kernel
theorem dX10_behind_19 : decode cX10_behind 19 = .ok (.aload_n 0, 1) := by decide +kernel
theorem dX10_behind_20 : decode cX10_behind 20 = .ok (.invokevirtual 388, 3) := by decide +kernel
theorem dX10_behind_23 : decode cX10_behind 23 = .ok (.iconst 0, 1) := by decide +kernel
theorem dX10_behind_24 : decode cX10_behind 24 = .ok (.istore_n 3, 1) := by decide +kernel
theorem dX10_behind_25 : decode cX10_behind 25 = .ok (.iload_n 3, 1) := by decide +kernel
theorem dX10_behind_26 : decode cX10_behind 26 = .ok (.iload_n 1, 1) := by decide +kernel
theorem dX10_behind_27 : decode cX10_behind 27 = .ok (.if_icmp .ge 22, 3) := by decide +kernel
theorem dX10_behind_30 : decode cX10_behind 30 = .ok (.aload_n 0, 1) := by decide +kernel
theorem dX10_behind_31 : decode cX10_behind 31 = .ok (.bipush 33, 2) := by decide +kernel
theorem dX10_behind_33 : decode cX10_behind 33 = .ok (.invokevirtual 358, 3) := by decide +kernel
theorem dX10_behind_36 : decode cX10_behind 36 = .ok (.iload_n 2, 1) := by decide +kernel
theorem dX10_behind_37 : decode cX10_behind 37 = .ok (.aload_n 0, 1) := by decide +kernel
theorem dX10_behind_38 : decode cX10_behind 38 = .ok (.getfield 337, 3) := by decide +kernel
theorem dX10_behind_41 : decode cX10_behind 41 = .ok (.iadd, 1) := by decide +kernel
theorem dX10_behind_42 : decode cX10_behind 42 = .ok (.istore_n 2, 1) := by decide +kernel
theorem dX10_behind_43 : decode cX10_behind 43 = .ok (.iinc 3 1, 3) := by decide +kernel
theorem dX10_behind_46 : decode cX10_behind 46 = .ok (.goto (-21), 3) := by decide +kernel
theorem dX10_behind_49 : decode cX10_behind 49 = .ok (.iload_n 2, 1) := by decide +kernel
theorem dX10_behind_50 : decode cX10_behind 50 = .ok (.ireturn, 1) := by decide +kernel
theorem dX10_most_0 : decode cX10_most 0 = .ok (.aload_n 0, 1) := by decide +kernel
theorem dX10_most_1 : decode cX10_most 1 = .ok (.iconst 0, 1) := by decide +kernel
theorem dX10_most_2 : decode cX10_most 2 = .ok (.putfield 120, 3) := by decide +kernel
theorem dX10_most_5 : decode cX10_most 5 = .ok (.aload_n 0, 1) := by decide +kernel
theorem dX10_most_6 : decode cX10_most 6 = .ok (.iload_n 1, 1) := by decide +kernel
theorem dX10_most_7 : decode cX10_most 7 = .ok (.iconst 1, 1) := by decide +kernel
theorem dX10_most_8 : decode cX10_most 8 = .ok (.iconst 1, 1) := by decide +kernel
theorem dX10_most_9 : decode cX10_most 9 = .ok (.invokevirtual 394, 3) := by decide +kernel
theorem dX10_most_12 : decode cX10_most 12 = .ok (.ifCond .ne 5, 3) := by decide +kernel
theorem dX10_most_15 : decode cX10_most 15 = .ok (.iconst 0, 1) := by decide +kernel
theorem dX10_most_16 : decode cX10_most 16 = .ok (.ireturn, 1) := by decide +kernel
theorem dX10_most_17 : decode cX10_most 17 = .ok (.iconst 0, 1) := by decide +kernel
theorem dX10_most_18 : decode cX10_most 18 = .ok (.istore_n 2, 1) := by decide +kernel
theorem dX10_most_19 : decode cX10_most 19 = .ok (.iload_n 2, 1) := by decide +kernel
theorem dX10_most_20 : decode cX10_most 20 = .ok (.bipush 8, 2) := by decide +kernel
theorem dX10_most_22 : decode cX10_most 22 = .ok (.if_icmp .ge 16, 3) := by decide +kernel
theorem dX10_most_25 : decode cX10_most 25 = .ok (.aload_n 0, 1) := by decide +kernel
theorem dX10_most_26 : decode cX10_most 26 = .ok (.getfield 108, 3) := by decide +kernel
theorem dX10_most_29 : decode cX10_most 29 = .ok (.iload_n 2, 1) := by decide +kernel
theorem dX10_most_30 : decode cX10_most 30 = .ok (.iconst 0, 1) := by decide +kernel
theorem dX10_most_31 : decode cX10_most 31 = .ok (.iastore, 1) := by decide +kernel
theorem dX10_most_32 : decode cX10_most 32 = .ok (.iinc 2 1, 3) := by decide +kernel
theorem dX10_most_35 : decode cX10_most 35 = .ok (.goto (-16), 3) := by decide +kernel
theorem dX10_most_38 : decode cX10_most 38 = .ok (.aload_n 0, 1) := by decide +kernel
theorem dX10_most_39 : decode cX10_most 39 = .ok (.invokevirtual 388, 3) := by decide +kernel
theorem dX10_most_42 : decode cX10_most 42 = .ok (.iconst 0, 1) := by decide +kernel
theorem dX10_most_43 : decode cX10_most 43 = .ok (.istore_n 2, 1) := by decide +kernel
theorem dX10_most_44 : decode cX10_most 44 = .ok (.iload_n 2, 1) := by decide +kernel
theorem dX10_most_45 : decode cX10_most 45 = .ok (.iload_n 1, 1) := by decide +kernel
theorem dX10_most_46 : decode cX10_most 46 = .ok (.if_icmp .ge 13, 3) := by decide +kernel
theorem dX10_most_49 : decode cX10_most 49 = .ok (.aload_n 0, 1) := by decide +kernel
theorem dX10_most_50 : decode cX10_most 50 = .ok (.invokevirtual 428, 3) := by decide +kernel
theorem dX10_most_53 : decode cX10_most 53 = .ok (.iinc 2 1, 3) := by decide +kernel
theorem dX10_most_56 : decode cX10_most 56 = .ok (.goto (-12), 3) := by decide +kernel
theorem dX10_most_59 : decode cX10_most 59 = .ok (.iconst (-1), 1) := by decide +kernel
theorem dX10_most_60 : decode cX10_most 60 = .ok (.istore_n 2, 1) := by decide +kernel
theorem dX10_most_61 : decode cX10_most 61 = .ok (.iconst 0, 1) := by decide +kernel
theorem dX10_most_62 : decode cX10_most 62 = .ok (.istore_n 3, 1) := by decide +kernel
theorem dX10_most_63 : decode cX10_most 63 = .ok (.iload_n 3, 1) := by decide +kernel
theorem dX10_most_64 : decode cX10_most 64 = .ok (.aload_n 0, 1) := by decide +kernel
theorem dX10_most_65 : decode cX10_most 65 = .ok (.getfield 278, 3) := by decide +kernel
theorem dX10_most_68 : decode cX10_most 68 = .ok (.if_icmp .ge 35, 3) := by decide +kernel
theorem dX10_most_71 : decode cX10_most 71 = .ok (.aload_n 0, 1) := by decide +kernel
theorem dX10_most_72 : decode cX10_most 72 = .ok (.getfield 108, 3) := by decide +kernel
theorem dX10_most_75 : decode cX10_most 75 = .ok (.iload_n 3, 1) := by decide +kernel
theorem dX10_most_76 : decode cX10_most 76 = .ok (.iaload, 1) := by decide +kernel
theorem dX10_most_77 : decode cX10_most 77 = .ok (.iload_n 2, 1) := by decide +kernel
theorem dX10_most_78 : decode cX10_most 78 = .ok (.iconst (-1), 1) := by decide +kernel
theorem dX10_most_79 : decode cX10_most 79 = .ok (.if_icmp .ne 7, 3) := by decide +kernel
theorem dX10_most_82 : decode cX10_most 82 = .ok (.iconst 0, 1) := by decide +kernel
theorem dX10_most_83 : decode cX10_most 83 = .ok (.goto 9, 3) := by decide +kernel
theorem dX10_most_86 : decode cX10_most 86 = .ok (.aload_n 0, 1) := by decide +kernel
theorem dX10_most_87 : decode cX10_most 87 = .ok (.getfield 108, 3) := by decide +kernel
theorem dX10_most_90 : decode cX10_most 90 = .ok (.iload_n 2, 1) := by decide +kernel
theorem dX10_most_91 : decode cX10_most 91 = .ok (.iaload, 1) := by decide +kernel
theorem dX10_most_92 : decode cX10_most 92 = .ok (.if_icmp .le 5, 3) := by decide +kernel
theorem dX10_most_95 : decode cX10_most 95 = .ok (.iload_n 3, 1) := by decide +kernel
theorem dX10_most_96 : decode cX10_most 96 = .ok (.istore_n 2, 1) := by decide +kernel
theorem dX10_most_97 : decode cX10_most 97 = .ok (.iinc 3 1, 3) := by decide +kernel
theorem dX10_most_100 : decode cX10_most 100 = .ok (.goto (-37), 3) := by decide +kernel
theorem dX10_most_103 : decode cX10_most 103 = .ok (.iload_n 2, 1) := by decide +kernel
theorem dX10_most_104 : decode cX10_most 104 = .ok (.ireturn, 1) := by decide +kernel
theorem dX10_ringsOften_0 : decode cX10_ringsOften 0 = .ok (.aload_n 0, 1) := by decide +kernel
theorem dX10_ringsOften_1 : decode cX10_ringsOften 1 = .ok (.getfield 69, 3) := by decide +kernel
theorem dX10_ringsOften_4 : decode cX10_ringsOften 4 = .ok (.bipush 34, 2) := by decide +kernel
theorem dX10_ringsOften_6 : decode cX10_ringsOften 6 = .ok (.iaload, 1) := by decide +kernel
theorem dX10_ringsOften_7 : decode cX10_ringsOften 7 = .ok (.istore_n 1, 1) := by decide +kernel
theorem dX10_ringsOften_8 : decode cX10_ringsOften 8 = .ok (.aload_n 0, 1) := by decide +kernel
theorem dX10_ringsOften_9 : decode cX10_ringsOften 9 = .ok (.bipush 33, 2) := by decide +kernel
theorem dX10_ringsOften_11 : decode cX10_ringsOften 11 = .ok (.invokevirtual 358, 3) := by decide +kernel
theorem dX10_ringsOften_14 : decode cX10_ringsOften 14 = .ok (.iconst 0, 1) := by decide +kernel
theorem dX10_ringsOften_15 : decode cX10_ringsOften 15 = .ok (.istore_n 2, 1) := by decide +kernel
theorem dX10_ringsOften_16 : decode cX10_ringsOften 16 = .ok (.iload_n 2, 1) := by decide +kernel
theorem dX10_ringsOften_17 : decode cX10_ringsOften 17 = .ok (.aload_n 0, 1) := by decide +kernel
theorem dX10_ringsOften_18 : decode cX10_ringsOften 18 = .ok (.getfield 281, 3) := by decide +kernel
theorem dX10_ringsOften_21 : decode cX10_ringsOften 21 = .ok (.if_icmp .ge 31, 3) := by decide +kernel
theorem dX10_ringsOften_24 : decode cX10_ringsOften 24 = .ok (.iload_n 1, 1) := by decide +kernel
theorem dX10_ringsOften_25 : decode cX10_ringsOften 25 = .ok (.iconst (-1), 1) := by decide +kernel
theorem dX10_ringsOften_26 : decode cX10_ringsOften 26 = .ok (.if_icmp .eq 13, 3) := by decide +kernel
theorem dX10_ringsOften_29 : decode cX10_ringsOften 29 = .ok (.aload_n 0, 1) := by decide +kernel
theorem dX10_ringsOften_30 : decode cX10_ringsOften 30 = .ok (.getfield 108, 3) := by decide +kernel
theorem dX10_ringsOften_33 : decode cX10_ringsOften 33 = .ok (.iload_n 1, 1) := by decide +kernel
theorem dX10_ringsOften_34 : decode cX10_ringsOften 34 = .ok (.dup2, 1) := by decide +kernel
theorem dX10_ringsOften_35 : decode cX10_ringsOften 35 = .ok (.iaload, 1) := by decide +kernel
theorem dX10_ringsOften_36 : decode cX10_ringsOften 36 = .ok (.iconst 1, 1) := by decide +kernel
theorem dX10_ringsOften_37 : decode cX10_ringsOften 37 = .ok (.iadd, 1) := by decide +kernel
theorem dX10_ringsOften_38 : decode cX10_ringsOften 38 = .ok (.iastore, 1) := by decide +kernel
theorem dX10_ringsOften_39 : decode cX10_ringsOften 39 = .ok (.aload_n 0, 1) := by decide +kernel
theorem dX10_ringsOften_40 : decode cX10_ringsOften 40 = .ok (.getfield 84, 3) := by decide +kernel
theorem dX10_ringsOften_43 : decode cX10_ringsOften 43 = .ok (.iload_n 2, 1) := by decide +kernel
theorem dX10_ringsOften_44 : decode cX10_ringsOften 44 = .ok (.iaload, 1) := by decide +kernel
theorem dX10_ringsOften_45 : decode cX10_ringsOften 45 = .ok (.istore_n 1, 1) := by decide +kernel
theorem dX10_ringsOften_46 : decode cX10_ringsOften 46 = .ok (.iinc 2 1, 3) := by decide +kernel
theorem dX10_ringsOften_49 : decode cX10_ringsOften 49 = .ok (.goto (-33), 3) := by decide +kernel
theorem dX10_ringsOften_52 : decode cX10_ringsOften 52 = .ok (.return_, 1) := by decide +kernel
theorem dX10_soonest_0 : decode cX10_soonest 0 = .ok (.aload_n 0, 1) := by decide +kernel
theorem dX10_soonest_1 : decode cX10_soonest 1 = .ok (.iconst 0, 1) := by decide +kernel
theorem dX10_soonest_2 : decode cX10_soonest 2 = .ok (.putfield 120, 3) := by decide +kernel
theorem dX10_soonest_5 : decode cX10_soonest 5 = .ok (.aload_n 0, 1) := by decide +kernel
theorem dX10_soonest_6 : decode cX10_soonest 6 = .ok (.iload_n 1, 1) := by decide +kernel
theorem dX10_soonest_7 : decode cX10_soonest 7 = .ok (.invokevirtual 376, 3) := by decide +kernel
theorem dX10_soonest_10 : decode cX10_soonest 10 = .ok (.ifCond .eq 18, 3) := by decide +kernel
theorem dX10_soonest_13 : decode cX10_soonest 13 = .ok (.aload_n 0, 1) := by decide +kernel
theorem dX10_soonest_14 : decode cX10_soonest 14 = .ok (.iload_n 2, 1) := by decide +kernel
theorem dX10_soonest_15 : decode cX10_soonest 15 = .ok (.iconst 0, 1) := by decide +kernel
theorem dX10_soonest_16 : decode cX10_soonest 16 = .ok (.bipush 120, 2) := by decide +kernel
theorem dX10_soonest_18 : decode cX10_soonest 18 = .ok (.invokestatic 361, 3) := by decide +kernel
theorem dX10_soonest_21 : decode cX10_soonest 21 = .ok (.iconst 2, 1) := by decide +kernel
theorem dX10_soonest_22 : decode cX10_soonest 22 = .ok (.invokevirtual 271, 3) := by decide +kernel
theorem dX10_soonest_25 : decode cX10_soonest 25 = .ok (.ifCond .ne 5, 3) := by decide +kernel
theorem dX10_soonest_28 : decode cX10_soonest 28 = .ok (.iconst 0, 1) := by decide +kernel
theorem dX10_soonest_29 : decode cX10_soonest 29 = .ok (.ireturn, 1) := by decide +kernel
theorem dX10_soonest_30 : decode cX10_soonest 30 = .ok (.aload_n 0, 1) := by decide +kernel
theorem dX10_soonest_31 : decode cX10_soonest 31 = .ok (.invokevirtual 388, 3) := by decide +kernel
theorem dX10_soonest_34 : decode cX10_soonest 34 = .ok (.iconst 1, 1) := by decide +kernel
theorem dX10_soonest_35 : decode cX10_soonest 35 = .ok (.istore_n 3, 1) := by decide +kernel
theorem dX10_soonest_36 : decode cX10_soonest 36 = .ok (.iload_n 3, 1) := by decide +kernel
theorem dX10_soonest_37 : decode cX10_soonest 37 = .ok (.bipush 40, 2) := by decide +kernel
theorem dX10_soonest_39 : decode cX10_soonest 39 = .ok (.if_icmp .gt 27, 3) := by decide +kernel
theorem dX10_soonest_42 : decode cX10_soonest 42 = .ok (.aload_n 0, 1) := by decide +kernel
theorem dX10_soonest_43 : decode cX10_soonest 43 = .ok (.bipush 33, 2) := by decide +kernel
theorem dX10_soonest_45 : decode cX10_soonest 45 = .ok (.invokevirtual 358, 3) := by decide +kernel
theorem dX10_soonest_48 : decode cX10_soonest 48 = .ok (.aload_n 0, 1) := by decide +kernel
theorem dX10_soonest_49 : decode cX10_soonest 49 = .ok (.getfield 81, 3) := by decide +kernel
theorem dX10_soonest_52 : decode cX10_soonest 52 = .ok (.iload_n 1, 1) := by decide +kernel
theorem dX10_soonest_53 : decode cX10_soonest 53 = .ok (.iaload, 1) := by decide +kernel
theorem dX10_soonest_54 : decode cX10_soonest 54 = .ok (.iload_n 2, 1) := by decide +kernel
theorem dX10_soonest_55 : decode cX10_soonest 55 = .ok (.if_icmp .lt 5, 3) := by decide +kernel
theorem dX10_soonest_58 : decode cX10_soonest 58 = .ok (.iload_n 3, 1) := by decide +kernel
theorem dX10_soonest_59 : decode cX10_soonest 59 = .ok (.ireturn, 1) := by decide +kernel
theorem dX10_soonest_60 : decode cX10_soonest 60 = .ok (.iinc 3 1, 3) := by decide +kernel
theorem dX10_soonest_63 : decode cX10_soonest 63 = .ok (.goto (-27), 3) := by decide +kernel
theorem dX10_soonest_66 : decode cX10_soonest 66 = .ok (.iconst (-1), 1) := by decide +kernel
theorem dX10_soonest_67 : decode cX10_soonest 67 = .ok (.ireturn, 1) := by decide +kernel
theorem dX10_handed_0 : decode cX10_handed 0 = .ok (.aload_n 0, 1) := by decide +kernel
theorem dX10_handed_1 : decode cX10_handed 1 = .ok (.iconst 0, 1) := by decide +kernel
theorem dX10_handed_2 : decode cX10_handed 2 = .ok (.putfield 120, 3) := by decide +kernel
theorem dX10_handed_5 : decode cX10_handed 5 = .ok (.aload_n 0, 1) := by decide +kernel
theorem dX10_handed_6 : decode cX10_handed 6 = .ok (.iload_n 1, 1) := by decide +kernel
theorem dX10_handed_7 : decode cX10_handed 7 = .ok (.iconst 0, 1) := by decide +kernel
theorem dX10_handed_8 : decode cX10_handed 8 = .ok (.iconst 1, 1) := by decide +kernel
theorem dX10_handed_9 : decode cX10_handed 9 = .ok (.invokevirtual 394, 3) := by decide +kernel
theorem dX10_handed_12 : decode cX10_handed 12 = .ok (.ifCond .ne 5, 3) := by decide +kernel
theorem dX10_handed_15 : decode cX10_handed 15 = .ok (.iconst 0, 1) := by decide +kernel
theorem dX10_handed_16 : decode cX10_handed 16 = .ok (.ireturn, 1) := by decide +kernel
theorem dX10_handed_17 : decode cX10_handed 17 = .ok (.iconst 0, 1) := by decide +kernel
theorem dX10_handed_18 : decode cX10_handed 18 = .ok (.istore_n 2, 1) := by decide +kernel
theorem dX10_handed_19 : decode cX10_handed 19 = .ok (.aload_n 0, 1) := by decide +kernel
theorem dX10_handed_20 : decode cX10_handed 20 = .ok (.invokevirtual 388, 3) := by decide +kernel
theorem dX10_handed_23 : decode cX10_handed 23 = .ok (.iconst 0, 1) := by decide +kernel
theorem dX10_handed_24 : decode cX10_handed 24 = .ok (.istore_n 3, 1) := by decide +kernel
theorem dX10_handed_25 : decode cX10_handed 25 = .ok (.iload_n 3, 1) := by decide +kernel
theorem dX10_handed_26 : decode cX10_handed 26 = .ok (.iload_n 1, 1) := by decide +kernel
theorem dX10_handed_27 : decode cX10_handed 27 = .ok (.if_icmp .ge 22, 3) := by decide +kernel
theorem dX10_handed_30 : decode cX10_handed 30 = .ok (.aload_n 0, 1) := by decide +kernel
theorem dX10_handed_31 : decode cX10_handed 31 = .ok (.bipush 33, 2) := by decide +kernel
theorem dX10_handed_33 : decode cX10_handed 33 = .ok (.invokevirtual 358, 3) := by decide +kernel
theorem dX10_handed_36 : decode cX10_handed 36 = .ok (.iload_n 2, 1) := by decide +kernel
theorem dX10_handed_37 : decode cX10_handed 37 = .ok (.aload_n 0, 1) := by decide +kernel
theorem dX10_handed_38 : decode cX10_handed 38 = .ok (.getfield 351, 3) := by decide +kernel
theorem dX10_handed_41 : decode cX10_handed 41 = .ok (.iadd, 1) := by decide +kernel
theorem dX10_handed_42 : decode cX10_handed 42 = .ok (.istore_n 2, 1) := by decide +kernel
theorem dX10_handed_43 : decode cX10_handed 43 = .ok (.iinc 3 1, 3) := by decide +kernel
theorem dX10_handed_46 : decode cX10_handed 46 = .ok (.goto (-21), 3) := by decide +kernel
theorem dX10_handed_49 : decode cX10_handed 49 = .ok (.iload_n 2, 1) := by decide +kernel
theorem dX10_handed_50 : decode cX10_handed 50 = .ok (.ireturn, 1) := by decide +kernel
theorem dX10_prompt_0 : decode cX10_prompt 0 = .ok (.aload_n 0, 1) := by decide +kernel
theorem dX10_prompt_1 : decode cX10_prompt 1 = .ok (.iconst 0, 1) := by decide +kernel
theorem dX10_prompt_2 : decode cX10_prompt 2 = .ok (.putfield 120, 3) := by decide +kernel
theorem dX10_prompt_5 : decode cX10_prompt 5 = .ok (.aload_n 0, 1) := by decide +kernel
theorem dX10_prompt_6 : decode cX10_prompt 6 = .ok (.iload_n 1, 1) := by decide +kernel
theorem dX10_prompt_7 : decode cX10_prompt 7 = .ok (.invokevirtual 376, 3) := by decide +kernel
theorem dX10_prompt_10 : decode cX10_prompt 10 = .ok (.ifCond .ne 5, 3) := by decide +kernel
theorem dX10_prompt_13 : decode cX10_prompt 13 = .ok (.iconst 0, 1) := by decide +kernel
theorem dX10_prompt_14 : decode cX10_prompt 14 = .ok (.ireturn, 1) := by decide +kernel
theorem dX10_prompt_15 : decode cX10_prompt 15 = .ok (.iconst 0, 1) := by decide +kernel
theorem dX10_prompt_16 : decode cX10_prompt 16 = .ok (.istore_n 2, 1) := by decide +kernel
theorem dX10_prompt_17 : decode cX10_prompt 17 = .ok (.iconst 0, 1) := by decide +kernel
theorem dX10_prompt_18 : decode cX10_prompt 18 = .ok (.istore_n 3, 1) := by decide +kernel
theorem dX10_prompt_19 : decode cX10_prompt 19 = .ok (.iload_n 3, 1) := by decide +kernel
theorem dX10_prompt_20 : decode cX10_prompt 20 = .ok (.aload_n 0, 1) := by decide +kernel
theorem dX10_prompt_21 : decode cX10_prompt 21 = .ok (.getfield 278, 3) := by decide +kernel
theorem dX10_prompt_24 : decode cX10_prompt 24 = .ok (.if_icmp .ge 37, 3) := by decide +kernel
theorem dX10_prompt_27 : decode cX10_prompt 27 = .ok (.iload_n 2, 1) := by decide +kernel
theorem dX10_prompt_28 : decode cX10_prompt 28 = .ok (.aload_n 0, 1) := by decide +kernel
theorem dX10_prompt_29 : decode cX10_prompt 29 = .ok (.iload_n 3, 1) := by decide +kernel
theorem dX10_prompt_30 : decode cX10_prompt 30 = .ok (.invokevirtual 367, 3) := by decide +kernel
theorem dX10_prompt_33 : decode cX10_prompt 33 = .ok (.ifCond .eq 19, 3) := by decide +kernel
theorem dX10_prompt_36 : decode cX10_prompt 36 = .ok (.aload_n 0, 1) := by decide +kernel
theorem dX10_prompt_37 : decode cX10_prompt 37 = .ok (.iconst 0, 1) := by decide +kernel
theorem dX10_prompt_38 : decode cX10_prompt 38 = .ok (.iload_n 3, 1) := by decide +kernel
theorem dX10_prompt_39 : decode cX10_prompt 39 = .ok (.iload_n 1, 1) := by decide +kernel
theorem dX10_prompt_40 : decode cX10_prompt 40 = .ok (.invokevirtual 315, 3) := by decide +kernel
theorem dX10_prompt_43 : decode cX10_prompt 43 = .ok (.ifCond .ne 9, 3) := by decide +kernel
theorem dX10_prompt_46 : decode cX10_prompt 46 = .ok (.iconst 1, 1) := by decide +kernel
theorem dX10_prompt_47 : decode cX10_prompt 47 = .ok (.iload_n 3, 1) := by decide +kernel
theorem dX10_prompt_48 : decode cX10_prompt 48 = .ok (.ishl, 1) := by decide +kernel
theorem dX10_prompt_49 : decode cX10_prompt 49 = .ok (.goto 4, 3) := by decide +kernel
theorem dX10_prompt_52 : decode cX10_prompt 52 = .ok (.iconst 0, 1) := by decide +kernel
theorem dX10_prompt_53 : decode cX10_prompt 53 = .ok (.ior, 1) := by decide +kernel
theorem dX10_prompt_54 : decode cX10_prompt 54 = .ok (.istore_n 2, 1) := by decide +kernel
theorem dX10_prompt_55 : decode cX10_prompt 55 = .ok (.iinc 3 1, 3) := by decide +kernel
theorem dX10_prompt_58 : decode cX10_prompt 58 = .ok (.goto (-39), 3) := by decide +kernel
theorem dX10_prompt_61 : decode cX10_prompt 61 = .ok (.iload_n 2, 1) := by decide +kernel
theorem dX10_prompt_62 : decode cX10_prompt 62 = .ok (.ireturn, 1) := by decide +kernel
theorem dX10_walk_0 : decode cX10_walk 0 = .ok (.aload_n 0, 1) := by decide +kernel
theorem dX10_walk_1 : decode cX10_walk 1 = .ok (.iconst 0, 1) := by decide +kernel
theorem dX10_walk_2 : decode cX10_walk 2 = .ok (.putfield 120, 3) := by decide +kernel
theorem dX10_walk_5 : decode cX10_walk 5 = .ok (.aload_n 0, 1) := by decide +kernel
theorem dX10_walk_6 : decode cX10_walk 6 = .ok (.iload_n 1, 1) := by decide +kernel
theorem dX10_walk_7 : decode cX10_walk 7 = .ok (.invokevirtual 370, 3) := by decide +kernel
theorem dX10_walk_10 : decode cX10_walk 10 = .ok (.ifCond .ne 5, 3) := by decide +kernel
theorem dX10_walk_13 : decode cX10_walk 13 = .ok (.iconst 0, 1) := by decide +kernel
theorem dX10_walk_14 : decode cX10_walk 14 = .ok (.ireturn, 1) := by decide +kernel
theorem dX10_walk_15 : decode cX10_walk 15 = .ok (.ldc_w 311, 3) := by decide +kernel
theorem dX10_walk_18 : decode cX10_walk 18 = .ok (.istore_n 2, 1) := by decide +kernel
theorem dX10_walk_19 : decode cX10_walk 19 = .ok (.iconst (-1), 1) := by decide +kernel
theorem dX10_walk_20 : decode cX10_walk 20 = .ok (.istore_n 3, 1) := by decide +kernel
theorem dX10_walk_21 : decode cX10_walk 21 = .ok (.iconst 0, 1) := by decide +kernel
theorem dX10_walk_22 : decode cX10_walk 22 = .ok (.istore 4, 2) := by decide +kernel
theorem dX10_walk_24 : decode cX10_walk 24 = .ok (.iload 4, 2) := by decide +kernel
theorem dX10_walk_26 : decode cX10_walk 26 = .ok (.aload_n 0, 1) := by decide +kernel
theorem dX10_walk_27 : decode cX10_walk 27 = .ok (.getfield 281, 3) := by decide +kernel
theorem dX10_walk_30 : decode cX10_walk 30 = .ok (.if_icmp .ge 44, 3) := by decide +kernel
theorem dX10_walk_33 : decode cX10_walk 33 = .ok (.iload_n 2, 1) := by decide +kernel
theorem dX10_walk_34 : decode cX10_walk 34 = .ok (.aload_n 0, 1) := by decide +kernel
theorem dX10_walk_35 : decode cX10_walk 35 = .ok (.getfield 29, 3) := by decide +kernel
theorem dX10_walk_38 : decode cX10_walk 38 = .ok (.iload 4, 2) := by decide +kernel
theorem dX10_walk_40 : decode cX10_walk 40 = .ok (.iaload, 1) := by decide +kernel
theorem dX10_walk_41 : decode cX10_walk 41 = .ok (.invokestatic 331, 3) := by decide +kernel
theorem dX10_walk_44 : decode cX10_walk 44 = .ok (.istore_n 2, 1) := by decide +kernel
theorem dX10_walk_45 : decode cX10_walk 45 = .ok (.aload_n 0, 1) := by decide +kernel
theorem dX10_walk_46 : decode cX10_walk 46 = .ok (.getfield 29, 3) := by decide +kernel
theorem dX10_walk_49 : decode cX10_walk 49 = .ok (.iload 4, 2) := by decide +kernel
theorem dX10_walk_51 : decode cX10_walk 51 = .ok (.iaload, 1) := by decide +kernel
theorem dX10_walk_52 : decode cX10_walk 52 = .ok (.iload_n 3, 1) := by decide +kernel
theorem dX10_walk_53 : decode cX10_walk 53 = .ok (.if_icmp .le 13, 3) := by decide +kernel
theorem dX10_walk_56 : decode cX10_walk 56 = .ok (.aload_n 0, 1) := by decide +kernel
theorem dX10_walk_57 : decode cX10_walk 57 = .ok (.getfield 29, 3) := by decide +kernel
theorem dX10_walk_60 : decode cX10_walk 60 = .ok (.iload 4, 2) := by decide +kernel
theorem dX10_walk_62 : decode cX10_walk 62 = .ok (.iaload, 1) := by decide +kernel
theorem dX10_walk_63 : decode cX10_walk 63 = .ok (.goto 4, 3) := by decide +kernel
theorem dX10_walk_66 : decode cX10_walk 66 = .ok (.iload_n 3, 1) := by decide +kernel
theorem dX10_walk_67 : decode cX10_walk 67 = .ok (.istore_n 3, 1) := by decide +kernel
theorem dX10_walk_68 : decode cX10_walk 68 = .ok (.iinc 4 1, 3) := by decide +kernel
theorem dX10_walk_71 : decode cX10_walk 71 = .ok (.goto (-47), 3) := by decide +kernel
theorem dX10_walk_74 : decode cX10_walk 74 = .ok (.aload_n 0, 1) := by decide +kernel
theorem dX10_walk_75 : decode cX10_walk 75 = .ok (.getfield 281, 3) := by decide +kernel
theorem dX10_walk_78 : decode cX10_walk 78 = .ok (.ifCond .ne 7, 3) := by decide +kernel
theorem dX10_walk_81 : decode cX10_walk 81 = .ok (.iconst 0, 1) := by decide +kernel
theorem dX10_walk_82 : decode cX10_walk 82 = .ok (.goto 35, 3) := by decide +kernel
