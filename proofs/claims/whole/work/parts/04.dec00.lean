theorem dX0_init_0 : decode cX0_init 0 = .ok (.aload_n 0, 1) := by decide +kernel
theorem dX0_init_1 : decode cX0_init 1 = .ok (.invokespecial 3, 3) := by decide +kernel
theorem dX0_init_4 : decode cX0_init 4 = .ok (.aload_n 0, 1) := by decide +kernel
theorem dX0_init_5 : decode cX0_init 5 = .ok (.sipush 1320, 3) := by decide +kernel
theorem dX0_init_8 : decode cX0_init 8 = .ok (.newarray .int, 2) := by decide +kernel
theorem dX0_init_10 : decode cX0_init 10 = .ok (.putfield 11, 3) := by decide +kernel
theorem dX0_init_13 : decode cX0_init 13 = .ok (.aload_n 0, 1) := by decide +kernel
theorem dX0_init_14 : decode cX0_init 14 = .ok (.iconst 0, 1) := by decide +kernel
theorem dX0_init_15 : decode cX0_init 15 = .ok (.putfield 17, 3) := by decide +kernel
theorem dX0_init_18 : decode cX0_init 18 = .ok (.aload_n 0, 1) := by decide +kernel
theorem dX0_init_19 : decode cX0_init 19 = .ok (.iconst 0, 1) := by decide +kernel
theorem dX0_init_20 : decode cX0_init 20 = .ok (.putfield 21, 3) := by decide +kernel
theorem dX0_init_23 : decode cX0_init 23 = .ok (.return_, 1) := by decide +kernel
theorem dX0_clear_0 : decode cX0_clear 0 = .ok (.aload_n 0, 1) := by decide +kernel
theorem dX0_clear_1 : decode cX0_clear 1 = .ok (.iconst 0, 1) := by decide +kernel
theorem dX0_clear_2 : decode cX0_clear 2 = .ok (.putfield 21, 3) := by decide +kernel
theorem dX0_clear_5 : decode cX0_clear 5 = .ok (.return_, 1) := by decide +kernel
theorem dX0_keep_0 : decode cX0_keep 0 = .ok (.aload_n 0, 1) := by decide +kernel
theorem dX0_keep_1 : decode cX0_keep 1 = .ok (.getfield 21, 3) := by decide +kernel
theorem dX0_keep_4 : decode cX0_keep 4 = .ok (.bipush 40, 2) := by decide +kernel
theorem dX0_keep_6 : decode cX0_keep 6 = .ok (.if_icmp .ne 26, 3) := by decide +kernel
theorem dX0_keep_9 : decode cX0_keep 9 = .ok (.aload_n 0, 1) := by decide +kernel
theorem dX0_keep_10 : decode cX0_keep 10 = .ok (.aload_n 0, 1) := by decide +kernel
theorem dX0_keep_11 : decode cX0_keep 11 = .ok (.getfield 17, 3) := by decide +kernel
theorem dX0_keep_14 : decode cX0_keep 14 = .ok (.iconst 1, 1) := by decide +kernel
theorem dX0_keep_15 : decode cX0_keep 15 = .ok (.iadd, 1) := by decide +kernel
theorem dX0_keep_16 : decode cX0_keep 16 = .ok (.bipush 40, 2) := by decide +kernel
theorem dX0_keep_18 : decode cX0_keep 18 = .ok (.irem, 1) := by decide +kernel
theorem dX0_keep_19 : decode cX0_keep 19 = .ok (.putfield 17, 3) := by decide +kernel
theorem dX0_keep_22 : decode cX0_keep 22 = .ok (.aload_n 0, 1) := by decide +kernel
theorem dX0_keep_23 : decode cX0_keep 23 = .ok (.dup, 1) := by decide +kernel
theorem dX0_keep_24 : decode cX0_keep 24 = .ok (.getfield 21, 3) := by decide +kernel
theorem dX0_keep_27 : decode cX0_keep 27 = .ok (.iconst 1, 1) := by decide +kernel
theorem dX0_keep_28 : decode cX0_keep 28 = .ok (.isub, 1) := by decide +kernel
theorem dX0_keep_29 : decode cX0_keep 29 = .ok (.putfield 21, 3) := by decide +kernel
theorem dX0_keep_32 : decode cX0_keep 32 = .ok (.aload_n 1, 1) := by decide +kernel
theorem dX0_keep_33 : decode cX0_keep 33 = .ok (.aload_n 0, 1) := by decide +kernel
theorem dX0_keep_34 : decode cX0_keep 34 = .ok (.getfield 11, 3) := by decide +kernel
theorem dX0_keep_37 : decode cX0_keep 37 = .ok (.aload_n 0, 1) := by decide +kernel
theorem dX0_keep_38 : decode cX0_keep 38 = .ok (.getfield 17, 3) := by decide +kernel
theorem dX0_keep_41 : decode cX0_keep 41 = .ok (.aload_n 0, 1) := by decide +kernel
theorem dX0_keep_42 : decode cX0_keep 42 = .ok (.getfield 21, 3) := by decide +kernel
theorem dX0_keep_45 : decode cX0_keep 45 = .ok (.iadd, 1) := by decide +kernel
theorem dX0_keep_46 : decode cX0_keep 46 = .ok (.bipush 40, 2) := by decide +kernel
theorem dX0_keep_48 : decode cX0_keep 48 = .ok (.irem, 1) := by decide +kernel
theorem dX0_keep_49 : decode cX0_keep 49 = .ok (.invokevirtual 24, 3) := by decide +kernel
theorem dX0_keep_52 : decode cX0_keep 52 = .ok (.aload_n 0, 1) := by decide +kernel
theorem dX0_keep_53 : decode cX0_keep 53 = .ok (.dup, 1) := by decide +kernel
theorem dX0_keep_54 : decode cX0_keep 54 = .ok (.getfield 21, 3) := by decide +kernel
theorem dX0_keep_57 : decode cX0_keep 57 = .ok (.iconst 1, 1) := by decide +kernel
theorem dX0_keep_58 : decode cX0_keep 58 = .ok (.iadd, 1) := by decide +kernel
theorem dX0_keep_59 : decode cX0_keep 59 = .ok (.putfield 21, 3) := by decide +kernel
theorem dX0_keep_62 : decode cX0_keep 62 = .ok (.return_, 1) := by decide +kernel
theorem dX0_takeBack_0 : decode cX0_takeBack 0 = .ok (.aload_n 0, 1) := by decide +kernel
theorem dX0_takeBack_1 : decode cX0_takeBack 1 = .ok (.getfield 21, 3) := by decide +kernel
theorem dX0_takeBack_4 : decode cX0_takeBack 4 = .ok (.ifCond .ne 5, 3) := by decide +kernel
theorem dX0_takeBack_7 : decode cX0_takeBack 7 = .ok (.iconst 0, 1) := by decide +kernel
theorem dX0_takeBack_8 : decode cX0_takeBack 8 = .ok (.ireturn, 1) := by decide +kernel
theorem dX0_takeBack_9 : decode cX0_takeBack 9 = .ok (.aload_n 0, 1) := by decide +kernel
theorem dX0_takeBack_10 : decode cX0_takeBack 10 = .ok (.dup, 1) := by decide +kernel
theorem dX0_takeBack_11 : decode cX0_takeBack 11 = .ok (.getfield 21, 3) := by decide +kernel
theorem dX0_takeBack_14 : decode cX0_takeBack 14 = .ok (.iconst 1, 1) := by decide +kernel
theorem dX0_takeBack_15 : decode cX0_takeBack 15 = .ok (.isub, 1) := by decide +kernel
theorem dX0_takeBack_16 : decode cX0_takeBack 16 = .ok (.putfield 21, 3) := by decide +kernel
theorem dX0_takeBack_19 : decode cX0_takeBack 19 = .ok (.aload_n 1, 1) := by decide +kernel
theorem dX0_takeBack_20 : decode cX0_takeBack 20 = .ok (.aload_n 0, 1) := by decide +kernel
theorem dX0_takeBack_21 : decode cX0_takeBack 21 = .ok (.getfield 11, 3) := by decide +kernel
theorem dX0_takeBack_24 : decode cX0_takeBack 24 = .ok (.aload_n 0, 1) := by decide +kernel
theorem dX0_takeBack_25 : decode cX0_takeBack 25 = .ok (.getfield 17, 3) := by decide +kernel
theorem dX0_takeBack_28 : decode cX0_takeBack 28 = .ok (.aload_n 0, 1) := by decide +kernel
theorem dX0_takeBack_29 : decode cX0_takeBack 29 = .ok (.getfield 21, 3) := by decide +kernel
theorem dX0_takeBack_32 : decode cX0_takeBack 32 = .ok (.iadd, 1) := by decide +kernel
theorem dX0_takeBack_33 : decode cX0_takeBack 33 = .ok (.bipush 40, 2) := by decide +kernel
theorem dX0_takeBack_35 : decode cX0_takeBack 35 = .ok (.irem, 1) := by decide +kernel
theorem dX0_takeBack_36 : decode cX0_takeBack 36 = .ok (.invokevirtual 28, 3) := by decide +kernel
theorem dX0_takeBack_39 : decode cX0_takeBack 39 = .ok (.iconst 1, 1) := by decide +kernel
theorem dX0_takeBack_40 : decode cX0_takeBack 40 = .ok (.ireturn, 1) := by decide +kernel
theorem dX0_copyFrom_0 : decode cX0_copyFrom 0 = .ok (.aload_n 1, 1) := by decide +kernel
theorem dX0_copyFrom_1 : decode cX0_copyFrom 1 = .ok (.getfield 11, 3) := by decide +kernel
theorem dX0_copyFrom_4 : decode cX0_copyFrom 4 = .ok (.iconst 0, 1) := by decide +kernel
theorem dX0_copyFrom_5 : decode cX0_copyFrom 5 = .ok (.aload_n 0, 1) := by decide +kernel
theorem dX0_copyFrom_6 : decode cX0_copyFrom 6 = .ok (.getfield 11, 3) := by decide +kernel
theorem dX0_copyFrom_9 : decode cX0_copyFrom 9 = .ok (.iconst 0, 1) := by decide +kernel
theorem dX0_copyFrom_10 : decode cX0_copyFrom 10 = .ok (.aload_n 0, 1) := by decide +kernel
theorem dX0_copyFrom_11 : decode cX0_copyFrom 11 = .ok (.getfield 11, 3) := by decide +kernel
theorem dX0_copyFrom_14 : decode cX0_copyFrom 14 = .ok (.arraylength, 1) := by decide +kernel
theorem dX0_copyFrom_15 : decode cX0_copyFrom 15 = .ok (.invokestatic 31, 3) := by decide +kernel
theorem dX0_copyFrom_18 : decode cX0_copyFrom 18 = .ok (.aload_n 0, 1) := by decide +kernel
theorem dX0_copyFrom_19 : decode cX0_copyFrom 19 = .ok (.aload_n 1, 1) := by decide +kernel
theorem dX0_copyFrom_20 : decode cX0_copyFrom 20 = .ok (.getfield 17, 3) := by decide +kernel
theorem dX0_copyFrom_23 : decode cX0_copyFrom 23 = .ok (.putfield 17, 3) := by decide +kernel
theorem dX0_copyFrom_26 : decode cX0_copyFrom 26 = .ok (.aload_n 0, 1) := by decide +kernel
theorem dX0_copyFrom_27 : decode cX0_copyFrom 27 = .ok (.aload_n 1, 1) := by decide +kernel
theorem dX0_copyFrom_28 : decode cX0_copyFrom 28 = .ok (.getfield 21, 3) := by decide +kernel
theorem dX0_copyFrom_31 : decode cX0_copyFrom 31 = .ok (.putfield 21, 3) := by decide +kernel
theorem dX0_copyFrom_34 : decode cX0_copyFrom 34 = .ok (.return_, 1) := by decide +kernel
theorem dX1_init_0 : decode cX1_init 0 = .ok (.aload_n 0, 1) := by decide +kernel
theorem dX1_init_1 : decode cX1_init 1 = .ok (.invokespecial 3, 3) := by decide +kernel
theorem dX1_init_4 : decode cX1_init 4 = .ok (.aload_n 0, 1) := by decide +kernel
theorem dX1_init_5 : decode cX1_init 5 = .ok (.new 9, 3) := by decide +kernel
theorem dX1_init_8 : decode cX1_init 8 = .ok (.dup, 1) := by decide +kernel
theorem dX1_init_9 : decode cX1_init 9 = .ok (.invokespecial 11, 3) := by decide +kernel
theorem dX1_init_12 : decode cX1_init 12 = .ok (.putfield 12, 3) := by decide +kernel
theorem dX1_init_15 : decode cX1_init 15 = .ok (.aload_n 0, 1) := by decide +kernel
theorem dX1_init_16 : decode cX1_init 16 = .ok (.bipush 8, 2) := by decide +kernel
theorem dX1_init_18 : decode cX1_init 18 = .ok (.newarray .int, 2) := by decide +kernel
theorem dX1_init_20 : decode cX1_init 20 = .ok (.putfield 18, 3) := by decide +kernel
theorem dX1_init_23 : decode cX1_init 23 = .ok (.aload_n 0, 1) := by decide +kernel
theorem dX1_init_24 : decode cX1_init 24 = .ok (.bipush 8, 2) := by decide +kernel
theorem dX1_init_26 : decode cX1_init 26 = .ok (.newarray .int, 2) := by decide +kernel
theorem dX1_init_28 : decode cX1_init 28 = .ok (.putfield 22, 3) := by decide +kernel
theorem dX1_init_31 : decode cX1_init 31 = .ok (.aload_n 0, 1) := by decide +kernel
theorem dX1_init_32 : decode cX1_init 32 = .ok (.bipush 8, 2) := by decide +kernel
theorem dX1_init_34 : decode cX1_init 34 = .ok (.newarray .int, 2) := by decide +kernel
theorem dX1_init_36 : decode cX1_init 36 = .ok (.putfield 25, 3) := by decide +kernel
theorem dX1_init_39 : decode cX1_init 39 = .ok (.aload_n 0, 1) := by decide +kernel
theorem dX1_init_40 : decode cX1_init 40 = .ok (.bipush 8, 2) := by decide +kernel
theorem dX1_init_42 : decode cX1_init 42 = .ok (.newarray .int, 2) := by decide +kernel
theorem dX1_init_44 : decode cX1_init 44 = .ok (.putfield 28, 3) := by decide +kernel
theorem dX1_init_47 : decode cX1_init 47 = .ok (.aload_n 0, 1) := by decide +kernel
theorem dX1_init_48 : decode cX1_init 48 = .ok (.bipush 6, 2) := by decide +kernel
theorem dX1_init_50 : decode cX1_init 50 = .ok (.newarray .int, 2) := by decide +kernel
theorem dX1_init_52 : decode cX1_init 52 = .ok (.putfield 31, 3) := by decide +kernel
theorem dX1_init_55 : decode cX1_init 55 = .ok (.aload_n 0, 1) := by decide +kernel
theorem dX1_init_56 : decode cX1_init 56 = .ok (.bipush 6, 2) := by decide +kernel
theorem dX1_init_58 : decode cX1_init 58 = .ok (.newarray .int, 2) := by decide +kernel
theorem dX1_init_60 : decode cX1_init 60 = .ok (.putfield 34, 3) := by decide +kernel
theorem dX1_init_63 : decode cX1_init 63 = .ok (.aload_n 0, 1) := by decide +kernel
theorem dX1_init_64 : decode cX1_init 64 = .ok (.bipush 6, 2) := by decide +kernel
theorem dX1_init_66 : decode cX1_init 66 = .ok (.newarray .int, 2) := by decide +kernel
theorem dX1_init_68 : decode cX1_init 68 = .ok (.putfield 37, 3) := by decide +kernel
theorem dX1_init_71 : decode cX1_init 71 = .ok (.aload_n 0, 1) := by decide +kernel
theorem dX1_init_72 : decode cX1_init 72 = .ok (.iconst 0, 1) := by decide +kernel
theorem dX1_init_73 : decode cX1_init 73 = .ok (.putfield 40, 3) := by decide +kernel
theorem dX1_init_76 : decode cX1_init 76 = .ok (.aload_n 0, 1) := by decide +kernel
theorem dX1_init_77 : decode cX1_init 77 = .ok (.bipush 7, 2) := by decide +kernel
theorem dX1_init_79 : decode cX1_init 79 = .ok (.newarray .int, 2) := by decide +kernel
theorem dX1_init_81 : decode cX1_init 81 = .ok (.putfield 46, 3) := by decide +kernel
theorem dX1_init_84 : decode cX1_init 84 = .ok (.aload_n 0, 1) := by decide +kernel
theorem dX1_init_85 : decode cX1_init 85 = .ok (.new 49, 3) := by decide +kernel
theorem dX1_init_88 : decode cX1_init 88 = .ok (.dup, 1) := by decide +kernel
theorem dX1_init_89 : decode cX1_init 89 = .ok (.invokespecial 51, 3) := by decide +kernel
theorem dX1_init_92 : decode cX1_init 92 = .ok (.putfield 52, 3) := by decide +kernel
theorem dX1_init_95 : decode cX1_init 95 = .ok (.aload_n 0, 1) := by decide +kernel
theorem dX1_init_96 : decode cX1_init 96 = .ok (.iconst 0, 1) := by decide +kernel
theorem dX1_init_97 : decode cX1_init 97 = .ok (.putfield 56, 3) := by decide +kernel
theorem dX1_init_100 : decode cX1_init 100 = .ok (.return_, 1) := by decide +kernel
theorem dX1_begin_0 : decode cX1_begin 0 = .ok (.aload_n 0, 1) := by decide +kernel
theorem dX1_begin_1 : decode cX1_begin 1 = .ok (.aload_n 1, 1) := by decide +kernel
theorem dX1_begin_2 : decode cX1_begin 2 = .ok (.putfield 52, 3) := by decide +kernel
theorem dX1_begin_5 : decode cX1_begin 5 = .ok (.aload_n 0, 1) := by decide +kernel
theorem dX1_begin_6 : decode cX1_begin 6 = .ok (.getfield 12, 3) := by decide +kernel
theorem dX1_begin_9 : decode cX1_begin 9 = .ok (.aload_n 2, 1) := by decide +kernel
theorem dX1_begin_10 : decode cX1_begin 10 = .ok (.invokevirtual 59, 3) := by decide +kernel
theorem dX1_begin_13 : decode cX1_begin 13 = .ok (.aload_n 1, 1) := by decide +kernel
theorem dX1_begin_14 : decode cX1_begin 14 = .ok (.getfield 63, 3) := by decide +kernel
theorem dX1_begin_17 : decode cX1_begin 17 = .ok (.iconst 0, 1) := by decide +kernel
theorem dX1_begin_18 : decode cX1_begin 18 = .ok (.aload_n 0, 1) := by decide +kernel
theorem dX1_begin_19 : decode cX1_begin 19 = .ok (.getfield 18, 3) := by decide +kernel
theorem dX1_begin_22 : decode cX1_begin 22 = .ok (.iconst 0, 1) := by decide +kernel
theorem dX1_begin_23 : decode cX1_begin 23 = .ok (.bipush 8, 2) := by decide +kernel
theorem dX1_begin_25 : decode cX1_begin 25 = .ok (.invokestatic 64, 3) := by decide +kernel
theorem dX1_begin_28 : decode cX1_begin 28 = .ok (.aload_n 0, 1) := by decide +kernel
theorem dX1_begin_29 : decode cX1_begin 29 = .ok (.getfield 22, 3) := by decide +kernel
theorem dX1_begin_32 : decode cX1_begin 32 = .ok (.iconst 0, 1) := by decide +kernel
theorem dX1_begin_33 : decode cX1_begin 33 = .ok (.invokestatic 70, 3) := by decide +kernel
theorem dX1_begin_36 : decode cX1_begin 36 = .ok (.aload_n 0, 1) := by decide +kernel
theorem dX1_begin_37 : decode cX1_begin 37 = .ok (.iconst 0, 1) := by decide +kernel
theorem dX1_begin_38 : decode cX1_begin 38 = .ok (.putfield 56, 3) := by decide +kernel
theorem dX1_begin_41 : decode cX1_begin 41 = .ok (.aload_n 0, 1) := by decide +kernel
theorem dX1_begin_42 : decode cX1_begin 42 = .ok (.iconst 0, 1) := by decide +kernel
theorem dX1_begin_43 : decode cX1_begin 43 = .ok (.putfield 40, 3) := by decide +kernel
theorem dX1_begin_46 : decode cX1_begin 46 = .ok (.return_, 1) := by decide +kernel
theorem dX1_manyDays_0 : decode cX1_manyDays 0 = .ok (.iconst 0, 1) := by decide +kernel
theorem dX1_manyDays_1 : decode cX1_manyDays 1 = .ok (.istore_n 2, 1) := by decide +kernel
theorem dX1_manyDays_2 : decode cX1_manyDays 2 = .ok (.iload_n 2, 1) := by decide +kernel
theorem dX1_manyDays_3 : decode cX1_manyDays 3 = .ok (.iload_n 1, 1) := by decide +kernel
theorem dX1_manyDays_4 : decode cX1_manyDays 4 = .ok (.if_icmp .ge 13, 3) := by decide +kernel
theorem dX1_manyDays_7 : decode cX1_manyDays 7 = .ok (.aload_n 0, 1) := by decide +kernel
theorem dX1_manyDays_8 : decode cX1_manyDays 8 = .ok (.invokevirtual 76, 3) := by decide +kernel
theorem dX1_manyDays_11 : decode cX1_manyDays 11 = .ok (.iinc 2 1, 3) := by decide +kernel
theorem dX1_manyDays_14 : decode cX1_manyDays 14 = .ok (.goto (-12), 3) := by decide +kernel
theorem dX1_manyDays_17 : decode cX1_manyDays 17 = .ok (.return_, 1) := by decide +kernel
theorem dX1_oneDay_0 : decode cX1_oneDay 0 = .ok (.aload_n 0, 1) := by decide +kernel
theorem dX1_oneDay_1 : decode cX1_oneDay 1 = .ok (.iconst 0, 1) := by decide +kernel
theorem dX1_oneDay_2 : decode cX1_oneDay 2 = .ok (.putfield 56, 3) := by decide +kernel
theorem dX1_oneDay_5 : decode cX1_oneDay 5 = .ok (.iconst 0, 1) := by decide +kernel
theorem dX1_oneDay_6 : decode cX1_oneDay 6 = .ok (.istore_n 1, 1) := by decide +kernel
theorem dX1_oneDay_7 : decode cX1_oneDay 7 = .ok (.iload_n 1, 1) := by decide +kernel
theorem dX1_oneDay_8 : decode cX1_oneDay 8 = .ok (.aload_n 0, 1) := by decide +kernel
theorem dX1_oneDay_9 : decode cX1_oneDay 9 = .ok (.getfield 52, 3) := by decide +kernel
theorem dX1_oneDay_12 : decode cX1_oneDay 12 = .ok (.getfield 79, 3) := by decide +kernel
theorem dX1_oneDay_15 : decode cX1_oneDay 15 = .ok (.if_icmp .ge 14, 3) := by decide +kernel
theorem dX1_oneDay_18 : decode cX1_oneDay 18 = .ok (.aload_n 0, 1) := by decide +kernel
theorem dX1_oneDay_19 : decode cX1_oneDay 19 = .ok (.iload_n 1, 1) := by decide +kernel
theorem dX1_oneDay_20 : decode cX1_oneDay 20 = .ok (.invokevirtual 82, 3) := by decide +kernel
theorem dX1_oneDay_23 : decode cX1_oneDay 23 = .ok (.iinc 1 1, 3) := by decide +kernel
theorem dX1_oneDay_26 : decode cX1_oneDay 26 = .ok (.goto (-19), 3) := by decide +kernel
theorem dX1_oneDay_29 : decode cX1_oneDay 29 = .ok (.iconst 0, 1) := by decide +kernel
theorem dX1_oneDay_30 : decode cX1_oneDay 30 = .ok (.istore_n 1, 1) := by decide +kernel
theorem dX1_oneDay_31 : decode cX1_oneDay 31 = .ok (.iload_n 1, 1) := by decide +kernel
theorem dX1_oneDay_32 : decode cX1_oneDay 32 = .ok (.aload_n 0, 1) := by decide +kernel
theorem dX1_oneDay_33 : decode cX1_oneDay 33 = .ok (.getfield 52, 3) := by decide +kernel
theorem dX1_oneDay_36 : decode cX1_oneDay 36 = .ok (.getfield 86, 3) := by decide +kernel
theorem dX1_oneDay_39 : decode cX1_oneDay 39 = .ok (.if_icmp .ge 39, 3) := by decide +kernel
theorem dX1_oneDay_42 : decode cX1_oneDay 42 = .ok (.aload_n 0, 1) := by decide +kernel
theorem dX1_oneDay_43 : decode cX1_oneDay 43 = .ok (.iload_n 1, 1) := by decide +kernel
theorem dX1_oneDay_44 : decode cX1_oneDay 44 = .ok (.invokevirtual 89, 3) := by decide +kernel
theorem dX1_oneDay_47 : decode cX1_oneDay 47 = .ok (.ifCond .ne 25, 3) := by decide +kernel
theorem dX1_oneDay_50 : decode cX1_oneDay 50 = .ok (.aload_n 0, 1) := by decide +kernel
theorem dX1_oneDay_51 : decode cX1_oneDay 51 = .ok (.getfield 12, 3) := by decide +kernel
theorem dX1_oneDay_54 : decode cX1_oneDay 54 = .ok (.iload_n 1, 1) := by decide +kernel
theorem dX1_oneDay_55 : decode cX1_oneDay 55 = .ok (.iconst 0, 1) := by decide +kernel
theorem dX1_oneDay_56 : decode cX1_oneDay 56 = .ok (.aload_n 0, 1) := by decide +kernel
theorem dX1_oneDay_57 : decode cX1_oneDay 57 = .ok (.getfield 12, 3) := by decide +kernel
theorem dX1_oneDay_60 : decode cX1_oneDay 60 = .ok (.iload_n 1, 1) := by decide +kernel
theorem dX1_oneDay_61 : decode cX1_oneDay 61 = .ok (.invokevirtual 93, 3) := by decide +kernel
theorem dX1_oneDay_64 : decode cX1_oneDay 64 = .ok (.iconst 1, 1) := by decide +kernel
theorem dX1_oneDay_65 : decode cX1_oneDay 65 = .ok (.isub, 1) := by decide +kernel
theorem dX1_oneDay_66 : decode cX1_oneDay 66 = .ok (.invokestatic 97, 3) := by decide +kernel
theorem dX1_oneDay_69 : decode cX1_oneDay 69 = .ok (.invokevirtual 103, 3) := by decide +kernel
theorem dX1_oneDay_72 : decode cX1_oneDay 72 = .ok (.iinc 1 1, 3) := by decide +kernel
theorem dX1_oneDay_75 : decode cX1_oneDay 75 = .ok (.goto (-44), 3) := by decide +kernel
theorem dX1_oneDay_78 : decode cX1_oneDay 78 = .ok (.aload_n 0, 1) := by decide +kernel
theorem dX1_oneDay_79 : decode cX1_oneDay 79 = .ok (.getfield 12, 3) := by decide +kernel
theorem dX1_oneDay_82 : decode cX1_oneDay 82 = .ok (.invokevirtual 107, 3) := by decide +kernel
theorem dX1_oneDay_85 : decode cX1_oneDay 85 = .ok (.return_, 1) := by decide +kernel
theorem dX1_turn_0 : decode cX1_turn 0 = .ok (.aload_n 0, 1) := by decide +kernel
theorem dX1_turn_1 : decode cX1_turn 1 = .ok (.iload_n 1, 1) := by decide +kernel
theorem dX1_turn_2 : decode cX1_turn 2 = .ok (.invokevirtual 110, 3) := by decide +kernel
theorem dX1_turn_5 : decode cX1_turn 5 = .ok (.iconst 0, 1) := by decide +kernel
theorem dX1_turn_6 : decode cX1_turn 6 = .ok (.istore_n 2, 1) := by decide +kernel
theorem dX1_turn_7 : decode cX1_turn 7 = .ok (.iload_n 2, 1) := by decide +kernel
theorem dX1_turn_8 : decode cX1_turn 8 = .ok (.aload_n 0, 1) := by decide +kernel
theorem dX1_turn_9 : decode cX1_turn 9 = .ok (.getfield 52, 3) := by decide +kernel
theorem dX1_turn_12 : decode cX1_turn 12 = .ok (.getfield 86, 3) := by decide +kernel
theorem dX1_turn_15 : decode cX1_turn 15 = .ok (.if_icmp .ge 15, 3) := by decide +kernel
theorem dX1_turn_18 : decode cX1_turn 18 = .ok (.aload_n 0, 1) := by decide +kernel
theorem dX1_turn_19 : decode cX1_turn 19 = .ok (.iload_n 2, 1) := by decide +kernel
theorem dX1_turn_20 : decode cX1_turn 20 = .ok (.iload_n 1, 1) := by decide +kernel
theorem dX1_turn_21 : decode cX1_turn 21 = .ok (.invokevirtual 113, 3) := by decide +kernel
theorem dX1_turn_24 : decode cX1_turn 24 = .ok (.iinc 2 1, 3) := by decide +kernel
theorem dX1_turn_27 : decode cX1_turn 27 = .ok (.goto (-20), 3) := by decide +kernel
theorem dX1_turn_30 : decode cX1_turn 30 = .ok (.aload_n 0, 1) := by decide +kernel
theorem dX1_turn_31 : decode cX1_turn 31 = .ok (.iconst 0, 1) := by decide +kernel
theorem dX1_turn_32 : decode cX1_turn 32 = .ok (.invokevirtual 116, 3) := by decide +kernel
theorem dX1_turn_35 : decode cX1_turn 35 = .ok (.istore_n 2, 1) := by decide +kernel
theorem dX1_turn_36 : decode cX1_turn 36 = .ok (.aload_n 0, 1) := by decide +kernel
theorem dX1_turn_37 : decode cX1_turn 37 = .ok (.getfield 37, 3) := by decide +kernel
theorem dX1_turn_40 : decode cX1_turn 40 = .ok (.iload_n 1, 1) := by decide +kernel
theorem dX1_turn_41 : decode cX1_turn 41 = .ok (.iload_n 2, 1) := by decide +kernel
theorem dX1_turn_42 : decode cX1_turn 42 = .ok (.iastore, 1) := by decide +kernel
theorem dX1_turn_43 : decode cX1_turn 43 = .ok (.aload_n 0, 1) := by decide +kernel
theorem dX1_turn_44 : decode cX1_turn 44 = .ok (.getfield 12, 3) := by decide +kernel
theorem dX1_turn_47 : decode cX1_turn 47 = .ok (.iload_n 2, 1) := by decide +kernel
theorem dX1_turn_48 : decode cX1_turn 48 = .ok (.invokevirtual 119, 3) := by decide +kernel
theorem dX1_turn_51 : decode cX1_turn 51 = .ok (.iload_n 2, 1) := by decide +kernel
theorem dX1_turn_52 : decode cX1_turn 52 = .ok (.iconst (-1), 1) := by decide +kernel
theorem dX1_turn_53 : decode cX1_turn 53 = .ok (.if_icmp .eq 9, 3) := by decide +kernel
theorem dX1_turn_56 : decode cX1_turn 56 = .ok (.aload_n 0, 1) := by decide +kernel
theorem dX1_turn_57 : decode cX1_turn 57 = .ok (.iload_n 2, 1) := by decide +kernel
theorem dX1_turn_58 : decode cX1_turn 58 = .ok (.iload_n 1, 1) := by decide +kernel
theorem dX1_turn_59 : decode cX1_turn 59 = .ok (.invokevirtual 122, 3) := by decide +kernel
theorem dX1_turn_62 : decode cX1_turn 62 = .ok (.return_, 1) := by decide +kernel
theorem dX1_ring_0 : decode cX1_ring 0 = .ok (.aload_n 0, 1) := by decide +kernel
theorem dX1_ring_1 : decode cX1_ring 1 = .ok (.getfield 12, 3) := by decide +kernel
theorem dX1_ring_4 : decode cX1_ring 4 = .ok (.invokevirtual 125, 3) := by decide +kernel
theorem dX1_ring_7 : decode cX1_ring 7 = .ok (.istore_n 2, 1) := by decide +kernel
theorem dX1_ring_8 : decode cX1_ring 8 = .ok (.aload_n 0, 1) := by decide +kernel
theorem dX1_ring_9 : decode cX1_ring 9 = .ok (.getfield 31, 3) := by decide +kernel
theorem dX1_ring_12 : decode cX1_ring 12 = .ok (.iload_n 1, 1) := by decide +kernel
theorem dX1_ring_13 : decode cX1_ring 13 = .ok (.iload_n 2, 1) := by decide +kernel
theorem dX1_ring_14 : decode cX1_ring 14 = .ok (.iastore, 1) := by decide +kernel
theorem dX1_ring_15 : decode cX1_ring 15 = .ok (.aload_n 0, 1) := by decide +kernel
theorem dX1_ring_16 : decode cX1_ring 16 = .ok (.getfield 34, 3) := by decide +kernel
theorem dX1_ring_19 : decode cX1_ring 19 = .ok (.iload_n 1, 1) := by decide +kernel
theorem dX1_ring_20 : decode cX1_ring 20 = .ok (.iconst 0, 1) := by decide +kernel
theorem dX1_ring_21 : decode cX1_ring 21 = .ok (.iastore, 1) := by decide +kernel
theorem dX1_ring_22 : decode cX1_ring 22 = .ok (.iload_n 2, 1) := by decide +kernel
theorem dX1_ring_23 : decode cX1_ring 23 = .ok (.iconst (-1), 1) := by decide +kernel
theorem dX1_ring_24 : decode cX1_ring 24 = .ok (.if_icmp .eq 84, 3) := by decide +kernel
theorem dX1_ring_27 : decode cX1_ring 27 = .ok (.aload_n 0, 1) := by decide +kernel
theorem dX1_ring_28 : decode cX1_ring 28 = .ok (.getfield 52, 3) := by decide +kernel
theorem dX1_ring_31 : decode cX1_ring 31 = .ok (.getfield 129, 3) := by decide +kernel
theorem dX1_ring_34 : decode cX1_ring 34 = .ok (.astore_n 3, 1) := by decide +kernel
theorem dX1_ring_35 : decode cX1_ring 35 = .ok (.aload_n 3, 1) := by decide +kernel
theorem dX1_ring_36 : decode cX1_ring 36 = .ok (.ifnonnull 16, 3) := by decide +kernel
theorem dX1_ring_39 : decode cX1_ring 39 = .ok (.aload_n 0, 1) := by decide +kernel
theorem dX1_ring_40 : decode cX1_ring 40 = .ok (.getfield 12, 3) := by decide +kernel
theorem dX1_ring_43 : decode cX1_ring 43 = .ok (.iload_n 2, 1) := by decide +kernel
theorem dX1_ring_44 : decode cX1_ring 44 = .ok (.invokevirtual 132, 3) := by decide +kernel
theorem dX1_ring_47 : decode cX1_ring 47 = .ok (.iconst 2, 1) := by decide +kernel
theorem dX1_ring_48 : decode cX1_ring 48 = .ok (.idiv, 1) := by decide +kernel
theorem dX1_ring_49 : decode cX1_ring 49 = .ok (.goto 13, 3) := by decide +kernel
theorem dX1_ring_52 : decode cX1_ring 52 = .ok (.aload_n 3, 1) := by decide +kernel
theorem dX1_ring_53 : decode cX1_ring 53 = .ok (.aload_n 0, 1) := by decide +kernel
theorem dX1_ring_54 : decode cX1_ring 54 = .ok (.iload_n 2, 1) := by decide +kernel
theorem dX1_ring_55 : decode cX1_ring 55 = .ok (.iload_n 1, 1) := by decide +kernel
theorem dX1_ring_56 : decode cX1_ring 56 = .ok (.invokevirtual 135, 3) := by decide +kernel
theorem dX1_ring_59 : decode cX1_ring 59 = .ok (.invokevirtual 139, 3) := by decide +kernel
theorem dX1_ring_62 : decode cX1_ring 62 = .ok (.istore 4, 2) := by decide +kernel
theorem dX1_ring_64 : decode cX1_ring 64 = .ok (.aload_n 0, 1) := by decide +kernel
theorem dX1_ring_65 : decode cX1_ring 65 = .ok (.getfield 34, 3) := by decide +kernel
theorem dX1_ring_68 : decode cX1_ring 68 = .ok (.iload_n 1, 1) := by decide +kernel
theorem dX1_ring_69 : decode cX1_ring 69 = .ok (.iload 4, 2) := by decide +kernel
theorem dX1_ring_71 : decode cX1_ring 71 = .ok (.iconst 0, 1) := by decide +kernel
theorem dX1_ring_72 : decode cX1_ring 72 = .ok (.bipush 120, 2) := by decide +kernel
theorem dX1_ring_74 : decode cX1_ring 74 = .ok (.invokestatic 143, 3) := by decide +kernel
theorem dX1_ring_77 : decode cX1_ring 77 = .ok (.iastore, 1) := by decide +kernel
theorem dX1_ring_78 : decode cX1_ring 78 = .ok (.aload_n 0, 1) := by decide +kernel
theorem dX1_ring_79 : decode cX1_ring 79 = .ok (.getfield 12, 3) := by decide +kernel
theorem dX1_ring_82 : decode cX1_ring 82 = .ok (.iload_n 2, 1) := by decide +kernel
theorem dX1_ring_83 : decode cX1_ring 83 = .ok (.invokevirtual 147, 3) := by decide +kernel
theorem dX1_ring_86 : decode cX1_ring 86 = .ok (.aload_n 0, 1) := by decide +kernel
theorem dX1_ring_87 : decode cX1_ring 87 = .ok (.getfield 22, 3) := by decide +kernel
theorem dX1_ring_90 : decode cX1_ring 90 = .ok (.iload_n 2, 1) := by decide +kernel
theorem dX1_ring_91 : decode cX1_ring 91 = .ok (.dup2, 1) := by decide +kernel
theorem dX1_ring_92 : decode cX1_ring 92 = .ok (.iaload, 1) := by decide +kernel
theorem dX1_ring_93 : decode cX1_ring 93 = .ok (.iconst 1, 1) := by decide +kernel
theorem dX1_ring_94 : decode cX1_ring 94 = .ok (.iadd, 1) := by decide +kernel
theorem dX1_ring_95 : decode cX1_ring 95 = .ok (.iastore, 1) := by decide +kernel
theorem dX1_ring_96 : decode cX1_ring 96 = .ok (.aload_n 0, 1) := by decide +kernel
theorem dX1_ring_97 : decode cX1_ring 97 = .ok (.dup, 1) := by decide +kernel
theorem dX1_ring_98 : decode cX1_ring 98 = .ok (.getfield 56, 3) := by decide +kernel
theorem dX1_ring_101 : decode cX1_ring 101 = .ok (.iconst 1, 1) := by decide +kernel
theorem dX1_ring_102 : decode cX1_ring 102 = .ok (.iload_n 2, 1) := by decide +kernel
theorem dX1_ring_103 : decode cX1_ring 103 = .ok (.ishl, 1) := by decide +kernel
theorem dX1_ring_104 : decode cX1_ring 104 = .ok (.ior, 1) := by decide +kernel
theorem dX1_ring_105 : decode cX1_ring 105 = .ok (.putfield 56, 3) := by decide +kernel
theorem dX1_ring_108 : decode cX1_ring 108 = .ok (.return_, 1) := by decide +kernel
theorem dX1_come_0 : decode cX1_come 0 = .ok (.aload_n 0, 1) := by decide +kernel
theorem dX1_come_1 : decode cX1_come 1 = .ok (.getfield 28, 3) := by decide +kernel
theorem dX1_come_4 : decode cX1_come 4 = .ok (.iload_n 1, 1) := by decide +kernel
theorem dX1_come_5 : decode cX1_come 5 = .ok (.aload_n 0, 1) := by decide +kernel
theorem dX1_come_6 : decode cX1_come 6 = .ok (.getfield 52, 3) := by decide +kernel
theorem dX1_come_9 : decode cX1_come 9 = .ok (.iload_n 1, 1) := by decide +kernel
theorem dX1_come_10 : decode cX1_come 10 = .ok (.iload_n 2, 1) := by decide +kernel
theorem dX1_come_11 : decode cX1_come 11 = .ok (.invokevirtual 150, 3) := by decide +kernel
theorem dX1_come_14 : decode cX1_come 14 = .ok (.iastore, 1) := by decide +kernel
theorem dX1_come_15 : decode cX1_come 15 = .ok (.aload_n 0, 1) := by decide +kernel
theorem dX1_come_16 : decode cX1_come 16 = .ok (.getfield 52, 3) := by decide +kernel
theorem dX1_come_19 : decode cX1_come 19 = .ok (.getfield 153, 3) := by decide +kernel
theorem dX1_come_22 : decode cX1_come 22 = .ok (.iload_n 1, 1) := by decide +kernel
theorem dX1_come_23 : decode cX1_come 23 = .ok (.iaload, 1) := by decide +kernel
theorem dX1_come_24 : decode cX1_come 24 = .ok (.iconst 2, 1) := by decide +kernel
theorem dX1_come_25 : decode cX1_come 25 = .ok (.if_icmp .eq 14, 3) := by decide +kernel
theorem dX1_come_28 : decode cX1_come 28 = .ok (.aload_n 0, 1) := by decide +kernel
theorem dX1_come_29 : decode cX1_come 29 = .ok (.getfield 12, 3) := by decide +kernel
theorem dX1_come_32 : decode cX1_come 32 = .ok (.iload_n 1, 1) := by decide +kernel
theorem dX1_come_33 : decode cX1_come 33 = .ok (.invokevirtual 156, 3) := by decide +kernel
theorem dX1_come_36 : decode cX1_come 36 = .ok (.ifCond .eq 11, 3) := by decide +kernel
theorem dX1_come_39 : decode cX1_come 39 = .ok (.aload_n 0, 1) := by decide +kernel
theorem dX1_come_40 : decode cX1_come 40 = .ok (.getfield 25, 3) := by decide +kernel
theorem dX1_come_43 : decode cX1_come 43 = .ok (.iload_n 1, 1) := by decide +kernel
theorem dX1_come_44 : decode cX1_come 44 = .ok (.iconst (-1), 1) := by decide +kernel
theorem dX1_come_45 : decode cX1_come 45 = .ok (.iastore, 1) := by decide +kernel
theorem dX1_come_46 : decode cX1_come 46 = .ok (.return_, 1) := by decide +kernel
theorem dX1_come_47 : decode cX1_come 47 = .ok (.aload_n 0, 1) := by decide +kernel
theorem dX1_come_48 : decode cX1_come 48 = .ok (.getfield 40, 3) := by decide +kernel
theorem dX1_come_51 : decode cX1_come 51 = .ok (.istore_n 3, 1) := by decide +kernel
theorem dX1_come_52 : decode cX1_come 52 = .ok (.aload_n 0, 1) := by decide +kernel
theorem dX1_come_53 : decode cX1_come 53 = .ok (.getfield 52, 3) := by decide +kernel
theorem dX1_come_56 : decode cX1_come 56 = .ok (.getfield 153, 3) := by decide +kernel
theorem dX1_come_59 : decode cX1_come 59 = .ok (.iload_n 1, 1) := by decide +kernel
theorem dX1_come_60 : decode cX1_come 60 = .ok (.iaload, 1) := by decide +kernel
theorem dX1_come_61 : decode cX1_come 61 = .ok (.iconst 1, 1) := by decide +kernel
theorem dX1_come_62 : decode cX1_come 62 = .ok (.if_icmp .eq 36, 3) := by decide +kernel
theorem dX1_come_65 : decode cX1_come 65 = .ok (.iload_n 3, 1) := by decide +kernel
theorem dX1_come_66 : decode cX1_come 66 = .ok (.aload_n 0, 1) := by decide +kernel
theorem dX1_come_67 : decode cX1_come 67 = .ok (.getfield 34, 3) := by decide +kernel
theorem dX1_come_70 : decode cX1_come 70 = .ok (.iload_n 2, 1) := by decide +kernel
theorem dX1_come_71 : decode cX1_come 71 = .ok (.iaload, 1) := by decide +kernel
theorem dX1_come_72 : decode cX1_come 72 = .ok (.aload_n 0, 1) := by decide +kernel
theorem dX1_come_73 : decode cX1_come 73 = .ok (.getfield 52, 3) := by decide +kernel
theorem dX1_come_76 : decode cX1_come 76 = .ok (.iload_n 1, 1) := by decide +kernel
theorem dX1_come_77 : decode cX1_come 77 = .ok (.iload_n 2, 1) := by decide +kernel
theorem dX1_come_78 : decode cX1_come 78 = .ok (.aload_n 0, 1) := by decide +kernel
theorem dX1_come_79 : decode cX1_come 79 = .ok (.getfield 18, 3) := by decide +kernel
theorem dX1_come_82 : decode cX1_come 82 = .ok (.iload_n 1, 1) := by decide +kernel
theorem dX1_come_83 : decode cX1_come 83 = .ok (.iaload, 1) := by decide +kernel
theorem dX1_come_84 : decode cX1_come 84 = .ok (.aload_n 0, 1) := by decide +kernel
theorem dX1_come_85 : decode cX1_come 85 = .ok (.getfield 12, 3) := by decide +kernel
theorem dX1_come_88 : decode cX1_come 88 = .ok (.iload_n 1, 1) := by decide +kernel
theorem dX1_come_89 : decode cX1_come 89 = .ok (.invokevirtual 93, 3) := by decide +kernel
theorem dX1_come_92 : decode cX1_come 92 = .ok (.invokevirtual 159, 3) := by decide +kernel
theorem dX1_come_95 : decode cX1_come 95 = .ok (.iadd, 1) := by decide +kernel
theorem dX1_come_96 : decode cX1_come 96 = .ok (.iadd, 1) := by decide +kernel
theorem dX1_come_97 : decode cX1_come 97 = .ok (.istore_n 3, 1) := by decide +kernel
theorem dX1_come_98 : decode cX1_come 98 = .ok (.aload_n 0, 1) := by decide +kernel
theorem dX1_come_99 : decode cX1_come 99 = .ok (.getfield 25, 3) := by decide +kernel
theorem dX1_come_102 : decode cX1_come 102 = .ok (.iload_n 1, 1) := by decide +kernel
theorem dX1_come_103 : decode cX1_come 103 = .ok (.aload_n 0, 1) := by decide +kernel
theorem dX1_come_104 : decode cX1_come 104 = .ok (.getfield 12, 3) := by decide +kernel
theorem dX1_come_107 : decode cX1_come 107 = .ok (.iload_n 2, 1) := by decide +kernel
theorem dX1_come_108 : decode cX1_come 108 = .ok (.invokevirtual 163, 3) := by decide +kernel
theorem dX1_come_111 : decode cX1_come 111 = .ok (.iload_n 3, 1) := by decide +kernel
theorem dX1_come_112 : decode cX1_come 112 = .ok (.iadd, 1) := by decide +kernel
theorem dX1_come_113 : decode cX1_come 113 = .ok (.iastore, 1) := by decide +kernel
theorem dX1_come_114 : decode cX1_come 114 = .ok (.aload_n 0, 1) := by decide +kernel
theorem dX1_come_115 : decode cX1_come 115 = .ok (.getfield 12, 3) := by decide +kernel
theorem dX1_come_118 : decode cX1_come 118 = .ok (.iload_n 1, 1) := by decide +kernel
theorem dX1_come_119 : decode cX1_come 119 = .ok (.sipush 999, 3) := by decide +kernel
theorem dX1_come_122 : decode cX1_come 122 = .ok (.iload_n 3, 1) := by decide +kernel
theorem dX1_come_123 : decode cX1_come 123 = .ok (.invokestatic 166, 3) := by decide +kernel
theorem dX1_come_126 : decode cX1_come 126 = .ok (.invokevirtual 169, 3) := by decide +kernel
theorem dX1_come_129 : decode cX1_come 129 = .ok (.return_, 1) := by decide +kernel
theorem dX1_mend_0 : decode cX1_mend 0 = .ok (.aload_n 0, 1) := by decide +kernel
theorem dX1_mend_1 : decode cX1_mend 1 = .ok (.getfield 52, 3) := by decide +kernel
theorem dX1_mend_4 : decode cX1_mend 4 = .ok (.getfield 172, 3) := by decide +kernel
theorem dX1_mend_7 : decode cX1_mend 7 = .ok (.astore_n 3, 1) := by decide +kernel
theorem dX1_mend_8 : decode cX1_mend 8 = .ok (.aload_n 3, 1) := by decide +kernel
theorem dX1_mend_9 : decode cX1_mend 9 = .ok (.ifnonnull 7, 3) := by decide +kernel
theorem dX1_mend_12 : decode cX1_mend 12 = .ok (.iconst 1, 1) := by decide +kernel
theorem dX1_mend_13 : decode cX1_mend 13 = .ok (.goto 19, 3) := by decide +kernel
theorem dX1_mend_16 : decode cX1_mend 16 = .ok (.aload_n 3, 1) := by decide +kernel
theorem dX1_mend_17 : decode cX1_mend 17 = .ok (.aload_n 0, 1) := by decide +kernel
theorem dX1_mend_18 : decode cX1_mend 18 = .ok (.iload_n 1, 1) := by decide +kernel
theorem dX1_mend_19 : decode cX1_mend 19 = .ok (.iload_n 2, 1) := by decide +kernel
theorem dX1_mend_20 : decode cX1_mend 20 = .ok (.invokevirtual 135, 3) := by decide +kernel
theorem dX1_mend_23 : decode cX1_mend 23 = .ok (.invokevirtual 139, 3) := by decide +kernel
theorem dX1_mend_26 : decode cX1_mend 26 = .ok (.iconst 0, 1) := by decide +kernel
theorem dX1_mend_27 : decode cX1_mend 27 = .ok (.bipush 9, 2) := by decide +kernel
theorem dX1_mend_29 : decode cX1_mend 29 = .ok (.invokestatic 143, 3) := by decide +kernel
theorem dX1_mend_32 : decode cX1_mend 32 = .ok (.istore 4, 2) := by decide +kernel
theorem dX1_mend_34 : decode cX1_mend 34 = .ok (.aload_n 0, 1) := by decide +kernel
theorem dX1_mend_35 : decode cX1_mend 35 = .ok (.iload_n 1, 1) := by decide +kernel
theorem dX1_mend_36 : decode cX1_mend 36 = .ok (.iload 4, 2) := by decide +kernel
theorem dX1_mend_38 : decode cX1_mend 38 = .ok (.invokevirtual 175, 3) := by decide +kernel
theorem dX1_mend_41 : decode cX1_mend 41 = .ok (.return_, 1) := by decide +kernel
theorem dX1_hasten_0 : decode cX1_hasten 0 = .ok (.aload_n 0, 1) := by decide +kernel
theorem dX1_hasten_1 : decode cX1_hasten 1 = .ok (.getfield 12, 3) := by decide +kernel
theorem dX1_hasten_4 : decode cX1_hasten 4 = .ok (.iload_n 1, 1) := by decide +kernel
theorem dX1_hasten_5 : decode cX1_hasten 5 = .ok (.bipush 60, 2) := by decide +kernel
theorem dX1_hasten_7 : decode cX1_hasten 7 = .ok (.aload_n 0, 1) := by decide +kernel
theorem dX1_hasten_8 : decode cX1_hasten 8 = .ok (.getfield 12, 3) := by decide +kernel
theorem dX1_hasten_11 : decode cX1_hasten 11 = .ok (.iload_n 1, 1) := by decide +kernel
theorem dX1_hasten_12 : decode cX1_hasten 12 = .ok (.invokevirtual 93, 3) := by decide +kernel
theorem dX1_hasten_15 : decode cX1_hasten 15 = .ok (.iload_n 2, 1) := by decide +kernel
theorem dX1_hasten_16 : decode cX1_hasten 16 = .ok (.iadd, 1) := by decide +kernel
theorem dX1_hasten_17 : decode cX1_hasten 17 = .ok (.invokestatic 166, 3) := by decide +kernel
theorem dX1_hasten_20 : decode cX1_hasten 20 = .ok (.invokevirtual 103, 3) := by decide +kernel
theorem dX1_hasten_23 : decode cX1_hasten 23 = .ok (.return_, 1) := by decide +kernel
theorem dX1_valuesOf_0 : decode cX1_valuesOf 0 = .ok (.aload_n 0, 1) := by decide +kernel
theorem dX1_valuesOf_1 : decode cX1_valuesOf 1 = .ok (.getfield 46, 3) := by decide +kernel
theorem dX1_valuesOf_4 : decode cX1_valuesOf 4 = .ok (.iconst 0, 1) := by decide +kernel
theorem dX1_valuesOf_5 : decode cX1_valuesOf 5 = .ok (.aload_n 0, 1) := by decide +kernel
theorem dX1_valuesOf_6 : decode cX1_valuesOf 6 = .ok (.getfield 12, 3) := by decide +kernel
theorem dX1_valuesOf_9 : decode cX1_valuesOf 9 = .ok (.iload_n 1, 1) := by decide +kernel
theorem dX1_valuesOf_10 : decode cX1_valuesOf 10 = .ok (.invokevirtual 132, 3) := by decide +kernel
theorem dX1_valuesOf_13 : decode cX1_valuesOf 13 = .ok (.iastore, 1) := by decide +kernel
theorem dX1_valuesOf_14 : decode cX1_valuesOf 14 = .ok (.aload_n 0, 1) := by decide +kernel
theorem dX1_valuesOf_15 : decode cX1_valuesOf 15 = .ok (.getfield 46, 3) := by decide +kernel
theorem dX1_valuesOf_18 : decode cX1_valuesOf 18 = .ok (.iconst 1, 1) := by decide +kernel
theorem dX1_valuesOf_19 : decode cX1_valuesOf 19 = .ok (.aload_n 0, 1) := by decide +kernel
theorem dX1_valuesOf_20 : decode cX1_valuesOf 20 = .ok (.getfield 18, 3) := by decide +kernel
theorem dX1_valuesOf_23 : decode cX1_valuesOf 23 = .ok (.iload_n 1, 1) := by decide +kernel
theorem dX1_valuesOf_24 : decode cX1_valuesOf 24 = .ok (.iaload, 1) := by decide +kernel
theorem dX1_valuesOf_25 : decode cX1_valuesOf 25 = .ok (.iastore, 1) := by decide +kernel
theorem dX1_valuesOf_26 : decode cX1_valuesOf 26 = .ok (.aload_n 0, 1) := by decide +kernel
theorem dX1_valuesOf_27 : decode cX1_valuesOf 27 = .ok (.getfield 46, 3) := by decide +kernel
theorem dX1_valuesOf_30 : decode cX1_valuesOf 30 = .ok (.iconst 2, 1) := by decide +kernel
theorem dX1_valuesOf_31 : decode cX1_valuesOf 31 = .ok (.aload_n 0, 1) := by decide +kernel
theorem dX1_valuesOf_32 : decode cX1_valuesOf 32 = .ok (.getfield 12, 3) := by decide +kernel
theorem dX1_valuesOf_35 : decode cX1_valuesOf 35 = .ok (.iload_n 1, 1) := by decide +kernel
theorem dX1_valuesOf_36 : decode cX1_valuesOf 36 = .ok (.invokevirtual 93, 3) := by decide +kernel
theorem dX1_valuesOf_39 : decode cX1_valuesOf 39 = .ok (.iastore, 1) := by decide +kernel
theorem dX1_valuesOf_40 : decode cX1_valuesOf 40 = .ok (.aload_n 0, 1) := by decide +kernel
theorem dX1_valuesOf_41 : decode cX1_valuesOf 41 = .ok (.getfield 46, 3) := by decide +kernel
theorem dX1_valuesOf_44 : decode cX1_valuesOf 44 = .ok (.iconst 3, 1) := by decide +kernel
theorem dX1_valuesOf_45 : decode cX1_valuesOf 45 = .ok (.aload_n 0, 1) := by decide +kernel
theorem dX1_valuesOf_46 : decode cX1_valuesOf 46 = .ok (.getfield 12, 3) := by decide +kernel
theorem dX1_valuesOf_49 : decode cX1_valuesOf 49 = .ok (.iload_n 1, 1) := by decide +kernel
theorem dX1_valuesOf_50 : decode cX1_valuesOf 50 = .ok (.invokevirtual 178, 3) := by decide +kernel
theorem dX1_valuesOf_53 : decode cX1_valuesOf 53 = .ok (.iastore, 1) := by decide +kernel
theorem dX1_valuesOf_54 : decode cX1_valuesOf 54 = .ok (.aload_n 0, 1) := by decide +kernel
theorem dX1_valuesOf_55 : decode cX1_valuesOf 55 = .ok (.getfield 46, 3) := by decide +kernel
theorem dX1_valuesOf_58 : decode cX1_valuesOf 58 = .ok (.iconst 4, 1) := by decide +kernel
theorem dX1_valuesOf_59 : decode cX1_valuesOf 59 = .ok (.iload_n 2, 1) := by decide +kernel
theorem dX1_valuesOf_60 : decode cX1_valuesOf 60 = .ok (.iastore, 1) := by decide +kernel
theorem dX1_valuesOf_61 : decode cX1_valuesOf 61 = .ok (.aload_n 0, 1) := by decide +kernel
theorem dX1_valuesOf_62 : decode cX1_valuesOf 62 = .ok (.getfield 46, 3) := by decide +kernel
theorem dX1_valuesOf_65 : decode cX1_valuesOf 65 = .ok (.iconst 5, 1) := by decide +kernel
theorem dX1_valuesOf_66 : decode cX1_valuesOf 66 = .ok (.aload_n 0, 1) := by decide +kernel
theorem dX1_valuesOf_67 : decode cX1_valuesOf 67 = .ok (.getfield 12, 3) := by decide +kernel
theorem dX1_valuesOf_70 : decode cX1_valuesOf 70 = .ok (.invokevirtual 181, 3) := by decide +kernel
theorem dX1_valuesOf_73 : decode cX1_valuesOf 73 = .ok (.iastore, 1) := by decide +kernel
theorem dX1_valuesOf_74 : decode cX1_valuesOf 74 = .ok (.aload_n 0, 1) := by decide +kernel
theorem dX1_valuesOf_75 : decode cX1_valuesOf 75 = .ok (.getfield 46, 3) := by decide +kernel
theorem dX1_valuesOf_78 : decode cX1_valuesOf 78 = .ok (.bipush 6, 2) := by decide +kernel
theorem dX1_valuesOf_80 : decode cX1_valuesOf 80 = .ok (.aload_n 0, 1) := by decide +kernel
theorem dX1_valuesOf_81 : decode cX1_valuesOf 81 = .ok (.getfield 52, 3) := by decide +kernel
theorem dX1_valuesOf_84 : decode cX1_valuesOf 84 = .ok (.iload_n 1, 1) := by decide +kernel
theorem dX1_valuesOf_85 : decode cX1_valuesOf 85 = .ok (.iload_n 2, 1) := by decide +kernel
theorem dX1_valuesOf_86 : decode cX1_valuesOf 86 = .ok (.invokevirtual 150, 3) := by decide +kernel
theorem dX1_valuesOf_89 : decode cX1_valuesOf 89 = .ok (.iastore, 1) := by decide +kernel
theorem dX1_valuesOf_90 : decode cX1_valuesOf 90 = .ok (.aload_n 0, 1) := by decide +kernel
theorem dX1_valuesOf_91 : decode cX1_valuesOf 91 = .ok (.getfield 46, 3) := by decide +kernel
theorem dX1_valuesOf_94 : decode cX1_valuesOf 94 = .ok (.areturn, 1) := by decide +kernel
theorem dX1_befall_0 : decode cX1_befall 0 = .ok (.iload_n 2, 1) := by decide +kernel
theorem dX1_befall_1 : decode cX1_befall 1 = .ok (.ifCond .ne 14, 3) := by decide +kernel
theorem dX1_befall_4 : decode cX1_befall 4 = .ok (.aload_n 0, 1) := by decide +kernel
theorem dX1_befall_5 : decode cX1_befall 5 = .ok (.getfield 12, 3) := by decide +kernel
theorem dX1_befall_8 : decode cX1_befall 8 = .ok (.iload_n 1, 1) := by decide +kernel
theorem dX1_befall_9 : decode cX1_befall 9 = .ok (.invokevirtual 184, 3) := by decide +kernel
theorem dX1_befall_12 : decode cX1_befall 12 = .ok (.goto 33, 3) := by decide +kernel
theorem dX1_befall_15 : decode cX1_befall 15 = .ok (.iload_n 2, 1) := by decide +kernel
theorem dX1_befall_16 : decode cX1_befall 16 = .ok (.iconst 1, 1) := by decide +kernel
theorem dX1_befall_17 : decode cX1_befall 17 = .ok (.if_icmp .ne 15, 3) := by decide +kernel
theorem dX1_befall_20 : decode cX1_befall 20 = .ok (.aload_n 0, 1) := by decide +kernel
theorem dX1_befall_21 : decode cX1_befall 21 = .ok (.getfield 12, 3) := by decide +kernel
theorem dX1_befall_24 : decode cX1_befall 24 = .ok (.iload_n 1, 1) := by decide +kernel
theorem dX1_befall_25 : decode cX1_befall 25 = .ok (.iconst 0, 1) := by decide +kernel
theorem dX1_befall_26 : decode cX1_befall 26 = .ok (.invokevirtual 103, 3) := by decide +kernel
theorem dX1_befall_29 : decode cX1_befall 29 = .ok (.goto 16, 3) := by decide +kernel
theorem dX1_befall_32 : decode cX1_befall 32 = .ok (.iload_n 2, 1) := by decide +kernel
theorem dX1_befall_33 : decode cX1_befall 33 = .ok (.iconst 2, 1) := by decide +kernel
theorem dX1_befall_34 : decode cX1_befall 34 = .ok (.if_icmp .ne 11, 3) := by decide +kernel
theorem dX1_befall_37 : decode cX1_befall 37 = .ok (.aload_n 0, 1) := by decide +kernel
theorem dX1_befall_38 : decode cX1_befall 38 = .ok (.getfield 12, 3) := by decide +kernel
theorem dX1_befall_41 : decode cX1_befall 41 = .ok (.iload_n 1, 1) := by decide +kernel
theorem dX1_befall_42 : decode cX1_befall 42 = .ok (.invokevirtual 119, 3) := by decide +kernel
theorem dX1_befall_45 : decode cX1_befall 45 = .ok (.return_, 1) := by decide +kernel
theorem dX1_rangToday_0 : decode cX1_rangToday 0 = .ok (.aload_n 0, 1) := by decide +kernel
theorem dX1_rangToday_1 : decode cX1_rangToday 1 = .ok (.getfield 56, 3) := by decide +kernel
theorem dX1_rangToday_4 : decode cX1_rangToday 4 = .ok (.iload_n 1, 1) := by decide +kernel
theorem dX1_rangToday_5 : decode cX1_rangToday 5 = .ok (.ishr, 1) := by decide +kernel
theorem dX1_rangToday_6 : decode cX1_rangToday 6 = .ok (.iconst 1, 1) := by decide +kernel
theorem dX1_rangToday_7 : decode cX1_rangToday 7 = .ok (.iand, 1) := by decide +kernel
theorem dX1_rangToday_8 : decode cX1_rangToday 8 = .ok (.iconst 1, 1) := by decide +kernel
theorem dX1_rangToday_9 : decode cX1_rangToday 9 = .ok (.if_icmp .ne 7, 3) := by decide +kernel
theorem dX1_rangToday_12 : decode cX1_rangToday 12 = .ok (.iconst 1, 1) := by decide +kernel
theorem dX1_rangToday_13 : decode cX1_rangToday 13 = .ok (.goto 4, 3) := by decide +kernel
theorem dX1_rangToday_16 : decode cX1_rangToday 16 = .ok (.iconst 0, 1) := by decide +kernel
theorem dX1_rangToday_17 : decode cX1_rangToday 17 = .ok (.ireturn, 1) := by decide +kernel
theorem dX1_behindToday_0 : decode cX1_behindToday 0 = .ok (.iconst 0, 1) := by decide +kernel
theorem dX1_behindToday_1 : decode cX1_behindToday 1 = .ok (.istore_n 1, 1) := by decide +kernel
theorem dX1_behindToday_2 : decode cX1_behindToday 2 = .ok (.iconst 0, 1) := by decide +kernel
theorem dX1_behindToday_3 : decode cX1_behindToday 3 = .ok (.istore_n 2, 1) := by decide +kernel
theorem dX1_behindToday_4 : decode cX1_behindToday 4 = .ok (.iload_n 2, 1) := by decide +kernel
theorem dX1_behindToday_5 : decode cX1_behindToday 5 = .ok (.aload_n 0, 1) := by decide +kernel
theorem dX1_behindToday_6 : decode cX1_behindToday 6 = .ok (.getfield 52, 3) := by decide +kernel
theorem dX1_behindToday_9 : decode cX1_behindToday 9 = .ok (.getfield 79, 3) := by decide +kernel
theorem dX1_behindToday_12 : decode cX1_behindToday 12 = .ok (.if_icmp .ge 18, 3) := by decide +kernel
theorem dX1_behindToday_15 : decode cX1_behindToday 15 = .ok (.iload_n 1, 1) := by decide +kernel
theorem dX1_behindToday_16 : decode cX1_behindToday 16 = .ok (.aload_n 0, 1) := by decide +kernel
theorem dX1_behindToday_17 : decode cX1_behindToday 17 = .ok (.getfield 34, 3) := by decide +kernel
theorem dX1_behindToday_20 : decode cX1_behindToday 20 = .ok (.iload_n 2, 1) := by decide +kernel
theorem dX1_behindToday_21 : decode cX1_behindToday 21 = .ok (.iaload, 1) := by decide +kernel
theorem dX1_behindToday_22 : decode cX1_behindToday 22 = .ok (.iadd, 1) := by decide +kernel
theorem dX1_behindToday_23 : decode cX1_behindToday 23 = .ok (.istore_n 1, 1) := by decide +kernel
theorem dX1_behindToday_24 : decode cX1_behindToday 24 = .ok (.iinc 2 1, 3) := by decide +kernel
theorem dX1_behindToday_27 : decode cX1_behindToday 27 = .ok (.goto (-23), 3) := by decide +kernel
theorem dX1_behindToday_30 : decode cX1_behindToday 30 = .ok (.iload_n 1, 1) := by decide +kernel
theorem dX1_behindToday_31 : decode cX1_behindToday 31 = .ok (.ireturn, 1) := by decide +kernel
theorem dX1_canBeLast_0 : decode cX1_canBeLast 0 = .ok (.aload_n 0, 1) := by decide +kernel
theorem dX1_canBeLast_1 : decode cX1_canBeLast 1 = .ok (.getfield 25, 3) := by decide +kernel
theorem dX1_canBeLast_4 : decode cX1_canBeLast 4 = .ok (.iload_n 1, 1) := by decide +kernel
theorem dX1_canBeLast_5 : decode cX1_canBeLast 5 = .ok (.iaload, 1) := by decide +kernel
theorem dX1_canBeLast_6 : decode cX1_canBeLast 6 = .ok (.iconst (-1), 1) := by decide +kernel
theorem dX1_canBeLast_7 : decode cX1_canBeLast 7 = .ok (.if_icmp .eq 20, 3) := by decide +kernel
theorem dX1_canBeLast_10 : decode cX1_canBeLast 10 = .ok (.aload_n 0, 1) := by decide +kernel
theorem dX1_canBeLast_11 : decode cX1_canBeLast 11 = .ok (.getfield 52, 3) := by decide +kernel
theorem dX1_canBeLast_14 : decode cX1_canBeLast 14 = .ok (.getfield 153, 3) := by decide +kernel
theorem dX1_canBeLast_17 : decode cX1_canBeLast 17 = .ok (.iload_n 1, 1) := by decide +kernel
theorem dX1_canBeLast_18 : decode cX1_canBeLast 18 = .ok (.iaload, 1) := by decide +kernel
theorem dX1_canBeLast_19 : decode cX1_canBeLast 19 = .ok (.iconst 1, 1) := by decide +kernel
theorem dX1_canBeLast_20 : decode cX1_canBeLast 20 = .ok (.if_icmp .eq 7, 3) := by decide +kernel
theorem dX1_canBeLast_23 : decode cX1_canBeLast 23 = .ok (.iconst 1, 1) := by decide +kernel
theorem dX1_canBeLast_24 : decode cX1_canBeLast 24 = .ok (.goto 4, 3) := by decide +kernel
theorem dX1_canBeLast_27 : decode cX1_canBeLast 27 = .ok (.iconst 0, 1) := by decide +kernel
theorem dX1_canBeLast_28 : decode cX1_canBeLast 28 = .ok (.ireturn, 1) := by decide +kernel
theorem dX1_leads_0 : decode cX1_leads 0 = .ok (.aload_n 0, 1) := by decide +kernel
theorem dX1_leads_1 : decode cX1_leads 1 = .ok (.getfield 28, 3) := by decide +kernel
theorem dX1_leads_4 : decode cX1_leads 4 = .ok (.iload_n 1, 1) := by decide +kernel
theorem dX1_leads_5 : decode cX1_leads 5 = .ok (.iaload, 1) := by decide +kernel
theorem dX1_leads_6 : decode cX1_leads 6 = .ok (.aload_n 0, 1) := by decide +kernel
theorem dX1_leads_7 : decode cX1_leads 7 = .ok (.getfield 28, 3) := by decide +kernel
theorem dX1_leads_10 : decode cX1_leads 10 = .ok (.iload_n 2, 1) := by decide +kernel
theorem dX1_leads_11 : decode cX1_leads 11 = .ok (.iaload, 1) := by decide +kernel
theorem dX1_leads_12 : decode cX1_leads 12 = .ok (.if_icmp .lt 23, 3) := by decide +kernel
theorem dX1_leads_15 : decode cX1_leads 15 = .ok (.aload_n 0, 1) := by decide +kernel
theorem dX1_leads_16 : decode cX1_leads 16 = .ok (.getfield 28, 3) := by decide +kernel
theorem dX1_leads_19 : decode cX1_leads 19 = .ok (.iload_n 1, 1) := by decide +kernel
theorem dX1_leads_20 : decode cX1_leads 20 = .ok (.iaload, 1) := by decide +kernel
theorem dX1_leads_21 : decode cX1_leads 21 = .ok (.aload_n 0, 1) := by decide +kernel
theorem dX1_leads_22 : decode cX1_leads 22 = .ok (.getfield 28, 3) := by decide +kernel
theorem dX1_leads_25 : decode cX1_leads 25 = .ok (.iload_n 2, 1) := by decide +kernel
theorem dX1_leads_26 : decode cX1_leads 26 = .ok (.iaload, 1) := by decide +kernel
theorem dX1_leads_27 : decode cX1_leads 27 = .ok (.if_icmp .ne 12, 3) := by decide +kernel
theorem dX1_leads_30 : decode cX1_leads 30 = .ok (.iload_n 1, 1) := by decide +kernel
theorem dX1_leads_31 : decode cX1_leads 31 = .ok (.iload_n 2, 1) := by decide +kernel
theorem dX1_leads_32 : decode cX1_leads 32 = .ok (.if_icmp .ge 7, 3) := by decide +kernel
theorem dX1_leads_35 : decode cX1_leads 35 = .ok (.iconst 1, 1) := by decide +kernel
theorem dX1_leads_36 : decode cX1_leads 36 = .ok (.goto 4, 3) := by decide +kernel
theorem dX1_leads_39 : decode cX1_leads 39 = .ok (.iconst 0, 1) := by decide +kernel
theorem dX1_leads_40 : decode cX1_leads 40 = .ok (.ireturn, 1) := by decide +kernel
theorem dX1_lastWithout_0 : decode cX1_lastWithout 0 = .ok (.iconst (-1), 1) := by decide +kernel
theorem dX1_lastWithout_1 : decode cX1_lastWithout 1 = .ok (.istore_n 2, 1) := by decide +kernel
theorem dX1_lastWithout_2 : decode cX1_lastWithout 2 = .ok (.iconst 0, 1) := by decide +kernel
theorem dX1_lastWithout_3 : decode cX1_lastWithout 3 = .ok (.istore_n 3, 1) := by decide +kernel
theorem dX1_lastWithout_4 : decode cX1_lastWithout 4 = .ok (.iload_n 3, 1) := by decide +kernel
theorem dX1_lastWithout_5 : decode cX1_lastWithout 5 = .ok (.aload_n 0, 1) := by decide +kernel
theorem dX1_lastWithout_6 : decode cX1_lastWithout 6 = .ok (.getfield 52, 3) := by decide +kernel
theorem dX1_lastWithout_9 : decode cX1_lastWithout 9 = .ok (.getfield 86, 3) := by decide +kernel
theorem dX1_lastWithout_12 : decode cX1_lastWithout 12 = .ok (.if_icmp .ge 71, 3) := by decide +kernel
theorem dX1_lastWithout_15 : decode cX1_lastWithout 15 = .ok (.iload_n 1, 1) := by decide +kernel
theorem dX1_lastWithout_16 : decode cX1_lastWithout 16 = .ok (.iload_n 3, 1) := by decide +kernel
theorem dX1_lastWithout_17 : decode cX1_lastWithout 17 = .ok (.ishr, 1) := by decide +kernel
theorem dX1_lastWithout_18 : decode cX1_lastWithout 18 = .ok (.iconst 1, 1) := by decide +kernel
theorem dX1_lastWithout_19 : decode cX1_lastWithout 19 = .ok (.iand, 1) := by decide +kernel
theorem dX1_lastWithout_20 : decode cX1_lastWithout 20 = .ok (.ifCond .ne 57, 3) := by decide +kernel
theorem dX1_lastWithout_23 : decode cX1_lastWithout 23 = .ok (.aload_n 0, 1) := by decide +kernel
theorem dX1_lastWithout_24 : decode cX1_lastWithout 24 = .ok (.iload_n 3, 1) := by decide +kernel
theorem dX1_lastWithout_25 : decode cX1_lastWithout 25 = .ok (.invokevirtual 187, 3) := by decide +kernel
theorem dX1_lastWithout_28 : decode cX1_lastWithout 28 = .ok (.ifCond .eq 49, 3) := by decide +kernel
theorem dX1_lastWithout_31 : decode cX1_lastWithout 31 = .ok (.iload_n 2, 1) := by decide +kernel
theorem dX1_lastWithout_32 : decode cX1_lastWithout 32 = .ok (.iconst (-1), 1) := by decide +kernel
theorem dX1_lastWithout_33 : decode cX1_lastWithout 33 = .ok (.if_icmp .eq 42, 3) := by decide +kernel
theorem dX1_lastWithout_36 : decode cX1_lastWithout 36 = .ok (.aload_n 0, 1) := by decide +kernel
theorem dX1_lastWithout_37 : decode cX1_lastWithout 37 = .ok (.getfield 25, 3) := by decide +kernel
theorem dX1_lastWithout_40 : decode cX1_lastWithout 40 = .ok (.iload_n 3, 1) := by decide +kernel
theorem dX1_lastWithout_41 : decode cX1_lastWithout 41 = .ok (.iaload, 1) := by decide +kernel
theorem dX1_lastWithout_42 : decode cX1_lastWithout 42 = .ok (.aload_n 0, 1) := by decide +kernel
theorem dX1_lastWithout_43 : decode cX1_lastWithout 43 = .ok (.getfield 25, 3) := by decide +kernel
theorem dX1_lastWithout_46 : decode cX1_lastWithout 46 = .ok (.iload_n 2, 1) := by decide +kernel
theorem dX1_lastWithout_47 : decode cX1_lastWithout 47 = .ok (.iaload, 1) := by decide +kernel
theorem dX1_lastWithout_48 : decode cX1_lastWithout 48 = .ok (.if_icmp .gt 27, 3) := by decide +kernel
theorem dX1_lastWithout_51 : decode cX1_lastWithout 51 = .ok (.aload_n 0, 1) := by decide +kernel
theorem dX1_lastWithout_52 : decode cX1_lastWithout 52 = .ok (.getfield 25, 3) := by decide +kernel
theorem dX1_lastWithout_55 : decode cX1_lastWithout 55 = .ok (.iload_n 3, 1) := by decide +kernel
theorem dX1_lastWithout_56 : decode cX1_lastWithout 56 = .ok (.iaload, 1) := by decide +kernel
theorem dX1_lastWithout_57 : decode cX1_lastWithout 57 = .ok (.aload_n 0, 1) := by decide +kernel
theorem dX1_lastWithout_58 : decode cX1_lastWithout 58 = .ok (.getfield 25, 3) := by decide +kernel
theorem dX1_lastWithout_61 : decode cX1_lastWithout 61 = .ok (.iload_n 2, 1) := by decide +kernel
theorem dX1_lastWithout_62 : decode cX1_lastWithout 62 = .ok (.iaload, 1) := by decide +kernel
theorem dX1_lastWithout_63 : decode cX1_lastWithout 63 = .ok (.if_icmp .ne 14, 3) := by decide +kernel
theorem dX1_lastWithout_66 : decode cX1_lastWithout 66 = .ok (.aload_n 0, 1) := by decide +kernel
theorem dX1_lastWithout_67 : decode cX1_lastWithout 67 = .ok (.iload_n 3, 1) := by decide +kernel
theorem dX1_lastWithout_68 : decode cX1_lastWithout 68 = .ok (.iload_n 2, 1) := by decide +kernel
theorem dX1_lastWithout_69 : decode cX1_lastWithout 69 = .ok (.invokevirtual 190, 3) := by decide +kernel
theorem dX1_lastWithout_72 : decode cX1_lastWithout 72 = .ok (.ifCond .eq 5, 3) := by decide +kernel
theorem dX1_lastWithout_75 : decode cX1_lastWithout 75 = .ok (.iload_n 3, 1) := by decide +kernel
theorem dX1_lastWithout_76 : decode cX1_lastWithout 76 = .ok (.istore_n 2, 1) := by decide +kernel
theorem dX1_lastWithout_77 : decode cX1_lastWithout 77 = .ok (.iinc 3 1, 3) := by decide +kernel
theorem dX1_lastWithout_80 : decode cX1_lastWithout 80 = .ok (.goto (-76), 3) := by decide +kernel
theorem dX1_lastWithout_83 : decode cX1_lastWithout 83 = .ok (.iload_n 2, 1) := by decide +kernel
theorem dX1_lastWithout_84 : decode cX1_lastWithout 84 = .ok (.ireturn, 1) := by decide +kernel
theorem dX1_placeOf_0 : decode cX1_placeOf 0 = .ok (.iconst 0, 1) := by decide +kernel
theorem dX1_placeOf_1 : decode cX1_placeOf 1 = .ok (.istore_n 2, 1) := by decide +kernel
theorem dX1_placeOf_2 : decode cX1_placeOf 2 = .ok (.iconst 0, 1) := by decide +kernel
theorem dX1_placeOf_3 : decode cX1_placeOf 3 = .ok (.istore_n 3, 1) := by decide +kernel
theorem dX1_placeOf_4 : decode cX1_placeOf 4 = .ok (.iload_n 3, 1) := by decide +kernel
theorem dX1_placeOf_5 : decode cX1_placeOf 5 = .ok (.aload_n 0, 1) := by decide +kernel
theorem dX1_placeOf_6 : decode cX1_placeOf 6 = .ok (.getfield 52, 3) := by decide +kernel
theorem dX1_placeOf_9 : decode cX1_placeOf 9 = .ok (.getfield 86, 3) := by decide +kernel
theorem dX1_placeOf_12 : decode cX1_placeOf 12 = .ok (.if_icmp .ge 66, 3) := by decide +kernel
theorem dX1_placeOf_15 : decode cX1_placeOf 15 = .ok (.iload_n 3, 1) := by decide +kernel
theorem dX1_placeOf_16 : decode cX1_placeOf 16 = .ok (.iload_n 1, 1) := by decide +kernel
theorem dX1_placeOf_17 : decode cX1_placeOf 17 = .ok (.if_icmp .eq 55, 3) := by decide +kernel
theorem dX1_placeOf_20 : decode cX1_placeOf 20 = .ok (.aload_n 0, 1) := by decide +kernel
theorem dX1_placeOf_21 : decode cX1_placeOf 21 = .ok (.getfield 25, 3) := by decide +kernel
theorem dX1_placeOf_24 : decode cX1_placeOf 24 = .ok (.iload_n 3, 1) := by decide +kernel
theorem dX1_placeOf_25 : decode cX1_placeOf 25 = .ok (.iaload, 1) := by decide +kernel
theorem dX1_placeOf_26 : decode cX1_placeOf 26 = .ok (.iconst (-1), 1) := by decide +kernel
theorem dX1_placeOf_27 : decode cX1_placeOf 27 = .ok (.if_icmp .eq 45, 3) := by decide +kernel
theorem dX1_placeOf_30 : decode cX1_placeOf 30 = .ok (.aload_n 0, 1) := by decide +kernel
theorem dX1_placeOf_31 : decode cX1_placeOf 31 = .ok (.getfield 25, 3) := by decide +kernel
theorem dX1_placeOf_34 : decode cX1_placeOf 34 = .ok (.iload_n 3, 1) := by decide +kernel
theorem dX1_placeOf_35 : decode cX1_placeOf 35 = .ok (.iaload, 1) := by decide +kernel
theorem dX1_placeOf_36 : decode cX1_placeOf 36 = .ok (.aload_n 0, 1) := by decide +kernel
theorem dX1_placeOf_37 : decode cX1_placeOf 37 = .ok (.getfield 25, 3) := by decide +kernel
theorem dX1_placeOf_40 : decode cX1_placeOf 40 = .ok (.iload_n 1, 1) := by decide +kernel
theorem dX1_placeOf_41 : decode cX1_placeOf 41 = .ok (.iaload, 1) := by decide +kernel
theorem dX1_placeOf_42 : decode cX1_placeOf 42 = .ok (.if_icmp .lt 27, 3) := by decide +kernel
theorem dX1_placeOf_45 : decode cX1_placeOf 45 = .ok (.aload_n 0, 1) := by decide +kernel
theorem dX1_placeOf_46 : decode cX1_placeOf 46 = .ok (.getfield 25, 3) := by decide +kernel
theorem dX1_placeOf_49 : decode cX1_placeOf 49 = .ok (.iload_n 3, 1) := by decide +kernel
theorem dX1_placeOf_50 : decode cX1_placeOf 50 = .ok (.iaload, 1) := by decide +kernel
theorem dX1_placeOf_51 : decode cX1_placeOf 51 = .ok (.aload_n 0, 1) := by decide +kernel
theorem dX1_placeOf_52 : decode cX1_placeOf 52 = .ok (.getfield 25, 3) := by decide +kernel
theorem dX1_placeOf_55 : decode cX1_placeOf 55 = .ok (.iload_n 1, 1) := by decide +kernel
theorem dX1_placeOf_56 : decode cX1_placeOf 56 = .ok (.iaload, 1) := by decide +kernel
theorem dX1_placeOf_57 : decode cX1_placeOf 57 = .ok (.if_icmp .ne 15, 3) := by decide +kernel
theorem dX1_placeOf_60 : decode cX1_placeOf 60 = .ok (.aload_n 0, 1) := by decide +kernel
theorem dX1_placeOf_61 : decode cX1_placeOf 61 = .ok (.iload_n 3, 1) := by decide +kernel
theorem dX1_placeOf_62 : decode cX1_placeOf 62 = .ok (.iload_n 1, 1) := by decide +kernel
theorem dX1_placeOf_63 : decode cX1_placeOf 63 = .ok (.invokevirtual 190, 3) := by decide +kernel
theorem dX1_placeOf_66 : decode cX1_placeOf 66 = .ok (.ifCond .eq 6, 3) := by decide +kernel
theorem dX1_placeOf_69 : decode cX1_placeOf 69 = .ok (.iinc 2 1, 3) := by decide +kernel
theorem dX1_placeOf_72 : decode cX1_placeOf 72 = .ok (.iinc 3 1, 3) := by decide +kernel
theorem dX1_placeOf_75 : decode cX1_placeOf 75 = .ok (.goto (-71), 3) := by decide +kernel
theorem dX1_placeOf_78 : decode cX1_placeOf 78 = .ok (.iload_n 2, 1) := by decide +kernel
theorem dX1_placeOf_79 : decode cX1_placeOf 79 = .ok (.ireturn, 1) := by decide +kernel
theorem dX2_init_0 : decode cX2_init 0 = .ok (.aload_n 0, 1) := by decide +kernel
theorem dX2_init_1 : decode cX2_init 1 = .ok (.invokespecial 3, 3) := by decide +kernel
theorem dX2_init_4 : decode cX2_init 4 = .ok (.aload_n 0, 1) := by decide +kernel
theorem dX2_init_5 : decode cX2_init 5 = .ok (.new 9, 3) := by decide +kernel
theorem dX2_init_8 : decode cX2_init 8 = .ok (.dup, 1) := by decide +kernel
theorem dX2_init_9 : decode cX2_init 9 = .ok (.invokespecial 11, 3) := by decide +kernel
theorem dX2_init_12 : decode cX2_init 12 = .ok (.putfield 12, 3) := by decide +kernel
theorem dX2_init_15 : decode cX2_init 15 = .ok (.aload_n 0, 1) := by decide +kernel
theorem dX2_init_16 : decode cX2_init 16 = .ok (.iconst 0, 1) := by decide +kernel
theorem dX2_init_17 : decode cX2_init 17 = .ok (.putfield 18, 3) := by decide +kernel
theorem dX2_init_20 : decode cX2_init 20 = .ok (.aload_n 0, 1) := by decide +kernel
theorem dX2_init_21 : decode cX2_init 21 = .ok (.iconst (-1), 1) := by decide +kernel
theorem dX2_init_22 : decode cX2_init 22 = .ok (.putfield 22, 3) := by decide +kernel
theorem dX2_init_25 : decode cX2_init 25 = .ok (.aload_n 0, 1) := by decide +kernel
theorem dX2_init_26 : decode cX2_init 26 = .ok (.sipush 700, 3) := by decide +kernel
theorem dX2_init_29 : decode cX2_init 29 = .ok (.newarray .int, 2) := by decide +kernel
theorem dX2_init_31 : decode cX2_init 31 = .ok (.putfield 25, 3) := by decide +kernel
theorem dX2_init_34 : decode cX2_init 34 = .ok (.aload_n 0, 1) := by decide +kernel
theorem dX2_init_35 : decode cX2_init 35 = .ok (.iconst 0, 1) := by decide +kernel
theorem dX2_init_36 : decode cX2_init 36 = .ok (.putfield 29, 3) := by decide +kernel
theorem dX2_init_39 : decode cX2_init 39 = .ok (.aload_n 0, 1) := by decide +kernel
theorem dX2_init_40 : decode cX2_init 40 = .ok (.iconst 0, 1) := by decide +kernel
theorem dX2_init_41 : decode cX2_init 41 = .ok (.putfield 32, 3) := by decide +kernel
theorem dX2_init_44 : decode cX2_init 44 = .ok (.aload_n 0, 1) := by decide +kernel
theorem dX2_init_45 : decode cX2_init 45 = .ok (.iconst 0, 1) := by decide +kernel
theorem dX2_init_46 : decode cX2_init 46 = .ok (.putfield 36, 3) := by decide +kernel
theorem dX2_init_49 : decode cX2_init 49 = .ok (.aload_n 0, 1) := by decide +kernel
theorem dX2_init_50 : decode cX2_init 50 = .ok (.new 39, 3) := by decide +kernel
theorem dX2_init_53 : decode cX2_init 53 = .ok (.dup, 1) := by decide +kernel
theorem dX2_init_54 : decode cX2_init 54 = .ok (.invokespecial 41, 3) := by decide +kernel
theorem dX2_init_57 : decode cX2_init 57 = .ok (.putfield 42, 3) := by decide +kernel
theorem dX2_init_60 : decode cX2_init 60 = .ok (.return_, 1) := by decide +kernel
theorem dX2_read_0 : decode cX2_read 0 = .ok (.aload_n 0, 1) := by decide +kernel
theorem dX2_read_1 : decode cX2_read 1 = .ok (.new 39, 3) := by decide +kernel
theorem dX2_read_4 : decode cX2_read 4 = .ok (.dup, 1) := by decide +kernel
theorem dX2_read_5 : decode cX2_read 5 = .ok (.invokespecial 41, 3) := by decide +kernel
theorem dX2_read_8 : decode cX2_read 8 = .ok (.putfield 42, 3) := by decide +kernel
theorem dX2_read_11 : decode cX2_read 11 = .ok (.aload_n 0, 1) := by decide +kernel
theorem dX2_read_12 : decode cX2_read 12 = .ok (.iconst 0, 1) := by decide +kernel
theorem dX2_read_13 : decode cX2_read 13 = .ok (.putfield 36, 3) := by decide +kernel
theorem dX2_read_16 : decode cX2_read 16 = .ok (.aload_n 0, 1) := by decide +kernel
theorem dX2_read_17 : decode cX2_read 17 = .ok (.iconst 0, 1) := by decide +kernel
theorem dX2_read_18 : decode cX2_read 18 = .ok (.putfield 18, 3) := by decide +kernel
theorem dX2_read_21 : decode cX2_read 21 = .ok (.aload_n 0, 1) := by decide +kernel
theorem dX2_read_22 : decode cX2_read 22 = .ok (.iconst (-1), 1) := by decide +kernel
theorem dX2_read_23 : decode cX2_read 23 = .ok (.putfield 22, 3) := by decide +kernel
theorem dX2_read_26 : decode cX2_read 26 = .ok (.aload_n 0, 1) := by decide +kernel
theorem dX2_read_27 : decode cX2_read 27 = .ok (.getfield 12, 3) := by decide +kernel
theorem dX2_read_30 : decode cX2_read 30 = .ok (.iload_n 1, 1) := by decide +kernel
theorem dX2_read_31 : decode cX2_read 31 = .ok (.invokevirtual 46, 3) := by decide +kernel
theorem dX2_read_34 : decode cX2_read 34 = .ok (.iconst 0, 1) := by decide +kernel
theorem dX2_read_35 : decode cX2_read 35 = .ok (.istore_n 2, 1) := by decide +kernel
theorem dX2_read_36 : decode cX2_read 36 = .ok (.iload_n 2, 1) := by decide +kernel
theorem dX2_read_37 : decode cX2_read 37 = .ok (.sipush 700, 3) := by decide +kernel
theorem dX2_read_40 : decode cX2_read 40 = .ok (.if_icmp .ge 28, 3) := by decide +kernel
theorem dX2_read_43 : decode cX2_read 43 = .ok (.aload_n 0, 1) := by decide +kernel
theorem dX2_read_44 : decode cX2_read 44 = .ok (.getfield 12, 3) := by decide +kernel
theorem dX2_read_47 : decode cX2_read 47 = .ok (.getfield 50, 3) := by decide +kernel
theorem dX2_read_50 : decode cX2_read 50 = .ok (.ifCond .eq 18, 3) := by decide +kernel
theorem dX2_read_53 : decode cX2_read 53 = .ok (.aload_n 0, 1) := by decide +kernel
theorem dX2_read_54 : decode cX2_read 54 = .ok (.invokevirtual 53, 3) := by decide +kernel
theorem dX2_read_57 : decode cX2_read 57 = .ok (.ifCond .ne 5, 3) := by decide +kernel
theorem dX2_read_60 : decode cX2_read 60 = .ok (.aconst_null, 1) := by decide +kernel
theorem dX2_read_61 : decode cX2_read 61 = .ok (.areturn, 1) := by decide +kernel
theorem dX2_read_62 : decode cX2_read 62 = .ok (.iinc 2 1, 3) := by decide +kernel
theorem dX2_read_65 : decode cX2_read 65 = .ok (.goto (-29), 3) := by decide +kernel
theorem dX2_read_68 : decode cX2_read 68 = .ok (.aload_n 0, 1) := by decide +kernel
theorem dX2_read_69 : decode cX2_read 69 = .ok (.getfield 42, 3) := by decide +kernel
theorem dX2_read_72 : decode cX2_read 72 = .ok (.areturn, 1) := by decide +kernel
theorem dX2_refuse_0 : decode cX2_refuse 0 = .ok (.aload_n 0, 1) := by decide +kernel
theorem dX2_refuse_1 : decode cX2_refuse 1 = .ok (.iload_n 1, 1) := by decide +kernel
theorem dX2_refuse_2 : decode cX2_refuse 2 = .ok (.putfield 18, 3) := by decide +kernel
theorem dX2_refuse_5 : decode cX2_refuse 5 = .ok (.aload_n 0, 1) := by decide +kernel
theorem dX2_refuse_6 : decode cX2_refuse 6 = .ok (.aload_n 0, 1) := by decide +kernel
theorem dX2_refuse_7 : decode cX2_refuse 7 = .ok (.getfield 12, 3) := by decide +kernel
theorem dX2_refuse_10 : decode cX2_refuse 10 = .ok (.getfield 57, 3) := by decide +kernel
theorem dX2_refuse_13 : decode cX2_refuse 13 = .ok (.putfield 22, 3) := by decide +kernel
theorem dX2_refuse_16 : decode cX2_refuse 16 = .ok (.iconst 0, 1) := by decide +kernel
theorem dX2_refuse_17 : decode cX2_refuse 17 = .ok (.ireturn, 1) := by decide +kernel
theorem dX2_line_0 : decode cX2_line 0 = .ok (.aload_n 0, 1) := by decide +kernel
theorem dX2_line_1 : decode cX2_line 1 = .ok (.getfield 12, 3) := by decide +kernel
theorem dX2_line_4 : decode cX2_line 4 = .ok (.ldc 60, 2) := by decide +kernel
theorem dX2_line_6 : decode cX2_line 6 = .ok (.invokevirtual 62, 3) := by decide +kernel
theorem dX2_line_9 : decode cX2_line 9 = .ok (.ifCond .eq 12, 3) := by decide +kernel
theorem dX2_line_12 : decode cX2_line 12 = .ok (.aload_n 0, 1) := by decide +kernel
theorem dX2_line_13 : decode cX2_line 13 = .ok (.iconst 0, 1) := by decide +kernel
theorem dX2_line_14 : decode cX2_line 14 = .ok (.invokevirtual 66, 3) := by decide +kernel
theorem dX2_line_17 : decode cX2_line 17 = .ok (.istore_n 1, 1) := by decide +kernel
theorem dX2_line_18 : decode cX2_line 18 = .ok (.goto 133, 3) := by decide +kernel
theorem dX2_line_21 : decode cX2_line 21 = .ok (.aload_n 0, 1) := by decide +kernel
theorem dX2_line_22 : decode cX2_line 22 = .ok (.getfield 12, 3) := by decide +kernel
theorem dX2_line_25 : decode cX2_line 25 = .ok (.ldc 70, 2) := by decide +kernel
theorem dX2_line_27 : decode cX2_line 27 = .ok (.invokevirtual 62, 3) := by decide +kernel
theorem dX2_line_30 : decode cX2_line 30 = .ok (.ifCond .eq 12, 3) := by decide +kernel
theorem dX2_line_33 : decode cX2_line 33 = .ok (.aload_n 0, 1) := by decide +kernel
theorem dX2_line_34 : decode cX2_line 34 = .ok (.iconst 1, 1) := by decide +kernel
theorem dX2_line_35 : decode cX2_line 35 = .ok (.invokevirtual 66, 3) := by decide +kernel
theorem dX2_line_38 : decode cX2_line 38 = .ok (.istore_n 1, 1) := by decide +kernel
theorem dX2_line_39 : decode cX2_line 39 = .ok (.goto 112, 3) := by decide +kernel
theorem dX2_line_42 : decode cX2_line 42 = .ok (.aload_n 0, 1) := by decide +kernel
theorem dX2_line_43 : decode cX2_line 43 = .ok (.getfield 12, 3) := by decide +kernel
theorem dX2_line_46 : decode cX2_line 46 = .ok (.ldc 72, 2) := by decide +kernel
theorem dX2_line_48 : decode cX2_line 48 = .ok (.invokevirtual 62, 3) := by decide +kernel
theorem dX2_line_51 : decode cX2_line 51 = .ok (.ifCond .eq 12, 3) := by decide +kernel
theorem dX2_line_54 : decode cX2_line 54 = .ok (.aload_n 0, 1) := by decide +kernel
theorem dX2_line_55 : decode cX2_line 55 = .ok (.iconst 2, 1) := by decide +kernel
theorem dX2_line_56 : decode cX2_line 56 = .ok (.invokevirtual 66, 3) := by decide +kernel
theorem dX2_line_59 : decode cX2_line 59 = .ok (.istore_n 1, 1) := by decide +kernel
theorem dX2_line_60 : decode cX2_line 60 = .ok (.goto 91, 3) := by decide +kernel
theorem dX2_line_63 : decode cX2_line 63 = .ok (.aload_n 0, 1) := by decide +kernel
theorem dX2_line_64 : decode cX2_line 64 = .ok (.getfield 12, 3) := by decide +kernel
theorem dX2_line_67 : decode cX2_line 67 = .ok (.ldc 74, 2) := by decide +kernel
theorem dX2_line_69 : decode cX2_line 69 = .ok (.invokevirtual 62, 3) := by decide +kernel
theorem dX2_line_72 : decode cX2_line 72 = .ok (.ifCond .eq 11, 3) := by decide +kernel
theorem dX2_line_75 : decode cX2_line 75 = .ok (.aload_n 0, 1) := by decide +kernel
theorem dX2_line_76 : decode cX2_line 76 = .ok (.invokevirtual 76, 3) := by decide +kernel
theorem dX2_line_79 : decode cX2_line 79 = .ok (.istore_n 1, 1) := by decide +kernel
theorem dX2_line_80 : decode cX2_line 80 = .ok (.goto 71, 3) := by decide +kernel
theorem dX2_line_83 : decode cX2_line 83 = .ok (.aload_n 0, 1) := by decide +kernel
theorem dX2_line_84 : decode cX2_line 84 = .ok (.getfield 12, 3) := by decide +kernel
theorem dX2_line_87 : decode cX2_line 87 = .ok (.ldc 79, 2) := by decide +kernel
theorem dX2_line_89 : decode cX2_line 89 = .ok (.invokevirtual 62, 3) := by decide +kernel
theorem dX2_line_92 : decode cX2_line 92 = .ok (.ifCond .eq 11, 3) := by decide +kernel
theorem dX2_line_95 : decode cX2_line 95 = .ok (.aload_n 0, 1) := by decide +kernel
theorem dX2_line_96 : decode cX2_line 96 = .ok (.invokevirtual 81, 3) := by decide +kernel
theorem dX2_line_99 : decode cX2_line 99 = .ok (.istore_n 1, 1) := by decide +kernel
theorem dX2_line_100 : decode cX2_line 100 = .ok (.goto 51, 3) := by decide +kernel
theorem dX2_line_103 : decode cX2_line 103 = .ok (.aload_n 0, 1) := by decide +kernel
theorem dX2_line_104 : decode cX2_line 104 = .ok (.getfield 12, 3) := by decide +kernel
theorem dX2_line_107 : decode cX2_line 107 = .ok (.ldc 84, 2) := by decide +kernel
theorem dX2_line_109 : decode cX2_line 109 = .ok (.invokevirtual 62, 3) := by decide +kernel
theorem dX2_line_112 : decode cX2_line 112 = .ok (.ifCond .eq 12, 3) := by decide +kernel
theorem dX2_line_115 : decode cX2_line 115 = .ok (.aload_n 0, 1) := by decide +kernel
theorem dX2_line_116 : decode cX2_line 116 = .ok (.iconst 0, 1) := by decide +kernel
theorem dX2_line_117 : decode cX2_line 117 = .ok (.invokevirtual 86, 3) := by decide +kernel
theorem dX2_line_120 : decode cX2_line 120 = .ok (.istore_n 1, 1) := by decide +kernel
theorem dX2_line_121 : decode cX2_line 121 = .ok (.goto 30, 3) := by decide +kernel
theorem dX2_line_124 : decode cX2_line 124 = .ok (.aload_n 0, 1) := by decide +kernel
theorem dX2_line_125 : decode cX2_line 125 = .ok (.getfield 12, 3) := by decide +kernel
theorem dX2_line_128 : decode cX2_line 128 = .ok (.ldc 90, 2) := by decide +kernel
theorem dX2_line_130 : decode cX2_line 130 = .ok (.invokevirtual 62, 3) := by decide +kernel
theorem dX2_line_133 : decode cX2_line 133 = .ok (.ifCond .eq 12, 3) := by decide +kernel
theorem dX2_line_136 : decode cX2_line 136 = .ok (.aload_n 0, 1) := by decide +kernel
theorem dX2_line_137 : decode cX2_line 137 = .ok (.iconst 1, 1) := by decide +kernel
theorem dX2_line_138 : decode cX2_line 138 = .ok (.invokevirtual 86, 3) := by decide +kernel
theorem dX2_line_141 : decode cX2_line 141 = .ok (.istore_n 1, 1) := by decide +kernel
theorem dX2_line_142 : decode cX2_line 142 = .ok (.goto 9, 3) := by decide +kernel
theorem dX2_line_145 : decode cX2_line 145 = .ok (.aload_n 0, 1) := by decide +kernel
theorem dX2_line_146 : decode cX2_line 146 = .ok (.iconst 1, 1) := by decide +kernel
theorem dX2_line_147 : decode cX2_line 147 = .ok (.invokevirtual 92, 3) := by decide +kernel
theorem dX2_line_150 : decode cX2_line 150 = .ok (.istore_n 1, 1) := by decide +kernel
theorem dX2_line_151 : decode cX2_line 151 = .ok (.iload_n 1, 1) := by decide +kernel
theorem dX2_line_152 : decode cX2_line 152 = .ok (.ifCond .eq 16, 3) := by decide +kernel
theorem dX2_line_155 : decode cX2_line 155 = .ok (.aload_n 0, 1) := by decide +kernel
theorem dX2_line_156 : decode cX2_line 156 = .ok (.bipush 59, 2) := by decide +kernel
theorem dX2_line_158 : decode cX2_line 158 = .ok (.invokevirtual 95, 3) := by decide +kernel
theorem dX2_line_161 : decode cX2_line 161 = .ok (.ifCond .eq 7, 3) := by decide +kernel
theorem dX2_line_164 : decode cX2_line 164 = .ok (.iconst 1, 1) := by decide +kernel
theorem dX2_line_165 : decode cX2_line 165 = .ok (.goto 4, 3) := by decide +kernel
theorem dX2_line_168 : decode cX2_line 168 = .ok (.iconst 0, 1) := by decide +kernel
theorem dX2_line_169 : decode cX2_line 169 = .ok (.ireturn, 1) := by decide +kernel
theorem dX2_taken_0 : decode cX2_taken 0 = .ok (.aload_n 0, 1) := by decide +kernel
theorem dX2_taken_1 : decode cX2_taken 1 = .ok (.getfield 12, 3) := by decide +kernel
theorem dX2_taken_4 : decode cX2_taken 4 = .ok (.getfield 50, 3) := by decide +kernel
theorem dX2_taken_7 : decode cX2_taken 7 = .ok (.iload_n 1, 1) := by decide +kernel
theorem dX2_taken_8 : decode cX2_taken 8 = .ok (.if_icmp .eq 9, 3) := by decide +kernel
theorem dX2_taken_11 : decode cX2_taken 11 = .ok (.aload_n 0, 1) := by decide +kernel
theorem dX2_taken_12 : decode cX2_taken 12 = .ok (.iconst 1, 1) := by decide +kernel
theorem dX2_taken_13 : decode cX2_taken 13 = .ok (.invokevirtual 92, 3) := by decide +kernel
theorem dX2_taken_16 : decode cX2_taken 16 = .ok (.ireturn, 1) := by decide +kernel
theorem dX2_taken_17 : decode cX2_taken 17 = .ok (.aload_n 0, 1) := by decide +kernel
theorem dX2_taken_18 : decode cX2_taken 18 = .ok (.getfield 12, 3) := by decide +kernel
theorem dX2_taken_21 : decode cX2_taken 21 = .ok (.invokevirtual 99, 3) := by decide +kernel
theorem dX2_taken_24 : decode cX2_taken 24 = .ok (.iconst 1, 1) := by decide +kernel
theorem dX2_taken_25 : decode cX2_taken 25 = .ok (.ireturn, 1) := by decide +kernel
theorem dX2_human_0 : decode cX2_human 0 = .ok (.aload_n 0, 1) := by decide +kernel
theorem dX2_human_1 : decode cX2_human 1 = .ok (.getfield 42, 3) := by decide +kernel
theorem dX2_human_4 : decode cX2_human 4 = .ok (.getfield 102, 3) := by decide +kernel
theorem dX2_human_7 : decode cX2_human 7 = .ok (.istore_n 2, 1) := by decide +kernel
theorem dX2_human_8 : decode cX2_human 8 = .ok (.iload_n 2, 1) := by decide +kernel
theorem dX2_human_9 : decode cX2_human 9 = .ok (.bipush 8, 2) := by decide +kernel
theorem dX2_human_11 : decode cX2_human 11 = .ok (.if_icmp .lt 9, 3) := by decide +kernel
theorem dX2_human_14 : decode cX2_human 14 = .ok (.aload_n 0, 1) := by decide +kernel
theorem dX2_human_15 : decode cX2_human 15 = .ok (.iconst 2, 1) := by decide +kernel
theorem dX2_human_16 : decode cX2_human 16 = .ok (.invokevirtual 92, 3) := by decide +kernel
theorem dX2_human_19 : decode cX2_human 19 = .ok (.ireturn, 1) := by decide +kernel
theorem dX2_human_20 : decode cX2_human 20 = .ok (.aload_n 0, 1) := by decide +kernel
theorem dX2_human_21 : decode cX2_human 21 = .ok (.getfield 42, 3) := by decide +kernel
theorem dX2_human_24 : decode cX2_human 24 = .ok (.iload_n 2, 1) := by decide +kernel
theorem dX2_human_25 : decode cX2_human 25 = .ok (.iconst 1, 1) := by decide +kernel
theorem dX2_human_26 : decode cX2_human 26 = .ok (.iadd, 1) := by decide +kernel
theorem dX2_human_27 : decode cX2_human 27 = .ok (.putfield 102, 3) := by decide +kernel
theorem dX2_human_30 : decode cX2_human 30 = .ok (.aload_n 0, 1) := by decide +kernel
theorem dX2_human_31 : decode cX2_human 31 = .ok (.getfield 42, 3) := by decide +kernel
theorem dX2_human_34 : decode cX2_human 34 = .ok (.getfield 105, 3) := by decide +kernel
theorem dX2_human_37 : decode cX2_human 37 = .ok (.iload_n 2, 1) := by decide +kernel
theorem dX2_human_38 : decode cX2_human 38 = .ok (.iload_n 1, 1) := by decide +kernel
theorem dX2_human_39 : decode cX2_human 39 = .ok (.iastore, 1) := by decide +kernel
theorem dX2_human_40 : decode cX2_human 40 = .ok (.aload_n 0, 1) := by decide +kernel
theorem dX2_human_41 : decode cX2_human 41 = .ok (.getfield 12, 3) := by decide +kernel
theorem dX2_human_44 : decode cX2_human 44 = .ok (.invokevirtual 99, 3) := by decide +kernel
theorem dX2_human_47 : decode cX2_human 47 = .ok (.aload_n 0, 1) := by decide +kernel
theorem dX2_human_48 : decode cX2_human 48 = .ok (.getfield 42, 3) := by decide +kernel
theorem dX2_human_51 : decode cX2_human 51 = .ok (.getfield 107, 3) := by decide +kernel
theorem dX2_human_54 : decode cX2_human 54 = .ok (.iload_n 2, 1) := by decide +kernel
theorem dX2_human_55 : decode cX2_human 55 = .ok (.aload_n 0, 1) := by decide +kernel
theorem dX2_human_56 : decode cX2_human 56 = .ok (.iconst 0, 1) := by decide +kernel
theorem dX2_human_57 : decode cX2_human 57 = .ok (.bipush 60, 2) := by decide +kernel
theorem dX2_human_59 : decode cX2_human 59 = .ok (.invokevirtual 110, 3) := by decide +kernel
theorem dX2_human_62 : decode cX2_human 62 = .ok (.iastore, 1) := by decide +kernel
theorem dX2_human_63 : decode cX2_human 63 = .ok (.aload_n 0, 1) := by decide +kernel
theorem dX2_human_64 : decode cX2_human 64 = .ok (.getfield 42, 3) := by decide +kernel
theorem dX2_human_67 : decode cX2_human 67 = .ok (.getfield 114, 3) := by decide +kernel
theorem dX2_human_70 : decode cX2_human 70 = .ok (.iload_n 2, 1) := by decide +kernel
theorem dX2_human_71 : decode cX2_human 71 = .ok (.aload_n 0, 1) := by decide +kernel
theorem dX2_human_72 : decode cX2_human 72 = .ok (.getfield 18, 3) := by decide +kernel
theorem dX2_human_75 : decode cX2_human 75 = .ok (.ifCond .ne 13, 3) := by decide +kernel
theorem dX2_human_78 : decode cX2_human 78 = .ok (.aload_n 0, 1) := by decide +kernel
theorem dX2_human_79 : decode cX2_human 79 = .ok (.iconst 0, 1) := by decide +kernel
theorem dX2_human_80 : decode cX2_human 80 = .ok (.bipush 60, 2) := by decide +kernel
theorem dX2_human_82 : decode cX2_human 82 = .ok (.invokevirtual 110, 3) := by decide +kernel
theorem dX2_human_85 : decode cX2_human 85 = .ok (.goto 4, 3) := by decide +kernel
theorem dX2_human_88 : decode cX2_human 88 = .ok (.iconst 0, 1) := by decide +kernel
theorem dX2_human_89 : decode cX2_human 89 = .ok (.iastore, 1) := by decide +kernel
theorem dX2_human_90 : decode cX2_human 90 = .ok (.aload_n 0, 1) := by decide +kernel
theorem dX2_human_91 : decode cX2_human 91 = .ok (.getfield 42, 3) := by decide +kernel
theorem dX2_human_94 : decode cX2_human 94 = .ok (.getfield 117, 3) := by decide +kernel
theorem dX2_human_97 : decode cX2_human 97 = .ok (.iload_n 2, 1) := by decide +kernel
theorem dX2_human_98 : decode cX2_human 98 = .ok (.aload_n 0, 1) := by decide +kernel
theorem dX2_human_99 : decode cX2_human 99 = .ok (.getfield 18, 3) := by decide +kernel
theorem dX2_human_102 : decode cX2_human 102 = .ok (.ifCond .ne 13, 3) := by decide +kernel
theorem dX2_human_105 : decode cX2_human 105 = .ok (.aload_n 0, 1) := by decide +kernel
theorem dX2_human_106 : decode cX2_human 106 = .ok (.iconst 0, 1) := by decide +kernel
theorem dX2_human_107 : decode cX2_human 107 = .ok (.bipush 30, 2) := by decide +kernel
theorem dX2_human_109 : decode cX2_human 109 = .ok (.invokevirtual 110, 3) := by decide +kernel
theorem dX2_human_112 : decode cX2_human 112 = .ok (.goto 4, 3) := by decide +kernel
theorem dX2_human_115 : decode cX2_human 115 = .ok (.iconst 0, 1) := by decide +kernel
theorem dX2_human_116 : decode cX2_human 116 = .ok (.iastore, 1) := by decide +kernel
theorem dX2_human_117 : decode cX2_human 117 = .ok (.aload_n 0, 1) := by decide +kernel
theorem dX2_human_118 : decode cX2_human 118 = .ok (.getfield 18, 3) := by decide +kernel
theorem dX2_human_121 : decode cX2_human 121 = .ok (.ifCond .ne 7, 3) := by decide +kernel
theorem dX2_human_124 : decode cX2_human 124 = .ok (.iconst 1, 1) := by decide +kernel
theorem dX2_human_125 : decode cX2_human 125 = .ok (.goto 4, 3) := by decide +kernel
theorem dX2_human_128 : decode cX2_human 128 = .ok (.iconst 0, 1) := by decide +kernel
theorem dX2_human_129 : decode cX2_human 129 = .ok (.ireturn, 1) := by decide +kernel
theorem dX2_dutyTold_0 : decode cX2_dutyTold 0 = .ok (.aload_n 0, 1) := by decide +kernel
theorem dX2_dutyTold_1 : decode cX2_dutyTold 1 = .ok (.getfield 42, 3) := by decide +kernel
theorem dX2_dutyTold_4 : decode cX2_dutyTold 4 = .ok (.getfield 120, 3) := by decide +kernel
theorem dX2_dutyTold_7 : decode cX2_dutyTold 7 = .ok (.istore_n 1, 1) := by decide +kernel
theorem dX2_dutyTold_8 : decode cX2_dutyTold 8 = .ok (.iload_n 1, 1) := by decide +kernel
theorem dX2_dutyTold_9 : decode cX2_dutyTold 9 = .ok (.bipush 6, 2) := by decide +kernel
theorem dX2_dutyTold_11 : decode cX2_dutyTold 11 = .ok (.if_icmp .lt 9, 3) := by decide +kernel
theorem dX2_dutyTold_14 : decode cX2_dutyTold 14 = .ok (.aload_n 0, 1) := by decide +kernel
theorem dX2_dutyTold_15 : decode cX2_dutyTold 15 = .ok (.iconst 2, 1) := by decide +kernel
theorem dX2_dutyTold_16 : decode cX2_dutyTold 16 = .ok (.invokevirtual 92, 3) := by decide +kernel
theorem dX2_dutyTold_19 : decode cX2_dutyTold 19 = .ok (.ireturn, 1) := by decide +kernel
theorem dX2_dutyTold_20 : decode cX2_dutyTold 20 = .ok (.aload_n 0, 1) := by decide +kernel
theorem dX2_dutyTold_21 : decode cX2_dutyTold 21 = .ok (.getfield 42, 3) := by decide +kernel
theorem dX2_dutyTold_24 : decode cX2_dutyTold 24 = .ok (.iload_n 1, 1) := by decide +kernel
theorem dX2_dutyTold_25 : decode cX2_dutyTold 25 = .ok (.iconst 1, 1) := by decide +kernel
theorem dX2_dutyTold_26 : decode cX2_dutyTold 26 = .ok (.iadd, 1) := by decide +kernel
theorem dX2_dutyTold_27 : decode cX2_dutyTold 27 = .ok (.putfield 120, 3) := by decide +kernel
theorem dX2_dutyTold_30 : decode cX2_dutyTold 30 = .ok (.aload_n 0, 1) := by decide +kernel
theorem dX2_dutyTold_31 : decode cX2_dutyTold 31 = .ok (.getfield 12, 3) := by decide +kernel
theorem dX2_dutyTold_34 : decode cX2_dutyTold 34 = .ok (.invokevirtual 99, 3) := by decide +kernel
theorem dX2_dutyTold_37 : decode cX2_dutyTold 37 = .ok (.aload_n 0, 1) := by decide +kernel
theorem dX2_dutyTold_38 : decode cX2_dutyTold 38 = .ok (.getfield 42, 3) := by decide +kernel
theorem dX2_dutyTold_41 : decode cX2_dutyTold 41 = .ok (.getfield 123, 3) := by decide +kernel
theorem dX2_dutyTold_44 : decode cX2_dutyTold 44 = .ok (.iload_n 1, 1) := by decide +kernel
theorem dX2_dutyTold_45 : decode cX2_dutyTold 45 = .ok (.aload_n 0, 1) := by decide +kernel
theorem dX2_dutyTold_46 : decode cX2_dutyTold 46 = .ok (.iconst 0, 1) := by decide +kernel
theorem dX2_dutyTold_47 : decode cX2_dutyTold 47 = .ok (.sipush 999, 3) := by decide +kernel
theorem dX2_dutyTold_50 : decode cX2_dutyTold 50 = .ok (.invokevirtual 110, 3) := by decide +kernel
theorem dX2_dutyTold_53 : decode cX2_dutyTold 53 = .ok (.iastore, 1) := by decide +kernel
theorem dX2_dutyTold_54 : decode cX2_dutyTold 54 = .ok (.aload_n 0, 1) := by decide +kernel
theorem dX2_dutyTold_55 : decode cX2_dutyTold 55 = .ok (.getfield 42, 3) := by decide +kernel
theorem dX2_dutyTold_58 : decode cX2_dutyTold 58 = .ok (.getfield 126, 3) := by decide +kernel
theorem dX2_dutyTold_61 : decode cX2_dutyTold 61 = .ok (.iload_n 1, 1) := by decide +kernel
theorem dX2_dutyTold_62 : decode cX2_dutyTold 62 = .ok (.aload_n 0, 1) := by decide +kernel
theorem dX2_dutyTold_63 : decode cX2_dutyTold 63 = .ok (.getfield 18, 3) := by decide +kernel
theorem dX2_dutyTold_66 : decode cX2_dutyTold 66 = .ok (.ifCond .ne 13, 3) := by decide +kernel
theorem dX2_dutyTold_69 : decode cX2_dutyTold 69 = .ok (.aload_n 0, 1) := by decide +kernel
theorem dX2_dutyTold_70 : decode cX2_dutyTold 70 = .ok (.iconst 0, 1) := by decide +kernel
theorem dX2_dutyTold_71 : decode cX2_dutyTold 71 = .ok (.bipush 30, 2) := by decide +kernel
theorem dX2_dutyTold_73 : decode cX2_dutyTold 73 = .ok (.invokevirtual 110, 3) := by decide +kernel
theorem dX2_dutyTold_76 : decode cX2_dutyTold 76 = .ok (.goto 4, 3) := by decide +kernel
theorem dX2_dutyTold_79 : decode cX2_dutyTold 79 = .ok (.iconst 0, 1) := by decide +kernel
theorem dX2_dutyTold_80 : decode cX2_dutyTold 80 = .ok (.iastore, 1) := by decide +kernel
theorem dX2_dutyTold_81 : decode cX2_dutyTold 81 = .ok (.aload_n 0, 1) := by decide +kernel
theorem dX2_dutyTold_82 : decode cX2_dutyTold 82 = .ok (.getfield 18, 3) := by decide +kernel
theorem dX2_dutyTold_85 : decode cX2_dutyTold 85 = .ok (.ifCond .ne 7, 3) := by decide +kernel
theorem dX2_dutyTold_88 : decode cX2_dutyTold 88 = .ok (.iconst 1, 1) := by decide +kernel
theorem dX2_dutyTold_89 : decode cX2_dutyTold 89 = .ok (.goto 4, 3) := by decide +kernel
theorem dX2_dutyTold_92 : decode cX2_dutyTold 92 = .ok (.iconst 0, 1) := by decide +kernel
theorem dX2_dutyTold_93 : decode cX2_dutyTold 93 = .ok (.ireturn, 1) := by decide +kernel
theorem dX2_paceTold_0 : decode cX2_paceTold 0 = .ok (.aload_n 0, 1) := by decide +kernel
theorem dX2_paceTold_1 : decode cX2_paceTold 1 = .ok (.getfield 36, 3) := by decide +kernel
theorem dX2_paceTold_4 : decode cX2_paceTold 4 = .ok (.ifCond .eq 9, 3) := by decide +kernel
theorem dX2_paceTold_7 : decode cX2_paceTold 7 = .ok (.aload_n 0, 1) := by decide +kernel
theorem dX2_paceTold_8 : decode cX2_paceTold 8 = .ok (.iconst 5, 1) := by decide +kernel
theorem dX2_paceTold_9 : decode cX2_paceTold 9 = .ok (.invokevirtual 92, 3) := by decide +kernel
theorem dX2_paceTold_12 : decode cX2_paceTold 12 = .ok (.ireturn, 1) := by decide +kernel
theorem dX2_paceTold_13 : decode cX2_paceTold 13 = .ok (.aload_n 0, 1) := by decide +kernel
theorem dX2_paceTold_14 : decode cX2_paceTold 14 = .ok (.iconst 1, 1) := by decide +kernel
theorem dX2_paceTold_15 : decode cX2_paceTold 15 = .ok (.putfield 36, 3) := by decide +kernel
theorem dX2_paceTold_18 : decode cX2_paceTold 18 = .ok (.aload_n 0, 1) := by decide +kernel
theorem dX2_paceTold_19 : decode cX2_paceTold 19 = .ok (.getfield 12, 3) := by decide +kernel
theorem dX2_paceTold_22 : decode cX2_paceTold 22 = .ok (.invokevirtual 99, 3) := by decide +kernel
theorem dX2_paceTold_25 : decode cX2_paceTold 25 = .ok (.aload_n 0, 1) := by decide +kernel
theorem dX2_paceTold_26 : decode cX2_paceTold 26 = .ok (.getfield 42, 3) := by decide +kernel
theorem dX2_paceTold_29 : decode cX2_paceTold 29 = .ok (.aload_n 0, 1) := by decide +kernel
theorem dX2_paceTold_30 : decode cX2_paceTold 30 = .ok (.iconst 1, 1) := by decide +kernel
theorem dX2_paceTold_31 : decode cX2_paceTold 31 = .ok (.bipush 9, 2) := by decide +kernel
theorem dX2_paceTold_33 : decode cX2_paceTold 33 = .ok (.invokevirtual 110, 3) := by decide +kernel
theorem dX2_paceTold_36 : decode cX2_paceTold 36 = .ok (.putfield 129, 3) := by decide +kernel
theorem dX2_paceTold_39 : decode cX2_paceTold 39 = .ok (.aload_n 0, 1) := by decide +kernel
theorem dX2_paceTold_40 : decode cX2_paceTold 40 = .ok (.getfield 18, 3) := by decide +kernel
theorem dX2_paceTold_43 : decode cX2_paceTold 43 = .ok (.ifCond .ne 7, 3) := by decide +kernel
theorem dX2_paceTold_46 : decode cX2_paceTold 46 = .ok (.iconst 1, 1) := by decide +kernel
theorem dX2_paceTold_47 : decode cX2_paceTold 47 = .ok (.goto 4, 3) := by decide +kernel
theorem dX2_paceTold_50 : decode cX2_paceTold 50 = .ok (.iconst 0, 1) := by decide +kernel
theorem dX2_paceTold_51 : decode cX2_paceTold 51 = .ok (.ireturn, 1) := by decide +kernel
theorem dX2_number_0 : decode cX2_number 0 = .ok (.aload_n 0, 1) := by decide +kernel
theorem dX2_number_1 : decode cX2_number 1 = .ok (.getfield 12, 3) := by decide +kernel
theorem dX2_number_4 : decode cX2_number 4 = .ok (.getfield 50, 3) := by decide +kernel
theorem dX2_number_7 : decode cX2_number 7 = .ok (.bipush 48, 2) := by decide +kernel
theorem dX2_number_9 : decode cX2_number 9 = .ok (.if_icmp .ne 13, 3) := by decide +kernel
theorem dX2_number_12 : decode cX2_number 12 = .ok (.aload_n 0, 1) := by decide +kernel
theorem dX2_number_13 : decode cX2_number 13 = .ok (.getfield 12, 3) := by decide +kernel
theorem dX2_number_16 : decode cX2_number 16 = .ok (.invokevirtual 131, 3) := by decide +kernel
theorem dX2_number_19 : decode cX2_number 19 = .ok (.goto 4, 3) := by decide +kernel
theorem dX2_number_22 : decode cX2_number 22 = .ok (.iconst (-1), 1) := by decide +kernel
theorem dX2_number_23 : decode cX2_number 23 = .ok (.istore_n 3, 1) := by decide +kernel
theorem dX2_number_24 : decode cX2_number 24 = .ok (.aload_n 0, 1) := by decide +kernel
theorem dX2_number_25 : decode cX2_number 25 = .ok (.getfield 12, 3) := by decide +kernel
theorem dX2_number_28 : decode cX2_number 28 = .ok (.getfield 50, 3) := by decide +kernel
theorem dX2_number_31 : decode cX2_number 31 = .ok (.bipush 48, 2) := by decide +kernel
theorem dX2_number_33 : decode cX2_number 33 = .ok (.if_icmp .eq 12, 3) := by decide +kernel
theorem dX2_number_36 : decode cX2_number 36 = .ok (.aload_n 0, 1) := by decide +kernel
theorem dX2_number_37 : decode cX2_number 37 = .ok (.iconst 1, 1) := by decide +kernel
theorem dX2_number_38 : decode cX2_number 38 = .ok (.invokevirtual 92, 3) := by decide +kernel
theorem dX2_number_41 : decode cX2_number 41 = .ok (.pop, 1) := by decide +kernel
theorem dX2_number_42 : decode cX2_number 42 = .ok (.goto 29, 3) := by decide +kernel
theorem dX2_number_45 : decode cX2_number 45 = .ok (.iload_n 3, 1) := by decide +kernel
theorem dX2_number_46 : decode cX2_number 46 = .ok (.iload_n 1, 1) := by decide +kernel
theorem dX2_number_47 : decode cX2_number 47 = .ok (.if_icmp .lt 8, 3) := by decide +kernel
theorem dX2_number_50 : decode cX2_number 50 = .ok (.iload_n 3, 1) := by decide +kernel
theorem dX2_number_51 : decode cX2_number 51 = .ok (.iload_n 2, 1) := by decide +kernel
theorem dX2_number_52 : decode cX2_number 52 = .ok (.if_icmp .le 12, 3) := by decide +kernel
theorem dX2_number_55 : decode cX2_number 55 = .ok (.aload_n 0, 1) := by decide +kernel
theorem dX2_number_56 : decode cX2_number 56 = .ok (.iconst 2, 1) := by decide +kernel
theorem dX2_number_57 : decode cX2_number 57 = .ok (.invokevirtual 92, 3) := by decide +kernel
theorem dX2_number_60 : decode cX2_number 60 = .ok (.pop, 1) := by decide +kernel
theorem dX2_number_61 : decode cX2_number 61 = .ok (.goto 10, 3) := by decide +kernel
theorem dX2_number_64 : decode cX2_number 64 = .ok (.aload_n 0, 1) := by decide +kernel
theorem dX2_number_65 : decode cX2_number 65 = .ok (.getfield 12, 3) := by decide +kernel
theorem dX2_number_68 : decode cX2_number 68 = .ok (.invokevirtual 99, 3) := by decide +kernel
theorem dX2_number_71 : decode cX2_number 71 = .ok (.iload_n 3, 1) := by decide +kernel
theorem dX2_number_72 : decode cX2_number 72 = .ok (.ireturn, 1) := by decide +kernel
theorem dX2_ruleTold_0 : decode cX2_ruleTold 0 = .ok (.iload_n 1, 1) := by decide +kernel
theorem dX2_ruleTold_1 : decode cX2_ruleTold 1 = .ok (.ifCond .eq 13, 3) := by decide +kernel
theorem dX2_ruleTold_4 : decode cX2_ruleTold 4 = .ok (.aload_n 0, 1) := by decide +kernel
theorem dX2_ruleTold_5 : decode cX2_ruleTold 5 = .ok (.getfield 42, 3) := by decide +kernel
theorem dX2_ruleTold_8 : decode cX2_ruleTold 8 = .ok (.getfield 135, 3) := by decide +kernel
theorem dX2_ruleTold_11 : decode cX2_ruleTold 11 = .ok (.goto 10, 3) := by decide +kernel
theorem dX2_ruleTold_14 : decode cX2_ruleTold 14 = .ok (.aload_n 0, 1) := by decide +kernel
theorem dX2_ruleTold_15 : decode cX2_ruleTold 15 = .ok (.getfield 42, 3) := by decide +kernel
theorem dX2_ruleTold_18 : decode cX2_ruleTold 18 = .ok (.getfield 138, 3) := by decide +kernel
theorem dX2_ruleTold_21 : decode cX2_ruleTold 21 = .ok (.astore_n 2, 1) := by decide +kernel
theorem dX2_ruleTold_22 : decode cX2_ruleTold 22 = .ok (.aload_n 2, 1) := by decide +kernel
theorem dX2_ruleTold_23 : decode cX2_ruleTold 23 = .ok (.ifnull 9, 3) := by decide +kernel
theorem dX2_ruleTold_26 : decode cX2_ruleTold 26 = .ok (.aload_n 0, 1) := by decide +kernel
theorem dX2_ruleTold_27 : decode cX2_ruleTold 27 = .ok (.iconst 5, 1) := by decide +kernel
theorem dX2_ruleTold_28 : decode cX2_ruleTold 28 = .ok (.invokevirtual 92, 3) := by decide +kernel
theorem dX2_ruleTold_31 : decode cX2_ruleTold 31 = .ok (.ireturn, 1) := by decide +kernel
theorem dX2_ruleTold_32 : decode cX2_ruleTold 32 = .ok (.aload_n 0, 1) := by decide +kernel
theorem dX2_ruleTold_33 : decode cX2_ruleTold 33 = .ok (.iload_n 1, 1) := by decide +kernel
theorem dX2_ruleTold_34 : decode cX2_ruleTold 34 = .ok (.putfield 32, 3) := by decide +kernel
theorem dX2_ruleTold_37 : decode cX2_ruleTold 37 = .ok (.aload_n 0, 1) := by decide +kernel
theorem dX2_ruleTold_38 : decode cX2_ruleTold 38 = .ok (.iconst 0, 1) := by decide +kernel
theorem dX2_ruleTold_39 : decode cX2_ruleTold 39 = .ok (.putfield 29, 3) := by decide +kernel
theorem dX2_ruleTold_42 : decode cX2_ruleTold 42 = .ok (.aload_n 0, 1) := by decide +kernel
theorem dX2_ruleTold_43 : decode cX2_ruleTold 43 = .ok (.getfield 12, 3) := by decide +kernel
theorem dX2_ruleTold_46 : decode cX2_ruleTold 46 = .ok (.invokevirtual 99, 3) := by decide +kernel
theorem dX2_ruleTold_49 : decode cX2_ruleTold 49 = .ok (.aload_n 0, 1) := by decide +kernel
theorem dX2_ruleTold_50 : decode cX2_ruleTold 50 = .ok (.iconst 0, 1) := by decide +kernel
theorem dX2_ruleTold_51 : decode cX2_ruleTold 51 = .ok (.invokevirtual 140, 3) := by decide +kernel
theorem dX2_ruleTold_54 : decode cX2_ruleTold 54 = .ok (.ifCond .ne 5, 3) := by decide +kernel
theorem dX2_ruleTold_57 : decode cX2_ruleTold 57 = .ok (.iconst 0, 1) := by decide +kernel
theorem dX2_ruleTold_58 : decode cX2_ruleTold 58 = .ok (.ireturn, 1) := by decide +kernel
theorem dX2_ruleTold_59 : decode cX2_ruleTold 59 = .ok (.new 143, 3) := by decide +kernel
theorem dX2_ruleTold_62 : decode cX2_ruleTold 62 = .ok (.dup, 1) := by decide +kernel
theorem dX2_ruleTold_63 : decode cX2_ruleTold 63 = .ok (.aload_n 0, 1) := by decide +kernel
theorem dX2_ruleTold_64 : decode cX2_ruleTold 64 = .ok (.getfield 25, 3) := by decide +kernel
theorem dX2_ruleTold_67 : decode cX2_ruleTold 67 = .ok (.aload_n 0, 1) := by decide +kernel
theorem dX2_ruleTold_68 : decode cX2_ruleTold 68 = .ok (.getfield 29, 3) := by decide +kernel
theorem dX2_ruleTold_71 : decode cX2_ruleTold 71 = .ok (.invokestatic 145, 3) := by decide +kernel
theorem dX2_ruleTold_74 : decode cX2_ruleTold 74 = .ok (.invokespecial 151, 3) := by decide +kernel
theorem dX2_ruleTold_77 : decode cX2_ruleTold 77 = .ok (.astore_n 3, 1) := by decide +kernel
theorem dX2_ruleTold_78 : decode cX2_ruleTold 78 = .ok (.iload_n 1, 1) := by decide +kernel
theorem dX2_ruleTold_79 : decode cX2_ruleTold 79 = .ok (.ifCond .eq 14, 3) := by decide +kernel
theorem dX2_ruleTold_82 : decode cX2_ruleTold 82 = .ok (.aload_n 0, 1) := by decide +kernel
theorem dX2_ruleTold_83 : decode cX2_ruleTold 83 = .ok (.getfield 42, 3) := by decide +kernel
theorem dX2_ruleTold_86 : decode cX2_ruleTold 86 = .ok (.aload_n 3, 1) := by decide +kernel
theorem dX2_ruleTold_87 : decode cX2_ruleTold 87 = .ok (.putfield 135, 3) := by decide +kernel
theorem dX2_ruleTold_90 : decode cX2_ruleTold 90 = .ok (.goto 11, 3) := by decide +kernel
theorem dX2_ruleTold_93 : decode cX2_ruleTold 93 = .ok (.aload_n 0, 1) := by decide +kernel
theorem dX2_ruleTold_94 : decode cX2_ruleTold 94 = .ok (.getfield 42, 3) := by decide +kernel
theorem dX2_ruleTold_97 : decode cX2_ruleTold 97 = .ok (.aload_n 3, 1) := by decide +kernel
theorem dX2_ruleTold_98 : decode cX2_ruleTold 98 = .ok (.putfield 138, 3) := by decide +kernel
theorem dX2_ruleTold_101 : decode cX2_ruleTold 101 = .ok (.iconst 1, 1) := by decide +kernel
theorem dX2_ruleTold_102 : decode cX2_ruleTold 102 = .ok (.ireturn, 1) := by decide +kernel
theorem dX2_emit_0 : decode cX2_emit 0 = .ok (.aload_n 0, 1) := by decide +kernel
theorem dX2_emit_1 : decode cX2_emit 1 = .ok (.getfield 29, 3) := by decide +kernel
theorem dX2_emit_4 : decode cX2_emit 4 = .ok (.aload_n 0, 1) := by decide +kernel
theorem dX2_emit_5 : decode cX2_emit 5 = .ok (.getfield 25, 3) := by decide +kernel
theorem dX2_emit_8 : decode cX2_emit 8 = .ok (.arraylength, 1) := by decide +kernel
theorem dX2_emit_9 : decode cX2_emit 9 = .ok (.if_icmp .lt 9, 3) := by decide +kernel
theorem dX2_emit_12 : decode cX2_emit 12 = .ok (.aload_n 0, 1) := by decide +kernel
theorem dX2_emit_13 : decode cX2_emit 13 = .ok (.iconst 2, 1) := by decide +kernel
theorem dX2_emit_14 : decode cX2_emit 14 = .ok (.invokevirtual 92, 3) := by decide +kernel
theorem dX2_emit_17 : decode cX2_emit 17 = .ok (.ireturn, 1) := by decide +kernel
theorem dX2_emit_18 : decode cX2_emit 18 = .ok (.aload_n 0, 1) := by decide +kernel
theorem dX2_emit_19 : decode cX2_emit 19 = .ok (.getfield 25, 3) := by decide +kernel
theorem dX2_emit_22 : decode cX2_emit 22 = .ok (.aload_n 0, 1) := by decide +kernel
theorem dX2_emit_23 : decode cX2_emit 23 = .ok (.getfield 29, 3) := by decide +kernel
theorem dX2_emit_26 : decode cX2_emit 26 = .ok (.iload_n 1, 1) := by decide +kernel
theorem dX2_emit_27 : decode cX2_emit 27 = .ok (.iastore, 1) := by decide +kernel
theorem dX2_emit_28 : decode cX2_emit 28 = .ok (.aload_n 0, 1) := by decide +kernel
theorem dX2_emit_29 : decode cX2_emit 29 = .ok (.dup, 1) := by decide +kernel
theorem dX2_emit_30 : decode cX2_emit 30 = .ok (.getfield 29, 3) := by decide +kernel
theorem dX2_emit_33 : decode cX2_emit 33 = .ok (.iconst 1, 1) := by decide +kernel
theorem dX2_emit_34 : decode cX2_emit 34 = .ok (.iadd, 1) := by decide +kernel
theorem dX2_emit_35 : decode cX2_emit 35 = .ok (.putfield 29, 3) := by decide +kernel
theorem dX2_emit_38 : decode cX2_emit 38 = .ok (.iconst 1, 1) := by decide +kernel
theorem dX2_emit_39 : decode cX2_emit 39 = .ok (.ireturn, 1) := by decide +kernel
theorem dX2_expr_0 : decode cX2_expr 0 = .ok (.aload_n 0, 1) := by decide +kernel
theorem dX2_expr_1 : decode cX2_expr 1 = .ok (.getfield 12, 3) := by decide +kernel
theorem dX2_expr_4 : decode cX2_expr 4 = .ok (.getfield 50, 3) := by decide +kernel
theorem dX2_expr_7 : decode cX2_expr 7 = .ok (.bipush 48, 2) := by decide +kernel
theorem dX2_expr_9 : decode cX2_expr 9 = .ok (.if_icmp .eq 27, 3) := by decide +kernel
theorem dX2_expr_12 : decode cX2_expr 12 = .ok (.aload_n 0, 1) := by decide +kernel
theorem dX2_expr_13 : decode cX2_expr 13 = .ok (.getfield 12, 3) := by decide +kernel
theorem dX2_expr_16 : decode cX2_expr 16 = .ok (.getfield 50, 3) := by decide +kernel
theorem dX2_expr_19 : decode cX2_expr 19 = .ok (.bipush 97, 2) := by decide +kernel
theorem dX2_expr_21 : decode cX2_expr 21 = .ok (.if_icmp .eq 15, 3) := by decide +kernel
theorem dX2_expr_24 : decode cX2_expr 24 = .ok (.aload_n 0, 1) := by decide +kernel
theorem dX2_expr_25 : decode cX2_expr 25 = .ok (.getfield 12, 3) := by decide +kernel
theorem dX2_expr_28 : decode cX2_expr 28 = .ok (.getfield 50, 3) := by decide +kernel
theorem dX2_expr_31 : decode cX2_expr 31 = .ok (.bipush 40, 2) := by decide +kernel
theorem dX2_expr_33 : decode cX2_expr 33 = .ok (.if_icmp .ne 7, 3) := by decide +kernel
theorem dX2_expr_36 : decode cX2_expr 36 = .ok (.iconst 1, 1) := by decide +kernel
theorem dX2_expr_37 : decode cX2_expr 37 = .ok (.goto 4, 3) := by decide +kernel
theorem dX2_expr_40 : decode cX2_expr 40 = .ok (.iconst 0, 1) := by decide +kernel
theorem dX2_expr_41 : decode cX2_expr 41 = .ok (.istore_n 2, 1) := by decide +kernel
theorem dX2_expr_42 : decode cX2_expr 42 = .ok (.iload_n 1, 1) := by decide +kernel
theorem dX2_expr_43 : decode cX2_expr 43 = .ok (.bipush 6, 2) := by decide +kernel
theorem dX2_expr_45 : decode cX2_expr 45 = .ok (.if_icmp .lt 13, 3) := by decide +kernel
theorem dX2_expr_48 : decode cX2_expr 48 = .ok (.iload_n 2, 1) := by decide +kernel
theorem dX2_expr_49 : decode cX2_expr 49 = .ok (.ifCond .eq 9, 3) := by decide +kernel
theorem dX2_expr_52 : decode cX2_expr 52 = .ok (.aload_n 0, 1) := by decide +kernel
theorem dX2_expr_53 : decode cX2_expr 53 = .ok (.iconst 2, 1) := by decide +kernel
theorem dX2_expr_54 : decode cX2_expr 54 = .ok (.invokevirtual 92, 3) := by decide +kernel
theorem dX2_expr_57 : decode cX2_expr 57 = .ok (.ireturn, 1) := by decide +kernel
theorem dX2_expr_58 : decode cX2_expr 58 = .ok (.aload_n 0, 1) := by decide +kernel
theorem dX2_expr_59 : decode cX2_expr 59 = .ok (.iload_n 1, 1) := by decide +kernel
theorem dX2_expr_60 : decode cX2_expr 60 = .ok (.invokevirtual 154, 3) := by decide +kernel
theorem dX2_expr_63 : decode cX2_expr 63 = .ok (.istore_n 3, 1) := by decide +kernel
theorem dX2_expr_64 : decode cX2_expr 64 = .ok (.iconst 0, 1) := by decide +kernel
theorem dX2_expr_65 : decode cX2_expr 65 = .ok (.istore 4, 2) := by decide +kernel
theorem dX2_expr_67 : decode cX2_expr 67 = .ok (.iload 4, 2) := by decide +kernel
theorem dX2_expr_69 : decode cX2_expr 69 = .ok (.sipush 700, 3) := by decide +kernel
theorem dX2_expr_72 : decode cX2_expr 72 = .ok (.if_icmp .ge 55, 3) := by decide +kernel
theorem dX2_expr_75 : decode cX2_expr 75 = .ok (.iload_n 3, 1) := by decide +kernel
theorem dX2_expr_76 : decode cX2_expr 76 = .ok (.ifCond .eq 51, 3) := by decide +kernel
theorem dX2_expr_79 : decode cX2_expr 79 = .ok (.aload_n 0, 1) := by decide +kernel
theorem dX2_expr_80 : decode cX2_expr 80 = .ok (.getfield 12, 3) := by decide +kernel
theorem dX2_expr_83 : decode cX2_expr 83 = .ok (.ldc 157, 2) := by decide +kernel
theorem dX2_expr_85 : decode cX2_expr 85 = .ok (.invokevirtual 62, 3) := by decide +kernel
theorem dX2_expr_88 : decode cX2_expr 88 = .ok (.ifCond .eq 39, 3) := by decide +kernel
theorem dX2_expr_91 : decode cX2_expr 91 = .ok (.aload_n 0, 1) := by decide +kernel
theorem dX2_expr_92 : decode cX2_expr 92 = .ok (.getfield 12, 3) := by decide +kernel
theorem dX2_expr_95 : decode cX2_expr 95 = .ok (.invokevirtual 99, 3) := by decide +kernel
theorem dX2_expr_98 : decode cX2_expr 98 = .ok (.aload_n 0, 1) := by decide +kernel
theorem dX2_expr_99 : decode cX2_expr 99 = .ok (.iload_n 1, 1) := by decide +kernel
theorem dX2_expr_100 : decode cX2_expr 100 = .ok (.invokevirtual 154, 3) := by decide +kernel
theorem dX2_expr_103 : decode cX2_expr 103 = .ok (.ifCond .eq 16, 3) := by decide +kernel
theorem dX2_expr_106 : decode cX2_expr 106 = .ok (.aload_n 0, 1) := by decide +kernel
theorem dX2_expr_107 : decode cX2_expr 107 = .ok (.bipush (-101), 2) := by decide +kernel
theorem dX2_expr_109 : decode cX2_expr 109 = .ok (.invokevirtual 159, 3) := by decide +kernel
theorem dX2_expr_112 : decode cX2_expr 112 = .ok (.ifCond .eq 7, 3) := by decide +kernel
theorem dX2_expr_115 : decode cX2_expr 115 = .ok (.iconst 1, 1) := by decide +kernel
theorem dX2_expr_116 : decode cX2_expr 116 = .ok (.goto 4, 3) := by decide +kernel
theorem dX2_expr_119 : decode cX2_expr 119 = .ok (.iconst 0, 1) := by decide +kernel
theorem dX2_expr_120 : decode cX2_expr 120 = .ok (.istore_n 3, 1) := by decide +kernel
theorem dX2_expr_121 : decode cX2_expr 121 = .ok (.iinc 4 1, 3) := by decide +kernel
theorem dX2_expr_124 : decode cX2_expr 124 = .ok (.goto (-57), 3) := by decide +kernel
theorem dX2_expr_127 : decode cX2_expr 127 = .ok (.iload_n 3, 1) := by decide +kernel
theorem dX2_expr_128 : decode cX2_expr 128 = .ok (.ireturn, 1) := by decide +kernel
theorem dX2_allOf_0 : decode cX2_allOf 0 = .ok (.aload_n 0, 1) := by decide +kernel
theorem dX2_allOf_1 : decode cX2_allOf 1 = .ok (.iload_n 1, 1) := by decide +kernel
theorem dX2_allOf_2 : decode cX2_allOf 2 = .ok (.invokevirtual 162, 3) := by decide +kernel
theorem dX2_allOf_5 : decode cX2_allOf 5 = .ok (.istore_n 2, 1) := by decide +kernel
theorem dX2_allOf_6 : decode cX2_allOf 6 = .ok (.iconst 0, 1) := by decide +kernel
theorem dX2_allOf_7 : decode cX2_allOf 7 = .ok (.istore_n 3, 1) := by decide +kernel
theorem dX2_allOf_8 : decode cX2_allOf 8 = .ok (.iload_n 3, 1) := by decide +kernel
theorem dX2_allOf_9 : decode cX2_allOf 9 = .ok (.sipush 700, 3) := by decide +kernel
theorem dX2_allOf_12 : decode cX2_allOf 12 = .ok (.if_icmp .ge 55, 3) := by decide +kernel
theorem dX2_allOf_15 : decode cX2_allOf 15 = .ok (.iload_n 2, 1) := by decide +kernel
theorem dX2_allOf_16 : decode cX2_allOf 16 = .ok (.ifCond .eq 51, 3) := by decide +kernel
theorem dX2_allOf_19 : decode cX2_allOf 19 = .ok (.aload_n 0, 1) := by decide +kernel
theorem dX2_allOf_20 : decode cX2_allOf 20 = .ok (.getfield 12, 3) := by decide +kernel
theorem dX2_allOf_23 : decode cX2_allOf 23 = .ok (.ldc 165, 2) := by decide +kernel
theorem dX2_allOf_25 : decode cX2_allOf 25 = .ok (.invokevirtual 62, 3) := by decide +kernel
theorem dX2_allOf_28 : decode cX2_allOf 28 = .ok (.ifCond .eq 39, 3) := by decide +kernel
theorem dX2_allOf_31 : decode cX2_allOf 31 = .ok (.aload_n 0, 1) := by decide +kernel
theorem dX2_allOf_32 : decode cX2_allOf 32 = .ok (.getfield 12, 3) := by decide +kernel
theorem dX2_allOf_35 : decode cX2_allOf 35 = .ok (.invokevirtual 99, 3) := by decide +kernel
theorem dX2_allOf_38 : decode cX2_allOf 38 = .ok (.aload_n 0, 1) := by decide +kernel
theorem dX2_allOf_39 : decode cX2_allOf 39 = .ok (.iload_n 1, 1) := by decide +kernel
theorem dX2_allOf_40 : decode cX2_allOf 40 = .ok (.invokevirtual 162, 3) := by decide +kernel
theorem dX2_allOf_43 : decode cX2_allOf 43 = .ok (.ifCond .eq 16, 3) := by decide +kernel
theorem dX2_allOf_46 : decode cX2_allOf 46 = .ok (.aload_n 0, 1) := by decide +kernel
theorem dX2_allOf_47 : decode cX2_allOf 47 = .ok (.bipush (-102), 2) := by decide +kernel
theorem dX2_allOf_49 : decode cX2_allOf 49 = .ok (.invokevirtual 159, 3) := by decide +kernel
theorem dX2_allOf_52 : decode cX2_allOf 52 = .ok (.ifCond .eq 7, 3) := by decide +kernel
theorem dX2_allOf_55 : decode cX2_allOf 55 = .ok (.iconst 1, 1) := by decide +kernel
theorem dX2_allOf_56 : decode cX2_allOf 56 = .ok (.goto 4, 3) := by decide +kernel
theorem dX2_allOf_59 : decode cX2_allOf 59 = .ok (.iconst 0, 1) := by decide +kernel
theorem dX2_allOf_60 : decode cX2_allOf 60 = .ok (.istore_n 2, 1) := by decide +kernel
theorem dX2_allOf_61 : decode cX2_allOf 61 = .ok (.iinc 3 1, 3) := by decide +kernel
theorem dX2_allOf_64 : decode cX2_allOf 64 = .ok (.goto (-56), 3) := by decide +kernel
theorem dX2_allOf_67 : decode cX2_allOf 67 = .ok (.iload_n 2, 1) := by decide +kernel
theorem dX2_allOf_68 : decode cX2_allOf 68 = .ok (.ireturn, 1) := by decide +kernel
theorem dX2_denied_0 : decode cX2_denied 0 = .ok (.iconst 0, 1) := by decide +kernel
theorem dX2_denied_1 : decode cX2_denied 1 = .ok (.istore_n 2, 1) := by decide +kernel
theorem dX2_denied_2 : decode cX2_denied 2 = .ok (.iconst 0, 1) := by decide +kernel
theorem dX2_denied_3 : decode cX2_denied 3 = .ok (.istore_n 3, 1) := by decide +kernel
theorem dX2_denied_4 : decode cX2_denied 4 = .ok (.iload_n 3, 1) := by decide +kernel
theorem dX2_denied_5 : decode cX2_denied 5 = .ok (.bipush 6, 2) := by decide +kernel
theorem dX2_denied_7 : decode cX2_denied 7 = .ok (.if_icmp .gt 43, 3) := by decide +kernel
theorem dX2_denied_10 : decode cX2_denied 10 = .ok (.aload_n 0, 1) := by decide +kernel
theorem dX2_denied_11 : decode cX2_denied 11 = .ok (.getfield 12, 3) := by decide +kernel
theorem dX2_denied_14 : decode cX2_denied 14 = .ok (.ldc 167, 2) := by decide +kernel
theorem dX2_denied_16 : decode cX2_denied 16 = .ok (.invokevirtual 62, 3) := by decide +kernel
theorem dX2_denied_19 : decode cX2_denied 19 = .ok (.ifCond .eq 31, 3) := by decide +kernel
theorem dX2_denied_22 : decode cX2_denied 22 = .ok (.iload_n 2, 1) := by decide +kernel
theorem dX2_denied_23 : decode cX2_denied 23 = .ok (.bipush 6, 2) := by decide +kernel
theorem dX2_denied_25 : decode cX2_denied 25 = .ok (.if_icmp .ne 9, 3) := by decide +kernel
theorem dX2_denied_28 : decode cX2_denied 28 = .ok (.aload_n 0, 1) := by decide +kernel
theorem dX2_denied_29 : decode cX2_denied 29 = .ok (.iconst 2, 1) := by decide +kernel
theorem dX2_denied_30 : decode cX2_denied 30 = .ok (.invokevirtual 92, 3) := by decide +kernel
theorem dX2_denied_33 : decode cX2_denied 33 = .ok (.ireturn, 1) := by decide +kernel
theorem dX2_denied_34 : decode cX2_denied 34 = .ok (.iinc 2 1, 3) := by decide +kernel
theorem dX2_denied_37 : decode cX2_denied 37 = .ok (.aload_n 0, 1) := by decide +kernel
theorem dX2_denied_38 : decode cX2_denied 38 = .ok (.getfield 12, 3) := by decide +kernel
theorem dX2_denied_41 : decode cX2_denied 41 = .ok (.invokevirtual 99, 3) := by decide +kernel
theorem dX2_denied_44 : decode cX2_denied 44 = .ok (.iinc 3 1, 3) := by decide +kernel
theorem dX2_denied_47 : decode cX2_denied 47 = .ok (.goto (-43), 3) := by decide +kernel
theorem dX2_denied_50 : decode cX2_denied 50 = .ok (.aload_n 0, 1) := by decide +kernel
theorem dX2_denied_51 : decode cX2_denied 51 = .ok (.iload_n 1, 1) := by decide +kernel
theorem dX2_denied_52 : decode cX2_denied 52 = .ok (.invokevirtual 169, 3) := by decide +kernel
theorem dX2_denied_55 : decode cX2_denied 55 = .ok (.istore_n 3, 1) := by decide +kernel
theorem dX2_denied_56 : decode cX2_denied 56 = .ok (.iconst 0, 1) := by decide +kernel
theorem dX2_denied_57 : decode cX2_denied 57 = .ok (.istore 4, 2) := by decide +kernel
theorem dX2_denied_59 : decode cX2_denied 59 = .ok (.iload 4, 2) := by decide +kernel
theorem dX2_denied_61 : decode cX2_denied 61 = .ok (.iload_n 2, 1) := by decide +kernel
theorem dX2_denied_62 : decode cX2_denied 62 = .ok (.if_icmp .ge 20, 3) := by decide +kernel
theorem dX2_denied_65 : decode cX2_denied 65 = .ok (.iload_n 3, 1) := by decide +kernel
theorem dX2_denied_66 : decode cX2_denied 66 = .ok (.ifCond .eq 16, 3) := by decide +kernel
theorem dX2_denied_69 : decode cX2_denied 69 = .ok (.aload_n 0, 1) := by decide +kernel
theorem dX2_denied_70 : decode cX2_denied 70 = .ok (.bipush (-103), 2) := by decide +kernel
theorem dX2_denied_72 : decode cX2_denied 72 = .ok (.invokevirtual 159, 3) := by decide +kernel
theorem dX2_denied_75 : decode cX2_denied 75 = .ok (.istore_n 3, 1) := by decide +kernel
theorem dX2_denied_76 : decode cX2_denied 76 = .ok (.iinc 4 1, 3) := by decide +kernel
theorem dX2_denied_79 : decode cX2_denied 79 = .ok (.goto (-20), 3) := by decide +kernel
theorem dX2_denied_82 : decode cX2_denied 82 = .ok (.iload_n 3, 1) := by decide +kernel
theorem dX2_denied_83 : decode cX2_denied 83 = .ok (.ireturn, 1) := by decide +kernel
theorem dX2_compared_0 : decode cX2_compared 0 = .ok (.aload_n 0, 1) := by decide +kernel
theorem dX2_compared_1 : decode cX2_compared 1 = .ok (.iload_n 1, 1) := by decide +kernel
theorem dX2_compared_2 : decode cX2_compared 2 = .ok (.invokevirtual 172, 3) := by decide +kernel
theorem dX2_compared_5 : decode cX2_compared 5 = .ok (.ifCond .ne 5, 3) := by decide +kernel
theorem dX2_compared_8 : decode cX2_compared 8 = .ok (.iconst 0, 1) := by decide +kernel
theorem dX2_compared_9 : decode cX2_compared 9 = .ok (.ireturn, 1) := by decide +kernel
theorem dX2_compared_10 : decode cX2_compared 10 = .ok (.aload_n 0, 1) := by decide +kernel
theorem dX2_compared_11 : decode cX2_compared 11 = .ok (.getfield 12, 3) := by decide +kernel
theorem dX2_compared_14 : decode cX2_compared 14 = .ok (.getfield 50, 3) := by decide +kernel
theorem dX2_compared_17 : decode cX2_compared 17 = .ok (.istore_n 2, 1) := by decide +kernel
theorem dX2_compared_18 : decode cX2_compared 18 = .ok (.iload_n 2, 1) := by decide +kernel
theorem dX2_compared_19 : decode cX2_compared 19 = .ok (.bipush 60, 2) := by decide +kernel
theorem dX2_compared_21 : decode cX2_compared 21 = .ok (.if_icmp .eq 11, 3) := by decide +kernel
theorem dX2_compared_24 : decode cX2_compared 24 = .ok (.iload_n 2, 1) := by decide +kernel
theorem dX2_compared_25 : decode cX2_compared 25 = .ok (.bipush 61, 2) := by decide +kernel
theorem dX2_compared_27 : decode cX2_compared 27 = .ok (.if_icmp .eq 5, 3) := by decide +kernel
theorem dX2_compared_30 : decode cX2_compared 30 = .ok (.iconst 1, 1) := by decide +kernel
theorem dX2_compared_31 : decode cX2_compared 31 = .ok (.ireturn, 1) := by decide +kernel
theorem dX2_compared_32 : decode cX2_compared 32 = .ok (.aload_n 0, 1) := by decide +kernel
theorem dX2_compared_33 : decode cX2_compared 33 = .ok (.getfield 12, 3) := by decide +kernel
theorem dX2_compared_36 : decode cX2_compared 36 = .ok (.invokevirtual 99, 3) := by decide +kernel
theorem dX2_compared_39 : decode cX2_compared 39 = .ok (.aload_n 0, 1) := by decide +kernel
theorem dX2_compared_40 : decode cX2_compared 40 = .ok (.iload_n 1, 1) := by decide +kernel
theorem dX2_compared_41 : decode cX2_compared 41 = .ok (.invokevirtual 172, 3) := by decide +kernel
theorem dX2_compared_44 : decode cX2_compared 44 = .ok (.ifCond .eq 16, 3) := by decide +kernel
theorem dX2_compared_47 : decode cX2_compared 47 = .ok (.aload_n 0, 1) := by decide +kernel
theorem dX2_compared_48 : decode cX2_compared 48 = .ok (.iload_n 2, 1) := by decide +kernel
theorem dX2_compared_49 : decode cX2_compared 49 = .ok (.ineg, 1) := by decide +kernel
theorem dX2_compared_50 : decode cX2_compared 50 = .ok (.invokevirtual 159, 3) := by decide +kernel
theorem dX2_compared_53 : decode cX2_compared 53 = .ok (.ifCond .eq 7, 3) := by decide +kernel
theorem dX2_compared_56 : decode cX2_compared 56 = .ok (.iconst 1, 1) := by decide +kernel
theorem dX2_compared_57 : decode cX2_compared 57 = .ok (.goto 4, 3) := by decide +kernel
theorem dX2_compared_60 : decode cX2_compared 60 = .ok (.iconst 0, 1) := by decide +kernel
theorem dX2_compared_61 : decode cX2_compared 61 = .ok (.ireturn, 1) := by decide +kernel
theorem dX2_sum_0 : decode cX2_sum 0 = .ok (.aload_n 0, 1) := by decide +kernel
theorem dX2_sum_1 : decode cX2_sum 1 = .ok (.iload_n 1, 1) := by decide +kernel
theorem dX2_sum_2 : decode cX2_sum 2 = .ok (.invokevirtual 175, 3) := by decide +kernel
theorem dX2_sum_5 : decode cX2_sum 5 = .ok (.istore_n 2, 1) := by decide +kernel
theorem dX2_sum_6 : decode cX2_sum 6 = .ok (.iconst 0, 1) := by decide +kernel
theorem dX2_sum_7 : decode cX2_sum 7 = .ok (.istore_n 3, 1) := by decide +kernel
theorem dX2_sum_8 : decode cX2_sum 8 = .ok (.iload_n 3, 1) := by decide +kernel
theorem dX2_sum_9 : decode cX2_sum 9 = .ok (.sipush 700, 3) := by decide +kernel
theorem dX2_sum_12 : decode cX2_sum 12 = .ok (.if_icmp .ge 77, 3) := by decide +kernel
theorem dX2_sum_15 : decode cX2_sum 15 = .ok (.iload_n 2, 1) := by decide +kernel
theorem dX2_sum_16 : decode cX2_sum 16 = .ok (.ifCond .eq 73, 3) := by decide +kernel
theorem dX2_sum_19 : decode cX2_sum 19 = .ok (.aload_n 0, 1) := by decide +kernel
theorem dX2_sum_20 : decode cX2_sum 20 = .ok (.getfield 12, 3) := by decide +kernel
theorem dX2_sum_23 : decode cX2_sum 23 = .ok (.getfield 50, 3) := by decide +kernel
theorem dX2_sum_26 : decode cX2_sum 26 = .ok (.bipush 43, 2) := by decide +kernel
theorem dX2_sum_28 : decode cX2_sum 28 = .ok (.if_icmp .eq 15, 3) := by decide +kernel
theorem dX2_sum_31 : decode cX2_sum 31 = .ok (.aload_n 0, 1) := by decide +kernel
theorem dX2_sum_32 : decode cX2_sum 32 = .ok (.getfield 12, 3) := by decide +kernel
theorem dX2_sum_35 : decode cX2_sum 35 = .ok (.getfield 50, 3) := by decide +kernel
theorem dX2_sum_38 : decode cX2_sum 38 = .ok (.bipush 45, 2) := by decide +kernel
theorem dX2_sum_40 : decode cX2_sum 40 = .ok (.if_icmp .ne 49, 3) := by decide +kernel
theorem dX2_sum_43 : decode cX2_sum 43 = .ok (.aload_n 0, 1) := by decide +kernel
theorem dX2_sum_44 : decode cX2_sum 44 = .ok (.getfield 12, 3) := by decide +kernel
theorem dX2_sum_47 : decode cX2_sum 47 = .ok (.getfield 50, 3) := by decide +kernel
theorem dX2_sum_50 : decode cX2_sum 50 = .ok (.istore 4, 2) := by decide +kernel
theorem dX2_sum_52 : decode cX2_sum 52 = .ok (.aload_n 0, 1) := by decide +kernel
theorem dX2_sum_53 : decode cX2_sum 53 = .ok (.getfield 12, 3) := by decide +kernel
theorem dX2_sum_56 : decode cX2_sum 56 = .ok (.invokevirtual 99, 3) := by decide +kernel
theorem dX2_sum_59 : decode cX2_sum 59 = .ok (.aload_n 0, 1) := by decide +kernel
theorem dX2_sum_60 : decode cX2_sum 60 = .ok (.iload_n 1, 1) := by decide +kernel
theorem dX2_sum_61 : decode cX2_sum 61 = .ok (.invokevirtual 175, 3) := by decide +kernel
theorem dX2_sum_64 : decode cX2_sum 64 = .ok (.ifCond .eq 17, 3) := by decide +kernel
theorem dX2_sum_67 : decode cX2_sum 67 = .ok (.aload_n 0, 1) := by decide +kernel
theorem dX2_sum_68 : decode cX2_sum 68 = .ok (.iload 4, 2) := by decide +kernel
theorem dX2_sum_70 : decode cX2_sum 70 = .ok (.ineg, 1) := by decide +kernel
theorem dX2_sum_71 : decode cX2_sum 71 = .ok (.invokevirtual 159, 3) := by decide +kernel
theorem dX2_sum_74 : decode cX2_sum 74 = .ok (.ifCond .eq 7, 3) := by decide +kernel
theorem dX2_sum_77 : decode cX2_sum 77 = .ok (.iconst 1, 1) := by decide +kernel
theorem dX2_sum_78 : decode cX2_sum 78 = .ok (.goto 4, 3) := by decide +kernel
theorem dX2_sum_81 : decode cX2_sum 81 = .ok (.iconst 0, 1) := by decide +kernel
theorem dX2_sum_82 : decode cX2_sum 82 = .ok (.istore_n 2, 1) := by decide +kernel
theorem dX2_sum_83 : decode cX2_sum 83 = .ok (.iinc 3 1, 3) := by decide +kernel
theorem dX2_sum_86 : decode cX2_sum 86 = .ok (.goto (-78), 3) := by decide +kernel
theorem dX2_sum_89 : decode cX2_sum 89 = .ok (.iload_n 2, 1) := by decide +kernel
theorem dX2_sum_90 : decode cX2_sum 90 = .ok (.ireturn, 1) := by decide +kernel
theorem dX2_product_0 : decode cX2_product 0 = .ok (.aload_n 0, 1) := by decide +kernel
theorem dX2_product_1 : decode cX2_product 1 = .ok (.iload_n 1, 1) := by decide +kernel
theorem dX2_product_2 : decode cX2_product 2 = .ok (.invokevirtual 178, 3) := by decide +kernel
theorem dX2_product_5 : decode cX2_product 5 = .ok (.istore_n 2, 1) := by decide +kernel
theorem dX2_product_6 : decode cX2_product 6 = .ok (.iconst 0, 1) := by decide +kernel
theorem dX2_product_7 : decode cX2_product 7 = .ok (.istore_n 3, 1) := by decide +kernel
theorem dX2_product_8 : decode cX2_product 8 = .ok (.iload_n 3, 1) := by decide +kernel
theorem dX2_product_9 : decode cX2_product 9 = .ok (.sipush 700, 3) := by decide +kernel
theorem dX2_product_12 : decode cX2_product 12 = .ok (.if_icmp .ge 77, 3) := by decide +kernel
theorem dX2_product_15 : decode cX2_product 15 = .ok (.iload_n 2, 1) := by decide +kernel
theorem dX2_product_16 : decode cX2_product 16 = .ok (.ifCond .eq 73, 3) := by decide +kernel
theorem dX2_product_19 : decode cX2_product 19 = .ok (.aload_n 0, 1) := by decide +kernel
theorem dX2_product_20 : decode cX2_product 20 = .ok (.getfield 12, 3) := by decide +kernel
theorem dX2_product_23 : decode cX2_product 23 = .ok (.getfield 50, 3) := by decide +kernel
theorem dX2_product_26 : decode cX2_product 26 = .ok (.bipush 42, 2) := by decide +kernel
theorem dX2_product_28 : decode cX2_product 28 = .ok (.if_icmp .eq 15, 3) := by decide +kernel
theorem dX2_product_31 : decode cX2_product 31 = .ok (.aload_n 0, 1) := by decide +kernel
theorem dX2_product_32 : decode cX2_product 32 = .ok (.getfield 12, 3) := by decide +kernel
theorem dX2_product_35 : decode cX2_product 35 = .ok (.getfield 50, 3) := by decide +kernel
theorem dX2_product_38 : decode cX2_product 38 = .ok (.bipush 47, 2) := by decide +kernel
theorem dX2_product_40 : decode cX2_product 40 = .ok (.if_icmp .ne 49, 3) := by decide +kernel
theorem dX2_product_43 : decode cX2_product 43 = .ok (.aload_n 0, 1) := by decide +kernel
theorem dX2_product_44 : decode cX2_product 44 = .ok (.getfield 12, 3) := by decide +kernel
theorem dX2_product_47 : decode cX2_product 47 = .ok (.getfield 50, 3) := by decide +kernel
theorem dX2_product_50 : decode cX2_product 50 = .ok (.istore 4, 2) := by decide +kernel
theorem dX2_product_52 : decode cX2_product 52 = .ok (.aload_n 0, 1) := by decide +kernel
theorem dX2_product_53 : decode cX2_product 53 = .ok (.getfield 12, 3) := by decide +kernel
theorem dX2_product_56 : decode cX2_product 56 = .ok (.invokevirtual 99, 3) := by decide +kernel
theorem dX2_product_59 : decode cX2_product 59 = .ok (.aload_n 0, 1) := by decide +kernel
theorem dX2_product_60 : decode cX2_product 60 = .ok (.iload_n 1, 1) := by decide +kernel
theorem dX2_product_61 : decode cX2_product 61 = .ok (.invokevirtual 178, 3) := by decide +kernel
theorem dX2_product_64 : decode cX2_product 64 = .ok (.ifCond .eq 17, 3) := by decide +kernel
theorem dX2_product_67 : decode cX2_product 67 = .ok (.aload_n 0, 1) := by decide +kernel
theorem dX2_product_68 : decode cX2_product 68 = .ok (.iload 4, 2) := by decide +kernel
theorem dX2_product_70 : decode cX2_product 70 = .ok (.ineg, 1) := by decide +kernel
theorem dX2_product_71 : decode cX2_product 71 = .ok (.invokevirtual 159, 3) := by decide +kernel
theorem dX2_product_74 : decode cX2_product 74 = .ok (.ifCond .eq 7, 3) := by decide +kernel
theorem dX2_product_77 : decode cX2_product 77 = .ok (.iconst 1, 1) := by decide +kernel
theorem dX2_product_78 : decode cX2_product 78 = .ok (.goto 4, 3) := by decide +kernel
theorem dX2_product_81 : decode cX2_product 81 = .ok (.iconst 0, 1) := by decide +kernel
theorem dX2_product_82 : decode cX2_product 82 = .ok (.istore_n 2, 1) := by decide +kernel
theorem dX2_product_83 : decode cX2_product 83 = .ok (.iinc 3 1, 3) := by decide +kernel
theorem dX2_product_86 : decode cX2_product 86 = .ok (.goto (-78), 3) := by decide +kernel
theorem dX2_product_89 : decode cX2_product 89 = .ok (.iload_n 2, 1) := by decide +kernel
theorem dX2_product_90 : decode cX2_product 90 = .ok (.ireturn, 1) := by decide +kernel
theorem dX2_part_0 : decode cX2_part 0 = .ok (.aload_n 0, 1) := by decide +kernel
theorem dX2_part_1 : decode cX2_part 1 = .ok (.getfield 12, 3) := by decide +kernel
theorem dX2_part_4 : decode cX2_part 4 = .ok (.getfield 50, 3) := by decide +kernel
theorem dX2_part_7 : decode cX2_part 7 = .ok (.bipush 40, 2) := by decide +kernel
theorem dX2_part_9 : decode cX2_part 9 = .ok (.if_icmp .ne 35, 3) := by decide +kernel
theorem dX2_part_12 : decode cX2_part 12 = .ok (.aload_n 0, 1) := by decide +kernel
theorem dX2_part_13 : decode cX2_part 13 = .ok (.getfield 12, 3) := by decide +kernel
theorem dX2_part_16 : decode cX2_part 16 = .ok (.invokevirtual 99, 3) := by decide +kernel
theorem dX2_part_19 : decode cX2_part 19 = .ok (.aload_n 0, 1) := by decide +kernel
theorem dX2_part_20 : decode cX2_part 20 = .ok (.iload_n 1, 1) := by decide +kernel
theorem dX2_part_21 : decode cX2_part 21 = .ok (.iconst 1, 1) := by decide +kernel
theorem dX2_part_22 : decode cX2_part 22 = .ok (.iadd, 1) := by decide +kernel
theorem dX2_part_23 : decode cX2_part 23 = .ok (.invokevirtual 140, 3) := by decide +kernel
theorem dX2_part_26 : decode cX2_part 26 = .ok (.ifCond .eq 16, 3) := by decide +kernel
theorem dX2_part_29 : decode cX2_part 29 = .ok (.aload_n 0, 1) := by decide +kernel
theorem dX2_part_30 : decode cX2_part 30 = .ok (.bipush 41, 2) := by decide +kernel
theorem dX2_part_32 : decode cX2_part 32 = .ok (.invokevirtual 95, 3) := by decide +kernel
theorem dX2_part_35 : decode cX2_part 35 = .ok (.ifCond .eq 7, 3) := by decide +kernel
theorem dX2_part_38 : decode cX2_part 38 = .ok (.iconst 1, 1) := by decide +kernel
theorem dX2_part_39 : decode cX2_part 39 = .ok (.goto 4, 3) := by decide +kernel
theorem dX2_part_42 : decode cX2_part 42 = .ok (.iconst 0, 1) := by decide +kernel
theorem dX2_part_43 : decode cX2_part 43 = .ok (.ireturn, 1) := by decide +kernel
theorem dX2_part_44 : decode cX2_part 44 = .ok (.aload_n 0, 1) := by decide +kernel
theorem dX2_part_45 : decode cX2_part 45 = .ok (.getfield 12, 3) := by decide +kernel
theorem dX2_part_48 : decode cX2_part 48 = .ok (.getfield 50, 3) := by decide +kernel
theorem dX2_part_51 : decode cX2_part 51 = .ok (.bipush 48, 2) := by decide +kernel
theorem dX2_part_53 : decode cX2_part 53 = .ok (.if_icmp .ne 22, 3) := by decide +kernel
theorem dX2_part_56 : decode cX2_part 56 = .ok (.aload_n 0, 1) := by decide +kernel
theorem dX2_part_57 : decode cX2_part 57 = .ok (.getfield 12, 3) := by decide +kernel
theorem dX2_part_60 : decode cX2_part 60 = .ok (.invokevirtual 131, 3) := by decide +kernel
theorem dX2_part_63 : decode cX2_part 63 = .ok (.istore_n 2, 1) := by decide +kernel
theorem dX2_part_64 : decode cX2_part 64 = .ok (.iload_n 2, 1) := by decide +kernel
theorem dX2_part_65 : decode cX2_part 65 = .ok (.iconst (-1), 1) := by decide +kernel
theorem dX2_part_66 : decode cX2_part 66 = .ok (.if_icmp .ne 42, 3) := by decide +kernel
theorem dX2_part_69 : decode cX2_part 69 = .ok (.aload_n 0, 1) := by decide +kernel
theorem dX2_part_70 : decode cX2_part 70 = .ok (.iconst 2, 1) := by decide +kernel
theorem dX2_part_71 : decode cX2_part 71 = .ok (.invokevirtual 92, 3) := by decide +kernel
theorem dX2_part_74 : decode cX2_part 74 = .ok (.ireturn, 1) := by decide +kernel
theorem dX2_part_75 : decode cX2_part 75 = .ok (.aload_n 0, 1) := by decide +kernel
theorem dX2_part_76 : decode cX2_part 76 = .ok (.getfield 12, 3) := by decide +kernel
theorem dX2_part_79 : decode cX2_part 79 = .ok (.getfield 50, 3) := by decide +kernel
theorem dX2_part_82 : decode cX2_part 82 = .ok (.bipush 97, 2) := by decide +kernel
theorem dX2_part_84 : decode cX2_part 84 = .ok (.if_icmp .ne 18, 3) := by decide +kernel
theorem dX2_part_87 : decode cX2_part 87 = .ok (.aload_n 0, 1) := by decide +kernel
theorem dX2_part_88 : decode cX2_part 88 = .ok (.invokevirtual 181, 3) := by decide +kernel
theorem dX2_part_91 : decode cX2_part 91 = .ok (.istore_n 2, 1) := by decide +kernel
theorem dX2_part_92 : decode cX2_part 92 = .ok (.iload_n 2, 1) := by decide +kernel
theorem dX2_part_93 : decode cX2_part 93 = .ok (.ifCond .ne 15, 3) := by decide +kernel
theorem dX2_part_96 : decode cX2_part 96 = .ok (.aload_n 0, 1) := by decide +kernel
theorem dX2_part_97 : decode cX2_part 97 = .ok (.iconst 3, 1) := by decide +kernel
theorem dX2_part_98 : decode cX2_part 98 = .ok (.invokevirtual 92, 3) := by decide +kernel
theorem dX2_part_101 : decode cX2_part 101 = .ok (.ireturn, 1) := by decide +kernel
theorem dX2_part_102 : decode cX2_part 102 = .ok (.aload_n 0, 1) := by decide +kernel
theorem dX2_part_103 : decode cX2_part 103 = .ok (.iconst 1, 1) := by decide +kernel
theorem dX2_part_104 : decode cX2_part 104 = .ok (.invokevirtual 92, 3) := by decide +kernel
theorem dX2_part_107 : decode cX2_part 107 = .ok (.ireturn, 1) := by decide +kernel
theorem dX2_part_108 : decode cX2_part 108 = .ok (.aload_n 0, 1) := by decide +kernel
theorem dX2_part_109 : decode cX2_part 109 = .ok (.getfield 12, 3) := by decide +kernel
theorem dX2_part_112 : decode cX2_part 112 = .ok (.invokevirtual 99, 3) := by decide +kernel
theorem dX2_part_115 : decode cX2_part 115 = .ok (.aload_n 0, 1) := by decide +kernel
theorem dX2_part_116 : decode cX2_part 116 = .ok (.iload_n 2, 1) := by decide +kernel
theorem dX2_part_117 : decode cX2_part 117 = .ok (.invokevirtual 159, 3) := by decide +kernel
theorem dX2_part_120 : decode cX2_part 120 = .ok (.ireturn, 1) := by decide +kernel
theorem dX2_valueTold_0 : decode cX2_valueTold 0 = .ok (.aload_n 0, 1) := by decide +kernel
theorem dX2_valueTold_1 : decode cX2_valueTold 1 = .ok (.getfield 12, 3) := by decide +kernel
theorem dX2_valueTold_4 : decode cX2_valueTold 4 = .ok (.ldc 184, 2) := by decide +kernel
theorem dX2_valueTold_6 : decode cX2_valueTold 6 = .ok (.invokevirtual 62, 3) := by decide +kernel
theorem dX2_valueTold_9 : decode cX2_valueTold 9 = .ok (.ifCond .eq 5, 3) := by decide +kernel
theorem dX2_valueTold_12 : decode cX2_valueTold 12 = .ok (.iconst (-1), 1) := by decide +kernel
theorem dX2_valueTold_13 : decode cX2_valueTold 13 = .ok (.ireturn, 1) := by decide +kernel
theorem dX2_valueTold_14 : decode cX2_valueTold 14 = .ok (.aload_n 0, 1) := by decide +kernel
theorem dX2_valueTold_15 : decode cX2_valueTold 15 = .ok (.getfield 12, 3) := by decide +kernel
theorem dX2_valueTold_18 : decode cX2_valueTold 18 = .ok (.ldc 186, 2) := by decide +kernel
theorem dX2_valueTold_20 : decode cX2_valueTold 20 = .ok (.invokevirtual 62, 3) := by decide +kernel
theorem dX2_valueTold_23 : decode cX2_valueTold 23 = .ok (.ifCond .eq 6, 3) := by decide +kernel
theorem dX2_valueTold_26 : decode cX2_valueTold 26 = .ok (.bipush (-2), 2) := by decide +kernel
theorem dX2_valueTold_28 : decode cX2_valueTold 28 = .ok (.ireturn, 1) := by decide +kernel
theorem dX2_valueTold_29 : decode cX2_valueTold 29 = .ok (.aload_n 0, 1) := by decide +kernel
theorem dX2_valueTold_30 : decode cX2_valueTold 30 = .ok (.getfield 12, 3) := by decide +kernel
theorem dX2_valueTold_33 : decode cX2_valueTold 33 = .ok (.ldc 187, 2) := by decide +kernel
theorem dX2_valueTold_35 : decode cX2_valueTold 35 = .ok (.invokevirtual 62, 3) := by decide +kernel
theorem dX2_valueTold_38 : decode cX2_valueTold 38 = .ok (.ifCond .eq 6, 3) := by decide +kernel
theorem dX2_valueTold_41 : decode cX2_valueTold 41 = .ok (.bipush (-3), 2) := by decide +kernel
theorem dX2_valueTold_43 : decode cX2_valueTold 43 = .ok (.ireturn, 1) := by decide +kernel
theorem dX2_valueTold_44 : decode cX2_valueTold 44 = .ok (.aload_n 0, 1) := by decide +kernel
theorem dX2_valueTold_45 : decode cX2_valueTold 45 = .ok (.getfield 12, 3) := by decide +kernel
theorem dX2_valueTold_48 : decode cX2_valueTold 48 = .ok (.ldc 188, 2) := by decide +kernel
theorem dX2_valueTold_50 : decode cX2_valueTold 50 = .ok (.invokevirtual 62, 3) := by decide +kernel
theorem dX2_valueTold_53 : decode cX2_valueTold 53 = .ok (.ifCond .eq 6, 3) := by decide +kernel
theorem dX2_valueTold_56 : decode cX2_valueTold 56 = .ok (.bipush (-4), 2) := by decide +kernel
theorem dX2_valueTold_58 : decode cX2_valueTold 58 = .ok (.ireturn, 1) := by decide +kernel
theorem dX2_valueTold_59 : decode cX2_valueTold 59 = .ok (.aload_n 0, 1) := by decide +kernel
theorem dX2_valueTold_60 : decode cX2_valueTold 60 = .ok (.getfield 12, 3) := by decide +kernel
theorem dX2_valueTold_63 : decode cX2_valueTold 63 = .ok (.ldc 74, 2) := by decide +kernel
theorem dX2_valueTold_65 : decode cX2_valueTold 65 = .ok (.invokevirtual 62, 3) := by decide +kernel
theorem dX2_valueTold_68 : decode cX2_valueTold 68 = .ok (.ifCond .eq 6, 3) := by decide +kernel
theorem dX2_valueTold_71 : decode cX2_valueTold 71 = .ok (.bipush (-5), 2) := by decide +kernel
theorem dX2_valueTold_73 : decode cX2_valueTold 73 = .ok (.ireturn, 1) := by decide +kernel
theorem dX2_valueTold_74 : decode cX2_valueTold 74 = .ok (.aload_n 0, 1) := by decide +kernel
theorem dX2_valueTold_75 : decode cX2_valueTold 75 = .ok (.getfield 12, 3) := by decide +kernel
theorem dX2_valueTold_78 : decode cX2_valueTold 78 = .ok (.ldc 190, 2) := by decide +kernel
theorem dX2_valueTold_80 : decode cX2_valueTold 80 = .ok (.invokevirtual 62, 3) := by decide +kernel
theorem dX2_valueTold_83 : decode cX2_valueTold 83 = .ok (.ifCond .eq 6, 3) := by decide +kernel
theorem dX2_valueTold_86 : decode cX2_valueTold 86 = .ok (.bipush (-6), 2) := by decide +kernel
theorem dX2_valueTold_88 : decode cX2_valueTold 88 = .ok (.ireturn, 1) := by decide +kernel
theorem dX2_valueTold_89 : decode cX2_valueTold 89 = .ok (.aload_n 0, 1) := by decide +kernel
theorem dX2_valueTold_90 : decode cX2_valueTold 90 = .ok (.getfield 32, 3) := by decide +kernel
theorem dX2_valueTold_93 : decode cX2_valueTold 93 = .ok (.ifCond .eq 20, 3) := by decide +kernel
theorem dX2_valueTold_96 : decode cX2_valueTold 96 = .ok (.aload_n 0, 1) := by decide +kernel
theorem dX2_valueTold_97 : decode cX2_valueTold 97 = .ok (.getfield 12, 3) := by decide +kernel
theorem dX2_valueTold_100 : decode cX2_valueTold 100 = .ok (.ldc 192, 2) := by decide +kernel
theorem dX2_valueTold_102 : decode cX2_valueTold 102 = .ok (.invokevirtual 62, 3) := by decide +kernel
theorem dX2_valueTold_105 : decode cX2_valueTold 105 = .ok (.ifCond .eq 8, 3) := by decide +kernel
theorem dX2_valueTold_108 : decode cX2_valueTold 108 = .ok (.bipush (-7), 2) := by decide +kernel
theorem dX2_valueTold_110 : decode cX2_valueTold 110 = .ok (.goto 4, 3) := by decide +kernel
theorem dX2_valueTold_113 : decode cX2_valueTold 113 = .ok (.iconst 0, 1) := by decide +kernel
theorem dX2_valueTold_114 : decode cX2_valueTold 114 = .ok (.ireturn, 1) := by decide +kernel
theorem dX3_init_0 : decode cX3_init 0 = .ok (.aload_n 0, 1) := by decide +kernel
theorem dX3_init_1 : decode cX3_init 1 = .ok (.invokespecial 1, 3) := by decide +kernel
theorem dX3_init_4 : decode cX3_init 4 = .ok (.aload_n 0, 1) := by decide +kernel
theorem dX3_init_5 : decode cX3_init 5 = .ok (.bipush 64, 2) := by decide +kernel
theorem dX3_init_7 : decode cX3_init 7 = .ok (.newarray .int, 2) := by decide +kernel
theorem dX3_init_9 : decode cX3_init 9 = .ok (.putfield 9, 3) := by decide +kernel
theorem dX3_init_12 : decode cX3_init 12 = .ok (.aload_n 0, 1) := by decide +kernel
theorem dX3_init_13 : decode cX3_init 13 = .ok (.aload_n 1, 1) := by decide +kernel
theorem dX3_init_14 : decode cX3_init 14 = .ok (.putfield 13, 3) := by decide +kernel
theorem dX3_init_17 : decode cX3_init 17 = .ok (.return_, 1) := by decide +kernel
theorem dX3_give_0 : decode cX3_give 0 = .ok (.iconst 0, 1) := by decide +kernel
theorem dX3_give_1 : decode cX3_give 1 = .ok (.istore_n 2, 1) := by decide +kernel
theorem dX3_give_2 : decode cX3_give 2 = .ok (.iconst 0, 1) := by decide +kernel
theorem dX3_give_3 : decode cX3_give 3 = .ok (.istore_n 3, 1) := by decide +kernel
theorem dX3_give_4 : decode cX3_give 4 = .ok (.iload_n 3, 1) := by decide +kernel
theorem dX3_give_5 : decode cX3_give 5 = .ok (.aload_n 0, 1) := by decide +kernel
theorem dX3_give_6 : decode cX3_give 6 = .ok (.getfield 13, 3) := by decide +kernel
theorem dX3_give_9 : decode cX3_give 9 = .ok (.arraylength, 1) := by decide +kernel
theorem dX3_give_10 : decode cX3_give 10 = .ok (.if_icmp .ge 132, 3) := by decide +kernel
theorem dX3_give_13 : decode cX3_give 13 = .ok (.aload_n 0, 1) := by decide +kernel
theorem dX3_give_14 : decode cX3_give 14 = .ok (.getfield 13, 3) := by decide +kernel
theorem dX3_give_17 : decode cX3_give 17 = .ok (.iload_n 3, 1) := by decide +kernel
theorem dX3_give_18 : decode cX3_give 18 = .ok (.iaload, 1) := by decide +kernel
theorem dX3_give_19 : decode cX3_give 19 = .ok (.istore 4, 2) := by decide +kernel
theorem dX3_give_21 : decode cX3_give 21 = .ok (.iload 4, 2) := by decide +kernel
theorem dX3_give_23 : decode cX3_give 23 = .ok (.bipush (-7), 2) := by decide +kernel
theorem dX3_give_25 : decode cX3_give 25 = .ok (.if_icmp .lt 37, 3) := by decide +kernel
theorem dX3_give_28 : decode cX3_give 28 = .ok (.iload_n 2, 1) := by decide +kernel
theorem dX3_give_29 : decode cX3_give 29 = .ok (.bipush 64, 2) := by decide +kernel
theorem dX3_give_31 : decode cX3_give 31 = .ok (.if_icmp .ge 105, 3) := by decide +kernel
theorem dX3_give_34 : decode cX3_give 34 = .ok (.aload_n 0, 1) := by decide +kernel
theorem dX3_give_35 : decode cX3_give 35 = .ok (.getfield 9, 3) := by decide +kernel
theorem dX3_give_38 : decode cX3_give 38 = .ok (.iload_n 2, 1) := by decide +kernel
theorem dX3_give_39 : decode cX3_give 39 = .ok (.iload 4, 2) := by decide +kernel
theorem dX3_give_41 : decode cX3_give 41 = .ok (.ifCond .lt 8, 3) := by decide +kernel
theorem dX3_give_44 : decode cX3_give 44 = .ok (.iload 4, 2) := by decide +kernel
theorem dX3_give_46 : decode cX3_give 46 = .ok (.goto 9, 3) := by decide +kernel
theorem dX3_give_49 : decode cX3_give 49 = .ok (.aload_n 1, 1) := by decide +kernel
theorem dX3_give_50 : decode cX3_give 50 = .ok (.iconst (-1), 1) := by decide +kernel
theorem dX3_give_51 : decode cX3_give 51 = .ok (.iload 4, 2) := by decide +kernel
theorem dX3_give_53 : decode cX3_give 53 = .ok (.isub, 1) := by decide +kernel
theorem dX3_give_54 : decode cX3_give 54 = .ok (.iaload, 1) := by decide +kernel
theorem dX3_give_55 : decode cX3_give 55 = .ok (.iastore, 1) := by decide +kernel
theorem dX3_give_56 : decode cX3_give 56 = .ok (.iinc 2 1, 3) := by decide +kernel
theorem dX3_give_59 : decode cX3_give 59 = .ok (.goto 77, 3) := by decide +kernel
theorem dX3_give_62 : decode cX3_give 62 = .ok (.iload 4, 2) := by decide +kernel
theorem dX3_give_64 : decode cX3_give 64 = .ok (.bipush (-103), 2) := by decide +kernel
theorem dX3_give_66 : decode cX3_give 66 = .ok (.if_icmp .ne 35, 3) := by decide +kernel
theorem dX3_give_69 : decode cX3_give 69 = .ok (.iload_n 2, 1) := by decide +kernel
theorem dX3_give_70 : decode cX3_give 70 = .ok (.iconst 1, 1) := by decide +kernel
theorem dX3_give_71 : decode cX3_give 71 = .ok (.if_icmp .lt 65, 3) := by decide +kernel
theorem dX3_give_74 : decode cX3_give 74 = .ok (.aload_n 0, 1) := by decide +kernel
theorem dX3_give_75 : decode cX3_give 75 = .ok (.getfield 9, 3) := by decide +kernel
theorem dX3_give_78 : decode cX3_give 78 = .ok (.iload_n 2, 1) := by decide +kernel
theorem dX3_give_79 : decode cX3_give 79 = .ok (.iconst 1, 1) := by decide +kernel
theorem dX3_give_80 : decode cX3_give 80 = .ok (.isub, 1) := by decide +kernel
theorem dX3_give_81 : decode cX3_give 81 = .ok (.aload_n 0, 1) := by decide +kernel
theorem dX3_give_82 : decode cX3_give 82 = .ok (.getfield 9, 3) := by decide +kernel
theorem dX3_give_85 : decode cX3_give 85 = .ok (.iload_n 2, 1) := by decide +kernel
theorem dX3_give_86 : decode cX3_give 86 = .ok (.iconst 1, 1) := by decide +kernel
theorem dX3_give_87 : decode cX3_give 87 = .ok (.isub, 1) := by decide +kernel
theorem dX3_give_88 : decode cX3_give 88 = .ok (.iaload, 1) := by decide +kernel
theorem dX3_give_89 : decode cX3_give 89 = .ok (.ifCond .ne 7, 3) := by decide +kernel
theorem dX3_give_92 : decode cX3_give 92 = .ok (.iconst 1, 1) := by decide +kernel
theorem dX3_give_93 : decode cX3_give 93 = .ok (.goto 4, 3) := by decide +kernel
theorem dX3_give_96 : decode cX3_give 96 = .ok (.iconst 0, 1) := by decide +kernel
theorem dX3_give_97 : decode cX3_give 97 = .ok (.iastore, 1) := by decide +kernel
theorem dX3_give_98 : decode cX3_give 98 = .ok (.goto 38, 3) := by decide +kernel
theorem dX3_give_101 : decode cX3_give 101 = .ok (.iload_n 2, 1) := by decide +kernel
theorem dX3_give_102 : decode cX3_give 102 = .ok (.iconst 2, 1) := by decide +kernel
theorem dX3_give_103 : decode cX3_give 103 = .ok (.if_icmp .lt 33, 3) := by decide +kernel
theorem dX3_give_106 : decode cX3_give 106 = .ok (.iinc 2 (-1), 3) := by decide +kernel
theorem dX3_give_109 : decode cX3_give 109 = .ok (.aload_n 0, 1) := by decide +kernel
theorem dX3_give_110 : decode cX3_give 110 = .ok (.getfield 9, 3) := by decide +kernel
theorem dX3_give_113 : decode cX3_give 113 = .ok (.iload_n 2, 1) := by decide +kernel
theorem dX3_give_114 : decode cX3_give 114 = .ok (.iconst 1, 1) := by decide +kernel
theorem dX3_give_115 : decode cX3_give 115 = .ok (.isub, 1) := by decide +kernel
theorem dX3_give_116 : decode cX3_give 116 = .ok (.iload 4, 2) := by decide +kernel
theorem dX3_give_118 : decode cX3_give 118 = .ok (.aload_n 0, 1) := by decide +kernel
theorem dX3_give_119 : decode cX3_give 119 = .ok (.getfield 9, 3) := by decide +kernel
theorem dX3_give_122 : decode cX3_give 122 = .ok (.iload_n 2, 1) := by decide +kernel
theorem dX3_give_123 : decode cX3_give 123 = .ok (.iconst 1, 1) := by decide +kernel
theorem dX3_give_124 : decode cX3_give 124 = .ok (.isub, 1) := by decide +kernel
theorem dX3_give_125 : decode cX3_give 125 = .ok (.iaload, 1) := by decide +kernel
theorem dX3_give_126 : decode cX3_give 126 = .ok (.aload_n 0, 1) := by decide +kernel
theorem dX3_give_127 : decode cX3_give 127 = .ok (.getfield 9, 3) := by decide +kernel
theorem dX3_give_130 : decode cX3_give 130 = .ok (.iload_n 2, 1) := by decide +kernel
theorem dX3_give_131 : decode cX3_give 131 = .ok (.iaload, 1) := by decide +kernel
theorem dX3_give_132 : decode cX3_give 132 = .ok (.invokestatic 16, 3) := by decide +kernel
theorem dX3_give_135 : decode cX3_give 135 = .ok (.iastore, 1) := by decide +kernel
theorem dX3_give_136 : decode cX3_give 136 = .ok (.iinc 3 1, 3) := by decide +kernel
theorem dX3_give_139 : decode cX3_give 139 = .ok (.goto (-135), 3) := by decide +kernel
theorem dX3_give_142 : decode cX3_give 142 = .ok (.aload_n 0, 1) := by decide +kernel
theorem dX3_give_143 : decode cX3_give 143 = .ok (.getfield 9, 3) := by decide +kernel
theorem dX3_give_146 : decode cX3_give 146 = .ok (.iconst 0, 1) := by decide +kernel
theorem dX3_give_147 : decode cX3_give 147 = .ok (.iaload, 1) := by decide +kernel
theorem dX3_give_148 : decode cX3_give 148 = .ok (.ireturn, 1) := by decide +kernel
theorem dX3_joined_0 : decode cX3_joined 0 = .ok (.iload_n 0, 1) := by decide +kernel
theorem dX3_joined_1 : decode cX3_joined 1 = .ok (.lookupswitch 127 #[(-102, 113), (-61, 102), (-60, 91), (-47, 79), (-45, 71), (-43, 67), (-42, 75)], 67) := by decide +kernel
theorem dX3_joined_68 : decode cX3_joined 68 = .ok (.iload_n 1, 1) := by decide +kernel
theorem dX3_joined_69 : decode cX3_joined 69 = .ok (.iload_n 2, 1) := by decide +kernel
theorem dX3_joined_70 : decode cX3_joined 70 = .ok (.iadd, 1) := by decide +kernel
theorem dX3_joined_71 : decode cX3_joined 71 = .ok (.ireturn, 1) := by decide +kernel
theorem dX3_joined_72 : decode cX3_joined 72 = .ok (.iload_n 1, 1) := by decide +kernel
theorem dX3_joined_73 : decode cX3_joined 73 = .ok (.iload_n 2, 1) := by decide +kernel
theorem dX3_joined_74 : decode cX3_joined 74 = .ok (.isub, 1) := by decide +kernel
theorem dX3_joined_75 : decode cX3_joined 75 = .ok (.ireturn, 1) := by decide +kernel
theorem dX3_joined_76 : decode cX3_joined 76 = .ok (.iload_n 1, 1) := by decide +kernel
theorem dX3_joined_77 : decode cX3_joined 77 = .ok (.iload_n 2, 1) := by decide +kernel
theorem dX3_joined_78 : decode cX3_joined 78 = .ok (.imul, 1) := by decide +kernel
theorem dX3_joined_79 : decode cX3_joined 79 = .ok (.ireturn, 1) := by decide +kernel
theorem dX3_joined_80 : decode cX3_joined 80 = .ok (.iload_n 2, 1) := by decide +kernel
theorem dX3_joined_81 : decode cX3_joined 81 = .ok (.ifCond .ne 7, 3) := by decide +kernel
theorem dX3_joined_84 : decode cX3_joined 84 = .ok (.iconst 0, 1) := by decide +kernel
theorem dX3_joined_85 : decode cX3_joined 85 = .ok (.goto 6, 3) := by decide +kernel
theorem dX3_joined_88 : decode cX3_joined 88 = .ok (.iload_n 1, 1) := by decide +kernel
theorem dX3_joined_89 : decode cX3_joined 89 = .ok (.iload_n 2, 1) := by decide +kernel
theorem dX3_joined_90 : decode cX3_joined 90 = .ok (.idiv, 1) := by decide +kernel
theorem dX3_joined_91 : decode cX3_joined 91 = .ok (.ireturn, 1) := by decide +kernel
theorem dX3_joined_92 : decode cX3_joined 92 = .ok (.iload_n 1, 1) := by decide +kernel
theorem dX3_joined_93 : decode cX3_joined 93 = .ok (.iload_n 2, 1) := by decide +kernel
theorem dX3_joined_94 : decode cX3_joined 94 = .ok (.if_icmp .ge 7, 3) := by decide +kernel
theorem dX3_joined_97 : decode cX3_joined 97 = .ok (.iconst 1, 1) := by decide +kernel
theorem dX3_joined_98 : decode cX3_joined 98 = .ok (.goto 4, 3) := by decide +kernel
theorem dX3_joined_101 : decode cX3_joined 101 = .ok (.iconst 0, 1) := by decide +kernel
theorem dX3_joined_102 : decode cX3_joined 102 = .ok (.ireturn, 1) := by decide +kernel
theorem dX3_joined_103 : decode cX3_joined 103 = .ok (.iload_n 1, 1) := by decide +kernel
theorem dX3_joined_104 : decode cX3_joined 104 = .ok (.iload_n 2, 1) := by decide +kernel
theorem dX3_joined_105 : decode cX3_joined 105 = .ok (.if_icmp .ne 7, 3) := by decide +kernel
theorem dX3_joined_108 : decode cX3_joined 108 = .ok (.iconst 1, 1) := by decide +kernel
theorem dX3_joined_109 : decode cX3_joined 109 = .ok (.goto 4, 3) := by decide +kernel
theorem dX3_joined_112 : decode cX3_joined 112 = .ok (.iconst 0, 1) := by decide +kernel
theorem dX3_joined_113 : decode cX3_joined 113 = .ok (.ireturn, 1) := by decide +kernel
theorem dX3_joined_114 : decode cX3_joined 114 = .ok (.iload_n 1, 1) := by decide +kernel
theorem dX3_joined_115 : decode cX3_joined 115 = .ok (.ifCond .eq 11, 3) := by decide +kernel
theorem dX3_joined_118 : decode cX3_joined 118 = .ok (.iload_n 2, 1) := by decide +kernel
theorem dX3_joined_119 : decode cX3_joined 119 = .ok (.ifCond .eq 7, 3) := by decide +kernel
theorem dX3_joined_122 : decode cX3_joined 122 = .ok (.iconst 1, 1) := by decide +kernel
theorem dX3_joined_123 : decode cX3_joined 123 = .ok (.goto 4, 3) := by decide +kernel
theorem dX3_joined_126 : decode cX3_joined 126 = .ok (.iconst 0, 1) := by decide +kernel
theorem dX3_joined_127 : decode cX3_joined 127 = .ok (.ireturn, 1) := by decide +kernel
theorem dX3_joined_128 : decode cX3_joined 128 = .ok (.iload_n 1, 1) := by decide +kernel
theorem dX3_joined_129 : decode cX3_joined 129 = .ok (.ifCond .ne 7, 3) := by decide +kernel
theorem dX3_joined_132 : decode cX3_joined 132 = .ok (.iload_n 2, 1) := by decide +kernel
theorem dX3_joined_133 : decode cX3_joined 133 = .ok (.ifCond .eq 7, 3) := by decide +kernel
theorem dX3_joined_136 : decode cX3_joined 136 = .ok (.iconst 1, 1) := by decide +kernel
theorem dX3_joined_137 : decode cX3_joined 137 = .ok (.goto 4, 3) := by decide +kernel
theorem dX3_joined_140 : decode cX3_joined 140 = .ok (.iconst 0, 1) := by decide +kernel
theorem dX3_joined_141 : decode cX3_joined 141 = .ok (.ireturn, 1) := by decide +kernel
theorem dX4_init_0 : decode cX4_init 0 = .ok (.aload_n 0, 1) := by decide +kernel
theorem dX4_init_1 : decode cX4_init 1 = .ok (.invokespecial 3, 3) := by decide +kernel
theorem dX4_init_4 : decode cX4_init 4 = .ok (.aload_n 0, 1) := by decide +kernel
theorem dX4_init_5 : decode cX4_init 5 = .ok (.bipush 8, 2) := by decide +kernel
theorem dX4_init_7 : decode cX4_init 7 = .ok (.newarray .int, 2) := by decide +kernel
theorem dX4_init_9 : decode cX4_init 9 = .ok (.putfield 9, 3) := by decide +kernel
theorem dX4_init_12 : decode cX4_init 12 = .ok (.aload_n 0, 1) := by decide +kernel
theorem dX4_init_13 : decode cX4_init 13 = .ok (.bipush 8, 2) := by decide +kernel
theorem dX4_init_15 : decode cX4_init 15 = .ok (.newarray .int, 2) := by decide +kernel
theorem dX4_init_17 : decode cX4_init 17 = .ok (.putfield 15, 3) := by decide +kernel
theorem dX4_init_20 : decode cX4_init 20 = .ok (.aload_n 0, 1) := by decide +kernel
theorem dX4_init_21 : decode cX4_init 21 = .ok (.bipush 8, 2) := by decide +kernel
theorem dX4_init_23 : decode cX4_init 23 = .ok (.newarray .int, 2) := by decide +kernel
theorem dX4_init_25 : decode cX4_init 25 = .ok (.putfield 18, 3) := by decide +kernel
theorem dX4_init_28 : decode cX4_init 28 = .ok (.aload_n 0, 1) := by decide +kernel
theorem dX4_init_29 : decode cX4_init 29 = .ok (.iconst 0, 1) := by decide +kernel
theorem dX4_init_30 : decode cX4_init 30 = .ok (.putfield 21, 3) := by decide +kernel
theorem dX4_init_33 : decode cX4_init 33 = .ok (.return_, 1) := by decide +kernel
theorem dX4_add_0 : decode cX4_add 0 = .ok (.aload_n 0, 1) := by decide +kernel
theorem dX4_add_1 : decode cX4_add 1 = .ok (.getfield 21, 3) := by decide +kernel
theorem dX4_add_4 : decode cX4_add 4 = .ok (.bipush 8, 2) := by decide +kernel
theorem dX4_add_6 : decode cX4_add 6 = .ok (.if_icmp .lt 5, 3) := by decide +kernel
theorem dX4_add_9 : decode cX4_add 9 = .ok (.iconst 0, 1) := by decide +kernel
theorem dX4_add_10 : decode cX4_add 10 = .ok (.ireturn, 1) := by decide +kernel
theorem dX4_add_11 : decode cX4_add 11 = .ok (.aload_n 0, 1) := by decide +kernel
theorem dX4_add_12 : decode cX4_add 12 = .ok (.getfield 9, 3) := by decide +kernel
theorem dX4_add_15 : decode cX4_add 15 = .ok (.aload_n 0, 1) := by decide +kernel
theorem dX4_add_16 : decode cX4_add 16 = .ok (.getfield 21, 3) := by decide +kernel
theorem dX4_add_19 : decode cX4_add 19 = .ok (.iload_n 1, 1) := by decide +kernel
theorem dX4_add_20 : decode cX4_add 20 = .ok (.iastore, 1) := by decide +kernel
theorem dX4_add_21 : decode cX4_add 21 = .ok (.aload_n 0, 1) := by decide +kernel
theorem dX4_add_22 : decode cX4_add 22 = .ok (.getfield 15, 3) := by decide +kernel
theorem dX4_add_25 : decode cX4_add 25 = .ok (.aload_n 0, 1) := by decide +kernel
theorem dX4_add_26 : decode cX4_add 26 = .ok (.getfield 21, 3) := by decide +kernel
theorem dX4_add_29 : decode cX4_add 29 = .ok (.iload_n 2, 1) := by decide +kernel
theorem dX4_add_30 : decode cX4_add 30 = .ok (.iastore, 1) := by decide +kernel
theorem dX4_add_31 : decode cX4_add 31 = .ok (.aload_n 0, 1) := by decide +kernel
theorem dX4_add_32 : decode cX4_add 32 = .ok (.getfield 18, 3) := by decide +kernel
theorem dX4_add_35 : decode cX4_add 35 = .ok (.aload_n 0, 1) := by decide +kernel
