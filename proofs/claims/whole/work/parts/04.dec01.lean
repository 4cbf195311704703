theorem dX4_add_36 : decode cX4_add 36 = .ok (.getfield 21, 3) := by decide +kernel
theorem dX4_add_39 : decode cX4_add 39 = .ok (.iload_n 3, 1) := by decide +kernel
theorem dX4_add_40 : decode cX4_add 40 = .ok (.iastore, 1) := by decide +kernel
theorem dX4_add_41 : decode cX4_add 41 = .ok (.aload_n 0, 1) := by decide +kernel
theorem dX4_add_42 : decode cX4_add 42 = .ok (.dup, 1) := by decide +kernel
theorem dX4_add_43 : decode cX4_add 43 = .ok (.getfield 21, 3) := by decide +kernel
theorem dX4_add_46 : decode cX4_add 46 = .ok (.iconst 1, 1) := by decide +kernel
theorem dX4_add_47 : decode cX4_add 47 = .ok (.iadd, 1) := by decide +kernel
theorem dX4_add_48 : decode cX4_add 48 = .ok (.putfield 21, 3) := by decide +kernel
theorem dX4_add_51 : decode cX4_add 51 = .ok (.iconst 1, 1) := by decide +kernel
theorem dX4_add_52 : decode cX4_add 52 = .ok (.ireturn, 1) := by decide +kernel
theorem dX4_latestDay_0 : decode cX4_latestDay 0 = .ok (.iconst 0, 1) := by decide +kernel
theorem dX4_latestDay_1 : decode cX4_latestDay 1 = .ok (.istore_n 1, 1) := by decide +kernel
theorem dX4_latestDay_2 : decode cX4_latestDay 2 = .ok (.iconst 0, 1) := by decide +kernel
theorem dX4_latestDay_3 : decode cX4_latestDay 3 = .ok (.istore_n 2, 1) := by decide +kernel
theorem dX4_latestDay_4 : decode cX4_latestDay 4 = .ok (.iload_n 2, 1) := by decide +kernel
theorem dX4_latestDay_5 : decode cX4_latestDay 5 = .ok (.aload_n 0, 1) := by decide +kernel
theorem dX4_latestDay_6 : decode cX4_latestDay 6 = .ok (.getfield 21, 3) := by decide +kernel
theorem dX4_latestDay_9 : decode cX4_latestDay 9 = .ok (.if_icmp .ge 20, 3) := by decide +kernel
theorem dX4_latestDay_12 : decode cX4_latestDay 12 = .ok (.iload_n 1, 1) := by decide +kernel
theorem dX4_latestDay_13 : decode cX4_latestDay 13 = .ok (.aload_n 0, 1) := by decide +kernel
theorem dX4_latestDay_14 : decode cX4_latestDay 14 = .ok (.getfield 15, 3) := by decide +kernel
theorem dX4_latestDay_17 : decode cX4_latestDay 17 = .ok (.iload_n 2, 1) := by decide +kernel
theorem dX4_latestDay_18 : decode cX4_latestDay 18 = .ok (.iaload, 1) := by decide +kernel
theorem dX4_latestDay_19 : decode cX4_latestDay 19 = .ok (.invokestatic 25, 3) := by decide +kernel
theorem dX4_latestDay_22 : decode cX4_latestDay 22 = .ok (.istore_n 1, 1) := by decide +kernel
theorem dX4_latestDay_23 : decode cX4_latestDay 23 = .ok (.iinc 2 1, 3) := by decide +kernel
theorem dX4_latestDay_26 : decode cX4_latestDay 26 = .ok (.goto (-22), 3) := by decide +kernel
theorem dX4_latestDay_29 : decode cX4_latestDay 29 = .ok (.iload_n 1, 1) := by decide +kernel
theorem dX4_latestDay_30 : decode cX4_latestDay 30 = .ok (.ireturn, 1) := by decide +kernel
theorem dX4_agrees_0 : decode cX4_agrees 0 = .ok (.iconst 0, 1) := by decide +kernel
theorem dX4_agrees_1 : decode cX4_agrees 1 = .ok (.istore_n 3, 1) := by decide +kernel
theorem dX4_agrees_2 : decode cX4_agrees 2 = .ok (.iload_n 3, 1) := by decide +kernel
theorem dX4_agrees_3 : decode cX4_agrees 3 = .ok (.aload_n 0, 1) := by decide +kernel
theorem dX4_agrees_4 : decode cX4_agrees 4 = .ok (.getfield 21, 3) := by decide +kernel
theorem dX4_agrees_7 : decode cX4_agrees 7 = .ok (.if_icmp .ge 55, 3) := by decide +kernel
theorem dX4_agrees_10 : decode cX4_agrees 10 = .ok (.aload_n 0, 1) := by decide +kernel
theorem dX4_agrees_11 : decode cX4_agrees 11 = .ok (.getfield 9, 3) := by decide +kernel
theorem dX4_agrees_14 : decode cX4_agrees 14 = .ok (.iload_n 3, 1) := by decide +kernel
theorem dX4_agrees_15 : decode cX4_agrees 15 = .ok (.iaload, 1) := by decide +kernel
theorem dX4_agrees_16 : decode cX4_agrees 16 = .ok (.istore 4, 2) := by decide +kernel
theorem dX4_agrees_18 : decode cX4_agrees 18 = .ok (.aload_n 0, 1) := by decide +kernel
theorem dX4_agrees_19 : decode cX4_agrees 19 = .ok (.getfield 15, 3) := by decide +kernel
theorem dX4_agrees_22 : decode cX4_agrees 22 = .ok (.iload_n 3, 1) := by decide +kernel
theorem dX4_agrees_23 : decode cX4_agrees 23 = .ok (.iaload, 1) := by decide +kernel
theorem dX4_agrees_24 : decode cX4_agrees 24 = .ok (.iload_n 2, 1) := by decide +kernel
theorem dX4_agrees_25 : decode cX4_agrees 25 = .ok (.if_icmp .ne 31, 3) := by decide +kernel
theorem dX4_agrees_28 : decode cX4_agrees 28 = .ok (.aload_n 1, 1) := by decide +kernel
theorem dX4_agrees_29 : decode cX4_agrees 29 = .ok (.getfield 31, 3) := by decide +kernel
theorem dX4_agrees_32 : decode cX4_agrees 32 = .ok (.iload 4, 2) := by decide +kernel
theorem dX4_agrees_34 : decode cX4_agrees 34 = .ok (.invokevirtual 37, 3) := by decide +kernel
theorem dX4_agrees_37 : decode cX4_agrees 37 = .ok (.aload_n 1, 1) := by decide +kernel
theorem dX4_agrees_38 : decode cX4_agrees 38 = .ok (.getfield 43, 3) := by decide +kernel
theorem dX4_agrees_41 : decode cX4_agrees 41 = .ok (.iload 4, 2) := by decide +kernel
theorem dX4_agrees_43 : decode cX4_agrees 43 = .ok (.iaload, 1) := by decide +kernel
theorem dX4_agrees_44 : decode cX4_agrees 44 = .ok (.iadd, 1) := by decide +kernel
theorem dX4_agrees_45 : decode cX4_agrees 45 = .ok (.aload_n 0, 1) := by decide +kernel
theorem dX4_agrees_46 : decode cX4_agrees 46 = .ok (.getfield 18, 3) := by decide +kernel
theorem dX4_agrees_49 : decode cX4_agrees 49 = .ok (.iload_n 3, 1) := by decide +kernel
theorem dX4_agrees_50 : decode cX4_agrees 50 = .ok (.iaload, 1) := by decide +kernel
theorem dX4_agrees_51 : decode cX4_agrees 51 = .ok (.if_icmp .eq 5, 3) := by decide +kernel
theorem dX4_agrees_54 : decode cX4_agrees 54 = .ok (.iconst 0, 1) := by decide +kernel
theorem dX4_agrees_55 : decode cX4_agrees 55 = .ok (.ireturn, 1) := by decide +kernel
theorem dX4_agrees_56 : decode cX4_agrees 56 = .ok (.iinc 3 1, 3) := by decide +kernel
theorem dX4_agrees_59 : decode cX4_agrees 59 = .ok (.goto (-57), 3) := by decide +kernel
theorem dX4_agrees_62 : decode cX4_agrees 62 = .ok (.iconst 1, 1) := by decide +kernel
theorem dX4_agrees_63 : decode cX4_agrees 63 = .ok (.ireturn, 1) := by decide +kernel
theorem dX4_copyFrom_0 : decode cX4_copyFrom 0 = .ok (.aload_n 1, 1) := by decide +kernel
theorem dX4_copyFrom_1 : decode cX4_copyFrom 1 = .ok (.getfield 9, 3) := by decide +kernel
theorem dX4_copyFrom_4 : decode cX4_copyFrom 4 = .ok (.iconst 0, 1) := by decide +kernel
theorem dX4_copyFrom_5 : decode cX4_copyFrom 5 = .ok (.aload_n 0, 1) := by decide +kernel
theorem dX4_copyFrom_6 : decode cX4_copyFrom 6 = .ok (.getfield 9, 3) := by decide +kernel
theorem dX4_copyFrom_9 : decode cX4_copyFrom 9 = .ok (.iconst 0, 1) := by decide +kernel
theorem dX4_copyFrom_10 : decode cX4_copyFrom 10 = .ok (.bipush 8, 2) := by decide +kernel
theorem dX4_copyFrom_12 : decode cX4_copyFrom 12 = .ok (.invokestatic 46, 3) := by decide +kernel
theorem dX4_copyFrom_15 : decode cX4_copyFrom 15 = .ok (.aload_n 1, 1) := by decide +kernel
theorem dX4_copyFrom_16 : decode cX4_copyFrom 16 = .ok (.getfield 15, 3) := by decide +kernel
theorem dX4_copyFrom_19 : decode cX4_copyFrom 19 = .ok (.iconst 0, 1) := by decide +kernel
theorem dX4_copyFrom_20 : decode cX4_copyFrom 20 = .ok (.aload_n 0, 1) := by decide +kernel
theorem dX4_copyFrom_21 : decode cX4_copyFrom 21 = .ok (.getfield 15, 3) := by decide +kernel
theorem dX4_copyFrom_24 : decode cX4_copyFrom 24 = .ok (.iconst 0, 1) := by decide +kernel
theorem dX4_copyFrom_25 : decode cX4_copyFrom 25 = .ok (.bipush 8, 2) := by decide +kernel
theorem dX4_copyFrom_27 : decode cX4_copyFrom 27 = .ok (.invokestatic 46, 3) := by decide +kernel
theorem dX4_copyFrom_30 : decode cX4_copyFrom 30 = .ok (.aload_n 1, 1) := by decide +kernel
theorem dX4_copyFrom_31 : decode cX4_copyFrom 31 = .ok (.getfield 18, 3) := by decide +kernel
theorem dX4_copyFrom_34 : decode cX4_copyFrom 34 = .ok (.iconst 0, 1) := by decide +kernel
theorem dX4_copyFrom_35 : decode cX4_copyFrom 35 = .ok (.aload_n 0, 1) := by decide +kernel
theorem dX4_copyFrom_36 : decode cX4_copyFrom 36 = .ok (.getfield 18, 3) := by decide +kernel
theorem dX4_copyFrom_39 : decode cX4_copyFrom 39 = .ok (.iconst 0, 1) := by decide +kernel
theorem dX4_copyFrom_40 : decode cX4_copyFrom 40 = .ok (.bipush 8, 2) := by decide +kernel
theorem dX4_copyFrom_42 : decode cX4_copyFrom 42 = .ok (.invokestatic 46, 3) := by decide +kernel
theorem dX4_copyFrom_45 : decode cX4_copyFrom 45 = .ok (.aload_n 0, 1) := by decide +kernel
theorem dX4_copyFrom_46 : decode cX4_copyFrom 46 = .ok (.aload_n 1, 1) := by decide +kernel
theorem dX4_copyFrom_47 : decode cX4_copyFrom 47 = .ok (.getfield 21, 3) := by decide +kernel
theorem dX4_copyFrom_50 : decode cX4_copyFrom 50 = .ok (.putfield 21, 3) := by decide +kernel
theorem dX4_copyFrom_53 : decode cX4_copyFrom 53 = .ok (.return_, 1) := by decide +kernel
theorem dX5_init_0 : decode cX5_init 0 = .ok (.aload_n 0, 1) := by decide +kernel
theorem dX5_init_1 : decode cX5_init 1 = .ok (.invokespecial 5, 3) := by decide +kernel
theorem dX5_init_4 : decode cX5_init 4 = .ok (.aload_n 0, 1) := by decide +kernel
theorem dX5_init_5 : decode cX5_init 5 = .ok (.bipush 33, 2) := by decide +kernel
theorem dX5_init_7 : decode cX5_init 7 = .ok (.newarray .int, 2) := by decide +kernel
theorem dX5_init_9 : decode cX5_init 9 = .ok (.putfield 11, 3) := by decide +kernel
theorem dX5_init_12 : decode cX5_init 12 = .ok (.aload_n 0, 1) := by decide +kernel
theorem dX5_init_13 : decode cX5_init 13 = .ok (.getfield 11, 3) := by decide +kernel
theorem dX5_init_16 : decode cX5_init 16 = .ok (.iconst 0, 1) := by decide +kernel
theorem dX5_init_17 : decode cX5_init 17 = .ok (.iconst (-1), 1) := by decide +kernel
theorem dX5_init_18 : decode cX5_init 18 = .ok (.iastore, 1) := by decide +kernel
theorem dX5_init_19 : decode cX5_init 19 = .ok (.return_, 1) := by decide +kernel
theorem dX5_begin_0 : decode cX5_begin 0 = .ok (.aload_n 0, 1) := by decide +kernel
theorem dX5_begin_1 : decode cX5_begin 1 = .ok (.getfield 11, 3) := by decide +kernel
theorem dX5_begin_4 : decode cX5_begin 4 = .ok (.iconst 0, 1) := by decide +kernel
theorem dX5_begin_5 : decode cX5_begin 5 = .ok (.invokestatic 15, 3) := by decide +kernel
theorem dX5_begin_8 : decode cX5_begin 8 = .ok (.aload_n 0, 1) := by decide +kernel
theorem dX5_begin_9 : decode cX5_begin 9 = .ok (.getfield 11, 3) := by decide +kernel
theorem dX5_begin_12 : decode cX5_begin 12 = .ok (.iconst 0, 1) := by decide +kernel
theorem dX5_begin_13 : decode cX5_begin 13 = .ok (.iconst (-1), 1) := by decide +kernel
theorem dX5_begin_14 : decode cX5_begin 14 = .ok (.iastore, 1) := by decide +kernel
theorem dX5_begin_15 : decode cX5_begin 15 = .ok (.aload_n 1, 1) := by decide +kernel
theorem dX5_begin_16 : decode cX5_begin 16 = .ok (.getfield 21, 3) := by decide +kernel
theorem dX5_begin_19 : decode cX5_begin 19 = .ok (.iconst 0, 1) := by decide +kernel
theorem dX5_begin_20 : decode cX5_begin 20 = .ok (.aload_n 0, 1) := by decide +kernel
theorem dX5_begin_21 : decode cX5_begin 21 = .ok (.getfield 11, 3) := by decide +kernel
theorem dX5_begin_24 : decode cX5_begin 24 = .ok (.iconst 1, 1) := by decide +kernel
theorem dX5_begin_25 : decode cX5_begin 25 = .ok (.bipush 8, 2) := by decide +kernel
theorem dX5_begin_27 : decode cX5_begin 27 = .ok (.invokestatic 26, 3) := by decide +kernel
theorem dX5_begin_30 : decode cX5_begin 30 = .ok (.aload_n 1, 1) := by decide +kernel
theorem dX5_begin_31 : decode cX5_begin 31 = .ok (.getfield 32, 3) := by decide +kernel
theorem dX5_begin_34 : decode cX5_begin 34 = .ok (.iconst 0, 1) := by decide +kernel
theorem dX5_begin_35 : decode cX5_begin 35 = .ok (.aload_n 0, 1) := by decide +kernel
theorem dX5_begin_36 : decode cX5_begin 36 = .ok (.getfield 11, 3) := by decide +kernel
theorem dX5_begin_39 : decode cX5_begin 39 = .ok (.bipush 25, 2) := by decide +kernel
theorem dX5_begin_41 : decode cX5_begin 41 = .ok (.bipush 6, 2) := by decide +kernel
theorem dX5_begin_43 : decode cX5_begin 43 = .ok (.invokestatic 26, 3) := by decide +kernel
theorem dX5_begin_46 : decode cX5_begin 46 = .ok (.return_, 1) := by decide +kernel
theorem dX5_copyFrom_0 : decode cX5_copyFrom 0 = .ok (.aload_n 1, 1) := by decide +kernel
theorem dX5_copyFrom_1 : decode cX5_copyFrom 1 = .ok (.getfield 11, 3) := by decide +kernel
theorem dX5_copyFrom_4 : decode cX5_copyFrom 4 = .ok (.iconst 0, 1) := by decide +kernel
theorem dX5_copyFrom_5 : decode cX5_copyFrom 5 = .ok (.aload_n 0, 1) := by decide +kernel
theorem dX5_copyFrom_6 : decode cX5_copyFrom 6 = .ok (.getfield 11, 3) := by decide +kernel
theorem dX5_copyFrom_9 : decode cX5_copyFrom 9 = .ok (.iconst 0, 1) := by decide +kernel
theorem dX5_copyFrom_10 : decode cX5_copyFrom 10 = .ok (.bipush 33, 2) := by decide +kernel
theorem dX5_copyFrom_12 : decode cX5_copyFrom 12 = .ok (.invokestatic 26, 3) := by decide +kernel
theorem dX5_copyFrom_15 : decode cX5_copyFrom 15 = .ok (.return_, 1) := by decide +kernel
theorem dX5_copyTo_0 : decode cX5_copyTo 0 = .ok (.aload_n 0, 1) := by decide +kernel
theorem dX5_copyTo_1 : decode cX5_copyTo 1 = .ok (.getfield 11, 3) := by decide +kernel
theorem dX5_copyTo_4 : decode cX5_copyTo 4 = .ok (.iconst 0, 1) := by decide +kernel
theorem dX5_copyTo_5 : decode cX5_copyTo 5 = .ok (.aload_n 1, 1) := by decide +kernel
theorem dX5_copyTo_6 : decode cX5_copyTo 6 = .ok (.iload_n 2, 1) := by decide +kernel
theorem dX5_copyTo_7 : decode cX5_copyTo 7 = .ok (.bipush 33, 2) := by decide +kernel
theorem dX5_copyTo_9 : decode cX5_copyTo 9 = .ok (.imul, 1) := by decide +kernel
theorem dX5_copyTo_10 : decode cX5_copyTo 10 = .ok (.bipush 33, 2) := by decide +kernel
theorem dX5_copyTo_12 : decode cX5_copyTo 12 = .ok (.invokestatic 26, 3) := by decide +kernel
theorem dX5_copyTo_15 : decode cX5_copyTo 15 = .ok (.return_, 1) := by decide +kernel
theorem dX5_copyBack_0 : decode cX5_copyBack 0 = .ok (.aload_n 1, 1) := by decide +kernel
theorem dX5_copyBack_1 : decode cX5_copyBack 1 = .ok (.iload_n 2, 1) := by decide +kernel
theorem dX5_copyBack_2 : decode cX5_copyBack 2 = .ok (.bipush 33, 2) := by decide +kernel
theorem dX5_copyBack_4 : decode cX5_copyBack 4 = .ok (.imul, 1) := by decide +kernel
theorem dX5_copyBack_5 : decode cX5_copyBack 5 = .ok (.aload_n 0, 1) := by decide +kernel
theorem dX5_copyBack_6 : decode cX5_copyBack 6 = .ok (.getfield 11, 3) := by decide +kernel
theorem dX5_copyBack_9 : decode cX5_copyBack 9 = .ok (.iconst 0, 1) := by decide +kernel
theorem dX5_copyBack_10 : decode cX5_copyBack 10 = .ok (.bipush 33, 2) := by decide +kernel
theorem dX5_copyBack_12 : decode cX5_copyBack 12 = .ok (.invokestatic 26, 3) := by decide +kernel
theorem dX5_copyBack_15 : decode cX5_copyBack 15 = .ok (.return_, 1) := by decide +kernel
theorem dX5_copyAlike_0 : decode cX5_copyAlike 0 = .ok (.aload_n 0, 1) := by decide +kernel
theorem dX5_copyAlike_1 : decode cX5_copyAlike 1 = .ok (.getfield 11, 3) := by decide +kernel
theorem dX5_copyAlike_4 : decode cX5_copyAlike 4 = .ok (.iconst 0, 1) := by decide +kernel
theorem dX5_copyAlike_5 : decode cX5_copyAlike 5 = .ok (.aload_n 1, 1) := by decide +kernel
theorem dX5_copyAlike_6 : decode cX5_copyAlike 6 = .ok (.iload_n 2, 1) := by decide +kernel
theorem dX5_copyAlike_7 : decode cX5_copyAlike 7 = .ok (.bipush 17, 2) := by decide +kernel
theorem dX5_copyAlike_9 : decode cX5_copyAlike 9 = .ok (.imul, 1) := by decide +kernel
theorem dX5_copyAlike_10 : decode cX5_copyAlike 10 = .ok (.bipush 17, 2) := by decide +kernel
theorem dX5_copyAlike_12 : decode cX5_copyAlike 12 = .ok (.invokestatic 26, 3) := by decide +kernel
theorem dX5_copyAlike_15 : decode cX5_copyAlike 15 = .ok (.return_, 1) := by decide +kernel
theorem dX5_day_0 : decode cX5_day 0 = .ok (.aload_n 0, 1) := by decide +kernel
theorem dX5_day_1 : decode cX5_day 1 = .ok (.getfield 11, 3) := by decide +kernel
theorem dX5_day_4 : decode cX5_day 4 = .ok (.bipush 31, 2) := by decide +kernel
theorem dX5_day_6 : decode cX5_day 6 = .ok (.iaload, 1) := by decide +kernel
theorem dX5_day_7 : decode cX5_day 7 = .ok (.ireturn, 1) := by decide +kernel
theorem dX5_endDay_0 : decode cX5_endDay 0 = .ok (.aload_n 0, 1) := by decide +kernel
theorem dX5_endDay_1 : decode cX5_endDay 1 = .ok (.getfield 11, 3) := by decide +kernel
theorem dX5_endDay_4 : decode cX5_endDay 4 = .ok (.bipush 31, 2) := by decide +kernel
theorem dX5_endDay_6 : decode cX5_endDay 6 = .ok (.dup2, 1) := by decide +kernel
theorem dX5_endDay_7 : decode cX5_endDay 7 = .ok (.iaload, 1) := by decide +kernel
theorem dX5_endDay_8 : decode cX5_endDay 8 = .ok (.iconst 1, 1) := by decide +kernel
theorem dX5_endDay_9 : decode cX5_endDay 9 = .ok (.iadd, 1) := by decide +kernel
theorem dX5_endDay_10 : decode cX5_endDay 10 = .ok (.iastore, 1) := by decide +kernel
theorem dX5_endDay_11 : decode cX5_endDay 11 = .ok (.return_, 1) := by decide +kernel
theorem dX5_ringer_0 : decode cX5_ringer 0 = .ok (.aload_n 0, 1) := by decide +kernel
theorem dX5_ringer_1 : decode cX5_ringer 1 = .ok (.getfield 11, 3) := by decide +kernel
theorem dX5_ringer_4 : decode cX5_ringer 4 = .ok (.iconst 0, 1) := by decide +kernel
theorem dX5_ringer_5 : decode cX5_ringer 5 = .ok (.iaload, 1) := by decide +kernel
theorem dX5_ringer_6 : decode cX5_ringer 6 = .ok (.ireturn, 1) := by decide +kernel
theorem dX5_setRinger_0 : decode cX5_setRinger 0 = .ok (.aload_n 0, 1) := by decide +kernel
theorem dX5_setRinger_1 : decode cX5_setRinger 1 = .ok (.getfield 11, 3) := by decide +kernel
theorem dX5_setRinger_4 : decode cX5_setRinger 4 = .ok (.iconst 0, 1) := by decide +kernel
theorem dX5_setRinger_5 : decode cX5_setRinger 5 = .ok (.iload_n 1, 1) := by decide +kernel
theorem dX5_setRinger_6 : decode cX5_setRinger 6 = .ok (.iastore, 1) := by decide +kernel
theorem dX5_setRinger_7 : decode cX5_setRinger 7 = .ok (.return_, 1) := by decide +kernel
theorem dX5_hasteOf_0 : decode cX5_hasteOf 0 = .ok (.aload_n 0, 1) := by decide +kernel
theorem dX5_hasteOf_1 : decode cX5_hasteOf 1 = .ok (.getfield 11, 3) := by decide +kernel
theorem dX5_hasteOf_4 : decode cX5_hasteOf 4 = .ok (.iconst 1, 1) := by decide +kernel
theorem dX5_hasteOf_5 : decode cX5_hasteOf 5 = .ok (.iload_n 1, 1) := by decide +kernel
theorem dX5_hasteOf_6 : decode cX5_hasteOf 6 = .ok (.iadd, 1) := by decide +kernel
theorem dX5_hasteOf_7 : decode cX5_hasteOf 7 = .ok (.iaload, 1) := by decide +kernel
theorem dX5_hasteOf_8 : decode cX5_hasteOf 8 = .ok (.ireturn, 1) := by decide +kernel
theorem dX5_setHaste_0 : decode cX5_setHaste 0 = .ok (.aload_n 0, 1) := by decide +kernel
theorem dX5_setHaste_1 : decode cX5_setHaste 1 = .ok (.getfield 11, 3) := by decide +kernel
theorem dX5_setHaste_4 : decode cX5_setHaste 4 = .ok (.iconst 1, 1) := by decide +kernel
theorem dX5_setHaste_5 : decode cX5_setHaste 5 = .ok (.iload_n 1, 1) := by decide +kernel
theorem dX5_setHaste_6 : decode cX5_setHaste 6 = .ok (.iadd, 1) := by decide +kernel
theorem dX5_setHaste_7 : decode cX5_setHaste 7 = .ok (.iload_n 2, 1) := by decide +kernel
theorem dX5_setHaste_8 : decode cX5_setHaste 8 = .ok (.iastore, 1) := by decide +kernel
theorem dX5_setHaste_9 : decode cX5_setHaste 9 = .ok (.return_, 1) := by decide +kernel
theorem dX5_lateOf_0 : decode cX5_lateOf 0 = .ok (.aload_n 0, 1) := by decide +kernel
theorem dX5_lateOf_1 : decode cX5_lateOf 1 = .ok (.getfield 11, 3) := by decide +kernel
theorem dX5_lateOf_4 : decode cX5_lateOf 4 = .ok (.bipush 9, 2) := by decide +kernel
theorem dX5_lateOf_6 : decode cX5_lateOf 6 = .ok (.iload_n 1, 1) := by decide +kernel
theorem dX5_lateOf_7 : decode cX5_lateOf 7 = .ok (.iadd, 1) := by decide +kernel
theorem dX5_lateOf_8 : decode cX5_lateOf 8 = .ok (.iaload, 1) := by decide +kernel
theorem dX5_lateOf_9 : decode cX5_lateOf 9 = .ok (.ireturn, 1) := by decide +kernel
theorem dX5_setLate_0 : decode cX5_setLate 0 = .ok (.aload_n 0, 1) := by decide +kernel
theorem dX5_setLate_1 : decode cX5_setLate 1 = .ok (.getfield 11, 3) := by decide +kernel
theorem dX5_setLate_4 : decode cX5_setLate 4 = .ok (.bipush 9, 2) := by decide +kernel
theorem dX5_setLate_6 : decode cX5_setLate 6 = .ok (.iload_n 1, 1) := by decide +kernel
theorem dX5_setLate_7 : decode cX5_setLate 7 = .ok (.iadd, 1) := by decide +kernel
theorem dX5_setLate_8 : decode cX5_setLate 8 = .ok (.iload_n 2, 1) := by decide +kernel
theorem dX5_setLate_9 : decode cX5_setLate 9 = .ok (.iastore, 1) := by decide +kernel
theorem dX5_setLate_10 : decode cX5_setLate 10 = .ok (.return_, 1) := by decide +kernel
theorem dX5_rungOf_0 : decode cX5_rungOf 0 = .ok (.aload_n 0, 1) := by decide +kernel
theorem dX5_rungOf_1 : decode cX5_rungOf 1 = .ok (.getfield 11, 3) := by decide +kernel
theorem dX5_rungOf_4 : decode cX5_rungOf 4 = .ok (.bipush 17, 2) := by decide +kernel
theorem dX5_rungOf_6 : decode cX5_rungOf 6 = .ok (.iload_n 1, 1) := by decide +kernel
theorem dX5_rungOf_7 : decode cX5_rungOf 7 = .ok (.iadd, 1) := by decide +kernel
theorem dX5_rungOf_8 : decode cX5_rungOf 8 = .ok (.iaload, 1) := by decide +kernel
theorem dX5_rungOf_9 : decode cX5_rungOf 9 = .ok (.ireturn, 1) := by decide +kernel
theorem dX5_ringOnce_0 : decode cX5_ringOnce 0 = .ok (.aload_n 0, 1) := by decide +kernel
theorem dX5_ringOnce_1 : decode cX5_ringOnce 1 = .ok (.getfield 11, 3) := by decide +kernel
theorem dX5_ringOnce_4 : decode cX5_ringOnce 4 = .ok (.bipush 17, 2) := by decide +kernel
theorem dX5_ringOnce_6 : decode cX5_ringOnce 6 = .ok (.iload_n 1, 1) := by decide +kernel
theorem dX5_ringOnce_7 : decode cX5_ringOnce 7 = .ok (.iadd, 1) := by decide +kernel
theorem dX5_ringOnce_8 : decode cX5_ringOnce 8 = .ok (.sipush 999, 3) := by decide +kernel
theorem dX5_ringOnce_11 : decode cX5_ringOnce 11 = .ok (.aload_n 0, 1) := by decide +kernel
theorem dX5_ringOnce_12 : decode cX5_ringOnce 12 = .ok (.getfield 11, 3) := by decide +kernel
theorem dX5_ringOnce_15 : decode cX5_ringOnce 15 = .ok (.bipush 17, 2) := by decide +kernel
theorem dX5_ringOnce_17 : decode cX5_ringOnce 17 = .ok (.iload_n 1, 1) := by decide +kernel
theorem dX5_ringOnce_18 : decode cX5_ringOnce 18 = .ok (.iadd, 1) := by decide +kernel
theorem dX5_ringOnce_19 : decode cX5_ringOnce 19 = .ok (.iaload, 1) := by decide +kernel
theorem dX5_ringOnce_20 : decode cX5_ringOnce 20 = .ok (.iconst 1, 1) := by decide +kernel
theorem dX5_ringOnce_21 : decode cX5_ringOnce 21 = .ok (.iadd, 1) := by decide +kernel
theorem dX5_ringOnce_22 : decode cX5_ringOnce 22 = .ok (.invokestatic 35, 3) := by decide +kernel
theorem dX5_ringOnce_25 : decode cX5_ringOnce 25 = .ok (.iastore, 1) := by decide +kernel
theorem dX5_ringOnce_26 : decode cX5_ringOnce 26 = .ok (.return_, 1) := by decide +kernel
theorem dX5_dueOf_0 : decode cX5_dueOf 0 = .ok (.aload_n 0, 1) := by decide +kernel
theorem dX5_dueOf_1 : decode cX5_dueOf 1 = .ok (.getfield 11, 3) := by decide +kernel
theorem dX5_dueOf_4 : decode cX5_dueOf 4 = .ok (.bipush 25, 2) := by decide +kernel
theorem dX5_dueOf_6 : decode cX5_dueOf 6 = .ok (.iload_n 1, 1) := by decide +kernel
theorem dX5_dueOf_7 : decode cX5_dueOf 7 = .ok (.iadd, 1) := by decide +kernel
theorem dX5_dueOf_8 : decode cX5_dueOf 8 = .ok (.iaload, 1) := by decide +kernel
theorem dX5_dueOf_9 : decode cX5_dueOf 9 = .ok (.ireturn, 1) := by decide +kernel
theorem dX5_setDue_0 : decode cX5_setDue 0 = .ok (.aload_n 0, 1) := by decide +kernel
theorem dX5_setDue_1 : decode cX5_setDue 1 = .ok (.getfield 11, 3) := by decide +kernel
theorem dX5_setDue_4 : decode cX5_setDue 4 = .ok (.bipush 25, 2) := by decide +kernel
theorem dX5_setDue_6 : decode cX5_setDue 6 = .ok (.iload_n 1, 1) := by decide +kernel
theorem dX5_setDue_7 : decode cX5_setDue 7 = .ok (.iadd, 1) := by decide +kernel
theorem dX5_setDue_8 : decode cX5_setDue 8 = .ok (.iload_n 2, 1) := by decide +kernel
theorem dX5_setDue_9 : decode cX5_setDue 9 = .ok (.iastore, 1) := by decide +kernel
theorem dX5_setDue_10 : decode cX5_setDue 10 = .ok (.return_, 1) := by decide +kernel
theorem dX5_illBits_0 : decode cX5_illBits 0 = .ok (.aload_n 0, 1) := by decide +kernel
theorem dX5_illBits_1 : decode cX5_illBits 1 = .ok (.getfield 11, 3) := by decide +kernel
theorem dX5_illBits_4 : decode cX5_illBits 4 = .ok (.bipush 32, 2) := by decide +kernel
theorem dX5_illBits_6 : decode cX5_illBits 6 = .ok (.iaload, 1) := by decide +kernel
theorem dX5_illBits_7 : decode cX5_illBits 7 = .ok (.ireturn, 1) := by decide +kernel
theorem dX5_isIll_0 : decode cX5_isIll 0 = .ok (.aload_n 0, 1) := by decide +kernel
theorem dX5_isIll_1 : decode cX5_isIll 1 = .ok (.getfield 11, 3) := by decide +kernel
theorem dX5_isIll_4 : decode cX5_isIll 4 = .ok (.bipush 32, 2) := by decide +kernel
theorem dX5_isIll_6 : decode cX5_isIll 6 = .ok (.iaload, 1) := by decide +kernel
theorem dX5_isIll_7 : decode cX5_isIll 7 = .ok (.iload_n 1, 1) := by decide +kernel
theorem dX5_isIll_8 : decode cX5_isIll 8 = .ok (.ishr, 1) := by decide +kernel
theorem dX5_isIll_9 : decode cX5_isIll 9 = .ok (.iconst 1, 1) := by decide +kernel
theorem dX5_isIll_10 : decode cX5_isIll 10 = .ok (.iand, 1) := by decide +kernel
theorem dX5_isIll_11 : decode cX5_isIll 11 = .ok (.iconst 1, 1) := by decide +kernel
theorem dX5_isIll_12 : decode cX5_isIll 12 = .ok (.if_icmp .ne 7, 3) := by decide +kernel
theorem dX5_isIll_15 : decode cX5_isIll 15 = .ok (.iconst 1, 1) := by decide +kernel
theorem dX5_isIll_16 : decode cX5_isIll 16 = .ok (.goto 4, 3) := by decide +kernel
theorem dX5_isIll_19 : decode cX5_isIll 19 = .ok (.iconst 0, 1) := by decide +kernel
theorem dX5_isIll_20 : decode cX5_isIll 20 = .ok (.ireturn, 1) := by decide +kernel
theorem dX5_turnHealth_0 : decode cX5_turnHealth 0 = .ok (.aload_n 0, 1) := by decide +kernel
theorem dX5_turnHealth_1 : decode cX5_turnHealth 1 = .ok (.getfield 11, 3) := by decide +kernel
theorem dX5_turnHealth_4 : decode cX5_turnHealth 4 = .ok (.bipush 32, 2) := by decide +kernel
theorem dX5_turnHealth_6 : decode cX5_turnHealth 6 = .ok (.dup2, 1) := by decide +kernel
theorem dX5_turnHealth_7 : decode cX5_turnHealth 7 = .ok (.iaload, 1) := by decide +kernel
theorem dX5_turnHealth_8 : decode cX5_turnHealth 8 = .ok (.iconst 1, 1) := by decide +kernel
theorem dX5_turnHealth_9 : decode cX5_turnHealth 9 = .ok (.iload_n 1, 1) := by decide +kernel
theorem dX5_turnHealth_10 : decode cX5_turnHealth 10 = .ok (.ishl, 1) := by decide +kernel
theorem dX5_turnHealth_11 : decode cX5_turnHealth 11 = .ok (.ixor, 1) := by decide +kernel
theorem dX5_turnHealth_12 : decode cX5_turnHealth 12 = .ok (.iastore, 1) := by decide +kernel
theorem dX5_turnHealth_13 : decode cX5_turnHealth 13 = .ok (.return_, 1) := by decide +kernel
theorem dX6_init_0 : decode cX6_init 0 = .ok (.aload_n 0, 1) := by decide +kernel
theorem dX6_init_1 : decode cX6_init 1 = .ok (.invokespecial 1, 3) := by decide +kernel
theorem dX6_init_4 : decode cX6_init 4 = .ok (.aload_n 0, 1) := by decide +kernel
theorem dX6_init_5 : decode cX6_init 5 = .ok (.new 7, 3) := by decide +kernel
theorem dX6_init_8 : decode cX6_init 8 = .ok (.dup, 1) := by decide +kernel
theorem dX6_init_9 : decode cX6_init 9 = .ok (.invokespecial 9, 3) := by decide +kernel
theorem dX6_init_12 : decode cX6_init 12 = .ok (.putfield 10, 3) := by decide +kernel
theorem dX6_init_15 : decode cX6_init 15 = .ok (.aload_n 0, 1) := by decide +kernel
theorem dX6_init_16 : decode cX6_init 16 = .ok (.new 16, 3) := by decide +kernel
theorem dX6_init_19 : decode cX6_init 19 = .ok (.dup, 1) := by decide +kernel
theorem dX6_init_20 : decode cX6_init 20 = .ok (.invokespecial 18, 3) := by decide +kernel
theorem dX6_init_23 : decode cX6_init 23 = .ok (.putfield 19, 3) := by decide +kernel
theorem dX6_init_26 : decode cX6_init 26 = .ok (.aload_n 0, 1) := by decide +kernel
theorem dX6_init_27 : decode cX6_init 27 = .ok (.new 23, 3) := by decide +kernel
theorem dX6_init_30 : decode cX6_init 30 = .ok (.dup, 1) := by decide +kernel
theorem dX6_init_31 : decode cX6_init 31 = .ok (.invokespecial 25, 3) := by decide +kernel
theorem dX6_init_34 : decode cX6_init 34 = .ok (.putfield 26, 3) := by decide +kernel
theorem dX6_init_37 : decode cX6_init 37 = .ok (.return_, 1) := by decide +kernel
theorem dX6_begin_0 : decode cX6_begin 0 = .ok (.aload_n 0, 1) := by decide +kernel
theorem dX6_begin_1 : decode cX6_begin 1 = .ok (.getfield 10, 3) := by decide +kernel
theorem dX6_begin_4 : decode cX6_begin 4 = .ok (.aload_n 1, 1) := by decide +kernel
theorem dX6_begin_5 : decode cX6_begin 5 = .ok (.invokevirtual 30, 3) := by decide +kernel
theorem dX6_begin_8 : decode cX6_begin 8 = .ok (.aload_n 0, 1) := by decide +kernel
theorem dX6_begin_9 : decode cX6_begin 9 = .ok (.getfield 19, 3) := by decide +kernel
theorem dX6_begin_12 : decode cX6_begin 12 = .ok (.invokevirtual 34, 3) := by decide +kernel
theorem dX6_begin_15 : decode cX6_begin 15 = .ok (.aload_n 0, 1) := by decide +kernel
theorem dX6_begin_16 : decode cX6_begin 16 = .ok (.getfield 26, 3) := by decide +kernel
theorem dX6_begin_19 : decode cX6_begin 19 = .ok (.iconst 0, 1) := by decide +kernel
theorem dX6_begin_20 : decode cX6_begin 20 = .ok (.putfield 37, 3) := by decide +kernel
theorem dX6_begin_23 : decode cX6_begin 23 = .ok (.return_, 1) := by decide +kernel
theorem dX6_copyFrom_0 : decode cX6_copyFrom 0 = .ok (.aload_n 0, 1) := by decide +kernel
theorem dX6_copyFrom_1 : decode cX6_copyFrom 1 = .ok (.getfield 10, 3) := by decide +kernel
theorem dX6_copyFrom_4 : decode cX6_copyFrom 4 = .ok (.aload_n 1, 1) := by decide +kernel
theorem dX6_copyFrom_5 : decode cX6_copyFrom 5 = .ok (.getfield 10, 3) := by decide +kernel
theorem dX6_copyFrom_8 : decode cX6_copyFrom 8 = .ok (.invokevirtual 41, 3) := by decide +kernel
theorem dX6_copyFrom_11 : decode cX6_copyFrom 11 = .ok (.aload_n 0, 1) := by decide +kernel
theorem dX6_copyFrom_12 : decode cX6_copyFrom 12 = .ok (.getfield 19, 3) := by decide +kernel
theorem dX6_copyFrom_15 : decode cX6_copyFrom 15 = .ok (.aload_n 1, 1) := by decide +kernel
theorem dX6_copyFrom_16 : decode cX6_copyFrom 16 = .ok (.getfield 19, 3) := by decide +kernel
theorem dX6_copyFrom_19 : decode cX6_copyFrom 19 = .ok (.invokevirtual 45, 3) := by decide +kernel
theorem dX6_copyFrom_22 : decode cX6_copyFrom 22 = .ok (.aload_n 0, 1) := by decide +kernel
theorem dX6_copyFrom_23 : decode cX6_copyFrom 23 = .ok (.getfield 26, 3) := by decide +kernel
theorem dX6_copyFrom_26 : decode cX6_copyFrom 26 = .ok (.aload_n 1, 1) := by decide +kernel
theorem dX6_copyFrom_27 : decode cX6_copyFrom 27 = .ok (.getfield 26, 3) := by decide +kernel
theorem dX6_copyFrom_30 : decode cX6_copyFrom 30 = .ok (.invokevirtual 48, 3) := by decide +kernel
theorem dX6_copyFrom_33 : decode cX6_copyFrom 33 = .ok (.return_, 1) := by decide +kernel
theorem dX7_init_0 : decode cX7_init 0 = .ok (.aload_n 0, 1) := by decide +kernel
theorem dX7_init_1 : decode cX7_init 1 = .ok (.invokespecial 3, 3) := by decide +kernel
theorem dX7_init_4 : decode cX7_init 4 = .ok (.aload_n 0, 1) := by decide +kernel
theorem dX7_init_5 : decode cX7_init 5 = .ok (.sipush 700, 3) := by decide +kernel
theorem dX7_init_8 : decode cX7_init 8 = .ok (.newarray .byte, 2) := by decide +kernel
theorem dX7_init_10 : decode cX7_init 10 = .ok (.putfield 9, 3) := by decide +kernel
theorem dX7_init_13 : decode cX7_init 13 = .ok (.aload_n 0, 1) := by decide +kernel
theorem dX7_init_14 : decode cX7_init 14 = .ok (.iconst 0, 1) := by decide +kernel
theorem dX7_init_15 : decode cX7_init 15 = .ok (.putfield 15, 3) := by decide +kernel
theorem dX7_init_18 : decode cX7_init 18 = .ok (.aload_n 0, 1) := by decide +kernel
theorem dX7_init_19 : decode cX7_init 19 = .ok (.iconst 0, 1) := by decide +kernel
theorem dX7_init_20 : decode cX7_init 20 = .ok (.putfield 19, 3) := by decide +kernel
theorem dX7_init_23 : decode cX7_init 23 = .ok (.aload_n 0, 1) := by decide +kernel
theorem dX7_init_24 : decode cX7_init 24 = .ok (.iconst 0, 1) := by decide +kernel
theorem dX7_init_25 : decode cX7_init 25 = .ok (.putfield 22, 3) := by decide +kernel
theorem dX7_init_28 : decode cX7_init 28 = .ok (.aload_n 0, 1) := by decide +kernel
theorem dX7_init_29 : decode cX7_init 29 = .ok (.iconst 0, 1) := by decide +kernel
theorem dX7_init_30 : decode cX7_init 30 = .ok (.putfield 25, 3) := by decide +kernel
theorem dX7_init_33 : decode cX7_init 33 = .ok (.aload_n 0, 1) := by decide +kernel
theorem dX7_init_34 : decode cX7_init 34 = .ok (.iconst 0, 1) := by decide +kernel
theorem dX7_init_35 : decode cX7_init 35 = .ok (.putfield 28, 3) := by decide +kernel
theorem dX7_init_38 : decode cX7_init 38 = .ok (.return_, 1) := by decide +kernel
theorem dX7_put_0 : decode cX7_put 0 = .ok (.bipush 24, 2) := by decide +kernel
theorem dX7_put_2 : decode cX7_put 2 = .ok (.istore_n 2, 1) := by decide +kernel
theorem dX7_put_3 : decode cX7_put 3 = .ok (.iload_n 2, 1) := by decide +kernel
theorem dX7_put_4 : decode cX7_put 4 = .ok (.ifCond .lt 42, 3) := by decide +kernel
theorem dX7_put_7 : decode cX7_put 7 = .ok (.aload_n 0, 1) := by decide +kernel
theorem dX7_put_8 : decode cX7_put 8 = .ok (.getfield 15, 3) := by decide +kernel
theorem dX7_put_11 : decode cX7_put 11 = .ok (.sipush 700, 3) := by decide +kernel
theorem dX7_put_14 : decode cX7_put 14 = .ok (.if_icmp .ge 26, 3) := by decide +kernel
theorem dX7_put_17 : decode cX7_put 17 = .ok (.aload_n 0, 1) := by decide +kernel
theorem dX7_put_18 : decode cX7_put 18 = .ok (.getfield 9, 3) := by decide +kernel
theorem dX7_put_21 : decode cX7_put 21 = .ok (.aload_n 0, 1) := by decide +kernel
theorem dX7_put_22 : decode cX7_put 22 = .ok (.getfield 15, 3) := by decide +kernel
theorem dX7_put_25 : decode cX7_put 25 = .ok (.iload_n 1, 1) := by decide +kernel
theorem dX7_put_26 : decode cX7_put 26 = .ok (.iload_n 2, 1) := by decide +kernel
theorem dX7_put_27 : decode cX7_put 27 = .ok (.ishr, 1) := by decide +kernel
theorem dX7_put_28 : decode cX7_put 28 = .ok (.i2b, 1) := by decide +kernel
theorem dX7_put_29 : decode cX7_put 29 = .ok (.bastore, 1) := by decide +kernel
theorem dX7_put_30 : decode cX7_put 30 = .ok (.aload_n 0, 1) := by decide +kernel
theorem dX7_put_31 : decode cX7_put 31 = .ok (.dup, 1) := by decide +kernel
theorem dX7_put_32 : decode cX7_put 32 = .ok (.getfield 15, 3) := by decide +kernel
theorem dX7_put_35 : decode cX7_put 35 = .ok (.iconst 1, 1) := by decide +kernel
theorem dX7_put_36 : decode cX7_put 36 = .ok (.iadd, 1) := by decide +kernel
theorem dX7_put_37 : decode cX7_put 37 = .ok (.putfield 15, 3) := by decide +kernel
theorem dX7_put_40 : decode cX7_put 40 = .ok (.iinc 2 (-8), 3) := by decide +kernel
theorem dX7_put_43 : decode cX7_put 43 = .ok (.goto (-40), 3) := by decide +kernel
theorem dX7_put_46 : decode cX7_put 46 = .ok (.return_, 1) := by decide +kernel
theorem dX7_open_0 : decode cX7_open 0 = .ok (.aload_n 0, 1) := by decide +kernel
theorem dX7_open_1 : decode cX7_open 1 = .ok (.iload_n 1, 1) := by decide +kernel
theorem dX7_open_2 : decode cX7_open 2 = .ok (.aload_n 0, 1) := by decide +kernel
theorem dX7_open_3 : decode cX7_open 3 = .ok (.getfield 15, 3) := by decide +kernel
theorem dX7_open_6 : decode cX7_open 6 = .ok (.invokestatic 31, 3) := by decide +kernel
theorem dX7_open_9 : decode cX7_open 9 = .ok (.putfield 28, 3) := by decide +kernel
theorem dX7_open_12 : decode cX7_open 12 = .ok (.aload_n 0, 1) := by decide +kernel
theorem dX7_open_13 : decode cX7_open 13 = .ok (.iconst 0, 1) := by decide +kernel
theorem dX7_open_14 : decode cX7_open 14 = .ok (.putfield 22, 3) := by decide +kernel
theorem dX7_open_17 : decode cX7_open 17 = .ok (.aload_n 0, 1) := by decide +kernel
theorem dX7_open_18 : decode cX7_open 18 = .ok (.iconst 0, 1) := by decide +kernel
theorem dX7_open_19 : decode cX7_open 19 = .ok (.putfield 25, 3) := by decide +kernel
theorem dX7_open_22 : decode cX7_open 22 = .ok (.aload_n 0, 1) := by decide +kernel
theorem dX7_open_23 : decode cX7_open 23 = .ok (.invokevirtual 37, 3) := by decide +kernel
theorem dX7_open_26 : decode cX7_open 26 = .ok (.return_, 1) := by decide +kernel
theorem dX7_advance_0 : decode cX7_advance 0 = .ok (.aload_n 0, 1) := by decide +kernel
theorem dX7_advance_1 : decode cX7_advance 1 = .ok (.dup, 1) := by decide +kernel
theorem dX7_advance_2 : decode cX7_advance 2 = .ok (.getfield 22, 3) := by decide +kernel
theorem dX7_advance_5 : decode cX7_advance 5 = .ok (.aload_n 0, 1) := by decide +kernel
theorem dX7_advance_6 : decode cX7_advance 6 = .ok (.getfield 25, 3) := by decide +kernel
theorem dX7_advance_9 : decode cX7_advance 9 = .ok (.iadd, 1) := by decide +kernel
theorem dX7_advance_10 : decode cX7_advance 10 = .ok (.putfield 22, 3) := by decide +kernel
theorem dX7_advance_13 : decode cX7_advance 13 = .ok (.aload_n 0, 1) := by decide +kernel
theorem dX7_advance_14 : decode cX7_advance 14 = .ok (.getfield 22, 3) := by decide +kernel
theorem dX7_advance_17 : decode cX7_advance 17 = .ok (.aload_n 0, 1) := by decide +kernel
theorem dX7_advance_18 : decode cX7_advance 18 = .ok (.getfield 28, 3) := by decide +kernel
theorem dX7_advance_21 : decode cX7_advance 21 = .ok (.if_icmp .ge 44, 3) := by decide +kernel
theorem dX7_advance_24 : decode cX7_advance 24 = .ok (.aload_n 0, 1) := by decide +kernel
theorem dX7_advance_25 : decode cX7_advance 25 = .ok (.getfield 9, 3) := by decide +kernel
theorem dX7_advance_28 : decode cX7_advance 28 = .ok (.aload_n 0, 1) := by decide +kernel
theorem dX7_advance_29 : decode cX7_advance 29 = .ok (.getfield 22, 3) := by decide +kernel
theorem dX7_advance_32 : decode cX7_advance 32 = .ok (.baload, 1) := by decide +kernel
theorem dX7_advance_33 : decode cX7_advance 33 = .ok (.bipush 32, 2) := by decide +kernel
theorem dX7_advance_35 : decode cX7_advance 35 = .ok (.if_icmp .eq 17, 3) := by decide +kernel
theorem dX7_advance_38 : decode cX7_advance 38 = .ok (.aload_n 0, 1) := by decide +kernel
theorem dX7_advance_39 : decode cX7_advance 39 = .ok (.getfield 9, 3) := by decide +kernel
theorem dX7_advance_42 : decode cX7_advance 42 = .ok (.aload_n 0, 1) := by decide +kernel
theorem dX7_advance_43 : decode cX7_advance 43 = .ok (.getfield 22, 3) := by decide +kernel
theorem dX7_advance_46 : decode cX7_advance 46 = .ok (.baload, 1) := by decide +kernel
theorem dX7_advance_47 : decode cX7_advance 47 = .ok (.bipush 10, 2) := by decide +kernel
theorem dX7_advance_49 : decode cX7_advance 49 = .ok (.if_icmp .ne 16, 3) := by decide +kernel
theorem dX7_advance_52 : decode cX7_advance 52 = .ok (.aload_n 0, 1) := by decide +kernel
theorem dX7_advance_53 : decode cX7_advance 53 = .ok (.dup, 1) := by decide +kernel
theorem dX7_advance_54 : decode cX7_advance 54 = .ok (.getfield 22, 3) := by decide +kernel
theorem dX7_advance_57 : decode cX7_advance 57 = .ok (.iconst 1, 1) := by decide +kernel
theorem dX7_advance_58 : decode cX7_advance 58 = .ok (.iadd, 1) := by decide +kernel
theorem dX7_advance_59 : decode cX7_advance 59 = .ok (.putfield 22, 3) := by decide +kernel
theorem dX7_advance_62 : decode cX7_advance 62 = .ok (.goto (-49), 3) := by decide +kernel
theorem dX7_advance_65 : decode cX7_advance 65 = .ok (.aload_n 0, 1) := by decide +kernel
theorem dX7_advance_66 : decode cX7_advance 66 = .ok (.iconst 0, 1) := by decide +kernel
theorem dX7_advance_67 : decode cX7_advance 67 = .ok (.putfield 19, 3) := by decide +kernel
theorem dX7_advance_70 : decode cX7_advance 70 = .ok (.aload_n 0, 1) := by decide +kernel
theorem dX7_advance_71 : decode cX7_advance 71 = .ok (.iconst 0, 1) := by decide +kernel
theorem dX7_advance_72 : decode cX7_advance 72 = .ok (.putfield 25, 3) := by decide +kernel
theorem dX7_advance_75 : decode cX7_advance 75 = .ok (.aload_n 0, 1) := by decide +kernel
theorem dX7_advance_76 : decode cX7_advance 76 = .ok (.getfield 22, 3) := by decide +kernel
theorem dX7_advance_79 : decode cX7_advance 79 = .ok (.aload_n 0, 1) := by decide +kernel
theorem dX7_advance_80 : decode cX7_advance 80 = .ok (.getfield 28, 3) := by decide +kernel
theorem dX7_advance_83 : decode cX7_advance 83 = .ok (.if_icmp .ge 108, 3) := by decide +kernel
theorem dX7_advance_86 : decode cX7_advance 86 = .ok (.aload_n 0, 1) := by decide +kernel
theorem dX7_advance_87 : decode cX7_advance 87 = .ok (.getfield 9, 3) := by decide +kernel
theorem dX7_advance_90 : decode cX7_advance 90 = .ok (.aload_n 0, 1) := by decide +kernel
theorem dX7_advance_91 : decode cX7_advance 91 = .ok (.getfield 22, 3) := by decide +kernel
theorem dX7_advance_94 : decode cX7_advance 94 = .ok (.baload, 1) := by decide +kernel
theorem dX7_advance_95 : decode cX7_advance 95 = .ok (.istore_n 1, 1) := by decide +kernel
theorem dX7_advance_96 : decode cX7_advance 96 = .ok (.aload_n 0, 1) := by decide +kernel
theorem dX7_advance_97 : decode cX7_advance 97 = .ok (.iload_n 1, 1) := by decide +kernel
theorem dX7_advance_98 : decode cX7_advance 98 = .ok (.bipush 97, 2) := by decide +kernel
theorem dX7_advance_100 : decode cX7_advance 100 = .ok (.if_icmp .lt 14, 3) := by decide +kernel
theorem dX7_advance_103 : decode cX7_advance 103 = .ok (.iload_n 1, 1) := by decide +kernel
theorem dX7_advance_104 : decode cX7_advance 104 = .ok (.bipush 122, 2) := by decide +kernel
theorem dX7_advance_106 : decode cX7_advance 106 = .ok (.if_icmp .gt 8, 3) := by decide +kernel
theorem dX7_advance_109 : decode cX7_advance 109 = .ok (.bipush 97, 2) := by decide +kernel
theorem dX7_advance_111 : decode cX7_advance 111 = .ok (.goto 32, 3) := by decide +kernel
theorem dX7_advance_114 : decode cX7_advance 114 = .ok (.iload_n 1, 1) := by decide +kernel
theorem dX7_advance_115 : decode cX7_advance 115 = .ok (.bipush 48, 2) := by decide +kernel
theorem dX7_advance_117 : decode cX7_advance 117 = .ok (.if_icmp .lt 14, 3) := by decide +kernel
theorem dX7_advance_120 : decode cX7_advance 120 = .ok (.iload_n 1, 1) := by decide +kernel
theorem dX7_advance_121 : decode cX7_advance 121 = .ok (.bipush 57, 2) := by decide +kernel
theorem dX7_advance_123 : decode cX7_advance 123 = .ok (.if_icmp .gt 8, 3) := by decide +kernel
theorem dX7_advance_126 : decode cX7_advance 126 = .ok (.bipush 48, 2) := by decide +kernel
theorem dX7_advance_128 : decode cX7_advance 128 = .ok (.goto 15, 3) := by decide +kernel
theorem dX7_advance_131 : decode cX7_advance 131 = .ok (.iload_n 1, 1) := by decide +kernel
theorem dX7_advance_132 : decode cX7_advance 132 = .ok (.invokestatic 40, 3) := by decide +kernel
theorem dX7_advance_135 : decode cX7_advance 135 = .ok (.ifCond .eq 7, 3) := by decide +kernel
theorem dX7_advance_138 : decode cX7_advance 138 = .ok (.iload_n 1, 1) := by decide +kernel
theorem dX7_advance_139 : decode cX7_advance 139 = .ok (.goto 4, 3) := by decide +kernel
theorem dX7_advance_142 : decode cX7_advance 142 = .ok (.iconst 1, 1) := by decide +kernel
theorem dX7_advance_143 : decode cX7_advance 143 = .ok (.putfield 19, 3) := by decide +kernel
theorem dX7_advance_146 : decode cX7_advance 146 = .ok (.aload_n 0, 1) := by decide +kernel
theorem dX7_advance_147 : decode cX7_advance 147 = .ok (.aload_n 0, 1) := by decide +kernel
theorem dX7_advance_148 : decode cX7_advance 148 = .ok (.getfield 19, 3) := by decide +kernel
theorem dX7_advance_151 : decode cX7_advance 151 = .ok (.bipush 97, 2) := by decide +kernel
theorem dX7_advance_153 : decode cX7_advance 153 = .ok (.if_icmp .ne 14, 3) := by decide +kernel
theorem dX7_advance_156 : decode cX7_advance 156 = .ok (.aload_n 0, 1) := by decide +kernel
theorem dX7_advance_157 : decode cX7_advance 157 = .ok (.bipush 97, 2) := by decide +kernel
theorem dX7_advance_159 : decode cX7_advance 159 = .ok (.bipush 122, 2) := by decide +kernel
theorem dX7_advance_161 : decode cX7_advance 161 = .ok (.invokevirtual 44, 3) := by decide +kernel
theorem dX7_advance_164 : decode cX7_advance 164 = .ok (.goto 24, 3) := by decide +kernel
theorem dX7_advance_167 : decode cX7_advance 167 = .ok (.aload_n 0, 1) := by decide +kernel
theorem dX7_advance_168 : decode cX7_advance 168 = .ok (.getfield 19, 3) := by decide +kernel
theorem dX7_advance_171 : decode cX7_advance 171 = .ok (.bipush 48, 2) := by decide +kernel
theorem dX7_advance_173 : decode cX7_advance 173 = .ok (.if_icmp .ne 14, 3) := by decide +kernel
theorem dX7_advance_176 : decode cX7_advance 176 = .ok (.aload_n 0, 1) := by decide +kernel
theorem dX7_advance_177 : decode cX7_advance 177 = .ok (.bipush 48, 2) := by decide +kernel
theorem dX7_advance_179 : decode cX7_advance 179 = .ok (.bipush 57, 2) := by decide +kernel
theorem dX7_advance_181 : decode cX7_advance 181 = .ok (.invokevirtual 44, 3) := by decide +kernel
theorem dX7_advance_184 : decode cX7_advance 184 = .ok (.goto 4, 3) := by decide +kernel
theorem dX7_advance_187 : decode cX7_advance 187 = .ok (.iconst 1, 1) := by decide +kernel
theorem dX7_advance_188 : decode cX7_advance 188 = .ok (.putfield 25, 3) := by decide +kernel
theorem dX7_advance_191 : decode cX7_advance 191 = .ok (.return_, 1) := by decide +kernel
theorem dX7_row_0 : decode cX7_row 0 = .ok (.aload_n 0, 1) := by decide +kernel
theorem dX7_row_1 : decode cX7_row 1 = .ok (.getfield 22, 3) := by decide +kernel
theorem dX7_row_4 : decode cX7_row 4 = .ok (.istore_n 3, 1) := by decide +kernel
theorem dX7_row_5 : decode cX7_row 5 = .ok (.iload_n 3, 1) := by decide +kernel
theorem dX7_row_6 : decode cX7_row 6 = .ok (.aload_n 0, 1) := by decide +kernel
theorem dX7_row_7 : decode cX7_row 7 = .ok (.getfield 28, 3) := by decide +kernel
theorem dX7_row_10 : decode cX7_row 10 = .ok (.if_icmp .ge 29, 3) := by decide +kernel
theorem dX7_row_13 : decode cX7_row 13 = .ok (.aload_n 0, 1) := by decide +kernel
theorem dX7_row_14 : decode cX7_row 14 = .ok (.getfield 9, 3) := by decide +kernel
theorem dX7_row_17 : decode cX7_row 17 = .ok (.iload_n 3, 1) := by decide +kernel
theorem dX7_row_18 : decode cX7_row 18 = .ok (.baload, 1) := by decide +kernel
theorem dX7_row_19 : decode cX7_row 19 = .ok (.iload_n 1, 1) := by decide +kernel
theorem dX7_row_20 : decode cX7_row 20 = .ok (.if_icmp .lt 19, 3) := by decide +kernel
theorem dX7_row_23 : decode cX7_row 23 = .ok (.aload_n 0, 1) := by decide +kernel
theorem dX7_row_24 : decode cX7_row 24 = .ok (.getfield 9, 3) := by decide +kernel
theorem dX7_row_27 : decode cX7_row 27 = .ok (.iload_n 3, 1) := by decide +kernel
theorem dX7_row_28 : decode cX7_row 28 = .ok (.baload, 1) := by decide +kernel
theorem dX7_row_29 : decode cX7_row 29 = .ok (.iload_n 2, 1) := by decide +kernel
theorem dX7_row_30 : decode cX7_row 30 = .ok (.if_icmp .gt 9, 3) := by decide +kernel
theorem dX7_row_33 : decode cX7_row 33 = .ok (.iinc 3 1, 3) := by decide +kernel
theorem dX7_row_36 : decode cX7_row 36 = .ok (.goto (-31), 3) := by decide +kernel
theorem dX7_row_39 : decode cX7_row 39 = .ok (.iload_n 3, 1) := by decide +kernel
theorem dX7_row_40 : decode cX7_row 40 = .ok (.aload_n 0, 1) := by decide +kernel
theorem dX7_row_41 : decode cX7_row 41 = .ok (.getfield 22, 3) := by decide +kernel
theorem dX7_row_44 : decode cX7_row 44 = .ok (.isub, 1) := by decide +kernel
theorem dX7_row_45 : decode cX7_row 45 = .ok (.ireturn, 1) := by decide +kernel
theorem dX7_isSign_0 : decode cX7_isSign 0 = .ok (.iload_n 0, 1) := by decide +kernel
theorem dX7_isSign_1 : decode cX7_isSign 1 = .ok (.bipush 59, 2) := by decide +kernel
theorem dX7_isSign_3 : decode cX7_isSign 3 = .ok (.if_icmp .eq 51, 3) := by decide +kernel
theorem dX7_isSign_6 : decode cX7_isSign 6 = .ok (.iload_n 0, 1) := by decide +kernel
theorem dX7_isSign_7 : decode cX7_isSign 7 = .ok (.bipush 40, 2) := by decide +kernel
theorem dX7_isSign_9 : decode cX7_isSign 9 = .ok (.if_icmp .eq 45, 3) := by decide +kernel
theorem dX7_isSign_12 : decode cX7_isSign 12 = .ok (.iload_n 0, 1) := by decide +kernel
theorem dX7_isSign_13 : decode cX7_isSign 13 = .ok (.bipush 41, 2) := by decide +kernel
theorem dX7_isSign_15 : decode cX7_isSign 15 = .ok (.if_icmp .eq 39, 3) := by decide +kernel
theorem dX7_isSign_18 : decode cX7_isSign 18 = .ok (.iload_n 0, 1) := by decide +kernel
theorem dX7_isSign_19 : decode cX7_isSign 19 = .ok (.bipush 43, 2) := by decide +kernel
theorem dX7_isSign_21 : decode cX7_isSign 21 = .ok (.if_icmp .eq 33, 3) := by decide +kernel
theorem dX7_isSign_24 : decode cX7_isSign 24 = .ok (.iload_n 0, 1) := by decide +kernel
theorem dX7_isSign_25 : decode cX7_isSign 25 = .ok (.bipush 45, 2) := by decide +kernel
theorem dX7_isSign_27 : decode cX7_isSign 27 = .ok (.if_icmp .eq 27, 3) := by decide +kernel
theorem dX7_isSign_30 : decode cX7_isSign 30 = .ok (.iload_n 0, 1) := by decide +kernel
theorem dX7_isSign_31 : decode cX7_isSign 31 = .ok (.bipush 42, 2) := by decide +kernel
theorem dX7_isSign_33 : decode cX7_isSign 33 = .ok (.if_icmp .eq 21, 3) := by decide +kernel
theorem dX7_isSign_36 : decode cX7_isSign 36 = .ok (.iload_n 0, 1) := by decide +kernel
theorem dX7_isSign_37 : decode cX7_isSign 37 = .ok (.bipush 47, 2) := by decide +kernel
theorem dX7_isSign_39 : decode cX7_isSign 39 = .ok (.if_icmp .eq 15, 3) := by decide +kernel
theorem dX7_isSign_42 : decode cX7_isSign 42 = .ok (.iload_n 0, 1) := by decide +kernel
theorem dX7_isSign_43 : decode cX7_isSign 43 = .ok (.bipush 60, 2) := by decide +kernel
theorem dX7_isSign_45 : decode cX7_isSign 45 = .ok (.if_icmp .eq 9, 3) := by decide +kernel
theorem dX7_isSign_48 : decode cX7_isSign 48 = .ok (.iload_n 0, 1) := by decide +kernel
theorem dX7_isSign_49 : decode cX7_isSign 49 = .ok (.bipush 61, 2) := by decide +kernel
theorem dX7_isSign_51 : decode cX7_isSign 51 = .ok (.if_icmp .ne 7, 3) := by decide +kernel
theorem dX7_isSign_54 : decode cX7_isSign 54 = .ok (.iconst 1, 1) := by decide +kernel
theorem dX7_isSign_55 : decode cX7_isSign 55 = .ok (.goto 4, 3) := by decide +kernel
theorem dX7_isSign_58 : decode cX7_isSign 58 = .ok (.iconst 0, 1) := by decide +kernel
theorem dX7_isSign_59 : decode cX7_isSign 59 = .ok (.ireturn, 1) := by decide +kernel
theorem dX7_is_0 : decode cX7_is 0 = .ok (.aload_n 0, 1) := by decide +kernel
theorem dX7_is_1 : decode cX7_is 1 = .ok (.getfield 19, 3) := by decide +kernel
theorem dX7_is_4 : decode cX7_is 4 = .ok (.bipush 97, 2) := by decide +kernel
theorem dX7_is_6 : decode cX7_is 6 = .ok (.if_icmp .ne 14, 3) := by decide +kernel
theorem dX7_is_9 : decode cX7_is 9 = .ok (.aload_n 0, 1) := by decide +kernel
theorem dX7_is_10 : decode cX7_is 10 = .ok (.getfield 25, 3) := by decide +kernel
theorem dX7_is_13 : decode cX7_is 13 = .ok (.aload_n 1, 1) := by decide +kernel
theorem dX7_is_14 : decode cX7_is 14 = .ok (.invokevirtual 48, 3) := by decide +kernel
theorem dX7_is_17 : decode cX7_is 17 = .ok (.if_icmp .eq 5, 3) := by decide +kernel
theorem dX7_is_20 : decode cX7_is 20 = .ok (.iconst 0, 1) := by decide +kernel
theorem dX7_is_21 : decode cX7_is 21 = .ok (.ireturn, 1) := by decide +kernel
theorem dX7_is_22 : decode cX7_is 22 = .ok (.iconst 0, 1) := by decide +kernel
theorem dX7_is_23 : decode cX7_is 23 = .ok (.istore_n 2, 1) := by decide +kernel
theorem dX7_is_24 : decode cX7_is 24 = .ok (.iload_n 2, 1) := by decide +kernel
theorem dX7_is_25 : decode cX7_is 25 = .ok (.aload_n 0, 1) := by decide +kernel
theorem dX7_is_26 : decode cX7_is 26 = .ok (.getfield 25, 3) := by decide +kernel
theorem dX7_is_29 : decode cX7_is 29 = .ok (.if_icmp .ge 30, 3) := by decide +kernel
theorem dX7_is_32 : decode cX7_is 32 = .ok (.aload_n 0, 1) := by decide +kernel
theorem dX7_is_33 : decode cX7_is 33 = .ok (.getfield 9, 3) := by decide +kernel
theorem dX7_is_36 : decode cX7_is 36 = .ok (.aload_n 0, 1) := by decide +kernel
theorem dX7_is_37 : decode cX7_is 37 = .ok (.getfield 22, 3) := by decide +kernel
theorem dX7_is_40 : decode cX7_is 40 = .ok (.iload_n 2, 1) := by decide +kernel
theorem dX7_is_41 : decode cX7_is 41 = .ok (.iadd, 1) := by decide +kernel
theorem dX7_is_42 : decode cX7_is 42 = .ok (.baload, 1) := by decide +kernel
theorem dX7_is_43 : decode cX7_is 43 = .ok (.aload_n 1, 1) := by decide +kernel
theorem dX7_is_44 : decode cX7_is 44 = .ok (.iload_n 2, 1) := by decide +kernel
theorem dX7_is_45 : decode cX7_is 45 = .ok (.invokevirtual 53, 3) := by decide +kernel
theorem dX7_is_48 : decode cX7_is 48 = .ok (.if_icmp .eq 5, 3) := by decide +kernel
theorem dX7_is_51 : decode cX7_is 51 = .ok (.iconst 0, 1) := by decide +kernel
theorem dX7_is_52 : decode cX7_is 52 = .ok (.ireturn, 1) := by decide +kernel
theorem dX7_is_53 : decode cX7_is 53 = .ok (.iinc 2 1, 3) := by decide +kernel
theorem dX7_is_56 : decode cX7_is 56 = .ok (.goto (-32), 3) := by decide +kernel
theorem dX7_is_59 : decode cX7_is 59 = .ok (.iconst 1, 1) := by decide +kernel
theorem dX7_is_60 : decode cX7_is 60 = .ok (.ireturn, 1) := by decide +kernel
theorem dX7_value_0 : decode cX7_value 0 = .ok (.aload_n 0, 1) := by decide +kernel
theorem dX7_value_1 : decode cX7_value 1 = .ok (.getfield 25, 3) := by decide +kernel
theorem dX7_value_4 : decode cX7_value 4 = .ok (.iconst 4, 1) := by decide +kernel
theorem dX7_value_5 : decode cX7_value 5 = .ok (.if_icmp .le 5, 3) := by decide +kernel
theorem dX7_value_8 : decode cX7_value 8 = .ok (.iconst (-1), 1) := by decide +kernel
theorem dX7_value_9 : decode cX7_value 9 = .ok (.ireturn, 1) := by decide +kernel
theorem dX7_value_10 : decode cX7_value 10 = .ok (.iconst 0, 1) := by decide +kernel
theorem dX7_value_11 : decode cX7_value 11 = .ok (.istore_n 1, 1) := by decide +kernel
theorem dX7_value_12 : decode cX7_value 12 = .ok (.iconst 0, 1) := by decide +kernel
theorem dX7_value_13 : decode cX7_value 13 = .ok (.istore_n 2, 1) := by decide +kernel
theorem dX7_value_14 : decode cX7_value 14 = .ok (.iload_n 2, 1) := by decide +kernel
theorem dX7_value_15 : decode cX7_value 15 = .ok (.aload_n 0, 1) := by decide +kernel
theorem dX7_value_16 : decode cX7_value 16 = .ok (.getfield 25, 3) := by decide +kernel
theorem dX7_value_19 : decode cX7_value 19 = .ok (.if_icmp .ge 29, 3) := by decide +kernel
theorem dX7_value_22 : decode cX7_value 22 = .ok (.bipush 10, 2) := by decide +kernel
theorem dX7_value_24 : decode cX7_value 24 = .ok (.iload_n 1, 1) := by decide +kernel
theorem dX7_value_25 : decode cX7_value 25 = .ok (.imul, 1) := by decide +kernel
theorem dX7_value_26 : decode cX7_value 26 = .ok (.aload_n 0, 1) := by decide +kernel
theorem dX7_value_27 : decode cX7_value 27 = .ok (.getfield 9, 3) := by decide +kernel
theorem dX7_value_30 : decode cX7_value 30 = .ok (.aload_n 0, 1) := by decide +kernel
theorem dX7_value_31 : decode cX7_value 31 = .ok (.getfield 22, 3) := by decide +kernel
theorem dX7_value_34 : decode cX7_value 34 = .ok (.iload_n 2, 1) := by decide +kernel
theorem dX7_value_35 : decode cX7_value 35 = .ok (.iadd, 1) := by decide +kernel
theorem dX7_value_36 : decode cX7_value 36 = .ok (.baload, 1) := by decide +kernel
theorem dX7_value_37 : decode cX7_value 37 = .ok (.iadd, 1) := by decide +kernel
theorem dX7_value_38 : decode cX7_value 38 = .ok (.bipush 48, 2) := by decide +kernel
theorem dX7_value_40 : decode cX7_value 40 = .ok (.isub, 1) := by decide +kernel
theorem dX7_value_41 : decode cX7_value 41 = .ok (.istore_n 1, 1) := by decide +kernel
theorem dX7_value_42 : decode cX7_value 42 = .ok (.iinc 2 1, 3) := by decide +kernel
theorem dX7_value_45 : decode cX7_value 45 = .ok (.goto (-31), 3) := by decide +kernel
theorem dX7_value_48 : decode cX7_value 48 = .ok (.iload_n 1, 1) := by decide +kernel
theorem dX7_value_49 : decode cX7_value 49 = .ok (.ireturn, 1) := by decide +kernel
theorem dX8_init_0 : decode cX8_init 0 = .ok (.aload_n 0, 1) := by decide +kernel
theorem dX8_init_1 : decode cX8_init 1 = .ok (.invokespecial 3, 3) := by decide +kernel
theorem dX8_init_4 : decode cX8_init 4 = .ok (.aload_n 0, 1) := by decide +kernel
theorem dX8_init_5 : decode cX8_init 5 = .ok (.bipush 8, 2) := by decide +kernel
theorem dX8_init_7 : decode cX8_init 7 = .ok (.newarray .int, 2) := by decide +kernel
theorem dX8_init_9 : decode cX8_init 9 = .ok (.putfield 9, 3) := by decide +kernel
theorem dX8_init_12 : decode cX8_init 12 = .ok (.aload_n 0, 1) := by decide +kernel
theorem dX8_init_13 : decode cX8_init 13 = .ok (.bipush 8, 2) := by decide +kernel
theorem dX8_init_15 : decode cX8_init 15 = .ok (.newarray .int, 2) := by decide +kernel
theorem dX8_init_17 : decode cX8_init 17 = .ok (.putfield 15, 3) := by decide +kernel
theorem dX8_init_20 : decode cX8_init 20 = .ok (.aload_n 0, 1) := by decide +kernel
theorem dX8_init_21 : decode cX8_init 21 = .ok (.bipush 8, 2) := by decide +kernel
theorem dX8_init_23 : decode cX8_init 23 = .ok (.newarray .int, 2) := by decide +kernel
theorem dX8_init_25 : decode cX8_init 25 = .ok (.putfield 18, 3) := by decide +kernel
theorem dX8_init_28 : decode cX8_init 28 = .ok (.aload_n 0, 1) := by decide +kernel
theorem dX8_init_29 : decode cX8_init 29 = .ok (.bipush 8, 2) := by decide +kernel
theorem dX8_init_31 : decode cX8_init 31 = .ok (.newarray .int, 2) := by decide +kernel
theorem dX8_init_33 : decode cX8_init 33 = .ok (.putfield 21, 3) := by decide +kernel
theorem dX8_init_36 : decode cX8_init 36 = .ok (.aload_n 0, 1) := by decide +kernel
theorem dX8_init_37 : decode cX8_init 37 = .ok (.bipush 6, 2) := by decide +kernel
theorem dX8_init_39 : decode cX8_init 39 = .ok (.newarray .int, 2) := by decide +kernel
theorem dX8_init_41 : decode cX8_init 41 = .ok (.putfield 24, 3) := by decide +kernel
theorem dX8_init_44 : decode cX8_init 44 = .ok (.aload_n 0, 1) := by decide +kernel
theorem dX8_init_45 : decode cX8_init 45 = .ok (.bipush 6, 2) := by decide +kernel
theorem dX8_init_47 : decode cX8_init 47 = .ok (.newarray .int, 2) := by decide +kernel
theorem dX8_init_49 : decode cX8_init 49 = .ok (.putfield 27, 3) := by decide +kernel
theorem dX8_init_52 : decode cX8_init 52 = .ok (.aload_n 0, 1) := by decide +kernel
theorem dX8_init_53 : decode cX8_init 53 = .ok (.iconst 0, 1) := by decide +kernel
theorem dX8_init_54 : decode cX8_init 54 = .ok (.putfield 30, 3) := by decide +kernel
theorem dX8_init_57 : decode cX8_init 57 = .ok (.aload_n 0, 1) := by decide +kernel
theorem dX8_init_58 : decode cX8_init 58 = .ok (.iconst 0, 1) := by decide +kernel
theorem dX8_init_59 : decode cX8_init 59 = .ok (.putfield 34, 3) := by decide +kernel
theorem dX8_init_62 : decode cX8_init 62 = .ok (.aload_n 0, 1) := by decide +kernel
theorem dX8_init_63 : decode cX8_init 63 = .ok (.iconst 2, 1) := by decide +kernel
theorem dX8_init_64 : decode cX8_init 64 = .ok (.putfield 37, 3) := by decide +kernel
theorem dX8_init_67 : decode cX8_init 67 = .ok (.aload_n 0, 1) := by decide +kernel
theorem dX8_init_68 : decode cX8_init 68 = .ok (.aconst_null, 1) := by decide +kernel
theorem dX8_init_69 : decode cX8_init 69 = .ok (.putfield 40, 3) := by decide +kernel
theorem dX8_init_72 : decode cX8_init 72 = .ok (.aload_n 0, 1) := by decide +kernel
theorem dX8_init_73 : decode cX8_init 73 = .ok (.aconst_null, 1) := by decide +kernel
theorem dX8_init_74 : decode cX8_init 74 = .ok (.putfield 44, 3) := by decide +kernel
theorem dX8_init_77 : decode cX8_init 77 = .ok (.return_, 1) := by decide +kernel
theorem dX8_distance_0 : decode cX8_distance 0 = .ok (.aload_n 0, 1) := by decide +kernel
theorem dX8_distance_1 : decode cX8_distance 1 = .ok (.getfield 21, 3) := by decide +kernel
theorem dX8_distance_4 : decode cX8_distance 4 = .ok (.iload_n 1, 1) := by decide +kernel
theorem dX8_distance_5 : decode cX8_distance 5 = .ok (.iaload, 1) := by decide +kernel
theorem dX8_distance_6 : decode cX8_distance 6 = .ok (.aload_n 0, 1) := by decide +kernel
theorem dX8_distance_7 : decode cX8_distance 7 = .ok (.getfield 27, 3) := by decide +kernel
theorem dX8_distance_10 : decode cX8_distance 10 = .ok (.iload_n 2, 1) := by decide +kernel
theorem dX8_distance_11 : decode cX8_distance 11 = .ok (.iaload, 1) := by decide +kernel
theorem dX8_distance_12 : decode cX8_distance 12 = .ok (.isub, 1) := by decide +kernel
theorem dX8_distance_13 : decode cX8_distance 13 = .ok (.invokestatic 47, 3) := by decide +kernel
theorem dX8_distance_16 : decode cX8_distance 16 = .ok (.ireturn, 1) := by decide +kernel
theorem dX8_minutes_0 : decode cX8_minutes 0 = .ok (.iconst 0, 1) := by decide +kernel
theorem dX8_minutes_1 : decode cX8_minutes 1 = .ok (.aload_n 0, 1) := by decide +kernel
theorem dX8_minutes_2 : decode cX8_minutes 2 = .ok (.getfield 37, 3) := by decide +kernel
theorem dX8_minutes_5 : decode cX8_minutes 5 = .ok (.aload_n 0, 1) := by decide +kernel
theorem dX8_minutes_6 : decode cX8_minutes 6 = .ok (.iload_n 1, 1) := by decide +kernel
theorem dX8_minutes_7 : decode cX8_minutes 7 = .ok (.iload_n 2, 1) := by decide +kernel
theorem dX8_minutes_8 : decode cX8_minutes 8 = .ok (.invokevirtual 53, 3) := by decide +kernel
theorem dX8_minutes_11 : decode cX8_minutes 11 = .ok (.imul, 1) := by decide +kernel
theorem dX8_minutes_12 : decode cX8_minutes 12 = .ok (.iload_n 3, 1) := by decide +kernel
theorem dX8_minutes_13 : decode cX8_minutes 13 = .ok (.iadd, 1) := by decide +kernel
theorem dX8_minutes_14 : decode cX8_minutes 14 = .ok (.iload 4, 2) := by decide +kernel
theorem dX8_minutes_16 : decode cX8_minutes 16 = .ok (.isub, 1) := by decide +kernel
theorem dX8_minutes_17 : decode cX8_minutes 17 = .ok (.invokestatic 57, 3) := by decide +kernel
theorem dX8_minutes_20 : decode cX8_minutes 20 = .ok (.ireturn, 1) := by decide +kernel
theorem dX9_init_0 : decode cX9_init 0 = .ok (.aload_n 0, 1) := by decide +kernel
theorem dX9_init_1 : decode cX9_init 1 = .ok (.invokespecial 1, 3) := by decide +kernel
theorem dX9_init_4 : decode cX9_init 4 = .ok (.aload_n 0, 1) := by decide +kernel
theorem dX9_init_5 : decode cX9_init 5 = .ok (.new 7, 3) := by decide +kernel
theorem dX9_init_8 : decode cX9_init 8 = .ok (.dup, 1) := by decide +kernel
theorem dX9_init_9 : decode cX9_init 9 = .ok (.invokespecial 9, 3) := by decide +kernel
theorem dX9_init_12 : decode cX9_init 12 = .ok (.putfield 10, 3) := by decide +kernel
theorem dX9_init_15 : decode cX9_init 15 = .ok (.aload_n 0, 1) := by decide +kernel
theorem dX9_init_16 : decode cX9_init 16 = .ok (.new 16, 3) := by decide +kernel
theorem dX9_init_19 : decode cX9_init 19 = .ok (.dup, 1) := by decide +kernel
theorem dX9_init_20 : decode cX9_init 20 = .ok (.invokespecial 18, 3) := by decide +kernel
theorem dX9_init_23 : decode cX9_init 23 = .ok (.putfield 19, 3) := by decide +kernel
theorem dX9_init_26 : decode cX9_init 26 = .ok (.aload_n 0, 1) := by decide +kernel
theorem dX9_init_27 : decode cX9_init 27 = .ok (.new 16, 3) := by decide +kernel
theorem dX9_init_30 : decode cX9_init 30 = .ok (.dup, 1) := by decide +kernel
theorem dX9_init_31 : decode cX9_init 31 = .ok (.invokespecial 18, 3) := by decide +kernel
theorem dX9_init_34 : decode cX9_init 34 = .ok (.putfield 23, 3) := by decide +kernel
theorem dX9_init_37 : decode cX9_init 37 = .ok (.aload_n 0, 1) := by decide +kernel
theorem dX9_init_38 : decode cX9_init 38 = .ok (.new 26, 3) := by decide +kernel
theorem dX9_init_41 : decode cX9_init 41 = .ok (.dup, 1) := by decide +kernel
theorem dX9_init_42 : decode cX9_init 42 = .ok (.invokespecial 28, 3) := by decide +kernel
theorem dX9_init_45 : decode cX9_init 45 = .ok (.putfield 29, 3) := by decide +kernel
theorem dX9_init_48 : decode cX9_init 48 = .ok (.aload_n 0, 1) := by decide +kernel
theorem dX9_init_49 : decode cX9_init 49 = .ok (.iconst 3, 1) := by decide +kernel
theorem dX9_init_50 : decode cX9_init 50 = .ok (.newarray .int, 2) := by decide +kernel
theorem dX9_init_52 : decode cX9_init 52 = .ok (.putfield 33, 3) := by decide +kernel
theorem dX9_init_55 : decode cX9_init 55 = .ok (.aload_n 0, 1) := by decide +kernel
theorem dX9_init_56 : decode cX9_init 56 = .ok (.sipush 697, 3) := by decide +kernel
theorem dX9_init_59 : decode cX9_init 59 = .ok (.newarray .int, 2) := by decide +kernel
theorem dX9_init_61 : decode cX9_init 61 = .ok (.putfield 39, 3) := by decide +kernel
theorem dX9_init_64 : decode cX9_init 64 = .ok (.aload_n 0, 1) := by decide +kernel
theorem dX9_init_65 : decode cX9_init 65 = .ok (.sipush 256, 3) := by decide +kernel
theorem dX9_init_68 : decode cX9_init 68 = .ok (.newarray .int, 2) := by decide +kernel
theorem dX9_init_70 : decode cX9_init 70 = .ok (.putfield 42, 3) := by decide +kernel
theorem dX9_init_73 : decode cX9_init 73 = .ok (.aload_n 0, 1) := by decide +kernel
theorem dX9_init_74 : decode cX9_init 74 = .ok (.bipush 8, 2) := by decide +kernel
theorem dX9_init_76 : decode cX9_init 76 = .ok (.newarray .int, 2) := by decide +kernel
theorem dX9_init_78 : decode cX9_init 78 = .ok (.putfield 45, 3) := by decide +kernel
theorem dX9_init_81 : decode cX9_init 81 = .ok (.aload_n 0, 1) := by decide +kernel
theorem dX9_init_82 : decode cX9_init 82 = .ok (.bipush 12, 2) := by decide +kernel
theorem dX9_init_84 : decode cX9_init 84 = .ok (.newarray .long, 2) := by decide +kernel
theorem dX9_init_86 : decode cX9_init 86 = .ok (.putfield 48, 3) := by decide +kernel
theorem dX9_init_89 : decode cX9_init 89 = .ok (.aload_n 0, 1) := by decide +kernel
theorem dX9_init_90 : decode cX9_init 90 = .ok (.new 52, 3) := by decide +kernel
theorem dX9_init_93 : decode cX9_init 93 = .ok (.dup, 1) := by decide +kernel
theorem dX9_init_94 : decode cX9_init 94 = .ok (.invokespecial 54, 3) := by decide +kernel
theorem dX9_init_97 : decode cX9_init 97 = .ok (.putfield 55, 3) := by decide +kernel
theorem dX9_init_100 : decode cX9_init 100 = .ok (.aload_n 0, 1) := by decide +kernel
theorem dX9_init_101 : decode cX9_init 101 = .ok (.iconst 0, 1) := by decide +kernel
theorem dX9_init_102 : decode cX9_init 102 = .ok (.putfield 59, 3) := by decide +kernel
theorem dX9_init_105 : decode cX9_init 105 = .ok (.aload_n 0, 1) := by decide +kernel
theorem dX9_init_106 : decode cX9_init 106 = .ok (.iconst (-1), 1) := by decide +kernel
theorem dX9_init_107 : decode cX9_init 107 = .ok (.putfield 63, 3) := by decide +kernel
theorem dX9_init_110 : decode cX9_init 110 = .ok (.return_, 1) := by decide +kernel
theorem dX9_feed_0 : decode cX9_feed 0 = .ok (.aload_n 0, 1) := by decide +kernel
theorem dX9_feed_1 : decode cX9_feed 1 = .ok (.getfield 10, 3) := by decide +kernel
theorem dX9_feed_4 : decode cX9_feed 4 = .ok (.getfield 67, 3) := by decide +kernel
theorem dX9_feed_7 : decode cX9_feed 7 = .ok (.astore 6, 2) := by decide +kernel
theorem dX9_feed_9 : decode cX9_feed 9 = .ok (.aload 6, 2) := by decide +kernel
theorem dX9_feed_11 : decode cX9_feed 11 = .ok (.getfield 71, 3) := by decide +kernel
theorem dX9_feed_14 : decode cX9_feed 14 = .ok (.bipush 20, 2) := by decide +kernel
theorem dX9_feed_16 : decode cX9_feed 16 = .ok (.iadd, 1) := by decide +kernel
theorem dX9_feed_17 : decode cX9_feed 17 = .ok (.sipush 700, 3) := by decide +kernel
theorem dX9_feed_20 : decode cX9_feed 20 = .ok (.if_icmp .le 5, 3) := by decide +kernel
theorem dX9_feed_23 : decode cX9_feed 23 = .ok (.iconst (-1), 1) := by decide +kernel
theorem dX9_feed_24 : decode cX9_feed 24 = .ok (.ireturn, 1) := by decide +kernel
theorem dX9_feed_25 : decode cX9_feed 25 = .ok (.aload 6, 2) := by decide +kernel
theorem dX9_feed_27 : decode cX9_feed 27 = .ok (.iload_n 1, 1) := by decide +kernel
theorem dX9_feed_28 : decode cX9_feed 28 = .ok (.invokevirtual 76, 3) := by decide +kernel
theorem dX9_feed_31 : decode cX9_feed 31 = .ok (.aload 6, 2) := by decide +kernel
theorem dX9_feed_33 : decode cX9_feed 33 = .ok (.iload_n 2, 1) := by decide +kernel
theorem dX9_feed_34 : decode cX9_feed 34 = .ok (.invokevirtual 76, 3) := by decide +kernel
theorem dX9_feed_37 : decode cX9_feed 37 = .ok (.aload 6, 2) := by decide +kernel
theorem dX9_feed_39 : decode cX9_feed 39 = .ok (.iload_n 3, 1) := by decide +kernel
theorem dX9_feed_40 : decode cX9_feed 40 = .ok (.invokevirtual 76, 3) := by decide +kernel
theorem dX9_feed_43 : decode cX9_feed 43 = .ok (.aload 6, 2) := by decide +kernel
theorem dX9_feed_45 : decode cX9_feed 45 = .ok (.iload 4, 2) := by decide +kernel
theorem dX9_feed_47 : decode cX9_feed 47 = .ok (.invokevirtual 76, 3) := by decide +kernel
theorem dX9_feed_50 : decode cX9_feed 50 = .ok (.aload 6, 2) := by decide +kernel
theorem dX9_feed_52 : decode cX9_feed 52 = .ok (.iload 5, 2) := by decide +kernel
theorem dX9_feed_54 : decode cX9_feed 54 = .ok (.invokevirtual 76, 3) := by decide +kernel
theorem dX9_feed_57 : decode cX9_feed 57 = .ok (.aload 6, 2) := by decide +kernel
theorem dX9_feed_59 : decode cX9_feed 59 = .ok (.getfield 71, 3) := by decide +kernel
theorem dX9_feed_62 : decode cX9_feed 62 = .ok (.ireturn, 1) := by decide +kernel
theorem dX9_town_0 : decode cX9_town 0 = .ok (.iload_n 1, 1) := by decide +kernel
theorem dX9_town_1 : decode cX9_town 1 = .ok (.ifCond .lt 17, 3) := by decide +kernel
theorem dX9_town_4 : decode cX9_town 4 = .ok (.iload_n 1, 1) := by decide +kernel
theorem dX9_town_5 : decode cX9_town 5 = .ok (.aload_n 0, 1) := by decide +kernel
theorem dX9_town_6 : decode cX9_town 6 = .ok (.getfield 10, 3) := by decide +kernel
theorem dX9_town_9 : decode cX9_town 9 = .ok (.getfield 67, 3) := by decide +kernel
theorem dX9_town_12 : decode cX9_town 12 = .ok (.getfield 71, 3) := by decide +kernel
theorem dX9_town_15 : decode cX9_town 15 = .ok (.if_icmp .le 13, 3) := by decide +kernel
theorem dX9_town_18 : decode cX9_town 18 = .ok (.new 80, 3) := by decide +kernel
theorem dX9_town_21 : decode cX9_town 21 = .ok (.dup, 1) := by decide +kernel
theorem dX9_town_22 : decode cX9_town 22 = .ok (.ldc 82, 2) := by decide +kernel
theorem dX9_town_24 : decode cX9_town 24 = .ok (.invokespecial 84, 3) := by decide +kernel
theorem dX9_town_27 : decode cX9_town 27 = .ok (.athrow, 1) := by decide +kernel
theorem dX9_town_28 : decode cX9_town 28 = .ok (.aload_n 0, 1) := by decide +kernel
theorem dX9_town_29 : decode cX9_town 29 = .ok (.getfield 10, 3) := by decide +kernel
theorem dX9_town_32 : decode cX9_town 32 = .ok (.iload_n 1, 1) := by decide +kernel
theorem dX9_town_33 : decode cX9_town 33 = .ok (.invokevirtual 87, 3) := by decide +kernel
theorem dX9_town_36 : decode cX9_town 36 = .ok (.astore_n 2, 1) := by decide +kernel
theorem dX9_town_37 : decode cX9_town 37 = .ok (.aload_n 0, 1) := by decide +kernel
theorem dX9_town_38 : decode cX9_town 38 = .ok (.getfield 10, 3) := by decide +kernel
theorem dX9_town_41 : decode cX9_town 41 = .ok (.getfield 67, 3) := by decide +kernel
theorem dX9_town_44 : decode cX9_town 44 = .ok (.iconst 0, 1) := by decide +kernel
theorem dX9_town_45 : decode cX9_town 45 = .ok (.putfield 71, 3) := by decide +kernel
theorem dX9_town_48 : decode cX9_town 48 = .ok (.aload_n 0, 1) := by decide +kernel
theorem dX9_town_49 : decode cX9_town 49 = .ok (.aload_n 0, 1) := by decide +kernel
theorem dX9_town_50 : decode cX9_town 50 = .ok (.getfield 10, 3) := by decide +kernel
theorem dX9_town_53 : decode cX9_town 53 = .ok (.getfield 91, 3) := by decide +kernel
theorem dX9_town_56 : decode cX9_town 56 = .ok (.putfield 63, 3) := by decide +kernel
theorem dX9_town_59 : decode cX9_town 59 = .ok (.aload_n 2, 1) := by decide +kernel
theorem dX9_town_60 : decode cX9_town 60 = .ok (.ifnonnull 21, 3) := by decide +kernel
theorem dX9_town_63 : decode cX9_town 63 = .ok (.aload_n 0, 1) := by decide +kernel
theorem dX9_town_64 : decode cX9_town 64 = .ok (.getfield 33, 3) := by decide +kernel
theorem dX9_town_67 : decode cX9_town 67 = .ok (.iconst 0, 1) := by decide +kernel
theorem dX9_town_68 : decode cX9_town 68 = .ok (.dup2, 1) := by decide +kernel
theorem dX9_town_69 : decode cX9_town 69 = .ok (.iaload, 1) := by decide +kernel
theorem dX9_town_70 : decode cX9_town 70 = .ok (.iconst 1, 1) := by decide +kernel
theorem dX9_town_71 : decode cX9_town 71 = .ok (.iadd, 1) := by decide +kernel
theorem dX9_town_72 : decode cX9_town 72 = .ok (.iastore, 1) := by decide +kernel
theorem dX9_town_73 : decode cX9_town 73 = .ok (.aload_n 0, 1) := by decide +kernel
theorem dX9_town_74 : decode cX9_town 74 = .ok (.getfield 10, 3) := by decide +kernel
theorem dX9_town_77 : decode cX9_town 77 = .ok (.getfield 92, 3) := by decide +kernel
theorem dX9_town_80 : decode cX9_town 80 = .ok (.ireturn, 1) := by decide +kernel
theorem dX9_town_81 : decode cX9_town 81 = .ok (.aload_n 0, 1) := by decide +kernel
theorem dX9_town_82 : decode cX9_town 82 = .ok (.aload_n 2, 1) := by decide +kernel
theorem dX9_town_83 : decode cX9_town 83 = .ok (.putfield 55, 3) := by decide +kernel
theorem dX9_town_86 : decode cX9_town 86 = .ok (.aload_n 0, 1) := by decide +kernel
theorem dX9_town_87 : decode cX9_town 87 = .ok (.getfield 19, 3) := by decide +kernel
theorem dX9_town_90 : decode cX9_town 90 = .ok (.aload_n 2, 1) := by decide +kernel
theorem dX9_town_91 : decode cX9_town 91 = .ok (.invokevirtual 95, 3) := by decide +kernel
theorem dX9_town_94 : decode cX9_town 94 = .ok (.aload_n 0, 1) := by decide +kernel
theorem dX9_town_95 : decode cX9_town 95 = .ok (.iconst 0, 1) := by decide +kernel
theorem dX9_town_96 : decode cX9_town 96 = .ok (.putfield 59, 3) := by decide +kernel
theorem dX9_town_99 : decode cX9_town 99 = .ok (.iconst 0, 1) := by decide +kernel
theorem dX9_town_100 : decode cX9_town 100 = .ok (.ireturn, 1) := by decide +kernel
theorem dX9_fault_0 : decode cX9_fault 0 = .ok (.aload_n 0, 1) := by decide +kernel
theorem dX9_fault_1 : decode cX9_fault 1 = .ok (.getfield 63, 3) := by decide +kernel
theorem dX9_fault_4 : decode cX9_fault 4 = .ok (.ireturn, 1) := by decide +kernel
theorem dX9_count_0 : decode cX9_count 0 = .ok (.iload_n 1, 1) := by decide +kernel
theorem dX9_count_1 : decode cX9_count 1 = .ok (.tableswitch 190 0 12 #[67, 75, 83, 91, 102, 113, 124, 136, 147, 158, 169, 176, 183], 67) := by decide +kernel
theorem dX9_count_68 : decode cX9_count 68 = .ok (.aload_n 0, 1) := by decide +kernel
theorem dX9_count_69 : decode cX9_count 69 = .ok (.getfield 55, 3) := by decide +kernel
theorem dX9_count_72 : decode cX9_count 72 = .ok (.getfield 99, 3) := by decide +kernel
theorem dX9_count_75 : decode cX9_count 75 = .ok (.ireturn, 1) := by decide +kernel
theorem dX9_count_76 : decode cX9_count 76 = .ok (.aload_n 0, 1) := by decide +kernel
theorem dX9_count_77 : decode cX9_count 77 = .ok (.getfield 55, 3) := by decide +kernel
theorem dX9_count_80 : decode cX9_count 80 = .ok (.getfield 102, 3) := by decide +kernel
theorem dX9_count_83 : decode cX9_count 83 = .ok (.ireturn, 1) := by decide +kernel
theorem dX9_count_84 : decode cX9_count 84 = .ok (.aload_n 0, 1) := by decide +kernel
theorem dX9_count_85 : decode cX9_count 85 = .ok (.getfield 55, 3) := by decide +kernel
theorem dX9_count_88 : decode cX9_count 88 = .ok (.getfield 105, 3) := by decide +kernel
theorem dX9_count_91 : decode cX9_count 91 = .ok (.ireturn, 1) := by decide +kernel
theorem dX9_count_92 : decode cX9_count 92 = .ok (.aload_n 0, 1) := by decide +kernel
theorem dX9_count_93 : decode cX9_count 93 = .ok (.getfield 19, 3) := by decide +kernel
theorem dX9_count_96 : decode cX9_count 96 = .ok (.getfield 108, 3) := by decide +kernel
theorem dX9_count_99 : decode cX9_count 99 = .ok (.invokevirtual 112, 3) := by decide +kernel
theorem dX9_count_102 : decode cX9_count 102 = .ok (.ireturn, 1) := by decide +kernel
theorem dX9_count_103 : decode cX9_count 103 = .ok (.aload_n 0, 1) := by decide +kernel
theorem dX9_count_104 : decode cX9_count 104 = .ok (.getfield 19, 3) := by decide +kernel
theorem dX9_count_107 : decode cX9_count 107 = .ok (.getfield 108, 3) := by decide +kernel
theorem dX9_count_110 : decode cX9_count 110 = .ok (.invokevirtual 116, 3) := by decide +kernel
theorem dX9_count_113 : decode cX9_count 113 = .ok (.ireturn, 1) := by decide +kernel
theorem dX9_count_114 : decode cX9_count 114 = .ok (.aload_n 0, 1) := by decide +kernel
theorem dX9_count_115 : decode cX9_count 115 = .ok (.getfield 19, 3) := by decide +kernel
theorem dX9_count_118 : decode cX9_count 118 = .ok (.getfield 108, 3) := by decide +kernel
theorem dX9_count_121 : decode cX9_count 121 = .ok (.invokevirtual 119, 3) := by decide +kernel
theorem dX9_count_124 : decode cX9_count 124 = .ok (.ireturn, 1) := by decide +kernel
theorem dX9_count_125 : decode cX9_count 125 = .ok (.aload_n 0, 1) := by decide +kernel
theorem dX9_count_126 : decode cX9_count 126 = .ok (.aload_n 0, 1) := by decide +kernel
theorem dX9_count_127 : decode cX9_count 127 = .ok (.getfield 19, 3) := by decide +kernel
theorem dX9_count_130 : decode cX9_count 130 = .ok (.getfield 108, 3) := by decide +kernel
theorem dX9_count_133 : decode cX9_count 133 = .ok (.invokevirtual 122, 3) := by decide +kernel
theorem dX9_count_136 : decode cX9_count 136 = .ok (.ireturn, 1) := by decide +kernel
theorem dX9_count_137 : decode cX9_count 137 = .ok (.aload_n 0, 1) := by decide +kernel
theorem dX9_count_138 : decode cX9_count 138 = .ok (.getfield 19, 3) := by decide +kernel
theorem dX9_count_141 : decode cX9_count 141 = .ok (.getfield 126, 3) := by decide +kernel
theorem dX9_count_144 : decode cX9_count 144 = .ok (.getfield 130, 3) := by decide +kernel
theorem dX9_count_147 : decode cX9_count 147 = .ok (.ireturn, 1) := by decide +kernel
theorem dX9_count_148 : decode cX9_count 148 = .ok (.aload_n 0, 1) := by decide +kernel
theorem dX9_count_149 : decode cX9_count 149 = .ok (.getfield 19, 3) := by decide +kernel
theorem dX9_count_152 : decode cX9_count 152 = .ok (.getfield 135, 3) := by decide +kernel
theorem dX9_count_155 : decode cX9_count 155 = .ok (.getfield 139, 3) := by decide +kernel
theorem dX9_count_158 : decode cX9_count 158 = .ok (.ireturn, 1) := by decide +kernel
theorem dX9_count_159 : decode cX9_count 159 = .ok (.aload_n 0, 1) := by decide +kernel
theorem dX9_count_160 : decode cX9_count 160 = .ok (.getfield 10, 3) := by decide +kernel
theorem dX9_count_163 : decode cX9_count 163 = .ok (.getfield 67, 3) := by decide +kernel
theorem dX9_count_166 : decode cX9_count 166 = .ok (.getfield 71, 3) := by decide +kernel
theorem dX9_count_169 : decode cX9_count 169 = .ok (.ireturn, 1) := by decide +kernel
theorem dX9_count_170 : decode cX9_count 170 = .ok (.aload_n 0, 1) := by decide +kernel
theorem dX9_count_171 : decode cX9_count 171 = .ok (.getfield 33, 3) := by decide +kernel
theorem dX9_count_174 : decode cX9_count 174 = .ok (.iconst 0, 1) := by decide +kernel
theorem dX9_count_175 : decode cX9_count 175 = .ok (.iaload, 1) := by decide +kernel
theorem dX9_count_176 : decode cX9_count 176 = .ok (.ireturn, 1) := by decide +kernel
theorem dX9_count_177 : decode cX9_count 177 = .ok (.aload_n 0, 1) := by decide +kernel
theorem dX9_count_178 : decode cX9_count 178 = .ok (.getfield 33, 3) := by decide +kernel
theorem dX9_count_181 : decode cX9_count 181 = .ok (.iconst 1, 1) := by decide +kernel
theorem dX9_count_182 : decode cX9_count 182 = .ok (.iaload, 1) := by decide +kernel
theorem dX9_count_183 : decode cX9_count 183 = .ok (.ireturn, 1) := by decide +kernel
theorem dX9_count_184 : decode cX9_count 184 = .ok (.aload_n 0, 1) := by decide +kernel
theorem dX9_count_185 : decode cX9_count 185 = .ok (.getfield 33, 3) := by decide +kernel
theorem dX9_count_188 : decode cX9_count 188 = .ok (.iconst 2, 1) := by decide +kernel
theorem dX9_count_189 : decode cX9_count 189 = .ok (.iaload, 1) := by decide +kernel
theorem dX9_count_190 : decode cX9_count 190 = .ok (.ireturn, 1) := by decide +kernel
theorem dX9_count_191 : decode cX9_count 191 = .ok (.new 142, 3) := by decide +kernel
theorem dX9_count_194 : decode cX9_count 194 = .ok (.dup, 1) := by decide +kernel
theorem dX9_count_195 : decode cX9_count 195 = .ok (.ldc 144, 2) := by decide +kernel
theorem dX9_count_197 : decode cX9_count 197 = .ok (.invokespecial 146, 3) := by decide +kernel
theorem dX9_count_200 : decode cX9_count 200 = .ok (.athrow, 1) := by decide +kernel
theorem dX9_person_0 : decode cX9_person 0 = .ok (.aload_n 0, 1) := by decide +kernel
theorem dX9_person_1 : decode cX9_person 1 = .ok (.iload_n 1, 1) := by decide +kernel
theorem dX9_person_2 : decode cX9_person 2 = .ok (.invokevirtual 147, 3) := by decide +kernel
theorem dX9_person_5 : decode cX9_person 5 = .ok (.iload_n 2, 1) := by decide +kernel
theorem dX9_person_6 : decode cX9_person 6 = .ok (.tableswitch 128 0 6 #[42, 52, 64, 74, 86, 98, 108], 42) := by decide +kernel
theorem dX9_person_48 : decode cX9_person 48 = .ok (.aload_n 0, 1) := by decide +kernel
theorem dX9_person_49 : decode cX9_person 49 = .ok (.getfield 55, 3) := by decide +kernel
theorem dX9_person_52 : decode cX9_person 52 = .ok (.getfield 150, 3) := by decide +kernel
theorem dX9_person_55 : decode cX9_person 55 = .ok (.iload_n 1, 1) := by decide +kernel
theorem dX9_person_56 : decode cX9_person 56 = .ok (.iaload, 1) := by decide +kernel
theorem dX9_person_57 : decode cX9_person 57 = .ok (.ireturn, 1) := by decide +kernel
theorem dX9_person_58 : decode cX9_person 58 = .ok (.aload_n 0, 1) := by decide +kernel
theorem dX9_person_59 : decode cX9_person 59 = .ok (.getfield 19, 3) := by decide +kernel
theorem dX9_person_62 : decode cX9_person 62 = .ok (.getfield 108, 3) := by decide +kernel
theorem dX9_person_65 : decode cX9_person 65 = .ok (.iload_n 1, 1) := by decide +kernel
theorem dX9_person_66 : decode cX9_person 66 = .ok (.invokevirtual 153, 3) := by decide +kernel
theorem dX9_person_69 : decode cX9_person 69 = .ok (.ireturn, 1) := by decide +kernel
theorem dX9_person_70 : decode cX9_person 70 = .ok (.aload_n 0, 1) := by decide +kernel
theorem dX9_person_71 : decode cX9_person 71 = .ok (.getfield 55, 3) := by decide +kernel
theorem dX9_person_74 : decode cX9_person 74 = .ok (.getfield 157, 3) := by decide +kernel
theorem dX9_person_77 : decode cX9_person 77 = .ok (.iload_n 1, 1) := by decide +kernel
theorem dX9_person_78 : decode cX9_person 78 = .ok (.iaload, 1) := by decide +kernel
theorem dX9_person_79 : decode cX9_person 79 = .ok (.ireturn, 1) := by decide +kernel
theorem dX9_person_80 : decode cX9_person 80 = .ok (.aload_n 0, 1) := by decide +kernel
theorem dX9_person_81 : decode cX9_person 81 = .ok (.getfield 19, 3) := by decide +kernel
theorem dX9_person_84 : decode cX9_person 84 = .ok (.getfield 108, 3) := by decide +kernel
theorem dX9_person_87 : decode cX9_person 87 = .ok (.iload_n 1, 1) := by decide +kernel
theorem dX9_person_88 : decode cX9_person 88 = .ok (.invokevirtual 160, 3) := by decide +kernel
theorem dX9_person_91 : decode cX9_person 91 = .ok (.ireturn, 1) := by decide +kernel
theorem dX9_person_92 : decode cX9_person 92 = .ok (.aload_n 0, 1) := by decide +kernel
theorem dX9_person_93 : decode cX9_person 93 = .ok (.getfield 19, 3) := by decide +kernel
theorem dX9_person_96 : decode cX9_person 96 = .ok (.getfield 108, 3) := by decide +kernel
theorem dX9_person_99 : decode cX9_person 99 = .ok (.iload_n 1, 1) := by decide +kernel
theorem dX9_person_100 : decode cX9_person 100 = .ok (.invokevirtual 163, 3) := by decide +kernel
theorem dX9_person_103 : decode cX9_person 103 = .ok (.ireturn, 1) := by decide +kernel
theorem dX9_person_104 : decode cX9_person 104 = .ok (.aload_n 0, 1) := by decide +kernel
theorem dX9_person_105 : decode cX9_person 105 = .ok (.getfield 55, 3) := by decide +kernel
theorem dX9_person_108 : decode cX9_person 108 = .ok (.getfield 166, 3) := by decide +kernel
theorem dX9_person_111 : decode cX9_person 111 = .ok (.iload_n 1, 1) := by decide +kernel
theorem dX9_person_112 : decode cX9_person 112 = .ok (.iaload, 1) := by decide +kernel
theorem dX9_person_113 : decode cX9_person 113 = .ok (.ireturn, 1) := by decide +kernel
theorem dX9_person_114 : decode cX9_person 114 = .ok (.aload_n 0, 1) := by decide +kernel
theorem dX9_person_115 : decode cX9_person 115 = .ok (.getfield 19, 3) := by decide +kernel
theorem dX9_person_118 : decode cX9_person 118 = .ok (.getfield 108, 3) := by decide +kernel
theorem dX9_person_121 : decode cX9_person 121 = .ok (.iload_n 1, 1) := by decide +kernel
theorem dX9_person_122 : decode cX9_person 122 = .ok (.invokevirtual 169, 3) := by decide +kernel
theorem dX9_person_125 : decode cX9_person 125 = .ok (.ifCond .eq 7, 3) := by decide +kernel
theorem dX9_person_128 : decode cX9_person 128 = .ok (.iconst 1, 1) := by decide +kernel
theorem dX9_person_129 : decode cX9_person 129 = .ok (.goto 4, 3) := by decide +kernel
theorem dX9_person_132 : decode cX9_person 132 = .ok (.iconst 0, 1) := by decide +kernel
theorem dX9_person_133 : decode cX9_person 133 = .ok (.ireturn, 1) := by decide +kernel
theorem dX9_person_134 : decode cX9_person 134 = .ok (.new 142, 3) := by decide +kernel
theorem dX9_person_137 : decode cX9_person 137 = .ok (.dup, 1) := by decide +kernel
theorem dX9_person_138 : decode cX9_person 138 = .ok (.ldc 173, 2) := by decide +kernel
theorem dX9_person_140 : decode cX9_person 140 = .ok (.invokespecial 146, 3) := by decide +kernel
theorem dX9_person_143 : decode cX9_person 143 = .ok (.athrow, 1) := by decide +kernel
theorem dX9_duty_0 : decode cX9_duty 0 = .ok (.aload_n 0, 1) := by decide +kernel
theorem dX9_duty_1 : decode cX9_duty 1 = .ok (.iload_n 1, 1) := by decide +kernel
theorem dX9_duty_2 : decode cX9_duty 2 = .ok (.invokevirtual 175, 3) := by decide +kernel
theorem dX9_duty_5 : decode cX9_duty 5 = .ok (.iload_n 2, 1) := by decide +kernel
theorem dX9_duty_6 : decode cX9_duty 6 = .ok (.tableswitch 54 0 2 #[26, 38, 48], 26) := by decide +kernel
theorem dX9_duty_32 : decode cX9_duty 32 = .ok (.aload_n 0, 1) := by decide +kernel
theorem dX9_duty_33 : decode cX9_duty 33 = .ok (.getfield 19, 3) := by decide +kernel
theorem dX9_duty_36 : decode cX9_duty 36 = .ok (.getfield 108, 3) := by decide +kernel
theorem dX9_duty_39 : decode cX9_duty 39 = .ok (.iload_n 1, 1) := by decide +kernel
theorem dX9_duty_40 : decode cX9_duty 40 = .ok (.invokevirtual 178, 3) := by decide +kernel
theorem dX9_duty_43 : decode cX9_duty 43 = .ok (.ireturn, 1) := by decide +kernel
theorem dX9_duty_44 : decode cX9_duty 44 = .ok (.aload_n 0, 1) := by decide +kernel
theorem dX9_duty_45 : decode cX9_duty 45 = .ok (.getfield 55, 3) := by decide +kernel
theorem dX9_duty_48 : decode cX9_duty 48 = .ok (.getfield 181, 3) := by decide +kernel
theorem dX9_duty_51 : decode cX9_duty 51 = .ok (.iload_n 1, 1) := by decide +kernel
theorem dX9_duty_52 : decode cX9_duty 52 = .ok (.iaload, 1) := by decide +kernel
theorem dX9_duty_53 : decode cX9_duty 53 = .ok (.ireturn, 1) := by decide +kernel
theorem dX9_duty_54 : decode cX9_duty 54 = .ok (.aload_n 0, 1) := by decide +kernel
theorem dX9_duty_55 : decode cX9_duty 55 = .ok (.iload_n 1, 1) := by decide +kernel
theorem dX9_duty_56 : decode cX9_duty 56 = .ok (.invokevirtual 184, 3) := by decide +kernel
theorem dX9_duty_59 : decode cX9_duty 59 = .ok (.ireturn, 1) := by decide +kernel
theorem dX9_duty_60 : decode cX9_duty 60 = .ok (.new 142, 3) := by decide +kernel
theorem dX9_duty_63 : decode cX9_duty 63 = .ok (.dup, 1) := by decide +kernel
theorem dX9_duty_64 : decode cX9_duty 64 = .ok (.ldc 187, 2) := by decide +kernel
theorem dX9_duty_66 : decode cX9_duty 66 = .ok (.invokespecial 146, 3) := by decide +kernel
theorem dX9_duty_69 : decode cX9_duty 69 = .ok (.athrow, 1) := by decide +kernel
theorem dX9_days_0 : decode cX9_days 0 = .ok (.iload_n 1, 1) := by decide +kernel
theorem dX9_days_1 : decode cX9_days 1 = .ok (.iconst 1, 1) := by decide +kernel
theorem dX9_days_2 : decode cX9_days 2 = .ok (.if_icmp .lt 27, 3) := by decide +kernel
theorem dX9_days_5 : decode cX9_days 5 = .ok (.iload_n 1, 1) := by decide +kernel
theorem dX9_days_6 : decode cX9_days 6 = .ok (.bipush 20, 2) := by decide +kernel
theorem dX9_days_8 : decode cX9_days 8 = .ok (.if_icmp .gt 21, 3) := by decide +kernel
theorem dX9_days_11 : decode cX9_days 11 = .ok (.aload_n 0, 1) := by decide +kernel
theorem dX9_days_12 : decode cX9_days 12 = .ok (.getfield 19, 3) := by decide +kernel
theorem dX9_days_15 : decode cX9_days 15 = .ok (.getfield 108, 3) := by decide +kernel
theorem dX9_days_18 : decode cX9_days 18 = .ok (.invokevirtual 112, 3) := by decide +kernel
theorem dX9_days_21 : decode cX9_days 21 = .ok (.iload_n 1, 1) := by decide +kernel
theorem dX9_days_22 : decode cX9_days 22 = .ok (.iadd, 1) := by decide +kernel
theorem dX9_days_23 : decode cX9_days 23 = .ok (.sipush 999, 3) := by decide +kernel
theorem dX9_days_26 : decode cX9_days 26 = .ok (.if_icmp .le 15, 3) := by decide +kernel
theorem dX9_days_29 : decode cX9_days 29 = .ok (.aload_n 0, 1) := by decide +kernel
theorem dX9_days_30 : decode cX9_days 30 = .ok (.getfield 33, 3) := by decide +kernel
theorem dX9_days_33 : decode cX9_days 33 = .ok (.iconst 1, 1) := by decide +kernel
theorem dX9_days_34 : decode cX9_days 34 = .ok (.dup2, 1) := by decide +kernel
theorem dX9_days_35 : decode cX9_days 35 = .ok (.iaload, 1) := by decide +kernel
theorem dX9_days_36 : decode cX9_days 36 = .ok (.iconst 1, 1) := by decide +kernel
theorem dX9_days_37 : decode cX9_days 37 = .ok (.iadd, 1) := by decide +kernel
theorem dX9_days_38 : decode cX9_days 38 = .ok (.iastore, 1) := by decide +kernel
theorem dX9_days_39 : decode cX9_days 39 = .ok (.iconst (-1), 1) := by decide +kernel
theorem dX9_days_40 : decode cX9_days 40 = .ok (.ireturn, 1) := by decide +kernel
theorem dX9_days_41 : decode cX9_days 41 = .ok (.aload_n 0, 1) := by decide +kernel
theorem dX9_days_42 : decode cX9_days 42 = .ok (.getfield 19, 3) := by decide +kernel
theorem dX9_days_45 : decode cX9_days 45 = .ok (.getfield 126, 3) := by decide +kernel
theorem dX9_days_48 : decode cX9_days 48 = .ok (.aload_n 0, 1) := by decide +kernel
theorem dX9_days_49 : decode cX9_days 49 = .ok (.getfield 19, 3) := by decide +kernel
theorem dX9_days_52 : decode cX9_days 52 = .ok (.getfield 108, 3) := by decide +kernel
theorem dX9_days_55 : decode cX9_days 55 = .ok (.invokevirtual 189, 3) := by decide +kernel
theorem dX9_days_58 : decode cX9_days 58 = .ok (.aload_n 0, 1) := by decide +kernel
theorem dX9_days_59 : decode cX9_days 59 = .ok (.invokevirtual 193, 3) := by decide +kernel
theorem dX9_days_62 : decode cX9_days 62 = .ok (.astore_n 2, 1) := by decide +kernel
theorem dX9_days_63 : decode cX9_days 63 = .ok (.aload_n 2, 1) := by decide +kernel
theorem dX9_days_64 : decode cX9_days 64 = .ok (.iload_n 1, 1) := by decide +kernel
theorem dX9_days_65 : decode cX9_days 65 = .ok (.invokevirtual 197, 3) := by decide +kernel
theorem dX9_days_68 : decode cX9_days 68 = .ok (.aload_n 0, 1) := by decide +kernel
theorem dX9_days_69 : decode cX9_days 69 = .ok (.getfield 19, 3) := by decide +kernel
theorem dX9_days_72 : decode cX9_days 72 = .ok (.getfield 108, 3) := by decide +kernel
theorem dX9_days_75 : decode cX9_days 75 = .ok (.aload_n 2, 1) := by decide +kernel
theorem dX9_days_76 : decode cX9_days 76 = .ok (.getfield 200, 3) := by decide +kernel
theorem dX9_days_79 : decode cX9_days 79 = .ok (.invokevirtual 201, 3) := by decide +kernel
theorem dX9_days_82 : decode cX9_days 82 = .ok (.aload_n 0, 1) := by decide +kernel
theorem dX9_days_83 : decode cX9_days 83 = .ok (.getfield 19, 3) := by decide +kernel
theorem dX9_days_86 : decode cX9_days 86 = .ok (.getfield 108, 3) := by decide +kernel
theorem dX9_days_89 : decode cX9_days 89 = .ok (.invokevirtual 112, 3) := by decide +kernel
theorem dX9_days_92 : decode cX9_days 92 = .ok (.ireturn, 1) := by decide +kernel
theorem dX9_hurry_0 : decode cX9_hurry 0 = .ok (.aload_n 0, 1) := by decide +kernel
theorem dX9_hurry_1 : decode cX9_hurry 1 = .ok (.iload_n 1, 1) := by decide +kernel
theorem dX9_hurry_2 : decode cX9_hurry 2 = .ok (.invokevirtual 147, 3) := by decide +kernel
theorem dX9_hurry_5 : decode cX9_hurry 5 = .ok (.iload_n 2, 1) := by decide +kernel
theorem dX9_hurry_6 : decode cX9_hurry 6 = .ok (.ifCond .lt 9, 3) := by decide +kernel
theorem dX9_hurry_9 : decode cX9_hurry 9 = .ok (.iload_n 2, 1) := by decide +kernel
theorem dX9_hurry_10 : decode cX9_hurry 10 = .ok (.bipush 60, 2) := by decide +kernel
theorem dX9_hurry_12 : decode cX9_hurry 12 = .ok (.if_icmp .le 15, 3) := by decide +kernel
theorem dX9_hurry_15 : decode cX9_hurry 15 = .ok (.aload_n 0, 1) := by decide +kernel
theorem dX9_hurry_16 : decode cX9_hurry 16 = .ok (.getfield 33, 3) := by decide +kernel
theorem dX9_hurry_19 : decode cX9_hurry 19 = .ok (.iconst 1, 1) := by decide +kernel
theorem dX9_hurry_20 : decode cX9_hurry 20 = .ok (.dup2, 1) := by decide +kernel
theorem dX9_hurry_21 : decode cX9_hurry 21 = .ok (.iaload, 1) := by decide +kernel
theorem dX9_hurry_22 : decode cX9_hurry 22 = .ok (.iconst 1, 1) := by decide +kernel
theorem dX9_hurry_23 : decode cX9_hurry 23 = .ok (.iadd, 1) := by decide +kernel
theorem dX9_hurry_24 : decode cX9_hurry 24 = .ok (.iastore, 1) := by decide +kernel
theorem dX9_hurry_25 : decode cX9_hurry 25 = .ok (.iconst (-1), 1) := by decide +kernel
theorem dX9_hurry_26 : decode cX9_hurry 26 = .ok (.ireturn, 1) := by decide +kernel
theorem dX9_hurry_27 : decode cX9_hurry 27 = .ok (.aload_n 0, 1) := by decide +kernel
theorem dX9_hurry_28 : decode cX9_hurry 28 = .ok (.getfield 19, 3) := by decide +kernel
theorem dX9_hurry_31 : decode cX9_hurry 31 = .ok (.getfield 108, 3) := by decide +kernel
theorem dX9_hurry_34 : decode cX9_hurry 34 = .ok (.iload_n 1, 1) := by decide +kernel
theorem dX9_hurry_35 : decode cX9_hurry 35 = .ok (.invokevirtual 153, 3) := by decide +kernel
theorem dX9_hurry_38 : decode cX9_hurry 38 = .ok (.istore_n 3, 1) := by decide +kernel
theorem dX9_hurry_39 : decode cX9_hurry 39 = .ok (.aload_n 0, 1) := by decide +kernel
theorem dX9_hurry_40 : decode cX9_hurry 40 = .ok (.getfield 19, 3) := by decide +kernel
theorem dX9_hurry_43 : decode cX9_hurry 43 = .ok (.getfield 126, 3) := by decide +kernel
theorem dX9_hurry_46 : decode cX9_hurry 46 = .ok (.aload_n 0, 1) := by decide +kernel
theorem dX9_hurry_47 : decode cX9_hurry 47 = .ok (.getfield 19, 3) := by decide +kernel
theorem dX9_hurry_50 : decode cX9_hurry 50 = .ok (.getfield 108, 3) := by decide +kernel
theorem dX9_hurry_53 : decode cX9_hurry 53 = .ok (.invokevirtual 189, 3) := by decide +kernel
theorem dX9_hurry_56 : decode cX9_hurry 56 = .ok (.aload_n 0, 1) := by decide +kernel
theorem dX9_hurry_57 : decode cX9_hurry 57 = .ok (.getfield 19, 3) := by decide +kernel
theorem dX9_hurry_60 : decode cX9_hurry 60 = .ok (.getfield 108, 3) := by decide +kernel
theorem dX9_hurry_63 : decode cX9_hurry 63 = .ok (.iload_n 1, 1) := by decide +kernel
theorem dX9_hurry_64 : decode cX9_hurry 64 = .ok (.iload_n 2, 1) := by decide +kernel
theorem dX9_hurry_65 : decode cX9_hurry 65 = .ok (.invokevirtual 204, 3) := by decide +kernel
theorem dX9_hurry_68 : decode cX9_hurry 68 = .ok (.iload_n 3, 1) := by decide +kernel
theorem dX9_hurry_69 : decode cX9_hurry 69 = .ok (.ireturn, 1) := by decide +kernel
theorem dX9_ill_0 : decode cX9_ill 0 = .ok (.aload_n 0, 1) := by decide +kernel
theorem dX9_ill_1 : decode cX9_ill 1 = .ok (.iload_n 1, 1) := by decide +kernel
theorem dX9_ill_2 : decode cX9_ill 2 = .ok (.invokevirtual 147, 3) := by decide +kernel
theorem dX9_ill_5 : decode cX9_ill 5 = .ok (.aload_n 0, 1) := by decide +kernel
theorem dX9_ill_6 : decode cX9_ill 6 = .ok (.getfield 19, 3) := by decide +kernel
theorem dX9_ill_9 : decode cX9_ill 9 = .ok (.getfield 108, 3) := by decide +kernel
theorem dX9_ill_12 : decode cX9_ill 12 = .ok (.iload_n 1, 1) := by decide +kernel
theorem dX9_ill_13 : decode cX9_ill 13 = .ok (.invokevirtual 169, 3) := by decide +kernel
theorem dX9_ill_16 : decode cX9_ill 16 = .ok (.iload_n 2, 1) := by decide +kernel
theorem dX9_ill_17 : decode cX9_ill 17 = .ok (.if_icmp .ne 15, 3) := by decide +kernel
theorem dX9_ill_20 : decode cX9_ill 20 = .ok (.aload_n 0, 1) := by decide +kernel
theorem dX9_ill_21 : decode cX9_ill 21 = .ok (.getfield 33, 3) := by decide +kernel
theorem dX9_ill_24 : decode cX9_ill 24 = .ok (.iconst 1, 1) := by decide +kernel
theorem dX9_ill_25 : decode cX9_ill 25 = .ok (.dup2, 1) := by decide +kernel
theorem dX9_ill_26 : decode cX9_ill 26 = .ok (.iaload, 1) := by decide +kernel
theorem dX9_ill_27 : decode cX9_ill 27 = .ok (.iconst 1, 1) := by decide +kernel
theorem dX9_ill_28 : decode cX9_ill 28 = .ok (.iadd, 1) := by decide +kernel
theorem dX9_ill_29 : decode cX9_ill 29 = .ok (.iastore, 1) := by decide +kernel
theorem dX9_ill_30 : decode cX9_ill 30 = .ok (.iconst 0, 1) := by decide +kernel
theorem dX9_ill_31 : decode cX9_ill 31 = .ok (.ireturn, 1) := by decide +kernel
theorem dX9_ill_32 : decode cX9_ill 32 = .ok (.aload_n 0, 1) := by decide +kernel
theorem dX9_ill_33 : decode cX9_ill 33 = .ok (.getfield 19, 3) := by decide +kernel
theorem dX9_ill_36 : decode cX9_ill 36 = .ok (.getfield 126, 3) := by decide +kernel
theorem dX9_ill_39 : decode cX9_ill 39 = .ok (.aload_n 0, 1) := by decide +kernel
theorem dX9_ill_40 : decode cX9_ill 40 = .ok (.getfield 19, 3) := by decide +kernel
theorem dX9_ill_43 : decode cX9_ill 43 = .ok (.getfield 108, 3) := by decide +kernel
theorem dX9_ill_46 : decode cX9_ill 46 = .ok (.invokevirtual 189, 3) := by decide +kernel
theorem dX9_ill_49 : decode cX9_ill 49 = .ok (.aload_n 0, 1) := by decide +kernel
theorem dX9_ill_50 : decode cX9_ill 50 = .ok (.getfield 19, 3) := by decide +kernel
theorem dX9_ill_53 : decode cX9_ill 53 = .ok (.getfield 108, 3) := by decide +kernel
theorem dX9_ill_56 : decode cX9_ill 56 = .ok (.iload_n 1, 1) := by decide +kernel
theorem dX9_ill_57 : decode cX9_ill 57 = .ok (.invokevirtual 208, 3) := by decide +kernel
theorem dX9_ill_60 : decode cX9_ill 60 = .ok (.iconst 1, 1) := by decide +kernel
theorem dX9_ill_61 : decode cX9_ill 61 = .ok (.ireturn, 1) := by decide +kernel
theorem dX9_appoint_0 : decode cX9_appoint 0 = .ok (.aload_n 0, 1) := by decide +kernel
theorem dX9_appoint_1 : decode cX9_appoint 1 = .ok (.iload_n 1, 1) := by decide +kernel
theorem dX9_appoint_2 : decode cX9_appoint 2 = .ok (.invokevirtual 147, 3) := by decide +kernel
theorem dX9_appoint_5 : decode cX9_appoint 5 = .ok (.aload_n 0, 1) := by decide +kernel
theorem dX9_appoint_6 : decode cX9_appoint 6 = .ok (.getfield 19, 3) := by decide +kernel
theorem dX9_appoint_9 : decode cX9_appoint 9 = .ok (.getfield 108, 3) := by decide +kernel
theorem dX9_appoint_12 : decode cX9_appoint 12 = .ok (.invokevirtual 116, 3) := by decide +kernel
theorem dX9_appoint_15 : decode cX9_appoint 15 = .ok (.istore_n 2, 1) := by decide +kernel
theorem dX9_appoint_16 : decode cX9_appoint 16 = .ok (.iload_n 2, 1) := by decide +kernel
theorem dX9_appoint_17 : decode cX9_appoint 17 = .ok (.iload_n 1, 1) := by decide +kernel
theorem dX9_appoint_18 : decode cX9_appoint 18 = .ok (.if_icmp .eq 30, 3) := by decide +kernel
theorem dX9_appoint_21 : decode cX9_appoint 21 = .ok (.aload_n 0, 1) := by decide +kernel
theorem dX9_appoint_22 : decode cX9_appoint 22 = .ok (.getfield 55, 3) := by decide +kernel
theorem dX9_appoint_25 : decode cX9_appoint 25 = .ok (.getfield 166, 3) := by decide +kernel
theorem dX9_appoint_28 : decode cX9_appoint 28 = .ok (.iload_n 1, 1) := by decide +kernel
theorem dX9_appoint_29 : decode cX9_appoint 29 = .ok (.iaload, 1) := by decide +kernel
theorem dX9_appoint_30 : decode cX9_appoint 30 = .ok (.iconst 2, 1) := by decide +kernel
theorem dX9_appoint_31 : decode cX9_appoint 31 = .ok (.if_icmp .eq 17, 3) := by decide +kernel
theorem dX9_appoint_34 : decode cX9_appoint 34 = .ok (.aload_n 0, 1) := by decide +kernel
theorem dX9_appoint_35 : decode cX9_appoint 35 = .ok (.getfield 19, 3) := by decide +kernel
theorem dX9_appoint_38 : decode cX9_appoint 38 = .ok (.getfield 108, 3) := by decide +kernel
theorem dX9_appoint_41 : decode cX9_appoint 41 = .ok (.iload_n 1, 1) := by decide +kernel
theorem dX9_appoint_42 : decode cX9_appoint 42 = .ok (.invokevirtual 169, 3) := by decide +kernel
theorem dX9_appoint_45 : decode cX9_appoint 45 = .ok (.ifCond .eq 16, 3) := by decide +kernel
theorem dX9_appoint_48 : decode cX9_appoint 48 = .ok (.aload_n 0, 1) := by decide +kernel
theorem dX9_appoint_49 : decode cX9_appoint 49 = .ok (.getfield 33, 3) := by decide +kernel
theorem dX9_appoint_52 : decode cX9_appoint 52 = .ok (.iconst 1, 1) := by decide +kernel
theorem dX9_appoint_53 : decode cX9_appoint 53 = .ok (.dup2, 1) := by decide +kernel
theorem dX9_appoint_54 : decode cX9_appoint 54 = .ok (.iaload, 1) := by decide +kernel
theorem dX9_appoint_55 : decode cX9_appoint 55 = .ok (.iconst 1, 1) := by decide +kernel
theorem dX9_appoint_56 : decode cX9_appoint 56 = .ok (.iadd, 1) := by decide +kernel
theorem dX9_appoint_57 : decode cX9_appoint 57 = .ok (.iastore, 1) := by decide +kernel
theorem dX9_appoint_58 : decode cX9_appoint 58 = .ok (.bipush (-2), 2) := by decide +kernel
theorem dX9_appoint_60 : decode cX9_appoint 60 = .ok (.ireturn, 1) := by decide +kernel
theorem dX9_appoint_61 : decode cX9_appoint 61 = .ok (.aload_n 0, 1) := by decide +kernel
theorem dX9_appoint_62 : decode cX9_appoint 62 = .ok (.getfield 19, 3) := by decide +kernel
theorem dX9_appoint_65 : decode cX9_appoint 65 = .ok (.getfield 126, 3) := by decide +kernel
theorem dX9_appoint_68 : decode cX9_appoint 68 = .ok (.aload_n 0, 1) := by decide +kernel
theorem dX9_appoint_69 : decode cX9_appoint 69 = .ok (.getfield 19, 3) := by decide +kernel
theorem dX9_appoint_72 : decode cX9_appoint 72 = .ok (.getfield 108, 3) := by decide +kernel
theorem dX9_appoint_75 : decode cX9_appoint 75 = .ok (.invokevirtual 189, 3) := by decide +kernel
theorem dX9_appoint_78 : decode cX9_appoint 78 = .ok (.aload_n 0, 1) := by decide +kernel
theorem dX9_appoint_79 : decode cX9_appoint 79 = .ok (.getfield 19, 3) := by decide +kernel
theorem dX9_appoint_82 : decode cX9_appoint 82 = .ok (.getfield 108, 3) := by decide +kernel
theorem dX9_appoint_85 : decode cX9_appoint 85 = .ok (.iload_n 1, 1) := by decide +kernel
theorem dX9_appoint_86 : decode cX9_appoint 86 = .ok (.invokevirtual 211, 3) := by decide +kernel
theorem dX9_appoint_89 : decode cX9_appoint 89 = .ok (.iload_n 2, 1) := by decide +kernel
theorem dX9_appoint_90 : decode cX9_appoint 90 = .ok (.ireturn, 1) := by decide +kernel
theorem dX9_due_0 : decode cX9_due 0 = .ok (.aload_n 0, 1) := by decide +kernel
theorem dX9_due_1 : decode cX9_due 1 = .ok (.iload_n 1, 1) := by decide +kernel
theorem dX9_due_2 : decode cX9_due 2 = .ok (.invokevirtual 175, 3) := by decide +kernel
theorem dX9_due_5 : decode cX9_due 5 = .ok (.iload_n 2, 1) := by decide +kernel
theorem dX9_due_6 : decode cX9_due 6 = .ok (.ifCond .lt 10, 3) := by decide +kernel
theorem dX9_due_9 : decode cX9_due 9 = .ok (.iload_n 2, 1) := by decide +kernel
theorem dX9_due_10 : decode cX9_due 10 = .ok (.sipush 999, 3) := by decide +kernel
theorem dX9_due_13 : decode cX9_due 13 = .ok (.if_icmp .le 15, 3) := by decide +kernel
theorem dX9_due_16 : decode cX9_due 16 = .ok (.aload_n 0, 1) := by decide +kernel
theorem dX9_due_17 : decode cX9_due 17 = .ok (.getfield 33, 3) := by decide +kernel
theorem dX9_due_20 : decode cX9_due 20 = .ok (.iconst 1, 1) := by decide +kernel
theorem dX9_due_21 : decode cX9_due 21 = .ok (.dup2, 1) := by decide +kernel
theorem dX9_due_22 : decode cX9_due 22 = .ok (.iaload, 1) := by decide +kernel
theorem dX9_due_23 : decode cX9_due 23 = .ok (.iconst 1, 1) := by decide +kernel
theorem dX9_due_24 : decode cX9_due 24 = .ok (.iadd, 1) := by decide +kernel
theorem dX9_due_25 : decode cX9_due 25 = .ok (.iastore, 1) := by decide +kernel
theorem dX9_due_26 : decode cX9_due 26 = .ok (.iconst (-1), 1) := by decide +kernel
theorem dX9_due_27 : decode cX9_due 27 = .ok (.ireturn, 1) := by decide +kernel
theorem dX9_due_28 : decode cX9_due 28 = .ok (.aload_n 0, 1) := by decide +kernel
theorem dX9_due_29 : decode cX9_due 29 = .ok (.getfield 19, 3) := by decide +kernel
theorem dX9_due_32 : decode cX9_due 32 = .ok (.getfield 108, 3) := by decide +kernel
theorem dX9_due_35 : decode cX9_due 35 = .ok (.iload_n 1, 1) := by decide +kernel
theorem dX9_due_36 : decode cX9_due 36 = .ok (.invokevirtual 178, 3) := by decide +kernel
theorem dX9_due_39 : decode cX9_due 39 = .ok (.istore_n 3, 1) := by decide +kernel
theorem dX9_due_40 : decode cX9_due 40 = .ok (.aload_n 0, 1) := by decide +kernel
theorem dX9_due_41 : decode cX9_due 41 = .ok (.getfield 19, 3) := by decide +kernel
theorem dX9_due_44 : decode cX9_due 44 = .ok (.getfield 126, 3) := by decide +kernel
theorem dX9_due_47 : decode cX9_due 47 = .ok (.aload_n 0, 1) := by decide +kernel
theorem dX9_due_48 : decode cX9_due 48 = .ok (.getfield 19, 3) := by decide +kernel
theorem dX9_due_51 : decode cX9_due 51 = .ok (.getfield 108, 3) := by decide +kernel
theorem dX9_due_54 : decode cX9_due 54 = .ok (.invokevirtual 189, 3) := by decide +kernel
theorem dX9_due_57 : decode cX9_due 57 = .ok (.aload_n 0, 1) := by decide +kernel
theorem dX9_due_58 : decode cX9_due 58 = .ok (.getfield 19, 3) := by decide +kernel
theorem dX9_due_61 : decode cX9_due 61 = .ok (.getfield 108, 3) := by decide +kernel
theorem dX9_due_64 : decode cX9_due 64 = .ok (.iload_n 1, 1) := by decide +kernel
theorem dX9_due_65 : decode cX9_due 65 = .ok (.iload_n 2, 1) := by decide +kernel
theorem dX9_due_66 : decode cX9_due 66 = .ok (.invokevirtual 214, 3) := by decide +kernel
theorem dX9_due_69 : decode cX9_due 69 = .ok (.iload_n 3, 1) := by decide +kernel
theorem dX9_due_70 : decode cX9_due 70 = .ok (.ireturn, 1) := by decide +kernel
theorem dX9_undo_0 : decode cX9_undo 0 = .ok (.aload_n 0, 1) := by decide +kernel
theorem dX9_undo_1 : decode cX9_undo 1 = .ok (.getfield 19, 3) := by decide +kernel
theorem dX9_undo_4 : decode cX9_undo 4 = .ok (.getfield 126, 3) := by decide +kernel
theorem dX9_undo_7 : decode cX9_undo 7 = .ok (.aload_n 0, 1) := by decide +kernel
theorem dX9_undo_8 : decode cX9_undo 8 = .ok (.getfield 19, 3) := by decide +kernel
theorem dX9_undo_11 : decode cX9_undo 11 = .ok (.getfield 108, 3) := by decide +kernel
theorem dX9_undo_14 : decode cX9_undo 14 = .ok (.invokevirtual 217, 3) := by decide +kernel
theorem dX9_undo_17 : decode cX9_undo 17 = .ok (.ifCond .eq 16, 3) := by decide +kernel
theorem dX9_undo_20 : decode cX9_undo 20 = .ok (.aload_n 0, 1) := by decide +kernel
theorem dX9_undo_21 : decode cX9_undo 21 = .ok (.getfield 19, 3) := by decide +kernel
theorem dX9_undo_24 : decode cX9_undo 24 = .ok (.getfield 126, 3) := by decide +kernel
theorem dX9_undo_27 : decode cX9_undo 27 = .ok (.getfield 130, 3) := by decide +kernel
theorem dX9_undo_30 : decode cX9_undo 30 = .ok (.goto 4, 3) := by decide +kernel
theorem dX9_undo_33 : decode cX9_undo 33 = .ok (.iconst (-1), 1) := by decide +kernel
theorem dX9_undo_34 : decode cX9_undo 34 = .ok (.ireturn, 1) := by decide +kernel
theorem dX9_then_0 : decode cX9_then 0 = .ok (.aload_n 0, 1) := by decide +kernel
theorem dX9_then_1 : decode cX9_then 1 = .ok (.iload_n 1, 1) := by decide +kernel
theorem dX9_then_2 : decode cX9_then 2 = .ok (.invokevirtual 175, 3) := by decide +kernel
theorem dX9_then_5 : decode cX9_then 5 = .ok (.iload_n 3, 1) := by decide +kernel
theorem dX9_then_6 : decode cX9_then 6 = .ok (.iconst 1, 1) := by decide +kernel
theorem dX9_then_7 : decode cX9_then 7 = .ok (.invokestatic 221, 3) := by decide +kernel
theorem dX9_then_10 : decode cX9_then 10 = .ok (.iload_n 2, 1) := by decide +kernel
theorem dX9_then_11 : decode cX9_then 11 = .ok (.iconst 1, 1) := by decide +kernel
theorem dX9_then_12 : decode cX9_then 12 = .ok (.bipush 40, 2) := by decide +kernel
theorem dX9_then_14 : decode cX9_then 14 = .ok (.invokestatic 224, 3) := by decide +kernel
theorem dX9_then_17 : decode cX9_then 17 = .ok (.aload_n 0, 1) := by decide +kernel
theorem dX9_then_18 : decode cX9_then 18 = .ok (.invokevirtual 193, 3) := by decide +kernel
theorem dX9_then_21 : decode cX9_then 21 = .ok (.astore 4, 2) := by decide +kernel
theorem dX9_then_23 : decode cX9_then 23 = .ok (.aload 4, 2) := by decide +kernel
theorem dX9_then_25 : decode cX9_then 25 = .ok (.iload_n 2, 1) := by decide +kernel
theorem dX9_then_26 : decode cX9_then 26 = .ok (.invokevirtual 197, 3) := by decide +kernel
theorem dX9_then_29 : decode cX9_then 29 = .ok (.iload_n 3, 1) := by decide +kernel
theorem dX9_then_30 : decode cX9_then 30 = .ok (.ifCond .ne 23, 3) := by decide +kernel
theorem dX9_then_33 : decode cX9_then 33 = .ok (.aload 4, 2) := by decide +kernel
theorem dX9_then_35 : decode cX9_then 35 = .ok (.getfield 200, 3) := by decide +kernel
theorem dX9_then_38 : decode cX9_then 38 = .ok (.iload_n 1, 1) := by decide +kernel
theorem dX9_then_39 : decode cX9_then 39 = .ok (.invokevirtual 178, 3) := by decide +kernel
theorem dX9_then_42 : decode cX9_then 42 = .ok (.aload 4, 2) := by decide +kernel
theorem dX9_then_44 : decode cX9_then 44 = .ok (.getfield 228, 3) := by decide +kernel
theorem dX9_then_47 : decode cX9_then 47 = .ok (.iload_n 1, 1) := by decide +kernel
theorem dX9_then_48 : decode cX9_then 48 = .ok (.iaload, 1) := by decide +kernel
theorem dX9_then_49 : decode cX9_then 49 = .ok (.iadd, 1) := by decide +kernel
theorem dX9_then_50 : decode cX9_then 50 = .ok (.goto 10, 3) := by decide +kernel
theorem dX9_then_53 : decode cX9_then 53 = .ok (.aload 4, 2) := by decide +kernel
theorem dX9_then_55 : decode cX9_then 55 = .ok (.getfield 231, 3) := by decide +kernel
theorem dX9_then_58 : decode cX9_then 58 = .ok (.iload_n 1, 1) := by decide +kernel
theorem dX9_then_59 : decode cX9_then 59 = .ok (.iaload, 1) := by decide +kernel
theorem dX9_then_60 : decode cX9_then 60 = .ok (.ireturn, 1) := by decide +kernel
theorem dX9_later_0 : decode cX9_later 0 = .ok (.aload_n 0, 1) := by decide +kernel
theorem dX9_later_1 : decode cX9_later 1 = .ok (.iload_n 1, 1) := by decide +kernel
theorem dX9_later_2 : decode cX9_later 2 = .ok (.invokevirtual 147, 3) := by decide +kernel
theorem dX9_later_5 : decode cX9_later 5 = .ok (.iload_n 3, 1) := by decide +kernel
theorem dX9_later_6 : decode cX9_later 6 = .ok (.iconst 1, 1) := by decide +kernel
theorem dX9_later_7 : decode cX9_later 7 = .ok (.invokestatic 221, 3) := by decide +kernel
theorem dX9_later_10 : decode cX9_later 10 = .ok (.iload_n 2, 1) := by decide +kernel
theorem dX9_later_11 : decode cX9_later 11 = .ok (.iconst 0, 1) := by decide +kernel
theorem dX9_later_12 : decode cX9_later 12 = .ok (.bipush 40, 2) := by decide +kernel
theorem dX9_later_14 : decode cX9_later 14 = .ok (.invokestatic 224, 3) := by decide +kernel
theorem dX9_later_17 : decode cX9_later 17 = .ok (.aload_n 0, 1) := by decide +kernel
theorem dX9_later_18 : decode cX9_later 18 = .ok (.invokevirtual 193, 3) := by decide +kernel
theorem dX9_later_21 : decode cX9_later 21 = .ok (.astore 4, 2) := by decide +kernel
theorem dX9_later_23 : decode cX9_later 23 = .ok (.aload 4, 2) := by decide +kernel
theorem dX9_later_25 : decode cX9_later 25 = .ok (.iload_n 2, 1) := by decide +kernel
theorem dX9_later_26 : decode cX9_later 26 = .ok (.invokevirtual 197, 3) := by decide +kernel
theorem dX9_later_29 : decode cX9_later 29 = .ok (.iload_n 3, 1) := by decide +kernel
theorem dX9_later_30 : decode cX9_later 30 = .ok (.ifCond .ne 15, 3) := by decide +kernel
theorem dX9_later_33 : decode cX9_later 33 = .ok (.aload 4, 2) := by decide +kernel
theorem dX9_later_35 : decode cX9_later 35 = .ok (.getfield 200, 3) := by decide +kernel
theorem dX9_later_38 : decode cX9_later 38 = .ok (.iload_n 1, 1) := by decide +kernel
theorem dX9_later_39 : decode cX9_later 39 = .ok (.invokevirtual 153, 3) := by decide +kernel
theorem dX9_later_42 : decode cX9_later 42 = .ok (.goto 12, 3) := by decide +kernel
theorem dX9_later_45 : decode cX9_later 45 = .ok (.aload 4, 2) := by decide +kernel
theorem dX9_later_47 : decode cX9_later 47 = .ok (.getfield 200, 3) := by decide +kernel
theorem dX9_later_50 : decode cX9_later 50 = .ok (.iload_n 1, 1) := by decide +kernel
theorem dX9_later_51 : decode cX9_later 51 = .ok (.invokevirtual 163, 3) := by decide +kernel
theorem dX9_later_54 : decode cX9_later 54 = .ok (.ireturn, 1) := by decide +kernel
theorem dX9_first_0 : decode cX9_first 0 = .ok (.aload_n 0, 1) := by decide +kernel
theorem dX9_first_1 : decode cX9_first 1 = .ok (.iload_n 1, 1) := by decide +kernel
theorem dX9_first_2 : decode cX9_first 2 = .ok (.invokevirtual 147, 3) := by decide +kernel
theorem dX9_first_5 : decode cX9_first 5 = .ok (.aload_n 0, 1) := by decide +kernel
theorem dX9_first_6 : decode cX9_first 6 = .ok (.invokevirtual 193, 3) := by decide +kernel
theorem dX9_first_9 : decode cX9_first 9 = .ok (.astore_n 2, 1) := by decide +kernel
theorem dX9_first_10 : decode cX9_first 10 = .ok (.iconst 1, 1) := by decide +kernel
theorem dX9_first_11 : decode cX9_first 11 = .ok (.istore_n 3, 1) := by decide +kernel
theorem dX9_first_12 : decode cX9_first 12 = .ok (.iload_n 3, 1) := by decide +kernel
theorem dX9_first_13 : decode cX9_first 13 = .ok (.bipush 40, 2) := by decide +kernel
theorem dX9_first_15 : decode cX9_first 15 = .ok (.if_icmp .gt 23, 3) := by decide +kernel
theorem dX9_first_18 : decode cX9_first 18 = .ok (.aload_n 2, 1) := by decide +kernel
theorem dX9_first_19 : decode cX9_first 19 = .ok (.invokevirtual 234, 3) := by decide +kernel
theorem dX9_first_22 : decode cX9_first 22 = .ok (.aload_n 2, 1) := by decide +kernel
theorem dX9_first_23 : decode cX9_first 23 = .ok (.iload_n 1, 1) := by decide +kernel
theorem dX9_first_24 : decode cX9_first 24 = .ok (.invokevirtual 237, 3) := by decide +kernel
theorem dX9_first_27 : decode cX9_first 27 = .ok (.ifCond .eq 5, 3) := by decide +kernel
theorem dX9_first_30 : decode cX9_first 30 = .ok (.iload_n 3, 1) := by decide +kernel
theorem dX9_first_31 : decode cX9_first 31 = .ok (.ireturn, 1) := by decide +kernel
theorem dX9_first_32 : decode cX9_first 32 = .ok (.iinc 3 1, 3) := by decide +kernel
theorem dX9_first_35 : decode cX9_first 35 = .ok (.goto (-23), 3) := by decide +kernel
theorem dX9_first_38 : decode cX9_first 38 = .ok (.iconst (-1), 1) := by decide +kernel
theorem dX9_first_39 : decode cX9_first 39 = .ok (.ireturn, 1) := by decide +kernel
theorem dX9_worst_0 : decode cX9_worst 0 = .ok (.iload_n 1, 1) := by decide +kernel
theorem dX9_worst_1 : decode cX9_worst 1 = .ok (.iconst 1, 1) := by decide +kernel
theorem dX9_worst_2 : decode cX9_worst 2 = .ok (.bipush 40, 2) := by decide +kernel
theorem dX9_worst_4 : decode cX9_worst 4 = .ok (.invokestatic 224, 3) := by decide +kernel
theorem dX9_worst_7 : decode cX9_worst 7 = .ok (.aload_n 0, 1) := by decide +kernel
theorem dX9_worst_8 : decode cX9_worst 8 = .ok (.invokevirtual 193, 3) := by decide +kernel
theorem dX9_worst_11 : decode cX9_worst 11 = .ok (.astore_n 2, 1) := by decide +kernel
theorem dX9_worst_12 : decode cX9_worst 12 = .ok (.aload_n 2, 1) := by decide +kernel
theorem dX9_worst_13 : decode cX9_worst 13 = .ok (.iload_n 1, 1) := by decide +kernel
theorem dX9_worst_14 : decode cX9_worst 14 = .ok (.invokevirtual 197, 3) := by decide +kernel
theorem dX9_worst_17 : decode cX9_worst 17 = .ok (.iconst (-1), 1) := by decide +kernel
theorem dX9_worst_18 : decode cX9_worst 18 = .ok (.istore_n 3, 1) := by decide +kernel
theorem dX9_worst_19 : decode cX9_worst 19 = .ok (.iconst 0, 1) := by decide +kernel
theorem dX9_worst_20 : decode cX9_worst 20 = .ok (.istore 4, 2) := by decide +kernel
theorem dX9_worst_22 : decode cX9_worst 22 = .ok (.iload 4, 2) := by decide +kernel
theorem dX9_worst_24 : decode cX9_worst 24 = .ok (.aload_n 0, 1) := by decide +kernel
theorem dX9_worst_25 : decode cX9_worst 25 = .ok (.getfield 55, 3) := by decide +kernel
theorem dX9_worst_28 : decode cX9_worst 28 = .ok (.getfield 102, 3) := by decide +kernel
theorem dX9_worst_31 : decode cX9_worst 31 = .ok (.if_icmp .ge 33, 3) := by decide +kernel
theorem dX9_worst_34 : decode cX9_worst 34 = .ok (.iload_n 3, 1) := by decide +kernel
theorem dX9_worst_35 : decode cX9_worst 35 = .ok (.iconst (-1), 1) := by decide +kernel
theorem dX9_worst_36 : decode cX9_worst 36 = .ok (.if_icmp .eq 19, 3) := by decide +kernel
theorem dX9_worst_39 : decode cX9_worst 39 = .ok (.aload_n 2, 1) := by decide +kernel
theorem dX9_worst_40 : decode cX9_worst 40 = .ok (.getfield 228, 3) := by decide +kernel
theorem dX9_worst_43 : decode cX9_worst 43 = .ok (.iload 4, 2) := by decide +kernel
theorem dX9_worst_45 : decode cX9_worst 45 = .ok (.iaload, 1) := by decide +kernel
theorem dX9_worst_46 : decode cX9_worst 46 = .ok (.aload_n 2, 1) := by decide +kernel
theorem dX9_worst_47 : decode cX9_worst 47 = .ok (.getfield 228, 3) := by decide +kernel
theorem dX9_worst_50 : decode cX9_worst 50 = .ok (.iload_n 3, 1) := by decide +kernel
theorem dX9_worst_51 : decode cX9_worst 51 = .ok (.iaload, 1) := by decide +kernel
theorem dX9_worst_52 : decode cX9_worst 52 = .ok (.if_icmp .le 6, 3) := by decide +kernel
theorem dX9_worst_55 : decode cX9_worst 55 = .ok (.iload 4, 2) := by decide +kernel
theorem dX9_worst_57 : decode cX9_worst 57 = .ok (.istore_n 3, 1) := by decide +kernel
theorem dX9_worst_58 : decode cX9_worst 58 = .ok (.iinc 4 1, 3) := by decide +kernel
theorem dX9_worst_61 : decode cX9_worst 61 = .ok (.goto (-39), 3) := by decide +kernel
theorem dX9_worst_64 : decode cX9_worst 64 = .ok (.iload_n 3, 1) := by decide +kernel
theorem dX9_worst_65 : decode cX9_worst 65 = .ok (.ireturn, 1) := by decide +kernel
theorem dX9_idle_0 : decode cX9_idle 0 = .ok (.iload_n 1, 1) := by decide +kernel
theorem dX9_idle_1 : decode cX9_idle 1 = .ok (.iconst 0, 1) := by decide +kernel
theorem dX9_idle_2 : decode cX9_idle 2 = .ok (.bipush 40, 2) := by decide +kernel
theorem dX9_idle_4 : decode cX9_idle 4 = .ok (.invokestatic 224, 3) := by decide +kernel
theorem dX9_idle_7 : decode cX9_idle 7 = .ok (.aload_n 0, 1) := by decide +kernel
theorem dX9_idle_8 : decode cX9_idle 8 = .ok (.invokevirtual 193, 3) := by decide +kernel
theorem dX9_idle_11 : decode cX9_idle 11 = .ok (.astore_n 2, 1) := by decide +kernel
theorem dX9_idle_12 : decode cX9_idle 12 = .ok (.aload_n 2, 1) := by decide +kernel
theorem dX9_idle_13 : decode cX9_idle 13 = .ok (.iload_n 1, 1) := by decide +kernel
theorem dX9_idle_14 : decode cX9_idle 14 = .ok (.invokevirtual 197, 3) := by decide +kernel
theorem dX9_idle_17 : decode cX9_idle 17 = .ok (.iconst 0, 1) := by decide +kernel
theorem dX9_idle_18 : decode cX9_idle 18 = .ok (.istore_n 3, 1) := by decide +kernel
theorem dX9_idle_19 : decode cX9_idle 19 = .ok (.iconst 0, 1) := by decide +kernel
theorem dX9_idle_20 : decode cX9_idle 20 = .ok (.istore 4, 2) := by decide +kernel
theorem dX9_idle_22 : decode cX9_idle 22 = .ok (.iload 4, 2) := by decide +kernel
theorem dX9_idle_24 : decode cX9_idle 24 = .ok (.aload_n 0, 1) := by decide +kernel
theorem dX9_idle_25 : decode cX9_idle 25 = .ok (.getfield 55, 3) := by decide +kernel
theorem dX9_idle_28 : decode cX9_idle 28 = .ok (.getfield 99, 3) := by decide +kernel
theorem dX9_idle_31 : decode cX9_idle 31 = .ok (.if_icmp .ge 26, 3) := by decide +kernel
theorem dX9_idle_34 : decode cX9_idle 34 = .ok (.aload_n 2, 1) := by decide +kernel
theorem dX9_idle_35 : decode cX9_idle 35 = .ok (.getfield 240, 3) := by decide +kernel
theorem dX9_idle_38 : decode cX9_idle 38 = .ok (.iload 4, 2) := by decide +kernel
theorem dX9_idle_40 : decode cX9_idle 40 = .ok (.iaload, 1) := by decide +kernel
theorem dX9_idle_41 : decode cX9_idle 41 = .ok (.ifCond .ne 10, 3) := by decide +kernel
theorem dX9_idle_44 : decode cX9_idle 44 = .ok (.iload_n 3, 1) := by decide +kernel
theorem dX9_idle_45 : decode cX9_idle 45 = .ok (.iconst 1, 1) := by decide +kernel
theorem dX9_idle_46 : decode cX9_idle 46 = .ok (.iload 4, 2) := by decide +kernel
theorem dX9_idle_48 : decode cX9_idle 48 = .ok (.ishl, 1) := by decide +kernel
theorem dX9_idle_49 : decode cX9_idle 49 = .ok (.ior, 1) := by decide +kernel
theorem dX9_idle_50 : decode cX9_idle 50 = .ok (.istore_n 3, 1) := by decide +kernel
theorem dX9_idle_51 : decode cX9_idle 51 = .ok (.iinc 4 1, 3) := by decide +kernel
theorem dX9_idle_54 : decode cX9_idle 54 = .ok (.goto (-32), 3) := by decide +kernel
theorem dX9_idle_57 : decode cX9_idle 57 = .ok (.iload_n 3, 1) := by decide +kernel
theorem dX9_idle_58 : decode cX9_idle 58 = .ok (.ireturn, 1) := by decide +kernel
theorem dX9_round_0 : decode cX9_round 0 = .ok (.iload_n 1, 1) := by decide +kernel
theorem dX9_round_1 : decode cX9_round 1 = .ok (.iconst 1, 1) := by decide +kernel
theorem dX9_round_2 : decode cX9_round 2 = .ok (.invokestatic 221, 3) := by decide +kernel
theorem dX9_round_5 : decode cX9_round 5 = .ok (.aload_n 0, 1) := by decide +kernel
theorem dX9_round_6 : decode cX9_round 6 = .ok (.invokevirtual 193, 3) := by decide +kernel
theorem dX9_round_9 : decode cX9_round 9 = .ok (.astore_n 2, 1) := by decide +kernel
theorem dX9_round_10 : decode cX9_round 10 = .ok (.iconst 0, 1) := by decide +kernel
theorem dX9_round_11 : decode cX9_round 11 = .ok (.istore_n 3, 1) := by decide +kernel
theorem dX9_round_12 : decode cX9_round 12 = .ok (.iload_n 3, 1) := by decide +kernel
theorem dX9_round_13 : decode cX9_round 13 = .ok (.bipush 40, 2) := by decide +kernel
theorem dX9_round_15 : decode cX9_round 15 = .ok (.if_icmp .gt 65, 3) := by decide +kernel
theorem dX9_round_18 : decode cX9_round 18 = .ok (.iload_n 3, 1) := by decide +kernel
theorem dX9_round_19 : decode cX9_round 19 = .ok (.ifCond .le 7, 3) := by decide +kernel
theorem dX9_round_22 : decode cX9_round 22 = .ok (.aload_n 2, 1) := by decide +kernel
theorem dX9_round_23 : decode cX9_round 23 = .ok (.invokevirtual 234, 3) := by decide +kernel
theorem dX9_round_26 : decode cX9_round 26 = .ok (.aload_n 2, 1) := by decide +kernel
theorem dX9_round_27 : decode cX9_round 27 = .ok (.getfield 200, 3) := by decide +kernel
theorem dX9_round_30 : decode cX9_round 30 = .ok (.aload_n 0, 1) := by decide +kernel
theorem dX9_round_31 : decode cX9_round 31 = .ok (.getfield 39, 3) := by decide +kernel
theorem dX9_round_34 : decode cX9_round 34 = .ok (.iload_n 3, 1) := by decide +kernel
theorem dX9_round_35 : decode cX9_round 35 = .ok (.invokevirtual 243, 3) := by decide +kernel
theorem dX9_round_38 : decode cX9_round 38 = .ok (.iconst 0, 1) := by decide +kernel
theorem dX9_round_39 : decode cX9_round 39 = .ok (.istore 4, 2) := by decide +kernel
theorem dX9_round_41 : decode cX9_round 41 = .ok (.iload 4, 2) := by decide +kernel
theorem dX9_round_43 : decode cX9_round 43 = .ok (.iload_n 3, 1) := by decide +kernel
theorem dX9_round_44 : decode cX9_round 44 = .ok (.if_icmp .ge 30, 3) := by decide +kernel
theorem dX9_round_47 : decode cX9_round 47 = .ok (.aload_n 0, 1) := by decide +kernel
theorem dX9_round_48 : decode cX9_round 48 = .ok (.iload 4, 2) := by decide +kernel
theorem dX9_round_50 : decode cX9_round 50 = .ok (.iload_n 3, 1) := by decide +kernel
theorem dX9_round_51 : decode cX9_round 51 = .ok (.invokevirtual 247, 3) := by decide +kernel
theorem dX9_round_54 : decode cX9_round 54 = .ok (.ifCond .eq 14, 3) := by decide +kernel
theorem dX9_round_57 : decode cX9_round 57 = .ok (.iload_n 1, 1) := by decide +kernel
theorem dX9_round_58 : decode cX9_round 58 = .ok (.ifCond .ne 7, 3) := by decide +kernel
theorem dX9_round_61 : decode cX9_round 61 = .ok (.iload_n 3, 1) := by decide +kernel
theorem dX9_round_62 : decode cX9_round 62 = .ok (.goto 5, 3) := by decide +kernel
theorem dX9_round_65 : decode cX9_round 65 = .ok (.iload 4, 2) := by decide +kernel
theorem dX9_round_67 : decode cX9_round 67 = .ok (.ireturn, 1) := by decide +kernel
theorem dX9_round_68 : decode cX9_round 68 = .ok (.iinc 4 1, 3) := by decide +kernel
theorem dX9_round_71 : decode cX9_round 71 = .ok (.goto (-30), 3) := by decide +kernel
theorem dX9_round_74 : decode cX9_round 74 = .ok (.iinc 3 1, 3) := by decide +kernel
theorem dX9_round_77 : decode cX9_round 77 = .ok (.goto (-65), 3) := by decide +kernel
theorem dX9_round_80 : decode cX9_round 80 = .ok (.iconst (-1), 1) := by decide +kernel
theorem dX9_round_81 : decode cX9_round 81 = .ok (.ireturn, 1) := by decide +kernel
theorem dX9_delay_0 : decode cX9_delay 0 = .ok (.aload_n 0, 1) := by decide +kernel
theorem dX9_delay_1 : decode cX9_delay 1 = .ok (.iload_n 1, 1) := by decide +kernel
theorem dX9_delay_2 : decode cX9_delay 2 = .ok (.invokevirtual 147, 3) := by decide +kernel
theorem dX9_delay_5 : decode cX9_delay 5 = .ok (.aload_n 0, 1) := by decide +kernel
theorem dX9_delay_6 : decode cX9_delay 6 = .ok (.iload_n 2, 1) := by decide +kernel
theorem dX9_delay_7 : decode cX9_delay 7 = .ok (.invokevirtual 175, 3) := by decide +kernel
theorem dX9_delay_10 : decode cX9_delay 10 = .ok (.aload_n 0, 1) := by decide +kernel
theorem dX9_delay_11 : decode cX9_delay 11 = .ok (.iload_n 2, 1) := by decide +kernel
theorem dX9_delay_12 : decode cX9_delay 12 = .ok (.invokevirtual 251, 3) := by decide +kernel
theorem dX9_delay_15 : decode cX9_delay 15 = .ok (.astore_n 3, 1) := by decide +kernel
theorem dX9_delay_16 : decode cX9_delay 16 = .ok (.aload_n 3, 1) := by decide +kernel
theorem dX9_delay_17 : decode cX9_delay 17 = .ok (.iload_n 1, 1) := by decide +kernel
theorem dX9_delay_18 : decode cX9_delay 18 = .ok (.invokevirtual 255, 3) := by decide +kernel
theorem dX9_delay_21 : decode cX9_delay 21 = .ok (.ifCond .ne 5, 3) := by decide +kernel
theorem dX9_delay_24 : decode cX9_delay 24 = .ok (.iconst (-1), 1) := by decide +kernel
theorem dX9_delay_25 : decode cX9_delay 25 = .ok (.ireturn, 1) := by decide +kernel
theorem dX9_delay_26 : decode cX9_delay 26 = .ok (.iconst 0, 1) := by decide +kernel
theorem dX9_delay_27 : decode cX9_delay 27 = .ok (.istore 4, 2) := by decide +kernel
theorem dX9_delay_29 : decode cX9_delay 29 = .ok (.iconst 0, 1) := by decide +kernel
theorem dX9_delay_30 : decode cX9_delay 30 = .ok (.istore 5, 2) := by decide +kernel
theorem dX9_delay_32 : decode cX9_delay 32 = .ok (.iload 5, 2) := by decide +kernel
theorem dX9_delay_34 : decode cX9_delay 34 = .ok (.aload_n 0, 1) := by decide +kernel
theorem dX9_delay_35 : decode cX9_delay 35 = .ok (.getfield 55, 3) := by decide +kernel
theorem dX9_delay_38 : decode cX9_delay 38 = .ok (.getfield 99, 3) := by decide +kernel
theorem dX9_delay_41 : decode cX9_delay 41 = .ok (.if_icmp .ge 65, 3) := by decide +kernel
theorem dX9_delay_44 : decode cX9_delay 44 = .ok (.iload 5, 2) := by decide +kernel
theorem dX9_delay_46 : decode cX9_delay 46 = .ok (.iload_n 1, 1) := by decide +kernel
theorem dX9_delay_47 : decode cX9_delay 47 = .ok (.if_icmp .eq 53, 3) := by decide +kernel
theorem dX9_delay_50 : decode cX9_delay 50 = .ok (.aload_n 3, 1) := by decide +kernel
theorem dX9_delay_51 : decode cX9_delay 51 = .ok (.iload 5, 2) := by decide +kernel
theorem dX9_delay_53 : decode cX9_delay 53 = .ok (.invokevirtual 255, 3) := by decide +kernel
theorem dX9_delay_56 : decode cX9_delay 56 = .ok (.ifCond .eq 44, 3) := by decide +kernel
theorem dX9_delay_59 : decode cX9_delay 59 = .ok (.aload_n 3, 1) := by decide +kernel
theorem dX9_delay_60 : decode cX9_delay 60 = .ok (.iload_n 1, 1) := by decide +kernel
theorem dX9_delay_61 : decode cX9_delay 61 = .ok (.iload 5, 2) := by decide +kernel
theorem dX9_delay_63 : decode cX9_delay 63 = .ok (.invokevirtual 258, 3) := by decide +kernel
theorem dX9_delay_66 : decode cX9_delay 66 = .ok (.ifCond .eq 7, 3) := by decide +kernel
theorem dX9_delay_69 : decode cX9_delay 69 = .ok (.iconst 0, 1) := by decide +kernel
theorem dX9_delay_70 : decode cX9_delay 70 = .ok (.goto 4, 3) := by decide +kernel
theorem dX9_delay_73 : decode cX9_delay 73 = .ok (.iconst 1, 1) := by decide +kernel
theorem dX9_delay_74 : decode cX9_delay 74 = .ok (.istore 6, 2) := by decide +kernel
theorem dX9_delay_76 : decode cX9_delay 76 = .ok (.iload 4, 2) := by decide +kernel
theorem dX9_delay_78 : decode cX9_delay 78 = .ok (.aload_n 3, 1) := by decide +kernel
theorem dX9_delay_79 : decode cX9_delay 79 = .ok (.getfield 261, 3) := by decide +kernel
theorem dX9_delay_82 : decode cX9_delay 82 = .ok (.iload 5, 2) := by decide +kernel
theorem dX9_delay_84 : decode cX9_delay 84 = .ok (.iaload, 1) := by decide +kernel
theorem dX9_delay_85 : decode cX9_delay 85 = .ok (.iload 6, 2) := by decide +kernel
theorem dX9_delay_87 : decode cX9_delay 87 = .ok (.iadd, 1) := by decide +kernel
theorem dX9_delay_88 : decode cX9_delay 88 = .ok (.aload_n 3, 1) := by decide +kernel
theorem dX9_delay_89 : decode cX9_delay 89 = .ok (.getfield 261, 3) := by decide +kernel
theorem dX9_delay_92 : decode cX9_delay 92 = .ok (.iload_n 1, 1) := by decide +kernel
theorem dX9_delay_93 : decode cX9_delay 93 = .ok (.iaload, 1) := by decide +kernel
theorem dX9_delay_94 : decode cX9_delay 94 = .ok (.isub, 1) := by decide +kernel
theorem dX9_delay_95 : decode cX9_delay 95 = .ok (.invokestatic 264, 3) := by decide +kernel
theorem dX9_delay_98 : decode cX9_delay 98 = .ok (.istore 4, 2) := by decide +kernel
theorem dX9_delay_100 : decode cX9_delay 100 = .ok (.iinc 5 1, 3) := by decide +kernel
theorem dX9_delay_103 : decode cX9_delay 103 = .ok (.goto (-71), 3) := by decide +kernel
theorem dX9_delay_106 : decode cX9_delay 106 = .ok (.iload 4, 2) := by decide +kernel
theorem dX9_delay_108 : decode cX9_delay 108 = .ok (.bipush 99, 2) := by decide +kernel
theorem dX9_delay_110 : decode cX9_delay 110 = .ok (.if_icmp .le 7, 3) := by decide +kernel
theorem dX9_delay_113 : decode cX9_delay 113 = .ok (.iconst (-1), 1) := by decide +kernel
theorem dX9_delay_114 : decode cX9_delay 114 = .ok (.goto 5, 3) := by decide +kernel
theorem dX9_delay_117 : decode cX9_delay 117 = .ok (.iload 4, 2) := by decide +kernel
theorem dX9_delay_119 : decode cX9_delay 119 = .ok (.ireturn, 1) := by decide +kernel
theorem dX9_club_0 : decode cX9_club 0 = .ok (.aload_n 0, 1) := by decide +kernel
theorem dX9_club_1 : decode cX9_club 1 = .ok (.iload_n 1, 1) := by decide +kernel
theorem dX9_club_2 : decode cX9_club 2 = .ok (.invokevirtual 175, 3) := by decide +kernel
theorem dX9_club_5 : decode cX9_club 5 = .ok (.iload_n 2, 1) := by decide +kernel
theorem dX9_club_6 : decode cX9_club 6 = .ok (.iconst 1, 1) := by decide +kernel
theorem dX9_club_7 : decode cX9_club 7 = .ok (.bipush 6, 2) := by decide +kernel
theorem dX9_club_9 : decode cX9_club 9 = .ok (.invokestatic 224, 3) := by decide +kernel
theorem dX9_club_12 : decode cX9_club 12 = .ok (.aload_n 0, 1) := by decide +kernel
theorem dX9_club_13 : decode cX9_club 13 = .ok (.iload_n 1, 1) := by decide +kernel
theorem dX9_club_14 : decode cX9_club 14 = .ok (.invokevirtual 251, 3) := by decide +kernel
theorem dX9_club_17 : decode cX9_club 17 = .ok (.astore_n 3, 1) := by decide +kernel
theorem dX9_club_18 : decode cX9_club 18 = .ok (.iconst 0, 1) := by decide +kernel
theorem dX9_club_19 : decode cX9_club 19 = .ok (.istore 4, 2) := by decide +kernel
theorem dX9_club_21 : decode cX9_club 21 = .ok (.iconst 0, 1) := by decide +kernel
theorem dX9_club_22 : decode cX9_club 22 = .ok (.istore 5, 2) := by decide +kernel
theorem dX9_club_24 : decode cX9_club 24 = .ok (.iload 5, 2) := by decide +kernel
theorem dX9_club_26 : decode cX9_club 26 = .ok (.iload_n 2, 1) := by decide +kernel
theorem dX9_club_27 : decode cX9_club 27 = .ok (.if_icmp .ge 34, 3) := by decide +kernel
theorem dX9_club_30 : decode cX9_club 30 = .ok (.aload_n 3, 1) := by decide +kernel
theorem dX9_club_31 : decode cX9_club 31 = .ok (.iload 4, 2) := by decide +kernel
theorem dX9_club_33 : decode cX9_club 33 = .ok (.invokevirtual 270, 3) := by decide +kernel
theorem dX9_club_36 : decode cX9_club 36 = .ok (.istore 6, 2) := by decide +kernel
theorem dX9_club_38 : decode cX9_club 38 = .ok (.iload 6, 2) := by decide +kernel
theorem dX9_club_40 : decode cX9_club 40 = .ok (.iconst (-1), 1) := by decide +kernel
theorem dX9_club_41 : decode cX9_club 41 = .ok (.if_icmp .ne 5, 3) := by decide +kernel
theorem dX9_club_44 : decode cX9_club 44 = .ok (.iconst (-1), 1) := by decide +kernel
theorem dX9_club_45 : decode cX9_club 45 = .ok (.ireturn, 1) := by decide +kernel
theorem dX9_club_46 : decode cX9_club 46 = .ok (.iload 4, 2) := by decide +kernel
theorem dX9_club_48 : decode cX9_club 48 = .ok (.iconst 1, 1) := by decide +kernel
theorem dX9_club_49 : decode cX9_club 49 = .ok (.iload 6, 2) := by decide +kernel
theorem dX9_club_51 : decode cX9_club 51 = .ok (.ishl, 1) := by decide +kernel
theorem dX9_club_52 : decode cX9_club 52 = .ok (.ior, 1) := by decide +kernel
theorem dX9_club_53 : decode cX9_club 53 = .ok (.istore 4, 2) := by decide +kernel
theorem dX9_club_55 : decode cX9_club 55 = .ok (.iinc 5 1, 3) := by decide +kernel
theorem dX9_club_58 : decode cX9_club 58 = .ok (.goto (-34), 3) := by decide +kernel
theorem dX9_club_61 : decode cX9_club 61 = .ok (.iload 4, 2) := by decide +kernel
theorem dX9_club_63 : decode cX9_club 63 = .ok (.ireturn, 1) := by decide +kernel
theorem dX9_rota_0 : decode cX9_rota 0 = .ok (.iload_n 1, 1) := by decide +kernel
theorem dX9_rota_1 : decode cX9_rota 1 = .ok (.iconst (-1), 1) := by decide +kernel
theorem dX9_rota_2 : decode cX9_rota 2 = .ok (.if_icmp .eq 8, 3) := by decide +kernel
theorem dX9_rota_5 : decode cX9_rota 5 = .ok (.aload_n 0, 1) := by decide +kernel
theorem dX9_rota_6 : decode cX9_rota 6 = .ok (.iload_n 1, 1) := by decide +kernel
theorem dX9_rota_7 : decode cX9_rota 7 = .ok (.invokevirtual 175, 3) := by decide +kernel
theorem dX9_rota_10 : decode cX9_rota 10 = .ok (.aload_n 0, 1) := by decide +kernel
theorem dX9_rota_11 : decode cX9_rota 11 = .ok (.invokevirtual 273, 3) := by decide +kernel
theorem dX9_rota_14 : decode cX9_rota 14 = .ok (.aload_n 0, 1) := by decide +kernel
theorem dX9_rota_15 : decode cX9_rota 15 = .ok (.getfield 42, 3) := by decide +kernel
theorem dX9_rota_18 : decode cX9_rota 18 = .ok (.iconst 0, 1) := by decide +kernel
theorem dX9_rota_19 : decode cX9_rota 19 = .ok (.iaload, 1) := by decide +kernel
theorem dX9_rota_20 : decode cX9_rota 20 = .ok (.ldc_w 276, 3) := by decide +kernel
theorem dX9_rota_23 : decode cX9_rota 23 = .ok (.if_icmp .lt 6, 3) := by decide +kernel
theorem dX9_rota_26 : decode cX9_rota 26 = .ok (.bipush (-2), 2) := by decide +kernel
theorem dX9_rota_28 : decode cX9_rota 28 = .ok (.ireturn, 1) := by decide +kernel
theorem dX9_rota_29 : decode cX9_rota 29 = .ok (.iload_n 1, 1) := by decide +kernel
theorem dX9_rota_30 : decode cX9_rota 30 = .ok (.iconst (-1), 1) := by decide +kernel
theorem dX9_rota_31 : decode cX9_rota 31 = .ok (.if_icmp .ne 10, 3) := by decide +kernel
theorem dX9_rota_34 : decode cX9_rota 34 = .ok (.aload_n 0, 1) := by decide +kernel
theorem dX9_rota_35 : decode cX9_rota 35 = .ok (.getfield 42, 3) := by decide +kernel
theorem dX9_rota_38 : decode cX9_rota 38 = .ok (.iconst 0, 1) := by decide +kernel
theorem dX9_rota_39 : decode cX9_rota 39 = .ok (.iaload, 1) := by decide +kernel
theorem dX9_rota_40 : decode cX9_rota 40 = .ok (.ireturn, 1) := by decide +kernel
theorem dX9_rota_41 : decode cX9_rota 41 = .ok (.iconst 0, 1) := by decide +kernel
theorem dX9_rota_42 : decode cX9_rota 42 = .ok (.istore_n 2, 1) := by decide +kernel
theorem dX9_rota_43 : decode cX9_rota 43 = .ok (.iconst (-1), 1) := by decide +kernel
theorem dX9_rota_44 : decode cX9_rota 44 = .ok (.istore_n 3, 1) := by decide +kernel
theorem dX9_rota_45 : decode cX9_rota 45 = .ok (.iconst 0, 1) := by decide +kernel
theorem dX9_rota_46 : decode cX9_rota 46 = .ok (.istore 4, 2) := by decide +kernel
theorem dX9_rota_48 : decode cX9_rota 48 = .ok (.iload 4, 2) := by decide +kernel
theorem dX9_rota_50 : decode cX9_rota 50 = .ok (.iload_n 1, 1) := by decide +kernel
theorem dX9_rota_51 : decode cX9_rota 51 = .ok (.if_icmp .gt 31, 3) := by decide +kernel
theorem dX9_rota_54 : decode cX9_rota 54 = .ok (.aload_n 0, 1) := by decide +kernel
theorem dX9_rota_55 : decode cX9_rota 55 = .ok (.iload 4, 2) := by decide +kernel
theorem dX9_rota_57 : decode cX9_rota 57 = .ok (.iload_n 2, 1) := by decide +kernel
theorem dX9_rota_58 : decode cX9_rota 58 = .ok (.invokevirtual 277, 3) := by decide +kernel
theorem dX9_rota_61 : decode cX9_rota 61 = .ok (.istore_n 3, 1) := by decide +kernel
theorem dX9_rota_62 : decode cX9_rota 62 = .ok (.iload_n 3, 1) := by decide +kernel
theorem dX9_rota_63 : decode cX9_rota 63 = .ok (.iconst (-1), 1) := by decide +kernel
theorem dX9_rota_64 : decode cX9_rota 64 = .ok (.if_icmp .ne 6, 3) := by decide +kernel
theorem dX9_rota_67 : decode cX9_rota 67 = .ok (.bipush (-2), 2) := by decide +kernel
theorem dX9_rota_69 : decode cX9_rota 69 = .ok (.ireturn, 1) := by decide +kernel
theorem dX9_rota_70 : decode cX9_rota 70 = .ok (.iload_n 2, 1) := by decide +kernel
theorem dX9_rota_71 : decode cX9_rota 71 = .ok (.iconst 1, 1) := by decide +kernel
theorem dX9_rota_72 : decode cX9_rota 72 = .ok (.iload_n 3, 1) := by decide +kernel
theorem dX9_rota_73 : decode cX9_rota 73 = .ok (.ishl, 1) := by decide +kernel
theorem dX9_rota_74 : decode cX9_rota 74 = .ok (.ior, 1) := by decide +kernel
theorem dX9_rota_75 : decode cX9_rota 75 = .ok (.istore_n 2, 1) := by decide +kernel
theorem dX9_rota_76 : decode cX9_rota 76 = .ok (.iinc 4 1, 3) := by decide +kernel
theorem dX9_rota_79 : decode cX9_rota 79 = .ok (.goto (-31), 3) := by decide +kernel
theorem dX9_rota_82 : decode cX9_rota 82 = .ok (.iload_n 3, 1) := by decide +kernel
theorem dX9_rota_83 : decode cX9_rota 83 = .ok (.ireturn, 1) := by decide +kernel
theorem dX9_towers_0 : decode cX9_towers 0 = .ok (.iload_n 2, 1) := by decide +kernel
theorem dX9_towers_1 : decode cX9_towers 1 = .ok (.iconst 1, 1) := by decide +kernel
theorem dX9_towers_2 : decode cX9_towers 2 = .ok (.invokestatic 221, 3) := by decide +kernel
theorem dX9_towers_5 : decode cX9_towers 5 = .ok (.iload_n 1, 1) := by decide +kernel
theorem dX9_towers_6 : decode cX9_towers 6 = .ok (.iconst 0, 1) := by decide +kernel
theorem dX9_towers_7 : decode cX9_towers 7 = .ok (.bipush 30, 2) := by decide +kernel
theorem dX9_towers_9 : decode cX9_towers 9 = .ok (.invokestatic 224, 3) := by decide +kernel
theorem dX9_towers_12 : decode cX9_towers 12 = .ok (.iconst 0, 1) := by decide +kernel
theorem dX9_towers_13 : decode cX9_towers 13 = .ok (.istore_n 3, 1) := by decide +kernel
theorem dX9_towers_14 : decode cX9_towers 14 = .ok (.bipush 31, 2) := by decide +kernel
theorem dX9_towers_16 : decode cX9_towers 16 = .ok (.istore 4, 2) := by decide +kernel
theorem dX9_towers_18 : decode cX9_towers 18 = .ok (.iconst 0, 1) := by decide +kernel
theorem dX9_towers_19 : decode cX9_towers 19 = .ok (.istore 5, 2) := by decide +kernel
theorem dX9_towers_21 : decode cX9_towers 21 = .ok (.iload 5, 2) := by decide +kernel
theorem dX9_towers_23 : decode cX9_towers 23 = .ok (.bipush 8, 2) := by decide +kernel
theorem dX9_towers_25 : decode cX9_towers 25 = .ok (.if_icmp .ge 49, 3) := by decide +kernel
theorem dX9_towers_28 : decode cX9_towers 28 = .ok (.aload_n 0, 1) := by decide +kernel
theorem dX9_towers_29 : decode cX9_towers 29 = .ok (.iload 4, 2) := by decide +kernel
theorem dX9_towers_31 : decode cX9_towers 31 = .ok (.invokevirtual 280, 3) := by decide +kernel
theorem dX9_towers_34 : decode cX9_towers 34 = .ok (.istore 6, 2) := by decide +kernel
theorem dX9_towers_36 : decode cX9_towers 36 = .ok (.iload 6, 2) := by decide +kernel
theorem dX9_towers_38 : decode cX9_towers 38 = .ok (.iconst (-1), 1) := by decide +kernel
theorem dX9_towers_39 : decode cX9_towers 39 = .ok (.if_icmp .ne 6, 3) := by decide +kernel
theorem dX9_towers_42 : decode cX9_towers 42 = .ok (.goto 32, 3) := by decide +kernel
theorem dX9_towers_45 : decode cX9_towers 45 = .ok (.iconst 0, 1) := by decide +kernel
theorem dX9_towers_46 : decode cX9_towers 46 = .ok (.iload 6, 2) := by decide +kernel
theorem dX9_towers_48 : decode cX9_towers 48 = .ok (.iload_n 1, 1) := by decide +kernel
theorem dX9_towers_49 : decode cX9_towers 49 = .ok (.isub, 1) := by decide +kernel
theorem dX9_towers_50 : decode cX9_towers 50 = .ok (.invokestatic 264, 3) := by decide +kernel
theorem dX9_towers_53 : decode cX9_towers 53 = .ok (.istore 7, 2) := by decide +kernel
theorem dX9_towers_55 : decode cX9_towers 55 = .ok (.iload_n 3, 1) := by decide +kernel
theorem dX9_towers_56 : decode cX9_towers 56 = .ok (.iconst 1, 1) := by decide +kernel
theorem dX9_towers_57 : decode cX9_towers 57 = .ok (.iload 7, 2) := by decide +kernel
theorem dX9_towers_59 : decode cX9_towers 59 = .ok (.ishl, 1) := by decide +kernel
theorem dX9_towers_60 : decode cX9_towers 60 = .ok (.ior, 1) := by decide +kernel
theorem dX9_towers_61 : decode cX9_towers 61 = .ok (.istore_n 3, 1) := by decide +kernel
theorem dX9_towers_62 : decode cX9_towers 62 = .ok (.iload 7, 2) := by decide +kernel
theorem dX9_towers_64 : decode cX9_towers 64 = .ok (.iload_n 1, 1) := by decide +kernel
theorem dX9_towers_65 : decode cX9_towers 65 = .ok (.isub, 1) := by decide +kernel
theorem dX9_towers_66 : decode cX9_towers 66 = .ok (.istore 4, 2) := by decide +kernel
theorem dX9_towers_68 : decode cX9_towers 68 = .ok (.iinc 5 1, 3) := by decide +kernel
theorem dX9_towers_71 : decode cX9_towers 71 = .ok (.goto (-50), 3) := by decide +kernel
theorem dX9_towers_74 : decode cX9_towers 74 = .ok (.iload_n 2, 1) := by decide +kernel
theorem dX9_towers_75 : decode cX9_towers 75 = .ok (.ifCond .ne 10, 3) := by decide +kernel
theorem dX9_towers_78 : decode cX9_towers 78 = .ok (.iload_n 3, 1) := by decide +kernel
theorem dX9_towers_79 : decode cX9_towers 79 = .ok (.invokestatic 283, 3) := by decide +kernel
theorem dX9_towers_82 : decode cX9_towers 82 = .ok (.goto 4, 3) := by decide +kernel
theorem dX9_towers_85 : decode cX9_towers 85 = .ok (.iload_n 3, 1) := by decide +kernel
theorem dX9_towers_86 : decode cX9_towers 86 = .ok (.ireturn, 1) := by decide +kernel
theorem dX9_see_0 : decode cX9_see 0 = .ok (.aload_n 0, 1) := by decide +kernel
theorem dX9_see_1 : decode cX9_see 1 = .ok (.iload_n 1, 1) := by decide +kernel
theorem dX9_see_2 : decode cX9_see 2 = .ok (.invokevirtual 175, 3) := by decide +kernel
theorem dX9_see_5 : decode cX9_see 5 = .ok (.iload_n 2, 1) := by decide +kernel
theorem dX9_see_6 : decode cX9_see 6 = .ok (.iconst 1, 1) := by decide +kernel
theorem dX9_see_7 : decode cX9_see 7 = .ok (.if_icmp .lt 24, 3) := by decide +kernel
theorem dX9_see_10 : decode cX9_see 10 = .ok (.iload_n 2, 1) := by decide +kernel
theorem dX9_see_11 : decode cX9_see 11 = .ok (.bipush 12, 2) := by decide +kernel
theorem dX9_see_13 : decode cX9_see 13 = .ok (.if_icmp .gt 18, 3) := by decide +kernel
theorem dX9_see_16 : decode cX9_see 16 = .ok (.iload_n 3, 1) := by decide +kernel
theorem dX9_see_17 : decode cX9_see 17 = .ok (.ifCond .lt 14, 3) := by decide +kernel
theorem dX9_see_20 : decode cX9_see 20 = .ok (.iload_n 3, 1) := by decide +kernel
theorem dX9_see_21 : decode cX9_see 21 = .ok (.sipush 1999, 3) := by decide +kernel
theorem dX9_see_24 : decode cX9_see 24 = .ok (.if_icmp .gt 7, 3) := by decide +kernel
theorem dX9_see_27 : decode cX9_see 27 = .ok (.iconst 1, 1) := by decide +kernel
theorem dX9_see_28 : decode cX9_see 28 = .ok (.goto 4, 3) := by decide +kernel
theorem dX9_see_31 : decode cX9_see 31 = .ok (.iconst 0, 1) := by decide +kernel
theorem dX9_see_32 : decode cX9_see 32 = .ok (.istore 4, 2) := by decide +kernel
theorem dX9_see_34 : decode cX9_see 34 = .ok (.iload 4, 2) := by decide +kernel
theorem dX9_see_36 : decode cX9_see 36 = .ok (.ifCond .eq 19, 3) := by decide +kernel
theorem dX9_see_39 : decode cX9_see 39 = .ok (.aload_n 0, 1) := by decide +kernel
theorem dX9_see_40 : decode cX9_see 40 = .ok (.getfield 19, 3) := by decide +kernel
theorem dX9_see_43 : decode cX9_see 43 = .ok (.getfield 135, 3) := by decide +kernel
theorem dX9_see_46 : decode cX9_see 46 = .ok (.iload_n 1, 1) := by decide +kernel
theorem dX9_see_47 : decode cX9_see 47 = .ok (.iload_n 2, 1) := by decide +kernel
theorem dX9_see_48 : decode cX9_see 48 = .ok (.iload_n 3, 1) := by decide +kernel
theorem dX9_see_49 : decode cX9_see 49 = .ok (.invokevirtual 288, 3) := by decide +kernel
theorem dX9_see_52 : decode cX9_see 52 = .ok (.ifCond .ne 15, 3) := by decide +kernel
theorem dX9_see_55 : decode cX9_see 55 = .ok (.aload_n 0, 1) := by decide +kernel
theorem dX9_see_56 : decode cX9_see 56 = .ok (.getfield 33, 3) := by decide +kernel
theorem dX9_see_59 : decode cX9_see 59 = .ok (.iconst 2, 1) := by decide +kernel
theorem dX9_see_60 : decode cX9_see 60 = .ok (.dup2, 1) := by decide +kernel
theorem dX9_see_61 : decode cX9_see 61 = .ok (.iaload, 1) := by decide +kernel
theorem dX9_see_62 : decode cX9_see 62 = .ok (.iconst 1, 1) := by decide +kernel
theorem dX9_see_63 : decode cX9_see 63 = .ok (.iadd, 1) := by decide +kernel
theorem dX9_see_64 : decode cX9_see 64 = .ok (.iastore, 1) := by decide +kernel
theorem dX9_see_65 : decode cX9_see 65 = .ok (.iconst (-1), 1) := by decide +kernel
theorem dX9_see_66 : decode cX9_see 66 = .ok (.ireturn, 1) := by decide +kernel
theorem dX9_see_67 : decode cX9_see 67 = .ok (.aload_n 0, 1) := by decide +kernel
theorem dX9_see_68 : decode cX9_see 68 = .ok (.getfield 19, 3) := by decide +kernel
theorem dX9_see_71 : decode cX9_see 71 = .ok (.getfield 135, 3) := by decide +kernel
theorem dX9_see_74 : decode cX9_see 74 = .ok (.getfield 139, 3) := by decide +kernel
theorem dX9_see_77 : decode cX9_see 77 = .ok (.ireturn, 1) := by decide +kernel
theorem dX9_forget_0 : decode cX9_forget 0 = .ok (.aload_n 0, 1) := by decide +kernel
theorem dX9_forget_1 : decode cX9_forget 1 = .ok (.getfield 19, 3) := by decide +kernel
theorem dX9_forget_4 : decode cX9_forget 4 = .ok (.getfield 135, 3) := by decide +kernel
theorem dX9_forget_7 : decode cX9_forget 7 = .ok (.iconst 0, 1) := by decide +kernel
theorem dX9_forget_8 : decode cX9_forget 8 = .ok (.putfield 139, 3) := by decide +kernel
theorem dX9_forget_11 : decode cX9_forget 11 = .ok (.return_, 1) := by decide +kernel
theorem dX9_habits_0 : decode cX9_habits 0 = .ok (.iload_n 1, 1) := by decide +kernel
theorem dX9_habits_1 : decode cX9_habits 1 = .ok (.iconst 2, 1) := by decide +kernel
theorem dX9_habits_2 : decode cX9_habits 2 = .ok (.invokestatic 221, 3) := by decide +kernel
theorem dX9_habits_5 : decode cX9_habits 5 = .ok (.iload_n 1, 1) := by decide +kernel
theorem dX9_habits_6 : decode cX9_habits 6 = .ok (.iconst 2, 1) := by decide +kernel
theorem dX9_habits_7 : decode cX9_habits 7 = .ok (.if_icmp .ne 18, 3) := by decide +kernel
theorem dX9_habits_10 : decode cX9_habits 10 = .ok (.aload_n 0, 1) := by decide +kernel
theorem dX9_habits_11 : decode cX9_habits 11 = .ok (.iconst (-1), 1) := by decide +kernel
theorem dX9_habits_12 : decode cX9_habits 12 = .ok (.iconst 0, 1) := by decide +kernel
theorem dX9_habits_13 : decode cX9_habits 13 = .ok (.invokevirtual 292, 3) := by decide +kernel
theorem dX9_habits_16 : decode cX9_habits 16 = .ok (.ifCond .eq 7, 3) := by decide +kernel
theorem dX9_habits_19 : decode cX9_habits 19 = .ok (.iconst 1, 1) := by decide +kernel
theorem dX9_habits_20 : decode cX9_habits 20 = .ok (.goto 4, 3) := by decide +kernel
theorem dX9_habits_23 : decode cX9_habits 23 = .ok (.iconst 0, 1) := by decide +kernel
theorem dX9_habits_24 : decode cX9_habits 24 = .ok (.ireturn, 1) := by decide +kernel
theorem dX9_habits_25 : decode cX9_habits 25 = .ok (.iconst 0, 1) := by decide +kernel
theorem dX9_habits_26 : decode cX9_habits 26 = .ok (.istore_n 2, 1) := by decide +kernel
theorem dX9_habits_27 : decode cX9_habits 27 = .ok (.iconst 0, 1) := by decide +kernel
theorem dX9_habits_28 : decode cX9_habits 28 = .ok (.istore_n 3, 1) := by decide +kernel
theorem dX9_habits_29 : decode cX9_habits 29 = .ok (.iload_n 3, 1) := by decide +kernel
theorem dX9_habits_30 : decode cX9_habits 30 = .ok (.aload_n 0, 1) := by decide +kernel
theorem dX9_habits_31 : decode cX9_habits 31 = .ok (.getfield 55, 3) := by decide +kernel
theorem dX9_habits_34 : decode cX9_habits 34 = .ok (.getfield 99, 3) := by decide +kernel
theorem dX9_habits_37 : decode cX9_habits 37 = .ok (.if_icmp .ge 65, 3) := by decide +kernel
theorem dX9_habits_40 : decode cX9_habits 40 = .ok (.iconst 0, 1) := by decide +kernel
theorem dX9_habits_41 : decode cX9_habits 41 = .ok (.istore 4, 2) := by decide +kernel
theorem dX9_habits_43 : decode cX9_habits 43 = .ok (.iload 4, 2) := by decide +kernel
theorem dX9_habits_45 : decode cX9_habits 45 = .ok (.bipush 60, 2) := by decide +kernel
theorem dX9_habits_47 : decode cX9_habits 47 = .ok (.if_icmp .gt 49, 3) := by decide +kernel
theorem dX9_habits_50 : decode cX9_habits 50 = .ok (.iload 4, 2) := by decide +kernel
theorem dX9_habits_52 : decode cX9_habits 52 = .ok (.aload_n 0, 1) := by decide +kernel
theorem dX9_habits_53 : decode cX9_habits 53 = .ok (.getfield 55, 3) := by decide +kernel
theorem dX9_habits_56 : decode cX9_habits 56 = .ok (.getfield 150, 3) := by decide +kernel
theorem dX9_habits_59 : decode cX9_habits 59 = .ok (.iload_n 3, 1) := by decide +kernel
theorem dX9_habits_60 : decode cX9_habits 60 = .ok (.iaload, 1) := by decide +kernel
theorem dX9_habits_61 : decode cX9_habits 61 = .ok (.if_icmp .eq 29, 3) := by decide +kernel
theorem dX9_habits_64 : decode cX9_habits 64 = .ok (.aload_n 0, 1) := by decide +kernel
theorem dX9_habits_65 : decode cX9_habits 65 = .ok (.iload_n 3, 1) := by decide +kernel
theorem dX9_habits_66 : decode cX9_habits 66 = .ok (.iload 4, 2) := by decide +kernel
theorem dX9_habits_68 : decode cX9_habits 68 = .ok (.invokevirtual 292, 3) := by decide +kernel
theorem dX9_habits_71 : decode cX9_habits 71 = .ok (.ifCond .eq 19, 3) := by decide +kernel
theorem dX9_habits_74 : decode cX9_habits 74 = .ok (.iload_n 1, 1) := by decide +kernel
