theorem dC_leave_77 : decode tp_bC_leave 77 = .ok (.iaload, 1) := by decide +kernel
theorem dC_leave_78 : decode tp_bC_leave 78 = .ok (.istore_n 2, 1) := by decide +kernel
theorem dC_leave_79 : decode tp_bC_leave 79 = .ok (.aload_n 0, 1) := by decide +kernel
theorem dC_leave_80 : decode tp_bC_leave 80 = .ok (.iload_n 1, 1) := by decide +kernel
theorem dC_leave_81 : decode tp_bC_leave 81 = .ok (.invokevirtual 90, 3) := by decide +kernel
theorem dC_leave_84 : decode tp_bC_leave 84 = .ok (.ifCond .eq 8, 3) := by decide +kernel
theorem dC_leave_87 : decode tp_bC_leave 87 = .ok (.aload_n 0, 1) := by decide +kernel
theorem dC_leave_88 : decode tp_bC_leave 88 = .ok (.iload_n 1, 1) := by decide +kernel
theorem dC_leave_89 : decode tp_bC_leave 89 = .ok (.invokevirtual 77, 3) := by decide +kernel
theorem dC_leave_92 : decode tp_bC_leave 92 = .ok (.iload_n 2, 1) := by decide +kernel
theorem dC_leave_93 : decode tp_bC_leave 93 = .ok (.ireturn, 1) := by decide +kernel
theorem dC_stay_0 : decode tp_bC_stay 0 = .ok (.aload_n 0, 1) := by decide +kernel
theorem dC_stay_1 : decode tp_bC_stay 1 = .ok (.iload_n 1, 1) := by decide +kernel
theorem dC_stay_2 : decode tp_bC_stay 2 = .ok (.invokevirtual 39, 3) := by decide +kernel
theorem dC_stay_5 : decode tp_bC_stay 5 = .ok (.ifCond .ne 11, 3) := by decide +kernel
theorem dC_stay_8 : decode tp_bC_stay 8 = .ok (.new 36, 3) := by decide +kernel
theorem dC_stay_11 : decode tp_bC_stay 11 = .ok (.dup, 1) := by decide +kernel
theorem dC_stay_12 : decode tp_bC_stay 12 = .ok (.invokespecial 38, 3) := by decide +kernel
theorem dC_stay_15 : decode tp_bC_stay 15 = .ok (.athrow, 1) := by decide +kernel
theorem dC_stay_16 : decode tp_bC_stay 16 = .ok (.aload_n 0, 1) := by decide +kernel
theorem dC_stay_17 : decode tp_bC_stay 17 = .ok (.getfield 16, 3) := by decide +kernel
theorem dC_stay_20 : decode tp_bC_stay 20 = .ok (.iload_n 1, 1) := by decide +kernel
theorem dC_stay_21 : decode tp_bC_stay 21 = .ok (.baload, 1) := by decide +kernel
theorem dC_stay_22 : decode tp_bC_stay 22 = .ok (.ifCond .ne 11, 3) := by decide +kernel
theorem dC_stay_25 : decode tp_bC_stay 25 = .ok (.new 43, 3) := by decide +kernel
theorem dC_stay_28 : decode tp_bC_stay 28 = .ok (.dup, 1) := by decide +kernel
theorem dC_stay_29 : decode tp_bC_stay 29 = .ok (.invokespecial 45, 3) := by decide +kernel
theorem dC_stay_32 : decode tp_bC_stay 32 = .ok (.athrow, 1) := by decide +kernel
theorem dC_stay_33 : decode tp_bC_stay 33 = .ok (.aload_n 0, 1) := by decide +kernel
theorem dC_stay_34 : decode tp_bC_stay 34 = .ok (.getfield 16, 3) := by decide +kernel
theorem dC_stay_37 : decode tp_bC_stay 37 = .ok (.iload_n 1, 1) := by decide +kernel
theorem dC_stay_38 : decode tp_bC_stay 38 = .ok (.iconst 0, 1) := by decide +kernel
theorem dC_stay_39 : decode tp_bC_stay 39 = .ok (.bastore, 1) := by decide +kernel
theorem dC_stay_40 : decode tp_bC_stay 40 = .ok (.return_, 1) := by decide +kernel
theorem dC_step_0 : decode tp_bC_step 0 = .ok (.aload_n 0, 1) := by decide +kernel
theorem dC_step_1 : decode tp_bC_step 1 = .ok (.invokevirtual 93, 3) := by decide +kernel
theorem dC_step_4 : decode tp_bC_step 4 = .ok (.ireturn, 1) := by decide +kernel
theorem dC_steps_0 : decode tp_bC_steps 0 = .ok (.iload_n 1, 1) := by decide +kernel
theorem dC_steps_1 : decode tp_bC_steps 1 = .ok (.ifCond .ge 11, 3) := by decide +kernel
theorem dC_steps_4 : decode tp_bC_steps 4 = .ok (.new 46, 3) := by decide +kernel
theorem dC_steps_7 : decode tp_bC_steps 7 = .ok (.dup, 1) := by decide +kernel
theorem dC_steps_8 : decode tp_bC_steps 8 = .ok (.invokespecial 48, 3) := by decide +kernel
theorem dC_steps_11 : decode tp_bC_steps 11 = .ok (.athrow, 1) := by decide +kernel
theorem dC_steps_12 : decode tp_bC_steps 12 = .ok (.iload_n 1, 1) := by decide +kernel
theorem dC_steps_13 : decode tp_bC_steps 13 = .ok (.ldc 96, 2) := by decide +kernel
theorem dC_steps_15 : decode tp_bC_steps 15 = .ok (.invokestatic 56, 3) := by decide +kernel
theorem dC_steps_18 : decode tp_bC_steps 18 = .ok (.istore_n 2, 1) := by decide +kernel
theorem dC_steps_19 : decode tp_bC_steps 19 = .ok (.iconst 0, 1) := by decide +kernel
theorem dC_steps_20 : decode tp_bC_steps 20 = .ok (.istore_n 3, 1) := by decide +kernel
theorem dC_steps_21 : decode tp_bC_steps 21 = .ok (.iload_n 3, 1) := by decide +kernel
theorem dC_steps_22 : decode tp_bC_steps 22 = .ok (.iload_n 2, 1) := by decide +kernel
theorem dC_steps_23 : decode tp_bC_steps 23 = .ok (.if_icmp .ge 16, 3) := by decide +kernel
theorem dC_steps_26 : decode tp_bC_steps 26 = .ok (.aload_n 0, 1) := by decide +kernel
theorem dC_steps_27 : decode tp_bC_steps 27 = .ok (.invokevirtual 93, 3) := by decide +kernel
theorem dC_steps_30 : decode tp_bC_steps 30 = .ok (.ifCond .eq 9, 3) := by decide +kernel
theorem dC_steps_33 : decode tp_bC_steps 33 = .ok (.iinc 3 1, 3) := by decide +kernel
theorem dC_steps_36 : decode tp_bC_steps 36 = .ok (.goto (-15), 3) := by decide +kernel
theorem dC_steps_39 : decode tp_bC_steps 39 = .ok (.iload_n 3, 1) := by decide +kernel
theorem dC_steps_40 : decode tp_bC_steps 40 = .ok (.ireturn, 1) := by decide +kernel
theorem dC_place_0 : decode tp_bC_place 0 = .ok (.aload_n 0, 1) := by decide +kernel
theorem dC_place_1 : decode tp_bC_place 1 = .ok (.iload_n 1, 1) := by decide +kernel
theorem dC_place_2 : decode tp_bC_place 2 = .ok (.invokevirtual 62, 3) := by decide +kernel
theorem dC_place_5 : decode tp_bC_place 5 = .ok (.ifCond .ne 11, 3) := by decide +kernel
theorem dC_place_8 : decode tp_bC_place 8 = .ok (.new 36, 3) := by decide +kernel
theorem dC_place_11 : decode tp_bC_place 11 = .ok (.dup, 1) := by decide +kernel
theorem dC_place_12 : decode tp_bC_place 12 = .ok (.invokespecial 38, 3) := by decide +kernel
theorem dC_place_15 : decode tp_bC_place 15 = .ok (.athrow, 1) := by decide +kernel
theorem dC_place_16 : decode tp_bC_place 16 = .ok (.iload_n 2, 1) := by decide +kernel
theorem dC_place_17 : decode tp_bC_place 17 = .ok (.ifCond .eq 12, 3) := by decide +kernel
theorem dC_place_20 : decode tp_bC_place 20 = .ok (.aload_n 0, 1) := by decide +kernel
theorem dC_place_21 : decode tp_bC_place 21 = .ok (.getfield 26, 3) := by decide +kernel
theorem dC_place_24 : decode tp_bC_place 24 = .ok (.iload_n 1, 1) := by decide +kernel
theorem dC_place_25 : decode tp_bC_place 25 = .ok (.iaload, 1) := by decide +kernel
theorem dC_place_26 : decode tp_bC_place 26 = .ok (.goto 9, 3) := by decide +kernel
theorem dC_place_29 : decode tp_bC_place 29 = .ok (.aload_n 0, 1) := by decide +kernel
theorem dC_place_30 : decode tp_bC_place 30 = .ok (.getfield 23, 3) := by decide +kernel
theorem dC_place_33 : decode tp_bC_place 33 = .ok (.iload_n 1, 1) := by decide +kernel
theorem dC_place_34 : decode tp_bC_place 34 = .ok (.iaload, 1) := by decide +kernel
theorem dC_place_35 : decode tp_bC_place 35 = .ok (.ireturn, 1) := by decide +kernel
theorem dC_about_0 : decode tp_bC_about 0 = .ok (.aload_n 0, 1) := by decide +kernel
theorem dC_about_1 : decode tp_bC_about 1 = .ok (.iload_n 1, 1) := by decide +kernel
theorem dC_about_2 : decode tp_bC_about 2 = .ok (.invokevirtual 39, 3) := by decide +kernel
theorem dC_about_5 : decode tp_bC_about 5 = .ok (.ifCond .ne 11, 3) := by decide +kernel
theorem dC_about_8 : decode tp_bC_about 8 = .ok (.new 36, 3) := by decide +kernel
theorem dC_about_11 : decode tp_bC_about 11 = .ok (.dup, 1) := by decide +kernel
theorem dC_about_12 : decode tp_bC_about 12 = .ok (.invokespecial 38, 3) := by decide +kernel
theorem dC_about_15 : decode tp_bC_about 15 = .ok (.athrow, 1) := by decide +kernel
theorem dC_about_16 : decode tp_bC_about 16 = .ok (.iload_n 2, 1) := by decide +kernel
theorem dC_about_17 : decode tp_bC_about 17 = .ok (.tableswitch 65 0 3 #[31, 38, 44, 59], 31) := by decide +kernel
theorem dC_about_48 : decode tp_bC_about 48 = .ok (.aload_n 0, 1) := by decide +kernel
theorem dC_about_49 : decode tp_bC_about 49 = .ok (.getfield 9, 3) := by decide +kernel
theorem dC_about_52 : decode tp_bC_about 52 = .ok (.iload_n 1, 1) := by decide +kernel
theorem dC_about_53 : decode tp_bC_about 53 = .ok (.iaload, 1) := by decide +kernel
theorem dC_about_54 : decode tp_bC_about 54 = .ok (.ireturn, 1) := by decide +kernel
theorem dC_about_55 : decode tp_bC_about 55 = .ok (.aload_n 0, 1) := by decide +kernel
theorem dC_about_56 : decode tp_bC_about 56 = .ok (.iload_n 1, 1) := by decide +kernel
theorem dC_about_57 : decode tp_bC_about 57 = .ok (.invokevirtual 97, 3) := by decide +kernel
theorem dC_about_60 : decode tp_bC_about 60 = .ok (.ireturn, 1) := by decide +kernel
theorem dC_about_61 : decode tp_bC_about 61 = .ok (.aload_n 0, 1) := by decide +kernel
theorem dC_about_62 : decode tp_bC_about 62 = .ok (.getfield 16, 3) := by decide +kernel
theorem dC_about_65 : decode tp_bC_about 65 = .ok (.iload_n 1, 1) := by decide +kernel
theorem dC_about_66 : decode tp_bC_about 66 = .ok (.baload, 1) := by decide +kernel
theorem dC_about_67 : decode tp_bC_about 67 = .ok (.ifCond .eq 7, 3) := by decide +kernel
theorem dC_about_70 : decode tp_bC_about 70 = .ok (.iconst 1, 1) := by decide +kernel
theorem dC_about_71 : decode tp_bC_about 71 = .ok (.goto 4, 3) := by decide +kernel
theorem dC_about_74 : decode tp_bC_about 74 = .ok (.iconst 0, 1) := by decide +kernel
theorem dC_about_75 : decode tp_bC_about 75 = .ok (.ireturn, 1) := by decide +kernel
theorem dC_about_76 : decode tp_bC_about 76 = .ok (.aload_n 0, 1) := by decide +kernel
theorem dC_about_77 : decode tp_bC_about 77 = .ok (.iload_n 1, 1) := by decide +kernel
theorem dC_about_78 : decode tp_bC_about 78 = .ok (.invokevirtual 100, 3) := by decide +kernel
theorem dC_about_81 : decode tp_bC_about 81 = .ok (.ireturn, 1) := by decide +kernel
theorem dC_about_82 : decode tp_bC_about 82 = .ok (.new 46, 3) := by decide +kernel
theorem dC_about_85 : decode tp_bC_about 85 = .ok (.dup, 1) := by decide +kernel
theorem dC_about_86 : decode tp_bC_about 86 = .ok (.invokespecial 48, 3) := by decide +kernel
theorem dC_about_89 : decode tp_bC_about 89 = .ok (.athrow, 1) := by decide +kernel
theorem dC_count_0 : decode tp_bC_count 0 = .ok (.iload_n 1, 1) := by decide +kernel
theorem dC_count_1 : decode tp_bC_count 1 = .ok (.tableswitch 81 0 6 #[43, 48, 53, 59, 65, 71, 76], 43) := by decide +kernel
theorem dC_count_44 : decode tp_bC_count 44 = .ok (.aload_n 0, 1) := by decide +kernel
theorem dC_count_45 : decode tp_bC_count 45 = .ok (.invokevirtual 103, 3) := by decide +kernel
theorem dC_count_48 : decode tp_bC_count 48 = .ok (.ireturn, 1) := by decide +kernel
theorem dC_count_49 : decode tp_bC_count 49 = .ok (.aload_n 0, 1) := by decide +kernel
theorem dC_count_50 : decode tp_bC_count 50 = .ok (.invokevirtual 84, 3) := by decide +kernel
theorem dC_count_53 : decode tp_bC_count 53 = .ok (.ireturn, 1) := by decide +kernel
theorem dC_count_54 : decode tp_bC_count 54 = .ok (.aload_n 0, 1) := by decide +kernel
theorem dC_count_55 : decode tp_bC_count 55 = .ok (.iconst (-1), 1) := by decide +kernel
theorem dC_count_56 : decode tp_bC_count 56 = .ok (.invokevirtual 87, 3) := by decide +kernel
theorem dC_count_59 : decode tp_bC_count 59 = .ok (.ireturn, 1) := by decide +kernel
theorem dC_count_60 : decode tp_bC_count 60 = .ok (.aload_n 0, 1) := by decide +kernel
theorem dC_count_61 : decode tp_bC_count 61 = .ok (.iconst 1, 1) := by decide +kernel
theorem dC_count_62 : decode tp_bC_count 62 = .ok (.invokevirtual 81, 3) := by decide +kernel
theorem dC_count_65 : decode tp_bC_count 65 = .ok (.ireturn, 1) := by decide +kernel
theorem dC_count_66 : decode tp_bC_count 66 = .ok (.aload_n 0, 1) := by decide +kernel
theorem dC_count_67 : decode tp_bC_count 67 = .ok (.iconst 0, 1) := by decide +kernel
theorem dC_count_68 : decode tp_bC_count 68 = .ok (.invokevirtual 81, 3) := by decide +kernel
theorem dC_count_71 : decode tp_bC_count 71 = .ok (.ireturn, 1) := by decide +kernel
theorem dC_count_72 : decode tp_bC_count 72 = .ok (.aload_n 0, 1) := by decide +kernel
theorem dC_count_73 : decode tp_bC_count 73 = .ok (.invokevirtual 106, 3) := by decide +kernel
theorem dC_count_76 : decode tp_bC_count 76 = .ok (.ireturn, 1) := by decide +kernel
theorem dC_count_77 : decode tp_bC_count 77 = .ok (.aload_n 0, 1) := by decide +kernel
theorem dC_count_78 : decode tp_bC_count 78 = .ok (.getfield 32, 3) := by decide +kernel
theorem dC_count_81 : decode tp_bC_count 81 = .ok (.ireturn, 1) := by decide +kernel
theorem dC_count_82 : decode tp_bC_count 82 = .ok (.new 46, 3) := by decide +kernel
theorem dC_count_85 : decode tp_bC_count 85 = .ok (.dup, 1) := by decide +kernel
theorem dC_count_86 : decode tp_bC_count 86 = .ok (.invokespecial 48, 3) := by decide +kernel
theorem dC_count_89 : decode tp_bC_count 89 = .ok (.athrow, 1) := by decide +kernel
theorem dC_isThere_0 : decode tp_bC_isThere 0 = .ok (.iload_n 1, 1) := by decide +kernel
theorem dC_isThere_1 : decode tp_bC_isThere 1 = .ok (.ifCond .lt 22, 3) := by decide +kernel
theorem dC_isThere_4 : decode tp_bC_isThere 4 = .ok (.iload_n 1, 1) := by decide +kernel
theorem dC_isThere_5 : decode tp_bC_isThere 5 = .ok (.bipush 12, 2) := by decide +kernel
theorem dC_isThere_7 : decode tp_bC_isThere 7 = .ok (.if_icmp .ge 16, 3) := by decide +kernel
theorem dC_isThere_10 : decode tp_bC_isThere 10 = .ok (.aload_n 0, 1) := by decide +kernel
theorem dC_isThere_11 : decode tp_bC_isThere 11 = .ok (.getfield 9, 3) := by decide +kernel
theorem dC_isThere_14 : decode tp_bC_isThere 14 = .ok (.iload_n 1, 1) := by decide +kernel
theorem dC_isThere_15 : decode tp_bC_isThere 15 = .ok (.iaload, 1) := by decide +kernel
theorem dC_isThere_16 : decode tp_bC_isThere 16 = .ok (.ifCond .le 7, 3) := by decide +kernel
theorem dC_isThere_19 : decode tp_bC_isThere 19 = .ok (.iconst 1, 1) := by decide +kernel
theorem dC_isThere_20 : decode tp_bC_isThere 20 = .ok (.goto 4, 3) := by decide +kernel
theorem dC_isThere_23 : decode tp_bC_isThere 23 = .ok (.iconst 0, 1) := by decide +kernel
theorem dC_isThere_24 : decode tp_bC_isThere 24 = .ok (.ireturn, 1) := by decide +kernel
theorem dC_stays_0 : decode tp_bC_stays 0 = .ok (.aload_n 0, 1) := by decide +kernel
theorem dC_stays_1 : decode tp_bC_stays 1 = .ok (.iload_n 1, 1) := by decide +kernel
theorem dC_stays_2 : decode tp_bC_stays 2 = .ok (.invokevirtual 39, 3) := by decide +kernel
theorem dC_stays_5 : decode tp_bC_stays 5 = .ok (.ifCond .eq 16, 3) := by decide +kernel
theorem dC_stays_8 : decode tp_bC_stays 8 = .ok (.aload_n 0, 1) := by decide +kernel
theorem dC_stays_9 : decode tp_bC_stays 9 = .ok (.getfield 16, 3) := by decide +kernel
theorem dC_stays_12 : decode tp_bC_stays 12 = .ok (.iload_n 1, 1) := by decide +kernel
theorem dC_stays_13 : decode tp_bC_stays 13 = .ok (.baload, 1) := by decide +kernel
theorem dC_stays_14 : decode tp_bC_stays 14 = .ok (.ifCond .ne 7, 3) := by decide +kernel
theorem dC_stays_17 : decode tp_bC_stays 17 = .ok (.iconst 1, 1) := by decide +kernel
theorem dC_stays_18 : decode tp_bC_stays 18 = .ok (.goto 4, 3) := by decide +kernel
theorem dC_stays_21 : decode tp_bC_stays 21 = .ok (.iconst 0, 1) := by decide +kernel
theorem dC_stays_22 : decode tp_bC_stays 22 = .ok (.ireturn, 1) := by decide +kernel
theorem dC_freePlaces_0 : decode tp_bC_freePlaces 0 = .ok (.aload_n 0, 1) := by decide +kernel
theorem dC_freePlaces_1 : decode tp_bC_freePlaces 1 = .ok (.getfield 9, 3) := by decide +kernel
theorem dC_freePlaces_4 : decode tp_bC_freePlaces 4 = .ok (.iload_n 1, 1) := by decide +kernel
theorem dC_freePlaces_5 : decode tp_bC_freePlaces 5 = .ok (.iaload, 1) := by decide +kernel
theorem dC_freePlaces_6 : decode tp_bC_freePlaces 6 = .ok (.aload_n 0, 1) := by decide +kernel
theorem dC_freePlaces_7 : decode tp_bC_freePlaces 7 = .ok (.getfield 13, 3) := by decide +kernel
theorem dC_freePlaces_10 : decode tp_bC_freePlaces 10 = .ok (.iload_n 1, 1) := by decide +kernel
theorem dC_freePlaces_11 : decode tp_bC_freePlaces 11 = .ok (.iaload, 1) := by decide +kernel
theorem dC_freePlaces_12 : decode tp_bC_freePlaces 12 = .ok (.isub, 1) := by decide +kernel
theorem dC_freePlaces_13 : decode tp_bC_freePlaces 13 = .ok (.ireturn, 1) := by decide +kernel
theorem dC_staysWithRoom_0 : decode tp_bC_staysWithRoom 0 = .ok (.aload_n 0, 1) := by decide +kernel
theorem dC_staysWithRoom_1 : decode tp_bC_staysWithRoom 1 = .ok (.iload_n 1, 1) := by decide +kernel
theorem dC_staysWithRoom_2 : decode tp_bC_staysWithRoom 2 = .ok (.invokevirtual 109, 3) := by decide +kernel
theorem dC_staysWithRoom_5 : decode tp_bC_staysWithRoom 5 = .ok (.ifCond .eq 15, 3) := by decide +kernel
theorem dC_staysWithRoom_8 : decode tp_bC_staysWithRoom 8 = .ok (.aload_n 0, 1) := by decide +kernel
theorem dC_staysWithRoom_9 : decode tp_bC_staysWithRoom 9 = .ok (.iload_n 1, 1) := by decide +kernel
theorem dC_staysWithRoom_10 : decode tp_bC_staysWithRoom 10 = .ok (.invokevirtual 97, 3) := by decide +kernel
theorem dC_staysWithRoom_13 : decode tp_bC_staysWithRoom 13 = .ok (.ifCond .le 7, 3) := by decide +kernel
theorem dC_staysWithRoom_16 : decode tp_bC_staysWithRoom 16 = .ok (.iconst 1, 1) := by decide +kernel
theorem dC_staysWithRoom_17 : decode tp_bC_staysWithRoom 17 = .ok (.goto 4, 3) := by decide +kernel
theorem dC_staysWithRoom_20 : decode tp_bC_staysWithRoom 20 = .ok (.iconst 0, 1) := by decide +kernel
theorem dC_staysWithRoom_21 : decode tp_bC_staysWithRoom 21 = .ok (.ireturn, 1) := by decide +kernel
theorem dC_takeAway_0 : decode tp_bC_takeAway 0 = .ok (.aload_n 0, 1) := by decide +kernel
theorem dC_takeAway_1 : decode tp_bC_takeAway 1 = .ok (.getfield 9, 3) := by decide +kernel
theorem dC_takeAway_4 : decode tp_bC_takeAway 4 = .ok (.iload_n 1, 1) := by decide +kernel
theorem dC_takeAway_5 : decode tp_bC_takeAway 5 = .ok (.iconst 0, 1) := by decide +kernel
theorem dC_takeAway_6 : decode tp_bC_takeAway 6 = .ok (.iastore, 1) := by decide +kernel
theorem dC_takeAway_7 : decode tp_bC_takeAway 7 = .ok (.aload_n 0, 1) := by decide +kernel
theorem dC_takeAway_8 : decode tp_bC_takeAway 8 = .ok (.getfield 16, 3) := by decide +kernel
theorem dC_takeAway_11 : decode tp_bC_takeAway 11 = .ok (.iload_n 1, 1) := by decide +kernel
theorem dC_takeAway_12 : decode tp_bC_takeAway 12 = .ok (.iconst 0, 1) := by decide +kernel
theorem dC_takeAway_13 : decode tp_bC_takeAway 13 = .ok (.bastore, 1) := by decide +kernel
theorem dC_takeAway_14 : decode tp_bC_takeAway 14 = .ok (.return_, 1) := by decide +kernel
theorem dC_hasLeft_0 : decode tp_bC_hasLeft 0 = .ok (.aload_n 0, 1) := by decide +kernel
theorem dC_hasLeft_1 : decode tp_bC_hasLeft 1 = .ok (.getfield 16, 3) := by decide +kernel
theorem dC_hasLeft_4 : decode tp_bC_hasLeft 4 = .ok (.iload_n 1, 1) := by decide +kernel
theorem dC_hasLeft_5 : decode tp_bC_hasLeft 5 = .ok (.baload, 1) := by decide +kernel
theorem dC_hasLeft_6 : decode tp_bC_hasLeft 6 = .ok (.ifCond .eq 16, 3) := by decide +kernel
theorem dC_hasLeft_9 : decode tp_bC_hasLeft 9 = .ok (.aload_n 0, 1) := by decide +kernel
theorem dC_hasLeft_10 : decode tp_bC_hasLeft 10 = .ok (.getfield 13, 3) := by decide +kernel
theorem dC_hasLeft_13 : decode tp_bC_hasLeft 13 = .ok (.iload_n 1, 1) := by decide +kernel
theorem dC_hasLeft_14 : decode tp_bC_hasLeft 14 = .ok (.iaload, 1) := by decide +kernel
theorem dC_hasLeft_15 : decode tp_bC_hasLeft 15 = .ok (.ifCond .ne 7, 3) := by decide +kernel
theorem dC_hasLeft_18 : decode tp_bC_hasLeft 18 = .ok (.iconst 1, 1) := by decide +kernel
theorem dC_hasLeft_19 : decode tp_bC_hasLeft 19 = .ok (.goto 4, 3) := by decide +kernel
theorem dC_hasLeft_22 : decode tp_bC_hasLeft 22 = .ok (.iconst 0, 1) := by decide +kernel
theorem dC_hasLeft_23 : decode tp_bC_hasLeft 23 = .ok (.ireturn, 1) := by decide +kernel
theorem dC_emptiestBut_0 : decode tp_bC_emptiestBut 0 = .ok (.iconst (-1), 1) := by decide +kernel
theorem dC_emptiestBut_1 : decode tp_bC_emptiestBut 1 = .ok (.istore_n 2, 1) := by decide +kernel
theorem dC_emptiestBut_2 : decode tp_bC_emptiestBut 2 = .ok (.iconst 0, 1) := by decide +kernel
theorem dC_emptiestBut_3 : decode tp_bC_emptiestBut 3 = .ok (.istore_n 3, 1) := by decide +kernel
theorem dC_emptiestBut_4 : decode tp_bC_emptiestBut 4 = .ok (.iconst 0, 1) := by decide +kernel
theorem dC_emptiestBut_5 : decode tp_bC_emptiestBut 5 = .ok (.istore 4, 2) := by decide +kernel
theorem dC_emptiestBut_7 : decode tp_bC_emptiestBut 7 = .ok (.iload 4, 2) := by decide +kernel
theorem dC_emptiestBut_9 : decode tp_bC_emptiestBut 9 = .ok (.bipush 12, 2) := by decide +kernel
theorem dC_emptiestBut_11 : decode tp_bC_emptiestBut 11 = .ok (.if_icmp .ge 44, 3) := by decide +kernel
theorem dC_emptiestBut_14 : decode tp_bC_emptiestBut 14 = .ok (.iload 4, 2) := by decide +kernel
theorem dC_emptiestBut_16 : decode tp_bC_emptiestBut 16 = .ok (.iload_n 1, 1) := by decide +kernel
theorem dC_emptiestBut_17 : decode tp_bC_emptiestBut 17 = .ok (.if_icmp .eq 32, 3) := by decide +kernel
theorem dC_emptiestBut_20 : decode tp_bC_emptiestBut 20 = .ok (.aload_n 0, 1) := by decide +kernel
theorem dC_emptiestBut_21 : decode tp_bC_emptiestBut 21 = .ok (.iload 4, 2) := by decide +kernel
theorem dC_emptiestBut_23 : decode tp_bC_emptiestBut 23 = .ok (.invokevirtual 109, 3) := by decide +kernel
theorem dC_emptiestBut_26 : decode tp_bC_emptiestBut 26 = .ok (.ifCond .eq 23, 3) := by decide +kernel
theorem dC_emptiestBut_29 : decode tp_bC_emptiestBut 29 = .ok (.aload_n 0, 1) := by decide +kernel
theorem dC_emptiestBut_30 : decode tp_bC_emptiestBut 30 = .ok (.iload 4, 2) := by decide +kernel
theorem dC_emptiestBut_32 : decode tp_bC_emptiestBut 32 = .ok (.invokevirtual 97, 3) := by decide +kernel
theorem dC_emptiestBut_35 : decode tp_bC_emptiestBut 35 = .ok (.iload_n 3, 1) := by decide +kernel
theorem dC_emptiestBut_36 : decode tp_bC_emptiestBut 36 = .ok (.if_icmp .le 13, 3) := by decide +kernel
theorem dC_emptiestBut_39 : decode tp_bC_emptiestBut 39 = .ok (.iload 4, 2) := by decide +kernel
theorem dC_emptiestBut_41 : decode tp_bC_emptiestBut 41 = .ok (.istore_n 2, 1) := by decide +kernel
theorem dC_emptiestBut_42 : decode tp_bC_emptiestBut 42 = .ok (.aload_n 0, 1) := by decide +kernel
theorem dC_emptiestBut_43 : decode tp_bC_emptiestBut 43 = .ok (.iload 4, 2) := by decide +kernel
theorem dC_emptiestBut_45 : decode tp_bC_emptiestBut 45 = .ok (.invokevirtual 97, 3) := by decide +kernel
theorem dC_emptiestBut_48 : decode tp_bC_emptiestBut 48 = .ok (.istore_n 3, 1) := by decide +kernel
theorem dC_emptiestBut_49 : decode tp_bC_emptiestBut 49 = .ok (.iinc 4 1, 3) := by decide +kernel
theorem dC_emptiestBut_52 : decode tp_bC_emptiestBut 52 = .ok (.goto (-45), 3) := by decide +kernel
theorem dC_emptiestBut_55 : decode tp_bC_emptiestBut 55 = .ok (.iload_n 2, 1) := by decide +kernel
theorem dC_emptiestBut_56 : decode tp_bC_emptiestBut 56 = .ok (.ireturn, 1) := by decide +kernel
theorem dC_capacityWithout_0 : decode tp_bC_capacityWithout 0 = .ok (.iconst 0, 1) := by decide +kernel
theorem dC_capacityWithout_1 : decode tp_bC_capacityWithout 1 = .ok (.istore_n 2, 1) := by decide +kernel
theorem dC_capacityWithout_2 : decode tp_bC_capacityWithout 2 = .ok (.iconst 0, 1) := by decide +kernel
theorem dC_capacityWithout_3 : decode tp_bC_capacityWithout 3 = .ok (.istore_n 3, 1) := by decide +kernel
theorem dC_capacityWithout_4 : decode tp_bC_capacityWithout 4 = .ok (.iconst 0, 1) := by decide +kernel
theorem dC_capacityWithout_5 : decode tp_bC_capacityWithout 5 = .ok (.istore 4, 2) := by decide +kernel
theorem dC_capacityWithout_7 : decode tp_bC_capacityWithout 7 = .ok (.iload 4, 2) := by decide +kernel
theorem dC_capacityWithout_9 : decode tp_bC_capacityWithout 9 = .ok (.bipush 12, 2) := by decide +kernel
theorem dC_capacityWithout_11 : decode tp_bC_capacityWithout 11 = .ok (.if_icmp .ge 46, 3) := by decide +kernel
theorem dC_capacityWithout_14 : decode tp_bC_capacityWithout 14 = .ok (.iload 4, 2) := by decide +kernel
theorem dC_capacityWithout_16 : decode tp_bC_capacityWithout 16 = .ok (.iload_n 1, 1) := by decide +kernel
theorem dC_capacityWithout_17 : decode tp_bC_capacityWithout 17 = .ok (.if_icmp .eq 34, 3) := by decide +kernel
theorem dC_capacityWithout_20 : decode tp_bC_capacityWithout 20 = .ok (.aload_n 0, 1) := by decide +kernel
theorem dC_capacityWithout_21 : decode tp_bC_capacityWithout 21 = .ok (.iload 4, 2) := by decide +kernel
theorem dC_capacityWithout_23 : decode tp_bC_capacityWithout 23 = .ok (.invokevirtual 109, 3) := by decide +kernel
theorem dC_capacityWithout_26 : decode tp_bC_capacityWithout 26 = .ok (.ifCond .eq 25, 3) := by decide +kernel
theorem dC_capacityWithout_29 : decode tp_bC_capacityWithout 29 = .ok (.iload_n 2, 1) := by decide +kernel
theorem dC_capacityWithout_30 : decode tp_bC_capacityWithout 30 = .ok (.aload_n 0, 1) := by decide +kernel
theorem dC_capacityWithout_31 : decode tp_bC_capacityWithout 31 = .ok (.getfield 9, 3) := by decide +kernel
theorem dC_capacityWithout_34 : decode tp_bC_capacityWithout 34 = .ok (.iload 4, 2) := by decide +kernel
theorem dC_capacityWithout_36 : decode tp_bC_capacityWithout 36 = .ok (.iaload, 1) := by decide +kernel
theorem dC_capacityWithout_37 : decode tp_bC_capacityWithout 37 = .ok (.iadd, 1) := by decide +kernel
theorem dC_capacityWithout_38 : decode tp_bC_capacityWithout 38 = .ok (.istore_n 2, 1) := by decide +kernel
theorem dC_capacityWithout_39 : decode tp_bC_capacityWithout 39 = .ok (.iload_n 3, 1) := by decide +kernel
theorem dC_capacityWithout_40 : decode tp_bC_capacityWithout 40 = .ok (.aload_n 0, 1) := by decide +kernel
theorem dC_capacityWithout_41 : decode tp_bC_capacityWithout 41 = .ok (.getfield 9, 3) := by decide +kernel
theorem dC_capacityWithout_44 : decode tp_bC_capacityWithout 44 = .ok (.iload 4, 2) := by decide +kernel
theorem dC_capacityWithout_46 : decode tp_bC_capacityWithout 46 = .ok (.iaload, 1) := by decide +kernel
theorem dC_capacityWithout_47 : decode tp_bC_capacityWithout 47 = .ok (.invokestatic 112, 3) := by decide +kernel
theorem dC_capacityWithout_50 : decode tp_bC_capacityWithout 50 = .ok (.istore_n 3, 1) := by decide +kernel
theorem dC_capacityWithout_51 : decode tp_bC_capacityWithout 51 = .ok (.iinc 4 1, 3) := by decide +kernel
theorem dC_capacityWithout_54 : decode tp_bC_capacityWithout 54 = .ok (.goto (-47), 3) := by decide +kernel
theorem dC_capacityWithout_57 : decode tp_bC_capacityWithout 57 = .ok (.iload_n 2, 1) := by decide +kernel
theorem dC_capacityWithout_58 : decode tp_bC_capacityWithout 58 = .ok (.iconst 2, 1) := by decide +kernel
theorem dC_capacityWithout_59 : decode tp_bC_capacityWithout 59 = .ok (.idiv, 1) := by decide +kernel
theorem dC_capacityWithout_60 : decode tp_bC_capacityWithout 60 = .ok (.iload_n 2, 1) := by decide +kernel
theorem dC_capacityWithout_61 : decode tp_bC_capacityWithout 61 = .ok (.iload_n 3, 1) := by decide +kernel
theorem dC_capacityWithout_62 : decode tp_bC_capacityWithout 62 = .ok (.isub, 1) := by decide +kernel
theorem dC_capacityWithout_63 : decode tp_bC_capacityWithout 63 = .ok (.invokestatic 56, 3) := by decide +kernel
theorem dC_capacityWithout_66 : decode tp_bC_capacityWithout 66 = .ok (.ireturn, 1) := by decide +kernel
theorem dC_disksThere_0 : decode tp_bC_disksThere 0 = .ok (.iconst 0, 1) := by decide +kernel
theorem dC_disksThere_1 : decode tp_bC_disksThere 1 = .ok (.istore_n 1, 1) := by decide +kernel
theorem dC_disksThere_2 : decode tp_bC_disksThere 2 = .ok (.iconst 0, 1) := by decide +kernel
theorem dC_disksThere_3 : decode tp_bC_disksThere 3 = .ok (.istore_n 2, 1) := by decide +kernel
theorem dC_disksThere_4 : decode tp_bC_disksThere 4 = .ok (.iload_n 2, 1) := by decide +kernel
theorem dC_disksThere_5 : decode tp_bC_disksThere 5 = .ok (.bipush 12, 2) := by decide +kernel
theorem dC_disksThere_7 : decode tp_bC_disksThere 7 = .ok (.if_icmp .ge 20, 3) := by decide +kernel
theorem dC_disksThere_10 : decode tp_bC_disksThere 10 = .ok (.aload_n 0, 1) := by decide +kernel
theorem dC_disksThere_11 : decode tp_bC_disksThere 11 = .ok (.iload_n 2, 1) := by decide +kernel
theorem dC_disksThere_12 : decode tp_bC_disksThere 12 = .ok (.invokevirtual 39, 3) := by decide +kernel
