theorem dM_leave_86 : decode tp_bM_leave 86 = .ok (.iload_n 2, 1) := by decide +kernel
theorem dM_leave_87 : decode tp_bM_leave 87 = .ok (.ireturn, 1) := by decide +kernel
theorem dM_stay_0 : decode tp_bM_stay 0 = .ok (.aload_n 0, 1) := by decide +kernel
theorem dM_stay_1 : decode tp_bM_stay 1 = .ok (.aload_n 0, 1) := by decide +kernel
theorem dM_stay_2 : decode tp_bM_stay 2 = .ok (.iload_n 1, 1) := by decide +kernel
theorem dM_stay_3 : decode tp_bM_stay 3 = .ok (.invokevirtual 88, 3) := by decide +kernel
theorem dM_stay_6 : decode tp_bM_stay 6 = .ok (.ifCond .ne 7, 3) := by decide +kernel
theorem dM_stay_9 : decode tp_bM_stay 9 = .ok (.iconst 1, 1) := by decide +kernel
theorem dM_stay_10 : decode tp_bM_stay 10 = .ok (.goto 17, 3) := by decide +kernel
theorem dM_stay_13 : decode tp_bM_stay 13 = .ok (.aload_n 0, 1) := by decide +kernel
theorem dM_stay_14 : decode tp_bM_stay 14 = .ok (.getfield 13, 3) := by decide +kernel
theorem dM_stay_17 : decode tp_bM_stay 17 = .ok (.iload_n 1, 1) := by decide +kernel
theorem dM_stay_18 : decode tp_bM_stay 18 = .ok (.baload, 1) := by decide +kernel
theorem dM_stay_19 : decode tp_bM_stay 19 = .ok (.ifCond .ne 7, 3) := by decide +kernel
theorem dM_stay_22 : decode tp_bM_stay 22 = .ok (.iconst 2, 1) := by decide +kernel
theorem dM_stay_23 : decode tp_bM_stay 23 = .ok (.goto 4, 3) := by decide +kernel
theorem dM_stay_26 : decode tp_bM_stay 26 = .ok (.iconst 0, 1) := by decide +kernel
theorem dM_stay_27 : decode tp_bM_stay 27 = .ok (.putfield 26, 3) := by decide +kernel
theorem dM_stay_30 : decode tp_bM_stay 30 = .ok (.aload_n 0, 1) := by decide +kernel
theorem dM_stay_31 : decode tp_bM_stay 31 = .ok (.getfield 26, 3) := by decide +kernel
theorem dM_stay_34 : decode tp_bM_stay 34 = .ok (.ifCond .ne 10, 3) := by decide +kernel
theorem dM_stay_37 : decode tp_bM_stay 37 = .ok (.aload_n 0, 1) := by decide +kernel
theorem dM_stay_38 : decode tp_bM_stay 38 = .ok (.getfield 13, 3) := by decide +kernel
theorem dM_stay_41 : decode tp_bM_stay 41 = .ok (.iload_n 1, 1) := by decide +kernel
theorem dM_stay_42 : decode tp_bM_stay 42 = .ok (.iconst 0, 1) := by decide +kernel
theorem dM_stay_43 : decode tp_bM_stay 43 = .ok (.bastore, 1) := by decide +kernel
theorem dM_stay_44 : decode tp_bM_stay 44 = .ok (.return_, 1) := by decide +kernel
theorem dM_write_0 : decode tp_bM_write 0 = .ok (.aload_n 0, 1) := by decide +kernel
theorem dM_write_1 : decode tp_bM_write 1 = .ok (.aload_n 0, 1) := by decide +kernel
theorem dM_write_2 : decode tp_bM_write 2 = .ok (.iload_n 1, 1) := by decide +kernel
theorem dM_write_3 : decode tp_bM_write 3 = .ok (.invokevirtual 65, 3) := by decide +kernel
theorem dM_write_6 : decode tp_bM_write 6 = .ok (.ifCond .eq 12, 3) := by decide +kernel
theorem dM_write_9 : decode tp_bM_write 9 = .ok (.iload_n 2, 1) := by decide +kernel
theorem dM_write_10 : decode tp_bM_write 10 = .ok (.ifCond .lt 8, 3) := by decide +kernel
theorem dM_write_13 : decode tp_bM_write 13 = .ok (.iload_n 2, 1) := by decide +kernel
theorem dM_write_14 : decode tp_bM_write 14 = .ok (.iconst 3, 1) := by decide +kernel
theorem dM_write_15 : decode tp_bM_write 15 = .ok (.if_icmp .le 7, 3) := by decide +kernel
theorem dM_write_18 : decode tp_bM_write 18 = .ok (.iconst 1, 1) := by decide +kernel
theorem dM_write_19 : decode tp_bM_write 19 = .ok (.goto 17, 3) := by decide +kernel
theorem dM_write_22 : decode tp_bM_write 22 = .ok (.aload_n 0, 1) := by decide +kernel
theorem dM_write_23 : decode tp_bM_write 23 = .ok (.getfield 20, 3) := by decide +kernel
theorem dM_write_26 : decode tp_bM_write 26 = .ok (.iload_n 1, 1) := by decide +kernel
theorem dM_write_27 : decode tp_bM_write 27 = .ok (.iaload, 1) := by decide +kernel
theorem dM_write_28 : decode tp_bM_write 28 = .ok (.ifCond .ne 7, 3) := by decide +kernel
theorem dM_write_31 : decode tp_bM_write 31 = .ok (.iconst 2, 1) := by decide +kernel
theorem dM_write_32 : decode tp_bM_write 32 = .ok (.goto 4, 3) := by decide +kernel
theorem dM_write_35 : decode tp_bM_write 35 = .ok (.iconst 0, 1) := by decide +kernel
theorem dM_write_36 : decode tp_bM_write 36 = .ok (.putfield 26, 3) := by decide +kernel
theorem dM_write_39 : decode tp_bM_write 39 = .ok (.aload_n 0, 1) := by decide +kernel
theorem dM_write_40 : decode tp_bM_write 40 = .ok (.getfield 26, 3) := by decide +kernel
theorem dM_write_43 : decode tp_bM_write 43 = .ok (.ifCond .ne 14, 3) := by decide +kernel
theorem dM_write_46 : decode tp_bM_write 46 = .ok (.aload_n 0, 1) := by decide +kernel
theorem dM_write_47 : decode tp_bM_write 47 = .ok (.getfield 23, 3) := by decide +kernel
theorem dM_write_50 : decode tp_bM_write 50 = .ok (.iconst 4, 1) := by decide +kernel
theorem dM_write_51 : decode tp_bM_write 51 = .ok (.iload_n 1, 1) := by decide +kernel
theorem dM_write_52 : decode tp_bM_write 52 = .ok (.imul, 1) := by decide +kernel
theorem dM_write_53 : decode tp_bM_write 53 = .ok (.iload_n 2, 1) := by decide +kernel
theorem dM_write_54 : decode tp_bM_write 54 = .ok (.iadd, 1) := by decide +kernel
theorem dM_write_55 : decode tp_bM_write 55 = .ok (.iload_n 3, 1) := by decide +kernel
theorem dM_write_56 : decode tp_bM_write 56 = .ok (.iastore, 1) := by decide +kernel
theorem dM_write_57 : decode tp_bM_write 57 = .ok (.return_, 1) := by decide +kernel
theorem dM_read_0 : decode tp_bM_read 0 = .ok (.aload_n 0, 1) := by decide +kernel
theorem dM_read_1 : decode tp_bM_read 1 = .ok (.aload_n 0, 1) := by decide +kernel
theorem dM_read_2 : decode tp_bM_read 2 = .ok (.iload_n 1, 1) := by decide +kernel
theorem dM_read_3 : decode tp_bM_read 3 = .ok (.invokevirtual 65, 3) := by decide +kernel
theorem dM_read_6 : decode tp_bM_read 6 = .ok (.ifCond .eq 12, 3) := by decide +kernel
theorem dM_read_9 : decode tp_bM_read 9 = .ok (.iload_n 2, 1) := by decide +kernel
theorem dM_read_10 : decode tp_bM_read 10 = .ok (.ifCond .lt 8, 3) := by decide +kernel
theorem dM_read_13 : decode tp_bM_read 13 = .ok (.iload_n 2, 1) := by decide +kernel
theorem dM_read_14 : decode tp_bM_read 14 = .ok (.iconst 3, 1) := by decide +kernel
theorem dM_read_15 : decode tp_bM_read 15 = .ok (.if_icmp .le 7, 3) := by decide +kernel
theorem dM_read_18 : decode tp_bM_read 18 = .ok (.iconst 1, 1) := by decide +kernel
theorem dM_read_19 : decode tp_bM_read 19 = .ok (.goto 17, 3) := by decide +kernel
theorem dM_read_22 : decode tp_bM_read 22 = .ok (.aload_n 0, 1) := by decide +kernel
theorem dM_read_23 : decode tp_bM_read 23 = .ok (.getfield 20, 3) := by decide +kernel
theorem dM_read_26 : decode tp_bM_read 26 = .ok (.iload_n 1, 1) := by decide +kernel
theorem dM_read_27 : decode tp_bM_read 27 = .ok (.iaload, 1) := by decide +kernel
theorem dM_read_28 : decode tp_bM_read 28 = .ok (.ifCond .ne 7, 3) := by decide +kernel
theorem dM_read_31 : decode tp_bM_read 31 = .ok (.iconst 2, 1) := by decide +kernel
theorem dM_read_32 : decode tp_bM_read 32 = .ok (.goto 4, 3) := by decide +kernel
theorem dM_read_35 : decode tp_bM_read 35 = .ok (.iconst 0, 1) := by decide +kernel
theorem dM_read_36 : decode tp_bM_read 36 = .ok (.putfield 26, 3) := by decide +kernel
theorem dM_read_39 : decode tp_bM_read 39 = .ok (.aload_n 0, 1) := by decide +kernel
theorem dM_read_40 : decode tp_bM_read 40 = .ok (.getfield 26, 3) := by decide +kernel
theorem dM_read_43 : decode tp_bM_read 43 = .ok (.ifCond .le 7, 3) := by decide +kernel
theorem dM_read_46 : decode tp_bM_read 46 = .ok (.iconst 0, 1) := by decide +kernel
theorem dM_read_47 : decode tp_bM_read 47 = .ok (.goto 13, 3) := by decide +kernel
theorem dM_read_50 : decode tp_bM_read 50 = .ok (.aload_n 0, 1) := by decide +kernel
theorem dM_read_51 : decode tp_bM_read 51 = .ok (.getfield 23, 3) := by decide +kernel
theorem dM_read_54 : decode tp_bM_read 54 = .ok (.iconst 4, 1) := by decide +kernel
theorem dM_read_55 : decode tp_bM_read 55 = .ok (.iload_n 1, 1) := by decide +kernel
theorem dM_read_56 : decode tp_bM_read 56 = .ok (.imul, 1) := by decide +kernel
theorem dM_read_57 : decode tp_bM_read 57 = .ok (.iload_n 2, 1) := by decide +kernel
theorem dM_read_58 : decode tp_bM_read 58 = .ok (.iadd, 1) := by decide +kernel
theorem dM_read_59 : decode tp_bM_read 59 = .ok (.iaload, 1) := by decide +kernel
theorem dM_read_60 : decode tp_bM_read 60 = .ok (.ireturn, 1) := by decide +kernel
theorem dM_place_0 : decode tp_bM_place 0 = .ok (.aload_n 0, 1) := by decide +kernel
theorem dM_place_1 : decode tp_bM_place 1 = .ok (.aload_n 0, 1) := by decide +kernel
theorem dM_place_2 : decode tp_bM_place 2 = .ok (.iload_n 1, 1) := by decide +kernel
theorem dM_place_3 : decode tp_bM_place 3 = .ok (.invokevirtual 65, 3) := by decide +kernel
theorem dM_place_6 : decode tp_bM_place 6 = .ok (.ifCond .eq 7, 3) := by decide +kernel
theorem dM_place_9 : decode tp_bM_place 9 = .ok (.iconst 0, 1) := by decide +kernel
theorem dM_place_10 : decode tp_bM_place 10 = .ok (.goto 4, 3) := by decide +kernel
theorem dM_place_13 : decode tp_bM_place 13 = .ok (.iconst 1, 1) := by decide +kernel
theorem dM_place_14 : decode tp_bM_place 14 = .ok (.putfield 26, 3) := by decide +kernel
theorem dM_place_17 : decode tp_bM_place 17 = .ok (.aload_n 0, 1) := by decide +kernel
theorem dM_place_18 : decode tp_bM_place 18 = .ok (.getfield 26, 3) := by decide +kernel
theorem dM_place_21 : decode tp_bM_place 21 = .ok (.ifCond .le 5, 3) := by decide +kernel
theorem dM_place_24 : decode tp_bM_place 24 = .ok (.iconst 0, 1) := by decide +kernel
theorem dM_place_25 : decode tp_bM_place 25 = .ok (.ireturn, 1) := by decide +kernel
theorem dM_place_26 : decode tp_bM_place 26 = .ok (.iconst (-1), 1) := by decide +kernel
theorem dM_place_27 : decode tp_bM_place 27 = .ok (.istore_n 3, 1) := by decide +kernel
theorem dM_place_28 : decode tp_bM_place 28 = .ok (.iconst (-1), 1) := by decide +kernel
theorem dM_place_29 : decode tp_bM_place 29 = .ok (.istore 4, 2) := by decide +kernel
theorem dM_place_31 : decode tp_bM_place 31 = .ok (.iconst 0, 1) := by decide +kernel
theorem dM_place_32 : decode tp_bM_place 32 = .ok (.istore 5, 2) := by decide +kernel
theorem dM_place_34 : decode tp_bM_place 34 = .ok (.iload 5, 2) := by decide +kernel
theorem dM_place_36 : decode tp_bM_place 36 = .ok (.bipush 12, 2) := by decide +kernel
theorem dM_place_38 : decode tp_bM_place 38 = .ok (.if_icmp .ge 43, 3) := by decide +kernel
theorem dM_place_41 : decode tp_bM_place 41 = .ok (.aload_n 0, 1) := by decide +kernel
theorem dM_place_42 : decode tp_bM_place 42 = .ok (.iload_n 1, 1) := by decide +kernel
theorem dM_place_43 : decode tp_bM_place 43 = .ok (.iload 5, 2) := by decide +kernel
theorem dM_place_45 : decode tp_bM_place 45 = .ok (.invokevirtual 30, 3) := by decide +kernel
theorem dM_place_48 : decode tp_bM_place 48 = .ok (.ifCond .eq 27, 3) := by decide +kernel
theorem dM_place_51 : decode tp_bM_place 51 = .ok (.iload_n 3, 1) := by decide +kernel
theorem dM_place_52 : decode tp_bM_place 52 = .ok (.ifCond .ge 8, 3) := by decide +kernel
theorem dM_place_55 : decode tp_bM_place 55 = .ok (.iload 4, 2) := by decide +kernel
theorem dM_place_57 : decode tp_bM_place 57 = .ok (.goto 5, 3) := by decide +kernel
theorem dM_place_60 : decode tp_bM_place 60 = .ok (.iload 5, 2) := by decide +kernel
theorem dM_place_62 : decode tp_bM_place 62 = .ok (.istore 4, 2) := by decide +kernel
theorem dM_place_64 : decode tp_bM_place 64 = .ok (.iload_n 3, 1) := by decide +kernel
theorem dM_place_65 : decode tp_bM_place 65 = .ok (.ifCond .ge 8, 3) := by decide +kernel
theorem dM_place_68 : decode tp_bM_place 68 = .ok (.iload 5, 2) := by decide +kernel
theorem dM_place_70 : decode tp_bM_place 70 = .ok (.goto 4, 3) := by decide +kernel
theorem dM_place_73 : decode tp_bM_place 73 = .ok (.iload_n 3, 1) := by decide +kernel
theorem dM_place_74 : decode tp_bM_place 74 = .ok (.istore_n 3, 1) := by decide +kernel
theorem dM_place_75 : decode tp_bM_place 75 = .ok (.iinc 5 1, 3) := by decide +kernel
theorem dM_place_78 : decode tp_bM_place 78 = .ok (.goto (-44), 3) := by decide +kernel
theorem dM_place_81 : decode tp_bM_place 81 = .ok (.iload_n 2, 1) := by decide +kernel
theorem dM_place_82 : decode tp_bM_place 82 = .ok (.ifCond .eq 8, 3) := by decide +kernel
theorem dM_place_85 : decode tp_bM_place 85 = .ok (.iload 4, 2) := by decide +kernel
theorem dM_place_87 : decode tp_bM_place 87 = .ok (.goto 4, 3) := by decide +kernel
theorem dM_place_90 : decode tp_bM_place 90 = .ok (.iload_n 3, 1) := by decide +kernel
theorem dM_place_91 : decode tp_bM_place 91 = .ok (.ireturn, 1) := by decide +kernel
theorem dM_about_0 : decode tp_bM_about 0 = .ok (.aload_n 0, 1) := by decide +kernel
theorem dM_about_1 : decode tp_bM_about 1 = .ok (.aload_n 0, 1) := by decide +kernel
theorem dM_about_2 : decode tp_bM_about 2 = .ok (.iload_n 1, 1) := by decide +kernel
theorem dM_about_3 : decode tp_bM_about 3 = .ok (.invokevirtual 88, 3) := by decide +kernel
theorem dM_about_6 : decode tp_bM_about 6 = .ok (.ifCond .ne 7, 3) := by decide +kernel
theorem dM_about_9 : decode tp_bM_about 9 = .ok (.iconst 1, 1) := by decide +kernel
theorem dM_about_10 : decode tp_bM_about 10 = .ok (.goto 17, 3) := by decide +kernel
theorem dM_about_13 : decode tp_bM_about 13 = .ok (.iload_n 2, 1) := by decide +kernel
theorem dM_about_14 : decode tp_bM_about 14 = .ok (.ifCond .lt 8, 3) := by decide +kernel
theorem dM_about_17 : decode tp_bM_about 17 = .ok (.iload_n 2, 1) := by decide +kernel
theorem dM_about_18 : decode tp_bM_about 18 = .ok (.iconst 3, 1) := by decide +kernel
theorem dM_about_19 : decode tp_bM_about 19 = .ok (.if_icmp .le 7, 3) := by decide +kernel
theorem dM_about_22 : decode tp_bM_about 22 = .ok (.iconst 2, 1) := by decide +kernel
theorem dM_about_23 : decode tp_bM_about 23 = .ok (.goto 4, 3) := by decide +kernel
theorem dM_about_26 : decode tp_bM_about 26 = .ok (.iconst 0, 1) := by decide +kernel
theorem dM_about_27 : decode tp_bM_about 27 = .ok (.putfield 26, 3) := by decide +kernel
theorem dM_about_30 : decode tp_bM_about 30 = .ok (.aload_n 0, 1) := by decide +kernel
theorem dM_about_31 : decode tp_bM_about 31 = .ok (.getfield 26, 3) := by decide +kernel
theorem dM_about_34 : decode tp_bM_about 34 = .ok (.ifCond .le 5, 3) := by decide +kernel
theorem dM_about_37 : decode tp_bM_about 37 = .ok (.iconst 0, 1) := by decide +kernel
theorem dM_about_38 : decode tp_bM_about 38 = .ok (.ireturn, 1) := by decide +kernel
theorem dM_about_39 : decode tp_bM_about 39 = .ok (.iload_n 2, 1) := by decide +kernel
theorem dM_about_40 : decode tp_bM_about 40 = .ok (.iconst 3, 1) := by decide +kernel
theorem dM_about_41 : decode tp_bM_about 41 = .ok (.if_icmp .ge 44, 3) := by decide +kernel
theorem dM_about_44 : decode tp_bM_about 44 = .ok (.iload_n 2, 1) := by decide +kernel
theorem dM_about_45 : decode tp_bM_about 45 = .ok (.ifCond .ne 12, 3) := by decide +kernel
theorem dM_about_48 : decode tp_bM_about 48 = .ok (.aload_n 0, 1) := by decide +kernel
theorem dM_about_49 : decode tp_bM_about 49 = .ok (.getfield 7, 3) := by decide +kernel
theorem dM_about_52 : decode tp_bM_about 52 = .ok (.iload_n 1, 1) := by decide +kernel
theorem dM_about_53 : decode tp_bM_about 53 = .ok (.iaload, 1) := by decide +kernel
theorem dM_about_54 : decode tp_bM_about 54 = .ok (.goto 30, 3) := by decide +kernel
theorem dM_about_57 : decode tp_bM_about 57 = .ok (.iload_n 2, 1) := by decide +kernel
theorem dM_about_58 : decode tp_bM_about 58 = .ok (.iconst 1, 1) := by decide +kernel
theorem dM_about_59 : decode tp_bM_about 59 = .ok (.if_icmp .ne 11, 3) := by decide +kernel
theorem dM_about_62 : decode tp_bM_about 62 = .ok (.aload_n 0, 1) := by decide +kernel
theorem dM_about_63 : decode tp_bM_about 63 = .ok (.iload_n 1, 1) := by decide +kernel
theorem dM_about_64 : decode tp_bM_about 64 = .ok (.invokevirtual 42, 3) := by decide +kernel
theorem dM_about_67 : decode tp_bM_about 67 = .ok (.goto 17, 3) := by decide +kernel
theorem dM_about_70 : decode tp_bM_about 70 = .ok (.aload_n 0, 1) := by decide +kernel
theorem dM_about_71 : decode tp_bM_about 71 = .ok (.getfield 13, 3) := by decide +kernel
theorem dM_about_74 : decode tp_bM_about 74 = .ok (.iload_n 1, 1) := by decide +kernel
theorem dM_about_75 : decode tp_bM_about 75 = .ok (.baload, 1) := by decide +kernel
theorem dM_about_76 : decode tp_bM_about 76 = .ok (.ifCond .eq 7, 3) := by decide +kernel
theorem dM_about_79 : decode tp_bM_about 79 = .ok (.iconst 1, 1) := by decide +kernel
theorem dM_about_80 : decode tp_bM_about 80 = .ok (.goto 4, 3) := by decide +kernel
theorem dM_about_83 : decode tp_bM_about 83 = .ok (.iconst 0, 1) := by decide +kernel
theorem dM_about_84 : decode tp_bM_about 84 = .ok (.ireturn, 1) := by decide +kernel
theorem dM_about_85 : decode tp_bM_about 85 = .ok (.iconst 0, 1) := by decide +kernel
theorem dM_about_86 : decode tp_bM_about 86 = .ok (.istore_n 3, 1) := by decide +kernel
theorem dM_about_87 : decode tp_bM_about 87 = .ok (.iload_n 3, 1) := by decide +kernel
theorem dM_about_88 : decode tp_bM_about 88 = .ok (.sipush 400, 3) := by decide +kernel
theorem dM_about_91 : decode tp_bM_about 91 = .ok (.if_icmp .ge 20, 3) := by decide +kernel
theorem dM_about_94 : decode tp_bM_about 94 = .ok (.aload_n 0, 1) := by decide +kernel
theorem dM_about_95 : decode tp_bM_about 95 = .ok (.iload_n 3, 1) := by decide +kernel
theorem dM_about_96 : decode tp_bM_about 96 = .ok (.iload_n 1, 1) := by decide +kernel
theorem dM_about_97 : decode tp_bM_about 97 = .ok (.invokevirtual 30, 3) := by decide +kernel
theorem dM_about_100 : decode tp_bM_about 100 = .ok (.ifCond .eq 5, 3) := by decide +kernel
theorem dM_about_103 : decode tp_bM_about 103 = .ok (.iload_n 3, 1) := by decide +kernel
theorem dM_about_104 : decode tp_bM_about 104 = .ok (.ireturn, 1) := by decide +kernel
theorem dM_about_105 : decode tp_bM_about 105 = .ok (.iinc 3 1, 3) := by decide +kernel
theorem dM_about_108 : decode tp_bM_about 108 = .ok (.goto (-21), 3) := by decide +kernel
theorem dM_about_111 : decode tp_bM_about 111 = .ok (.iconst (-1), 1) := by decide +kernel
theorem dM_about_112 : decode tp_bM_about 112 = .ok (.ireturn, 1) := by decide +kernel
theorem dM_count_0 : decode tp_bM_count 0 = .ok (.aload_n 0, 1) := by decide +kernel
theorem dM_count_1 : decode tp_bM_count 1 = .ok (.iload_n 1, 1) := by decide +kernel
theorem dM_count_2 : decode tp_bM_count 2 = .ok (.ifCond .lt 13, 3) := by decide +kernel
theorem dM_count_5 : decode tp_bM_count 5 = .ok (.iload_n 1, 1) := by decide +kernel
theorem dM_count_6 : decode tp_bM_count 6 = .ok (.bipush 6, 2) := by decide +kernel
theorem dM_count_8 : decode tp_bM_count 8 = .ok (.if_icmp .gt 7, 3) := by decide +kernel
theorem dM_count_11 : decode tp_bM_count 11 = .ok (.iconst 0, 1) := by decide +kernel
theorem dM_count_12 : decode tp_bM_count 12 = .ok (.goto 4, 3) := by decide +kernel
theorem dM_count_15 : decode tp_bM_count 15 = .ok (.iconst 1, 1) := by decide +kernel
theorem dM_count_16 : decode tp_bM_count 16 = .ok (.putfield 26, 3) := by decide +kernel
theorem dM_count_19 : decode tp_bM_count 19 = .ok (.aload_n 0, 1) := by decide +kernel
theorem dM_count_20 : decode tp_bM_count 20 = .ok (.getfield 26, 3) := by decide +kernel
theorem dM_count_23 : decode tp_bM_count 23 = .ok (.ifCond .le 5, 3) := by decide +kernel
theorem dM_count_26 : decode tp_bM_count 26 = .ok (.iconst 0, 1) := by decide +kernel
theorem dM_count_27 : decode tp_bM_count 27 = .ok (.ireturn, 1) := by decide +kernel
theorem dM_count_28 : decode tp_bM_count 28 = .ok (.iconst 0, 1) := by decide +kernel
theorem dM_count_29 : decode tp_bM_count 29 = .ok (.istore_n 2, 1) := by decide +kernel
theorem dM_count_30 : decode tp_bM_count 30 = .ok (.iconst 0, 1) := by decide +kernel
theorem dM_count_31 : decode tp_bM_count 31 = .ok (.istore_n 3, 1) := by decide +kernel
theorem dM_count_32 : decode tp_bM_count 32 = .ok (.iconst 0, 1) := by decide +kernel
theorem dM_count_33 : decode tp_bM_count 33 = .ok (.istore 4, 2) := by decide +kernel
theorem dM_count_35 : decode tp_bM_count 35 = .ok (.iload 4, 2) := by decide +kernel
theorem dM_count_37 : decode tp_bM_count 37 = .ok (.bipush 12, 2) := by decide +kernel
theorem dM_count_39 : decode tp_bM_count 39 = .ok (.if_icmp .ge 60, 3) := by decide +kernel
theorem dM_count_42 : decode tp_bM_count 42 = .ok (.aload_n 0, 1) := by decide +kernel
theorem dM_count_43 : decode tp_bM_count 43 = .ok (.getfield 7, 3) := by decide +kernel
theorem dM_count_46 : decode tp_bM_count 46 = .ok (.iload 4, 2) := by decide +kernel
theorem dM_count_48 : decode tp_bM_count 48 = .ok (.iaload, 1) := by decide +kernel
theorem dM_count_49 : decode tp_bM_count 49 = .ok (.ifCond .le 9, 3) := by decide +kernel
theorem dM_count_52 : decode tp_bM_count 52 = .ok (.iload_n 2, 1) := by decide +kernel
theorem dM_count_53 : decode tp_bM_count 53 = .ok (.iconst 1, 1) := by decide +kernel
theorem dM_count_54 : decode tp_bM_count 54 = .ok (.iadd, 1) := by decide +kernel
theorem dM_count_55 : decode tp_bM_count 55 = .ok (.goto 4, 3) := by decide +kernel
theorem dM_count_58 : decode tp_bM_count 58 = .ok (.iload_n 2, 1) := by decide +kernel
theorem dM_count_59 : decode tp_bM_count 59 = .ok (.istore_n 2, 1) := by decide +kernel
theorem dM_count_60 : decode tp_bM_count 60 = .ok (.aload_n 0, 1) := by decide +kernel
theorem dM_count_61 : decode tp_bM_count 61 = .ok (.getfield 7, 3) := by decide +kernel
theorem dM_count_64 : decode tp_bM_count 64 = .ok (.iload 4, 2) := by decide +kernel
theorem dM_count_66 : decode tp_bM_count 66 = .ok (.iaload, 1) := by decide +kernel
theorem dM_count_67 : decode tp_bM_count 67 = .ok (.ifCond .le 24, 3) := by decide +kernel
theorem dM_count_70 : decode tp_bM_count 70 = .ok (.aload_n 0, 1) := by decide +kernel
theorem dM_count_71 : decode tp_bM_count 71 = .ok (.getfield 13, 3) := by decide +kernel
theorem dM_count_74 : decode tp_bM_count 74 = .ok (.iload 4, 2) := by decide +kernel
theorem dM_count_76 : decode tp_bM_count 76 = .ok (.baload, 1) := by decide +kernel
theorem dM_count_77 : decode tp_bM_count 77 = .ok (.ifCond .eq 14, 3) := by decide +kernel
theorem dM_count_80 : decode tp_bM_count 80 = .ok (.iload_n 3, 1) := by decide +kernel
theorem dM_count_81 : decode tp_bM_count 81 = .ok (.aload_n 0, 1) := by decide +kernel
theorem dM_count_82 : decode tp_bM_count 82 = .ok (.iload 4, 2) := by decide +kernel
theorem dM_count_84 : decode tp_bM_count 84 = .ok (.invokevirtual 34, 3) := by decide +kernel
theorem dM_count_87 : decode tp_bM_count 87 = .ok (.iadd, 1) := by decide +kernel
theorem dM_count_88 : decode tp_bM_count 88 = .ok (.goto 4, 3) := by decide +kernel
theorem dM_count_91 : decode tp_bM_count 91 = .ok (.iload_n 3, 1) := by decide +kernel
theorem dM_count_92 : decode tp_bM_count 92 = .ok (.istore_n 3, 1) := by decide +kernel
theorem dM_count_93 : decode tp_bM_count 93 = .ok (.iinc 4 1, 3) := by decide +kernel
theorem dM_count_96 : decode tp_bM_count 96 = .ok (.goto (-61), 3) := by decide +kernel
theorem dM_count_99 : decode tp_bM_count 99 = .ok (.iload_n 1, 1) := by decide +kernel
theorem dM_count_100 : decode tp_bM_count 100 = .ok (.ifCond .ne 7, 3) := by decide +kernel
theorem dM_count_103 : decode tp_bM_count 103 = .ok (.iload_n 2, 1) := by decide +kernel
theorem dM_count_104 : decode tp_bM_count 104 = .ok (.goto 67, 3) := by decide +kernel
theorem dM_count_107 : decode tp_bM_count 107 = .ok (.iload_n 1, 1) := by decide +kernel
theorem dM_count_108 : decode tp_bM_count 108 = .ok (.iconst 1, 1) := by decide +kernel
theorem dM_count_109 : decode tp_bM_count 109 = .ok (.if_icmp .ne 10, 3) := by decide +kernel
theorem dM_count_112 : decode tp_bM_count 112 = .ok (.aload_n 0, 1) := by decide +kernel
theorem dM_count_113 : decode tp_bM_count 113 = .ok (.invokevirtual 91, 3) := by decide +kernel
theorem dM_count_116 : decode tp_bM_count 116 = .ok (.goto 55, 3) := by decide +kernel
theorem dM_count_119 : decode tp_bM_count 119 = .ok (.iload_n 1, 1) := by decide +kernel
theorem dM_count_120 : decode tp_bM_count 120 = .ok (.iconst 2, 1) := by decide +kernel
theorem dM_count_121 : decode tp_bM_count 121 = .ok (.if_icmp .ne 11, 3) := by decide +kernel
theorem dM_count_124 : decode tp_bM_count 124 = .ok (.aload_n 0, 1) := by decide +kernel
theorem dM_count_125 : decode tp_bM_count 125 = .ok (.iconst (-1), 1) := by decide +kernel
theorem dM_count_126 : decode tp_bM_count 126 = .ok (.invokevirtual 94, 3) := by decide +kernel
theorem dM_count_129 : decode tp_bM_count 129 = .ok (.goto 42, 3) := by decide +kernel
theorem dM_count_132 : decode tp_bM_count 132 = .ok (.iload_n 1, 1) := by decide +kernel
theorem dM_count_133 : decode tp_bM_count 133 = .ok (.iconst 3, 1) := by decide +kernel
theorem dM_count_134 : decode tp_bM_count 134 = .ok (.if_icmp .ne 11, 3) := by decide +kernel
theorem dM_count_137 : decode tp_bM_count 137 = .ok (.aload_n 0, 1) := by decide +kernel
theorem dM_count_138 : decode tp_bM_count 138 = .ok (.iconst 1, 1) := by decide +kernel
theorem dM_count_139 : decode tp_bM_count 139 = .ok (.invokevirtual 48, 3) := by decide +kernel
theorem dM_count_142 : decode tp_bM_count 142 = .ok (.goto 29, 3) := by decide +kernel
theorem dM_count_145 : decode tp_bM_count 145 = .ok (.iload_n 1, 1) := by decide +kernel
theorem dM_count_146 : decode tp_bM_count 146 = .ok (.iconst 4, 1) := by decide +kernel
theorem dM_count_147 : decode tp_bM_count 147 = .ok (.if_icmp .ne 11, 3) := by decide +kernel
theorem dM_count_150 : decode tp_bM_count 150 = .ok (.aload_n 0, 1) := by decide +kernel
theorem dM_count_151 : decode tp_bM_count 151 = .ok (.iconst 0, 1) := by decide +kernel
theorem dM_count_152 : decode tp_bM_count 152 = .ok (.invokevirtual 48, 3) := by decide +kernel
theorem dM_count_155 : decode tp_bM_count 155 = .ok (.goto 16, 3) := by decide +kernel
theorem dM_count_158 : decode tp_bM_count 158 = .ok (.iload_n 1, 1) := by decide +kernel
theorem dM_count_159 : decode tp_bM_count 159 = .ok (.iconst 5, 1) := by decide +kernel
theorem dM_count_160 : decode tp_bM_count 160 = .ok (.if_icmp .ne 7, 3) := by decide +kernel
theorem dM_count_163 : decode tp_bM_count 163 = .ok (.iload_n 3, 1) := by decide +kernel
theorem dM_count_164 : decode tp_bM_count 164 = .ok (.goto 7, 3) := by decide +kernel
theorem dM_count_167 : decode tp_bM_count 167 = .ok (.aload_n 0, 1) := by decide +kernel
theorem dM_count_168 : decode tp_bM_count 168 = .ok (.getfield 51, 3) := by decide +kernel
