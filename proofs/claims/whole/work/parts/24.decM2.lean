theorem dM_roomForOne_24 : decode tp_bM_roomForOne 24 = .ok (.if_icmp .ne 14, 3) := by decide +kernel
theorem dM_roomForOne_27 : decode tp_bM_roomForOne 27 = .ok (.aload_n 0, 1) := by decide +kernel
theorem dM_roomForOne_28 : decode tp_bM_roomForOne 28 = .ok (.iload_n 1, 1) := by decide +kernel
theorem dM_roomForOne_29 : decode tp_bM_roomForOne 29 = .ok (.iconst (-1), 1) := by decide +kernel
theorem dM_roomForOne_30 : decode tp_bM_roomForOne 30 = .ok (.invokevirtual 71, 3) := by decide +kernel
theorem dM_roomForOne_33 : decode tp_bM_roomForOne 33 = .ok (.ifCond .eq 5, 3) := by decide +kernel
theorem dM_roomForOne_36 : decode tp_bM_roomForOne 36 = .ok (.iconst 1, 1) := by decide +kernel
theorem dM_roomForOne_37 : decode tp_bM_roomForOne 37 = .ok (.ireturn, 1) := by decide +kernel
theorem dM_roomForOne_38 : decode tp_bM_roomForOne 38 = .ok (.iinc 1 1, 3) := by decide +kernel
theorem dM_roomForOne_41 : decode tp_bM_roomForOne 41 = .ok (.goto (-39), 3) := by decide +kernel
theorem dM_roomForOne_44 : decode tp_bM_roomForOne 44 = .ok (.iconst 0, 1) := by decide +kernel
theorem dM_roomForOne_45 : decode tp_bM_roomForOne 45 = .ok (.ireturn, 1) := by decide +kernel
theorem dM_leaveOne_0 : decode tp_bM_leaveOne 0 = .ok (.iconst 0, 1) := by decide +kernel
theorem dM_leaveOne_1 : decode tp_bM_leaveOne 1 = .ok (.istore_n 2, 1) := by decide +kernel
theorem dM_leaveOne_2 : decode tp_bM_leaveOne 2 = .ok (.iload_n 2, 1) := by decide +kernel
theorem dM_leaveOne_3 : decode tp_bM_leaveOne 3 = .ok (.bipush 12, 2) := by decide +kernel
theorem dM_leaveOne_5 : decode tp_bM_leaveOne 5 = .ok (.if_icmp .ge 110, 3) := by decide +kernel
theorem dM_leaveOne_8 : decode tp_bM_leaveOne 8 = .ok (.iconst 0, 1) := by decide +kernel
theorem dM_leaveOne_9 : decode tp_bM_leaveOne 9 = .ok (.istore_n 3, 1) := by decide +kernel
theorem dM_leaveOne_10 : decode tp_bM_leaveOne 10 = .ok (.iload_n 3, 1) := by decide +kernel
theorem dM_leaveOne_11 : decode tp_bM_leaveOne 11 = .ok (.sipush 400, 3) := by decide +kernel
theorem dM_leaveOne_14 : decode tp_bM_leaveOne 14 = .ok (.if_icmp .ge 95, 3) := by decide +kernel
theorem dM_leaveOne_17 : decode tp_bM_leaveOne 17 = .ok (.aload_n 0, 1) := by decide +kernel
theorem dM_leaveOne_18 : decode tp_bM_leaveOne 18 = .ok (.getfield 7, 3) := by decide +kernel
theorem dM_leaveOne_21 : decode tp_bM_leaveOne 21 = .ok (.iload_n 2, 1) := by decide +kernel
theorem dM_leaveOne_22 : decode tp_bM_leaveOne 22 = .ok (.iaload, 1) := by decide +kernel
theorem dM_leaveOne_23 : decode tp_bM_leaveOne 23 = .ok (.ifCond .le 86, 3) := by decide +kernel
theorem dM_leaveOne_26 : decode tp_bM_leaveOne 26 = .ok (.aload_n 0, 1) := by decide +kernel
theorem dM_leaveOne_27 : decode tp_bM_leaveOne 27 = .ok (.getfield 13, 3) := by decide +kernel
theorem dM_leaveOne_30 : decode tp_bM_leaveOne 30 = .ok (.iload_n 2, 1) := by decide +kernel
theorem dM_leaveOne_31 : decode tp_bM_leaveOne 31 = .ok (.baload, 1) := by decide +kernel
theorem dM_leaveOne_32 : decode tp_bM_leaveOne 32 = .ok (.ifCond .eq 77, 3) := by decide +kernel
theorem dM_leaveOne_35 : decode tp_bM_leaveOne 35 = .ok (.aload_n 0, 1) := by decide +kernel
theorem dM_leaveOne_36 : decode tp_bM_leaveOne 36 = .ok (.iload_n 3, 1) := by decide +kernel
theorem dM_leaveOne_37 : decode tp_bM_leaveOne 37 = .ok (.iload_n 2, 1) := by decide +kernel
theorem dM_leaveOne_38 : decode tp_bM_leaveOne 38 = .ok (.invokevirtual 30, 3) := by decide +kernel
theorem dM_leaveOne_41 : decode tp_bM_leaveOne 41 = .ok (.ifCond .eq 62, 3) := by decide +kernel
theorem dM_leaveOne_44 : decode tp_bM_leaveOne 44 = .ok (.iload_n 1, 1) := by decide +kernel
theorem dM_leaveOne_45 : decode tp_bM_leaveOne 45 = .ok (.ifCond .eq 7, 3) := by decide +kernel
theorem dM_leaveOne_48 : decode tp_bM_leaveOne 48 = .ok (.iconst (-1), 1) := by decide +kernel
theorem dM_leaveOne_49 : decode tp_bM_leaveOne 49 = .ok (.goto 9, 3) := by decide +kernel
theorem dM_leaveOne_52 : decode tp_bM_leaveOne 52 = .ok (.aload_n 0, 1) := by decide +kernel
theorem dM_leaveOne_53 : decode tp_bM_leaveOne 53 = .ok (.iconst (-1), 1) := by decide +kernel
theorem dM_leaveOne_54 : decode tp_bM_leaveOne 54 = .ok (.iload_n 3, 1) := by decide +kernel
theorem dM_leaveOne_55 : decode tp_bM_leaveOne 55 = .ok (.invokevirtual 54, 3) := by decide +kernel
theorem dM_leaveOne_58 : decode tp_bM_leaveOne 58 = .ok (.istore 4, 2) := by decide +kernel
theorem dM_leaveOne_60 : decode tp_bM_leaveOne 60 = .ok (.iload 4, 2) := by decide +kernel
theorem dM_leaveOne_62 : decode tp_bM_leaveOne 62 = .ok (.ifCond .lt 26, 3) := by decide +kernel
theorem dM_leaveOne_65 : decode tp_bM_leaveOne 65 = .ok (.aload_n 0, 1) := by decide +kernel
theorem dM_leaveOne_66 : decode tp_bM_leaveOne 66 = .ok (.getfield 20, 3) := by decide +kernel
theorem dM_leaveOne_69 : decode tp_bM_leaveOne 69 = .ok (.iload_n 3, 1) := by decide +kernel
theorem dM_leaveOne_70 : decode tp_bM_leaveOne 70 = .ok (.aload_n 0, 1) := by decide +kernel
theorem dM_leaveOne_71 : decode tp_bM_leaveOne 71 = .ok (.getfield 20, 3) := by decide +kernel
theorem dM_leaveOne_74 : decode tp_bM_leaveOne 74 = .ok (.iload_n 3, 1) := by decide +kernel
theorem dM_leaveOne_75 : decode tp_bM_leaveOne 75 = .ok (.iaload, 1) := by decide +kernel
theorem dM_leaveOne_76 : decode tp_bM_leaveOne 76 = .ok (.iconst 1, 1) := by decide +kernel
theorem dM_leaveOne_77 : decode tp_bM_leaveOne 77 = .ok (.iload_n 2, 1) := by decide +kernel
theorem dM_leaveOne_78 : decode tp_bM_leaveOne 78 = .ok (.ishl, 1) := by decide +kernel
theorem dM_leaveOne_79 : decode tp_bM_leaveOne 79 = .ok (.isub, 1) := by decide +kernel
theorem dM_leaveOne_80 : decode tp_bM_leaveOne 80 = .ok (.iconst 1, 1) := by decide +kernel
theorem dM_leaveOne_81 : decode tp_bM_leaveOne 81 = .ok (.iload 4, 2) := by decide +kernel
theorem dM_leaveOne_83 : decode tp_bM_leaveOne 83 = .ok (.ishl, 1) := by decide +kernel
theorem dM_leaveOne_84 : decode tp_bM_leaveOne 84 = .ok (.iadd, 1) := by decide +kernel
theorem dM_leaveOne_85 : decode tp_bM_leaveOne 85 = .ok (.iastore, 1) := by decide +kernel
theorem dM_leaveOne_86 : decode tp_bM_leaveOne 86 = .ok (.iconst 1, 1) := by decide +kernel
theorem dM_leaveOne_87 : decode tp_bM_leaveOne 87 = .ok (.ireturn, 1) := by decide +kernel
theorem dM_leaveOne_88 : decode tp_bM_leaveOne 88 = .ok (.iload_n 1, 1) := by decide +kernel
theorem dM_leaveOne_89 : decode tp_bM_leaveOne 89 = .ok (.ifCond .eq 14, 3) := by decide +kernel
theorem dM_leaveOne_92 : decode tp_bM_leaveOne 92 = .ok (.aload_n 0, 1) := by decide +kernel
theorem dM_leaveOne_93 : decode tp_bM_leaveOne 93 = .ok (.iload_n 3, 1) := by decide +kernel
theorem dM_leaveOne_94 : decode tp_bM_leaveOne 94 = .ok (.iload_n 2, 1) := by decide +kernel
theorem dM_leaveOne_95 : decode tp_bM_leaveOne 95 = .ok (.invokevirtual 71, 3) := by decide +kernel
theorem dM_leaveOne_98 : decode tp_bM_leaveOne 98 = .ok (.ifCond .eq 5, 3) := by decide +kernel
theorem dM_leaveOne_101 : decode tp_bM_leaveOne 101 = .ok (.iconst 1, 1) := by decide +kernel
theorem dM_leaveOne_102 : decode tp_bM_leaveOne 102 = .ok (.ireturn, 1) := by decide +kernel
theorem dM_leaveOne_103 : decode tp_bM_leaveOne 103 = .ok (.iinc 3 1, 3) := by decide +kernel
theorem dM_leaveOne_106 : decode tp_bM_leaveOne 106 = .ok (.goto (-96), 3) := by decide +kernel
theorem dM_leaveOne_109 : decode tp_bM_leaveOne 109 = .ok (.iinc 2 1, 3) := by decide +kernel
theorem dM_leaveOne_112 : decode tp_bM_leaveOne 112 = .ok (.goto (-110), 3) := by decide +kernel
theorem dM_leaveOne_115 : decode tp_bM_leaveOne 115 = .ok (.iconst 0, 1) := by decide +kernel
theorem dM_leaveOne_116 : decode tp_bM_leaveOne 116 = .ok (.ireturn, 1) := by decide +kernel
theorem dM_doStep_0 : decode tp_bM_doStep 0 = .ok (.aload_n 0, 1) := by decide +kernel
theorem dM_doStep_1 : decode tp_bM_doStep 1 = .ok (.invokevirtual 74, 3) := by decide +kernel
theorem dM_doStep_4 : decode tp_bM_doStep 4 = .ok (.ifCond .eq 7, 3) := by decide +kernel
theorem dM_doStep_7 : decode tp_bM_doStep 7 = .ok (.iconst 1, 1) := by decide +kernel
theorem dM_doStep_8 : decode tp_bM_doStep 8 = .ok (.goto 39, 3) := by decide +kernel
theorem dM_doStep_11 : decode tp_bM_doStep 11 = .ok (.aload_n 0, 1) := by decide +kernel
theorem dM_doStep_12 : decode tp_bM_doStep 12 = .ok (.invokevirtual 78, 3) := by decide +kernel
theorem dM_doStep_15 : decode tp_bM_doStep 15 = .ok (.ifCond .eq 7, 3) := by decide +kernel
theorem dM_doStep_18 : decode tp_bM_doStep 18 = .ok (.iconst 2, 1) := by decide +kernel
theorem dM_doStep_19 : decode tp_bM_doStep 19 = .ok (.goto 28, 3) := by decide +kernel
theorem dM_doStep_22 : decode tp_bM_doStep 22 = .ok (.aload_n 0, 1) := by decide +kernel
theorem dM_doStep_23 : decode tp_bM_doStep 23 = .ok (.iconst 0, 1) := by decide +kernel
theorem dM_doStep_24 : decode tp_bM_doStep 24 = .ok (.invokevirtual 81, 3) := by decide +kernel
theorem dM_doStep_27 : decode tp_bM_doStep 27 = .ok (.ifCond .eq 7, 3) := by decide +kernel
theorem dM_doStep_30 : decode tp_bM_doStep 30 = .ok (.iconst 3, 1) := by decide +kernel
theorem dM_doStep_31 : decode tp_bM_doStep 31 = .ok (.goto 16, 3) := by decide +kernel
theorem dM_doStep_34 : decode tp_bM_doStep 34 = .ok (.aload_n 0, 1) := by decide +kernel
theorem dM_doStep_35 : decode tp_bM_doStep 35 = .ok (.iconst 1, 1) := by decide +kernel
theorem dM_doStep_36 : decode tp_bM_doStep 36 = .ok (.invokevirtual 81, 3) := by decide +kernel
theorem dM_doStep_39 : decode tp_bM_doStep 39 = .ok (.ifCond .eq 7, 3) := by decide +kernel
theorem dM_doStep_42 : decode tp_bM_doStep 42 = .ok (.iconst 4, 1) := by decide +kernel
theorem dM_doStep_43 : decode tp_bM_doStep 43 = .ok (.goto 4, 3) := by decide +kernel
theorem dM_doStep_46 : decode tp_bM_doStep 46 = .ok (.iconst 0, 1) := by decide +kernel
theorem dM_doStep_47 : decode tp_bM_doStep 47 = .ok (.istore_n 1, 1) := by decide +kernel
theorem dM_doStep_48 : decode tp_bM_doStep 48 = .ok (.aload_n 0, 1) := by decide +kernel
theorem dM_doStep_49 : decode tp_bM_doStep 49 = .ok (.invokevirtual 68, 3) := by decide +kernel
theorem dM_doStep_52 : decode tp_bM_doStep 52 = .ok (.iload_n 1, 1) := by decide +kernel
theorem dM_doStep_53 : decode tp_bM_doStep 53 = .ok (.ireturn, 1) := by decide +kernel
theorem dM_step_0 : decode tp_bM_step 0 = .ok (.aload_n 0, 1) := by decide +kernel
theorem dM_step_1 : decode tp_bM_step 1 = .ok (.iconst 0, 1) := by decide +kernel
theorem dM_step_2 : decode tp_bM_step 2 = .ok (.putfield 26, 3) := by decide +kernel
theorem dM_step_5 : decode tp_bM_step 5 = .ok (.aload_n 0, 1) := by decide +kernel
theorem dM_step_6 : decode tp_bM_step 6 = .ok (.invokevirtual 85, 3) := by decide +kernel
theorem dM_step_9 : decode tp_bM_step 9 = .ok (.ireturn, 1) := by decide +kernel
theorem dM_steps_0 : decode tp_bM_steps 0 = .ok (.aload_n 0, 1) := by decide +kernel
theorem dM_steps_1 : decode tp_bM_steps 1 = .ok (.iload_n 1, 1) := by decide +kernel
theorem dM_steps_2 : decode tp_bM_steps 2 = .ok (.ifCond .ge 7, 3) := by decide +kernel
theorem dM_steps_5 : decode tp_bM_steps 5 = .ok (.iconst 1, 1) := by decide +kernel
theorem dM_steps_6 : decode tp_bM_steps 6 = .ok (.goto 4, 3) := by decide +kernel
theorem dM_steps_9 : decode tp_bM_steps 9 = .ok (.iconst 0, 1) := by decide +kernel
theorem dM_steps_10 : decode tp_bM_steps 10 = .ok (.putfield 26, 3) := by decide +kernel
theorem dM_steps_13 : decode tp_bM_steps 13 = .ok (.iconst 0, 1) := by decide +kernel
theorem dM_steps_14 : decode tp_bM_steps 14 = .ok (.istore_n 2, 1) := by decide +kernel
theorem dM_steps_15 : decode tp_bM_steps 15 = .ok (.iload_n 1, 1) := by decide +kernel
theorem dM_steps_16 : decode tp_bM_steps 16 = .ok (.ifCond .le 7, 3) := by decide +kernel
theorem dM_steps_19 : decode tp_bM_steps 19 = .ok (.iconst 1, 1) := by decide +kernel
theorem dM_steps_20 : decode tp_bM_steps 20 = .ok (.goto 4, 3) := by decide +kernel
theorem dM_steps_23 : decode tp_bM_steps 23 = .ok (.iconst 0, 1) := by decide +kernel
theorem dM_steps_24 : decode tp_bM_steps 24 = .ok (.istore_n 3, 1) := by decide +kernel
theorem dM_steps_25 : decode tp_bM_steps 25 = .ok (.iload_n 3, 1) := by decide +kernel
theorem dM_steps_26 : decode tp_bM_steps 26 = .ok (.ifCond .eq 46, 3) := by decide +kernel
theorem dM_steps_29 : decode tp_bM_steps 29 = .ok (.aload_n 0, 1) := by decide +kernel
theorem dM_steps_30 : decode tp_bM_steps 30 = .ok (.invokevirtual 85, 3) := by decide +kernel
theorem dM_steps_33 : decode tp_bM_steps 33 = .ok (.ifCond .le 7, 3) := by decide +kernel
theorem dM_steps_36 : decode tp_bM_steps 36 = .ok (.iconst 1, 1) := by decide +kernel
theorem dM_steps_37 : decode tp_bM_steps 37 = .ok (.goto 4, 3) := by decide +kernel
theorem dM_steps_40 : decode tp_bM_steps 40 = .ok (.iconst 0, 1) := by decide +kernel
theorem dM_steps_41 : decode tp_bM_steps 41 = .ok (.istore_n 3, 1) := by decide +kernel
theorem dM_steps_42 : decode tp_bM_steps 42 = .ok (.iload_n 3, 1) := by decide +kernel
theorem dM_steps_43 : decode tp_bM_steps 43 = .ok (.ifCond .eq 9, 3) := by decide +kernel
theorem dM_steps_46 : decode tp_bM_steps 46 = .ok (.iload_n 2, 1) := by decide +kernel
theorem dM_steps_47 : decode tp_bM_steps 47 = .ok (.iconst 1, 1) := by decide +kernel
theorem dM_steps_48 : decode tp_bM_steps 48 = .ok (.iadd, 1) := by decide +kernel
theorem dM_steps_49 : decode tp_bM_steps 49 = .ok (.goto 4, 3) := by decide +kernel
theorem dM_steps_52 : decode tp_bM_steps 52 = .ok (.iload_n 2, 1) := by decide +kernel
theorem dM_steps_53 : decode tp_bM_steps 53 = .ok (.istore_n 2, 1) := by decide +kernel
theorem dM_steps_54 : decode tp_bM_steps 54 = .ok (.iload_n 3, 1) := by decide +kernel
theorem dM_steps_55 : decode tp_bM_steps 55 = .ok (.ifCond .eq 12, 3) := by decide +kernel
theorem dM_steps_58 : decode tp_bM_steps 58 = .ok (.iload_n 2, 1) := by decide +kernel
theorem dM_steps_59 : decode tp_bM_steps 59 = .ok (.iload_n 1, 1) := by decide +kernel
theorem dM_steps_60 : decode tp_bM_steps 60 = .ok (.if_icmp .ge 7, 3) := by decide +kernel
theorem dM_steps_63 : decode tp_bM_steps 63 = .ok (.iconst 1, 1) := by decide +kernel
theorem dM_steps_64 : decode tp_bM_steps 64 = .ok (.goto 4, 3) := by decide +kernel
theorem dM_steps_67 : decode tp_bM_steps 67 = .ok (.iconst 0, 1) := by decide +kernel
theorem dM_steps_68 : decode tp_bM_steps 68 = .ok (.istore_n 3, 1) := by decide +kernel
theorem dM_steps_69 : decode tp_bM_steps 69 = .ok (.goto (-44), 3) := by decide +kernel
theorem dM_steps_72 : decode tp_bM_steps 72 = .ok (.iload_n 2, 1) := by decide +kernel
theorem dM_steps_73 : decode tp_bM_steps 73 = .ok (.ireturn, 1) := by decide +kernel
theorem dM_disk_0 : decode tp_bM_disk 0 = .ok (.aload_n 0, 1) := by decide +kernel
theorem dM_disk_1 : decode tp_bM_disk 1 = .ok (.iload_n 1, 1) := by decide +kernel
theorem dM_disk_2 : decode tp_bM_disk 2 = .ok (.ifCond .lt 9, 3) := by decide +kernel
theorem dM_disk_5 : decode tp_bM_disk 5 = .ok (.iload_n 1, 1) := by decide +kernel
theorem dM_disk_6 : decode tp_bM_disk 6 = .ok (.bipush 12, 2) := by decide +kernel
theorem dM_disk_8 : decode tp_bM_disk 8 = .ok (.if_icmp .lt 7, 3) := by decide +kernel
theorem dM_disk_11 : decode tp_bM_disk 11 = .ok (.iconst 1, 1) := by decide +kernel
theorem dM_disk_12 : decode tp_bM_disk 12 = .ok (.goto 33, 3) := by decide +kernel
theorem dM_disk_15 : decode tp_bM_disk 15 = .ok (.aload_n 0, 1) := by decide +kernel
theorem dM_disk_16 : decode tp_bM_disk 16 = .ok (.getfield 7, 3) := by decide +kernel
theorem dM_disk_19 : decode tp_bM_disk 19 = .ok (.iload_n 1, 1) := by decide +kernel
theorem dM_disk_20 : decode tp_bM_disk 20 = .ok (.iaload, 1) := by decide +kernel
theorem dM_disk_21 : decode tp_bM_disk 21 = .ok (.ifCond .le 7, 3) := by decide +kernel
theorem dM_disk_24 : decode tp_bM_disk 24 = .ok (.iconst 2, 1) := by decide +kernel
theorem dM_disk_25 : decode tp_bM_disk 25 = .ok (.goto 20, 3) := by decide +kernel
theorem dM_disk_28 : decode tp_bM_disk 28 = .ok (.iload_n 2, 1) := by decide +kernel
theorem dM_disk_29 : decode tp_bM_disk 29 = .ok (.iconst 1, 1) := by decide +kernel
theorem dM_disk_30 : decode tp_bM_disk 30 = .ok (.if_icmp .lt 10, 3) := by decide +kernel
theorem dM_disk_33 : decode tp_bM_disk 33 = .ok (.iload_n 2, 1) := by decide +kernel
theorem dM_disk_34 : decode tp_bM_disk 34 = .ok (.sipush 200, 3) := by decide +kernel
theorem dM_disk_37 : decode tp_bM_disk 37 = .ok (.if_icmp .le 7, 3) := by decide +kernel
theorem dM_disk_40 : decode tp_bM_disk 40 = .ok (.iconst 3, 1) := by decide +kernel
theorem dM_disk_41 : decode tp_bM_disk 41 = .ok (.goto 4, 3) := by decide +kernel
theorem dM_disk_44 : decode tp_bM_disk 44 = .ok (.iconst 0, 1) := by decide +kernel
theorem dM_disk_45 : decode tp_bM_disk 45 = .ok (.putfield 26, 3) := by decide +kernel
theorem dM_disk_48 : decode tp_bM_disk 48 = .ok (.aload_n 0, 1) := by decide +kernel
theorem dM_disk_49 : decode tp_bM_disk 49 = .ok (.getfield 26, 3) := by decide +kernel
theorem dM_disk_52 : decode tp_bM_disk 52 = .ok (.ifCond .ne 17, 3) := by decide +kernel
theorem dM_disk_55 : decode tp_bM_disk 55 = .ok (.aload_n 0, 1) := by decide +kernel
theorem dM_disk_56 : decode tp_bM_disk 56 = .ok (.getfield 7, 3) := by decide +kernel
theorem dM_disk_59 : decode tp_bM_disk 59 = .ok (.iload_n 1, 1) := by decide +kernel
theorem dM_disk_60 : decode tp_bM_disk 60 = .ok (.iload_n 2, 1) := by decide +kernel
theorem dM_disk_61 : decode tp_bM_disk 61 = .ok (.iastore, 1) := by decide +kernel
theorem dM_disk_62 : decode tp_bM_disk 62 = .ok (.aload_n 0, 1) := by decide +kernel
theorem dM_disk_63 : decode tp_bM_disk 63 = .ok (.getfield 13, 3) := by decide +kernel
theorem dM_disk_66 : decode tp_bM_disk 66 = .ok (.iload_n 1, 1) := by decide +kernel
theorem dM_disk_67 : decode tp_bM_disk 67 = .ok (.iconst 0, 1) := by decide +kernel
theorem dM_disk_68 : decode tp_bM_disk 68 = .ok (.bastore, 1) := by decide +kernel
theorem dM_disk_69 : decode tp_bM_disk 69 = .ok (.return_, 1) := by decide +kernel
theorem dM_fail_0 : decode tp_bM_fail 0 = .ok (.aload_n 0, 1) := by decide +kernel
theorem dM_fail_1 : decode tp_bM_fail 1 = .ok (.aload_n 0, 1) := by decide +kernel
theorem dM_fail_2 : decode tp_bM_fail 2 = .ok (.iload_n 1, 1) := by decide +kernel
theorem dM_fail_3 : decode tp_bM_fail 3 = .ok (.invokevirtual 88, 3) := by decide +kernel
theorem dM_fail_6 : decode tp_bM_fail 6 = .ok (.ifCond .eq 7, 3) := by decide +kernel
theorem dM_fail_9 : decode tp_bM_fail 9 = .ok (.iconst 0, 1) := by decide +kernel
theorem dM_fail_10 : decode tp_bM_fail 10 = .ok (.goto 4, 3) := by decide +kernel
theorem dM_fail_13 : decode tp_bM_fail 13 = .ok (.iconst 1, 1) := by decide +kernel
theorem dM_fail_14 : decode tp_bM_fail 14 = .ok (.putfield 26, 3) := by decide +kernel
theorem dM_fail_17 : decode tp_bM_fail 17 = .ok (.aload_n 0, 1) := by decide +kernel
theorem dM_fail_18 : decode tp_bM_fail 18 = .ok (.getfield 26, 3) := by decide +kernel
theorem dM_fail_21 : decode tp_bM_fail 21 = .ok (.ifCond .le 5, 3) := by decide +kernel
theorem dM_fail_24 : decode tp_bM_fail 24 = .ok (.iconst 0, 1) := by decide +kernel
theorem dM_fail_25 : decode tp_bM_fail 25 = .ok (.ireturn, 1) := by decide +kernel
theorem dM_fail_26 : decode tp_bM_fail 26 = .ok (.aload_n 0, 1) := by decide +kernel
theorem dM_fail_27 : decode tp_bM_fail 27 = .ok (.iload_n 1, 1) := by decide +kernel
theorem dM_fail_28 : decode tp_bM_fail 28 = .ok (.invokevirtual 34, 3) := by decide +kernel
theorem dM_fail_31 : decode tp_bM_fail 31 = .ok (.istore_n 2, 1) := by decide +kernel
theorem dM_fail_32 : decode tp_bM_fail 32 = .ok (.iconst 0, 1) := by decide +kernel
theorem dM_fail_33 : decode tp_bM_fail 33 = .ok (.istore_n 3, 1) := by decide +kernel
theorem dM_fail_34 : decode tp_bM_fail 34 = .ok (.iload_n 3, 1) := by decide +kernel
theorem dM_fail_35 : decode tp_bM_fail 35 = .ok (.sipush 400, 3) := by decide +kernel
theorem dM_fail_38 : decode tp_bM_fail 38 = .ok (.if_icmp .ge 43, 3) := by decide +kernel
theorem dM_fail_41 : decode tp_bM_fail 41 = .ok (.aload_n 0, 1) := by decide +kernel
theorem dM_fail_42 : decode tp_bM_fail 42 = .ok (.getfield 20, 3) := by decide +kernel
theorem dM_fail_45 : decode tp_bM_fail 45 = .ok (.iload_n 3, 1) := by decide +kernel
theorem dM_fail_46 : decode tp_bM_fail 46 = .ok (.aload_n 0, 1) := by decide +kernel
theorem dM_fail_47 : decode tp_bM_fail 47 = .ok (.iload_n 3, 1) := by decide +kernel
theorem dM_fail_48 : decode tp_bM_fail 48 = .ok (.iload_n 1, 1) := by decide +kernel
theorem dM_fail_49 : decode tp_bM_fail 49 = .ok (.invokevirtual 30, 3) := by decide +kernel
theorem dM_fail_52 : decode tp_bM_fail 52 = .ok (.ifCond .eq 16, 3) := by decide +kernel
theorem dM_fail_55 : decode tp_bM_fail 55 = .ok (.aload_n 0, 1) := by decide +kernel
theorem dM_fail_56 : decode tp_bM_fail 56 = .ok (.getfield 20, 3) := by decide +kernel
theorem dM_fail_59 : decode tp_bM_fail 59 = .ok (.iload_n 3, 1) := by decide +kernel
theorem dM_fail_60 : decode tp_bM_fail 60 = .ok (.iaload, 1) := by decide +kernel
theorem dM_fail_61 : decode tp_bM_fail 61 = .ok (.iconst 1, 1) := by decide +kernel
theorem dM_fail_62 : decode tp_bM_fail 62 = .ok (.iload_n 1, 1) := by decide +kernel
theorem dM_fail_63 : decode tp_bM_fail 63 = .ok (.ishl, 1) := by decide +kernel
theorem dM_fail_64 : decode tp_bM_fail 64 = .ok (.isub, 1) := by decide +kernel
theorem dM_fail_65 : decode tp_bM_fail 65 = .ok (.goto 9, 3) := by decide +kernel
theorem dM_fail_68 : decode tp_bM_fail 68 = .ok (.aload_n 0, 1) := by decide +kernel
theorem dM_fail_69 : decode tp_bM_fail 69 = .ok (.getfield 20, 3) := by decide +kernel
theorem dM_fail_72 : decode tp_bM_fail 72 = .ok (.iload_n 3, 1) := by decide +kernel
theorem dM_fail_73 : decode tp_bM_fail 73 = .ok (.iaload, 1) := by decide +kernel
theorem dM_fail_74 : decode tp_bM_fail 74 = .ok (.iastore, 1) := by decide +kernel
theorem dM_fail_75 : decode tp_bM_fail 75 = .ok (.iinc 3 1, 3) := by decide +kernel
theorem dM_fail_78 : decode tp_bM_fail 78 = .ok (.goto (-44), 3) := by decide +kernel
theorem dM_fail_81 : decode tp_bM_fail 81 = .ok (.aload_n 0, 1) := by decide +kernel
theorem dM_fail_82 : decode tp_bM_fail 82 = .ok (.getfield 7, 3) := by decide +kernel
theorem dM_fail_85 : decode tp_bM_fail 85 = .ok (.iload_n 1, 1) := by decide +kernel
theorem dM_fail_86 : decode tp_bM_fail 86 = .ok (.iconst 0, 1) := by decide +kernel
theorem dM_fail_87 : decode tp_bM_fail 87 = .ok (.iastore, 1) := by decide +kernel
theorem dM_fail_88 : decode tp_bM_fail 88 = .ok (.iload_n 2, 1) := by decide +kernel
theorem dM_fail_89 : decode tp_bM_fail 89 = .ok (.ireturn, 1) := by decide +kernel
theorem dM_leave_0 : decode tp_bM_leave 0 = .ok (.aload_n 0, 1) := by decide +kernel
theorem dM_leave_1 : decode tp_bM_leave 1 = .ok (.aload_n 0, 1) := by decide +kernel
theorem dM_leave_2 : decode tp_bM_leave 2 = .ok (.iload_n 1, 1) := by decide +kernel
theorem dM_leave_3 : decode tp_bM_leave 3 = .ok (.invokevirtual 88, 3) := by decide +kernel
theorem dM_leave_6 : decode tp_bM_leave 6 = .ok (.ifCond .ne 7, 3) := by decide +kernel
theorem dM_leave_9 : decode tp_bM_leave 9 = .ok (.iconst 1, 1) := by decide +kernel
theorem dM_leave_10 : decode tp_bM_leave 10 = .ok (.goto 47, 3) := by decide +kernel
theorem dM_leave_13 : decode tp_bM_leave 13 = .ok (.aload_n 0, 1) := by decide +kernel
theorem dM_leave_14 : decode tp_bM_leave 14 = .ok (.getfield 13, 3) := by decide +kernel
theorem dM_leave_17 : decode tp_bM_leave 17 = .ok (.iload_n 1, 1) := by decide +kernel
theorem dM_leave_18 : decode tp_bM_leave 18 = .ok (.baload, 1) := by decide +kernel
theorem dM_leave_19 : decode tp_bM_leave 19 = .ok (.ifCond .ne 17, 3) := by decide +kernel
theorem dM_leave_22 : decode tp_bM_leave 22 = .ok (.aload_n 0, 1) := by decide +kernel
theorem dM_leave_23 : decode tp_bM_leave 23 = .ok (.iconst 0, 1) := by decide +kernel
theorem dM_leave_24 : decode tp_bM_leave 24 = .ok (.invokevirtual 48, 3) := by decide +kernel
theorem dM_leave_27 : decode tp_bM_leave 27 = .ok (.aload_n 0, 1) := by decide +kernel
theorem dM_leave_28 : decode tp_bM_leave 28 = .ok (.iconst 1, 1) := by decide +kernel
theorem dM_leave_29 : decode tp_bM_leave 29 = .ok (.invokevirtual 48, 3) := by decide +kernel
theorem dM_leave_32 : decode tp_bM_leave 32 = .ok (.iadd, 1) := by decide +kernel
theorem dM_leave_33 : decode tp_bM_leave 33 = .ok (.ifCond .le 7, 3) := by decide +kernel
theorem dM_leave_36 : decode tp_bM_leave 36 = .ok (.iconst 2, 1) := by decide +kernel
theorem dM_leave_37 : decode tp_bM_leave 37 = .ok (.goto 20, 3) := by decide +kernel
theorem dM_leave_40 : decode tp_bM_leave 40 = .ok (.aload_n 0, 1) := by decide +kernel
theorem dM_leave_41 : decode tp_bM_leave 41 = .ok (.invokevirtual 91, 3) := by decide +kernel
theorem dM_leave_44 : decode tp_bM_leave 44 = .ok (.aload_n 0, 1) := by decide +kernel
theorem dM_leave_45 : decode tp_bM_leave 45 = .ok (.iload_n 1, 1) := by decide +kernel
theorem dM_leave_46 : decode tp_bM_leave 46 = .ok (.invokevirtual 94, 3) := by decide +kernel
theorem dM_leave_49 : decode tp_bM_leave 49 = .ok (.if_icmp .le 7, 3) := by decide +kernel
theorem dM_leave_52 : decode tp_bM_leave 52 = .ok (.iconst 3, 1) := by decide +kernel
theorem dM_leave_53 : decode tp_bM_leave 53 = .ok (.goto 4, 3) := by decide +kernel
theorem dM_leave_56 : decode tp_bM_leave 56 = .ok (.iconst 0, 1) := by decide +kernel
theorem dM_leave_57 : decode tp_bM_leave 57 = .ok (.putfield 26, 3) := by decide +kernel
theorem dM_leave_60 : decode tp_bM_leave 60 = .ok (.aload_n 0, 1) := by decide +kernel
theorem dM_leave_61 : decode tp_bM_leave 61 = .ok (.getfield 26, 3) := by decide +kernel
theorem dM_leave_64 : decode tp_bM_leave 64 = .ok (.ifCond .le 5, 3) := by decide +kernel
theorem dM_leave_67 : decode tp_bM_leave 67 = .ok (.iconst 0, 1) := by decide +kernel
theorem dM_leave_68 : decode tp_bM_leave 68 = .ok (.ireturn, 1) := by decide +kernel
theorem dM_leave_69 : decode tp_bM_leave 69 = .ok (.aload_n 0, 1) := by decide +kernel
theorem dM_leave_70 : decode tp_bM_leave 70 = .ok (.getfield 13, 3) := by decide +kernel
theorem dM_leave_73 : decode tp_bM_leave 73 = .ok (.iload_n 1, 1) := by decide +kernel
theorem dM_leave_74 : decode tp_bM_leave 74 = .ok (.iconst 1, 1) := by decide +kernel
theorem dM_leave_75 : decode tp_bM_leave 75 = .ok (.bastore, 1) := by decide +kernel
theorem dM_leave_76 : decode tp_bM_leave 76 = .ok (.aload_n 0, 1) := by decide +kernel
theorem dM_leave_77 : decode tp_bM_leave 77 = .ok (.iload_n 1, 1) := by decide +kernel
theorem dM_leave_78 : decode tp_bM_leave 78 = .ok (.invokevirtual 34, 3) := by decide +kernel
theorem dM_leave_81 : decode tp_bM_leave 81 = .ok (.istore_n 2, 1) := by decide +kernel
theorem dM_leave_82 : decode tp_bM_leave 82 = .ok (.aload_n 0, 1) := by decide +kernel
theorem dM_leave_83 : decode tp_bM_leave 83 = .ok (.invokevirtual 68, 3) := by decide +kernel
