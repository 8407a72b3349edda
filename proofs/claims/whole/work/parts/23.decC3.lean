theorem dC_copyForRoom_36 : decode tp_bC_copyForRoom 36 = .ok (.iload_n 1, 1) := by decide +kernel
theorem dC_copyForRoom_37 : decode tp_bC_copyForRoom 37 = .ok (.iaload, 1) := by decide +kernel
theorem dC_copyForRoom_38 : decode tp_bC_copyForRoom 38 = .ok (.invokevirtual 109, 3) := by decide +kernel
theorem dC_copyForRoom_41 : decode tp_bC_copyForRoom 41 = .ok (.ifCond .eq 12, 3) := by decide +kernel
theorem dC_copyForRoom_44 : decode tp_bC_copyForRoom 44 = .ok (.aload_n 0, 1) := by decide +kernel
theorem dC_copyForRoom_45 : decode tp_bC_copyForRoom 45 = .ok (.getfield 26, 3) := by decide +kernel
theorem dC_copyForRoom_48 : decode tp_bC_copyForRoom 48 = .ok (.iload_n 1, 1) := by decide +kernel
theorem dC_copyForRoom_49 : decode tp_bC_copyForRoom 49 = .ok (.iaload, 1) := by decide +kernel
theorem dC_copyForRoom_50 : decode tp_bC_copyForRoom 50 = .ok (.goto 4, 3) := by decide +kernel
theorem dC_copyForRoom_53 : decode tp_bC_copyForRoom 53 = .ok (.iconst (-1), 1) := by decide +kernel
theorem dC_copyForRoom_54 : decode tp_bC_copyForRoom 54 = .ok (.ireturn, 1) := by decide +kernel
theorem dC_newChunk_0 : decode tp_bC_newChunk 0 = .ok (.aload_n 0, 1) := by decide +kernel
theorem dC_newChunk_1 : decode tp_bC_newChunk 1 = .ok (.invokevirtual 128, 3) := by decide +kernel
theorem dC_newChunk_4 : decode tp_bC_newChunk 4 = .ok (.istore_n 1, 1) := by decide +kernel
theorem dC_newChunk_5 : decode tp_bC_newChunk 5 = .ok (.aload_n 0, 1) := by decide +kernel
theorem dC_newChunk_6 : decode tp_bC_newChunk 6 = .ok (.iconst (-1), 1) := by decide +kernel
theorem dC_newChunk_7 : decode tp_bC_newChunk 7 = .ok (.invokevirtual 131, 3) := by decide +kernel
theorem dC_newChunk_10 : decode tp_bC_newChunk 10 = .ok (.istore_n 2, 1) := by decide +kernel
theorem dC_newChunk_11 : decode tp_bC_newChunk 11 = .ok (.iload_n 1, 1) := by decide +kernel
theorem dC_newChunk_12 : decode tp_bC_newChunk 12 = .ok (.iconst (-1), 1) := by decide +kernel
theorem dC_newChunk_13 : decode tp_bC_newChunk 13 = .ok (.if_icmp .eq 8, 3) := by decide +kernel
theorem dC_newChunk_16 : decode tp_bC_newChunk 16 = .ok (.iload_n 2, 1) := by decide +kernel
theorem dC_newChunk_17 : decode tp_bC_newChunk 17 = .ok (.iconst (-1), 1) := by decide +kernel
theorem dC_newChunk_18 : decode tp_bC_newChunk 18 = .ok (.if_icmp .ne 5, 3) := by decide +kernel
theorem dC_newChunk_21 : decode tp_bC_newChunk 21 = .ok (.iconst (-1), 1) := by decide +kernel
theorem dC_newChunk_22 : decode tp_bC_newChunk 22 = .ok (.ireturn, 1) := by decide +kernel
theorem dC_newChunk_23 : decode tp_bC_newChunk 23 = .ok (.aload_n 0, 1) := by decide +kernel
theorem dC_newChunk_24 : decode tp_bC_newChunk 24 = .ok (.iload_n 2, 1) := by decide +kernel
theorem dC_newChunk_25 : decode tp_bC_newChunk 25 = .ok (.invokevirtual 131, 3) := by decide +kernel
theorem dC_newChunk_28 : decode tp_bC_newChunk 28 = .ok (.istore_n 3, 1) := by decide +kernel
theorem dC_newChunk_29 : decode tp_bC_newChunk 29 = .ok (.iload_n 3, 1) := by decide +kernel
theorem dC_newChunk_30 : decode tp_bC_newChunk 30 = .ok (.iconst (-1), 1) := by decide +kernel
theorem dC_newChunk_31 : decode tp_bC_newChunk 31 = .ok (.if_icmp .ne 18, 3) := by decide +kernel
theorem dC_newChunk_34 : decode tp_bC_newChunk 34 = .ok (.aload_n 0, 1) := by decide +kernel
theorem dC_newChunk_35 : decode tp_bC_newChunk 35 = .ok (.iload_n 2, 1) := by decide +kernel
theorem dC_newChunk_36 : decode tp_bC_newChunk 36 = .ok (.invokevirtual 97, 3) := by decide +kernel
theorem dC_newChunk_39 : decode tp_bC_newChunk 39 = .ok (.iconst 2, 1) := by decide +kernel
theorem dC_newChunk_40 : decode tp_bC_newChunk 40 = .ok (.if_icmp .lt 9, 3) := by decide +kernel
theorem dC_newChunk_43 : decode tp_bC_newChunk 43 = .ok (.aload_n 0, 1) := by decide +kernel
theorem dC_newChunk_44 : decode tp_bC_newChunk 44 = .ok (.iload_n 2, 1) := by decide +kernel
theorem dC_newChunk_45 : decode tp_bC_newChunk 45 = .ok (.invokevirtual 134, 3) := by decide +kernel
theorem dC_newChunk_48 : decode tp_bC_newChunk 48 = .ok (.istore_n 3, 1) := by decide +kernel
theorem dC_newChunk_49 : decode tp_bC_newChunk 49 = .ok (.iload_n 3, 1) := by decide +kernel
theorem dC_newChunk_50 : decode tp_bC_newChunk 50 = .ok (.iconst (-1), 1) := by decide +kernel
theorem dC_newChunk_51 : decode tp_bC_newChunk 51 = .ok (.if_icmp .ne 5, 3) := by decide +kernel
theorem dC_newChunk_54 : decode tp_bC_newChunk 54 = .ok (.iconst (-1), 1) := by decide +kernel
theorem dC_newChunk_55 : decode tp_bC_newChunk 55 = .ok (.ireturn, 1) := by decide +kernel
theorem dC_newChunk_56 : decode tp_bC_newChunk 56 = .ok (.aload_n 0, 1) := by decide +kernel
theorem dC_newChunk_57 : decode tp_bC_newChunk 57 = .ok (.getfield 20, 3) := by decide +kernel
theorem dC_newChunk_60 : decode tp_bC_newChunk 60 = .ok (.iload_n 1, 1) := by decide +kernel
theorem dC_newChunk_61 : decode tp_bC_newChunk 61 = .ok (.iconst 1, 1) := by decide +kernel
theorem dC_newChunk_62 : decode tp_bC_newChunk 62 = .ok (.bastore, 1) := by decide +kernel
theorem dC_newChunk_63 : decode tp_bC_newChunk 63 = .ok (.aload_n 0, 1) := by decide +kernel
theorem dC_newChunk_64 : decode tp_bC_newChunk 64 = .ok (.iload_n 1, 1) := by decide +kernel
theorem dC_newChunk_65 : decode tp_bC_newChunk 65 = .ok (.iload_n 2, 1) := by decide +kernel
theorem dC_newChunk_66 : decode tp_bC_newChunk 66 = .ok (.invokevirtual 118, 3) := by decide +kernel
theorem dC_newChunk_69 : decode tp_bC_newChunk 69 = .ok (.aload_n 0, 1) := by decide +kernel
theorem dC_newChunk_70 : decode tp_bC_newChunk 70 = .ok (.iload_n 1, 1) := by decide +kernel
theorem dC_newChunk_71 : decode tp_bC_newChunk 71 = .ok (.iload_n 3, 1) := by decide +kernel
theorem dC_newChunk_72 : decode tp_bC_newChunk 72 = .ok (.invokevirtual 118, 3) := by decide +kernel
theorem dC_newChunk_75 : decode tp_bC_newChunk 75 = .ok (.aload_n 0, 1) := by decide +kernel
theorem dC_newChunk_76 : decode tp_bC_newChunk 76 = .ok (.iload_n 1, 1) := by decide +kernel
theorem dC_newChunk_77 : decode tp_bC_newChunk 77 = .ok (.invokevirtual 137, 3) := by decide +kernel
theorem dC_newChunk_80 : decode tp_bC_newChunk 80 = .ok (.iload_n 1, 1) := by decide +kernel
theorem dC_newChunk_81 : decode tp_bC_newChunk 81 = .ok (.ireturn, 1) := by decide +kernel
theorem dC_clearWords_0 : decode tp_bC_clearWords 0 = .ok (.iconst 0, 1) := by decide +kernel
theorem dC_clearWords_1 : decode tp_bC_clearWords 1 = .ok (.istore_n 2, 1) := by decide +kernel
theorem dC_clearWords_2 : decode tp_bC_clearWords 2 = .ok (.iload_n 2, 1) := by decide +kernel
theorem dC_clearWords_3 : decode tp_bC_clearWords 3 = .ok (.iconst 4, 1) := by decide +kernel
theorem dC_clearWords_4 : decode tp_bC_clearWords 4 = .ok (.if_icmp .ge 20, 3) := by decide +kernel
theorem dC_clearWords_7 : decode tp_bC_clearWords 7 = .ok (.aload_n 0, 1) := by decide +kernel
theorem dC_clearWords_8 : decode tp_bC_clearWords 8 = .ok (.getfield 29, 3) := by decide +kernel
theorem dC_clearWords_11 : decode tp_bC_clearWords 11 = .ok (.iload_n 1, 1) := by decide +kernel
theorem dC_clearWords_12 : decode tp_bC_clearWords 12 = .ok (.iconst 4, 1) := by decide +kernel
theorem dC_clearWords_13 : decode tp_bC_clearWords 13 = .ok (.imul, 1) := by decide +kernel
theorem dC_clearWords_14 : decode tp_bC_clearWords 14 = .ok (.iload_n 2, 1) := by decide +kernel
theorem dC_clearWords_15 : decode tp_bC_clearWords 15 = .ok (.iadd, 1) := by decide +kernel
theorem dC_clearWords_16 : decode tp_bC_clearWords 16 = .ok (.iconst 0, 1) := by decide +kernel
theorem dC_clearWords_17 : decode tp_bC_clearWords 17 = .ok (.iastore, 1) := by decide +kernel
theorem dC_clearWords_18 : decode tp_bC_clearWords 18 = .ok (.iinc 2 1, 3) := by decide +kernel
theorem dC_clearWords_21 : decode tp_bC_clearWords 21 = .ok (.goto (-19), 3) := by decide +kernel
theorem dC_clearWords_24 : decode tp_bC_clearWords 24 = .ok (.return_, 1) := by decide +kernel
theorem dC_nextStep_0 : decode tp_bC_nextStep 0 = .ok (.aload_n 0, 1) := by decide +kernel
theorem dC_nextStep_1 : decode tp_bC_nextStep 1 = .ok (.invokevirtual 140, 3) := by decide +kernel
theorem dC_nextStep_4 : decode tp_bC_nextStep 4 = .ok (.ifCond .eq 5, 3) := by decide +kernel
theorem dC_nextStep_7 : decode tp_bC_nextStep 7 = .ok (.iconst 1, 1) := by decide +kernel
theorem dC_nextStep_8 : decode tp_bC_nextStep 8 = .ok (.ireturn, 1) := by decide +kernel
theorem dC_nextStep_9 : decode tp_bC_nextStep 9 = .ok (.aload_n 0, 1) := by decide +kernel
theorem dC_nextStep_10 : decode tp_bC_nextStep 10 = .ok (.invokevirtual 144, 3) := by decide +kernel
theorem dC_nextStep_13 : decode tp_bC_nextStep 13 = .ok (.ifCond .eq 5, 3) := by decide +kernel
theorem dC_nextStep_16 : decode tp_bC_nextStep 16 = .ok (.iconst 2, 1) := by decide +kernel
theorem dC_nextStep_17 : decode tp_bC_nextStep 17 = .ok (.ireturn, 1) := by decide +kernel
theorem dC_nextStep_18 : decode tp_bC_nextStep 18 = .ok (.aload_n 0, 1) := by decide +kernel
theorem dC_nextStep_19 : decode tp_bC_nextStep 19 = .ok (.invokevirtual 147, 3) := by decide +kernel
theorem dC_nextStep_22 : decode tp_bC_nextStep 22 = .ok (.ifCond .eq 5, 3) := by decide +kernel
theorem dC_nextStep_25 : decode tp_bC_nextStep 25 = .ok (.iconst 3, 1) := by decide +kernel
theorem dC_nextStep_26 : decode tp_bC_nextStep 26 = .ok (.ireturn, 1) := by decide +kernel
theorem dC_nextStep_27 : decode tp_bC_nextStep 27 = .ok (.aload_n 0, 1) := by decide +kernel
theorem dC_nextStep_28 : decode tp_bC_nextStep 28 = .ok (.invokevirtual 150, 3) := by decide +kernel
theorem dC_nextStep_31 : decode tp_bC_nextStep 31 = .ok (.ifCond .eq 7, 3) := by decide +kernel
theorem dC_nextStep_34 : decode tp_bC_nextStep 34 = .ok (.iconst 4, 1) := by decide +kernel
theorem dC_nextStep_35 : decode tp_bC_nextStep 35 = .ok (.goto 4, 3) := by decide +kernel
theorem dC_nextStep_38 : decode tp_bC_nextStep 38 = .ok (.iconst 0, 1) := by decide +kernel
theorem dC_nextStep_39 : decode tp_bC_nextStep 39 = .ok (.ireturn, 1) := by decide +kernel
theorem dC_mendOne_0 : decode tp_bC_mendOne 0 = .ok (.iconst 0, 1) := by decide +kernel
theorem dC_mendOne_1 : decode tp_bC_mendOne 1 = .ok (.istore_n 1, 1) := by decide +kernel
theorem dC_mendOne_2 : decode tp_bC_mendOne 2 = .ok (.iload_n 1, 1) := by decide +kernel
theorem dC_mendOne_3 : decode tp_bC_mendOne 3 = .ok (.sipush 400, 3) := by decide +kernel
theorem dC_mendOne_6 : decode tp_bC_mendOne 6 = .ok (.if_icmp .ge 45, 3) := by decide +kernel
theorem dC_mendOne_9 : decode tp_bC_mendOne 9 = .ok (.aload_n 0, 1) := by decide +kernel
theorem dC_mendOne_10 : decode tp_bC_mendOne 10 = .ok (.iload_n 1, 1) := by decide +kernel
theorem dC_mendOne_11 : decode tp_bC_mendOne 11 = .ok (.invokevirtual 153, 3) := by decide +kernel
theorem dC_mendOne_14 : decode tp_bC_mendOne 14 = .ok (.ifCond .eq 16, 3) := by decide +kernel
theorem dC_mendOne_17 : decode tp_bC_mendOne 17 = .ok (.aload_n 0, 1) := by decide +kernel
theorem dC_mendOne_18 : decode tp_bC_mendOne 18 = .ok (.aload_n 0, 1) := by decide +kernel
theorem dC_mendOne_19 : decode tp_bC_mendOne 19 = .ok (.getfield 23, 3) := by decide +kernel
theorem dC_mendOne_22 : decode tp_bC_mendOne 22 = .ok (.iload_n 1, 1) := by decide +kernel
theorem dC_mendOne_23 : decode tp_bC_mendOne 23 = .ok (.iaload, 1) := by decide +kernel
theorem dC_mendOne_24 : decode tp_bC_mendOne 24 = .ok (.invokevirtual 131, 3) := by decide +kernel
theorem dC_mendOne_27 : decode tp_bC_mendOne 27 = .ok (.goto 4, 3) := by decide +kernel
theorem dC_mendOne_30 : decode tp_bC_mendOne 30 = .ok (.iconst (-1), 1) := by decide +kernel
theorem dC_mendOne_31 : decode tp_bC_mendOne 31 = .ok (.istore_n 2, 1) := by decide +kernel
theorem dC_mendOne_32 : decode tp_bC_mendOne 32 = .ok (.iload_n 2, 1) := by decide +kernel
theorem dC_mendOne_33 : decode tp_bC_mendOne 33 = .ok (.iconst (-1), 1) := by decide +kernel
theorem dC_mendOne_34 : decode tp_bC_mendOne 34 = .ok (.if_icmp .eq 11, 3) := by decide +kernel
theorem dC_mendOne_37 : decode tp_bC_mendOne 37 = .ok (.aload_n 0, 1) := by decide +kernel
theorem dC_mendOne_38 : decode tp_bC_mendOne 38 = .ok (.iload_n 1, 1) := by decide +kernel
theorem dC_mendOne_39 : decode tp_bC_mendOne 39 = .ok (.iload_n 2, 1) := by decide +kernel
theorem dC_mendOne_40 : decode tp_bC_mendOne 40 = .ok (.invokevirtual 118, 3) := by decide +kernel
theorem dC_mendOne_43 : decode tp_bC_mendOne 43 = .ok (.iconst 1, 1) := by decide +kernel
theorem dC_mendOne_44 : decode tp_bC_mendOne 44 = .ok (.ireturn, 1) := by decide +kernel
theorem dC_mendOne_45 : decode tp_bC_mendOne 45 = .ok (.iinc 1 1, 3) := by decide +kernel
theorem dC_mendOne_48 : decode tp_bC_mendOne 48 = .ok (.goto (-46), 3) := by decide +kernel
theorem dC_mendOne_51 : decode tp_bC_mendOne 51 = .ok (.iconst 0, 1) := by decide +kernel
theorem dC_mendOne_52 : decode tp_bC_mendOne 52 = .ok (.ireturn, 1) := by decide +kernel
theorem dC_makeRoomToMend_0 : decode tp_bC_makeRoomToMend 0 = .ok (.iconst 0, 1) := by decide +kernel
theorem dC_makeRoomToMend_1 : decode tp_bC_makeRoomToMend 1 = .ok (.istore_n 1, 1) := by decide +kernel
theorem dC_makeRoomToMend_2 : decode tp_bC_makeRoomToMend 2 = .ok (.iload_n 1, 1) := by decide +kernel
theorem dC_makeRoomToMend_3 : decode tp_bC_makeRoomToMend 3 = .ok (.sipush 400, 3) := by decide +kernel
theorem dC_makeRoomToMend_6 : decode tp_bC_makeRoomToMend 6 = .ok (.if_icmp .ge 50, 3) := by decide +kernel
theorem dC_makeRoomToMend_9 : decode tp_bC_makeRoomToMend 9 = .ok (.aload_n 0, 1) := by decide +kernel
theorem dC_makeRoomToMend_10 : decode tp_bC_makeRoomToMend 10 = .ok (.iload_n 1, 1) := by decide +kernel
theorem dC_makeRoomToMend_11 : decode tp_bC_makeRoomToMend 11 = .ok (.invokevirtual 153, 3) := by decide +kernel
theorem dC_makeRoomToMend_14 : decode tp_bC_makeRoomToMend 14 = .ok (.ifCond .eq 36, 3) := by decide +kernel
theorem dC_makeRoomToMend_17 : decode tp_bC_makeRoomToMend 17 = .ok (.aload_n 0, 1) := by decide +kernel
theorem dC_makeRoomToMend_18 : decode tp_bC_makeRoomToMend 18 = .ok (.aload_n 0, 1) := by decide +kernel
theorem dC_makeRoomToMend_19 : decode tp_bC_makeRoomToMend 19 = .ok (.getfield 23, 3) := by decide +kernel
theorem dC_makeRoomToMend_22 : decode tp_bC_makeRoomToMend 22 = .ok (.iload_n 1, 1) := by decide +kernel
theorem dC_makeRoomToMend_23 : decode tp_bC_makeRoomToMend 23 = .ok (.iaload, 1) := by decide +kernel
theorem dC_makeRoomToMend_24 : decode tp_bC_makeRoomToMend 24 = .ok (.invokevirtual 156, 3) := by decide +kernel
theorem dC_makeRoomToMend_27 : decode tp_bC_makeRoomToMend 27 = .ok (.ifCond .eq 23, 3) := by decide +kernel
theorem dC_makeRoomToMend_30 : decode tp_bC_makeRoomToMend 30 = .ok (.aload_n 0, 1) := by decide +kernel
theorem dC_makeRoomToMend_31 : decode tp_bC_makeRoomToMend 31 = .ok (.aload_n 0, 1) := by decide +kernel
theorem dC_makeRoomToMend_32 : decode tp_bC_makeRoomToMend 32 = .ok (.getfield 23, 3) := by decide +kernel
theorem dC_makeRoomToMend_35 : decode tp_bC_makeRoomToMend 35 = .ok (.iload_n 1, 1) := by decide +kernel
theorem dC_makeRoomToMend_36 : decode tp_bC_makeRoomToMend 36 = .ok (.iaload, 1) := by decide +kernel
theorem dC_makeRoomToMend_37 : decode tp_bC_makeRoomToMend 37 = .ok (.invokevirtual 134, 3) := by decide +kernel
theorem dC_makeRoomToMend_40 : decode tp_bC_makeRoomToMend 40 = .ok (.iconst (-1), 1) := by decide +kernel
theorem dC_makeRoomToMend_41 : decode tp_bC_makeRoomToMend 41 = .ok (.if_icmp .eq 7, 3) := by decide +kernel
theorem dC_makeRoomToMend_44 : decode tp_bC_makeRoomToMend 44 = .ok (.iconst 1, 1) := by decide +kernel
theorem dC_makeRoomToMend_45 : decode tp_bC_makeRoomToMend 45 = .ok (.goto 4, 3) := by decide +kernel
theorem dC_makeRoomToMend_48 : decode tp_bC_makeRoomToMend 48 = .ok (.iconst 0, 1) := by decide +kernel
theorem dC_makeRoomToMend_49 : decode tp_bC_makeRoomToMend 49 = .ok (.ireturn, 1) := by decide +kernel
theorem dC_makeRoomToMend_50 : decode tp_bC_makeRoomToMend 50 = .ok (.iinc 1 1, 3) := by decide +kernel
theorem dC_makeRoomToMend_53 : decode tp_bC_makeRoomToMend 53 = .ok (.goto (-51), 3) := by decide +kernel
theorem dC_makeRoomToMend_56 : decode tp_bC_makeRoomToMend 56 = .ok (.iconst 0, 1) := by decide +kernel
theorem dC_makeRoomToMend_57 : decode tp_bC_makeRoomToMend 57 = .ok (.ireturn, 1) := by decide +kernel
theorem dC_moveOneOff_0 : decode tp_bC_moveOneOff 0 = .ok (.iconst 0, 1) := by decide +kernel
theorem dC_moveOneOff_1 : decode tp_bC_moveOneOff 1 = .ok (.istore_n 1, 1) := by decide +kernel
theorem dC_moveOneOff_2 : decode tp_bC_moveOneOff 2 = .ok (.iload_n 1, 1) := by decide +kernel
theorem dC_moveOneOff_3 : decode tp_bC_moveOneOff 3 = .ok (.bipush 12, 2) := by decide +kernel
theorem dC_moveOneOff_5 : decode tp_bC_moveOneOff 5 = .ok (.if_icmp .ge 28, 3) := by decide +kernel
theorem dC_moveOneOff_8 : decode tp_bC_moveOneOff 8 = .ok (.aload_n 0, 1) := by decide +kernel
theorem dC_moveOneOff_9 : decode tp_bC_moveOneOff 9 = .ok (.getfield 16, 3) := by decide +kernel
theorem dC_moveOneOff_12 : decode tp_bC_moveOneOff 12 = .ok (.iload_n 1, 1) := by decide +kernel
theorem dC_moveOneOff_13 : decode tp_bC_moveOneOff 13 = .ok (.baload, 1) := by decide +kernel
theorem dC_moveOneOff_14 : decode tp_bC_moveOneOff 14 = .ok (.ifCond .eq 13, 3) := by decide +kernel
theorem dC_moveOneOff_17 : decode tp_bC_moveOneOff 17 = .ok (.aload_n 0, 1) := by decide +kernel
theorem dC_moveOneOff_18 : decode tp_bC_moveOneOff 18 = .ok (.iload_n 1, 1) := by decide +kernel
theorem dC_moveOneOff_19 : decode tp_bC_moveOneOff 19 = .ok (.invokevirtual 159, 3) := by decide +kernel
theorem dC_moveOneOff_22 : decode tp_bC_moveOneOff 22 = .ok (.ifCond .eq 5, 3) := by decide +kernel
theorem dC_moveOneOff_25 : decode tp_bC_moveOneOff 25 = .ok (.iconst 1, 1) := by decide +kernel
theorem dC_moveOneOff_26 : decode tp_bC_moveOneOff 26 = .ok (.ireturn, 1) := by decide +kernel
theorem dC_moveOneOff_27 : decode tp_bC_moveOneOff 27 = .ok (.iinc 1 1, 3) := by decide +kernel
theorem dC_moveOneOff_30 : decode tp_bC_moveOneOff 30 = .ok (.goto (-28), 3) := by decide +kernel
theorem dC_moveOneOff_33 : decode tp_bC_moveOneOff 33 = .ok (.iconst 0, 1) := by decide +kernel
theorem dC_moveOneOff_34 : decode tp_bC_moveOneOff 34 = .ok (.ireturn, 1) := by decide +kernel
theorem dC_moveOneOffDisk_0 : decode tp_bC_moveOneOffDisk 0 = .ok (.iconst 0, 1) := by decide +kernel
theorem dC_moveOneOffDisk_1 : decode tp_bC_moveOneOffDisk 1 = .ok (.istore_n 2, 1) := by decide +kernel
theorem dC_moveOneOffDisk_2 : decode tp_bC_moveOneOffDisk 2 = .ok (.iload_n 2, 1) := by decide +kernel
theorem dC_moveOneOffDisk_3 : decode tp_bC_moveOneOffDisk 3 = .ok (.sipush 400, 3) := by decide +kernel
theorem dC_moveOneOffDisk_6 : decode tp_bC_moveOneOffDisk 6 = .ok (.if_icmp .ge 47, 3) := by decide +kernel
theorem dC_moveOneOffDisk_9 : decode tp_bC_moveOneOffDisk 9 = .ok (.aload_n 0, 1) := by decide +kernel
theorem dC_moveOneOffDisk_10 : decode tp_bC_moveOneOffDisk 10 = .ok (.iload_n 2, 1) := by decide +kernel
theorem dC_moveOneOffDisk_11 : decode tp_bC_moveOneOffDisk 11 = .ok (.iload_n 1, 1) := by decide +kernel
theorem dC_moveOneOffDisk_12 : decode tp_bC_moveOneOffDisk 12 = .ok (.invokevirtual 73, 3) := by decide +kernel
theorem dC_moveOneOffDisk_15 : decode tp_bC_moveOneOffDisk 15 = .ok (.ifCond .eq 16, 3) := by decide +kernel
theorem dC_moveOneOffDisk_18 : decode tp_bC_moveOneOffDisk 18 = .ok (.aload_n 0, 1) := by decide +kernel
theorem dC_moveOneOffDisk_19 : decode tp_bC_moveOneOffDisk 19 = .ok (.aload_n 0, 1) := by decide +kernel
theorem dC_moveOneOffDisk_20 : decode tp_bC_moveOneOffDisk 20 = .ok (.iload_n 2, 1) := by decide +kernel
theorem dC_moveOneOffDisk_21 : decode tp_bC_moveOneOffDisk 21 = .ok (.iload_n 1, 1) := by decide +kernel
theorem dC_moveOneOffDisk_22 : decode tp_bC_moveOneOffDisk 22 = .ok (.invokevirtual 115, 3) := by decide +kernel
theorem dC_moveOneOffDisk_25 : decode tp_bC_moveOneOffDisk 25 = .ok (.invokevirtual 131, 3) := by decide +kernel
theorem dC_moveOneOffDisk_28 : decode tp_bC_moveOneOffDisk 28 = .ok (.goto 4, 3) := by decide +kernel
theorem dC_moveOneOffDisk_31 : decode tp_bC_moveOneOffDisk 31 = .ok (.iconst (-1), 1) := by decide +kernel
theorem dC_moveOneOffDisk_32 : decode tp_bC_moveOneOffDisk 32 = .ok (.istore_n 3, 1) := by decide +kernel
theorem dC_moveOneOffDisk_33 : decode tp_bC_moveOneOffDisk 33 = .ok (.iload_n 3, 1) := by decide +kernel
theorem dC_moveOneOffDisk_34 : decode tp_bC_moveOneOffDisk 34 = .ok (.iconst (-1), 1) := by decide +kernel
theorem dC_moveOneOffDisk_35 : decode tp_bC_moveOneOffDisk 35 = .ok (.if_icmp .eq 12, 3) := by decide +kernel
theorem dC_moveOneOffDisk_38 : decode tp_bC_moveOneOffDisk 38 = .ok (.aload_n 0, 1) := by decide +kernel
theorem dC_moveOneOffDisk_39 : decode tp_bC_moveOneOffDisk 39 = .ok (.iload_n 2, 1) := by decide +kernel
theorem dC_moveOneOffDisk_40 : decode tp_bC_moveOneOffDisk 40 = .ok (.iload_n 1, 1) := by decide +kernel
theorem dC_moveOneOffDisk_41 : decode tp_bC_moveOneOffDisk 41 = .ok (.iload_n 3, 1) := by decide +kernel
theorem dC_moveOneOffDisk_42 : decode tp_bC_moveOneOffDisk 42 = .ok (.invokevirtual 124, 3) := by decide +kernel
theorem dC_moveOneOffDisk_45 : decode tp_bC_moveOneOffDisk 45 = .ok (.iconst 1, 1) := by decide +kernel
theorem dC_moveOneOffDisk_46 : decode tp_bC_moveOneOffDisk 46 = .ok (.ireturn, 1) := by decide +kernel
theorem dC_moveOneOffDisk_47 : decode tp_bC_moveOneOffDisk 47 = .ok (.iinc 2 1, 3) := by decide +kernel
theorem dC_moveOneOffDisk_50 : decode tp_bC_moveOneOffDisk 50 = .ok (.goto (-48), 3) := by decide +kernel
theorem dC_moveOneOffDisk_53 : decode tp_bC_moveOneOffDisk 53 = .ok (.iconst 0, 1) := by decide +kernel
theorem dC_moveOneOffDisk_54 : decode tp_bC_moveOneOffDisk 54 = .ok (.ireturn, 1) := by decide +kernel
theorem dC_makeRoomToMoveOff_0 : decode tp_bC_makeRoomToMoveOff 0 = .ok (.iconst 0, 1) := by decide +kernel
theorem dC_makeRoomToMoveOff_1 : decode tp_bC_makeRoomToMoveOff 1 = .ok (.istore_n 1, 1) := by decide +kernel
theorem dC_makeRoomToMoveOff_2 : decode tp_bC_makeRoomToMoveOff 2 = .ok (.iload_n 1, 1) := by decide +kernel
theorem dC_makeRoomToMoveOff_3 : decode tp_bC_makeRoomToMoveOff 3 = .ok (.bipush 12, 2) := by decide +kernel
theorem dC_makeRoomToMoveOff_5 : decode tp_bC_makeRoomToMoveOff 5 = .ok (.if_icmp .ge 48, 3) := by decide +kernel
theorem dC_makeRoomToMoveOff_8 : decode tp_bC_makeRoomToMoveOff 8 = .ok (.aload_n 0, 1) := by decide +kernel
theorem dC_makeRoomToMoveOff_9 : decode tp_bC_makeRoomToMoveOff 9 = .ok (.getfield 16, 3) := by decide +kernel
theorem dC_makeRoomToMoveOff_12 : decode tp_bC_makeRoomToMoveOff 12 = .ok (.iload_n 1, 1) := by decide +kernel
theorem dC_makeRoomToMoveOff_13 : decode tp_bC_makeRoomToMoveOff 13 = .ok (.baload, 1) := by decide +kernel
theorem dC_makeRoomToMoveOff_14 : decode tp_bC_makeRoomToMoveOff 14 = .ok (.ifCond .eq 11, 3) := by decide +kernel
theorem dC_makeRoomToMoveOff_17 : decode tp_bC_makeRoomToMoveOff 17 = .ok (.aload_n 0, 1) := by decide +kernel
theorem dC_makeRoomToMoveOff_18 : decode tp_bC_makeRoomToMoveOff 18 = .ok (.iload_n 1, 1) := by decide +kernel
theorem dC_makeRoomToMoveOff_19 : decode tp_bC_makeRoomToMoveOff 19 = .ok (.invokevirtual 162, 3) := by decide +kernel
theorem dC_makeRoomToMoveOff_22 : decode tp_bC_makeRoomToMoveOff 22 = .ok (.goto 4, 3) := by decide +kernel
theorem dC_makeRoomToMoveOff_25 : decode tp_bC_makeRoomToMoveOff 25 = .ok (.iconst (-1), 1) := by decide +kernel
theorem dC_makeRoomToMoveOff_26 : decode tp_bC_makeRoomToMoveOff 26 = .ok (.istore_n 2, 1) := by decide +kernel
theorem dC_makeRoomToMoveOff_27 : decode tp_bC_makeRoomToMoveOff 27 = .ok (.iload_n 2, 1) := by decide +kernel
theorem dC_makeRoomToMoveOff_28 : decode tp_bC_makeRoomToMoveOff 28 = .ok (.iconst (-1), 1) := by decide +kernel
theorem dC_makeRoomToMoveOff_29 : decode tp_bC_makeRoomToMoveOff 29 = .ok (.if_icmp .eq 18, 3) := by decide +kernel
theorem dC_makeRoomToMoveOff_32 : decode tp_bC_makeRoomToMoveOff 32 = .ok (.aload_n 0, 1) := by decide +kernel
theorem dC_makeRoomToMoveOff_33 : decode tp_bC_makeRoomToMoveOff 33 = .ok (.iload_n 2, 1) := by decide +kernel
theorem dC_makeRoomToMoveOff_34 : decode tp_bC_makeRoomToMoveOff 34 = .ok (.invokevirtual 134, 3) := by decide +kernel
theorem dC_makeRoomToMoveOff_37 : decode tp_bC_makeRoomToMoveOff 37 = .ok (.iconst (-1), 1) := by decide +kernel
theorem dC_makeRoomToMoveOff_38 : decode tp_bC_makeRoomToMoveOff 38 = .ok (.if_icmp .eq 7, 3) := by decide +kernel
theorem dC_makeRoomToMoveOff_41 : decode tp_bC_makeRoomToMoveOff 41 = .ok (.iconst 1, 1) := by decide +kernel
theorem dC_makeRoomToMoveOff_42 : decode tp_bC_makeRoomToMoveOff 42 = .ok (.goto 4, 3) := by decide +kernel
theorem dC_makeRoomToMoveOff_45 : decode tp_bC_makeRoomToMoveOff 45 = .ok (.iconst 0, 1) := by decide +kernel
theorem dC_makeRoomToMoveOff_46 : decode tp_bC_makeRoomToMoveOff 46 = .ok (.ireturn, 1) := by decide +kernel
theorem dC_makeRoomToMoveOff_47 : decode tp_bC_makeRoomToMoveOff 47 = .ok (.iinc 1 1, 3) := by decide +kernel
theorem dC_makeRoomToMoveOff_50 : decode tp_bC_makeRoomToMoveOff 50 = .ok (.goto (-48), 3) := by decide +kernel
theorem dC_makeRoomToMoveOff_53 : decode tp_bC_makeRoomToMoveOff 53 = .ok (.iconst 0, 1) := by decide +kernel
theorem dC_makeRoomToMoveOff_54 : decode tp_bC_makeRoomToMoveOff 54 = .ok (.ireturn, 1) := by decide +kernel
theorem dC_otherDiskWithRoom_0 : decode tp_bC_otherDiskWithRoom 0 = .ok (.iconst 0, 1) := by decide +kernel
theorem dC_otherDiskWithRoom_1 : decode tp_bC_otherDiskWithRoom 1 = .ok (.istore_n 2, 1) := by decide +kernel
theorem dC_otherDiskWithRoom_2 : decode tp_bC_otherDiskWithRoom 2 = .ok (.iload_n 2, 1) := by decide +kernel
theorem dC_otherDiskWithRoom_3 : decode tp_bC_otherDiskWithRoom 3 = .ok (.sipush 400, 3) := by decide +kernel
theorem dC_otherDiskWithRoom_6 : decode tp_bC_otherDiskWithRoom 6 = .ok (.if_icmp .ge 38, 3) := by decide +kernel
theorem dC_otherDiskWithRoom_9 : decode tp_bC_otherDiskWithRoom 9 = .ok (.aload_n 0, 1) := by decide +kernel
theorem dC_otherDiskWithRoom_10 : decode tp_bC_otherDiskWithRoom 10 = .ok (.iload_n 2, 1) := by decide +kernel
theorem dC_otherDiskWithRoom_11 : decode tp_bC_otherDiskWithRoom 11 = .ok (.iload_n 1, 1) := by decide +kernel
theorem dC_otherDiskWithRoom_12 : decode tp_bC_otherDiskWithRoom 12 = .ok (.invokevirtual 73, 3) := by decide +kernel
theorem dC_otherDiskWithRoom_15 : decode tp_bC_otherDiskWithRoom 15 = .ok (.ifCond .eq 23, 3) := by decide +kernel
theorem dC_otherDiskWithRoom_18 : decode tp_bC_otherDiskWithRoom 18 = .ok (.aload_n 0, 1) := by decide +kernel
theorem dC_otherDiskWithRoom_19 : decode tp_bC_otherDiskWithRoom 19 = .ok (.aload_n 0, 1) := by decide +kernel
theorem dC_otherDiskWithRoom_20 : decode tp_bC_otherDiskWithRoom 20 = .ok (.iload_n 2, 1) := by decide +kernel
theorem dC_otherDiskWithRoom_21 : decode tp_bC_otherDiskWithRoom 21 = .ok (.iload_n 1, 1) := by decide +kernel
theorem dC_otherDiskWithRoom_22 : decode tp_bC_otherDiskWithRoom 22 = .ok (.invokevirtual 115, 3) := by decide +kernel
theorem dC_otherDiskWithRoom_25 : decode tp_bC_otherDiskWithRoom 25 = .ok (.invokevirtual 156, 3) := by decide +kernel
theorem dC_otherDiskWithRoom_28 : decode tp_bC_otherDiskWithRoom 28 = .ok (.ifCond .eq 10, 3) := by decide +kernel
theorem dC_otherDiskWithRoom_31 : decode tp_bC_otherDiskWithRoom 31 = .ok (.aload_n 0, 1) := by decide +kernel
theorem dC_otherDiskWithRoom_32 : decode tp_bC_otherDiskWithRoom 32 = .ok (.iload_n 2, 1) := by decide +kernel
theorem dC_otherDiskWithRoom_33 : decode tp_bC_otherDiskWithRoom 33 = .ok (.iload_n 1, 1) := by decide +kernel
theorem dC_otherDiskWithRoom_34 : decode tp_bC_otherDiskWithRoom 34 = .ok (.invokevirtual 115, 3) := by decide +kernel
theorem dC_otherDiskWithRoom_37 : decode tp_bC_otherDiskWithRoom 37 = .ok (.ireturn, 1) := by decide +kernel
theorem dC_otherDiskWithRoom_38 : decode tp_bC_otherDiskWithRoom 38 = .ok (.iinc 2 1, 3) := by decide +kernel
theorem dC_otherDiskWithRoom_41 : decode tp_bC_otherDiskWithRoom 41 = .ok (.goto (-39), 3) := by decide +kernel
theorem dC_otherDiskWithRoom_44 : decode tp_bC_otherDiskWithRoom 44 = .ok (.iconst (-1), 1) := by decide +kernel
theorem dC_otherDiskWithRoom_45 : decode tp_bC_otherDiskWithRoom 45 = .ok (.ireturn, 1) := by decide +kernel
