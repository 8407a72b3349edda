theorem dM_init_0 : decode tp_bM_init 0 = .ok (.aload_n 0, 1) := by decide +kernel
theorem dM_init_1 : decode tp_bM_init 1 = .ok (.invokespecial 1, 3) := by decide +kernel
theorem dM_init_4 : decode tp_bM_init 4 = .ok (.aload_n 0, 1) := by decide +kernel
theorem dM_init_5 : decode tp_bM_init 5 = .ok (.bipush 12, 2) := by decide +kernel
theorem dM_init_7 : decode tp_bM_init 7 = .ok (.newarray .int, 2) := by decide +kernel
theorem dM_init_9 : decode tp_bM_init 9 = .ok (.putfield 7, 3) := by decide +kernel
theorem dM_init_12 : decode tp_bM_init 12 = .ok (.aload_n 0, 1) := by decide +kernel
theorem dM_init_13 : decode tp_bM_init 13 = .ok (.bipush 12, 2) := by decide +kernel
theorem dM_init_15 : decode tp_bM_init 15 = .ok (.newarray .boolean, 2) := by decide +kernel
theorem dM_init_17 : decode tp_bM_init 17 = .ok (.putfield 13, 3) := by decide +kernel
theorem dM_init_20 : decode tp_bM_init 20 = .ok (.aload_n 0, 1) := by decide +kernel
theorem dM_init_21 : decode tp_bM_init 21 = .ok (.sipush 400, 3) := by decide +kernel
theorem dM_init_24 : decode tp_bM_init 24 = .ok (.newarray .boolean, 2) := by decide +kernel
theorem dM_init_26 : decode tp_bM_init 26 = .ok (.putfield 17, 3) := by decide +kernel
theorem dM_init_29 : decode tp_bM_init 29 = .ok (.aload_n 0, 1) := by decide +kernel
theorem dM_init_30 : decode tp_bM_init 30 = .ok (.sipush 400, 3) := by decide +kernel
theorem dM_init_33 : decode tp_bM_init 33 = .ok (.newarray .int, 2) := by decide +kernel
theorem dM_init_35 : decode tp_bM_init 35 = .ok (.putfield 20, 3) := by decide +kernel
theorem dM_init_38 : decode tp_bM_init 38 = .ok (.aload_n 0, 1) := by decide +kernel
theorem dM_init_39 : decode tp_bM_init 39 = .ok (.sipush 1600, 3) := by decide +kernel
theorem dM_init_42 : decode tp_bM_init 42 = .ok (.newarray .int, 2) := by decide +kernel
theorem dM_init_44 : decode tp_bM_init 44 = .ok (.putfield 23, 3) := by decide +kernel
theorem dM_init_47 : decode tp_bM_init 47 = .ok (.return_, 1) := by decide +kernel
theorem dM_thrown_0 : decode tp_bM_thrown 0 = .ok (.aload_n 0, 1) := by decide +kernel
theorem dM_thrown_1 : decode tp_bM_thrown 1 = .ok (.getfield 26, 3) := by decide +kernel
theorem dM_thrown_4 : decode tp_bM_thrown 4 = .ok (.ireturn, 1) := by decide +kernel
theorem dM_isDisk_0 : decode tp_bM_isDisk 0 = .ok (.iload_n 1, 1) := by decide +kernel
theorem dM_isDisk_1 : decode tp_bM_isDisk 1 = .ok (.ifCond .lt 22, 3) := by decide +kernel
theorem dM_isDisk_4 : decode tp_bM_isDisk 4 = .ok (.iload_n 1, 1) := by decide +kernel
theorem dM_isDisk_5 : decode tp_bM_isDisk 5 = .ok (.bipush 12, 2) := by decide +kernel
theorem dM_isDisk_7 : decode tp_bM_isDisk 7 = .ok (.if_icmp .ge 16, 3) := by decide +kernel
theorem dM_isDisk_10 : decode tp_bM_isDisk 10 = .ok (.aload_n 0, 1) := by decide +kernel
theorem dM_isDisk_11 : decode tp_bM_isDisk 11 = .ok (.getfield 7, 3) := by decide +kernel
theorem dM_isDisk_14 : decode tp_bM_isDisk 14 = .ok (.iload_n 1, 1) := by decide +kernel
theorem dM_isDisk_15 : decode tp_bM_isDisk 15 = .ok (.iaload, 1) := by decide +kernel
theorem dM_isDisk_16 : decode tp_bM_isDisk 16 = .ok (.ifCond .le 7, 3) := by decide +kernel
theorem dM_isDisk_19 : decode tp_bM_isDisk 19 = .ok (.iconst 1, 1) := by decide +kernel
theorem dM_isDisk_20 : decode tp_bM_isDisk 20 = .ok (.goto 4, 3) := by decide +kernel
theorem dM_isDisk_23 : decode tp_bM_isDisk 23 = .ok (.iconst 0, 1) := by decide +kernel
theorem dM_isDisk_24 : decode tp_bM_isDisk 24 = .ok (.ireturn, 1) := by decide +kernel
theorem dM_isChunk_0 : decode tp_bM_isChunk 0 = .ok (.iload_n 1, 1) := by decide +kernel
theorem dM_isChunk_1 : decode tp_bM_isChunk 1 = .ok (.ifCond .lt 23, 3) := by decide +kernel
theorem dM_isChunk_4 : decode tp_bM_isChunk 4 = .ok (.iload_n 1, 1) := by decide +kernel
theorem dM_isChunk_5 : decode tp_bM_isChunk 5 = .ok (.sipush 400, 3) := by decide +kernel
theorem dM_isChunk_8 : decode tp_bM_isChunk 8 = .ok (.if_icmp .ge 16, 3) := by decide +kernel
theorem dM_isChunk_11 : decode tp_bM_isChunk 11 = .ok (.aload_n 0, 1) := by decide +kernel
theorem dM_isChunk_12 : decode tp_bM_isChunk 12 = .ok (.getfield 17, 3) := by decide +kernel
theorem dM_isChunk_15 : decode tp_bM_isChunk 15 = .ok (.iload_n 1, 1) := by decide +kernel
theorem dM_isChunk_16 : decode tp_bM_isChunk 16 = .ok (.baload, 1) := by decide +kernel
theorem dM_isChunk_17 : decode tp_bM_isChunk 17 = .ok (.ifCond .eq 7, 3) := by decide +kernel
theorem dM_isChunk_20 : decode tp_bM_isChunk 20 = .ok (.iconst 1, 1) := by decide +kernel
theorem dM_isChunk_21 : decode tp_bM_isChunk 21 = .ok (.goto 4, 3) := by decide +kernel
theorem dM_isChunk_24 : decode tp_bM_isChunk 24 = .ok (.iconst 0, 1) := by decide +kernel
theorem dM_isChunk_25 : decode tp_bM_isChunk 25 = .ok (.ireturn, 1) := by decide +kernel
theorem dM_stays_0 : decode tp_bM_stays 0 = .ok (.aload_n 0, 1) := by decide +kernel
theorem dM_stays_1 : decode tp_bM_stays 1 = .ok (.getfield 7, 3) := by decide +kernel
theorem dM_stays_4 : decode tp_bM_stays 4 = .ok (.iload_n 1, 1) := by decide +kernel
theorem dM_stays_5 : decode tp_bM_stays 5 = .ok (.iaload, 1) := by decide +kernel
theorem dM_stays_6 : decode tp_bM_stays 6 = .ok (.ifCond .le 16, 3) := by decide +kernel
theorem dM_stays_9 : decode tp_bM_stays 9 = .ok (.aload_n 0, 1) := by decide +kernel
theorem dM_stays_10 : decode tp_bM_stays 10 = .ok (.getfield 13, 3) := by decide +kernel
theorem dM_stays_13 : decode tp_bM_stays 13 = .ok (.iload_n 1, 1) := by decide +kernel
theorem dM_stays_14 : decode tp_bM_stays 14 = .ok (.baload, 1) := by decide +kernel
theorem dM_stays_15 : decode tp_bM_stays 15 = .ok (.ifCond .ne 7, 3) := by decide +kernel
theorem dM_stays_18 : decode tp_bM_stays 18 = .ok (.iconst 1, 1) := by decide +kernel
theorem dM_stays_19 : decode tp_bM_stays 19 = .ok (.goto 4, 3) := by decide +kernel
theorem dM_stays_22 : decode tp_bM_stays 22 = .ok (.iconst 0, 1) := by decide +kernel
theorem dM_stays_23 : decode tp_bM_stays 23 = .ok (.ireturn, 1) := by decide +kernel
theorem dM_isOn_0 : decode tp_bM_isOn 0 = .ok (.aload_n 0, 1) := by decide +kernel
theorem dM_isOn_1 : decode tp_bM_isOn 1 = .ok (.getfield 17, 3) := by decide +kernel
theorem dM_isOn_4 : decode tp_bM_isOn 4 = .ok (.iload_n 1, 1) := by decide +kernel
theorem dM_isOn_5 : decode tp_bM_isOn 5 = .ok (.baload, 1) := by decide +kernel
theorem dM_isOn_6 : decode tp_bM_isOn 6 = .ok (.ifCond .eq 21, 3) := by decide +kernel
theorem dM_isOn_9 : decode tp_bM_isOn 9 = .ok (.aload_n 0, 1) := by decide +kernel
theorem dM_isOn_10 : decode tp_bM_isOn 10 = .ok (.getfield 20, 3) := by decide +kernel
theorem dM_isOn_13 : decode tp_bM_isOn 13 = .ok (.iload_n 1, 1) := by decide +kernel
theorem dM_isOn_14 : decode tp_bM_isOn 14 = .ok (.iaload, 1) := by decide +kernel
theorem dM_isOn_15 : decode tp_bM_isOn 15 = .ok (.iload_n 2, 1) := by decide +kernel
theorem dM_isOn_16 : decode tp_bM_isOn 16 = .ok (.ishr, 1) := by decide +kernel
theorem dM_isOn_17 : decode tp_bM_isOn 17 = .ok (.iconst 2, 1) := by decide +kernel
theorem dM_isOn_18 : decode tp_bM_isOn 18 = .ok (.irem, 1) := by decide +kernel
theorem dM_isOn_19 : decode tp_bM_isOn 19 = .ok (.iconst 1, 1) := by decide +kernel
theorem dM_isOn_20 : decode tp_bM_isOn 20 = .ok (.if_icmp .ne 7, 3) := by decide +kernel
theorem dM_isOn_23 : decode tp_bM_isOn 23 = .ok (.iconst 1, 1) := by decide +kernel
theorem dM_isOn_24 : decode tp_bM_isOn 24 = .ok (.goto 4, 3) := by decide +kernel
theorem dM_isOn_27 : decode tp_bM_isOn 27 = .ok (.iconst 0, 1) := by decide +kernel
theorem dM_isOn_28 : decode tp_bM_isOn 28 = .ok (.ireturn, 1) := by decide +kernel
theorem dM_used_0 : decode tp_bM_used 0 = .ok (.iconst 0, 1) := by decide +kernel
theorem dM_used_1 : decode tp_bM_used 1 = .ok (.istore_n 2, 1) := by decide +kernel
theorem dM_used_2 : decode tp_bM_used 2 = .ok (.iconst 0, 1) := by decide +kernel
theorem dM_used_3 : decode tp_bM_used 3 = .ok (.istore_n 3, 1) := by decide +kernel
theorem dM_used_4 : decode tp_bM_used 4 = .ok (.iload_n 3, 1) := by decide +kernel
theorem dM_used_5 : decode tp_bM_used 5 = .ok (.sipush 400, 3) := by decide +kernel
theorem dM_used_8 : decode tp_bM_used 8 = .ok (.if_icmp .ge 26, 3) := by decide +kernel
theorem dM_used_11 : decode tp_bM_used 11 = .ok (.aload_n 0, 1) := by decide +kernel
theorem dM_used_12 : decode tp_bM_used 12 = .ok (.iload_n 3, 1) := by decide +kernel
theorem dM_used_13 : decode tp_bM_used 13 = .ok (.iload_n 1, 1) := by decide +kernel
theorem dM_used_14 : decode tp_bM_used 14 = .ok (.invokevirtual 30, 3) := by decide +kernel
theorem dM_used_17 : decode tp_bM_used 17 = .ok (.ifCond .eq 9, 3) := by decide +kernel
theorem dM_used_20 : decode tp_bM_used 20 = .ok (.iload_n 2, 1) := by decide +kernel
theorem dM_used_21 : decode tp_bM_used 21 = .ok (.iconst 1, 1) := by decide +kernel
theorem dM_used_22 : decode tp_bM_used 22 = .ok (.iadd, 1) := by decide +kernel
theorem dM_used_23 : decode tp_bM_used 23 = .ok (.goto 4, 3) := by decide +kernel
theorem dM_used_26 : decode tp_bM_used 26 = .ok (.iload_n 2, 1) := by decide +kernel
theorem dM_used_27 : decode tp_bM_used 27 = .ok (.istore_n 2, 1) := by decide +kernel
theorem dM_used_28 : decode tp_bM_used 28 = .ok (.iinc 3 1, 3) := by decide +kernel
theorem dM_used_31 : decode tp_bM_used 31 = .ok (.goto (-27), 3) := by decide +kernel
theorem dM_used_34 : decode tp_bM_used 34 = .ok (.iload_n 2, 1) := by decide +kernel
theorem dM_used_35 : decode tp_bM_used 35 = .ok (.ireturn, 1) := by decide +kernel
theorem dM_freeOn_0 : decode tp_bM_freeOn 0 = .ok (.aload_n 0, 1) := by decide +kernel
theorem dM_freeOn_1 : decode tp_bM_freeOn 1 = .ok (.getfield 7, 3) := by decide +kernel
theorem dM_freeOn_4 : decode tp_bM_freeOn 4 = .ok (.iload_n 1, 1) := by decide +kernel
theorem dM_freeOn_5 : decode tp_bM_freeOn 5 = .ok (.iaload, 1) := by decide +kernel
theorem dM_freeOn_6 : decode tp_bM_freeOn 6 = .ok (.aload_n 0, 1) := by decide +kernel
theorem dM_freeOn_7 : decode tp_bM_freeOn 7 = .ok (.iload_n 1, 1) := by decide +kernel
theorem dM_freeOn_8 : decode tp_bM_freeOn 8 = .ok (.invokevirtual 34, 3) := by decide +kernel
theorem dM_freeOn_11 : decode tp_bM_freeOn 11 = .ok (.isub, 1) := by decide +kernel
theorem dM_freeOn_12 : decode tp_bM_freeOn 12 = .ok (.ireturn, 1) := by decide +kernel
theorem dM_howMany_0 : decode tp_bM_howMany 0 = .ok (.iconst 0, 1) := by decide +kernel
theorem dM_howMany_1 : decode tp_bM_howMany 1 = .ok (.istore_n 2, 1) := by decide +kernel
theorem dM_howMany_2 : decode tp_bM_howMany 2 = .ok (.iconst 0, 1) := by decide +kernel
theorem dM_howMany_3 : decode tp_bM_howMany 3 = .ok (.istore_n 3, 1) := by decide +kernel
theorem dM_howMany_4 : decode tp_bM_howMany 4 = .ok (.iload_n 3, 1) := by decide +kernel
theorem dM_howMany_5 : decode tp_bM_howMany 5 = .ok (.bipush 12, 2) := by decide +kernel
theorem dM_howMany_7 : decode tp_bM_howMany 7 = .ok (.if_icmp .ge 26, 3) := by decide +kernel
theorem dM_howMany_10 : decode tp_bM_howMany 10 = .ok (.aload_n 0, 1) := by decide +kernel
theorem dM_howMany_11 : decode tp_bM_howMany 11 = .ok (.iload_n 1, 1) := by decide +kernel
theorem dM_howMany_12 : decode tp_bM_howMany 12 = .ok (.iload_n 3, 1) := by decide +kernel
theorem dM_howMany_13 : decode tp_bM_howMany 13 = .ok (.invokevirtual 30, 3) := by decide +kernel
theorem dM_howMany_16 : decode tp_bM_howMany 16 = .ok (.ifCond .eq 9, 3) := by decide +kernel
theorem dM_howMany_19 : decode tp_bM_howMany 19 = .ok (.iload_n 2, 1) := by decide +kernel
theorem dM_howMany_20 : decode tp_bM_howMany 20 = .ok (.iconst 1, 1) := by decide +kernel
theorem dM_howMany_21 : decode tp_bM_howMany 21 = .ok (.iadd, 1) := by decide +kernel
theorem dM_howMany_22 : decode tp_bM_howMany 22 = .ok (.goto 4, 3) := by decide +kernel
theorem dM_howMany_25 : decode tp_bM_howMany 25 = .ok (.iload_n 2, 1) := by decide +kernel
theorem dM_howMany_26 : decode tp_bM_howMany 26 = .ok (.istore_n 2, 1) := by decide +kernel
theorem dM_howMany_27 : decode tp_bM_howMany 27 = .ok (.iinc 3 1, 3) := by decide +kernel
theorem dM_howMany_30 : decode tp_bM_howMany 30 = .ok (.goto (-26), 3) := by decide +kernel
theorem dM_howMany_33 : decode tp_bM_howMany 33 = .ok (.iload_n 2, 1) := by decide +kernel
theorem dM_howMany_34 : decode tp_bM_howMany 34 = .ok (.ireturn, 1) := by decide +kernel
theorem dM_emptiest_0 : decode tp_bM_emptiest 0 = .ok (.iconst (-1), 1) := by decide +kernel
theorem dM_emptiest_1 : decode tp_bM_emptiest 1 = .ok (.istore_n 3, 1) := by decide +kernel
theorem dM_emptiest_2 : decode tp_bM_emptiest 2 = .ok (.iconst 0, 1) := by decide +kernel
theorem dM_emptiest_3 : decode tp_bM_emptiest 3 = .ok (.istore 4, 2) := by decide +kernel
theorem dM_emptiest_5 : decode tp_bM_emptiest 5 = .ok (.iload 4, 2) := by decide +kernel
theorem dM_emptiest_7 : decode tp_bM_emptiest 7 = .ok (.bipush 12, 2) := by decide +kernel
theorem dM_emptiest_9 : decode tp_bM_emptiest 9 = .ok (.if_icmp .ge 84, 3) := by decide +kernel
theorem dM_emptiest_12 : decode tp_bM_emptiest 12 = .ok (.aload_n 0, 1) := by decide +kernel
theorem dM_emptiest_13 : decode tp_bM_emptiest 13 = .ok (.iload 4, 2) := by decide +kernel
theorem dM_emptiest_15 : decode tp_bM_emptiest 15 = .ok (.invokevirtual 38, 3) := by decide +kernel
theorem dM_emptiest_18 : decode tp_bM_emptiest 18 = .ok (.ifCond .eq 36, 3) := by decide +kernel
theorem dM_emptiest_21 : decode tp_bM_emptiest 21 = .ok (.iload 4, 2) := by decide +kernel
theorem dM_emptiest_23 : decode tp_bM_emptiest 23 = .ok (.iload_n 1, 1) := by decide +kernel
theorem dM_emptiest_24 : decode tp_bM_emptiest 24 = .ok (.if_icmp .eq 30, 3) := by decide +kernel
theorem dM_emptiest_27 : decode tp_bM_emptiest 27 = .ok (.aload_n 0, 1) := by decide +kernel
theorem dM_emptiest_28 : decode tp_bM_emptiest 28 = .ok (.iload 4, 2) := by decide +kernel
theorem dM_emptiest_30 : decode tp_bM_emptiest 30 = .ok (.invokevirtual 42, 3) := by decide +kernel
theorem dM_emptiest_33 : decode tp_bM_emptiest 33 = .ok (.ifCond .le 21, 3) := by decide +kernel
theorem dM_emptiest_36 : decode tp_bM_emptiest 36 = .ok (.iload_n 2, 1) := by decide +kernel
theorem dM_emptiest_37 : decode tp_bM_emptiest 37 = .ok (.ifCond .lt 13, 3) := by decide +kernel
theorem dM_emptiest_40 : decode tp_bM_emptiest 40 = .ok (.aload_n 0, 1) := by decide +kernel
theorem dM_emptiest_41 : decode tp_bM_emptiest 41 = .ok (.iload_n 2, 1) := by decide +kernel
theorem dM_emptiest_42 : decode tp_bM_emptiest 42 = .ok (.iload 4, 2) := by decide +kernel
theorem dM_emptiest_44 : decode tp_bM_emptiest 44 = .ok (.invokevirtual 30, 3) := by decide +kernel
theorem dM_emptiest_47 : decode tp_bM_emptiest 47 = .ok (.ifCond .ne 7, 3) := by decide +kernel
theorem dM_emptiest_50 : decode tp_bM_emptiest 50 = .ok (.iconst 1, 1) := by decide +kernel
theorem dM_emptiest_51 : decode tp_bM_emptiest 51 = .ok (.goto 4, 3) := by decide +kernel
theorem dM_emptiest_54 : decode tp_bM_emptiest 54 = .ok (.iconst 0, 1) := by decide +kernel
theorem dM_emptiest_55 : decode tp_bM_emptiest 55 = .ok (.istore 5, 2) := by decide +kernel
theorem dM_emptiest_57 : decode tp_bM_emptiest 57 = .ok (.iload 5, 2) := by decide +kernel
theorem dM_emptiest_59 : decode tp_bM_emptiest 59 = .ok (.ifCond .eq 26, 3) := by decide +kernel
theorem dM_emptiest_62 : decode tp_bM_emptiest 62 = .ok (.iload_n 3, 1) := by decide +kernel
theorem dM_emptiest_63 : decode tp_bM_emptiest 63 = .ok (.ifCond .lt 17, 3) := by decide +kernel
theorem dM_emptiest_66 : decode tp_bM_emptiest 66 = .ok (.aload_n 0, 1) := by decide +kernel
theorem dM_emptiest_67 : decode tp_bM_emptiest 67 = .ok (.iload 4, 2) := by decide +kernel
theorem dM_emptiest_69 : decode tp_bM_emptiest 69 = .ok (.invokevirtual 42, 3) := by decide +kernel
theorem dM_emptiest_72 : decode tp_bM_emptiest 72 = .ok (.aload_n 0, 1) := by decide +kernel
theorem dM_emptiest_73 : decode tp_bM_emptiest 73 = .ok (.iload_n 3, 1) := by decide +kernel
theorem dM_emptiest_74 : decode tp_bM_emptiest 74 = .ok (.invokevirtual 42, 3) := by decide +kernel
theorem dM_emptiest_77 : decode tp_bM_emptiest 77 = .ok (.if_icmp .le 8, 3) := by decide +kernel
theorem dM_emptiest_80 : decode tp_bM_emptiest 80 = .ok (.iload 4, 2) := by decide +kernel
theorem dM_emptiest_82 : decode tp_bM_emptiest 82 = .ok (.goto 4, 3) := by decide +kernel
theorem dM_emptiest_85 : decode tp_bM_emptiest 85 = .ok (.iload_n 3, 1) := by decide +kernel
theorem dM_emptiest_86 : decode tp_bM_emptiest 86 = .ok (.istore_n 3, 1) := by decide +kernel
theorem dM_emptiest_87 : decode tp_bM_emptiest 87 = .ok (.iinc 4 1, 3) := by decide +kernel
theorem dM_emptiest_90 : decode tp_bM_emptiest 90 = .ok (.goto (-85), 3) := by decide +kernel
theorem dM_emptiest_93 : decode tp_bM_emptiest 93 = .ok (.iload_n 3, 1) := by decide +kernel
theorem dM_emptiest_94 : decode tp_bM_emptiest 94 = .ok (.ireturn, 1) := by decide +kernel
theorem dM_capacity_0 : decode tp_bM_capacity 0 = .ok (.iconst 0, 1) := by decide +kernel
theorem dM_capacity_1 : decode tp_bM_capacity 1 = .ok (.istore_n 2, 1) := by decide +kernel
theorem dM_capacity_2 : decode tp_bM_capacity 2 = .ok (.iconst 0, 1) := by decide +kernel
theorem dM_capacity_3 : decode tp_bM_capacity 3 = .ok (.istore_n 3, 1) := by decide +kernel
theorem dM_capacity_4 : decode tp_bM_capacity 4 = .ok (.iconst 0, 1) := by decide +kernel
theorem dM_capacity_5 : decode tp_bM_capacity 5 = .ok (.istore 4, 2) := by decide +kernel
theorem dM_capacity_7 : decode tp_bM_capacity 7 = .ok (.iload 4, 2) := by decide +kernel
theorem dM_capacity_9 : decode tp_bM_capacity 9 = .ok (.bipush 12, 2) := by decide +kernel
theorem dM_capacity_11 : decode tp_bM_capacity 11 = .ok (.if_icmp .ge 57, 3) := by decide +kernel
theorem dM_capacity_14 : decode tp_bM_capacity 14 = .ok (.aload_n 0, 1) := by decide +kernel
theorem dM_capacity_15 : decode tp_bM_capacity 15 = .ok (.iload 4, 2) := by decide +kernel
theorem dM_capacity_17 : decode tp_bM_capacity 17 = .ok (.invokevirtual 38, 3) := by decide +kernel
theorem dM_capacity_20 : decode tp_bM_capacity 20 = .ok (.ifCond .eq 42, 3) := by decide +kernel
theorem dM_capacity_23 : decode tp_bM_capacity 23 = .ok (.iload 4, 2) := by decide +kernel
theorem dM_capacity_25 : decode tp_bM_capacity 25 = .ok (.iload_n 1, 1) := by decide +kernel
theorem dM_capacity_26 : decode tp_bM_capacity 26 = .ok (.if_icmp .eq 36, 3) := by decide +kernel
theorem dM_capacity_29 : decode tp_bM_capacity 29 = .ok (.iload_n 2, 1) := by decide +kernel
theorem dM_capacity_30 : decode tp_bM_capacity 30 = .ok (.aload_n 0, 1) := by decide +kernel
theorem dM_capacity_31 : decode tp_bM_capacity 31 = .ok (.getfield 7, 3) := by decide +kernel
theorem dM_capacity_34 : decode tp_bM_capacity 34 = .ok (.iload 4, 2) := by decide +kernel
theorem dM_capacity_36 : decode tp_bM_capacity 36 = .ok (.iaload, 1) := by decide +kernel
theorem dM_capacity_37 : decode tp_bM_capacity 37 = .ok (.iadd, 1) := by decide +kernel
theorem dM_capacity_38 : decode tp_bM_capacity 38 = .ok (.istore_n 2, 1) := by decide +kernel
theorem dM_capacity_39 : decode tp_bM_capacity 39 = .ok (.aload_n 0, 1) := by decide +kernel
theorem dM_capacity_40 : decode tp_bM_capacity 40 = .ok (.getfield 7, 3) := by decide +kernel
theorem dM_capacity_43 : decode tp_bM_capacity 43 = .ok (.iload 4, 2) := by decide +kernel
theorem dM_capacity_45 : decode tp_bM_capacity 45 = .ok (.iaload, 1) := by decide +kernel
theorem dM_capacity_46 : decode tp_bM_capacity 46 = .ok (.iload_n 3, 1) := by decide +kernel
theorem dM_capacity_47 : decode tp_bM_capacity 47 = .ok (.if_icmp .le 13, 3) := by decide +kernel
theorem dM_capacity_50 : decode tp_bM_capacity 50 = .ok (.aload_n 0, 1) := by decide +kernel
theorem dM_capacity_51 : decode tp_bM_capacity 51 = .ok (.getfield 7, 3) := by decide +kernel
theorem dM_capacity_54 : decode tp_bM_capacity 54 = .ok (.iload 4, 2) := by decide +kernel
theorem dM_capacity_56 : decode tp_bM_capacity 56 = .ok (.iaload, 1) := by decide +kernel
theorem dM_capacity_57 : decode tp_bM_capacity 57 = .ok (.goto 4, 3) := by decide +kernel
theorem dM_capacity_60 : decode tp_bM_capacity 60 = .ok (.iload_n 3, 1) := by decide +kernel
theorem dM_capacity_61 : decode tp_bM_capacity 61 = .ok (.istore_n 3, 1) := by decide +kernel
theorem dM_capacity_62 : decode tp_bM_capacity 62 = .ok (.iinc 4 1, 3) := by decide +kernel
theorem dM_capacity_65 : decode tp_bM_capacity 65 = .ok (.goto (-58), 3) := by decide +kernel
theorem dM_capacity_68 : decode tp_bM_capacity 68 = .ok (.iload_n 2, 1) := by decide +kernel
theorem dM_capacity_69 : decode tp_bM_capacity 69 = .ok (.iconst 2, 1) := by decide +kernel
theorem dM_capacity_70 : decode tp_bM_capacity 70 = .ok (.idiv, 1) := by decide +kernel
theorem dM_capacity_71 : decode tp_bM_capacity 71 = .ok (.iload_n 2, 1) := by decide +kernel
theorem dM_capacity_72 : decode tp_bM_capacity 72 = .ok (.iload_n 3, 1) := by decide +kernel
theorem dM_capacity_73 : decode tp_bM_capacity 73 = .ok (.isub, 1) := by decide +kernel
theorem dM_capacity_74 : decode tp_bM_capacity 74 = .ok (.if_icmp .ge 9, 3) := by decide +kernel
theorem dM_capacity_77 : decode tp_bM_capacity 77 = .ok (.iload_n 2, 1) := by decide +kernel
theorem dM_capacity_78 : decode tp_bM_capacity 78 = .ok (.iconst 2, 1) := by decide +kernel
theorem dM_capacity_79 : decode tp_bM_capacity 79 = .ok (.idiv, 1) := by decide +kernel
theorem dM_capacity_80 : decode tp_bM_capacity 80 = .ok (.goto 6, 3) := by decide +kernel
theorem dM_capacity_83 : decode tp_bM_capacity 83 = .ok (.iload_n 2, 1) := by decide +kernel
theorem dM_capacity_84 : decode tp_bM_capacity 84 = .ok (.iload_n 3, 1) := by decide +kernel
theorem dM_capacity_85 : decode tp_bM_capacity 85 = .ok (.isub, 1) := by decide +kernel
theorem dM_capacity_86 : decode tp_bM_capacity 86 = .ok (.ireturn, 1) := by decide +kernel
theorem dM_countWith_0 : decode tp_bM_countWith 0 = .ok (.iconst 0, 1) := by decide +kernel
theorem dM_countWith_1 : decode tp_bM_countWith 1 = .ok (.istore_n 2, 1) := by decide +kernel
theorem dM_countWith_2 : decode tp_bM_countWith 2 = .ok (.iconst 0, 1) := by decide +kernel
theorem dM_countWith_3 : decode tp_bM_countWith 3 = .ok (.istore_n 3, 1) := by decide +kernel
theorem dM_countWith_4 : decode tp_bM_countWith 4 = .ok (.iload_n 3, 1) := by decide +kernel
theorem dM_countWith_5 : decode tp_bM_countWith 5 = .ok (.sipush 400, 3) := by decide +kernel
theorem dM_countWith_8 : decode tp_bM_countWith 8 = .ok (.if_icmp .ge 35, 3) := by decide +kernel
theorem dM_countWith_11 : decode tp_bM_countWith 11 = .ok (.aload_n 0, 1) := by decide +kernel
theorem dM_countWith_12 : decode tp_bM_countWith 12 = .ok (.getfield 17, 3) := by decide +kernel
theorem dM_countWith_15 : decode tp_bM_countWith 15 = .ok (.iload_n 3, 1) := by decide +kernel
theorem dM_countWith_16 : decode tp_bM_countWith 16 = .ok (.baload, 1) := by decide +kernel
theorem dM_countWith_17 : decode tp_bM_countWith 17 = .ok (.ifCond .eq 18, 3) := by decide +kernel
theorem dM_countWith_20 : decode tp_bM_countWith 20 = .ok (.aload_n 0, 1) := by decide +kernel
theorem dM_countWith_21 : decode tp_bM_countWith 21 = .ok (.iload_n 3, 1) := by decide +kernel
theorem dM_countWith_22 : decode tp_bM_countWith 22 = .ok (.invokevirtual 45, 3) := by decide +kernel
theorem dM_countWith_25 : decode tp_bM_countWith 25 = .ok (.iload_n 1, 1) := by decide +kernel
theorem dM_countWith_26 : decode tp_bM_countWith 26 = .ok (.if_icmp .ne 9, 3) := by decide +kernel
theorem dM_countWith_29 : decode tp_bM_countWith 29 = .ok (.iload_n 2, 1) := by decide +kernel
theorem dM_countWith_30 : decode tp_bM_countWith 30 = .ok (.iconst 1, 1) := by decide +kernel
theorem dM_countWith_31 : decode tp_bM_countWith 31 = .ok (.iadd, 1) := by decide +kernel
theorem dM_countWith_32 : decode tp_bM_countWith 32 = .ok (.goto 4, 3) := by decide +kernel
theorem dM_countWith_35 : decode tp_bM_countWith 35 = .ok (.iload_n 2, 1) := by decide +kernel
theorem dM_countWith_36 : decode tp_bM_countWith 36 = .ok (.istore_n 2, 1) := by decide +kernel
theorem dM_countWith_37 : decode tp_bM_countWith 37 = .ok (.iinc 3 1, 3) := by decide +kernel
theorem dM_countWith_40 : decode tp_bM_countWith 40 = .ok (.goto (-36), 3) := by decide +kernel
theorem dM_countWith_43 : decode tp_bM_countWith 43 = .ok (.iload_n 2, 1) := by decide +kernel
theorem dM_countWith_44 : decode tp_bM_countWith 44 = .ok (.ireturn, 1) := by decide +kernel
theorem dM_chunkCount_0 : decode tp_bM_chunkCount 0 = .ok (.aload_n 0, 1) := by decide +kernel
theorem dM_chunkCount_1 : decode tp_bM_chunkCount 1 = .ok (.iconst 0, 1) := by decide +kernel
theorem dM_chunkCount_2 : decode tp_bM_chunkCount 2 = .ok (.invokevirtual 48, 3) := by decide +kernel
theorem dM_chunkCount_5 : decode tp_bM_chunkCount 5 = .ok (.aload_n 0, 1) := by decide +kernel
theorem dM_chunkCount_6 : decode tp_bM_chunkCount 6 = .ok (.iconst 1, 1) := by decide +kernel
theorem dM_chunkCount_7 : decode tp_bM_chunkCount 7 = .ok (.invokevirtual 48, 3) := by decide +kernel
theorem dM_chunkCount_10 : decode tp_bM_chunkCount 10 = .ok (.iadd, 1) := by decide +kernel
theorem dM_chunkCount_11 : decode tp_bM_chunkCount 11 = .ok (.aload_n 0, 1) := by decide +kernel
theorem dM_chunkCount_12 : decode tp_bM_chunkCount 12 = .ok (.iconst 2, 1) := by decide +kernel
theorem dM_chunkCount_13 : decode tp_bM_chunkCount 13 = .ok (.invokevirtual 48, 3) := by decide +kernel
theorem dM_chunkCount_16 : decode tp_bM_chunkCount 16 = .ok (.iadd, 1) := by decide +kernel
theorem dM_chunkCount_17 : decode tp_bM_chunkCount 17 = .ok (.ireturn, 1) := by decide +kernel
theorem dM_tidy_0 : decode tp_bM_tidy 0 = .ok (.iconst 0, 1) := by decide +kernel
theorem dM_tidy_1 : decode tp_bM_tidy 1 = .ok (.istore_n 1, 1) := by decide +kernel
theorem dM_tidy_2 : decode tp_bM_tidy 2 = .ok (.iload_n 1, 1) := by decide +kernel
theorem dM_tidy_3 : decode tp_bM_tidy 3 = .ok (.bipush 12, 2) := by decide +kernel
theorem dM_tidy_5 : decode tp_bM_tidy 5 = .ok (.if_icmp .ge 42, 3) := by decide +kernel
theorem dM_tidy_8 : decode tp_bM_tidy 8 = .ok (.aload_n 0, 1) := by decide +kernel
theorem dM_tidy_9 : decode tp_bM_tidy 9 = .ok (.getfield 7, 3) := by decide +kernel
theorem dM_tidy_12 : decode tp_bM_tidy 12 = .ok (.iload_n 1, 1) := by decide +kernel
theorem dM_tidy_13 : decode tp_bM_tidy 13 = .ok (.iaload, 1) := by decide +kernel
theorem dM_tidy_14 : decode tp_bM_tidy 14 = .ok (.ifCond .le 27, 3) := by decide +kernel
theorem dM_tidy_17 : decode tp_bM_tidy 17 = .ok (.aload_n 0, 1) := by decide +kernel
theorem dM_tidy_18 : decode tp_bM_tidy 18 = .ok (.getfield 13, 3) := by decide +kernel
theorem dM_tidy_21 : decode tp_bM_tidy 21 = .ok (.iload_n 1, 1) := by decide +kernel
theorem dM_tidy_22 : decode tp_bM_tidy 22 = .ok (.baload, 1) := by decide +kernel
theorem dM_tidy_23 : decode tp_bM_tidy 23 = .ok (.ifCond .eq 18, 3) := by decide +kernel
theorem dM_tidy_26 : decode tp_bM_tidy 26 = .ok (.aload_n 0, 1) := by decide +kernel
theorem dM_tidy_27 : decode tp_bM_tidy 27 = .ok (.iload_n 1, 1) := by decide +kernel
theorem dM_tidy_28 : decode tp_bM_tidy 28 = .ok (.invokevirtual 34, 3) := by decide +kernel
theorem dM_tidy_31 : decode tp_bM_tidy 31 = .ok (.ifCond .ne 10, 3) := by decide +kernel
theorem dM_tidy_34 : decode tp_bM_tidy 34 = .ok (.aload_n 0, 1) := by decide +kernel
