theorem dL_disk_0 : decode tp_bL_disk 0 = .ok (.aload_n 0, 1) := by decide +kernel
theorem dL_disk_1 : decode tp_bL_disk 1 = .ok (.iload_n 1, 1) := by decide +kernel
theorem dL_disk_2 : decode tp_bL_disk 2 = .ok (.iload_n 2, 1) := by decide +kernel
theorem dL_disk_3 : decode tp_bL_disk 3 = .ok (.invokevirtual 7, 3) := by decide +kernel
theorem dL_disk_6 : decode tp_bL_disk 6 = .ok (.goto 12, 3) := by decide +kernel
theorem dL_disk_9 : decode tp_bL_disk 9 = .ok (.astore_n 3, 1) := by decide +kernel
theorem dL_disk_10 : decode tp_bL_disk 10 = .ok (.iconst 1, 1) := by decide +kernel
theorem dL_disk_11 : decode tp_bL_disk 11 = .ok (.ireturn, 1) := by decide +kernel
theorem dL_disk_12 : decode tp_bL_disk 12 = .ok (.astore_n 3, 1) := by decide +kernel
theorem dL_disk_13 : decode tp_bL_disk 13 = .ok (.iconst 2, 1) := by decide +kernel
theorem dL_disk_14 : decode tp_bL_disk 14 = .ok (.ireturn, 1) := by decide +kernel
theorem dL_disk_15 : decode tp_bL_disk 15 = .ok (.astore_n 3, 1) := by decide +kernel
theorem dL_disk_16 : decode tp_bL_disk 16 = .ok (.iconst 3, 1) := by decide +kernel
theorem dL_disk_17 : decode tp_bL_disk 17 = .ok (.ireturn, 1) := by decide +kernel
theorem dL_disk_18 : decode tp_bL_disk 18 = .ok (.iconst 0, 1) := by decide +kernel
theorem dL_disk_19 : decode tp_bL_disk 19 = .ok (.ireturn, 1) := by decide +kernel
theorem dL_chunk_0 : decode tp_bL_chunk 0 = .ok (.aload_n 1, 1) := by decide +kernel
theorem dL_chunk_1 : decode tp_bL_chunk 1 = .ok (.iconst 0, 1) := by decide +kernel
theorem dL_chunk_2 : decode tp_bL_chunk 2 = .ok (.aload_n 0, 1) := by decide +kernel
theorem dL_chunk_3 : decode tp_bL_chunk 3 = .ok (.invokevirtual 19, 3) := by decide +kernel
theorem dL_chunk_6 : decode tp_bL_chunk 6 = .ok (.i2l, 1) := by decide +kernel
theorem dL_chunk_7 : decode tp_bL_chunk 7 = .ok (.lastore, 1) := by decide +kernel
theorem dL_chunk_8 : decode tp_bL_chunk 8 = .ok (.goto 6, 3) := by decide +kernel
theorem dL_chunk_11 : decode tp_bL_chunk 11 = .ok (.astore_n 2, 1) := by decide +kernel
theorem dL_chunk_12 : decode tp_bL_chunk 12 = .ok (.iconst 1, 1) := by decide +kernel
theorem dL_chunk_13 : decode tp_bL_chunk 13 = .ok (.ireturn, 1) := by decide +kernel
theorem dL_chunk_14 : decode tp_bL_chunk 14 = .ok (.iconst 0, 1) := by decide +kernel
theorem dL_chunk_15 : decode tp_bL_chunk 15 = .ok (.ireturn, 1) := by decide +kernel
theorem dL_chunks_0 : decode tp_bL_chunks 0 = .ok (.aload_n 2, 1) := by decide +kernel
theorem dL_chunks_1 : decode tp_bL_chunks 1 = .ok (.iconst 0, 1) := by decide +kernel
theorem dL_chunks_2 : decode tp_bL_chunks 2 = .ok (.aload_n 0, 1) := by decide +kernel
theorem dL_chunks_3 : decode tp_bL_chunks 3 = .ok (.iload_n 1, 1) := by decide +kernel
theorem dL_chunks_4 : decode tp_bL_chunks 4 = .ok (.invokevirtual 25, 3) := by decide +kernel
theorem dL_chunks_7 : decode tp_bL_chunks 7 = .ok (.i2l, 1) := by decide +kernel
theorem dL_chunks_8 : decode tp_bL_chunks 8 = .ok (.lastore, 1) := by decide +kernel
theorem dL_chunks_9 : decode tp_bL_chunks 9 = .ok (.goto 6, 3) := by decide +kernel
theorem dL_chunks_12 : decode tp_bL_chunks 12 = .ok (.astore_n 3, 1) := by decide +kernel
theorem dL_chunks_13 : decode tp_bL_chunks 13 = .ok (.iconst 1, 1) := by decide +kernel
theorem dL_chunks_14 : decode tp_bL_chunks 14 = .ok (.ireturn, 1) := by decide +kernel
theorem dL_chunks_15 : decode tp_bL_chunks 15 = .ok (.iconst 0, 1) := by decide +kernel
theorem dL_chunks_16 : decode tp_bL_chunks 16 = .ok (.ireturn, 1) := by decide +kernel
theorem dL_free_0 : decode tp_bL_free 0 = .ok (.aload_n 2, 1) := by decide +kernel
theorem dL_free_1 : decode tp_bL_free 1 = .ok (.iconst 0, 1) := by decide +kernel
theorem dL_free_2 : decode tp_bL_free 2 = .ok (.aload_n 0, 1) := by decide +kernel
theorem dL_free_3 : decode tp_bL_free 3 = .ok (.iload_n 1, 1) := by decide +kernel
theorem dL_free_4 : decode tp_bL_free 4 = .ok (.invokevirtual 29, 3) := by decide +kernel
theorem dL_free_7 : decode tp_bL_free 7 = .ok (.i2l, 1) := by decide +kernel
theorem dL_free_8 : decode tp_bL_free 8 = .ok (.lastore, 1) := by decide +kernel
theorem dL_free_9 : decode tp_bL_free 9 = .ok (.goto 6, 3) := by decide +kernel
theorem dL_free_12 : decode tp_bL_free 12 = .ok (.astore_n 3, 1) := by decide +kernel
theorem dL_free_13 : decode tp_bL_free 13 = .ok (.iconst 1, 1) := by decide +kernel
theorem dL_free_14 : decode tp_bL_free 14 = .ok (.ireturn, 1) := by decide +kernel
theorem dL_free_15 : decode tp_bL_free 15 = .ok (.iconst 0, 1) := by decide +kernel
theorem dL_free_16 : decode tp_bL_free 16 = .ok (.ireturn, 1) := by decide +kernel
theorem dL_write_0 : decode tp_bL_write 0 = .ok (.aload_n 0, 1) := by decide +kernel
theorem dL_write_1 : decode tp_bL_write 1 = .ok (.iload_n 1, 1) := by decide +kernel
theorem dL_write_2 : decode tp_bL_write 2 = .ok (.iload_n 2, 1) := by decide +kernel
theorem dL_write_3 : decode tp_bL_write 3 = .ok (.iload_n 3, 1) := by decide +kernel
theorem dL_write_4 : decode tp_bL_write 4 = .ok (.invokevirtual 32, 3) := by decide +kernel
theorem dL_write_7 : decode tp_bL_write 7 = .ok (.goto 11, 3) := by decide +kernel
theorem dL_write_10 : decode tp_bL_write 10 = .ok (.astore 4, 2) := by decide +kernel
theorem dL_write_12 : decode tp_bL_write 12 = .ok (.iconst 1, 1) := by decide +kernel
theorem dL_write_13 : decode tp_bL_write 13 = .ok (.ireturn, 1) := by decide +kernel
theorem dL_write_14 : decode tp_bL_write 14 = .ok (.astore 4, 2) := by decide +kernel
theorem dL_write_16 : decode tp_bL_write 16 = .ok (.iconst 2, 1) := by decide +kernel
theorem dL_write_17 : decode tp_bL_write 17 = .ok (.ireturn, 1) := by decide +kernel
theorem dL_write_18 : decode tp_bL_write 18 = .ok (.iconst 0, 1) := by decide +kernel
theorem dL_write_19 : decode tp_bL_write 19 = .ok (.ireturn, 1) := by decide +kernel
theorem dL_read_0 : decode tp_bL_read 0 = .ok (.aload_n 3, 1) := by decide +kernel
theorem dL_read_1 : decode tp_bL_read 1 = .ok (.iconst 0, 1) := by decide +kernel
theorem dL_read_2 : decode tp_bL_read 2 = .ok (.aload_n 0, 1) := by decide +kernel
theorem dL_read_3 : decode tp_bL_read 3 = .ok (.iload_n 1, 1) := by decide +kernel
theorem dL_read_4 : decode tp_bL_read 4 = .ok (.iload_n 2, 1) := by decide +kernel
theorem dL_read_5 : decode tp_bL_read 5 = .ok (.invokevirtual 36, 3) := by decide +kernel
theorem dL_read_8 : decode tp_bL_read 8 = .ok (.i2l, 1) := by decide +kernel
theorem dL_read_9 : decode tp_bL_read 9 = .ok (.lastore, 1) := by decide +kernel
theorem dL_read_10 : decode tp_bL_read 10 = .ok (.goto 11, 3) := by decide +kernel
theorem dL_read_13 : decode tp_bL_read 13 = .ok (.astore 4, 2) := by decide +kernel
theorem dL_read_15 : decode tp_bL_read 15 = .ok (.iconst 1, 1) := by decide +kernel
theorem dL_read_16 : decode tp_bL_read 16 = .ok (.ireturn, 1) := by decide +kernel
theorem dL_read_17 : decode tp_bL_read 17 = .ok (.astore 4, 2) := by decide +kernel
theorem dL_read_19 : decode tp_bL_read 19 = .ok (.iconst 2, 1) := by decide +kernel
theorem dL_read_20 : decode tp_bL_read 20 = .ok (.ireturn, 1) := by decide +kernel
theorem dL_read_21 : decode tp_bL_read 21 = .ok (.iconst 0, 1) := by decide +kernel
theorem dL_read_22 : decode tp_bL_read 22 = .ok (.ireturn, 1) := by decide +kernel
theorem dL_fail_0 : decode tp_bL_fail 0 = .ok (.aload_n 2, 1) := by decide +kernel
theorem dL_fail_1 : decode tp_bL_fail 1 = .ok (.iconst 0, 1) := by decide +kernel
theorem dL_fail_2 : decode tp_bL_fail 2 = .ok (.aload_n 0, 1) := by decide +kernel
theorem dL_fail_3 : decode tp_bL_fail 3 = .ok (.iload_n 1, 1) := by decide +kernel
theorem dL_fail_4 : decode tp_bL_fail 4 = .ok (.invokevirtual 40, 3) := by decide +kernel
theorem dL_fail_7 : decode tp_bL_fail 7 = .ok (.i2l, 1) := by decide +kernel
theorem dL_fail_8 : decode tp_bL_fail 8 = .ok (.lastore, 1) := by decide +kernel
theorem dL_fail_9 : decode tp_bL_fail 9 = .ok (.goto 6, 3) := by decide +kernel
theorem dL_fail_12 : decode tp_bL_fail 12 = .ok (.astore_n 3, 1) := by decide +kernel
theorem dL_fail_13 : decode tp_bL_fail 13 = .ok (.iconst 1, 1) := by decide +kernel
theorem dL_fail_14 : decode tp_bL_fail 14 = .ok (.ireturn, 1) := by decide +kernel
theorem dL_fail_15 : decode tp_bL_fail 15 = .ok (.iconst 0, 1) := by decide +kernel
theorem dL_fail_16 : decode tp_bL_fail 16 = .ok (.ireturn, 1) := by decide +kernel
theorem dL_leave_0 : decode tp_bL_leave 0 = .ok (.aload_n 2, 1) := by decide +kernel
theorem dL_leave_1 : decode tp_bL_leave 1 = .ok (.iconst 0, 1) := by decide +kernel
theorem dL_leave_2 : decode tp_bL_leave 2 = .ok (.aload_n 0, 1) := by decide +kernel
theorem dL_leave_3 : decode tp_bL_leave 3 = .ok (.iload_n 1, 1) := by decide +kernel
theorem dL_leave_4 : decode tp_bL_leave 4 = .ok (.invokevirtual 43, 3) := by decide +kernel
theorem dL_leave_7 : decode tp_bL_leave 7 = .ok (.i2l, 1) := by decide +kernel
theorem dL_leave_8 : decode tp_bL_leave 8 = .ok (.lastore, 1) := by decide +kernel
theorem dL_leave_9 : decode tp_bL_leave 9 = .ok (.goto 12, 3) := by decide +kernel
theorem dL_leave_12 : decode tp_bL_leave 12 = .ok (.astore_n 3, 1) := by decide +kernel
theorem dL_leave_13 : decode tp_bL_leave 13 = .ok (.iconst 1, 1) := by decide +kernel
theorem dL_leave_14 : decode tp_bL_leave 14 = .ok (.ireturn, 1) := by decide +kernel
theorem dL_leave_15 : decode tp_bL_leave 15 = .ok (.astore_n 3, 1) := by decide +kernel
theorem dL_leave_16 : decode tp_bL_leave 16 = .ok (.iconst 2, 1) := by decide +kernel
theorem dL_leave_17 : decode tp_bL_leave 17 = .ok (.ireturn, 1) := by decide +kernel
theorem dL_leave_18 : decode tp_bL_leave 18 = .ok (.astore_n 3, 1) := by decide +kernel
theorem dL_leave_19 : decode tp_bL_leave 19 = .ok (.iconst 3, 1) := by decide +kernel
theorem dL_leave_20 : decode tp_bL_leave 20 = .ok (.ireturn, 1) := by decide +kernel
theorem dL_leave_21 : decode tp_bL_leave 21 = .ok (.iconst 0, 1) := by decide +kernel
theorem dL_leave_22 : decode tp_bL_leave 22 = .ok (.ireturn, 1) := by decide +kernel
theorem dL_stay_0 : decode tp_bL_stay 0 = .ok (.aload_n 0, 1) := by decide +kernel
theorem dL_stay_1 : decode tp_bL_stay 1 = .ok (.iload_n 1, 1) := by decide +kernel
theorem dL_stay_2 : decode tp_bL_stay 2 = .ok (.invokevirtual 46, 3) := by decide +kernel
theorem dL_stay_5 : decode tp_bL_stay 5 = .ok (.goto 9, 3) := by decide +kernel
theorem dL_stay_8 : decode tp_bL_stay 8 = .ok (.astore_n 2, 1) := by decide +kernel
theorem dL_stay_9 : decode tp_bL_stay 9 = .ok (.iconst 1, 1) := by decide +kernel
theorem dL_stay_10 : decode tp_bL_stay 10 = .ok (.ireturn, 1) := by decide +kernel
theorem dL_stay_11 : decode tp_bL_stay 11 = .ok (.astore_n 2, 1) := by decide +kernel
theorem dL_stay_12 : decode tp_bL_stay 12 = .ok (.iconst 2, 1) := by decide +kernel
theorem dL_stay_13 : decode tp_bL_stay 13 = .ok (.ireturn, 1) := by decide +kernel
theorem dL_stay_14 : decode tp_bL_stay 14 = .ok (.iconst 0, 1) := by decide +kernel
theorem dL_stay_15 : decode tp_bL_stay 15 = .ok (.ireturn, 1) := by decide +kernel
theorem dL_steps_0 : decode tp_bL_steps 0 = .ok (.aload_n 2, 1) := by decide +kernel
theorem dL_steps_1 : decode tp_bL_steps 1 = .ok (.iconst 0, 1) := by decide +kernel
theorem dL_steps_2 : decode tp_bL_steps 2 = .ok (.aload_n 0, 1) := by decide +kernel
theorem dL_steps_3 : decode tp_bL_steps 3 = .ok (.iload_n 1, 1) := by decide +kernel
theorem dL_steps_4 : decode tp_bL_steps 4 = .ok (.invokevirtual 50, 3) := by decide +kernel
theorem dL_steps_7 : decode tp_bL_steps 7 = .ok (.i2l, 1) := by decide +kernel
theorem dL_steps_8 : decode tp_bL_steps 8 = .ok (.lastore, 1) := by decide +kernel
theorem dL_steps_9 : decode tp_bL_steps 9 = .ok (.goto 6, 3) := by decide +kernel
theorem dL_steps_12 : decode tp_bL_steps 12 = .ok (.astore_n 3, 1) := by decide +kernel
theorem dL_steps_13 : decode tp_bL_steps 13 = .ok (.iconst 1, 1) := by decide +kernel
theorem dL_steps_14 : decode tp_bL_steps 14 = .ok (.ireturn, 1) := by decide +kernel
theorem dL_steps_15 : decode tp_bL_steps 15 = .ok (.iconst 0, 1) := by decide +kernel
theorem dL_steps_16 : decode tp_bL_steps 16 = .ok (.ireturn, 1) := by decide +kernel
theorem dL_place_0 : decode tp_bL_place 0 = .ok (.aload_n 3, 1) := by decide +kernel
theorem dL_place_1 : decode tp_bL_place 1 = .ok (.iconst 0, 1) := by decide +kernel
theorem dL_place_2 : decode tp_bL_place 2 = .ok (.aload_n 0, 1) := by decide +kernel
theorem dL_place_3 : decode tp_bL_place 3 = .ok (.iload_n 1, 1) := by decide +kernel
theorem dL_place_4 : decode tp_bL_place 4 = .ok (.iload_n 2, 1) := by decide +kernel
theorem dL_place_5 : decode tp_bL_place 5 = .ok (.invokevirtual 53, 3) := by decide +kernel
theorem dL_place_8 : decode tp_bL_place 8 = .ok (.i2l, 1) := by decide +kernel
theorem dL_place_9 : decode tp_bL_place 9 = .ok (.lastore, 1) := by decide +kernel
theorem dL_place_10 : decode tp_bL_place 10 = .ok (.goto 7, 3) := by decide +kernel
theorem dL_place_13 : decode tp_bL_place 13 = .ok (.astore 4, 2) := by decide +kernel
theorem dL_place_15 : decode tp_bL_place 15 = .ok (.iconst 1, 1) := by decide +kernel
theorem dL_place_16 : decode tp_bL_place 16 = .ok (.ireturn, 1) := by decide +kernel
theorem dL_place_17 : decode tp_bL_place 17 = .ok (.iconst 0, 1) := by decide +kernel
theorem dL_place_18 : decode tp_bL_place 18 = .ok (.ireturn, 1) := by decide +kernel
theorem dL_about_0 : decode tp_bL_about 0 = .ok (.aload_n 3, 1) := by decide +kernel
theorem dL_about_1 : decode tp_bL_about 1 = .ok (.iconst 0, 1) := by decide +kernel
theorem dL_about_2 : decode tp_bL_about 2 = .ok (.aload_n 0, 1) := by decide +kernel
theorem dL_about_3 : decode tp_bL_about 3 = .ok (.iload_n 1, 1) := by decide +kernel
theorem dL_about_4 : decode tp_bL_about 4 = .ok (.iload_n 2, 1) := by decide +kernel
theorem dL_about_5 : decode tp_bL_about 5 = .ok (.invokevirtual 57, 3) := by decide +kernel
theorem dL_about_8 : decode tp_bL_about 8 = .ok (.i2l, 1) := by decide +kernel
theorem dL_about_9 : decode tp_bL_about 9 = .ok (.lastore, 1) := by decide +kernel
theorem dL_about_10 : decode tp_bL_about 10 = .ok (.goto 11, 3) := by decide +kernel
theorem dL_about_13 : decode tp_bL_about 13 = .ok (.astore 4, 2) := by decide +kernel
theorem dL_about_15 : decode tp_bL_about 15 = .ok (.iconst 1, 1) := by decide +kernel
theorem dL_about_16 : decode tp_bL_about 16 = .ok (.ireturn, 1) := by decide +kernel
theorem dL_about_17 : decode tp_bL_about 17 = .ok (.astore 4, 2) := by decide +kernel
theorem dL_about_19 : decode tp_bL_about 19 = .ok (.iconst 2, 1) := by decide +kernel
theorem dL_about_20 : decode tp_bL_about 20 = .ok (.ireturn, 1) := by decide +kernel
theorem dL_about_21 : decode tp_bL_about 21 = .ok (.iconst 0, 1) := by decide +kernel
theorem dL_about_22 : decode tp_bL_about 22 = .ok (.ireturn, 1) := by decide +kernel
theorem dL_count_0 : decode tp_bL_count 0 = .ok (.aload_n 2, 1) := by decide +kernel
theorem dL_count_1 : decode tp_bL_count 1 = .ok (.iconst 0, 1) := by decide +kernel
theorem dL_count_2 : decode tp_bL_count 2 = .ok (.aload_n 0, 1) := by decide +kernel
theorem dL_count_3 : decode tp_bL_count 3 = .ok (.iload_n 1, 1) := by decide +kernel
theorem dL_count_4 : decode tp_bL_count 4 = .ok (.invokevirtual 60, 3) := by decide +kernel
theorem dL_count_7 : decode tp_bL_count 7 = .ok (.i2l, 1) := by decide +kernel
theorem dL_count_8 : decode tp_bL_count 8 = .ok (.lastore, 1) := by decide +kernel
theorem dL_count_9 : decode tp_bL_count 9 = .ok (.goto 6, 3) := by decide +kernel
theorem dL_count_12 : decode tp_bL_count 12 = .ok (.astore_n 3, 1) := by decide +kernel
theorem dL_count_13 : decode tp_bL_count 13 = .ok (.iconst 1, 1) := by decide +kernel
theorem dL_count_14 : decode tp_bL_count 14 = .ok (.ireturn, 1) := by decide +kernel
theorem dL_count_15 : decode tp_bL_count 15 = .ok (.iconst 0, 1) := by decide +kernel
theorem dL_count_16 : decode tp_bL_count 16 = .ok (.ireturn, 1) := by decide +kernel
theorem dL_law_0 : decode tp_bL_law 0 = .ok (.new 8, 3) := by decide +kernel
theorem dL_law_3 : decode tp_bL_law 3 = .ok (.dup, 1) := by decide +kernel
theorem dL_law_4 : decode tp_bL_law 4 = .ok (.invokespecial 63, 3) := by decide +kernel
theorem dL_law_7 : decode tp_bL_law 7 = .ok (.astore_n 1, 1) := by decide +kernel
theorem dL_law_8 : decode tp_bL_law 8 = .ok (.new 64, 3) := by decide +kernel
theorem dL_law_11 : decode tp_bL_law 11 = .ok (.dup, 1) := by decide +kernel
theorem dL_law_12 : decode tp_bL_law 12 = .ok (.invokespecial 66, 3) := by decide +kernel
theorem dL_law_15 : decode tp_bL_law 15 = .ok (.astore_n 2, 1) := by decide +kernel
theorem dL_law_16 : decode tp_bL_law 16 = .ok (.iconst 1, 1) := by decide +kernel
theorem dL_law_17 : decode tp_bL_law 17 = .ok (.newarray .long, 2) := by decide +kernel
theorem dL_law_19 : decode tp_bL_law 19 = .ok (.astore_n 3, 1) := by decide +kernel
theorem dL_law_20 : decode tp_bL_law 20 = .ok (.iconst 0, 1) := by decide +kernel
theorem dL_law_21 : decode tp_bL_law 21 = .ok (.istore 4, 2) := by decide +kernel
theorem dL_law_23 : decode tp_bL_law 23 = .ok (.iload 4, 2) := by decide +kernel
theorem dL_law_25 : decode tp_bL_law 25 = .ok (.aload_n 0, 1) := by decide +kernel
theorem dL_law_26 : decode tp_bL_law 26 = .ok (.arraylength, 1) := by decide +kernel
theorem dL_law_27 : decode tp_bL_law 27 = .ok (.iconst 4, 1) := by decide +kernel
theorem dL_law_28 : decode tp_bL_law 28 = .ok (.isub, 1) := by decide +kernel
theorem dL_law_29 : decode tp_bL_law 29 = .ok (.if_icmp .gt 842, 3) := by decide +kernel
theorem dL_law_32 : decode tp_bL_law 32 = .ok (.aload_n 0, 1) := by decide +kernel
theorem dL_law_33 : decode tp_bL_law 33 = .ok (.iload 4, 2) := by decide +kernel
theorem dL_law_35 : decode tp_bL_law 35 = .ok (.iaload, 1) := by decide +kernel
theorem dL_law_36 : decode tp_bL_law 36 = .ok (.bipush 15, 2) := by decide +kernel
theorem dL_law_38 : decode tp_bL_law 38 = .ok (.iand, 1) := by decide +kernel
theorem dL_law_39 : decode tp_bL_law 39 = .ok (.tableswitch 826 0 13 #[69, 117, 161, 217, 273, 333, 401, 457, 513, 549, 562, 618, 702, 770], 69) := by decide +kernel
theorem dL_law_108 : decode tp_bL_law 108 = .ok (.aload_n 1, 1) := by decide +kernel
theorem dL_law_109 : decode tp_bL_law 109 = .ok (.aload_n 0, 1) := by decide +kernel
theorem dL_law_110 : decode tp_bL_law 110 = .ok (.iload 4, 2) := by decide +kernel
theorem dL_law_112 : decode tp_bL_law 112 = .ok (.iconst 1, 1) := by decide +kernel
theorem dL_law_113 : decode tp_bL_law 113 = .ok (.iadd, 1) := by decide +kernel
theorem dL_law_114 : decode tp_bL_law 114 = .ok (.iaload, 1) := by decide +kernel
theorem dL_law_115 : decode tp_bL_law 115 = .ok (.aload_n 0, 1) := by decide +kernel
theorem dL_law_116 : decode tp_bL_law 116 = .ok (.iload 4, 2) := by decide +kernel
theorem dL_law_118 : decode tp_bL_law 118 = .ok (.iconst 2, 1) := by decide +kernel
theorem dL_law_119 : decode tp_bL_law 119 = .ok (.iadd, 1) := by decide +kernel
theorem dL_law_120 : decode tp_bL_law 120 = .ok (.iaload, 1) := by decide +kernel
theorem dL_law_121 : decode tp_bL_law 121 = .ok (.invokestatic 67, 3) := by decide +kernel
theorem dL_law_124 : decode tp_bL_law 124 = .ok (.istore 5, 2) := by decide +kernel
theorem dL_law_126 : decode tp_bL_law 126 = .ok (.aload_n 2, 1) := by decide +kernel
theorem dL_law_127 : decode tp_bL_law 127 = .ok (.aload_n 0, 1) := by decide +kernel
theorem dL_law_128 : decode tp_bL_law 128 = .ok (.iload 4, 2) := by decide +kernel
theorem dL_law_130 : decode tp_bL_law 130 = .ok (.iconst 1, 1) := by decide +kernel
theorem dL_law_131 : decode tp_bL_law 131 = .ok (.iadd, 1) := by decide +kernel
theorem dL_law_132 : decode tp_bL_law 132 = .ok (.iaload, 1) := by decide +kernel
theorem dL_law_133 : decode tp_bL_law 133 = .ok (.aload_n 0, 1) := by decide +kernel
theorem dL_law_134 : decode tp_bL_law 134 = .ok (.iload 4, 2) := by decide +kernel
theorem dL_law_136 : decode tp_bL_law 136 = .ok (.iconst 2, 1) := by decide +kernel
theorem dL_law_137 : decode tp_bL_law 137 = .ok (.iadd, 1) := by decide +kernel
theorem dL_law_138 : decode tp_bL_law 138 = .ok (.iaload, 1) := by decide +kernel
theorem dL_law_139 : decode tp_bL_law 139 = .ok (.invokevirtual 72, 3) := by decide +kernel
theorem dL_law_142 : decode tp_bL_law 142 = .ok (.aload_n 2, 1) := by decide +kernel
theorem dL_law_143 : decode tp_bL_law 143 = .ok (.invokevirtual 73, 3) := by decide +kernel
theorem dL_law_146 : decode tp_bL_law 146 = .ok (.iload 5, 2) := by decide +kernel
theorem dL_law_148 : decode tp_bL_law 148 = .ok (.if_icmp .eq 5, 3) := by decide +kernel
theorem dL_law_151 : decode tp_bL_law 151 = .ok (.iconst 0, 1) := by decide +kernel
theorem dL_law_152 : decode tp_bL_law 152 = .ok (.ireturn, 1) := by decide +kernel
theorem dL_law_153 : decode tp_bL_law 153 = .ok (.goto 712, 3) := by decide +kernel
theorem dL_law_156 : decode tp_bL_law 156 = .ok (.aload_n 1, 1) := by decide +kernel
theorem dL_law_157 : decode tp_bL_law 157 = .ok (.aload_n 3, 1) := by decide +kernel
theorem dL_law_158 : decode tp_bL_law 158 = .ok (.invokestatic 76, 3) := by decide +kernel
theorem dL_law_161 : decode tp_bL_law 161 = .ok (.istore 5, 2) := by decide +kernel
theorem dL_law_163 : decode tp_bL_law 163 = .ok (.aload_n 2, 1) := by decide +kernel
theorem dL_law_164 : decode tp_bL_law 164 = .ok (.invokevirtual 79, 3) := by decide +kernel
theorem dL_law_167 : decode tp_bL_law 167 = .ok (.istore 6, 2) := by decide +kernel
theorem dL_law_169 : decode tp_bL_law 169 = .ok (.aload_n 2, 1) := by decide +kernel
theorem dL_law_170 : decode tp_bL_law 170 = .ok (.invokevirtual 73, 3) := by decide +kernel
theorem dL_law_173 : decode tp_bL_law 173 = .ok (.iload 5, 2) := by decide +kernel
theorem dL_law_175 : decode tp_bL_law 175 = .ok (.if_icmp .eq 5, 3) := by decide +kernel
theorem dL_law_178 : decode tp_bL_law 178 = .ok (.iconst 0, 1) := by decide +kernel
theorem dL_law_179 : decode tp_bL_law 179 = .ok (.ireturn, 1) := by decide +kernel
theorem dL_law_180 : decode tp_bL_law 180 = .ok (.iload 5, 2) := by decide +kernel
theorem dL_law_182 : decode tp_bL_law 182 = .ok (.ifCond .ne 15, 3) := by decide +kernel
theorem dL_law_185 : decode tp_bL_law 185 = .ok (.aload_n 3, 1) := by decide +kernel
theorem dL_law_186 : decode tp_bL_law 186 = .ok (.iconst 0, 1) := by decide +kernel
theorem dL_law_187 : decode tp_bL_law 187 = .ok (.laload, 1) := by decide +kernel
theorem dL_law_188 : decode tp_bL_law 188 = .ok (.iload 6, 2) := by decide +kernel
theorem dL_law_190 : decode tp_bL_law 190 = .ok (.i2l, 1) := by decide +kernel
theorem dL_law_191 : decode tp_bL_law 191 = .ok (.lcmp, 1) := by decide +kernel
theorem dL_law_192 : decode tp_bL_law 192 = .ok (.ifCond .eq 5, 3) := by decide +kernel
theorem dL_law_195 : decode tp_bL_law 195 = .ok (.iconst 0, 1) := by decide +kernel
theorem dL_law_196 : decode tp_bL_law 196 = .ok (.ireturn, 1) := by decide +kernel
theorem dL_law_197 : decode tp_bL_law 197 = .ok (.goto 668, 3) := by decide +kernel
theorem dL_law_200 : decode tp_bL_law 200 = .ok (.aload_n 1, 1) := by decide +kernel
theorem dL_law_201 : decode tp_bL_law 201 = .ok (.aload_n 0, 1) := by decide +kernel
theorem dL_law_202 : decode tp_bL_law 202 = .ok (.iload 4, 2) := by decide +kernel
theorem dL_law_204 : decode tp_bL_law 204 = .ok (.iconst 1, 1) := by decide +kernel
theorem dL_law_205 : decode tp_bL_law 205 = .ok (.iadd, 1) := by decide +kernel
theorem dL_law_206 : decode tp_bL_law 206 = .ok (.iaload, 1) := by decide +kernel
theorem dL_law_207 : decode tp_bL_law 207 = .ok (.aload_n 3, 1) := by decide +kernel
theorem dL_law_208 : decode tp_bL_law 208 = .ok (.invokestatic 80, 3) := by decide +kernel
theorem dL_law_211 : decode tp_bL_law 211 = .ok (.istore 5, 2) := by decide +kernel
theorem dL_law_213 : decode tp_bL_law 213 = .ok (.aload_n 2, 1) := by decide +kernel
theorem dL_law_214 : decode tp_bL_law 214 = .ok (.aload_n 0, 1) := by decide +kernel
theorem dL_law_215 : decode tp_bL_law 215 = .ok (.iload 4, 2) := by decide +kernel
theorem dL_law_217 : decode tp_bL_law 217 = .ok (.iconst 1, 1) := by decide +kernel
theorem dL_law_218 : decode tp_bL_law 218 = .ok (.iadd, 1) := by decide +kernel
theorem dL_law_219 : decode tp_bL_law 219 = .ok (.iaload, 1) := by decide +kernel
theorem dL_law_220 : decode tp_bL_law 220 = .ok (.invokevirtual 83, 3) := by decide +kernel
theorem dL_law_223 : decode tp_bL_law 223 = .ok (.istore 6, 2) := by decide +kernel
theorem dL_law_225 : decode tp_bL_law 225 = .ok (.aload_n 2, 1) := by decide +kernel
theorem dL_law_226 : decode tp_bL_law 226 = .ok (.invokevirtual 73, 3) := by decide +kernel
theorem dL_law_229 : decode tp_bL_law 229 = .ok (.iload 5, 2) := by decide +kernel
theorem dL_law_231 : decode tp_bL_law 231 = .ok (.if_icmp .eq 5, 3) := by decide +kernel
theorem dL_law_234 : decode tp_bL_law 234 = .ok (.iconst 0, 1) := by decide +kernel
theorem dL_law_235 : decode tp_bL_law 235 = .ok (.ireturn, 1) := by decide +kernel
theorem dL_law_236 : decode tp_bL_law 236 = .ok (.iload 5, 2) := by decide +kernel
theorem dL_law_238 : decode tp_bL_law 238 = .ok (.ifCond .ne 15, 3) := by decide +kernel
theorem dL_law_241 : decode tp_bL_law 241 = .ok (.aload_n 3, 1) := by decide +kernel
theorem dL_law_242 : decode tp_bL_law 242 = .ok (.iconst 0, 1) := by decide +kernel
theorem dL_law_243 : decode tp_bL_law 243 = .ok (.laload, 1) := by decide +kernel
theorem dL_law_244 : decode tp_bL_law 244 = .ok (.iload 6, 2) := by decide +kernel
theorem dL_law_246 : decode tp_bL_law 246 = .ok (.i2l, 1) := by decide +kernel
theorem dL_law_247 : decode tp_bL_law 247 = .ok (.lcmp, 1) := by decide +kernel
theorem dL_law_248 : decode tp_bL_law 248 = .ok (.ifCond .eq 5, 3) := by decide +kernel
