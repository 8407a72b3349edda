theorem dC_init_0 : decode tp_bC_init 0 = .ok (.aload_n 0, 1) := by decide +kernel
theorem dC_init_1 : decode tp_bC_init 1 = .ok (.invokespecial 1, 3) := by decide +kernel
theorem dC_init_4 : decode tp_bC_init 4 = .ok (.aload_n 0, 1) := by decide +kernel
theorem dC_init_5 : decode tp_bC_init 5 = .ok (.bipush 12, 2) := by decide +kernel
theorem dC_init_7 : decode tp_bC_init 7 = .ok (.newarray .int, 2) := by decide +kernel
theorem dC_init_9 : decode tp_bC_init 9 = .ok (.putfield 9, 3) := by decide +kernel
theorem dC_init_12 : decode tp_bC_init 12 = .ok (.aload_n 0, 1) := by decide +kernel
theorem dC_init_13 : decode tp_bC_init 13 = .ok (.bipush 12, 2) := by decide +kernel
theorem dC_init_15 : decode tp_bC_init 15 = .ok (.newarray .int, 2) := by decide +kernel
theorem dC_init_17 : decode tp_bC_init 17 = .ok (.putfield 13, 3) := by decide +kernel
theorem dC_init_20 : decode tp_bC_init 20 = .ok (.aload_n 0, 1) := by decide +kernel
theorem dC_init_21 : decode tp_bC_init 21 = .ok (.bipush 12, 2) := by decide +kernel
theorem dC_init_23 : decode tp_bC_init 23 = .ok (.newarray .boolean, 2) := by decide +kernel
theorem dC_init_25 : decode tp_bC_init 25 = .ok (.putfield 16, 3) := by decide +kernel
theorem dC_init_28 : decode tp_bC_init 28 = .ok (.aload_n 0, 1) := by decide +kernel
theorem dC_init_29 : decode tp_bC_init 29 = .ok (.sipush 400, 3) := by decide +kernel
theorem dC_init_32 : decode tp_bC_init 32 = .ok (.newarray .boolean, 2) := by decide +kernel
theorem dC_init_34 : decode tp_bC_init 34 = .ok (.putfield 20, 3) := by decide +kernel
theorem dC_init_37 : decode tp_bC_init 37 = .ok (.aload_n 0, 1) := by decide +kernel
theorem dC_init_38 : decode tp_bC_init 38 = .ok (.sipush 400, 3) := by decide +kernel
theorem dC_init_41 : decode tp_bC_init 41 = .ok (.newarray .int, 2) := by decide +kernel
theorem dC_init_43 : decode tp_bC_init 43 = .ok (.putfield 23, 3) := by decide +kernel
theorem dC_init_46 : decode tp_bC_init 46 = .ok (.aload_n 0, 1) := by decide +kernel
theorem dC_init_47 : decode tp_bC_init 47 = .ok (.sipush 400, 3) := by decide +kernel
theorem dC_init_50 : decode tp_bC_init 50 = .ok (.newarray .int, 2) := by decide +kernel
theorem dC_init_52 : decode tp_bC_init 52 = .ok (.putfield 26, 3) := by decide +kernel
theorem dC_init_55 : decode tp_bC_init 55 = .ok (.aload_n 0, 1) := by decide +kernel
theorem dC_init_56 : decode tp_bC_init 56 = .ok (.sipush 1600, 3) := by decide +kernel
theorem dC_init_59 : decode tp_bC_init 59 = .ok (.newarray .int, 2) := by decide +kernel
theorem dC_init_61 : decode tp_bC_init 61 = .ok (.putfield 29, 3) := by decide +kernel
theorem dC_init_64 : decode tp_bC_init 64 = .ok (.aload_n 0, 1) := by decide +kernel
theorem dC_init_65 : decode tp_bC_init 65 = .ok (.iconst 0, 1) := by decide +kernel
theorem dC_init_66 : decode tp_bC_init 66 = .ok (.putfield 32, 3) := by decide +kernel
theorem dC_init_69 : decode tp_bC_init 69 = .ok (.iconst 0, 1) := by decide +kernel
theorem dC_init_70 : decode tp_bC_init 70 = .ok (.istore_n 1, 1) := by decide +kernel
theorem dC_init_71 : decode tp_bC_init 71 = .ok (.iload_n 1, 1) := by decide +kernel
theorem dC_init_72 : decode tp_bC_init 72 = .ok (.sipush 400, 3) := by decide +kernel
theorem dC_init_75 : decode tp_bC_init 75 = .ok (.if_icmp .ge 23, 3) := by decide +kernel
theorem dC_init_78 : decode tp_bC_init 78 = .ok (.aload_n 0, 1) := by decide +kernel
theorem dC_init_79 : decode tp_bC_init 79 = .ok (.getfield 23, 3) := by decide +kernel
theorem dC_init_82 : decode tp_bC_init 82 = .ok (.iload_n 1, 1) := by decide +kernel
theorem dC_init_83 : decode tp_bC_init 83 = .ok (.iconst (-1), 1) := by decide +kernel
theorem dC_init_84 : decode tp_bC_init 84 = .ok (.iastore, 1) := by decide +kernel
theorem dC_init_85 : decode tp_bC_init 85 = .ok (.aload_n 0, 1) := by decide +kernel
theorem dC_init_86 : decode tp_bC_init 86 = .ok (.getfield 26, 3) := by decide +kernel
theorem dC_init_89 : decode tp_bC_init 89 = .ok (.iload_n 1, 1) := by decide +kernel
theorem dC_init_90 : decode tp_bC_init 90 = .ok (.iconst (-1), 1) := by decide +kernel
theorem dC_init_91 : decode tp_bC_init 91 = .ok (.iastore, 1) := by decide +kernel
theorem dC_init_92 : decode tp_bC_init 92 = .ok (.iinc 1 1, 3) := by decide +kernel
theorem dC_init_95 : decode tp_bC_init 95 = .ok (.goto (-24), 3) := by decide +kernel
theorem dC_init_98 : decode tp_bC_init 98 = .ok (.return_, 1) := by decide +kernel
theorem dC_disk_0 : decode tp_bC_disk 0 = .ok (.iload_n 1, 1) := by decide +kernel
theorem dC_disk_1 : decode tp_bC_disk 1 = .ok (.ifCond .lt 9, 3) := by decide +kernel
theorem dC_disk_4 : decode tp_bC_disk 4 = .ok (.iload_n 1, 1) := by decide +kernel
theorem dC_disk_5 : decode tp_bC_disk 5 = .ok (.bipush 12, 2) := by decide +kernel
theorem dC_disk_7 : decode tp_bC_disk 7 = .ok (.if_icmp .lt 11, 3) := by decide +kernel
theorem dC_disk_10 : decode tp_bC_disk 10 = .ok (.new 36, 3) := by decide +kernel
theorem dC_disk_13 : decode tp_bC_disk 13 = .ok (.dup, 1) := by decide +kernel
theorem dC_disk_14 : decode tp_bC_disk 14 = .ok (.invokespecial 38, 3) := by decide +kernel
theorem dC_disk_17 : decode tp_bC_disk 17 = .ok (.athrow, 1) := by decide +kernel
theorem dC_disk_18 : decode tp_bC_disk 18 = .ok (.aload_n 0, 1) := by decide +kernel
theorem dC_disk_19 : decode tp_bC_disk 19 = .ok (.iload_n 1, 1) := by decide +kernel
theorem dC_disk_20 : decode tp_bC_disk 20 = .ok (.invokevirtual 39, 3) := by decide +kernel
theorem dC_disk_23 : decode tp_bC_disk 23 = .ok (.ifCond .eq 11, 3) := by decide +kernel
theorem dC_disk_26 : decode tp_bC_disk 26 = .ok (.new 43, 3) := by decide +kernel
theorem dC_disk_29 : decode tp_bC_disk 29 = .ok (.dup, 1) := by decide +kernel
theorem dC_disk_30 : decode tp_bC_disk 30 = .ok (.invokespecial 45, 3) := by decide +kernel
theorem dC_disk_33 : decode tp_bC_disk 33 = .ok (.athrow, 1) := by decide +kernel
theorem dC_disk_34 : decode tp_bC_disk 34 = .ok (.iload_n 2, 1) := by decide +kernel
theorem dC_disk_35 : decode tp_bC_disk 35 = .ok (.iconst 1, 1) := by decide +kernel
theorem dC_disk_36 : decode tp_bC_disk 36 = .ok (.if_icmp .lt 10, 3) := by decide +kernel
theorem dC_disk_39 : decode tp_bC_disk 39 = .ok (.iload_n 2, 1) := by decide +kernel
theorem dC_disk_40 : decode tp_bC_disk 40 = .ok (.sipush 200, 3) := by decide +kernel
theorem dC_disk_43 : decode tp_bC_disk 43 = .ok (.if_icmp .le 11, 3) := by decide +kernel
theorem dC_disk_46 : decode tp_bC_disk 46 = .ok (.new 46, 3) := by decide +kernel
theorem dC_disk_49 : decode tp_bC_disk 49 = .ok (.dup, 1) := by decide +kernel
theorem dC_disk_50 : decode tp_bC_disk 50 = .ok (.invokespecial 48, 3) := by decide +kernel
theorem dC_disk_53 : decode tp_bC_disk 53 = .ok (.athrow, 1) := by decide +kernel
theorem dC_disk_54 : decode tp_bC_disk 54 = .ok (.aload_n 0, 1) := by decide +kernel
theorem dC_disk_55 : decode tp_bC_disk 55 = .ok (.getfield 9, 3) := by decide +kernel
theorem dC_disk_58 : decode tp_bC_disk 58 = .ok (.iload_n 1, 1) := by decide +kernel
theorem dC_disk_59 : decode tp_bC_disk 59 = .ok (.iload_n 2, 1) := by decide +kernel
theorem dC_disk_60 : decode tp_bC_disk 60 = .ok (.iastore, 1) := by decide +kernel
theorem dC_disk_61 : decode tp_bC_disk 61 = .ok (.return_, 1) := by decide +kernel
theorem dC_chunk_0 : decode tp_bC_chunk 0 = .ok (.aload_n 0, 1) := by decide +kernel
theorem dC_chunk_1 : decode tp_bC_chunk 1 = .ok (.invokevirtual 49, 3) := by decide +kernel
theorem dC_chunk_4 : decode tp_bC_chunk 4 = .ok (.istore_n 1, 1) := by decide +kernel
theorem dC_chunk_5 : decode tp_bC_chunk 5 = .ok (.iload_n 1, 1) := by decide +kernel
theorem dC_chunk_6 : decode tp_bC_chunk 6 = .ok (.iconst (-1), 1) := by decide +kernel
theorem dC_chunk_7 : decode tp_bC_chunk 7 = .ok (.if_icmp .ne 11, 3) := by decide +kernel
theorem dC_chunk_10 : decode tp_bC_chunk 10 = .ok (.new 53, 3) := by decide +kernel
theorem dC_chunk_13 : decode tp_bC_chunk 13 = .ok (.dup, 1) := by decide +kernel
theorem dC_chunk_14 : decode tp_bC_chunk 14 = .ok (.invokespecial 55, 3) := by decide +kernel
theorem dC_chunk_17 : decode tp_bC_chunk 17 = .ok (.athrow, 1) := by decide +kernel
theorem dC_chunk_18 : decode tp_bC_chunk 18 = .ok (.iload_n 1, 1) := by decide +kernel
theorem dC_chunk_19 : decode tp_bC_chunk 19 = .ok (.ireturn, 1) := by decide +kernel
theorem dC_chunks_0 : decode tp_bC_chunks 0 = .ok (.iload_n 1, 1) := by decide +kernel
theorem dC_chunks_1 : decode tp_bC_chunks 1 = .ok (.ifCond .ge 11, 3) := by decide +kernel
theorem dC_chunks_4 : decode tp_bC_chunks 4 = .ok (.new 46, 3) := by decide +kernel
theorem dC_chunks_7 : decode tp_bC_chunks 7 = .ok (.dup, 1) := by decide +kernel
theorem dC_chunks_8 : decode tp_bC_chunks 8 = .ok (.invokespecial 48, 3) := by decide +kernel
theorem dC_chunks_11 : decode tp_bC_chunks 11 = .ok (.athrow, 1) := by decide +kernel
theorem dC_chunks_12 : decode tp_bC_chunks 12 = .ok (.iload_n 1, 1) := by decide +kernel
theorem dC_chunks_13 : decode tp_bC_chunks 13 = .ok (.sipush 400, 3) := by decide +kernel
theorem dC_chunks_16 : decode tp_bC_chunks 16 = .ok (.invokestatic 56, 3) := by decide +kernel
theorem dC_chunks_19 : decode tp_bC_chunks 19 = .ok (.istore_n 2, 1) := by decide +kernel
theorem dC_chunks_20 : decode tp_bC_chunks 20 = .ok (.iconst 0, 1) := by decide +kernel
theorem dC_chunks_21 : decode tp_bC_chunks 21 = .ok (.istore_n 3, 1) := by decide +kernel
theorem dC_chunks_22 : decode tp_bC_chunks 22 = .ok (.iload_n 3, 1) := by decide +kernel
theorem dC_chunks_23 : decode tp_bC_chunks 23 = .ok (.iload_n 2, 1) := by decide +kernel
theorem dC_chunks_24 : decode tp_bC_chunks 24 = .ok (.if_icmp .ge 17, 3) := by decide +kernel
theorem dC_chunks_27 : decode tp_bC_chunks 27 = .ok (.aload_n 0, 1) := by decide +kernel
theorem dC_chunks_28 : decode tp_bC_chunks 28 = .ok (.invokevirtual 49, 3) := by decide +kernel
theorem dC_chunks_31 : decode tp_bC_chunks 31 = .ok (.iconst (-1), 1) := by decide +kernel
theorem dC_chunks_32 : decode tp_bC_chunks 32 = .ok (.if_icmp .eq 9, 3) := by decide +kernel
theorem dC_chunks_35 : decode tp_bC_chunks 35 = .ok (.iinc 3 1, 3) := by decide +kernel
theorem dC_chunks_38 : decode tp_bC_chunks 38 = .ok (.goto (-16), 3) := by decide +kernel
theorem dC_chunks_41 : decode tp_bC_chunks 41 = .ok (.iload_n 3, 1) := by decide +kernel
theorem dC_chunks_42 : decode tp_bC_chunks 42 = .ok (.ireturn, 1) := by decide +kernel
theorem dC_free_0 : decode tp_bC_free 0 = .ok (.aload_n 0, 1) := by decide +kernel
theorem dC_free_1 : decode tp_bC_free 1 = .ok (.iload_n 1, 1) := by decide +kernel
theorem dC_free_2 : decode tp_bC_free 2 = .ok (.invokevirtual 62, 3) := by decide +kernel
theorem dC_free_5 : decode tp_bC_free 5 = .ok (.ifCond .ne 11, 3) := by decide +kernel
theorem dC_free_8 : decode tp_bC_free 8 = .ok (.new 36, 3) := by decide +kernel
theorem dC_free_11 : decode tp_bC_free 11 = .ok (.dup, 1) := by decide +kernel
theorem dC_free_12 : decode tp_bC_free 12 = .ok (.invokespecial 38, 3) := by decide +kernel
theorem dC_free_15 : decode tp_bC_free 15 = .ok (.athrow, 1) := by decide +kernel
theorem dC_free_16 : decode tp_bC_free 16 = .ok (.aload_n 0, 1) := by decide +kernel
theorem dC_free_17 : decode tp_bC_free 17 = .ok (.iload_n 1, 1) := by decide +kernel
theorem dC_free_18 : decode tp_bC_free 18 = .ok (.invokevirtual 65, 3) := by decide +kernel
theorem dC_free_21 : decode tp_bC_free 21 = .ok (.istore_n 2, 1) := by decide +kernel
theorem dC_free_22 : decode tp_bC_free 22 = .ok (.aload_n 0, 1) := by decide +kernel
theorem dC_free_23 : decode tp_bC_free 23 = .ok (.getfield 26, 3) := by decide +kernel
theorem dC_free_26 : decode tp_bC_free 26 = .ok (.iload_n 1, 1) := by decide +kernel
theorem dC_free_27 : decode tp_bC_free 27 = .ok (.iaload, 1) := by decide +kernel
theorem dC_free_28 : decode tp_bC_free 28 = .ok (.iconst (-1), 1) := by decide +kernel
theorem dC_free_29 : decode tp_bC_free 29 = .ok (.if_icmp .eq 14, 3) := by decide +kernel
theorem dC_free_32 : decode tp_bC_free 32 = .ok (.aload_n 0, 1) := by decide +kernel
theorem dC_free_33 : decode tp_bC_free 33 = .ok (.iload_n 1, 1) := by decide +kernel
theorem dC_free_34 : decode tp_bC_free 34 = .ok (.aload_n 0, 1) := by decide +kernel
theorem dC_free_35 : decode tp_bC_free 35 = .ok (.getfield 26, 3) := by decide +kernel
theorem dC_free_38 : decode tp_bC_free 38 = .ok (.iload_n 1, 1) := by decide +kernel
theorem dC_free_39 : decode tp_bC_free 39 = .ok (.iaload, 1) := by decide +kernel
theorem dC_free_40 : decode tp_bC_free 40 = .ok (.invokevirtual 69, 3) := by decide +kernel
theorem dC_free_43 : decode tp_bC_free 43 = .ok (.aload_n 0, 1) := by decide +kernel
theorem dC_free_44 : decode tp_bC_free 44 = .ok (.getfield 23, 3) := by decide +kernel
theorem dC_free_47 : decode tp_bC_free 47 = .ok (.iload_n 1, 1) := by decide +kernel
theorem dC_free_48 : decode tp_bC_free 48 = .ok (.iaload, 1) := by decide +kernel
theorem dC_free_49 : decode tp_bC_free 49 = .ok (.iconst (-1), 1) := by decide +kernel
theorem dC_free_50 : decode tp_bC_free 50 = .ok (.if_icmp .eq 14, 3) := by decide +kernel
theorem dC_free_53 : decode tp_bC_free 53 = .ok (.aload_n 0, 1) := by decide +kernel
theorem dC_free_54 : decode tp_bC_free 54 = .ok (.iload_n 1, 1) := by decide +kernel
theorem dC_free_55 : decode tp_bC_free 55 = .ok (.aload_n 0, 1) := by decide +kernel
theorem dC_free_56 : decode tp_bC_free 56 = .ok (.getfield 23, 3) := by decide +kernel
theorem dC_free_59 : decode tp_bC_free 59 = .ok (.iload_n 1, 1) := by decide +kernel
theorem dC_free_60 : decode tp_bC_free 60 = .ok (.iaload, 1) := by decide +kernel
theorem dC_free_61 : decode tp_bC_free 61 = .ok (.invokevirtual 69, 3) := by decide +kernel
theorem dC_free_64 : decode tp_bC_free 64 = .ok (.aload_n 0, 1) := by decide +kernel
theorem dC_free_65 : decode tp_bC_free 65 = .ok (.getfield 20, 3) := by decide +kernel
theorem dC_free_68 : decode tp_bC_free 68 = .ok (.iload_n 1, 1) := by decide +kernel
theorem dC_free_69 : decode tp_bC_free 69 = .ok (.iconst 0, 1) := by decide +kernel
theorem dC_free_70 : decode tp_bC_free 70 = .ok (.bastore, 1) := by decide +kernel
theorem dC_free_71 : decode tp_bC_free 71 = .ok (.iload_n 2, 1) := by decide +kernel
theorem dC_free_72 : decode tp_bC_free 72 = .ok (.ireturn, 1) := by decide +kernel
theorem dC_write_0 : decode tp_bC_write 0 = .ok (.aload_n 0, 1) := by decide +kernel
theorem dC_write_1 : decode tp_bC_write 1 = .ok (.iload_n 1, 1) := by decide +kernel
theorem dC_write_2 : decode tp_bC_write 2 = .ok (.invokevirtual 62, 3) := by decide +kernel
theorem dC_write_5 : decode tp_bC_write 5 = .ok (.ifCond .eq 12, 3) := by decide +kernel
theorem dC_write_8 : decode tp_bC_write 8 = .ok (.iload_n 2, 1) := by decide +kernel
theorem dC_write_9 : decode tp_bC_write 9 = .ok (.ifCond .lt 8, 3) := by decide +kernel
theorem dC_write_12 : decode tp_bC_write 12 = .ok (.iload_n 2, 1) := by decide +kernel
theorem dC_write_13 : decode tp_bC_write 13 = .ok (.iconst 4, 1) := by decide +kernel
theorem dC_write_14 : decode tp_bC_write 14 = .ok (.if_icmp .lt 11, 3) := by decide +kernel
theorem dC_write_17 : decode tp_bC_write 17 = .ok (.new 36, 3) := by decide +kernel
theorem dC_write_20 : decode tp_bC_write 20 = .ok (.dup, 1) := by decide +kernel
theorem dC_write_21 : decode tp_bC_write 21 = .ok (.invokespecial 38, 3) := by decide +kernel
theorem dC_write_24 : decode tp_bC_write 24 = .ok (.athrow, 1) := by decide +kernel
theorem dC_write_25 : decode tp_bC_write 25 = .ok (.aload_n 0, 1) := by decide +kernel
theorem dC_write_26 : decode tp_bC_write 26 = .ok (.iload_n 1, 1) := by decide +kernel
theorem dC_write_27 : decode tp_bC_write 27 = .ok (.invokevirtual 65, 3) := by decide +kernel
theorem dC_write_30 : decode tp_bC_write 30 = .ok (.ifCond .ne 11, 3) := by decide +kernel
theorem dC_write_33 : decode tp_bC_write 33 = .ok (.new 43, 3) := by decide +kernel
theorem dC_write_36 : decode tp_bC_write 36 = .ok (.dup, 1) := by decide +kernel
theorem dC_write_37 : decode tp_bC_write 37 = .ok (.invokespecial 45, 3) := by decide +kernel
theorem dC_write_40 : decode tp_bC_write 40 = .ok (.athrow, 1) := by decide +kernel
theorem dC_write_41 : decode tp_bC_write 41 = .ok (.aload_n 0, 1) := by decide +kernel
theorem dC_write_42 : decode tp_bC_write 42 = .ok (.getfield 29, 3) := by decide +kernel
theorem dC_write_45 : decode tp_bC_write 45 = .ok (.iload_n 1, 1) := by decide +kernel
theorem dC_write_46 : decode tp_bC_write 46 = .ok (.iconst 4, 1) := by decide +kernel
theorem dC_write_47 : decode tp_bC_write 47 = .ok (.imul, 1) := by decide +kernel
theorem dC_write_48 : decode tp_bC_write 48 = .ok (.iload_n 2, 1) := by decide +kernel
theorem dC_write_49 : decode tp_bC_write 49 = .ok (.iadd, 1) := by decide +kernel
theorem dC_write_50 : decode tp_bC_write 50 = .ok (.iload_n 3, 1) := by decide +kernel
theorem dC_write_51 : decode tp_bC_write 51 = .ok (.iastore, 1) := by decide +kernel
theorem dC_write_52 : decode tp_bC_write 52 = .ok (.return_, 1) := by decide +kernel
theorem dC_read_0 : decode tp_bC_read 0 = .ok (.aload_n 0, 1) := by decide +kernel
theorem dC_read_1 : decode tp_bC_read 1 = .ok (.iload_n 1, 1) := by decide +kernel
theorem dC_read_2 : decode tp_bC_read 2 = .ok (.invokevirtual 62, 3) := by decide +kernel
theorem dC_read_5 : decode tp_bC_read 5 = .ok (.ifCond .eq 12, 3) := by decide +kernel
theorem dC_read_8 : decode tp_bC_read 8 = .ok (.iload_n 2, 1) := by decide +kernel
theorem dC_read_9 : decode tp_bC_read 9 = .ok (.ifCond .lt 8, 3) := by decide +kernel
theorem dC_read_12 : decode tp_bC_read 12 = .ok (.iload_n 2, 1) := by decide +kernel
theorem dC_read_13 : decode tp_bC_read 13 = .ok (.iconst 4, 1) := by decide +kernel
theorem dC_read_14 : decode tp_bC_read 14 = .ok (.if_icmp .lt 11, 3) := by decide +kernel
theorem dC_read_17 : decode tp_bC_read 17 = .ok (.new 36, 3) := by decide +kernel
theorem dC_read_20 : decode tp_bC_read 20 = .ok (.dup, 1) := by decide +kernel
theorem dC_read_21 : decode tp_bC_read 21 = .ok (.invokespecial 38, 3) := by decide +kernel
theorem dC_read_24 : decode tp_bC_read 24 = .ok (.athrow, 1) := by decide +kernel
theorem dC_read_25 : decode tp_bC_read 25 = .ok (.aload_n 0, 1) := by decide +kernel
theorem dC_read_26 : decode tp_bC_read 26 = .ok (.iload_n 1, 1) := by decide +kernel
theorem dC_read_27 : decode tp_bC_read 27 = .ok (.invokevirtual 65, 3) := by decide +kernel
theorem dC_read_30 : decode tp_bC_read 30 = .ok (.ifCond .ne 11, 3) := by decide +kernel
theorem dC_read_33 : decode tp_bC_read 33 = .ok (.new 43, 3) := by decide +kernel
theorem dC_read_36 : decode tp_bC_read 36 = .ok (.dup, 1) := by decide +kernel
theorem dC_read_37 : decode tp_bC_read 37 = .ok (.invokespecial 45, 3) := by decide +kernel
theorem dC_read_40 : decode tp_bC_read 40 = .ok (.athrow, 1) := by decide +kernel
theorem dC_read_41 : decode tp_bC_read 41 = .ok (.aload_n 0, 1) := by decide +kernel
theorem dC_read_42 : decode tp_bC_read 42 = .ok (.getfield 29, 3) := by decide +kernel
theorem dC_read_45 : decode tp_bC_read 45 = .ok (.iload_n 1, 1) := by decide +kernel
theorem dC_read_46 : decode tp_bC_read 46 = .ok (.iconst 4, 1) := by decide +kernel
theorem dC_read_47 : decode tp_bC_read 47 = .ok (.imul, 1) := by decide +kernel
theorem dC_read_48 : decode tp_bC_read 48 = .ok (.iload_n 2, 1) := by decide +kernel
theorem dC_read_49 : decode tp_bC_read 49 = .ok (.iadd, 1) := by decide +kernel
theorem dC_read_50 : decode tp_bC_read 50 = .ok (.iaload, 1) := by decide +kernel
theorem dC_read_51 : decode tp_bC_read 51 = .ok (.ireturn, 1) := by decide +kernel
theorem dC_fail_0 : decode tp_bC_fail 0 = .ok (.aload_n 0, 1) := by decide +kernel
theorem dC_fail_1 : decode tp_bC_fail 1 = .ok (.iload_n 1, 1) := by decide +kernel
theorem dC_fail_2 : decode tp_bC_fail 2 = .ok (.invokevirtual 39, 3) := by decide +kernel
theorem dC_fail_5 : decode tp_bC_fail 5 = .ok (.ifCond .ne 11, 3) := by decide +kernel
theorem dC_fail_8 : decode tp_bC_fail 8 = .ok (.new 36, 3) := by decide +kernel
theorem dC_fail_11 : decode tp_bC_fail 11 = .ok (.dup, 1) := by decide +kernel
theorem dC_fail_12 : decode tp_bC_fail 12 = .ok (.invokespecial 38, 3) := by decide +kernel
theorem dC_fail_15 : decode tp_bC_fail 15 = .ok (.athrow, 1) := by decide +kernel
theorem dC_fail_16 : decode tp_bC_fail 16 = .ok (.aload_n 0, 1) := by decide +kernel
theorem dC_fail_17 : decode tp_bC_fail 17 = .ok (.getfield 13, 3) := by decide +kernel
theorem dC_fail_20 : decode tp_bC_fail 20 = .ok (.iload_n 1, 1) := by decide +kernel
theorem dC_fail_21 : decode tp_bC_fail 21 = .ok (.iaload, 1) := by decide +kernel
theorem dC_fail_22 : decode tp_bC_fail 22 = .ok (.istore_n 2, 1) := by decide +kernel
theorem dC_fail_23 : decode tp_bC_fail 23 = .ok (.iconst 0, 1) := by decide +kernel
theorem dC_fail_24 : decode tp_bC_fail 24 = .ok (.istore_n 3, 1) := by decide +kernel
theorem dC_fail_25 : decode tp_bC_fail 25 = .ok (.iload_n 3, 1) := by decide +kernel
theorem dC_fail_26 : decode tp_bC_fail 26 = .ok (.sipush 400, 3) := by decide +kernel
theorem dC_fail_29 : decode tp_bC_fail 29 = .ok (.if_icmp .ge 24, 3) := by decide +kernel
theorem dC_fail_32 : decode tp_bC_fail 32 = .ok (.aload_n 0, 1) := by decide +kernel
theorem dC_fail_33 : decode tp_bC_fail 33 = .ok (.iload_n 3, 1) := by decide +kernel
theorem dC_fail_34 : decode tp_bC_fail 34 = .ok (.iload_n 1, 1) := by decide +kernel
theorem dC_fail_35 : decode tp_bC_fail 35 = .ok (.invokevirtual 73, 3) := by decide +kernel
theorem dC_fail_38 : decode tp_bC_fail 38 = .ok (.ifCond .eq 9, 3) := by decide +kernel
theorem dC_fail_41 : decode tp_bC_fail 41 = .ok (.aload_n 0, 1) := by decide +kernel
theorem dC_fail_42 : decode tp_bC_fail 42 = .ok (.iload_n 3, 1) := by decide +kernel
theorem dC_fail_43 : decode tp_bC_fail 43 = .ok (.iload_n 1, 1) := by decide +kernel
theorem dC_fail_44 : decode tp_bC_fail 44 = .ok (.invokevirtual 69, 3) := by decide +kernel
theorem dC_fail_47 : decode tp_bC_fail 47 = .ok (.iinc 3 1, 3) := by decide +kernel
theorem dC_fail_50 : decode tp_bC_fail 50 = .ok (.goto (-25), 3) := by decide +kernel
theorem dC_fail_53 : decode tp_bC_fail 53 = .ok (.aload_n 0, 1) := by decide +kernel
theorem dC_fail_54 : decode tp_bC_fail 54 = .ok (.iload_n 1, 1) := by decide +kernel
theorem dC_fail_55 : decode tp_bC_fail 55 = .ok (.invokevirtual 77, 3) := by decide +kernel
theorem dC_fail_58 : decode tp_bC_fail 58 = .ok (.iload_n 2, 1) := by decide +kernel
theorem dC_fail_59 : decode tp_bC_fail 59 = .ok (.ireturn, 1) := by decide +kernel
theorem dC_leave_0 : decode tp_bC_leave 0 = .ok (.aload_n 0, 1) := by decide +kernel
theorem dC_leave_1 : decode tp_bC_leave 1 = .ok (.iload_n 1, 1) := by decide +kernel
theorem dC_leave_2 : decode tp_bC_leave 2 = .ok (.invokevirtual 39, 3) := by decide +kernel
theorem dC_leave_5 : decode tp_bC_leave 5 = .ok (.ifCond .ne 11, 3) := by decide +kernel
theorem dC_leave_8 : decode tp_bC_leave 8 = .ok (.new 36, 3) := by decide +kernel
theorem dC_leave_11 : decode tp_bC_leave 11 = .ok (.dup, 1) := by decide +kernel
theorem dC_leave_12 : decode tp_bC_leave 12 = .ok (.invokespecial 38, 3) := by decide +kernel
theorem dC_leave_15 : decode tp_bC_leave 15 = .ok (.athrow, 1) := by decide +kernel
theorem dC_leave_16 : decode tp_bC_leave 16 = .ok (.aload_n 0, 1) := by decide +kernel
theorem dC_leave_17 : decode tp_bC_leave 17 = .ok (.getfield 16, 3) := by decide +kernel
theorem dC_leave_20 : decode tp_bC_leave 20 = .ok (.iload_n 1, 1) := by decide +kernel
theorem dC_leave_21 : decode tp_bC_leave 21 = .ok (.baload, 1) := by decide +kernel
theorem dC_leave_22 : decode tp_bC_leave 22 = .ok (.ifCond .ne 15, 3) := by decide +kernel
theorem dC_leave_25 : decode tp_bC_leave 25 = .ok (.aload_n 0, 1) := by decide +kernel
theorem dC_leave_26 : decode tp_bC_leave 26 = .ok (.iconst 2, 1) := by decide +kernel
theorem dC_leave_27 : decode tp_bC_leave 27 = .ok (.invokevirtual 81, 3) := by decide +kernel
theorem dC_leave_30 : decode tp_bC_leave 30 = .ok (.aload_n 0, 1) := by decide +kernel
theorem dC_leave_31 : decode tp_bC_leave 31 = .ok (.invokevirtual 84, 3) := by decide +kernel
theorem dC_leave_34 : decode tp_bC_leave 34 = .ok (.if_icmp .ge 11, 3) := by decide +kernel
theorem dC_leave_37 : decode tp_bC_leave 37 = .ok (.new 43, 3) := by decide +kernel
theorem dC_leave_40 : decode tp_bC_leave 40 = .ok (.dup, 1) := by decide +kernel
theorem dC_leave_41 : decode tp_bC_leave 41 = .ok (.invokespecial 45, 3) := by decide +kernel
theorem dC_leave_44 : decode tp_bC_leave 44 = .ok (.athrow, 1) := by decide +kernel
theorem dC_leave_45 : decode tp_bC_leave 45 = .ok (.aload_n 0, 1) := by decide +kernel
theorem dC_leave_46 : decode tp_bC_leave 46 = .ok (.invokevirtual 84, 3) := by decide +kernel
theorem dC_leave_49 : decode tp_bC_leave 49 = .ok (.aload_n 0, 1) := by decide +kernel
theorem dC_leave_50 : decode tp_bC_leave 50 = .ok (.iload_n 1, 1) := by decide +kernel
theorem dC_leave_51 : decode tp_bC_leave 51 = .ok (.invokevirtual 87, 3) := by decide +kernel
theorem dC_leave_54 : decode tp_bC_leave 54 = .ok (.if_icmp .le 11, 3) := by decide +kernel
theorem dC_leave_57 : decode tp_bC_leave 57 = .ok (.new 53, 3) := by decide +kernel
theorem dC_leave_60 : decode tp_bC_leave 60 = .ok (.dup, 1) := by decide +kernel
theorem dC_leave_61 : decode tp_bC_leave 61 = .ok (.invokespecial 55, 3) := by decide +kernel
theorem dC_leave_64 : decode tp_bC_leave 64 = .ok (.athrow, 1) := by decide +kernel
theorem dC_leave_65 : decode tp_bC_leave 65 = .ok (.aload_n 0, 1) := by decide +kernel
theorem dC_leave_66 : decode tp_bC_leave 66 = .ok (.getfield 16, 3) := by decide +kernel
theorem dC_leave_69 : decode tp_bC_leave 69 = .ok (.iload_n 1, 1) := by decide +kernel
theorem dC_leave_70 : decode tp_bC_leave 70 = .ok (.iconst 1, 1) := by decide +kernel
theorem dC_leave_71 : decode tp_bC_leave 71 = .ok (.bastore, 1) := by decide +kernel
theorem dC_leave_72 : decode tp_bC_leave 72 = .ok (.aload_n 0, 1) := by decide +kernel
theorem dC_leave_73 : decode tp_bC_leave 73 = .ok (.getfield 13, 3) := by decide +kernel
theorem dC_leave_76 : decode tp_bC_leave 76 = .ok (.iload_n 1, 1) := by decide +kernel
