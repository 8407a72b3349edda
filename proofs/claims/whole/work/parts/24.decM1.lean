theorem dM_tidy_35 : decode tp_bM_tidy 35 = .ok (.getfield 7, 3) := by decide +kernel
theorem dM_tidy_38 : decode tp_bM_tidy 38 = .ok (.iload_n 1, 1) := by decide +kernel
theorem dM_tidy_39 : decode tp_bM_tidy 39 = .ok (.iconst 0, 1) := by decide +kernel
theorem dM_tidy_40 : decode tp_bM_tidy 40 = .ok (.iastore, 1) := by decide +kernel
theorem dM_tidy_41 : decode tp_bM_tidy 41 = .ok (.iinc 1 1, 3) := by decide +kernel
theorem dM_tidy_44 : decode tp_bM_tidy 44 = .ok (.goto (-42), 3) := by decide +kernel
theorem dM_tidy_47 : decode tp_bM_tidy 47 = .ok (.return_, 1) := by decide +kernel
theorem dM_makeRoom_0 : decode tp_bM_makeRoom 0 = .ok (.iconst 0, 1) := by decide +kernel
theorem dM_makeRoom_1 : decode tp_bM_makeRoom 1 = .ok (.istore_n 2, 1) := by decide +kernel
theorem dM_makeRoom_2 : decode tp_bM_makeRoom 2 = .ok (.iload_n 2, 1) := by decide +kernel
theorem dM_makeRoom_3 : decode tp_bM_makeRoom 3 = .ok (.sipush 400, 3) := by decide +kernel
theorem dM_makeRoom_6 : decode tp_bM_makeRoom 6 = .ok (.if_icmp .ge 90, 3) := by decide +kernel
theorem dM_makeRoom_9 : decode tp_bM_makeRoom 9 = .ok (.aload_n 0, 1) := by decide +kernel
theorem dM_makeRoom_10 : decode tp_bM_makeRoom 10 = .ok (.getfield 17, 3) := by decide +kernel
theorem dM_makeRoom_13 : decode tp_bM_makeRoom 13 = .ok (.iload_n 2, 1) := by decide +kernel
theorem dM_makeRoom_14 : decode tp_bM_makeRoom 14 = .ok (.baload, 1) := by decide +kernel
theorem dM_makeRoom_15 : decode tp_bM_makeRoom 15 = .ok (.ifCond .eq 75, 3) := by decide +kernel
theorem dM_makeRoom_18 : decode tp_bM_makeRoom 18 = .ok (.aload_n 0, 1) := by decide +kernel
theorem dM_makeRoom_19 : decode tp_bM_makeRoom 19 = .ok (.iload_n 2, 1) := by decide +kernel
theorem dM_makeRoom_20 : decode tp_bM_makeRoom 20 = .ok (.iload_n 1, 1) := by decide +kernel
theorem dM_makeRoom_21 : decode tp_bM_makeRoom 21 = .ok (.invokevirtual 30, 3) := by decide +kernel
theorem dM_makeRoom_24 : decode tp_bM_makeRoom 24 = .ok (.ifCond .ne 66, 3) := by decide +kernel
theorem dM_makeRoom_27 : decode tp_bM_makeRoom 27 = .ok (.iconst 0, 1) := by decide +kernel
theorem dM_makeRoom_28 : decode tp_bM_makeRoom 28 = .ok (.istore_n 3, 1) := by decide +kernel
theorem dM_makeRoom_29 : decode tp_bM_makeRoom 29 = .ok (.iload_n 3, 1) := by decide +kernel
theorem dM_makeRoom_30 : decode tp_bM_makeRoom 30 = .ok (.bipush 12, 2) := by decide +kernel
theorem dM_makeRoom_32 : decode tp_bM_makeRoom 32 = .ok (.if_icmp .ge 58, 3) := by decide +kernel
theorem dM_makeRoom_35 : decode tp_bM_makeRoom 35 = .ok (.aload_n 0, 1) := by decide +kernel
theorem dM_makeRoom_36 : decode tp_bM_makeRoom 36 = .ok (.iload_n 2, 1) := by decide +kernel
theorem dM_makeRoom_37 : decode tp_bM_makeRoom 37 = .ok (.iload_n 3, 1) := by decide +kernel
theorem dM_makeRoom_38 : decode tp_bM_makeRoom 38 = .ok (.invokevirtual 30, 3) := by decide +kernel
theorem dM_makeRoom_41 : decode tp_bM_makeRoom 41 = .ok (.ifCond .eq 43, 3) := by decide +kernel
theorem dM_makeRoom_44 : decode tp_bM_makeRoom 44 = .ok (.aload_n 0, 1) := by decide +kernel
theorem dM_makeRoom_45 : decode tp_bM_makeRoom 45 = .ok (.iload_n 3, 1) := by decide +kernel
theorem dM_makeRoom_46 : decode tp_bM_makeRoom 46 = .ok (.invokevirtual 38, 3) := by decide +kernel
theorem dM_makeRoom_49 : decode tp_bM_makeRoom 49 = .ok (.ifCond .eq 35, 3) := by decide +kernel
theorem dM_makeRoom_52 : decode tp_bM_makeRoom 52 = .ok (.aload_n 0, 1) := by decide +kernel
theorem dM_makeRoom_53 : decode tp_bM_makeRoom 53 = .ok (.getfield 20, 3) := by decide +kernel
theorem dM_makeRoom_56 : decode tp_bM_makeRoom 56 = .ok (.iload_n 2, 1) := by decide +kernel
theorem dM_makeRoom_57 : decode tp_bM_makeRoom 57 = .ok (.aload_n 0, 1) := by decide +kernel
theorem dM_makeRoom_58 : decode tp_bM_makeRoom 58 = .ok (.getfield 20, 3) := by decide +kernel
theorem dM_makeRoom_61 : decode tp_bM_makeRoom 61 = .ok (.iload_n 2, 1) := by decide +kernel
theorem dM_makeRoom_62 : decode tp_bM_makeRoom 62 = .ok (.iaload, 1) := by decide +kernel
theorem dM_makeRoom_63 : decode tp_bM_makeRoom 63 = .ok (.iconst 1, 1) := by decide +kernel
theorem dM_makeRoom_64 : decode tp_bM_makeRoom 64 = .ok (.iload_n 3, 1) := by decide +kernel
theorem dM_makeRoom_65 : decode tp_bM_makeRoom 65 = .ok (.ishl, 1) := by decide +kernel
theorem dM_makeRoom_66 : decode tp_bM_makeRoom 66 = .ok (.isub, 1) := by decide +kernel
theorem dM_makeRoom_67 : decode tp_bM_makeRoom 67 = .ok (.iconst 1, 1) := by decide +kernel
theorem dM_makeRoom_68 : decode tp_bM_makeRoom 68 = .ok (.iload_n 1, 1) := by decide +kernel
theorem dM_makeRoom_69 : decode tp_bM_makeRoom 69 = .ok (.ishl, 1) := by decide +kernel
theorem dM_makeRoom_70 : decode tp_bM_makeRoom 70 = .ok (.iadd, 1) := by decide +kernel
theorem dM_makeRoom_71 : decode tp_bM_makeRoom 71 = .ok (.iastore, 1) := by decide +kernel
theorem dM_makeRoom_72 : decode tp_bM_makeRoom 72 = .ok (.aload_n 0, 1) := by decide +kernel
theorem dM_makeRoom_73 : decode tp_bM_makeRoom 73 = .ok (.dup, 1) := by decide +kernel
theorem dM_makeRoom_74 : decode tp_bM_makeRoom 74 = .ok (.getfield 51, 3) := by decide +kernel
theorem dM_makeRoom_77 : decode tp_bM_makeRoom 77 = .ok (.iconst 1, 1) := by decide +kernel
theorem dM_makeRoom_78 : decode tp_bM_makeRoom 78 = .ok (.iadd, 1) := by decide +kernel
theorem dM_makeRoom_79 : decode tp_bM_makeRoom 79 = .ok (.putfield 51, 3) := by decide +kernel
theorem dM_makeRoom_82 : decode tp_bM_makeRoom 82 = .ok (.iload_n 3, 1) := by decide +kernel
theorem dM_makeRoom_83 : decode tp_bM_makeRoom 83 = .ok (.ireturn, 1) := by decide +kernel
theorem dM_makeRoom_84 : decode tp_bM_makeRoom 84 = .ok (.iinc 3 1, 3) := by decide +kernel
theorem dM_makeRoom_87 : decode tp_bM_makeRoom 87 = .ok (.goto (-58), 3) := by decide +kernel
theorem dM_makeRoom_90 : decode tp_bM_makeRoom 90 = .ok (.iinc 2 1, 3) := by decide +kernel
theorem dM_makeRoom_93 : decode tp_bM_makeRoom 93 = .ok (.goto (-91), 3) := by decide +kernel
theorem dM_makeRoom_96 : decode tp_bM_makeRoom 96 = .ok (.iconst (-1), 1) := by decide +kernel
theorem dM_makeRoom_97 : decode tp_bM_makeRoom 97 = .ok (.ireturn, 1) := by decide +kernel
theorem dM_newChunk_0 : decode tp_bM_newChunk 0 = .ok (.iconst 0, 1) := by decide +kernel
theorem dM_newChunk_1 : decode tp_bM_newChunk 1 = .ok (.istore_n 1, 1) := by decide +kernel
theorem dM_newChunk_2 : decode tp_bM_newChunk 2 = .ok (.iload_n 1, 1) := by decide +kernel
theorem dM_newChunk_3 : decode tp_bM_newChunk 3 = .ok (.sipush 400, 3) := by decide +kernel
theorem dM_newChunk_6 : decode tp_bM_newChunk 6 = .ok (.if_icmp .ge 18, 3) := by decide +kernel
theorem dM_newChunk_9 : decode tp_bM_newChunk 9 = .ok (.aload_n 0, 1) := by decide +kernel
theorem dM_newChunk_10 : decode tp_bM_newChunk 10 = .ok (.getfield 17, 3) := by decide +kernel
theorem dM_newChunk_13 : decode tp_bM_newChunk 13 = .ok (.iload_n 1, 1) := by decide +kernel
theorem dM_newChunk_14 : decode tp_bM_newChunk 14 = .ok (.baload, 1) := by decide +kernel
theorem dM_newChunk_15 : decode tp_bM_newChunk 15 = .ok (.ifCond .eq 9, 3) := by decide +kernel
theorem dM_newChunk_18 : decode tp_bM_newChunk 18 = .ok (.iinc 1 1, 3) := by decide +kernel
theorem dM_newChunk_21 : decode tp_bM_newChunk 21 = .ok (.goto (-19), 3) := by decide +kernel
theorem dM_newChunk_24 : decode tp_bM_newChunk 24 = .ok (.iload_n 1, 1) := by decide +kernel
theorem dM_newChunk_25 : decode tp_bM_newChunk 25 = .ok (.sipush 400, 3) := by decide +kernel
theorem dM_newChunk_28 : decode tp_bM_newChunk 28 = .ok (.if_icmp .ne 5, 3) := by decide +kernel
theorem dM_newChunk_31 : decode tp_bM_newChunk 31 = .ok (.iconst (-1), 1) := by decide +kernel
theorem dM_newChunk_32 : decode tp_bM_newChunk 32 = .ok (.ireturn, 1) := by decide +kernel
theorem dM_newChunk_33 : decode tp_bM_newChunk 33 = .ok (.aload_n 0, 1) := by decide +kernel
theorem dM_newChunk_34 : decode tp_bM_newChunk 34 = .ok (.iconst (-1), 1) := by decide +kernel
theorem dM_newChunk_35 : decode tp_bM_newChunk 35 = .ok (.iconst (-1), 1) := by decide +kernel
theorem dM_newChunk_36 : decode tp_bM_newChunk 36 = .ok (.invokevirtual 54, 3) := by decide +kernel
theorem dM_newChunk_39 : decode tp_bM_newChunk 39 = .ok (.istore_n 2, 1) := by decide +kernel
theorem dM_newChunk_40 : decode tp_bM_newChunk 40 = .ok (.iload_n 2, 1) := by decide +kernel
theorem dM_newChunk_41 : decode tp_bM_newChunk 41 = .ok (.ifCond .ge 7, 3) := by decide +kernel
theorem dM_newChunk_44 : decode tp_bM_newChunk 44 = .ok (.iconst (-1), 1) := by decide +kernel
theorem dM_newChunk_45 : decode tp_bM_newChunk 45 = .ok (.goto 9, 3) := by decide +kernel
theorem dM_newChunk_48 : decode tp_bM_newChunk 48 = .ok (.aload_n 0, 1) := by decide +kernel
theorem dM_newChunk_49 : decode tp_bM_newChunk 49 = .ok (.iload_n 2, 1) := by decide +kernel
theorem dM_newChunk_50 : decode tp_bM_newChunk 50 = .ok (.iconst (-1), 1) := by decide +kernel
theorem dM_newChunk_51 : decode tp_bM_newChunk 51 = .ok (.invokevirtual 54, 3) := by decide +kernel
theorem dM_newChunk_54 : decode tp_bM_newChunk 54 = .ok (.istore_n 3, 1) := by decide +kernel
theorem dM_newChunk_55 : decode tp_bM_newChunk 55 = .ok (.iload_n 2, 1) := by decide +kernel
theorem dM_newChunk_56 : decode tp_bM_newChunk 56 = .ok (.ifCond .lt 22, 3) := by decide +kernel
theorem dM_newChunk_59 : decode tp_bM_newChunk 59 = .ok (.iload_n 3, 1) := by decide +kernel
theorem dM_newChunk_60 : decode tp_bM_newChunk 60 = .ok (.ifCond .ge 18, 3) := by decide +kernel
theorem dM_newChunk_63 : decode tp_bM_newChunk 63 = .ok (.aload_n 0, 1) := by decide +kernel
theorem dM_newChunk_64 : decode tp_bM_newChunk 64 = .ok (.iload_n 2, 1) := by decide +kernel
theorem dM_newChunk_65 : decode tp_bM_newChunk 65 = .ok (.invokevirtual 42, 3) := by decide +kernel
theorem dM_newChunk_68 : decode tp_bM_newChunk 68 = .ok (.iconst 2, 1) := by decide +kernel
theorem dM_newChunk_69 : decode tp_bM_newChunk 69 = .ok (.if_icmp .lt 9, 3) := by decide +kernel
theorem dM_newChunk_72 : decode tp_bM_newChunk 72 = .ok (.aload_n 0, 1) := by decide +kernel
theorem dM_newChunk_73 : decode tp_bM_newChunk 73 = .ok (.iload_n 2, 1) := by decide +kernel
theorem dM_newChunk_74 : decode tp_bM_newChunk 74 = .ok (.invokevirtual 58, 3) := by decide +kernel
theorem dM_newChunk_77 : decode tp_bM_newChunk 77 = .ok (.istore_n 3, 1) := by decide +kernel
theorem dM_newChunk_78 : decode tp_bM_newChunk 78 = .ok (.iload_n 3, 1) := by decide +kernel
theorem dM_newChunk_79 : decode tp_bM_newChunk 79 = .ok (.ifCond .ge 5, 3) := by decide +kernel
theorem dM_newChunk_82 : decode tp_bM_newChunk 82 = .ok (.iconst (-1), 1) := by decide +kernel
theorem dM_newChunk_83 : decode tp_bM_newChunk 83 = .ok (.ireturn, 1) := by decide +kernel
theorem dM_newChunk_84 : decode tp_bM_newChunk 84 = .ok (.aload_n 0, 1) := by decide +kernel
theorem dM_newChunk_85 : decode tp_bM_newChunk 85 = .ok (.getfield 17, 3) := by decide +kernel
theorem dM_newChunk_88 : decode tp_bM_newChunk 88 = .ok (.iload_n 1, 1) := by decide +kernel
theorem dM_newChunk_89 : decode tp_bM_newChunk 89 = .ok (.iconst 1, 1) := by decide +kernel
theorem dM_newChunk_90 : decode tp_bM_newChunk 90 = .ok (.bastore, 1) := by decide +kernel
theorem dM_newChunk_91 : decode tp_bM_newChunk 91 = .ok (.aload_n 0, 1) := by decide +kernel
theorem dM_newChunk_92 : decode tp_bM_newChunk 92 = .ok (.getfield 20, 3) := by decide +kernel
theorem dM_newChunk_95 : decode tp_bM_newChunk 95 = .ok (.iload_n 1, 1) := by decide +kernel
theorem dM_newChunk_96 : decode tp_bM_newChunk 96 = .ok (.iconst 1, 1) := by decide +kernel
theorem dM_newChunk_97 : decode tp_bM_newChunk 97 = .ok (.iload_n 2, 1) := by decide +kernel
theorem dM_newChunk_98 : decode tp_bM_newChunk 98 = .ok (.ishl, 1) := by decide +kernel
theorem dM_newChunk_99 : decode tp_bM_newChunk 99 = .ok (.iconst 1, 1) := by decide +kernel
theorem dM_newChunk_100 : decode tp_bM_newChunk 100 = .ok (.iload_n 3, 1) := by decide +kernel
theorem dM_newChunk_101 : decode tp_bM_newChunk 101 = .ok (.ishl, 1) := by decide +kernel
theorem dM_newChunk_102 : decode tp_bM_newChunk 102 = .ok (.iadd, 1) := by decide +kernel
theorem dM_newChunk_103 : decode tp_bM_newChunk 103 = .ok (.iastore, 1) := by decide +kernel
theorem dM_newChunk_104 : decode tp_bM_newChunk 104 = .ok (.iconst 0, 1) := by decide +kernel
theorem dM_newChunk_105 : decode tp_bM_newChunk 105 = .ok (.istore 4, 2) := by decide +kernel
theorem dM_newChunk_107 : decode tp_bM_newChunk 107 = .ok (.iload 4, 2) := by decide +kernel
theorem dM_newChunk_109 : decode tp_bM_newChunk 109 = .ok (.iconst 4, 1) := by decide +kernel
theorem dM_newChunk_110 : decode tp_bM_newChunk 110 = .ok (.if_icmp .ge 21, 3) := by decide +kernel
theorem dM_newChunk_113 : decode tp_bM_newChunk 113 = .ok (.aload_n 0, 1) := by decide +kernel
theorem dM_newChunk_114 : decode tp_bM_newChunk 114 = .ok (.getfield 23, 3) := by decide +kernel
theorem dM_newChunk_117 : decode tp_bM_newChunk 117 = .ok (.iconst 4, 1) := by decide +kernel
theorem dM_newChunk_118 : decode tp_bM_newChunk 118 = .ok (.iload_n 1, 1) := by decide +kernel
theorem dM_newChunk_119 : decode tp_bM_newChunk 119 = .ok (.imul, 1) := by decide +kernel
theorem dM_newChunk_120 : decode tp_bM_newChunk 120 = .ok (.iload 4, 2) := by decide +kernel
theorem dM_newChunk_122 : decode tp_bM_newChunk 122 = .ok (.iadd, 1) := by decide +kernel
theorem dM_newChunk_123 : decode tp_bM_newChunk 123 = .ok (.iconst 0, 1) := by decide +kernel
theorem dM_newChunk_124 : decode tp_bM_newChunk 124 = .ok (.iastore, 1) := by decide +kernel
theorem dM_newChunk_125 : decode tp_bM_newChunk 125 = .ok (.iinc 4 1, 3) := by decide +kernel
theorem dM_newChunk_128 : decode tp_bM_newChunk 128 = .ok (.goto (-21), 3) := by decide +kernel
theorem dM_newChunk_131 : decode tp_bM_newChunk 131 = .ok (.iload_n 1, 1) := by decide +kernel
theorem dM_newChunk_132 : decode tp_bM_newChunk 132 = .ok (.ireturn, 1) := by decide +kernel
theorem dM_chunk_0 : decode tp_bM_chunk 0 = .ok (.aload_n 0, 1) := by decide +kernel
theorem dM_chunk_1 : decode tp_bM_chunk 1 = .ok (.invokevirtual 61, 3) := by decide +kernel
theorem dM_chunk_4 : decode tp_bM_chunk 4 = .ok (.istore_n 1, 1) := by decide +kernel
theorem dM_chunk_5 : decode tp_bM_chunk 5 = .ok (.aload_n 0, 1) := by decide +kernel
theorem dM_chunk_6 : decode tp_bM_chunk 6 = .ok (.iload_n 1, 1) := by decide +kernel
theorem dM_chunk_7 : decode tp_bM_chunk 7 = .ok (.ifCond .ge 7, 3) := by decide +kernel
theorem dM_chunk_10 : decode tp_bM_chunk 10 = .ok (.iconst 1, 1) := by decide +kernel
theorem dM_chunk_11 : decode tp_bM_chunk 11 = .ok (.goto 4, 3) := by decide +kernel
theorem dM_chunk_14 : decode tp_bM_chunk 14 = .ok (.iconst 0, 1) := by decide +kernel
theorem dM_chunk_15 : decode tp_bM_chunk 15 = .ok (.putfield 26, 3) := by decide +kernel
theorem dM_chunk_18 : decode tp_bM_chunk 18 = .ok (.iload_n 1, 1) := by decide +kernel
theorem dM_chunk_19 : decode tp_bM_chunk 19 = .ok (.ifCond .ge 7, 3) := by decide +kernel
theorem dM_chunk_22 : decode tp_bM_chunk 22 = .ok (.iconst 0, 1) := by decide +kernel
theorem dM_chunk_23 : decode tp_bM_chunk 23 = .ok (.goto 4, 3) := by decide +kernel
theorem dM_chunk_26 : decode tp_bM_chunk 26 = .ok (.iload_n 1, 1) := by decide +kernel
theorem dM_chunk_27 : decode tp_bM_chunk 27 = .ok (.ireturn, 1) := by decide +kernel
theorem dM_chunks_0 : decode tp_bM_chunks 0 = .ok (.aload_n 0, 1) := by decide +kernel
theorem dM_chunks_1 : decode tp_bM_chunks 1 = .ok (.iload_n 1, 1) := by decide +kernel
theorem dM_chunks_2 : decode tp_bM_chunks 2 = .ok (.ifCond .ge 7, 3) := by decide +kernel
theorem dM_chunks_5 : decode tp_bM_chunks 5 = .ok (.iconst 1, 1) := by decide +kernel
theorem dM_chunks_6 : decode tp_bM_chunks 6 = .ok (.goto 4, 3) := by decide +kernel
theorem dM_chunks_9 : decode tp_bM_chunks 9 = .ok (.iconst 0, 1) := by decide +kernel
theorem dM_chunks_10 : decode tp_bM_chunks 10 = .ok (.putfield 26, 3) := by decide +kernel
theorem dM_chunks_13 : decode tp_bM_chunks 13 = .ok (.iconst 0, 1) := by decide +kernel
theorem dM_chunks_14 : decode tp_bM_chunks 14 = .ok (.istore_n 2, 1) := by decide +kernel
theorem dM_chunks_15 : decode tp_bM_chunks 15 = .ok (.iload_n 2, 1) := by decide +kernel
theorem dM_chunks_16 : decode tp_bM_chunks 16 = .ok (.iload_n 1, 1) := by decide +kernel
theorem dM_chunks_17 : decode tp_bM_chunks 17 = .ok (.if_icmp .ge 16, 3) := by decide +kernel
theorem dM_chunks_20 : decode tp_bM_chunks 20 = .ok (.aload_n 0, 1) := by decide +kernel
theorem dM_chunks_21 : decode tp_bM_chunks 21 = .ok (.invokevirtual 61, 3) := by decide +kernel
theorem dM_chunks_24 : decode tp_bM_chunks 24 = .ok (.ifCond .lt 9, 3) := by decide +kernel
theorem dM_chunks_27 : decode tp_bM_chunks 27 = .ok (.iinc 2 1, 3) := by decide +kernel
theorem dM_chunks_30 : decode tp_bM_chunks 30 = .ok (.goto (-15), 3) := by decide +kernel
theorem dM_chunks_33 : decode tp_bM_chunks 33 = .ok (.iload_n 2, 1) := by decide +kernel
theorem dM_chunks_34 : decode tp_bM_chunks 34 = .ok (.ireturn, 1) := by decide +kernel
theorem dM_free_0 : decode tp_bM_free 0 = .ok (.aload_n 0, 1) := by decide +kernel
theorem dM_free_1 : decode tp_bM_free 1 = .ok (.aload_n 0, 1) := by decide +kernel
theorem dM_free_2 : decode tp_bM_free 2 = .ok (.iload_n 1, 1) := by decide +kernel
theorem dM_free_3 : decode tp_bM_free 3 = .ok (.invokevirtual 65, 3) := by decide +kernel
theorem dM_free_6 : decode tp_bM_free 6 = .ok (.ifCond .eq 7, 3) := by decide +kernel
theorem dM_free_9 : decode tp_bM_free 9 = .ok (.iconst 0, 1) := by decide +kernel
theorem dM_free_10 : decode tp_bM_free 10 = .ok (.goto 4, 3) := by decide +kernel
theorem dM_free_13 : decode tp_bM_free 13 = .ok (.iconst 1, 1) := by decide +kernel
theorem dM_free_14 : decode tp_bM_free 14 = .ok (.putfield 26, 3) := by decide +kernel
theorem dM_free_17 : decode tp_bM_free 17 = .ok (.aload_n 0, 1) := by decide +kernel
theorem dM_free_18 : decode tp_bM_free 18 = .ok (.getfield 26, 3) := by decide +kernel
theorem dM_free_21 : decode tp_bM_free 21 = .ok (.ifCond .le 5, 3) := by decide +kernel
theorem dM_free_24 : decode tp_bM_free 24 = .ok (.iconst 0, 1) := by decide +kernel
theorem dM_free_25 : decode tp_bM_free 25 = .ok (.ireturn, 1) := by decide +kernel
theorem dM_free_26 : decode tp_bM_free 26 = .ok (.aload_n 0, 1) := by decide +kernel
theorem dM_free_27 : decode tp_bM_free 27 = .ok (.iload_n 1, 1) := by decide +kernel
theorem dM_free_28 : decode tp_bM_free 28 = .ok (.invokevirtual 45, 3) := by decide +kernel
theorem dM_free_31 : decode tp_bM_free 31 = .ok (.istore_n 2, 1) := by decide +kernel
theorem dM_free_32 : decode tp_bM_free 32 = .ok (.aload_n 0, 1) := by decide +kernel
theorem dM_free_33 : decode tp_bM_free 33 = .ok (.getfield 17, 3) := by decide +kernel
theorem dM_free_36 : decode tp_bM_free 36 = .ok (.iload_n 1, 1) := by decide +kernel
theorem dM_free_37 : decode tp_bM_free 37 = .ok (.iconst 0, 1) := by decide +kernel
theorem dM_free_38 : decode tp_bM_free 38 = .ok (.bastore, 1) := by decide +kernel
theorem dM_free_39 : decode tp_bM_free 39 = .ok (.aload_n 0, 1) := by decide +kernel
theorem dM_free_40 : decode tp_bM_free 40 = .ok (.getfield 20, 3) := by decide +kernel
theorem dM_free_43 : decode tp_bM_free 43 = .ok (.iload_n 1, 1) := by decide +kernel
theorem dM_free_44 : decode tp_bM_free 44 = .ok (.iconst 0, 1) := by decide +kernel
theorem dM_free_45 : decode tp_bM_free 45 = .ok (.iastore, 1) := by decide +kernel
theorem dM_free_46 : decode tp_bM_free 46 = .ok (.aload_n 0, 1) := by decide +kernel
theorem dM_free_47 : decode tp_bM_free 47 = .ok (.invokevirtual 68, 3) := by decide +kernel
theorem dM_free_50 : decode tp_bM_free 50 = .ok (.iload_n 2, 1) := by decide +kernel
theorem dM_free_51 : decode tp_bM_free 51 = .ok (.ireturn, 1) := by decide +kernel
theorem dM_copyOne_0 : decode tp_bM_copyOne 0 = .ok (.iconst 0, 1) := by decide +kernel
theorem dM_copyOne_1 : decode tp_bM_copyOne 1 = .ok (.istore_n 1, 1) := by decide +kernel
theorem dM_copyOne_2 : decode tp_bM_copyOne 2 = .ok (.iload_n 1, 1) := by decide +kernel
theorem dM_copyOne_3 : decode tp_bM_copyOne 3 = .ok (.sipush 400, 3) := by decide +kernel
theorem dM_copyOne_6 : decode tp_bM_copyOne 6 = .ok (.if_icmp .ge 56, 3) := by decide +kernel
theorem dM_copyOne_9 : decode tp_bM_copyOne 9 = .ok (.aload_n 0, 1) := by decide +kernel
theorem dM_copyOne_10 : decode tp_bM_copyOne 10 = .ok (.getfield 17, 3) := by decide +kernel
theorem dM_copyOne_13 : decode tp_bM_copyOne 13 = .ok (.iload_n 1, 1) := by decide +kernel
theorem dM_copyOne_14 : decode tp_bM_copyOne 14 = .ok (.baload, 1) := by decide +kernel
theorem dM_copyOne_15 : decode tp_bM_copyOne 15 = .ok (.ifCond .eq 41, 3) := by decide +kernel
theorem dM_copyOne_18 : decode tp_bM_copyOne 18 = .ok (.aload_n 0, 1) := by decide +kernel
theorem dM_copyOne_19 : decode tp_bM_copyOne 19 = .ok (.iload_n 1, 1) := by decide +kernel
theorem dM_copyOne_20 : decode tp_bM_copyOne 20 = .ok (.invokevirtual 45, 3) := by decide +kernel
theorem dM_copyOne_23 : decode tp_bM_copyOne 23 = .ok (.iconst 1, 1) := by decide +kernel
theorem dM_copyOne_24 : decode tp_bM_copyOne 24 = .ok (.if_icmp .ne 32, 3) := by decide +kernel
theorem dM_copyOne_27 : decode tp_bM_copyOne 27 = .ok (.aload_n 0, 1) := by decide +kernel
theorem dM_copyOne_28 : decode tp_bM_copyOne 28 = .ok (.iconst (-1), 1) := by decide +kernel
theorem dM_copyOne_29 : decode tp_bM_copyOne 29 = .ok (.iload_n 1, 1) := by decide +kernel
theorem dM_copyOne_30 : decode tp_bM_copyOne 30 = .ok (.invokevirtual 54, 3) := by decide +kernel
theorem dM_copyOne_33 : decode tp_bM_copyOne 33 = .ok (.istore_n 2, 1) := by decide +kernel
theorem dM_copyOne_34 : decode tp_bM_copyOne 34 = .ok (.iload_n 2, 1) := by decide +kernel
theorem dM_copyOne_35 : decode tp_bM_copyOne 35 = .ok (.ifCond .lt 21, 3) := by decide +kernel
theorem dM_copyOne_38 : decode tp_bM_copyOne 38 = .ok (.aload_n 0, 1) := by decide +kernel
theorem dM_copyOne_39 : decode tp_bM_copyOne 39 = .ok (.getfield 20, 3) := by decide +kernel
theorem dM_copyOne_42 : decode tp_bM_copyOne 42 = .ok (.iload_n 1, 1) := by decide +kernel
theorem dM_copyOne_43 : decode tp_bM_copyOne 43 = .ok (.aload_n 0, 1) := by decide +kernel
theorem dM_copyOne_44 : decode tp_bM_copyOne 44 = .ok (.getfield 20, 3) := by decide +kernel
theorem dM_copyOne_47 : decode tp_bM_copyOne 47 = .ok (.iload_n 1, 1) := by decide +kernel
theorem dM_copyOne_48 : decode tp_bM_copyOne 48 = .ok (.iaload, 1) := by decide +kernel
theorem dM_copyOne_49 : decode tp_bM_copyOne 49 = .ok (.iconst 1, 1) := by decide +kernel
theorem dM_copyOne_50 : decode tp_bM_copyOne 50 = .ok (.iload_n 2, 1) := by decide +kernel
theorem dM_copyOne_51 : decode tp_bM_copyOne 51 = .ok (.ishl, 1) := by decide +kernel
theorem dM_copyOne_52 : decode tp_bM_copyOne 52 = .ok (.iadd, 1) := by decide +kernel
theorem dM_copyOne_53 : decode tp_bM_copyOne 53 = .ok (.iastore, 1) := by decide +kernel
theorem dM_copyOne_54 : decode tp_bM_copyOne 54 = .ok (.iconst 1, 1) := by decide +kernel
theorem dM_copyOne_55 : decode tp_bM_copyOne 55 = .ok (.ireturn, 1) := by decide +kernel
theorem dM_copyOne_56 : decode tp_bM_copyOne 56 = .ok (.iinc 1 1, 3) := by decide +kernel
theorem dM_copyOne_59 : decode tp_bM_copyOne 59 = .ok (.goto (-57), 3) := by decide +kernel
theorem dM_copyOne_62 : decode tp_bM_copyOne 62 = .ok (.iconst 0, 1) := by decide +kernel
theorem dM_copyOne_63 : decode tp_bM_copyOne 63 = .ok (.ireturn, 1) := by decide +kernel
theorem dM_roomFor_0 : decode tp_bM_roomFor 0 = .ok (.iconst 0, 1) := by decide +kernel
theorem dM_roomFor_1 : decode tp_bM_roomFor 1 = .ok (.istore_n 3, 1) := by decide +kernel
theorem dM_roomFor_2 : decode tp_bM_roomFor 2 = .ok (.iload_n 3, 1) := by decide +kernel
theorem dM_roomFor_3 : decode tp_bM_roomFor 3 = .ok (.bipush 12, 2) := by decide +kernel
theorem dM_roomFor_5 : decode tp_bM_roomFor 5 = .ok (.if_icmp .ge 49, 3) := by decide +kernel
theorem dM_roomFor_8 : decode tp_bM_roomFor 8 = .ok (.iload_n 3, 1) := by decide +kernel
theorem dM_roomFor_9 : decode tp_bM_roomFor 9 = .ok (.iload_n 2, 1) := by decide +kernel
theorem dM_roomFor_10 : decode tp_bM_roomFor 10 = .ok (.if_icmp .eq 38, 3) := by decide +kernel
theorem dM_roomFor_13 : decode tp_bM_roomFor 13 = .ok (.aload_n 0, 1) := by decide +kernel
theorem dM_roomFor_14 : decode tp_bM_roomFor 14 = .ok (.iload_n 1, 1) := by decide +kernel
theorem dM_roomFor_15 : decode tp_bM_roomFor 15 = .ok (.iload_n 3, 1) := by decide +kernel
theorem dM_roomFor_16 : decode tp_bM_roomFor 16 = .ok (.invokevirtual 30, 3) := by decide +kernel
theorem dM_roomFor_19 : decode tp_bM_roomFor 19 = .ok (.ifCond .eq 29, 3) := by decide +kernel
theorem dM_roomFor_22 : decode tp_bM_roomFor 22 = .ok (.aload_n 0, 1) := by decide +kernel
theorem dM_roomFor_23 : decode tp_bM_roomFor 23 = .ok (.iload_n 3, 1) := by decide +kernel
theorem dM_roomFor_24 : decode tp_bM_roomFor 24 = .ok (.invokevirtual 38, 3) := by decide +kernel
theorem dM_roomFor_27 : decode tp_bM_roomFor 27 = .ok (.ifCond .eq 21, 3) := by decide +kernel
theorem dM_roomFor_30 : decode tp_bM_roomFor 30 = .ok (.aload_n 0, 1) := by decide +kernel
theorem dM_roomFor_31 : decode tp_bM_roomFor 31 = .ok (.iload_n 3, 1) := by decide +kernel
theorem dM_roomFor_32 : decode tp_bM_roomFor 32 = .ok (.invokevirtual 42, 3) := by decide +kernel
theorem dM_roomFor_35 : decode tp_bM_roomFor 35 = .ok (.ifCond .le 13, 3) := by decide +kernel
theorem dM_roomFor_38 : decode tp_bM_roomFor 38 = .ok (.aload_n 0, 1) := by decide +kernel
theorem dM_roomFor_39 : decode tp_bM_roomFor 39 = .ok (.iload_n 3, 1) := by decide +kernel
theorem dM_roomFor_40 : decode tp_bM_roomFor 40 = .ok (.invokevirtual 58, 3) := by decide +kernel
theorem dM_roomFor_43 : decode tp_bM_roomFor 43 = .ok (.ifCond .lt 5, 3) := by decide +kernel
theorem dM_roomFor_46 : decode tp_bM_roomFor 46 = .ok (.iconst 1, 1) := by decide +kernel
theorem dM_roomFor_47 : decode tp_bM_roomFor 47 = .ok (.ireturn, 1) := by decide +kernel
theorem dM_roomFor_48 : decode tp_bM_roomFor 48 = .ok (.iinc 3 1, 3) := by decide +kernel
theorem dM_roomFor_51 : decode tp_bM_roomFor 51 = .ok (.goto (-49), 3) := by decide +kernel
theorem dM_roomFor_54 : decode tp_bM_roomFor 54 = .ok (.iconst 0, 1) := by decide +kernel
theorem dM_roomFor_55 : decode tp_bM_roomFor 55 = .ok (.ireturn, 1) := by decide +kernel
theorem dM_roomForOne_0 : decode tp_bM_roomForOne 0 = .ok (.iconst 0, 1) := by decide +kernel
theorem dM_roomForOne_1 : decode tp_bM_roomForOne 1 = .ok (.istore_n 1, 1) := by decide +kernel
theorem dM_roomForOne_2 : decode tp_bM_roomForOne 2 = .ok (.iload_n 1, 1) := by decide +kernel
theorem dM_roomForOne_3 : decode tp_bM_roomForOne 3 = .ok (.sipush 400, 3) := by decide +kernel
theorem dM_roomForOne_6 : decode tp_bM_roomForOne 6 = .ok (.if_icmp .ge 38, 3) := by decide +kernel
theorem dM_roomForOne_9 : decode tp_bM_roomForOne 9 = .ok (.aload_n 0, 1) := by decide +kernel
theorem dM_roomForOne_10 : decode tp_bM_roomForOne 10 = .ok (.getfield 17, 3) := by decide +kernel
theorem dM_roomForOne_13 : decode tp_bM_roomForOne 13 = .ok (.iload_n 1, 1) := by decide +kernel
theorem dM_roomForOne_14 : decode tp_bM_roomForOne 14 = .ok (.baload, 1) := by decide +kernel
theorem dM_roomForOne_15 : decode tp_bM_roomForOne 15 = .ok (.ifCond .eq 23, 3) := by decide +kernel
theorem dM_roomForOne_18 : decode tp_bM_roomForOne 18 = .ok (.aload_n 0, 1) := by decide +kernel
theorem dM_roomForOne_19 : decode tp_bM_roomForOne 19 = .ok (.iload_n 1, 1) := by decide +kernel
theorem dM_roomForOne_20 : decode tp_bM_roomForOne 20 = .ok (.invokevirtual 45, 3) := by decide +kernel
theorem dM_roomForOne_23 : decode tp_bM_roomForOne 23 = .ok (.iconst 1, 1) := by decide +kernel
