theorem dC_disksThere_15 : decode tp_bC_disksThere 15 = .ok (.ifCond .eq 6, 3) := by decide +kernel
theorem dC_disksThere_18 : decode tp_bC_disksThere 18 = .ok (.iinc 1 1, 3) := by decide +kernel
theorem dC_disksThere_21 : decode tp_bC_disksThere 21 = .ok (.iinc 2 1, 3) := by decide +kernel
theorem dC_disksThere_24 : decode tp_bC_disksThere 24 = .ok (.goto (-20), 3) := by decide +kernel
theorem dC_disksThere_27 : decode tp_bC_disksThere 27 = .ok (.iload_n 1, 1) := by decide +kernel
theorem dC_disksThere_28 : decode tp_bC_disksThere 28 = .ok (.ireturn, 1) := by decide +kernel
theorem dC_copiesOnLeaving_0 : decode tp_bC_copiesOnLeaving 0 = .ok (.iconst 0, 1) := by decide +kernel
theorem dC_copiesOnLeaving_1 : decode tp_bC_copiesOnLeaving 1 = .ok (.istore_n 1, 1) := by decide +kernel
theorem dC_copiesOnLeaving_2 : decode tp_bC_copiesOnLeaving 2 = .ok (.iconst 0, 1) := by decide +kernel
theorem dC_copiesOnLeaving_3 : decode tp_bC_copiesOnLeaving 3 = .ok (.istore_n 2, 1) := by decide +kernel
theorem dC_copiesOnLeaving_4 : decode tp_bC_copiesOnLeaving 4 = .ok (.iload_n 2, 1) := by decide +kernel
theorem dC_copiesOnLeaving_5 : decode tp_bC_copiesOnLeaving 5 = .ok (.bipush 12, 2) := by decide +kernel
theorem dC_copiesOnLeaving_7 : decode tp_bC_copiesOnLeaving 7 = .ok (.if_icmp .ge 27, 3) := by decide +kernel
theorem dC_copiesOnLeaving_10 : decode tp_bC_copiesOnLeaving 10 = .ok (.aload_n 0, 1) := by decide +kernel
theorem dC_copiesOnLeaving_11 : decode tp_bC_copiesOnLeaving 11 = .ok (.getfield 16, 3) := by decide +kernel
theorem dC_copiesOnLeaving_14 : decode tp_bC_copiesOnLeaving 14 = .ok (.iload_n 2, 1) := by decide +kernel
theorem dC_copiesOnLeaving_15 : decode tp_bC_copiesOnLeaving 15 = .ok (.baload, 1) := by decide +kernel
theorem dC_copiesOnLeaving_16 : decode tp_bC_copiesOnLeaving 16 = .ok (.ifCond .eq 12, 3) := by decide +kernel
theorem dC_copiesOnLeaving_19 : decode tp_bC_copiesOnLeaving 19 = .ok (.iload_n 1, 1) := by decide +kernel
theorem dC_copiesOnLeaving_20 : decode tp_bC_copiesOnLeaving 20 = .ok (.aload_n 0, 1) := by decide +kernel
theorem dC_copiesOnLeaving_21 : decode tp_bC_copiesOnLeaving 21 = .ok (.getfield 13, 3) := by decide +kernel
theorem dC_copiesOnLeaving_24 : decode tp_bC_copiesOnLeaving 24 = .ok (.iload_n 2, 1) := by decide +kernel
theorem dC_copiesOnLeaving_25 : decode tp_bC_copiesOnLeaving 25 = .ok (.iaload, 1) := by decide +kernel
theorem dC_copiesOnLeaving_26 : decode tp_bC_copiesOnLeaving 26 = .ok (.iadd, 1) := by decide +kernel
theorem dC_copiesOnLeaving_27 : decode tp_bC_copiesOnLeaving 27 = .ok (.istore_n 1, 1) := by decide +kernel
theorem dC_copiesOnLeaving_28 : decode tp_bC_copiesOnLeaving 28 = .ok (.iinc 2 1, 3) := by decide +kernel
theorem dC_copiesOnLeaving_31 : decode tp_bC_copiesOnLeaving 31 = .ok (.goto (-27), 3) := by decide +kernel
theorem dC_copiesOnLeaving_34 : decode tp_bC_copiesOnLeaving 34 = .ok (.iload_n 1, 1) := by decide +kernel
theorem dC_copiesOnLeaving_35 : decode tp_bC_copiesOnLeaving 35 = .ok (.ireturn, 1) := by decide +kernel
theorem dC_leastChunkOn_0 : decode tp_bC_leastChunkOn 0 = .ok (.iconst 0, 1) := by decide +kernel
theorem dC_leastChunkOn_1 : decode tp_bC_leastChunkOn 1 = .ok (.istore_n 2, 1) := by decide +kernel
theorem dC_leastChunkOn_2 : decode tp_bC_leastChunkOn 2 = .ok (.iload_n 2, 1) := by decide +kernel
theorem dC_leastChunkOn_3 : decode tp_bC_leastChunkOn 3 = .ok (.sipush 400, 3) := by decide +kernel
theorem dC_leastChunkOn_6 : decode tp_bC_leastChunkOn 6 = .ok (.if_icmp .ge 20, 3) := by decide +kernel
theorem dC_leastChunkOn_9 : decode tp_bC_leastChunkOn 9 = .ok (.aload_n 0, 1) := by decide +kernel
theorem dC_leastChunkOn_10 : decode tp_bC_leastChunkOn 10 = .ok (.iload_n 2, 1) := by decide +kernel
theorem dC_leastChunkOn_11 : decode tp_bC_leastChunkOn 11 = .ok (.iload_n 1, 1) := by decide +kernel
theorem dC_leastChunkOn_12 : decode tp_bC_leastChunkOn 12 = .ok (.invokevirtual 73, 3) := by decide +kernel
theorem dC_leastChunkOn_15 : decode tp_bC_leastChunkOn 15 = .ok (.ifCond .eq 5, 3) := by decide +kernel
theorem dC_leastChunkOn_18 : decode tp_bC_leastChunkOn 18 = .ok (.iload_n 2, 1) := by decide +kernel
theorem dC_leastChunkOn_19 : decode tp_bC_leastChunkOn 19 = .ok (.ireturn, 1) := by decide +kernel
theorem dC_leastChunkOn_20 : decode tp_bC_leastChunkOn 20 = .ok (.iinc 2 1, 3) := by decide +kernel
theorem dC_leastChunkOn_23 : decode tp_bC_leastChunkOn 23 = .ok (.goto (-21), 3) := by decide +kernel
theorem dC_leastChunkOn_26 : decode tp_bC_leastChunkOn 26 = .ok (.iconst (-1), 1) := by decide +kernel
theorem dC_leastChunkOn_27 : decode tp_bC_leastChunkOn 27 = .ok (.ireturn, 1) := by decide +kernel
theorem dC_isChunk_0 : decode tp_bC_isChunk 0 = .ok (.iload_n 1, 1) := by decide +kernel
theorem dC_isChunk_1 : decode tp_bC_isChunk 1 = .ok (.ifCond .lt 23, 3) := by decide +kernel
theorem dC_isChunk_4 : decode tp_bC_isChunk 4 = .ok (.iload_n 1, 1) := by decide +kernel
theorem dC_isChunk_5 : decode tp_bC_isChunk 5 = .ok (.sipush 400, 3) := by decide +kernel
theorem dC_isChunk_8 : decode tp_bC_isChunk 8 = .ok (.if_icmp .ge 16, 3) := by decide +kernel
theorem dC_isChunk_11 : decode tp_bC_isChunk 11 = .ok (.aload_n 0, 1) := by decide +kernel
theorem dC_isChunk_12 : decode tp_bC_isChunk 12 = .ok (.getfield 20, 3) := by decide +kernel
theorem dC_isChunk_15 : decode tp_bC_isChunk 15 = .ok (.iload_n 1, 1) := by decide +kernel
theorem dC_isChunk_16 : decode tp_bC_isChunk 16 = .ok (.baload, 1) := by decide +kernel
theorem dC_isChunk_17 : decode tp_bC_isChunk 17 = .ok (.ifCond .eq 7, 3) := by decide +kernel
theorem dC_isChunk_20 : decode tp_bC_isChunk 20 = .ok (.iconst 1, 1) := by decide +kernel
theorem dC_isChunk_21 : decode tp_bC_isChunk 21 = .ok (.goto 4, 3) := by decide +kernel
theorem dC_isChunk_24 : decode tp_bC_isChunk 24 = .ok (.iconst 0, 1) := by decide +kernel
theorem dC_isChunk_25 : decode tp_bC_isChunk 25 = .ok (.ireturn, 1) := by decide +kernel
theorem dC_isOn_0 : decode tp_bC_isOn 0 = .ok (.aload_n 0, 1) := by decide +kernel
theorem dC_isOn_1 : decode tp_bC_isOn 1 = .ok (.getfield 23, 3) := by decide +kernel
theorem dC_isOn_4 : decode tp_bC_isOn 4 = .ok (.iload_n 1, 1) := by decide +kernel
theorem dC_isOn_5 : decode tp_bC_isOn 5 = .ok (.iaload, 1) := by decide +kernel
theorem dC_isOn_6 : decode tp_bC_isOn 6 = .ok (.iload_n 2, 1) := by decide +kernel
theorem dC_isOn_7 : decode tp_bC_isOn 7 = .ok (.if_icmp .eq 13, 3) := by decide +kernel
theorem dC_isOn_10 : decode tp_bC_isOn 10 = .ok (.aload_n 0, 1) := by decide +kernel
theorem dC_isOn_11 : decode tp_bC_isOn 11 = .ok (.getfield 26, 3) := by decide +kernel
theorem dC_isOn_14 : decode tp_bC_isOn 14 = .ok (.iload_n 1, 1) := by decide +kernel
theorem dC_isOn_15 : decode tp_bC_isOn 15 = .ok (.iaload, 1) := by decide +kernel
theorem dC_isOn_16 : decode tp_bC_isOn 16 = .ok (.iload_n 2, 1) := by decide +kernel
theorem dC_isOn_17 : decode tp_bC_isOn 17 = .ok (.if_icmp .ne 7, 3) := by decide +kernel
theorem dC_isOn_20 : decode tp_bC_isOn 20 = .ok (.iconst 1, 1) := by decide +kernel
theorem dC_isOn_21 : decode tp_bC_isOn 21 = .ok (.goto 4, 3) := by decide +kernel
theorem dC_isOn_24 : decode tp_bC_isOn 24 = .ok (.iconst 0, 1) := by decide +kernel
theorem dC_isOn_25 : decode tp_bC_isOn 25 = .ok (.ireturn, 1) := by decide +kernel
theorem dC_copiesOf_0 : decode tp_bC_copiesOf 0 = .ok (.aload_n 0, 1) := by decide +kernel
theorem dC_copiesOf_1 : decode tp_bC_copiesOf 1 = .ok (.getfield 23, 3) := by decide +kernel
theorem dC_copiesOf_4 : decode tp_bC_copiesOf 4 = .ok (.iload_n 1, 1) := by decide +kernel
theorem dC_copiesOf_5 : decode tp_bC_copiesOf 5 = .ok (.iaload, 1) := by decide +kernel
theorem dC_copiesOf_6 : decode tp_bC_copiesOf 6 = .ok (.iconst (-1), 1) := by decide +kernel
theorem dC_copiesOf_7 : decode tp_bC_copiesOf 7 = .ok (.if_icmp .ne 5, 3) := by decide +kernel
theorem dC_copiesOf_10 : decode tp_bC_copiesOf 10 = .ok (.iconst 0, 1) := by decide +kernel
theorem dC_copiesOf_11 : decode tp_bC_copiesOf 11 = .ok (.ireturn, 1) := by decide +kernel
theorem dC_copiesOf_12 : decode tp_bC_copiesOf 12 = .ok (.aload_n 0, 1) := by decide +kernel
theorem dC_copiesOf_13 : decode tp_bC_copiesOf 13 = .ok (.getfield 26, 3) := by decide +kernel
theorem dC_copiesOf_16 : decode tp_bC_copiesOf 16 = .ok (.iload_n 1, 1) := by decide +kernel
theorem dC_copiesOf_17 : decode tp_bC_copiesOf 17 = .ok (.iaload, 1) := by decide +kernel
theorem dC_copiesOf_18 : decode tp_bC_copiesOf 18 = .ok (.iconst (-1), 1) := by decide +kernel
theorem dC_copiesOf_19 : decode tp_bC_copiesOf 19 = .ok (.if_icmp .ne 7, 3) := by decide +kernel
theorem dC_copiesOf_22 : decode tp_bC_copiesOf 22 = .ok (.iconst 1, 1) := by decide +kernel
theorem dC_copiesOf_23 : decode tp_bC_copiesOf 23 = .ok (.goto 4, 3) := by decide +kernel
theorem dC_copiesOf_26 : decode tp_bC_copiesOf 26 = .ok (.iconst 2, 1) := by decide +kernel
theorem dC_copiesOf_27 : decode tp_bC_copiesOf 27 = .ok (.ireturn, 1) := by decide +kernel
theorem dC_isDegraded_0 : decode tp_bC_isDegraded 0 = .ok (.aload_n 0, 1) := by decide +kernel
theorem dC_isDegraded_1 : decode tp_bC_isDegraded 1 = .ok (.iload_n 1, 1) := by decide +kernel
theorem dC_isDegraded_2 : decode tp_bC_isDegraded 2 = .ok (.invokevirtual 65, 3) := by decide +kernel
theorem dC_isDegraded_5 : decode tp_bC_isDegraded 5 = .ok (.iconst 1, 1) := by decide +kernel
theorem dC_isDegraded_6 : decode tp_bC_isDegraded 6 = .ok (.if_icmp .ne 7, 3) := by decide +kernel
theorem dC_isDegraded_9 : decode tp_bC_isDegraded 9 = .ok (.iconst 1, 1) := by decide +kernel
theorem dC_isDegraded_10 : decode tp_bC_isDegraded 10 = .ok (.goto 4, 3) := by decide +kernel
theorem dC_isDegraded_13 : decode tp_bC_isDegraded 13 = .ok (.iconst 0, 1) := by decide +kernel
theorem dC_isDegraded_14 : decode tp_bC_isDegraded 14 = .ok (.ireturn, 1) := by decide +kernel
theorem dC_otherThan_0 : decode tp_bC_otherThan 0 = .ok (.aload_n 0, 1) := by decide +kernel
theorem dC_otherThan_1 : decode tp_bC_otherThan 1 = .ok (.getfield 23, 3) := by decide +kernel
theorem dC_otherThan_4 : decode tp_bC_otherThan 4 = .ok (.iload_n 1, 1) := by decide +kernel
theorem dC_otherThan_5 : decode tp_bC_otherThan 5 = .ok (.iaload, 1) := by decide +kernel
theorem dC_otherThan_6 : decode tp_bC_otherThan 6 = .ok (.iload_n 2, 1) := by decide +kernel
theorem dC_otherThan_7 : decode tp_bC_otherThan 7 = .ok (.if_icmp .ne 12, 3) := by decide +kernel
theorem dC_otherThan_10 : decode tp_bC_otherThan 10 = .ok (.aload_n 0, 1) := by decide +kernel
theorem dC_otherThan_11 : decode tp_bC_otherThan 11 = .ok (.getfield 26, 3) := by decide +kernel
theorem dC_otherThan_14 : decode tp_bC_otherThan 14 = .ok (.iload_n 1, 1) := by decide +kernel
theorem dC_otherThan_15 : decode tp_bC_otherThan 15 = .ok (.iaload, 1) := by decide +kernel
theorem dC_otherThan_16 : decode tp_bC_otherThan 16 = .ok (.goto 9, 3) := by decide +kernel
theorem dC_otherThan_19 : decode tp_bC_otherThan 19 = .ok (.aload_n 0, 1) := by decide +kernel
theorem dC_otherThan_20 : decode tp_bC_otherThan 20 = .ok (.getfield 23, 3) := by decide +kernel
theorem dC_otherThan_23 : decode tp_bC_otherThan 23 = .ok (.iload_n 1, 1) := by decide +kernel
theorem dC_otherThan_24 : decode tp_bC_otherThan 24 = .ok (.iaload, 1) := by decide +kernel
theorem dC_otherThan_25 : decode tp_bC_otherThan 25 = .ok (.ireturn, 1) := by decide +kernel
theorem dC_allChunks_0 : decode tp_bC_allChunks 0 = .ok (.iconst 0, 1) := by decide +kernel
theorem dC_allChunks_1 : decode tp_bC_allChunks 1 = .ok (.istore_n 1, 1) := by decide +kernel
theorem dC_allChunks_2 : decode tp_bC_allChunks 2 = .ok (.iconst 0, 1) := by decide +kernel
theorem dC_allChunks_3 : decode tp_bC_allChunks 3 = .ok (.istore_n 2, 1) := by decide +kernel
theorem dC_allChunks_4 : decode tp_bC_allChunks 4 = .ok (.iload_n 2, 1) := by decide +kernel
theorem dC_allChunks_5 : decode tp_bC_allChunks 5 = .ok (.sipush 400, 3) := by decide +kernel
theorem dC_allChunks_8 : decode tp_bC_allChunks 8 = .ok (.if_icmp .ge 21, 3) := by decide +kernel
theorem dC_allChunks_11 : decode tp_bC_allChunks 11 = .ok (.aload_n 0, 1) := by decide +kernel
theorem dC_allChunks_12 : decode tp_bC_allChunks 12 = .ok (.getfield 20, 3) := by decide +kernel
theorem dC_allChunks_15 : decode tp_bC_allChunks 15 = .ok (.iload_n 2, 1) := by decide +kernel
theorem dC_allChunks_16 : decode tp_bC_allChunks 16 = .ok (.baload, 1) := by decide +kernel
theorem dC_allChunks_17 : decode tp_bC_allChunks 17 = .ok (.ifCond .eq 6, 3) := by decide +kernel
theorem dC_allChunks_20 : decode tp_bC_allChunks 20 = .ok (.iinc 1 1, 3) := by decide +kernel
theorem dC_allChunks_23 : decode tp_bC_allChunks 23 = .ok (.iinc 2 1, 3) := by decide +kernel
theorem dC_allChunks_26 : decode tp_bC_allChunks 26 = .ok (.goto (-22), 3) := by decide +kernel
theorem dC_allChunks_29 : decode tp_bC_allChunks 29 = .ok (.iload_n 1, 1) := by decide +kernel
theorem dC_allChunks_30 : decode tp_bC_allChunks 30 = .ok (.ireturn, 1) := by decide +kernel
theorem dC_chunksWith_0 : decode tp_bC_chunksWith 0 = .ok (.iconst 0, 1) := by decide +kernel
theorem dC_chunksWith_1 : decode tp_bC_chunksWith 1 = .ok (.istore_n 2, 1) := by decide +kernel
theorem dC_chunksWith_2 : decode tp_bC_chunksWith 2 = .ok (.iconst 0, 1) := by decide +kernel
theorem dC_chunksWith_3 : decode tp_bC_chunksWith 3 = .ok (.istore_n 3, 1) := by decide +kernel
theorem dC_chunksWith_4 : decode tp_bC_chunksWith 4 = .ok (.iload_n 3, 1) := by decide +kernel
theorem dC_chunksWith_5 : decode tp_bC_chunksWith 5 = .ok (.sipush 400, 3) := by decide +kernel
theorem dC_chunksWith_8 : decode tp_bC_chunksWith 8 = .ok (.if_icmp .ge 30, 3) := by decide +kernel
theorem dC_chunksWith_11 : decode tp_bC_chunksWith 11 = .ok (.aload_n 0, 1) := by decide +kernel
theorem dC_chunksWith_12 : decode tp_bC_chunksWith 12 = .ok (.getfield 20, 3) := by decide +kernel
theorem dC_chunksWith_15 : decode tp_bC_chunksWith 15 = .ok (.iload_n 3, 1) := by decide +kernel
theorem dC_chunksWith_16 : decode tp_bC_chunksWith 16 = .ok (.baload, 1) := by decide +kernel
theorem dC_chunksWith_17 : decode tp_bC_chunksWith 17 = .ok (.ifCond .eq 15, 3) := by decide +kernel
theorem dC_chunksWith_20 : decode tp_bC_chunksWith 20 = .ok (.aload_n 0, 1) := by decide +kernel
theorem dC_chunksWith_21 : decode tp_bC_chunksWith 21 = .ok (.iload_n 3, 1) := by decide +kernel
theorem dC_chunksWith_22 : decode tp_bC_chunksWith 22 = .ok (.invokevirtual 65, 3) := by decide +kernel
theorem dC_chunksWith_25 : decode tp_bC_chunksWith 25 = .ok (.iload_n 1, 1) := by decide +kernel
theorem dC_chunksWith_26 : decode tp_bC_chunksWith 26 = .ok (.if_icmp .ne 6, 3) := by decide +kernel
theorem dC_chunksWith_29 : decode tp_bC_chunksWith 29 = .ok (.iinc 2 1, 3) := by decide +kernel
theorem dC_chunksWith_32 : decode tp_bC_chunksWith 32 = .ok (.iinc 3 1, 3) := by decide +kernel
theorem dC_chunksWith_35 : decode tp_bC_chunksWith 35 = .ok (.goto (-31), 3) := by decide +kernel
theorem dC_chunksWith_38 : decode tp_bC_chunksWith 38 = .ok (.iload_n 2, 1) := by decide +kernel
theorem dC_chunksWith_39 : decode tp_bC_chunksWith 39 = .ok (.ireturn, 1) := by decide +kernel
theorem dC_leastUnusedNumber_0 : decode tp_bC_leastUnusedNumber 0 = .ok (.iconst 0, 1) := by decide +kernel
theorem dC_leastUnusedNumber_1 : decode tp_bC_leastUnusedNumber 1 = .ok (.istore_n 1, 1) := by decide +kernel
theorem dC_leastUnusedNumber_2 : decode tp_bC_leastUnusedNumber 2 = .ok (.iload_n 1, 1) := by decide +kernel
theorem dC_leastUnusedNumber_3 : decode tp_bC_leastUnusedNumber 3 = .ok (.sipush 400, 3) := by decide +kernel
theorem dC_leastUnusedNumber_6 : decode tp_bC_leastUnusedNumber 6 = .ok (.if_icmp .ge 20, 3) := by decide +kernel
theorem dC_leastUnusedNumber_9 : decode tp_bC_leastUnusedNumber 9 = .ok (.aload_n 0, 1) := by decide +kernel
theorem dC_leastUnusedNumber_10 : decode tp_bC_leastUnusedNumber 10 = .ok (.getfield 20, 3) := by decide +kernel
theorem dC_leastUnusedNumber_13 : decode tp_bC_leastUnusedNumber 13 = .ok (.iload_n 1, 1) := by decide +kernel
theorem dC_leastUnusedNumber_14 : decode tp_bC_leastUnusedNumber 14 = .ok (.baload, 1) := by decide +kernel
theorem dC_leastUnusedNumber_15 : decode tp_bC_leastUnusedNumber 15 = .ok (.ifCond .ne 5, 3) := by decide +kernel
theorem dC_leastUnusedNumber_18 : decode tp_bC_leastUnusedNumber 18 = .ok (.iload_n 1, 1) := by decide +kernel
theorem dC_leastUnusedNumber_19 : decode tp_bC_leastUnusedNumber 19 = .ok (.ireturn, 1) := by decide +kernel
theorem dC_leastUnusedNumber_20 : decode tp_bC_leastUnusedNumber 20 = .ok (.iinc 1 1, 3) := by decide +kernel
theorem dC_leastUnusedNumber_23 : decode tp_bC_leastUnusedNumber 23 = .ok (.goto (-21), 3) := by decide +kernel
theorem dC_leastUnusedNumber_26 : decode tp_bC_leastUnusedNumber 26 = .ok (.iconst (-1), 1) := by decide +kernel
theorem dC_leastUnusedNumber_27 : decode tp_bC_leastUnusedNumber 27 = .ok (.ireturn, 1) := by decide +kernel
theorem dC_addCopy_0 : decode tp_bC_addCopy 0 = .ok (.aload_n 0, 1) := by decide +kernel
theorem dC_addCopy_1 : decode tp_bC_addCopy 1 = .ok (.getfield 23, 3) := by decide +kernel
theorem dC_addCopy_4 : decode tp_bC_addCopy 4 = .ok (.iload_n 1, 1) := by decide +kernel
theorem dC_addCopy_5 : decode tp_bC_addCopy 5 = .ok (.iaload, 1) := by decide +kernel
theorem dC_addCopy_6 : decode tp_bC_addCopy 6 = .ok (.istore_n 3, 1) := by decide +kernel
theorem dC_addCopy_7 : decode tp_bC_addCopy 7 = .ok (.iload_n 3, 1) := by decide +kernel
theorem dC_addCopy_8 : decode tp_bC_addCopy 8 = .ok (.iconst (-1), 1) := by decide +kernel
theorem dC_addCopy_9 : decode tp_bC_addCopy 9 = .ok (.if_icmp .ne 13, 3) := by decide +kernel
theorem dC_addCopy_12 : decode tp_bC_addCopy 12 = .ok (.aload_n 0, 1) := by decide +kernel
theorem dC_addCopy_13 : decode tp_bC_addCopy 13 = .ok (.getfield 23, 3) := by decide +kernel
theorem dC_addCopy_16 : decode tp_bC_addCopy 16 = .ok (.iload_n 1, 1) := by decide +kernel
theorem dC_addCopy_17 : decode tp_bC_addCopy 17 = .ok (.iload_n 2, 1) := by decide +kernel
theorem dC_addCopy_18 : decode tp_bC_addCopy 18 = .ok (.iastore, 1) := by decide +kernel
theorem dC_addCopy_19 : decode tp_bC_addCopy 19 = .ok (.goto 25, 3) := by decide +kernel
theorem dC_addCopy_22 : decode tp_bC_addCopy 22 = .ok (.aload_n 0, 1) := by decide +kernel
theorem dC_addCopy_23 : decode tp_bC_addCopy 23 = .ok (.getfield 23, 3) := by decide +kernel
theorem dC_addCopy_26 : decode tp_bC_addCopy 26 = .ok (.iload_n 1, 1) := by decide +kernel
theorem dC_addCopy_27 : decode tp_bC_addCopy 27 = .ok (.iload_n 3, 1) := by decide +kernel
theorem dC_addCopy_28 : decode tp_bC_addCopy 28 = .ok (.iload_n 2, 1) := by decide +kernel
theorem dC_addCopy_29 : decode tp_bC_addCopy 29 = .ok (.invokestatic 56, 3) := by decide +kernel
theorem dC_addCopy_32 : decode tp_bC_addCopy 32 = .ok (.iastore, 1) := by decide +kernel
theorem dC_addCopy_33 : decode tp_bC_addCopy 33 = .ok (.aload_n 0, 1) := by decide +kernel
theorem dC_addCopy_34 : decode tp_bC_addCopy 34 = .ok (.getfield 26, 3) := by decide +kernel
theorem dC_addCopy_37 : decode tp_bC_addCopy 37 = .ok (.iload_n 1, 1) := by decide +kernel
theorem dC_addCopy_38 : decode tp_bC_addCopy 38 = .ok (.iload_n 3, 1) := by decide +kernel
theorem dC_addCopy_39 : decode tp_bC_addCopy 39 = .ok (.iload_n 2, 1) := by decide +kernel
theorem dC_addCopy_40 : decode tp_bC_addCopy 40 = .ok (.invokestatic 112, 3) := by decide +kernel
theorem dC_addCopy_43 : decode tp_bC_addCopy 43 = .ok (.iastore, 1) := by decide +kernel
theorem dC_addCopy_44 : decode tp_bC_addCopy 44 = .ok (.aload_n 0, 1) := by decide +kernel
theorem dC_addCopy_45 : decode tp_bC_addCopy 45 = .ok (.getfield 13, 3) := by decide +kernel
theorem dC_addCopy_48 : decode tp_bC_addCopy 48 = .ok (.iload_n 2, 1) := by decide +kernel
theorem dC_addCopy_49 : decode tp_bC_addCopy 49 = .ok (.dup2, 1) := by decide +kernel
theorem dC_addCopy_50 : decode tp_bC_addCopy 50 = .ok (.iaload, 1) := by decide +kernel
theorem dC_addCopy_51 : decode tp_bC_addCopy 51 = .ok (.iconst 1, 1) := by decide +kernel
theorem dC_addCopy_52 : decode tp_bC_addCopy 52 = .ok (.iadd, 1) := by decide +kernel
theorem dC_addCopy_53 : decode tp_bC_addCopy 53 = .ok (.iastore, 1) := by decide +kernel
theorem dC_addCopy_54 : decode tp_bC_addCopy 54 = .ok (.return_, 1) := by decide +kernel
theorem dC_dropCopy_0 : decode tp_bC_dropCopy 0 = .ok (.aload_n 0, 1) := by decide +kernel
theorem dC_dropCopy_1 : decode tp_bC_dropCopy 1 = .ok (.getfield 23, 3) := by decide +kernel
theorem dC_dropCopy_4 : decode tp_bC_dropCopy 4 = .ok (.iload_n 1, 1) := by decide +kernel
theorem dC_dropCopy_5 : decode tp_bC_dropCopy 5 = .ok (.aload_n 0, 1) := by decide +kernel
theorem dC_dropCopy_6 : decode tp_bC_dropCopy 6 = .ok (.iload_n 1, 1) := by decide +kernel
theorem dC_dropCopy_7 : decode tp_bC_dropCopy 7 = .ok (.iload_n 2, 1) := by decide +kernel
theorem dC_dropCopy_8 : decode tp_bC_dropCopy 8 = .ok (.invokevirtual 115, 3) := by decide +kernel
theorem dC_dropCopy_11 : decode tp_bC_dropCopy 11 = .ok (.iastore, 1) := by decide +kernel
theorem dC_dropCopy_12 : decode tp_bC_dropCopy 12 = .ok (.aload_n 0, 1) := by decide +kernel
theorem dC_dropCopy_13 : decode tp_bC_dropCopy 13 = .ok (.getfield 26, 3) := by decide +kernel
theorem dC_dropCopy_16 : decode tp_bC_dropCopy 16 = .ok (.iload_n 1, 1) := by decide +kernel
theorem dC_dropCopy_17 : decode tp_bC_dropCopy 17 = .ok (.iconst (-1), 1) := by decide +kernel
theorem dC_dropCopy_18 : decode tp_bC_dropCopy 18 = .ok (.iastore, 1) := by decide +kernel
theorem dC_dropCopy_19 : decode tp_bC_dropCopy 19 = .ok (.aload_n 0, 1) := by decide +kernel
theorem dC_dropCopy_20 : decode tp_bC_dropCopy 20 = .ok (.getfield 13, 3) := by decide +kernel
theorem dC_dropCopy_23 : decode tp_bC_dropCopy 23 = .ok (.iload_n 2, 1) := by decide +kernel
theorem dC_dropCopy_24 : decode tp_bC_dropCopy 24 = .ok (.dup2, 1) := by decide +kernel
theorem dC_dropCopy_25 : decode tp_bC_dropCopy 25 = .ok (.iaload, 1) := by decide +kernel
theorem dC_dropCopy_26 : decode tp_bC_dropCopy 26 = .ok (.iconst 1, 1) := by decide +kernel
theorem dC_dropCopy_27 : decode tp_bC_dropCopy 27 = .ok (.isub, 1) := by decide +kernel
theorem dC_dropCopy_28 : decode tp_bC_dropCopy 28 = .ok (.iastore, 1) := by decide +kernel
theorem dC_dropCopy_29 : decode tp_bC_dropCopy 29 = .ok (.aload_n 0, 1) := by decide +kernel
theorem dC_dropCopy_30 : decode tp_bC_dropCopy 30 = .ok (.iload_n 2, 1) := by decide +kernel
theorem dC_dropCopy_31 : decode tp_bC_dropCopy 31 = .ok (.invokevirtual 90, 3) := by decide +kernel
theorem dC_dropCopy_34 : decode tp_bC_dropCopy 34 = .ok (.ifCond .eq 8, 3) := by decide +kernel
theorem dC_dropCopy_37 : decode tp_bC_dropCopy 37 = .ok (.aload_n 0, 1) := by decide +kernel
theorem dC_dropCopy_38 : decode tp_bC_dropCopy 38 = .ok (.iload_n 2, 1) := by decide +kernel
theorem dC_dropCopy_39 : decode tp_bC_dropCopy 39 = .ok (.invokevirtual 77, 3) := by decide +kernel
theorem dC_dropCopy_42 : decode tp_bC_dropCopy 42 = .ok (.return_, 1) := by decide +kernel
theorem dC_moveCopy_0 : decode tp_bC_moveCopy 0 = .ok (.aload_n 0, 1) := by decide +kernel
theorem dC_moveCopy_1 : decode tp_bC_moveCopy 1 = .ok (.iload_n 1, 1) := by decide +kernel
theorem dC_moveCopy_2 : decode tp_bC_moveCopy 2 = .ok (.iload_n 2, 1) := by decide +kernel
theorem dC_moveCopy_3 : decode tp_bC_moveCopy 3 = .ok (.invokevirtual 69, 3) := by decide +kernel
theorem dC_moveCopy_6 : decode tp_bC_moveCopy 6 = .ok (.aload_n 0, 1) := by decide +kernel
theorem dC_moveCopy_7 : decode tp_bC_moveCopy 7 = .ok (.iload_n 1, 1) := by decide +kernel
theorem dC_moveCopy_8 : decode tp_bC_moveCopy 8 = .ok (.iload_n 3, 1) := by decide +kernel
theorem dC_moveCopy_9 : decode tp_bC_moveCopy 9 = .ok (.invokevirtual 118, 3) := by decide +kernel
theorem dC_moveCopy_12 : decode tp_bC_moveCopy 12 = .ok (.return_, 1) := by decide +kernel
theorem dC_makeRoomBeside_0 : decode tp_bC_makeRoomBeside 0 = .ok (.iconst 0, 1) := by decide +kernel
theorem dC_makeRoomBeside_1 : decode tp_bC_makeRoomBeside 1 = .ok (.istore_n 2, 1) := by decide +kernel
theorem dC_makeRoomBeside_2 : decode tp_bC_makeRoomBeside 2 = .ok (.iload_n 2, 1) := by decide +kernel
theorem dC_makeRoomBeside_3 : decode tp_bC_makeRoomBeside 3 = .ok (.sipush 400, 3) := by decide +kernel
theorem dC_makeRoomBeside_6 : decode tp_bC_makeRoomBeside 6 = .ok (.if_icmp .ge 40, 3) := by decide +kernel
theorem dC_makeRoomBeside_9 : decode tp_bC_makeRoomBeside 9 = .ok (.aload_n 0, 1) := by decide +kernel
theorem dC_makeRoomBeside_10 : decode tp_bC_makeRoomBeside 10 = .ok (.iload_n 2, 1) := by decide +kernel
theorem dC_makeRoomBeside_11 : decode tp_bC_makeRoomBeside 11 = .ok (.iload_n 1, 1) := by decide +kernel
theorem dC_makeRoomBeside_12 : decode tp_bC_makeRoomBeside 12 = .ok (.invokevirtual 121, 3) := by decide +kernel
theorem dC_makeRoomBeside_15 : decode tp_bC_makeRoomBeside 15 = .ok (.istore_n 3, 1) := by decide +kernel
theorem dC_makeRoomBeside_16 : decode tp_bC_makeRoomBeside 16 = .ok (.iload_n 3, 1) := by decide +kernel
theorem dC_makeRoomBeside_17 : decode tp_bC_makeRoomBeside 17 = .ok (.iconst (-1), 1) := by decide +kernel
theorem dC_makeRoomBeside_18 : decode tp_bC_makeRoomBeside 18 = .ok (.if_icmp .eq 22, 3) := by decide +kernel
theorem dC_makeRoomBeside_21 : decode tp_bC_makeRoomBeside 21 = .ok (.aload_n 0, 1) := by decide +kernel
theorem dC_makeRoomBeside_22 : decode tp_bC_makeRoomBeside 22 = .ok (.iload_n 2, 1) := by decide +kernel
theorem dC_makeRoomBeside_23 : decode tp_bC_makeRoomBeside 23 = .ok (.iload_n 3, 1) := by decide +kernel
theorem dC_makeRoomBeside_24 : decode tp_bC_makeRoomBeside 24 = .ok (.iload_n 1, 1) := by decide +kernel
theorem dC_makeRoomBeside_25 : decode tp_bC_makeRoomBeside 25 = .ok (.invokevirtual 124, 3) := by decide +kernel
theorem dC_makeRoomBeside_28 : decode tp_bC_makeRoomBeside 28 = .ok (.aload_n 0, 1) := by decide +kernel
theorem dC_makeRoomBeside_29 : decode tp_bC_makeRoomBeside 29 = .ok (.dup, 1) := by decide +kernel
theorem dC_makeRoomBeside_30 : decode tp_bC_makeRoomBeside 30 = .ok (.getfield 32, 3) := by decide +kernel
theorem dC_makeRoomBeside_33 : decode tp_bC_makeRoomBeside 33 = .ok (.iconst 1, 1) := by decide +kernel
theorem dC_makeRoomBeside_34 : decode tp_bC_makeRoomBeside 34 = .ok (.iadd, 1) := by decide +kernel
theorem dC_makeRoomBeside_35 : decode tp_bC_makeRoomBeside 35 = .ok (.putfield 32, 3) := by decide +kernel
theorem dC_makeRoomBeside_38 : decode tp_bC_makeRoomBeside 38 = .ok (.iload_n 3, 1) := by decide +kernel
theorem dC_makeRoomBeside_39 : decode tp_bC_makeRoomBeside 39 = .ok (.ireturn, 1) := by decide +kernel
theorem dC_makeRoomBeside_40 : decode tp_bC_makeRoomBeside 40 = .ok (.iinc 2 1, 3) := by decide +kernel
theorem dC_makeRoomBeside_43 : decode tp_bC_makeRoomBeside 43 = .ok (.goto (-41), 3) := by decide +kernel
theorem dC_makeRoomBeside_46 : decode tp_bC_makeRoomBeside 46 = .ok (.iconst (-1), 1) := by decide +kernel
theorem dC_makeRoomBeside_47 : decode tp_bC_makeRoomBeside 47 = .ok (.ireturn, 1) := by decide +kernel
theorem dC_copyForRoom_0 : decode tp_bC_copyForRoom 0 = .ok (.aload_n 0, 1) := by decide +kernel
theorem dC_copyForRoom_1 : decode tp_bC_copyForRoom 1 = .ok (.iload_n 1, 1) := by decide +kernel
theorem dC_copyForRoom_2 : decode tp_bC_copyForRoom 2 = .ok (.iload_n 2, 1) := by decide +kernel
theorem dC_copyForRoom_3 : decode tp_bC_copyForRoom 3 = .ok (.invokevirtual 73, 3) := by decide +kernel
theorem dC_copyForRoom_6 : decode tp_bC_copyForRoom 6 = .ok (.ifCond .eq 5, 3) := by decide +kernel
theorem dC_copyForRoom_9 : decode tp_bC_copyForRoom 9 = .ok (.iconst (-1), 1) := by decide +kernel
theorem dC_copyForRoom_10 : decode tp_bC_copyForRoom 10 = .ok (.ireturn, 1) := by decide +kernel
theorem dC_copyForRoom_11 : decode tp_bC_copyForRoom 11 = .ok (.aload_n 0, 1) := by decide +kernel
theorem dC_copyForRoom_12 : decode tp_bC_copyForRoom 12 = .ok (.aload_n 0, 1) := by decide +kernel
theorem dC_copyForRoom_13 : decode tp_bC_copyForRoom 13 = .ok (.getfield 23, 3) := by decide +kernel
theorem dC_copyForRoom_16 : decode tp_bC_copyForRoom 16 = .ok (.iload_n 1, 1) := by decide +kernel
theorem dC_copyForRoom_17 : decode tp_bC_copyForRoom 17 = .ok (.iaload, 1) := by decide +kernel
theorem dC_copyForRoom_18 : decode tp_bC_copyForRoom 18 = .ok (.invokevirtual 109, 3) := by decide +kernel
theorem dC_copyForRoom_21 : decode tp_bC_copyForRoom 21 = .ok (.ifCond .eq 10, 3) := by decide +kernel
theorem dC_copyForRoom_24 : decode tp_bC_copyForRoom 24 = .ok (.aload_n 0, 1) := by decide +kernel
theorem dC_copyForRoom_25 : decode tp_bC_copyForRoom 25 = .ok (.getfield 23, 3) := by decide +kernel
theorem dC_copyForRoom_28 : decode tp_bC_copyForRoom 28 = .ok (.iload_n 1, 1) := by decide +kernel
theorem dC_copyForRoom_29 : decode tp_bC_copyForRoom 29 = .ok (.iaload, 1) := by decide +kernel
theorem dC_copyForRoom_30 : decode tp_bC_copyForRoom 30 = .ok (.ireturn, 1) := by decide +kernel
theorem dC_copyForRoom_31 : decode tp_bC_copyForRoom 31 = .ok (.aload_n 0, 1) := by decide +kernel
theorem dC_copyForRoom_32 : decode tp_bC_copyForRoom 32 = .ok (.aload_n 0, 1) := by decide +kernel
theorem dC_copyForRoom_33 : decode tp_bC_copyForRoom 33 = .ok (.getfield 26, 3) := by decide +kernel
