theorem dX6_cycle_0 : decode cX6_cycle 0 = .ok (.iload_n 1, 1) := by decide +kernel
theorem dX6_cycle_1 : decode cX6_cycle 1 = .ok (.ifCond .lt 14, 3) := by decide +kernel
theorem dX6_cycle_4 : decode cX6_cycle 4 = .ok (.iload_n 1, 1) := by decide +kernel
theorem dX6_cycle_5 : decode cX6_cycle 5 = .ok (.aload_n 0, 1) := by decide +kernel
theorem dX6_cycle_6 : decode cX6_cycle 6 = .ok (.getfield 47, 3) := by decide +kernel
theorem dX6_cycle_9 : decode cX6_cycle 9 = .ok (.getfield 162, 3) := by decide +kernel
theorem dX6_cycle_12 : decode cX6_cycle 12 = .ok (.if_icmp .lt 13, 3) := by decide +kernel
theorem dX6_cycle_15 : decode cX6_cycle 15 = .ok (.new 153, 3) := by decide +kernel
theorem dX6_cycle_18 : decode cX6_cycle 18 = .ok (.dup, 1) := by decide +kernel
theorem dX6_cycle_19 : decode cX6_cycle 19 = .ok (.ldc 165, 2) := by decide +kernel
theorem dX6_cycle_21 : decode cX6_cycle 21 = .ok (.invokespecial 157, 3) := by decide +kernel
theorem dX6_cycle_24 : decode cX6_cycle 24 = .ok (.athrow, 1) := by decide +kernel
theorem dX6_cycle_25 : decode cX6_cycle 25 = .ok (.aload_n 0, 1) := by decide +kernel
theorem dX6_cycle_26 : decode cX6_cycle 26 = .ok (.getfield 47, 3) := by decide +kernel
theorem dX6_cycle_29 : decode cX6_cycle 29 = .ok (.getfield 167, 3) := by decide +kernel
theorem dX6_cycle_32 : decode cX6_cycle 32 = .ok (.iload_n 1, 1) := by decide +kernel
theorem dX6_cycle_33 : decode cX6_cycle 33 = .ok (.iaload, 1) := by decide +kernel
theorem dX6_cycle_34 : decode cX6_cycle 34 = .ok (.ireturn, 1) := by decide +kernel
theorem dX6_content_0 : decode cX6_content 0 = .ok (.iload_n 1, 1) := by decide +kernel
theorem dX6_content_1 : decode cX6_content 1 = .ok (.invokestatic 62, 3) := by decide +kernel
theorem dX6_content_4 : decode cX6_content 4 = .ok (.ifCond .eq 14, 3) := by decide +kernel
theorem dX6_content_7 : decode cX6_content 7 = .ok (.aload_n 0, 1) := by decide +kernel
theorem dX6_content_8 : decode cX6_content 8 = .ok (.getfield 10, 3) := by decide +kernel
theorem dX6_content_11 : decode cX6_content 11 = .ok (.iload_n 1, 1) := by decide +kernel
theorem dX6_content_12 : decode cX6_content 12 = .ok (.invokevirtual 171, 3) := by decide +kernel
theorem dX6_content_15 : decode cX6_content 15 = .ok (.ifCond .ne 13, 3) := by decide +kernel
theorem dX6_content_18 : decode cX6_content 18 = .ok (.new 153, 3) := by decide +kernel
theorem dX6_content_21 : decode cX6_content 21 = .ok (.dup, 1) := by decide +kernel
theorem dX6_content_22 : decode cX6_content 22 = .ok (.ldc 174, 2) := by decide +kernel
theorem dX6_content_24 : decode cX6_content 24 = .ok (.invokespecial 157, 3) := by decide +kernel
theorem dX6_content_27 : decode cX6_content 27 = .ok (.athrow, 1) := by decide +kernel
theorem dX6_content_28 : decode cX6_content 28 = .ok (.aload_n 0, 1) := by decide +kernel
theorem dX6_content_29 : decode cX6_content 29 = .ok (.getfield 10, 3) := by decide +kernel
theorem dX6_content_32 : decode cX6_content 32 = .ok (.iload_n 1, 1) := by decide +kernel
theorem dX6_content_33 : decode cX6_content 33 = .ok (.invokevirtual 176, 3) := by decide +kernel
theorem dX6_content_36 : decode cX6_content 36 = .ok (.ireturn, 1) := by decide +kernel
theorem dX6_reason_0 : decode cX6_reason 0 = .ok (.aload_n 0, 1) := by decide +kernel
theorem dX6_reason_1 : decode cX6_reason 1 = .ok (.iload_n 1, 1) := by decide +kernel
theorem dX6_reason_2 : decode cX6_reason 2 = .ok (.invokevirtual 59, 3) := by decide +kernel
theorem dX6_reason_5 : decode cX6_reason 5 = .ok (.ifCond .eq 19, 3) := by decide +kernel
theorem dX6_reason_8 : decode cX6_reason 8 = .ok (.aload_n 0, 1) := by decide +kernel
theorem dX6_reason_9 : decode cX6_reason 9 = .ok (.getfield 18, 3) := by decide +kernel
theorem dX6_reason_12 : decode cX6_reason 12 = .ok (.iload_n 1, 1) := by decide +kernel
theorem dX6_reason_13 : decode cX6_reason 13 = .ok (.aaload, 1) := by decide +kernel
theorem dX6_reason_14 : decode cX6_reason 14 = .ok (.aload_n 0, 1) := by decide +kernel
theorem dX6_reason_15 : decode cX6_reason 15 = .ok (.getfield 10, 3) := by decide +kernel
theorem dX6_reason_18 : decode cX6_reason 18 = .ok (.invokevirtual 179, 3) := by decide +kernel
theorem dX6_reason_21 : decode cX6_reason 21 = .ok (.goto 4, 3) := by decide +kernel
theorem dX6_reason_24 : decode cX6_reason 24 = .ok (.iconst (-1), 1) := by decide +kernel
theorem dX6_reason_25 : decode cX6_reason 25 = .ok (.ireturn, 1) := by decide +kernel
theorem dX6_isFile_0 : decode cX6_isFile 0 = .ok (.iload_n 0, 1) := by decide +kernel
theorem dX6_isFile_1 : decode cX6_isFile 1 = .ok (.ifCond .lt 13, 3) := by decide +kernel
theorem dX6_isFile_4 : decode cX6_isFile 4 = .ok (.iload_n 0, 1) := by decide +kernel
theorem dX6_isFile_5 : decode cX6_isFile 5 = .ok (.bipush 64, 2) := by decide +kernel
theorem dX6_isFile_7 : decode cX6_isFile 7 = .ok (.if_icmp .ge 7, 3) := by decide +kernel
theorem dX6_isFile_10 : decode cX6_isFile 10 = .ok (.iconst 1, 1) := by decide +kernel
theorem dX6_isFile_11 : decode cX6_isFile 11 = .ok (.goto 4, 3) := by decide +kernel
theorem dX6_isFile_14 : decode cX6_isFile 14 = .ok (.iconst 0, 1) := by decide +kernel
theorem dX6_isFile_15 : decode cX6_isFile 15 = .ok (.ireturn, 1) := by decide +kernel
theorem dX6_isStepNumber_0 : decode cX6_isStepNumber 0 = .ok (.iload_n 0, 1) := by decide +kernel
theorem dX6_isStepNumber_1 : decode cX6_isStepNumber 1 = .ok (.ifCond .lt 13, 3) := by decide +kernel
theorem dX6_isStepNumber_4 : decode cX6_isStepNumber 4 = .ok (.iload_n 0, 1) := by decide +kernel
theorem dX6_isStepNumber_5 : decode cX6_isStepNumber 5 = .ok (.bipush 40, 2) := by decide +kernel
theorem dX6_isStepNumber_7 : decode cX6_isStepNumber 7 = .ok (.if_icmp .ge 7, 3) := by decide +kernel
theorem dX6_isStepNumber_10 : decode cX6_isStepNumber 10 = .ok (.iconst 1, 1) := by decide +kernel
theorem dX6_isStepNumber_11 : decode cX6_isStepNumber 11 = .ok (.goto 4, 3) := by decide +kernel
theorem dX6_isStepNumber_14 : decode cX6_isStepNumber 14 = .ok (.iconst 0, 1) := by decide +kernel
theorem dX6_isStepNumber_15 : decode cX6_isStepNumber 15 = .ok (.ireturn, 1) := by decide +kernel
theorem dX6_bit_0 : decode cX6_bit 0 = .ok (.lconst 1, 1) := by decide +kernel
theorem dX6_bit_1 : decode cX6_bit 1 = .ok (.iload_n 0, 1) := by decide +kernel
theorem dX6_bit_2 : decode cX6_bit 2 = .ok (.lshl, 1) := by decide +kernel
theorem dX6_bit_3 : decode cX6_bit 3 = .ok (.lreturn, 1) := by decide +kernel
theorem dX6_isIn_0 : decode cX6_isIn 0 = .ok (.lload_n 0, 1) := by decide +kernel
theorem dX6_isIn_1 : decode cX6_isIn 1 = .ok (.iload_n 2, 1) := by decide +kernel
theorem dX6_isIn_2 : decode cX6_isIn 2 = .ok (.invokestatic 183, 3) := by decide +kernel
theorem dX6_isIn_5 : decode cX6_isIn 5 = .ok (.land, 1) := by decide +kernel
theorem dX6_isIn_6 : decode cX6_isIn 6 = .ok (.lconst 0, 1) := by decide +kernel
theorem dX6_isIn_7 : decode cX6_isIn 7 = .ok (.lcmp, 1) := by decide +kernel
theorem dX6_isIn_8 : decode cX6_isIn 8 = .ok (.ifCond .eq 7, 3) := by decide +kernel
theorem dX6_isIn_11 : decode cX6_isIn 11 = .ok (.iconst 1, 1) := by decide +kernel
theorem dX6_isIn_12 : decode cX6_isIn 12 = .ok (.goto 4, 3) := by decide +kernel
theorem dX6_isIn_15 : decode cX6_isIn 15 = .ok (.iconst 0, 1) := by decide +kernel
theorem dX6_isIn_16 : decode cX6_isIn 16 = .ok (.ireturn, 1) := by decide +kernel
theorem dX6_isThere_0 : decode cX6_isThere 0 = .ok (.iload_n 1, 1) := by decide +kernel
theorem dX6_isThere_1 : decode cX6_isThere 1 = .ok (.invokestatic 51, 3) := by decide +kernel
theorem dX6_isThere_4 : decode cX6_isThere 4 = .ok (.ifCond .eq 19, 3) := by decide +kernel
theorem dX6_isThere_7 : decode cX6_isThere 7 = .ok (.aload_n 0, 1) := by decide +kernel
theorem dX6_isThere_8 : decode cX6_isThere 8 = .ok (.getfield 18, 3) := by decide +kernel
theorem dX6_isThere_11 : decode cX6_isThere 11 = .ok (.iload_n 1, 1) := by decide +kernel
theorem dX6_isThere_12 : decode cX6_isThere 12 = .ok (.aaload, 1) := by decide +kernel
theorem dX6_isThere_13 : decode cX6_isThere 13 = .ok (.getfield 187, 3) := by decide +kernel
theorem dX6_isThere_16 : decode cX6_isThere 16 = .ok (.ifCond .eq 7, 3) := by decide +kernel
theorem dX6_isThere_19 : decode cX6_isThere 19 = .ok (.iconst 1, 1) := by decide +kernel
theorem dX6_isThere_20 : decode cX6_isThere 20 = .ok (.goto 4, 3) := by decide +kernel
theorem dX6_isThere_23 : decode cX6_isThere 23 = .ok (.iconst 0, 1) := by decide +kernel
theorem dX6_isThere_24 : decode cX6_isThere 24 = .ok (.ireturn, 1) := by decide +kernel
theorem dX6_isSource_0 : decode cX6_isSource 0 = .ok (.iload_n 1, 1) := by decide +kernel
theorem dX6_isSource_1 : decode cX6_isSource 1 = .ok (.invokestatic 62, 3) := by decide +kernel
theorem dX6_isSource_4 : decode cX6_isSource 4 = .ok (.ifCond .eq 19, 3) := by decide +kernel
theorem dX6_isSource_7 : decode cX6_isSource 7 = .ok (.aload_n 0, 1) := by decide +kernel
theorem dX6_isSource_8 : decode cX6_isSource 8 = .ok (.getfield 10, 3) := by decide +kernel
theorem dX6_isSource_11 : decode cX6_isSource 11 = .ok (.iload_n 1, 1) := by decide +kernel
theorem dX6_isSource_12 : decode cX6_isSource 12 = .ok (.invokevirtual 97, 3) := by decide +kernel
theorem dX6_isSource_15 : decode cX6_isSource 15 = .ok (.iconst (-1), 1) := by decide +kernel
theorem dX6_isSource_16 : decode cX6_isSource 16 = .ok (.if_icmp .ne 7, 3) := by decide +kernel
theorem dX6_isSource_19 : decode cX6_isSource 19 = .ok (.iconst 1, 1) := by decide +kernel
theorem dX6_isSource_20 : decode cX6_isSource 20 = .ok (.goto 4, 3) := by decide +kernel
theorem dX6_isSource_23 : decode cX6_isSource 23 = .ok (.iconst 0, 1) := by decide +kernel
theorem dX6_isSource_24 : decode cX6_isSource 24 = .ok (.ireturn, 1) := by decide +kernel
theorem dX6_countSteps_0 : decode cX6_countSteps 0 = .ok (.iconst 0, 1) := by decide +kernel
theorem dX6_countSteps_1 : decode cX6_countSteps 1 = .ok (.istore_n 1, 1) := by decide +kernel
theorem dX6_countSteps_2 : decode cX6_countSteps 2 = .ok (.iconst 0, 1) := by decide +kernel
theorem dX6_countSteps_3 : decode cX6_countSteps 3 = .ok (.istore_n 2, 1) := by decide +kernel
theorem dX6_countSteps_4 : decode cX6_countSteps 4 = .ok (.iload_n 2, 1) := by decide +kernel
theorem dX6_countSteps_5 : decode cX6_countSteps 5 = .ok (.bipush 40, 2) := by decide +kernel
theorem dX6_countSteps_7 : decode cX6_countSteps 7 = .ok (.if_icmp .ge 24, 3) := by decide +kernel
theorem dX6_countSteps_10 : decode cX6_countSteps 10 = .ok (.aload_n 0, 1) := by decide +kernel
theorem dX6_countSteps_11 : decode cX6_countSteps 11 = .ok (.getfield 18, 3) := by decide +kernel
theorem dX6_countSteps_14 : decode cX6_countSteps 14 = .ok (.iload_n 2, 1) := by decide +kernel
theorem dX6_countSteps_15 : decode cX6_countSteps 15 = .ok (.aaload, 1) := by decide +kernel
theorem dX6_countSteps_16 : decode cX6_countSteps 16 = .ok (.getfield 187, 3) := by decide +kernel
theorem dX6_countSteps_19 : decode cX6_countSteps 19 = .ok (.ifCond .eq 6, 3) := by decide +kernel
theorem dX6_countSteps_22 : decode cX6_countSteps 22 = .ok (.iinc 1 1, 3) := by decide +kernel
theorem dX6_countSteps_25 : decode cX6_countSteps 25 = .ok (.iinc 2 1, 3) := by decide +kernel
theorem dX6_countSteps_28 : decode cX6_countSteps 28 = .ok (.goto (-24), 3) := by decide +kernel
theorem dX6_countSteps_31 : decode cX6_countSteps 31 = .ok (.iload_n 1, 1) := by decide +kernel
theorem dX6_countSteps_32 : decode cX6_countSteps 32 = .ok (.ireturn, 1) := by decide +kernel
theorem dX6_sourceLacks_0 : decode cX6_sourceLacks 0 = .ok (.aload_n 0, 1) := by decide +kernel
theorem dX6_sourceLacks_1 : decode cX6_sourceLacks 1 = .ok (.getfield 10, 3) := by decide +kernel
theorem dX6_sourceLacks_4 : decode cX6_sourceLacks 4 = .ok (.iload_n 1, 1) := by decide +kernel
theorem dX6_sourceLacks_5 : decode cX6_sourceLacks 5 = .ok (.invokevirtual 191, 3) := by decide +kernel
theorem dX6_sourceLacks_8 : decode cX6_sourceLacks 8 = .ok (.ifCond .eq 5, 3) := by decide +kernel
theorem dX6_sourceLacks_11 : decode cX6_sourceLacks 11 = .ok (.iconst 1, 1) := by decide +kernel
theorem dX6_sourceLacks_12 : decode cX6_sourceLacks 12 = .ok (.ireturn, 1) := by decide +kernel
theorem dX6_sourceLacks_13 : decode cX6_sourceLacks 13 = .ok (.iconst 0, 1) := by decide +kernel
theorem dX6_sourceLacks_14 : decode cX6_sourceLacks 14 = .ok (.istore_n 2, 1) := by decide +kernel
theorem dX6_sourceLacks_15 : decode cX6_sourceLacks 15 = .ok (.iload_n 2, 1) := by decide +kernel
theorem dX6_sourceLacks_16 : decode cX6_sourceLacks 16 = .ok (.bipush 40, 2) := by decide +kernel
theorem dX6_sourceLacks_18 : decode cX6_sourceLacks 18 = .ok (.if_icmp .ge 41, 3) := by decide +kernel
theorem dX6_sourceLacks_21 : decode cX6_sourceLacks 21 = .ok (.aload_n 0, 1) := by decide +kernel
theorem dX6_sourceLacks_22 : decode cX6_sourceLacks 22 = .ok (.getfield 26, 3) := by decide +kernel
theorem dX6_sourceLacks_25 : decode cX6_sourceLacks 25 = .ok (.getfield 194, 3) := by decide +kernel
theorem dX6_sourceLacks_28 : decode cX6_sourceLacks 28 = .ok (.iload_n 2, 1) := by decide +kernel
theorem dX6_sourceLacks_29 : decode cX6_sourceLacks 29 = .ok (.invokestatic 197, 3) := by decide +kernel
theorem dX6_sourceLacks_32 : decode cX6_sourceLacks 32 = .ok (.ifCond .eq 21, 3) := by decide +kernel
theorem dX6_sourceLacks_35 : decode cX6_sourceLacks 35 = .ok (.aload_n 0, 1) := by decide +kernel
theorem dX6_sourceLacks_36 : decode cX6_sourceLacks 36 = .ok (.getfield 18, 3) := by decide +kernel
theorem dX6_sourceLacks_39 : decode cX6_sourceLacks 39 = .ok (.iload_n 2, 1) := by decide +kernel
theorem dX6_sourceLacks_40 : decode cX6_sourceLacks 40 = .ok (.aaload, 1) := by decide +kernel
theorem dX6_sourceLacks_41 : decode cX6_sourceLacks 41 = .ok (.aload_n 0, 1) := by decide +kernel
theorem dX6_sourceLacks_42 : decode cX6_sourceLacks 42 = .ok (.getfield 10, 3) := by decide +kernel
theorem dX6_sourceLacks_45 : decode cX6_sourceLacks 45 = .ok (.invokevirtual 201, 3) := by decide +kernel
theorem dX6_sourceLacks_48 : decode cX6_sourceLacks 48 = .ok (.ifCond .eq 5, 3) := by decide +kernel
theorem dX6_sourceLacks_51 : decode cX6_sourceLacks 51 = .ok (.iconst 1, 1) := by decide +kernel
theorem dX6_sourceLacks_52 : decode cX6_sourceLacks 52 = .ok (.ireturn, 1) := by decide +kernel
theorem dX6_sourceLacks_53 : decode cX6_sourceLacks 53 = .ok (.iinc 2 1, 3) := by decide +kernel
theorem dX6_sourceLacks_56 : decode cX6_sourceLacks 56 = .ok (.goto (-41), 3) := by decide +kernel
theorem dX6_sourceLacks_59 : decode cX6_sourceLacks 59 = .ok (.iconst 0, 1) := by decide +kernel
theorem dX6_sourceLacks_60 : decode cX6_sourceLacks 60 = .ok (.ireturn, 1) := by decide +kernel
theorem dX6_makeNeeded_0 : decode cX6_makeNeeded 0 = .ok (.aload_n 0, 1) := by decide +kernel
theorem dX6_makeNeeded_1 : decode cX6_makeNeeded 1 = .ok (.getfield 33, 3) := by decide +kernel
theorem dX6_makeNeeded_4 : decode cX6_makeNeeded 4 = .ok (.invokevirtual 204, 3) := by decide +kernel
theorem dX6_makeNeeded_7 : decode cX6_makeNeeded 7 = .ok (.iconst 0, 1) := by decide +kernel
theorem dX6_makeNeeded_8 : decode cX6_makeNeeded 8 = .ok (.istore_n 2, 1) := by decide +kernel
theorem dX6_makeNeeded_9 : decode cX6_makeNeeded 9 = .ok (.iconst 0, 1) := by decide +kernel
theorem dX6_makeNeeded_10 : decode cX6_makeNeeded 10 = .ok (.istore_n 3, 1) := by decide +kernel
theorem dX6_makeNeeded_11 : decode cX6_makeNeeded 11 = .ok (.iload_n 3, 1) := by decide +kernel
theorem dX6_makeNeeded_12 : decode cX6_makeNeeded 12 = .ok (.bipush 40, 2) := by decide +kernel
theorem dX6_makeNeeded_14 : decode cX6_makeNeeded 14 = .ok (.if_icmp .gt 44, 3) := by decide +kernel
theorem dX6_makeNeeded_17 : decode cX6_makeNeeded 17 = .ok (.aload_n 0, 1) := by decide +kernel
theorem dX6_makeNeeded_18 : decode cX6_makeNeeded 18 = .ok (.iload_n 2, 1) := by decide +kernel
theorem dX6_makeNeeded_19 : decode cX6_makeNeeded 19 = .ok (.invokevirtual 207, 3) := by decide +kernel
theorem dX6_makeNeeded_22 : decode cX6_makeNeeded 22 = .ok (.aload_n 0, 1) := by decide +kernel
theorem dX6_makeNeeded_23 : decode cX6_makeNeeded 23 = .ok (.invokevirtual 211, 3) := by decide +kernel
theorem dX6_makeNeeded_26 : decode cX6_makeNeeded 26 = .ok (.aload_n 0, 1) := by decide +kernel
theorem dX6_makeNeeded_27 : decode cX6_makeNeeded 27 = .ok (.iload_n 2, 1) := by decide +kernel
theorem dX6_makeNeeded_28 : decode cX6_makeNeeded 28 = .ok (.iload_n 1, 1) := by decide +kernel
theorem dX6_makeNeeded_29 : decode cX6_makeNeeded 29 = .ok (.invokevirtual 214, 3) := by decide +kernel
theorem dX6_makeNeeded_32 : decode cX6_makeNeeded 32 = .ok (.aload_n 0, 1) := by decide +kernel
theorem dX6_makeNeeded_33 : decode cX6_makeNeeded 33 = .ok (.getfield 33, 3) := by decide +kernel
theorem dX6_makeNeeded_36 : decode cX6_makeNeeded 36 = .ok (.invokevirtual 217, 3) := by decide +kernel
theorem dX6_makeNeeded_39 : decode cX6_makeNeeded 39 = .ok (.istore 4, 2) := by decide +kernel
theorem dX6_makeNeeded_41 : decode cX6_makeNeeded 41 = .ok (.iload 4, 2) := by decide +kernel
theorem dX6_makeNeeded_43 : decode cX6_makeNeeded 43 = .ok (.iconst (-1), 1) := by decide +kernel
theorem dX6_makeNeeded_44 : decode cX6_makeNeeded 44 = .ok (.if_icmp .ne 5, 3) := by decide +kernel
theorem dX6_makeNeeded_47 : decode cX6_makeNeeded 47 = .ok (.iload_n 2, 1) := by decide +kernel
theorem dX6_makeNeeded_48 : decode cX6_makeNeeded 48 = .ok (.ireturn, 1) := by decide +kernel
theorem dX6_makeNeeded_49 : decode cX6_makeNeeded 49 = .ok (.iload 4, 2) := by decide +kernel
theorem dX6_makeNeeded_51 : decode cX6_makeNeeded 51 = .ok (.istore_n 2, 1) := by decide +kernel
theorem dX6_makeNeeded_52 : decode cX6_makeNeeded 52 = .ok (.iinc 3 1, 3) := by decide +kernel
theorem dX6_makeNeeded_55 : decode cX6_makeNeeded 55 = .ok (.goto (-44), 3) := by decide +kernel
theorem dX6_makeNeeded_58 : decode cX6_makeNeeded 58 = .ok (.iload_n 2, 1) := by decide +kernel
theorem dX6_makeNeeded_59 : decode cX6_makeNeeded 59 = .ok (.ireturn, 1) := by decide +kernel
theorem dX6_endSteps_0 : decode cX6_endSteps 0 = .ok (.iconst 0, 1) := by decide +kernel
theorem dX6_endSteps_1 : decode cX6_endSteps 1 = .ok (.istore_n 2, 1) := by decide +kernel
theorem dX6_endSteps_2 : decode cX6_endSteps 2 = .ok (.iload_n 2, 1) := by decide +kernel
theorem dX6_endSteps_3 : decode cX6_endSteps 3 = .ok (.bipush 40, 2) := by decide +kernel
theorem dX6_endSteps_5 : decode cX6_endSteps 5 = .ok (.if_icmp .ge 42, 3) := by decide +kernel
theorem dX6_endSteps_8 : decode cX6_endSteps 8 = .ok (.aload_n 0, 1) := by decide +kernel
theorem dX6_endSteps_9 : decode cX6_endSteps 9 = .ok (.getfield 33, 3) := by decide +kernel
theorem dX6_endSteps_12 : decode cX6_endSteps 12 = .ok (.iload_n 2, 1) := by decide +kernel
theorem dX6_endSteps_13 : decode cX6_endSteps 13 = .ok (.iload_n 1, 1) := by decide +kernel
theorem dX6_endSteps_14 : decode cX6_endSteps 14 = .ok (.invokevirtual 220, 3) := by decide +kernel
theorem dX6_endSteps_17 : decode cX6_endSteps 17 = .ok (.ifCond .eq 24, 3) := by decide +kernel
theorem dX6_endSteps_20 : decode cX6_endSteps 20 = .ok (.aload_n 0, 1) := by decide +kernel
theorem dX6_endSteps_21 : decode cX6_endSteps 21 = .ok (.getfield 18, 3) := by decide +kernel
theorem dX6_endSteps_24 : decode cX6_endSteps 24 = .ok (.iload_n 2, 1) := by decide +kernel
theorem dX6_endSteps_25 : decode cX6_endSteps 25 = .ok (.aaload, 1) := by decide +kernel
theorem dX6_endSteps_26 : decode cX6_endSteps 26 = .ok (.aload_n 0, 1) := by decide +kernel
theorem dX6_endSteps_27 : decode cX6_endSteps 27 = .ok (.getfield 10, 3) := by decide +kernel
theorem dX6_endSteps_30 : decode cX6_endSteps 30 = .ok (.invokevirtual 224, 3) := by decide +kernel
theorem dX6_endSteps_33 : decode cX6_endSteps 33 = .ok (.aload_n 0, 1) := by decide +kernel
theorem dX6_endSteps_34 : decode cX6_endSteps 34 = .ok (.getfield 33, 3) := by decide +kernel
theorem dX6_endSteps_37 : decode cX6_endSteps 37 = .ok (.iload_n 2, 1) := by decide +kernel
theorem dX6_endSteps_38 : decode cX6_endSteps 38 = .ok (.invokevirtual 227, 3) := by decide +kernel
theorem dX6_endSteps_41 : decode cX6_endSteps 41 = .ok (.iinc 2 1, 3) := by decide +kernel
theorem dX6_endSteps_44 : decode cX6_endSteps 44 = .ok (.goto (-42), 3) := by decide +kernel
theorem dX6_endSteps_47 : decode cX6_endSteps 47 = .ok (.return_, 1) := by decide +kernel
theorem dX6_passOverSteps_0 : decode cX6_passOverSteps 0 = .ok (.iconst 1, 1) := by decide +kernel
theorem dX6_passOverSteps_1 : decode cX6_passOverSteps 1 = .ok (.istore_n 1, 1) := by decide +kernel
theorem dX6_passOverSteps_2 : decode cX6_passOverSteps 2 = .ok (.iconst 0, 1) := by decide +kernel
theorem dX6_passOverSteps_3 : decode cX6_passOverSteps 3 = .ok (.istore_n 2, 1) := by decide +kernel
theorem dX6_passOverSteps_4 : decode cX6_passOverSteps 4 = .ok (.iload_n 1, 1) := by decide +kernel
theorem dX6_passOverSteps_5 : decode cX6_passOverSteps 5 = .ok (.ifCond .eq 65, 3) := by decide +kernel
theorem dX6_passOverSteps_8 : decode cX6_passOverSteps 8 = .ok (.iload_n 2, 1) := by decide +kernel
theorem dX6_passOverSteps_9 : decode cX6_passOverSteps 9 = .ok (.bipush 40, 2) := by decide +kernel
theorem dX6_passOverSteps_11 : decode cX6_passOverSteps 11 = .ok (.if_icmp .ge 59, 3) := by decide +kernel
theorem dX6_passOverSteps_14 : decode cX6_passOverSteps 14 = .ok (.iconst 0, 1) := by decide +kernel
theorem dX6_passOverSteps_15 : decode cX6_passOverSteps 15 = .ok (.istore_n 1, 1) := by decide +kernel
theorem dX6_passOverSteps_16 : decode cX6_passOverSteps 16 = .ok (.iconst 0, 1) := by decide +kernel
theorem dX6_passOverSteps_17 : decode cX6_passOverSteps 17 = .ok (.istore_n 3, 1) := by decide +kernel
theorem dX6_passOverSteps_18 : decode cX6_passOverSteps 18 = .ok (.iload_n 3, 1) := by decide +kernel
theorem dX6_passOverSteps_19 : decode cX6_passOverSteps 19 = .ok (.bipush 40, 2) := by decide +kernel
theorem dX6_passOverSteps_21 : decode cX6_passOverSteps 21 = .ok (.if_icmp .ge 43, 3) := by decide +kernel
theorem dX6_passOverSteps_24 : decode cX6_passOverSteps 24 = .ok (.aload_n 0, 1) := by decide +kernel
theorem dX6_passOverSteps_25 : decode cX6_passOverSteps 25 = .ok (.iload_n 3, 1) := by decide +kernel
theorem dX6_passOverSteps_26 : decode cX6_passOverSteps 26 = .ok (.invokevirtual 230, 3) := by decide +kernel
theorem dX6_passOverSteps_29 : decode cX6_passOverSteps 29 = .ok (.ifCond .eq 29, 3) := by decide +kernel
theorem dX6_passOverSteps_32 : decode cX6_passOverSteps 32 = .ok (.aload_n 0, 1) := by decide +kernel
theorem dX6_passOverSteps_33 : decode cX6_passOverSteps 33 = .ok (.getfield 18, 3) := by decide +kernel
theorem dX6_passOverSteps_36 : decode cX6_passOverSteps 36 = .ok (.iload_n 3, 1) := by decide +kernel
theorem dX6_passOverSteps_37 : decode cX6_passOverSteps 37 = .ok (.aaload, 1) := by decide +kernel
theorem dX6_passOverSteps_38 : decode cX6_passOverSteps 38 = .ok (.aload_n 0, 1) := by decide +kernel
theorem dX6_passOverSteps_39 : decode cX6_passOverSteps 39 = .ok (.getfield 10, 3) := by decide +kernel
theorem dX6_passOverSteps_42 : decode cX6_passOverSteps 42 = .ok (.invokevirtual 179, 3) := by decide +kernel
theorem dX6_passOverSteps_45 : decode cX6_passOverSteps 45 = .ok (.ifCond .ne 13, 3) := by decide +kernel
theorem dX6_passOverSteps_48 : decode cX6_passOverSteps 48 = .ok (.aload_n 0, 1) := by decide +kernel
theorem dX6_passOverSteps_49 : decode cX6_passOverSteps 49 = .ok (.getfield 33, 3) := by decide +kernel
theorem dX6_passOverSteps_52 : decode cX6_passOverSteps 52 = .ok (.iload_n 3, 1) := by decide +kernel
theorem dX6_passOverSteps_53 : decode cX6_passOverSteps 53 = .ok (.invokevirtual 233, 3) := by decide +kernel
theorem dX6_passOverSteps_56 : decode cX6_passOverSteps 56 = .ok (.iconst 1, 1) := by decide +kernel
theorem dX6_passOverSteps_57 : decode cX6_passOverSteps 57 = .ok (.istore_n 1, 1) := by decide +kernel
theorem dX6_passOverSteps_58 : decode cX6_passOverSteps 58 = .ok (.iinc 3 1, 3) := by decide +kernel
theorem dX6_passOverSteps_61 : decode cX6_passOverSteps 61 = .ok (.goto (-43), 3) := by decide +kernel
theorem dX6_passOverSteps_64 : decode cX6_passOverSteps 64 = .ok (.iinc 2 1, 3) := by decide +kernel
theorem dX6_passOverSteps_67 : decode cX6_passOverSteps 67 = .ok (.goto (-63), 3) := by decide +kernel
theorem dX6_passOverSteps_70 : decode cX6_passOverSteps 70 = .ok (.return_, 1) := by decide +kernel
theorem dX6_beginSteps_0 : decode cX6_beginSteps 0 = .ok (.iconst 0, 1) := by decide +kernel
theorem dX6_beginSteps_1 : decode cX6_beginSteps 1 = .ok (.istore_n 3, 1) := by decide +kernel
theorem dX6_beginSteps_2 : decode cX6_beginSteps 2 = .ok (.iload_n 3, 1) := by decide +kernel
theorem dX6_beginSteps_3 : decode cX6_beginSteps 3 = .ok (.iload_n 2, 1) := by decide +kernel
theorem dX6_beginSteps_4 : decode cX6_beginSteps 4 = .ok (.if_icmp .ge 92, 3) := by decide +kernel
theorem dX6_beginSteps_7 : decode cX6_beginSteps 7 = .ok (.iload_n 3, 1) := by decide +kernel
theorem dX6_beginSteps_8 : decode cX6_beginSteps 8 = .ok (.bipush 8, 2) := by decide +kernel
theorem dX6_beginSteps_10 : decode cX6_beginSteps 10 = .ok (.if_icmp .ge 86, 3) := by decide +kernel
theorem dX6_beginSteps_13 : decode cX6_beginSteps 13 = .ok (.aload_n 0, 1) := by decide +kernel
theorem dX6_beginSteps_14 : decode cX6_beginSteps 14 = .ok (.getfield 33, 3) := by decide +kernel
theorem dX6_beginSteps_17 : decode cX6_beginSteps 17 = .ok (.iload_n 3, 1) := by decide +kernel
theorem dX6_beginSteps_18 : decode cX6_beginSteps 18 = .ok (.invokevirtual 236, 3) := by decide +kernel
theorem dX6_beginSteps_21 : decode cX6_beginSteps 21 = .ok (.ifCond .ne 69, 3) := by decide +kernel
theorem dX6_beginSteps_24 : decode cX6_beginSteps 24 = .ok (.aload_n 0, 1) := by decide +kernel
theorem dX6_beginSteps_25 : decode cX6_beginSteps 25 = .ok (.invokevirtual 239, 3) := by decide +kernel
theorem dX6_beginSteps_28 : decode cX6_beginSteps 28 = .ok (.istore 4, 2) := by decide +kernel
theorem dX6_beginSteps_30 : decode cX6_beginSteps 30 = .ok (.iload 4, 2) := by decide +kernel
theorem dX6_beginSteps_32 : decode cX6_beginSteps 32 = .ok (.iconst (-1), 1) := by decide +kernel
theorem dX6_beginSteps_33 : decode cX6_beginSteps 33 = .ok (.if_icmp .ne 4, 3) := by decide +kernel
theorem dX6_beginSteps_36 : decode cX6_beginSteps 36 = .ok (.return_, 1) := by decide +kernel
theorem dX6_beginSteps_37 : decode cX6_beginSteps 37 = .ok (.iload_n 1, 1) := by decide +kernel
theorem dX6_beginSteps_38 : decode cX6_beginSteps 38 = .ok (.aload_n 0, 1) := by decide +kernel
theorem dX6_beginSteps_39 : decode cX6_beginSteps 39 = .ok (.getfield 18, 3) := by decide +kernel
theorem dX6_beginSteps_42 : decode cX6_beginSteps 42 = .ok (.iload 4, 2) := by decide +kernel
theorem dX6_beginSteps_44 : decode cX6_beginSteps 44 = .ok (.aaload, 1) := by decide +kernel
theorem dX6_beginSteps_45 : decode cX6_beginSteps 45 = .ok (.getfield 242, 3) := by decide +kernel
theorem dX6_beginSteps_48 : decode cX6_beginSteps 48 = .ok (.iadd, 1) := by decide +kernel
theorem dX6_beginSteps_49 : decode cX6_beginSteps 49 = .ok (.istore 5, 2) := by decide +kernel
theorem dX6_beginSteps_51 : decode cX6_beginSteps 51 = .ok (.aload_n 0, 1) := by decide +kernel
theorem dX6_beginSteps_52 : decode cX6_beginSteps 52 = .ok (.getfield 40, 3) := by decide +kernel
theorem dX6_beginSteps_55 : decode cX6_beginSteps 55 = .ok (.iload 4, 2) := by decide +kernel
theorem dX6_beginSteps_57 : decode cX6_beginSteps 57 = .ok (.iload_n 1, 1) := by decide +kernel
theorem dX6_beginSteps_58 : decode cX6_beginSteps 58 = .ok (.iload 5, 2) := by decide +kernel
theorem dX6_beginSteps_60 : decode cX6_beginSteps 60 = .ok (.iload_n 3, 1) := by decide +kernel
theorem dX6_beginSteps_61 : decode cX6_beginSteps 61 = .ok (.aload_n 0, 1) := by decide +kernel
theorem dX6_beginSteps_62 : decode cX6_beginSteps 62 = .ok (.getfield 18, 3) := by decide +kernel
theorem dX6_beginSteps_65 : decode cX6_beginSteps 65 = .ok (.iload 4, 2) := by decide +kernel
theorem dX6_beginSteps_67 : decode cX6_beginSteps 67 = .ok (.aaload, 1) := by decide +kernel
theorem dX6_beginSteps_68 : decode cX6_beginSteps 68 = .ok (.aload_n 0, 1) := by decide +kernel
theorem dX6_beginSteps_69 : decode cX6_beginSteps 69 = .ok (.getfield 10, 3) := by decide +kernel
theorem dX6_beginSteps_72 : decode cX6_beginSteps 72 = .ok (.invokevirtual 179, 3) := by decide +kernel
theorem dX6_beginSteps_75 : decode cX6_beginSteps 75 = .ok (.invokevirtual 245, 3) := by decide +kernel
theorem dX6_beginSteps_78 : decode cX6_beginSteps 78 = .ok (.aload_n 0, 1) := by decide +kernel
theorem dX6_beginSteps_79 : decode cX6_beginSteps 79 = .ok (.getfield 33, 3) := by decide +kernel
theorem dX6_beginSteps_82 : decode cX6_beginSteps 82 = .ok (.iload 4, 2) := by decide +kernel
theorem dX6_beginSteps_84 : decode cX6_beginSteps 84 = .ok (.iload_n 3, 1) := by decide +kernel
theorem dX6_beginSteps_85 : decode cX6_beginSteps 85 = .ok (.iload 5, 2) := by decide +kernel
theorem dX6_beginSteps_87 : decode cX6_beginSteps 87 = .ok (.invokevirtual 249, 3) := by decide +kernel
theorem dX6_beginSteps_90 : decode cX6_beginSteps 90 = .ok (.iinc 3 1, 3) := by decide +kernel
theorem dX6_beginSteps_93 : decode cX6_beginSteps 93 = .ok (.goto (-91), 3) := by decide +kernel
theorem dX6_beginSteps_96 : decode cX6_beginSteps 96 = .ok (.return_, 1) := by decide +kernel
theorem dX6_nextToBegin_0 : decode cX6_nextToBegin 0 = .ok (.iconst (-1), 1) := by decide +kernel
theorem dX6_nextToBegin_1 : decode cX6_nextToBegin 1 = .ok (.istore_n 1, 1) := by decide +kernel
theorem dX6_nextToBegin_2 : decode cX6_nextToBegin 2 = .ok (.iconst 0, 1) := by decide +kernel
theorem dX6_nextToBegin_3 : decode cX6_nextToBegin 3 = .ok (.istore_n 2, 1) := by decide +kernel
theorem dX6_nextToBegin_4 : decode cX6_nextToBegin 4 = .ok (.iconst 0, 1) := by decide +kernel
theorem dX6_nextToBegin_5 : decode cX6_nextToBegin 5 = .ok (.istore_n 3, 1) := by decide +kernel
theorem dX6_nextToBegin_6 : decode cX6_nextToBegin 6 = .ok (.iload_n 3, 1) := by decide +kernel
theorem dX6_nextToBegin_7 : decode cX6_nextToBegin 7 = .ok (.bipush 40, 2) := by decide +kernel
theorem dX6_nextToBegin_9 : decode cX6_nextToBegin 9 = .ok (.if_icmp .ge 42, 3) := by decide +kernel
theorem dX6_nextToBegin_12 : decode cX6_nextToBegin 12 = .ok (.aload_n 0, 1) := by decide +kernel
theorem dX6_nextToBegin_13 : decode cX6_nextToBegin 13 = .ok (.iload_n 3, 1) := by decide +kernel
theorem dX6_nextToBegin_14 : decode cX6_nextToBegin 14 = .ok (.invokevirtual 230, 3) := by decide +kernel
theorem dX6_nextToBegin_17 : decode cX6_nextToBegin 17 = .ok (.ifCond .eq 28, 3) := by decide +kernel
theorem dX6_nextToBegin_20 : decode cX6_nextToBegin 20 = .ok (.aload_n 0, 1) := by decide +kernel
theorem dX6_nextToBegin_21 : decode cX6_nextToBegin 21 = .ok (.getfield 26, 3) := by decide +kernel
theorem dX6_nextToBegin_24 : decode cX6_nextToBegin 24 = .ok (.getfield 252, 3) := by decide +kernel
theorem dX6_nextToBegin_27 : decode cX6_nextToBegin 27 = .ok (.iload_n 3, 1) := by decide +kernel
theorem dX6_nextToBegin_28 : decode cX6_nextToBegin 28 = .ok (.iaload, 1) := by decide +kernel
theorem dX6_nextToBegin_29 : decode cX6_nextToBegin 29 = .ok (.iload_n 2, 1) := by decide +kernel
theorem dX6_nextToBegin_30 : decode cX6_nextToBegin 30 = .ok (.if_icmp .le 15, 3) := by decide +kernel
theorem dX6_nextToBegin_33 : decode cX6_nextToBegin 33 = .ok (.iload_n 3, 1) := by decide +kernel
theorem dX6_nextToBegin_34 : decode cX6_nextToBegin 34 = .ok (.istore_n 1, 1) := by decide +kernel
theorem dX6_nextToBegin_35 : decode cX6_nextToBegin 35 = .ok (.aload_n 0, 1) := by decide +kernel
theorem dX6_nextToBegin_36 : decode cX6_nextToBegin 36 = .ok (.getfield 26, 3) := by decide +kernel
theorem dX6_nextToBegin_39 : decode cX6_nextToBegin 39 = .ok (.getfield 252, 3) := by decide +kernel
theorem dX6_nextToBegin_42 : decode cX6_nextToBegin 42 = .ok (.iload_n 3, 1) := by decide +kernel
theorem dX6_nextToBegin_43 : decode cX6_nextToBegin 43 = .ok (.iaload, 1) := by decide +kernel
theorem dX6_nextToBegin_44 : decode cX6_nextToBegin 44 = .ok (.istore_n 2, 1) := by decide +kernel
theorem dX6_nextToBegin_45 : decode cX6_nextToBegin 45 = .ok (.iinc 3 1, 3) := by decide +kernel
theorem dX6_nextToBegin_48 : decode cX6_nextToBegin 48 = .ok (.goto (-42), 3) := by decide +kernel
theorem dX6_nextToBegin_51 : decode cX6_nextToBegin 51 = .ok (.iload_n 1, 1) := by decide +kernel
theorem dX6_nextToBegin_52 : decode cX6_nextToBegin 52 = .ok (.ireturn, 1) := by decide +kernel
theorem dX6_isReady_0 : decode cX6_isReady 0 = .ok (.aload_n 0, 1) := by decide +kernel
theorem dX6_isReady_1 : decode cX6_isReady 1 = .ok (.getfield 26, 3) := by decide +kernel
theorem dX6_isReady_4 : decode cX6_isReady 4 = .ok (.getfield 194, 3) := by decide +kernel
theorem dX6_isReady_7 : decode cX6_isReady 7 = .ok (.iload_n 1, 1) := by decide +kernel
theorem dX6_isReady_8 : decode cX6_isReady 8 = .ok (.invokestatic 197, 3) := by decide +kernel
theorem dX6_isReady_11 : decode cX6_isReady 11 = .ok (.ifCond .eq 37, 3) := by decide +kernel
theorem dX6_isReady_14 : decode cX6_isReady 14 = .ok (.aload_n 0, 1) := by decide +kernel
theorem dX6_isReady_15 : decode cX6_isReady 15 = .ok (.getfield 33, 3) := by decide +kernel
theorem dX6_isReady_18 : decode cX6_isReady 18 = .ok (.iload_n 1, 1) := by decide +kernel
theorem dX6_isReady_19 : decode cX6_isReady 19 = .ok (.invokevirtual 255, 3) := by decide +kernel
theorem dX6_isReady_22 : decode cX6_isReady 22 = .ok (.ifCond .eq 26, 3) := by decide +kernel
theorem dX6_isReady_25 : decode cX6_isReady 25 = .ok (.aload_n 0, 1) := by decide +kernel
theorem dX6_isReady_26 : decode cX6_isReady 26 = .ok (.getfield 33, 3) := by decide +kernel
theorem dX6_isReady_29 : decode cX6_isReady 29 = .ok (.aload_n 0, 1) := by decide +kernel
theorem dX6_isReady_30 : decode cX6_isReady 30 = .ok (.getfield 26, 3) := by decide +kernel
theorem dX6_isReady_33 : decode cX6_isReady 33 = .ok (.getfield 258, 3) := by decide +kernel
theorem dX6_isReady_36 : decode cX6_isReady 36 = .ok (.iload_n 1, 1) := by decide +kernel
theorem dX6_isReady_37 : decode cX6_isReady 37 = .ok (.laload, 1) := by decide +kernel
theorem dX6_isReady_38 : decode cX6_isReady 38 = .ok (.invokevirtual 262, 3) := by decide +kernel
theorem dX6_isReady_41 : decode cX6_isReady 41 = .ok (.ifCond .eq 7, 3) := by decide +kernel
theorem dX6_isReady_44 : decode cX6_isReady 44 = .ok (.iconst 1, 1) := by decide +kernel
theorem dX6_isReady_45 : decode cX6_isReady 45 = .ok (.goto 4, 3) := by decide +kernel
theorem dX6_isReady_48 : decode cX6_isReady 48 = .ok (.iconst 0, 1) := by decide +kernel
theorem dX6_isReady_49 : decode cX6_isReady 49 = .ok (.ireturn, 1) := by decide +kernel
theorem dX7_init_0 : decode cX7_init 0 = .ok (.aload_n 0, 1) := by decide +kernel
theorem dX7_init_1 : decode cX7_init 1 = .ok (.invokespecial 1, 3) := by decide +kernel
theorem dX7_init_4 : decode cX7_init 4 = .ok (.aload_n 0, 1) := by decide +kernel
theorem dX7_init_5 : decode cX7_init 5 = .ok (.bipush 64, 2) := by decide +kernel
theorem dX7_init_7 : decode cX7_init 7 = .ok (.newarray .boolean, 2) := by decide +kernel
theorem dX7_init_9 : decode cX7_init 9 = .ok (.putfield 7, 3) := by decide +kernel
theorem dX7_init_12 : decode cX7_init 12 = .ok (.aload_n 0, 1) := by decide +kernel
theorem dX7_init_13 : decode cX7_init 13 = .ok (.bipush 64, 2) := by decide +kernel
theorem dX7_init_15 : decode cX7_init 15 = .ok (.newarray .int, 2) := by decide +kernel
theorem dX7_init_17 : decode cX7_init 17 = .ok (.putfield 13, 3) := by decide +kernel
theorem dX7_init_20 : decode cX7_init 20 = .ok (.aload_n 0, 1) := by decide +kernel
theorem dX7_init_21 : decode cX7_init 21 = .ok (.bipush 64, 2) := by decide +kernel
theorem dX7_init_23 : decode cX7_init 23 = .ok (.newarray .int, 2) := by decide +kernel
theorem dX7_init_25 : decode cX7_init 25 = .ok (.putfield 17, 3) := by decide +kernel
theorem dX7_init_28 : decode cX7_init 28 = .ok (.aload_n 0, 1) := by decide +kernel
theorem dX7_init_29 : decode cX7_init 29 = .ok (.bipush 40, 2) := by decide +kernel
theorem dX7_init_31 : decode cX7_init 31 = .ok (.newarray .boolean, 2) := by decide +kernel
theorem dX7_init_33 : decode cX7_init 33 = .ok (.putfield 20, 3) := by decide +kernel
theorem dX7_init_36 : decode cX7_init 36 = .ok (.aload_n 0, 1) := by decide +kernel
theorem dX7_init_37 : decode cX7_init 37 = .ok (.bipush 40, 2) := by decide +kernel
theorem dX7_init_39 : decode cX7_init 39 = .ok (.newarray .int, 2) := by decide +kernel
theorem dX7_init_41 : decode cX7_init 41 = .ok (.putfield 23, 3) := by decide +kernel
theorem dX7_init_44 : decode cX7_init 44 = .ok (.aload_n 0, 1) := by decide +kernel
theorem dX7_init_45 : decode cX7_init 45 = .ok (.bipush 40, 2) := by decide +kernel
theorem dX7_init_47 : decode cX7_init 47 = .ok (.newarray .int, 2) := by decide +kernel
theorem dX7_init_49 : decode cX7_init 49 = .ok (.putfield 26, 3) := by decide +kernel
theorem dX7_init_52 : decode cX7_init 52 = .ok (.aload_n 0, 1) := by decide +kernel
theorem dX7_init_53 : decode cX7_init 53 = .ok (.bipush 40, 2) := by decide +kernel
theorem dX7_init_55 : decode cX7_init 55 = .ok (.newarray .int, 2) := by decide +kernel
theorem dX7_init_57 : decode cX7_init 57 = .ok (.putfield 29, 3) := by decide +kernel
theorem dX7_init_60 : decode cX7_init 60 = .ok (.aload_n 0, 1) := by decide +kernel
theorem dX7_init_61 : decode cX7_init 61 = .ok (.bipush 40, 2) := by decide +kernel
theorem dX7_init_63 : decode cX7_init 63 = .ok (.newarray .int, 2) := by decide +kernel
theorem dX7_init_65 : decode cX7_init 65 = .ok (.putfield 32, 3) := by decide +kernel
theorem dX7_init_68 : decode cX7_init 68 = .ok (.aload_n 0, 1) := by decide +kernel
theorem dX7_init_69 : decode cX7_init 69 = .ok (.bipush 40, 2) := by decide +kernel
theorem dX7_init_71 : decode cX7_init 71 = .ok (.newarray .int, 2) := by decide +kernel
theorem dX7_init_73 : decode cX7_init 73 = .ok (.putfield 35, 3) := by decide +kernel
theorem dX7_init_76 : decode cX7_init 76 = .ok (.aload_n 0, 1) := by decide +kernel
theorem dX7_init_77 : decode cX7_init 77 = .ok (.sipush 240, 3) := by decide +kernel
theorem dX7_init_80 : decode cX7_init 80 = .ok (.newarray .int, 2) := by decide +kernel
theorem dX7_init_82 : decode cX7_init 82 = .ok (.putfield 38, 3) := by decide +kernel
theorem dX7_init_85 : decode cX7_init 85 = .ok (.aload_n 0, 1) := by decide +kernel
theorem dX7_init_86 : decode cX7_init 86 = .ok (.bipush 120, 2) := by decide +kernel
theorem dX7_init_88 : decode cX7_init 88 = .ok (.newarray .int, 2) := by decide +kernel
theorem dX7_init_90 : decode cX7_init 90 = .ok (.putfield 41, 3) := by decide +kernel
theorem dX7_init_93 : decode cX7_init 93 = .ok (.aload_n 0, 1) := by decide +kernel
theorem dX7_init_94 : decode cX7_init 94 = .ok (.bipush 40, 2) := by decide +kernel
theorem dX7_init_96 : decode cX7_init 96 = .ok (.newarray .boolean, 2) := by decide +kernel
theorem dX7_init_98 : decode cX7_init 98 = .ok (.putfield 44, 3) := by decide +kernel
theorem dX7_init_101 : decode cX7_init 101 = .ok (.aload_n 0, 1) := by decide +kernel
theorem dX7_init_102 : decode cX7_init 102 = .ok (.bipush 40, 2) := by decide +kernel
theorem dX7_init_104 : decode cX7_init 104 = .ok (.newarray .int, 2) := by decide +kernel
theorem dX7_init_106 : decode cX7_init 106 = .ok (.putfield 47, 3) := by decide +kernel
theorem dX7_init_109 : decode cX7_init 109 = .ok (.aload_n 0, 1) := by decide +kernel
theorem dX7_init_110 : decode cX7_init 110 = .ok (.bipush 40, 2) := by decide +kernel
theorem dX7_init_112 : decode cX7_init 112 = .ok (.newarray .int, 2) := by decide +kernel
theorem dX7_init_114 : decode cX7_init 114 = .ok (.putfield 50, 3) := by decide +kernel
theorem dX7_init_117 : decode cX7_init 117 = .ok (.aload_n 0, 1) := by decide +kernel
theorem dX7_init_118 : decode cX7_init 118 = .ok (.bipush 40, 2) := by decide +kernel
theorem dX7_init_120 : decode cX7_init 120 = .ok (.newarray .int, 2) := by decide +kernel
theorem dX7_init_122 : decode cX7_init 122 = .ok (.putfield 53, 3) := by decide +kernel
theorem dX7_init_125 : decode cX7_init 125 = .ok (.aload_n 0, 1) := by decide +kernel
theorem dX7_init_126 : decode cX7_init 126 = .ok (.bipush 40, 2) := by decide +kernel
theorem dX7_init_128 : decode cX7_init 128 = .ok (.newarray .int, 2) := by decide +kernel
theorem dX7_init_130 : decode cX7_init 130 = .ok (.putfield 56, 3) := by decide +kernel
theorem dX7_init_133 : decode cX7_init 133 = .ok (.aload_n 0, 1) := by decide +kernel
theorem dX7_init_134 : decode cX7_init 134 = .ok (.sipush 240, 3) := by decide +kernel
theorem dX7_init_137 : decode cX7_init 137 = .ok (.newarray .int, 2) := by decide +kernel
theorem dX7_init_139 : decode cX7_init 139 = .ok (.putfield 59, 3) := by decide +kernel
theorem dX7_init_142 : decode cX7_init 142 = .ok (.aload_n 0, 1) := by decide +kernel
theorem dX7_init_143 : decode cX7_init 143 = .ok (.bipush 120, 2) := by decide +kernel
theorem dX7_init_145 : decode cX7_init 145 = .ok (.newarray .int, 2) := by decide +kernel
theorem dX7_init_147 : decode cX7_init 147 = .ok (.putfield 62, 3) := by decide +kernel
theorem dX7_init_150 : decode cX7_init 150 = .ok (.aload_n 0, 1) := by decide +kernel
theorem dX7_init_151 : decode cX7_init 151 = .ok (.sipush 240, 3) := by decide +kernel
theorem dX7_init_154 : decode cX7_init 154 = .ok (.newarray .int, 2) := by decide +kernel
theorem dX7_init_156 : decode cX7_init 156 = .ok (.putfield 65, 3) := by decide +kernel
theorem dX7_init_159 : decode cX7_init 159 = .ok (.aload_n 0, 1) := by decide +kernel
theorem dX7_init_160 : decode cX7_init 160 = .ok (.bipush 40, 2) := by decide +kernel
theorem dX7_init_162 : decode cX7_init 162 = .ok (.newarray .boolean, 2) := by decide +kernel
theorem dX7_init_164 : decode cX7_init 164 = .ok (.putfield 68, 3) := by decide +kernel
theorem dX7_init_167 : decode cX7_init 167 = .ok (.aload_n 0, 1) := by decide +kernel
theorem dX7_init_168 : decode cX7_init 168 = .ok (.bipush 40, 2) := by decide +kernel
theorem dX7_init_170 : decode cX7_init 170 = .ok (.newarray .int, 2) := by decide +kernel
theorem dX7_init_172 : decode cX7_init 172 = .ok (.putfield 71, 3) := by decide +kernel
theorem dX7_init_175 : decode cX7_init 175 = .ok (.aload_n 0, 1) := by decide +kernel
theorem dX7_init_176 : decode cX7_init 176 = .ok (.bipush 40, 2) := by decide +kernel
theorem dX7_init_178 : decode cX7_init 178 = .ok (.newarray .int, 2) := by decide +kernel
theorem dX7_init_180 : decode cX7_init 180 = .ok (.putfield 74, 3) := by decide +kernel
theorem dX7_init_183 : decode cX7_init 183 = .ok (.aload_n 0, 1) := by decide +kernel
theorem dX7_init_184 : decode cX7_init 184 = .ok (.bipush 40, 2) := by decide +kernel
theorem dX7_init_186 : decode cX7_init 186 = .ok (.newarray .int, 2) := by decide +kernel
theorem dX7_init_188 : decode cX7_init 188 = .ok (.putfield 77, 3) := by decide +kernel
theorem dX7_init_191 : decode cX7_init 191 = .ok (.aload_n 0, 1) := by decide +kernel
theorem dX7_init_192 : decode cX7_init 192 = .ok (.bipush 40, 2) := by decide +kernel
theorem dX7_init_194 : decode cX7_init 194 = .ok (.newarray .int, 2) := by decide +kernel
theorem dX7_init_196 : decode cX7_init 196 = .ok (.putfield 80, 3) := by decide +kernel
theorem dX7_init_199 : decode cX7_init 199 = .ok (.aload_n 0, 1) := by decide +kernel
theorem dX7_init_200 : decode cX7_init 200 = .ok (.bipush 40, 2) := by decide +kernel
theorem dX7_init_202 : decode cX7_init 202 = .ok (.newarray .int, 2) := by decide +kernel
theorem dX7_init_204 : decode cX7_init 204 = .ok (.putfield 83, 3) := by decide +kernel
theorem dX7_init_207 : decode cX7_init 207 = .ok (.aload_n 0, 1) := by decide +kernel
theorem dX7_init_208 : decode cX7_init 208 = .ok (.bipush 8, 2) := by decide +kernel
theorem dX7_init_210 : decode cX7_init 210 = .ok (.newarray .boolean, 2) := by decide +kernel
theorem dX7_init_212 : decode cX7_init 212 = .ok (.putfield 86, 3) := by decide +kernel
theorem dX7_init_215 : decode cX7_init 215 = .ok (.aload_n 0, 1) := by decide +kernel
theorem dX7_init_216 : decode cX7_init 216 = .ok (.bipush 40, 2) := by decide +kernel
theorem dX7_init_218 : decode cX7_init 218 = .ok (.newarray .int, 2) := by decide +kernel
theorem dX7_init_220 : decode cX7_init 220 = .ok (.putfield 89, 3) := by decide +kernel
theorem dX7_init_223 : decode cX7_init 223 = .ok (.aload_n 0, 1) := by decide +kernel
theorem dX7_init_224 : decode cX7_init 224 = .ok (.bipush 40, 2) := by decide +kernel
theorem dX7_init_226 : decode cX7_init 226 = .ok (.newarray .int, 2) := by decide +kernel
theorem dX7_init_228 : decode cX7_init 228 = .ok (.putfield 92, 3) := by decide +kernel
theorem dX7_init_231 : decode cX7_init 231 = .ok (.aload_n 0, 1) := by decide +kernel
theorem dX7_init_232 : decode cX7_init 232 = .ok (.bipush 40, 2) := by decide +kernel
theorem dX7_init_234 : decode cX7_init 234 = .ok (.newarray .int, 2) := by decide +kernel
theorem dX7_init_236 : decode cX7_init 236 = .ok (.putfield 95, 3) := by decide +kernel
theorem dX7_init_239 : decode cX7_init 239 = .ok (.aload_n 0, 1) := by decide +kernel
theorem dX7_init_240 : decode cX7_init 240 = .ok (.bipush 40, 2) := by decide +kernel
theorem dX7_init_242 : decode cX7_init 242 = .ok (.newarray .int, 2) := by decide +kernel
theorem dX7_init_244 : decode cX7_init 244 = .ok (.putfield 98, 3) := by decide +kernel
theorem dX7_init_247 : decode cX7_init 247 = .ok (.aload_n 0, 1) := by decide +kernel
theorem dX7_init_248 : decode cX7_init 248 = .ok (.bipush 40, 2) := by decide +kernel
theorem dX7_init_250 : decode cX7_init 250 = .ok (.newarray .int, 2) := by decide +kernel
theorem dX7_init_252 : decode cX7_init 252 = .ok (.putfield 101, 3) := by decide +kernel
theorem dX7_init_255 : decode cX7_init 255 = .ok (.aload_n 0, 1) := by decide +kernel
theorem dX7_init_256 : decode cX7_init 256 = .ok (.bipush 40, 2) := by decide +kernel
theorem dX7_init_258 : decode cX7_init 258 = .ok (.newarray .int, 2) := by decide +kernel
theorem dX7_init_260 : decode cX7_init 260 = .ok (.putfield 104, 3) := by decide +kernel
theorem dX7_init_263 : decode cX7_init 263 = .ok (.aload_n 0, 1) := by decide +kernel
theorem dX7_init_264 : decode cX7_init 264 = .ok (.bipush 40, 2) := by decide +kernel
theorem dX7_init_266 : decode cX7_init 266 = .ok (.newarray .int, 2) := by decide +kernel
theorem dX7_init_268 : decode cX7_init 268 = .ok (.putfield 107, 3) := by decide +kernel
theorem dX7_init_271 : decode cX7_init 271 = .ok (.iconst 0, 1) := by decide +kernel
theorem dX7_init_272 : decode cX7_init 272 = .ok (.istore_n 1, 1) := by decide +kernel
theorem dX7_init_273 : decode cX7_init 273 = .ok (.iload_n 1, 1) := by decide +kernel
theorem dX7_init_274 : decode cX7_init 274 = .ok (.bipush 64, 2) := by decide +kernel
theorem dX7_init_276 : decode cX7_init 276 = .ok (.if_icmp .ge 16, 3) := by decide +kernel
theorem dX7_init_279 : decode cX7_init 279 = .ok (.aload_n 0, 1) := by decide +kernel
theorem dX7_init_280 : decode cX7_init 280 = .ok (.getfield 17, 3) := by decide +kernel
theorem dX7_init_283 : decode cX7_init 283 = .ok (.iload_n 1, 1) := by decide +kernel
theorem dX7_init_284 : decode cX7_init 284 = .ok (.iconst (-1), 1) := by decide +kernel
theorem dX7_init_285 : decode cX7_init 285 = .ok (.iastore, 1) := by decide +kernel
theorem dX7_init_286 : decode cX7_init 286 = .ok (.iinc 1 1, 3) := by decide +kernel
theorem dX7_init_289 : decode cX7_init 289 = .ok (.goto (-16), 3) := by decide +kernel
theorem dX7_init_292 : decode cX7_init 292 = .ok (.return_, 1) := by decide +kernel
theorem dX7_thrown_0 : decode cX7_thrown 0 = .ok (.aload_n 0, 1) := by decide +kernel
theorem dX7_thrown_1 : decode cX7_thrown 1 = .ok (.getfield 110, 3) := by decide +kernel
theorem dX7_thrown_4 : decode cX7_thrown 4 = .ok (.ireturn, 1) := by decide +kernel
theorem dX7_raise_0 : decode cX7_raise 0 = .ok (.aload_n 0, 1) := by decide +kernel
theorem dX7_raise_1 : decode cX7_raise 1 = .ok (.iload_n 1, 1) := by decide +kernel
theorem dX7_raise_2 : decode cX7_raise 2 = .ok (.putfield 110, 3) := by decide +kernel
theorem dX7_raise_5 : decode cX7_raise 5 = .ok (.iconst 0, 1) := by decide +kernel
theorem dX7_raise_6 : decode cX7_raise 6 = .ok (.ireturn, 1) := by decide +kernel
theorem dX7_isFile_0 : decode cX7_isFile 0 = .ok (.iload_n 0, 1) := by decide +kernel
theorem dX7_isFile_1 : decode cX7_isFile 1 = .ok (.ifCond .lt 13, 3) := by decide +kernel
theorem dX7_isFile_4 : decode cX7_isFile 4 = .ok (.iload_n 0, 1) := by decide +kernel
theorem dX7_isFile_5 : decode cX7_isFile 5 = .ok (.bipush 64, 2) := by decide +kernel
theorem dX7_isFile_7 : decode cX7_isFile 7 = .ok (.if_icmp .ge 7, 3) := by decide +kernel
theorem dX7_isFile_10 : decode cX7_isFile 10 = .ok (.iconst 1, 1) := by decide +kernel
theorem dX7_isFile_11 : decode cX7_isFile 11 = .ok (.goto 4, 3) := by decide +kernel
theorem dX7_isFile_14 : decode cX7_isFile 14 = .ok (.iconst 0, 1) := by decide +kernel
theorem dX7_isFile_15 : decode cX7_isFile 15 = .ok (.ireturn, 1) := by decide +kernel
theorem dX7_isStep_0 : decode cX7_isStep 0 = .ok (.iload_n 1, 1) := by decide +kernel
theorem dX7_isStep_1 : decode cX7_isStep 1 = .ok (.ifCond .lt 22, 3) := by decide +kernel
theorem dX7_isStep_4 : decode cX7_isStep 4 = .ok (.iload_n 1, 1) := by decide +kernel
theorem dX7_isStep_5 : decode cX7_isStep 5 = .ok (.bipush 40, 2) := by decide +kernel
theorem dX7_isStep_7 : decode cX7_isStep 7 = .ok (.if_icmp .ge 16, 3) := by decide +kernel
theorem dX7_isStep_10 : decode cX7_isStep 10 = .ok (.aload_n 0, 1) := by decide +kernel
theorem dX7_isStep_11 : decode cX7_isStep 11 = .ok (.getfield 20, 3) := by decide +kernel
theorem dX7_isStep_14 : decode cX7_isStep 14 = .ok (.iload_n 1, 1) := by decide +kernel
theorem dX7_isStep_15 : decode cX7_isStep 15 = .ok (.baload, 1) := by decide +kernel
theorem dX7_isStep_16 : decode cX7_isStep 16 = .ok (.ifCond .eq 7, 3) := by decide +kernel
theorem dX7_isStep_19 : decode cX7_isStep 19 = .ok (.iconst 1, 1) := by decide +kernel
theorem dX7_isStep_20 : decode cX7_isStep 20 = .ok (.goto 4, 3) := by decide +kernel
theorem dX7_isStep_23 : decode cX7_isStep 23 = .ok (.iconst 0, 1) := by decide +kernel
theorem dX7_isStep_24 : decode cX7_isStep 24 = .ok (.ireturn, 1) := by decide +kernel
theorem dX7_step_0 : decode cX7_step 0 = .ok (.aload_n 0, 1) := by decide +kernel
theorem dX7_step_1 : decode cX7_step 1 = .ok (.iconst 0, 1) := by decide +kernel
theorem dX7_step_2 : decode cX7_step 2 = .ok (.putfield 110, 3) := by decide +kernel
theorem dX7_step_5 : decode cX7_step 5 = .ok (.iload_n 1, 1) := by decide +kernel
theorem dX7_step_6 : decode cX7_step 6 = .ok (.ifCond .lt 22, 3) := by decide +kernel
theorem dX7_step_9 : decode cX7_step 9 = .ok (.iload_n 1, 1) := by decide +kernel
theorem dX7_step_10 : decode cX7_step 10 = .ok (.bipush 40, 2) := by decide +kernel
theorem dX7_step_12 : decode cX7_step 12 = .ok (.if_icmp .ge 16, 3) := by decide +kernel
theorem dX7_step_15 : decode cX7_step 15 = .ok (.iload 4, 2) := by decide +kernel
theorem dX7_step_17 : decode cX7_step 17 = .ok (.iconst 1, 1) := by decide +kernel
theorem dX7_step_18 : decode cX7_step 18 = .ok (.if_icmp .lt 10, 3) := by decide +kernel
theorem dX7_step_21 : decode cX7_step 21 = .ok (.iload 4, 2) := by decide +kernel
theorem dX7_step_23 : decode cX7_step 23 = .ok (.bipush 100, 2) := by decide +kernel
theorem dX7_step_25 : decode cX7_step 25 = .ok (.if_icmp .le 5, 3) := by decide +kernel
theorem dX7_step_28 : decode cX7_step 28 = .ok (.iconst 0, 1) := by decide +kernel
theorem dX7_step_29 : decode cX7_step 29 = .ok (.ireturn, 1) := by decide +kernel
theorem dX7_step_30 : decode cX7_step 30 = .ok (.aload_n 0, 1) := by decide +kernel
theorem dX7_step_31 : decode cX7_step 31 = .ok (.getfield 20, 3) := by decide +kernel
theorem dX7_step_34 : decode cX7_step 34 = .ok (.iload_n 1, 1) := by decide +kernel
theorem dX7_step_35 : decode cX7_step 35 = .ok (.baload, 1) := by decide +kernel
theorem dX7_step_36 : decode cX7_step 36 = .ok (.ifCond .ne 31, 3) := by decide +kernel
theorem dX7_step_39 : decode cX7_step 39 = .ok (.aload_n 0, 1) := by decide +kernel
theorem dX7_step_40 : decode cX7_step 40 = .ok (.getfield 20, 3) := by decide +kernel
theorem dX7_step_43 : decode cX7_step 43 = .ok (.iload_n 1, 1) := by decide +kernel
theorem dX7_step_44 : decode cX7_step 44 = .ok (.iconst 1, 1) := by decide +kernel
theorem dX7_step_45 : decode cX7_step 45 = .ok (.bastore, 1) := by decide +kernel
theorem dX7_step_46 : decode cX7_step 46 = .ok (.aload_n 0, 1) := by decide +kernel
theorem dX7_step_47 : decode cX7_step 47 = .ok (.getfield 32, 3) := by decide +kernel
theorem dX7_step_50 : decode cX7_step 50 = .ok (.iload_n 1, 1) := by decide +kernel
theorem dX7_step_51 : decode cX7_step 51 = .ok (.iconst 0, 1) := by decide +kernel
theorem dX7_step_52 : decode cX7_step 52 = .ok (.iastore, 1) := by decide +kernel
theorem dX7_step_53 : decode cX7_step 53 = .ok (.aload_n 0, 1) := by decide +kernel
theorem dX7_step_54 : decode cX7_step 54 = .ok (.getfield 35, 3) := by decide +kernel
theorem dX7_step_57 : decode cX7_step 57 = .ok (.iload_n 1, 1) := by decide +kernel
theorem dX7_step_58 : decode cX7_step 58 = .ok (.iconst 0, 1) := by decide +kernel
theorem dX7_step_59 : decode cX7_step 59 = .ok (.iastore, 1) := by decide +kernel
theorem dX7_step_60 : decode cX7_step 60 = .ok (.aload_n 0, 1) := by decide +kernel
theorem dX7_step_61 : decode cX7_step 61 = .ok (.getfield 44, 3) := by decide +kernel
theorem dX7_step_64 : decode cX7_step 64 = .ok (.iload_n 1, 1) := by decide +kernel
theorem dX7_step_65 : decode cX7_step 65 = .ok (.iconst 0, 1) := by decide +kernel
theorem dX7_step_66 : decode cX7_step 66 = .ok (.bastore, 1) := by decide +kernel
theorem dX7_step_67 : decode cX7_step 67 = .ok (.aload_n 0, 1) := by decide +kernel
theorem dX7_step_68 : decode cX7_step 68 = .ok (.getfield 23, 3) := by decide +kernel
theorem dX7_step_71 : decode cX7_step 71 = .ok (.iload_n 1, 1) := by decide +kernel
theorem dX7_step_72 : decode cX7_step 72 = .ok (.iload_n 2, 1) := by decide +kernel
theorem dX7_step_73 : decode cX7_step 73 = .ok (.iastore, 1) := by decide +kernel
theorem dX7_step_74 : decode cX7_step 74 = .ok (.aload_n 0, 1) := by decide +kernel
theorem dX7_step_75 : decode cX7_step 75 = .ok (.getfield 26, 3) := by decide +kernel
theorem dX7_step_78 : decode cX7_step 78 = .ok (.iload_n 1, 1) := by decide +kernel
theorem dX7_step_79 : decode cX7_step 79 = .ok (.iload_n 3, 1) := by decide +kernel
theorem dX7_step_80 : decode cX7_step 80 = .ok (.iastore, 1) := by decide +kernel
theorem dX7_step_81 : decode cX7_step 81 = .ok (.aload_n 0, 1) := by decide +kernel
theorem dX7_step_82 : decode cX7_step 82 = .ok (.getfield 29, 3) := by decide +kernel
theorem dX7_step_85 : decode cX7_step 85 = .ok (.iload_n 1, 1) := by decide +kernel
theorem dX7_step_86 : decode cX7_step 86 = .ok (.iload 4, 2) := by decide +kernel
theorem dX7_step_88 : decode cX7_step 88 = .ok (.iastore, 1) := by decide +kernel
theorem dX7_step_89 : decode cX7_step 89 = .ok (.iconst 1, 1) := by decide +kernel
theorem dX7_step_90 : decode cX7_step 90 = .ok (.ireturn, 1) := by decide +kernel
theorem dX7_input_0 : decode cX7_input 0 = .ok (.aload_n 0, 1) := by decide +kernel
theorem dX7_input_1 : decode cX7_input 1 = .ok (.iconst 0, 1) := by decide +kernel
theorem dX7_input_2 : decode cX7_input 2 = .ok (.putfield 110, 3) := by decide +kernel
theorem dX7_input_5 : decode cX7_input 5 = .ok (.aload_n 0, 1) := by decide +kernel
theorem dX7_input_6 : decode cX7_input 6 = .ok (.iload_n 1, 1) := by decide +kernel
theorem dX7_input_7 : decode cX7_input 7 = .ok (.invokevirtual 114, 3) := by decide +kernel
theorem dX7_input_10 : decode cX7_input 10 = .ok (.ifCond .eq 21, 3) := by decide +kernel
theorem dX7_input_13 : decode cX7_input 13 = .ok (.iload_n 2, 1) := by decide +kernel
theorem dX7_input_14 : decode cX7_input 14 = .ok (.invokestatic 118, 3) := by decide +kernel
theorem dX7_input_17 : decode cX7_input 17 = .ok (.ifCond .eq 14, 3) := by decide +kernel
theorem dX7_input_20 : decode cX7_input 20 = .ok (.aload_n 0, 1) := by decide +kernel
theorem dX7_input_21 : decode cX7_input 21 = .ok (.getfield 32, 3) := by decide +kernel
theorem dX7_input_24 : decode cX7_input 24 = .ok (.iload_n 1, 1) := by decide +kernel
theorem dX7_input_25 : decode cX7_input 25 = .ok (.iaload, 1) := by decide +kernel
theorem dX7_input_26 : decode cX7_input 26 = .ok (.bipush 6, 2) := by decide +kernel
theorem dX7_input_28 : decode cX7_input 28 = .ok (.if_icmp .ne 5, 3) := by decide +kernel
theorem dX7_input_31 : decode cX7_input 31 = .ok (.iconst 0, 1) := by decide +kernel
theorem dX7_input_32 : decode cX7_input 32 = .ok (.ireturn, 1) := by decide +kernel
theorem dX7_input_33 : decode cX7_input 33 = .ok (.aload_n 0, 1) := by decide +kernel
theorem dX7_input_34 : decode cX7_input 34 = .ok (.getfield 38, 3) := by decide +kernel
theorem dX7_input_37 : decode cX7_input 37 = .ok (.bipush 6, 2) := by decide +kernel
theorem dX7_input_39 : decode cX7_input 39 = .ok (.iload_n 1, 1) := by decide +kernel
theorem dX7_input_40 : decode cX7_input 40 = .ok (.imul, 1) := by decide +kernel
theorem dX7_input_41 : decode cX7_input 41 = .ok (.aload_n 0, 1) := by decide +kernel
theorem dX7_input_42 : decode cX7_input 42 = .ok (.getfield 32, 3) := by decide +kernel
theorem dX7_input_45 : decode cX7_input 45 = .ok (.iload_n 1, 1) := by decide +kernel
theorem dX7_input_46 : decode cX7_input 46 = .ok (.iaload, 1) := by decide +kernel
theorem dX7_input_47 : decode cX7_input 47 = .ok (.iadd, 1) := by decide +kernel
theorem dX7_input_48 : decode cX7_input 48 = .ok (.iload_n 2, 1) := by decide +kernel
theorem dX7_input_49 : decode cX7_input 49 = .ok (.iastore, 1) := by decide +kernel
theorem dX7_input_50 : decode cX7_input 50 = .ok (.aload_n 0, 1) := by decide +kernel
theorem dX7_input_51 : decode cX7_input 51 = .ok (.getfield 32, 3) := by decide +kernel
theorem dX7_input_54 : decode cX7_input 54 = .ok (.iload_n 1, 1) := by decide +kernel
theorem dX7_input_55 : decode cX7_input 55 = .ok (.dup2, 1) := by decide +kernel
theorem dX7_input_56 : decode cX7_input 56 = .ok (.iaload, 1) := by decide +kernel
theorem dX7_input_57 : decode cX7_input 57 = .ok (.iconst 1, 1) := by decide +kernel
theorem dX7_input_58 : decode cX7_input 58 = .ok (.iadd, 1) := by decide +kernel
theorem dX7_input_59 : decode cX7_input 59 = .ok (.iastore, 1) := by decide +kernel
theorem dX7_input_60 : decode cX7_input 60 = .ok (.iconst 1, 1) := by decide +kernel
theorem dX7_input_61 : decode cX7_input 61 = .ok (.ireturn, 1) := by decide +kernel
theorem dX7_output_0 : decode cX7_output 0 = .ok (.aload_n 0, 1) := by decide +kernel
theorem dX7_output_1 : decode cX7_output 1 = .ok (.iconst 0, 1) := by decide +kernel
theorem dX7_output_2 : decode cX7_output 2 = .ok (.putfield 110, 3) := by decide +kernel
theorem dX7_output_5 : decode cX7_output 5 = .ok (.aload_n 0, 1) := by decide +kernel
theorem dX7_output_6 : decode cX7_output 6 = .ok (.iload_n 1, 1) := by decide +kernel
theorem dX7_output_7 : decode cX7_output 7 = .ok (.invokevirtual 114, 3) := by decide +kernel
theorem dX7_output_10 : decode cX7_output 10 = .ok (.ifCond .eq 30, 3) := by decide +kernel
theorem dX7_output_13 : decode cX7_output 13 = .ok (.iload_n 2, 1) := by decide +kernel
theorem dX7_output_14 : decode cX7_output 14 = .ok (.invokestatic 118, 3) := by decide +kernel
theorem dX7_output_17 : decode cX7_output 17 = .ok (.ifCond .eq 23, 3) := by decide +kernel
theorem dX7_output_20 : decode cX7_output 20 = .ok (.aload_n 0, 1) := by decide +kernel
theorem dX7_output_21 : decode cX7_output 21 = .ok (.getfield 17, 3) := by decide +kernel
theorem dX7_output_24 : decode cX7_output 24 = .ok (.iload_n 2, 1) := by decide +kernel
theorem dX7_output_25 : decode cX7_output 25 = .ok (.iaload, 1) := by decide +kernel
theorem dX7_output_26 : decode cX7_output 26 = .ok (.iconst (-1), 1) := by decide +kernel
theorem dX7_output_27 : decode cX7_output 27 = .ok (.if_icmp .ne 13, 3) := by decide +kernel
theorem dX7_output_30 : decode cX7_output 30 = .ok (.aload_n 0, 1) := by decide +kernel
theorem dX7_output_31 : decode cX7_output 31 = .ok (.getfield 35, 3) := by decide +kernel
theorem dX7_output_34 : decode cX7_output 34 = .ok (.iload_n 1, 1) := by decide +kernel
theorem dX7_output_35 : decode cX7_output 35 = .ok (.iaload, 1) := by decide +kernel
theorem dX7_output_36 : decode cX7_output 36 = .ok (.iconst 3, 1) := by decide +kernel
theorem dX7_output_37 : decode cX7_output 37 = .ok (.if_icmp .ne 5, 3) := by decide +kernel
theorem dX7_output_40 : decode cX7_output 40 = .ok (.iconst 0, 1) := by decide +kernel
theorem dX7_output_41 : decode cX7_output 41 = .ok (.ireturn, 1) := by decide +kernel
theorem dX7_output_42 : decode cX7_output 42 = .ok (.aload_n 0, 1) := by decide +kernel
theorem dX7_output_43 : decode cX7_output 43 = .ok (.getfield 41, 3) := by decide +kernel
theorem dX7_output_46 : decode cX7_output 46 = .ok (.iconst 3, 1) := by decide +kernel
theorem dX7_output_47 : decode cX7_output 47 = .ok (.iload_n 1, 1) := by decide +kernel
theorem dX7_output_48 : decode cX7_output 48 = .ok (.imul, 1) := by decide +kernel
theorem dX7_output_49 : decode cX7_output 49 = .ok (.aload_n 0, 1) := by decide +kernel
theorem dX7_output_50 : decode cX7_output 50 = .ok (.getfield 35, 3) := by decide +kernel
theorem dX7_output_53 : decode cX7_output 53 = .ok (.iload_n 1, 1) := by decide +kernel
theorem dX7_output_54 : decode cX7_output 54 = .ok (.iaload, 1) := by decide +kernel
theorem dX7_output_55 : decode cX7_output 55 = .ok (.iadd, 1) := by decide +kernel
theorem dX7_output_56 : decode cX7_output 56 = .ok (.iload_n 2, 1) := by decide +kernel
theorem dX7_output_57 : decode cX7_output 57 = .ok (.iastore, 1) := by decide +kernel
theorem dX7_output_58 : decode cX7_output 58 = .ok (.aload_n 0, 1) := by decide +kernel
theorem dX7_output_59 : decode cX7_output 59 = .ok (.getfield 35, 3) := by decide +kernel
theorem dX7_output_62 : decode cX7_output 62 = .ok (.iload_n 1, 1) := by decide +kernel
theorem dX7_output_63 : decode cX7_output 63 = .ok (.dup2, 1) := by decide +kernel
theorem dX7_output_64 : decode cX7_output 64 = .ok (.iaload, 1) := by decide +kernel
theorem dX7_output_65 : decode cX7_output 65 = .ok (.iconst 1, 1) := by decide +kernel
theorem dX7_output_66 : decode cX7_output 66 = .ok (.iadd, 1) := by decide +kernel
theorem dX7_output_67 : decode cX7_output 67 = .ok (.iastore, 1) := by decide +kernel
theorem dX7_output_68 : decode cX7_output 68 = .ok (.aload_n 0, 1) := by decide +kernel
theorem dX7_output_69 : decode cX7_output 69 = .ok (.getfield 17, 3) := by decide +kernel
theorem dX7_output_72 : decode cX7_output 72 = .ok (.iload_n 2, 1) := by decide +kernel
theorem dX7_output_73 : decode cX7_output 73 = .ok (.iload_n 1, 1) := by decide +kernel
theorem dX7_output_74 : decode cX7_output 74 = .ok (.iastore, 1) := by decide +kernel
theorem dX7_output_75 : decode cX7_output 75 = .ok (.iconst 1, 1) := by decide +kernel
theorem dX7_output_76 : decode cX7_output 76 = .ok (.ireturn, 1) := by decide +kernel
