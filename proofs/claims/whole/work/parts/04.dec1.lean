theorem dX4_measure_0 : decode cX4_measure 0 = .ok (.aload_n 0, 1) := by decide +kernel
theorem dX4_measure_1 : decode cX4_measure 1 = .ok (.getfield 15, 3) := by decide +kernel
theorem dX4_measure_4 : decode cX4_measure 4 = .ok (.iconst 0, 1) := by decide +kernel
theorem dX4_measure_5 : decode cX4_measure 5 = .ok (.iload_n 1, 1) := by decide +kernel
theorem dX4_measure_6 : decode cX4_measure 6 = .ok (.invokestatic 37, 3) := by decide +kernel
theorem dX4_measure_9 : decode cX4_measure 9 = .ok (.lastore, 1) := by decide +kernel
theorem dX4_measure_10 : decode cX4_measure 10 = .ok (.iconst 1, 1) := by decide +kernel
theorem dX4_measure_11 : decode cX4_measure 11 = .ok (.istore_n 3, 1) := by decide +kernel
theorem dX4_measure_12 : decode cX4_measure 12 = .ok (.iload_n 3, 1) := by decide +kernel
theorem dX4_measure_13 : decode cX4_measure 13 = .ok (.bipush 40, 2) := by decide +kernel
theorem dX4_measure_15 : decode cX4_measure 15 = .ok (.if_icmp .gt 42, 3) := by decide +kernel
theorem dX4_measure_18 : decode cX4_measure 18 = .ok (.aload_n 0, 1) := by decide +kernel
theorem dX4_measure_19 : decode cX4_measure 19 = .ok (.getfield 15, 3) := by decide +kernel
theorem dX4_measure_22 : decode cX4_measure 22 = .ok (.iload_n 3, 1) := by decide +kernel
theorem dX4_measure_23 : decode cX4_measure 23 = .ok (.aload_n 2, 1) := by decide +kernel
theorem dX4_measure_24 : decode cX4_measure 24 = .ok (.aload_n 0, 1) := by decide +kernel
theorem dX4_measure_25 : decode cX4_measure 25 = .ok (.getfield 15, 3) := by decide +kernel
theorem dX4_measure_28 : decode cX4_measure 28 = .ok (.iload_n 3, 1) := by decide +kernel
theorem dX4_measure_29 : decode cX4_measure 29 = .ok (.iconst 1, 1) := by decide +kernel
theorem dX4_measure_30 : decode cX4_measure 30 = .ok (.isub, 1) := by decide +kernel
theorem dX4_measure_31 : decode cX4_measure 31 = .ok (.laload, 1) := by decide +kernel
theorem dX4_measure_32 : decode cX4_measure 32 = .ok (.invokevirtual 41, 3) := by decide +kernel
theorem dX4_measure_35 : decode cX4_measure 35 = .ok (.lastore, 1) := by decide +kernel
theorem dX4_measure_36 : decode cX4_measure 36 = .ok (.aload_n 0, 1) := by decide +kernel
theorem dX4_measure_37 : decode cX4_measure 37 = .ok (.getfield 15, 3) := by decide +kernel
theorem dX4_measure_40 : decode cX4_measure 40 = .ok (.iload_n 3, 1) := by decide +kernel
theorem dX4_measure_41 : decode cX4_measure 41 = .ok (.laload, 1) := by decide +kernel
theorem dX4_measure_42 : decode cX4_measure 42 = .ok (.iload_n 1, 1) := by decide +kernel
theorem dX4_measure_43 : decode cX4_measure 43 = .ok (.invokestatic 25, 3) := by decide +kernel
theorem dX4_measure_46 : decode cX4_measure 46 = .ok (.ifCond .eq 5, 3) := by decide +kernel
theorem dX4_measure_49 : decode cX4_measure 49 = .ok (.iload_n 3, 1) := by decide +kernel
theorem dX4_measure_50 : decode cX4_measure 50 = .ok (.ireturn, 1) := by decide +kernel
theorem dX4_measure_51 : decode cX4_measure 51 = .ok (.iinc 3 1, 3) := by decide +kernel
theorem dX4_measure_54 : decode cX4_measure 54 = .ok (.goto (-42), 3) := by decide +kernel
theorem dX4_measure_57 : decode cX4_measure 57 = .ok (.iconst 0, 1) := by decide +kernel
theorem dX4_measure_58 : decode cX4_measure 58 = .ok (.ireturn, 1) := by decide +kernel
theorem dX4_walk_0 : decode cX4_walk 0 = .ok (.iload_n 1, 1) := by decide +kernel
theorem dX4_walk_1 : decode cX4_walk 1 = .ok (.istore 4, 2) := by decide +kernel
theorem dX4_walk_3 : decode cX4_walk 3 = .ok (.iconst 0, 1) := by decide +kernel
theorem dX4_walk_4 : decode cX4_walk 4 = .ok (.istore 5, 2) := by decide +kernel
theorem dX4_walk_6 : decode cX4_walk 6 = .ok (.iload 5, 2) := by decide +kernel
theorem dX4_walk_8 : decode cX4_walk 8 = .ok (.iload_n 2, 1) := by decide +kernel
theorem dX4_walk_9 : decode cX4_walk 9 = .ok (.if_icmp .ge 50, 3) := by decide +kernel
theorem dX4_walk_12 : decode cX4_walk 12 = .ok (.iload 5, 2) := by decide +kernel
theorem dX4_walk_14 : decode cX4_walk 14 = .ok (.bipush 40, 2) := by decide +kernel
theorem dX4_walk_16 : decode cX4_walk 16 = .ok (.if_icmp .ge 43, 3) := by decide +kernel
theorem dX4_walk_19 : decode cX4_walk 19 = .ok (.aload_n 0, 1) := by decide +kernel
theorem dX4_walk_20 : decode cX4_walk 20 = .ok (.getfield 9, 3) := by decide +kernel
theorem dX4_walk_23 : decode cX4_walk 23 = .ok (.iload 5, 2) := by decide +kernel
theorem dX4_walk_25 : decode cX4_walk 25 = .ok (.iload 4, 2) := by decide +kernel
theorem dX4_walk_27 : decode cX4_walk 27 = .ok (.iastore, 1) := by decide +kernel
theorem dX4_walk_28 : decode cX4_walk 28 = .ok (.aload_n 3, 1) := by decide +kernel
theorem dX4_walk_29 : decode cX4_walk 29 = .ok (.getfield 45, 3) := by decide +kernel
theorem dX4_walk_32 : decode cX4_walk 32 = .ok (.iload 4, 2) := by decide +kernel
theorem dX4_walk_34 : decode cX4_walk 34 = .ok (.laload, 1) := by decide +kernel
theorem dX4_walk_35 : decode cX4_walk 35 = .ok (.aload_n 0, 1) := by decide +kernel
theorem dX4_walk_36 : decode cX4_walk 36 = .ok (.getfield 15, 3) := by decide +kernel
theorem dX4_walk_39 : decode cX4_walk 39 = .ok (.iload_n 2, 1) := by decide +kernel
theorem dX4_walk_40 : decode cX4_walk 40 = .ok (.iload 5, 2) := by decide +kernel
theorem dX4_walk_42 : decode cX4_walk 42 = .ok (.isub, 1) := by decide +kernel
theorem dX4_walk_43 : decode cX4_walk 43 = .ok (.iconst 1, 1) := by decide +kernel
theorem dX4_walk_44 : decode cX4_walk 44 = .ok (.isub, 1) := by decide +kernel
theorem dX4_walk_45 : decode cX4_walk 45 = .ok (.laload, 1) := by decide +kernel
theorem dX4_walk_46 : decode cX4_walk 46 = .ok (.land, 1) := by decide +kernel
theorem dX4_walk_47 : decode cX4_walk 47 = .ok (.iload_n 1, 1) := by decide +kernel
theorem dX4_walk_48 : decode cX4_walk 48 = .ok (.invokestatic 48, 3) := by decide +kernel
theorem dX4_walk_51 : decode cX4_walk 51 = .ok (.istore 4, 2) := by decide +kernel
theorem dX4_walk_53 : decode cX4_walk 53 = .ok (.iinc 5 1, 3) := by decide +kernel
theorem dX4_walk_56 : decode cX4_walk 56 = .ok (.goto (-50), 3) := by decide +kernel
theorem dX4_walk_59 : decode cX4_walk 59 = .ok (.aload_n 0, 1) := by decide +kernel
theorem dX4_walk_60 : decode cX4_walk 60 = .ok (.iload_n 2, 1) := by decide +kernel
theorem dX4_walk_61 : decode cX4_walk 61 = .ok (.putfield 52, 3) := by decide +kernel
theorem dX4_walk_64 : decode cX4_walk 64 = .ok (.return_, 1) := by decide +kernel
theorem dX4_least_0 : decode cX4_least 0 = .ok (.iconst 0, 1) := by decide +kernel
theorem dX4_least_1 : decode cX4_least 1 = .ok (.istore_n 3, 1) := by decide +kernel
theorem dX4_least_2 : decode cX4_least 2 = .ok (.iload_n 3, 1) := by decide +kernel
theorem dX4_least_3 : decode cX4_least 3 = .ok (.bipush 40, 2) := by decide +kernel
theorem dX4_least_5 : decode cX4_least 5 = .ok (.if_icmp .ge 19, 3) := by decide +kernel
theorem dX4_least_8 : decode cX4_least 8 = .ok (.lload_n 0, 1) := by decide +kernel
theorem dX4_least_9 : decode cX4_least 9 = .ok (.iload_n 3, 1) := by decide +kernel
theorem dX4_least_10 : decode cX4_least 10 = .ok (.invokestatic 25, 3) := by decide +kernel
theorem dX4_least_13 : decode cX4_least 13 = .ok (.ifCond .eq 5, 3) := by decide +kernel
theorem dX4_least_16 : decode cX4_least 16 = .ok (.iload_n 3, 1) := by decide +kernel
theorem dX4_least_17 : decode cX4_least 17 = .ok (.ireturn, 1) := by decide +kernel
theorem dX4_least_18 : decode cX4_least 18 = .ok (.iinc 3 1, 3) := by decide +kernel
theorem dX4_least_21 : decode cX4_least 21 = .ok (.goto (-19), 3) := by decide +kernel
theorem dX4_least_24 : decode cX4_least 24 = .ok (.iload_n 2, 1) := by decide +kernel
theorem dX4_least_25 : decode cX4_least 25 = .ok (.ireturn, 1) := by decide +kernel
theorem dX5_init_0 : decode cX5_init 0 = .ok (.aload_n 0, 1) := by decide +kernel
theorem dX5_init_1 : decode cX5_init 1 = .ok (.invokespecial 3, 3) := by decide +kernel
theorem dX5_init_4 : decode cX5_init 4 = .ok (.aload_n 0, 1) := by decide +kernel
theorem dX5_init_5 : decode cX5_init 5 = .ok (.bipush 6, 2) := by decide +kernel
theorem dX5_init_7 : decode cX5_init 7 = .ok (.newarray .int, 2) := by decide +kernel
theorem dX5_init_9 : decode cX5_init 9 = .ok (.putfield 9, 3) := by decide +kernel
theorem dX5_init_12 : decode cX5_init 12 = .ok (.aload_n 0, 1) := by decide +kernel
theorem dX5_init_13 : decode cX5_init 13 = .ok (.iconst 3, 1) := by decide +kernel
theorem dX5_init_14 : decode cX5_init 14 = .ok (.newarray .int, 2) := by decide +kernel
theorem dX5_init_16 : decode cX5_init 16 = .ok (.putfield 15, 3) := by decide +kernel
theorem dX5_init_19 : decode cX5_init 19 = .ok (.aload_n 0, 1) := by decide +kernel
theorem dX5_init_20 : decode cX5_init 20 = .ok (.bipush 6, 2) := by decide +kernel
theorem dX5_init_22 : decode cX5_init 22 = .ok (.newarray .int, 2) := by decide +kernel
theorem dX5_init_24 : decode cX5_init 24 = .ok (.putfield 18, 3) := by decide +kernel
theorem dX5_init_27 : decode cX5_init 27 = .ok (.return_, 1) := by decide +kernel
theorem dX5_tell_0 : decode cX5_tell 0 = .ok (.aload_n 0, 1) := by decide +kernel
theorem dX5_tell_1 : decode cX5_tell 1 = .ok (.iconst 1, 1) := by decide +kernel
theorem dX5_tell_2 : decode cX5_tell 2 = .ok (.putfield 21, 3) := by decide +kernel
theorem dX5_tell_5 : decode cX5_tell 5 = .ok (.aload_n 0, 1) := by decide +kernel
theorem dX5_tell_6 : decode cX5_tell 6 = .ok (.iload_n 1, 1) := by decide +kernel
theorem dX5_tell_7 : decode cX5_tell 7 = .ok (.putfield 25, 3) := by decide +kernel
theorem dX5_tell_10 : decode cX5_tell 10 = .ok (.aload_n 0, 1) := by decide +kernel
theorem dX5_tell_11 : decode cX5_tell 11 = .ok (.iload_n 2, 1) := by decide +kernel
theorem dX5_tell_12 : decode cX5_tell 12 = .ok (.putfield 29, 3) := by decide +kernel
theorem dX5_tell_15 : decode cX5_tell 15 = .ok (.aload_n 0, 1) := by decide +kernel
theorem dX5_tell_16 : decode cX5_tell 16 = .ok (.iload_n 3, 1) := by decide +kernel
theorem dX5_tell_17 : decode cX5_tell 17 = .ok (.putfield 32, 3) := by decide +kernel
theorem dX5_tell_20 : decode cX5_tell 20 = .ok (.return_, 1) := by decide +kernel
theorem dX5_addInput_0 : decode cX5_addInput 0 = .ok (.aload_n 0, 1) := by decide +kernel
theorem dX5_addInput_1 : decode cX5_addInput 1 = .ok (.getfield 35, 3) := by decide +kernel
theorem dX5_addInput_4 : decode cX5_addInput 4 = .ok (.bipush 6, 2) := by decide +kernel
theorem dX5_addInput_6 : decode cX5_addInput 6 = .ok (.if_icmp .lt 5, 3) := by decide +kernel
theorem dX5_addInput_9 : decode cX5_addInput 9 = .ok (.iconst 0, 1) := by decide +kernel
theorem dX5_addInput_10 : decode cX5_addInput 10 = .ok (.ireturn, 1) := by decide +kernel
theorem dX5_addInput_11 : decode cX5_addInput 11 = .ok (.aload_n 0, 1) := by decide +kernel
theorem dX5_addInput_12 : decode cX5_addInput 12 = .ok (.getfield 9, 3) := by decide +kernel
theorem dX5_addInput_15 : decode cX5_addInput 15 = .ok (.aload_n 0, 1) := by decide +kernel
theorem dX5_addInput_16 : decode cX5_addInput 16 = .ok (.getfield 35, 3) := by decide +kernel
theorem dX5_addInput_19 : decode cX5_addInput 19 = .ok (.iload_n 1, 1) := by decide +kernel
theorem dX5_addInput_20 : decode cX5_addInput 20 = .ok (.iastore, 1) := by decide +kernel
theorem dX5_addInput_21 : decode cX5_addInput 21 = .ok (.aload_n 0, 1) := by decide +kernel
theorem dX5_addInput_22 : decode cX5_addInput 22 = .ok (.dup, 1) := by decide +kernel
theorem dX5_addInput_23 : decode cX5_addInput 23 = .ok (.getfield 35, 3) := by decide +kernel
theorem dX5_addInput_26 : decode cX5_addInput 26 = .ok (.iconst 1, 1) := by decide +kernel
theorem dX5_addInput_27 : decode cX5_addInput 27 = .ok (.iadd, 1) := by decide +kernel
theorem dX5_addInput_28 : decode cX5_addInput 28 = .ok (.putfield 35, 3) := by decide +kernel
theorem dX5_addInput_31 : decode cX5_addInput 31 = .ok (.iconst 1, 1) := by decide +kernel
theorem dX5_addInput_32 : decode cX5_addInput 32 = .ok (.ireturn, 1) := by decide +kernel
theorem dX5_addOutput_0 : decode cX5_addOutput 0 = .ok (.aload_n 0, 1) := by decide +kernel
theorem dX5_addOutput_1 : decode cX5_addOutput 1 = .ok (.getfield 38, 3) := by decide +kernel
theorem dX5_addOutput_4 : decode cX5_addOutput 4 = .ok (.iconst 3, 1) := by decide +kernel
theorem dX5_addOutput_5 : decode cX5_addOutput 5 = .ok (.if_icmp .lt 5, 3) := by decide +kernel
theorem dX5_addOutput_8 : decode cX5_addOutput 8 = .ok (.iconst 0, 1) := by decide +kernel
theorem dX5_addOutput_9 : decode cX5_addOutput 9 = .ok (.ireturn, 1) := by decide +kernel
theorem dX5_addOutput_10 : decode cX5_addOutput 10 = .ok (.aload_n 0, 1) := by decide +kernel
theorem dX5_addOutput_11 : decode cX5_addOutput 11 = .ok (.getfield 15, 3) := by decide +kernel
theorem dX5_addOutput_14 : decode cX5_addOutput 14 = .ok (.aload_n 0, 1) := by decide +kernel
theorem dX5_addOutput_15 : decode cX5_addOutput 15 = .ok (.getfield 38, 3) := by decide +kernel
theorem dX5_addOutput_18 : decode cX5_addOutput 18 = .ok (.iload_n 1, 1) := by decide +kernel
theorem dX5_addOutput_19 : decode cX5_addOutput 19 = .ok (.iastore, 1) := by decide +kernel
theorem dX5_addOutput_20 : decode cX5_addOutput 20 = .ok (.aload_n 0, 1) := by decide +kernel
theorem dX5_addOutput_21 : decode cX5_addOutput 21 = .ok (.dup, 1) := by decide +kernel
theorem dX5_addOutput_22 : decode cX5_addOutput 22 = .ok (.getfield 38, 3) := by decide +kernel
theorem dX5_addOutput_25 : decode cX5_addOutput 25 = .ok (.iconst 1, 1) := by decide +kernel
theorem dX5_addOutput_26 : decode cX5_addOutput 26 = .ok (.iadd, 1) := by decide +kernel
theorem dX5_addOutput_27 : decode cX5_addOutput 27 = .ok (.putfield 38, 3) := by decide +kernel
theorem dX5_addOutput_30 : decode cX5_addOutput 30 = .ok (.iconst 1, 1) := by decide +kernel
theorem dX5_addOutput_31 : decode cX5_addOutput 31 = .ok (.ireturn, 1) := by decide +kernel
theorem dX5_leave_0 : decode cX5_leave 0 = .ok (.iconst 0, 1) := by decide +kernel
theorem dX5_leave_1 : decode cX5_leave 1 = .ok (.istore_n 2, 1) := by decide +kernel
theorem dX5_leave_2 : decode cX5_leave 2 = .ok (.iload_n 2, 1) := by decide +kernel
theorem dX5_leave_3 : decode cX5_leave 3 = .ok (.aload_n 0, 1) := by decide +kernel
theorem dX5_leave_4 : decode cX5_leave 4 = .ok (.getfield 38, 3) := by decide +kernel
theorem dX5_leave_7 : decode cX5_leave 7 = .ok (.if_icmp .ge 20, 3) := by decide +kernel
theorem dX5_leave_10 : decode cX5_leave 10 = .ok (.aload_n 1, 1) := by decide +kernel
theorem dX5_leave_11 : decode cX5_leave 11 = .ok (.aload_n 0, 1) := by decide +kernel
theorem dX5_leave_12 : decode cX5_leave 12 = .ok (.getfield 15, 3) := by decide +kernel
theorem dX5_leave_15 : decode cX5_leave 15 = .ok (.iload_n 2, 1) := by decide +kernel
theorem dX5_leave_16 : decode cX5_leave 16 = .ok (.iaload, 1) := by decide +kernel
theorem dX5_leave_17 : decode cX5_leave 17 = .ok (.iconst (-1), 1) := by decide +kernel
theorem dX5_leave_18 : decode cX5_leave 18 = .ok (.invokevirtual 41, 3) := by decide +kernel
theorem dX5_leave_21 : decode cX5_leave 21 = .ok (.iinc 2 1, 3) := by decide +kernel
theorem dX5_leave_24 : decode cX5_leave 24 = .ok (.goto (-22), 3) := by decide +kernel
theorem dX5_leave_27 : decode cX5_leave 27 = .ok (.aload_n 0, 1) := by decide +kernel
theorem dX5_leave_28 : decode cX5_leave 28 = .ok (.iconst 0, 1) := by decide +kernel
theorem dX5_leave_29 : decode cX5_leave 29 = .ok (.putfield 21, 3) := by decide +kernel
theorem dX5_leave_32 : decode cX5_leave 32 = .ok (.aload_n 0, 1) := by decide +kernel
theorem dX5_leave_33 : decode cX5_leave 33 = .ok (.iconst 0, 1) := by decide +kernel
theorem dX5_leave_34 : decode cX5_leave 34 = .ok (.putfield 47, 3) := by decide +kernel
theorem dX5_leave_37 : decode cX5_leave 37 = .ok (.aload_n 0, 1) := by decide +kernel
theorem dX5_leave_38 : decode cX5_leave 38 = .ok (.iconst 0, 1) := by decide +kernel
theorem dX5_leave_39 : decode cX5_leave 39 = .ok (.putfield 35, 3) := by decide +kernel
theorem dX5_leave_42 : decode cX5_leave 42 = .ok (.aload_n 0, 1) := by decide +kernel
theorem dX5_leave_43 : decode cX5_leave 43 = .ok (.iconst 0, 1) := by decide +kernel
theorem dX5_leave_44 : decode cX5_leave 44 = .ok (.putfield 38, 3) := by decide +kernel
theorem dX5_leave_47 : decode cX5_leave 47 = .ok (.return_, 1) := by decide +kernel
theorem dX5_waitsFor_0 : decode cX5_waitsFor 0 = .ok (.lconst 0, 1) := by decide +kernel
theorem dX5_waitsFor_1 : decode cX5_waitsFor 1 = .ok (.lstore_n 2, 1) := by decide +kernel
theorem dX5_waitsFor_2 : decode cX5_waitsFor 2 = .ok (.iconst 0, 1) := by decide +kernel
theorem dX5_waitsFor_3 : decode cX5_waitsFor 3 = .ok (.istore 4, 2) := by decide +kernel
theorem dX5_waitsFor_5 : decode cX5_waitsFor 5 = .ok (.iload 4, 2) := by decide +kernel
theorem dX5_waitsFor_7 : decode cX5_waitsFor 7 = .ok (.aload_n 0, 1) := by decide +kernel
theorem dX5_waitsFor_8 : decode cX5_waitsFor 8 = .ok (.getfield 35, 3) := by decide +kernel
theorem dX5_waitsFor_11 : decode cX5_waitsFor 11 = .ok (.if_icmp .ge 36, 3) := by decide +kernel
theorem dX5_waitsFor_14 : decode cX5_waitsFor 14 = .ok (.aload_n 1, 1) := by decide +kernel
theorem dX5_waitsFor_15 : decode cX5_waitsFor 15 = .ok (.aload_n 0, 1) := by decide +kernel
theorem dX5_waitsFor_16 : decode cX5_waitsFor 16 = .ok (.getfield 9, 3) := by decide +kernel
theorem dX5_waitsFor_19 : decode cX5_waitsFor 19 = .ok (.iload 4, 2) := by decide +kernel
theorem dX5_waitsFor_21 : decode cX5_waitsFor 21 = .ok (.iaload, 1) := by decide +kernel
theorem dX5_waitsFor_22 : decode cX5_waitsFor 22 = .ok (.invokevirtual 50, 3) := by decide +kernel
theorem dX5_waitsFor_25 : decode cX5_waitsFor 25 = .ok (.istore 5, 2) := by decide +kernel
theorem dX5_waitsFor_27 : decode cX5_waitsFor 27 = .ok (.iload 5, 2) := by decide +kernel
theorem dX5_waitsFor_29 : decode cX5_waitsFor 29 = .ok (.iconst (-1), 1) := by decide +kernel
theorem dX5_waitsFor_30 : decode cX5_waitsFor 30 = .ok (.if_icmp .eq 11, 3) := by decide +kernel
theorem dX5_waitsFor_33 : decode cX5_waitsFor 33 = .ok (.lload_n 2, 1) := by decide +kernel
theorem dX5_waitsFor_34 : decode cX5_waitsFor 34 = .ok (.iload 5, 2) := by decide +kernel
theorem dX5_waitsFor_36 : decode cX5_waitsFor 36 = .ok (.invokestatic 54, 3) := by decide +kernel
theorem dX5_waitsFor_39 : decode cX5_waitsFor 39 = .ok (.lor, 1) := by decide +kernel
theorem dX5_waitsFor_40 : decode cX5_waitsFor 40 = .ok (.lstore_n 2, 1) := by decide +kernel
theorem dX5_waitsFor_41 : decode cX5_waitsFor 41 = .ok (.iinc 4 1, 3) := by decide +kernel
theorem dX5_waitsFor_44 : decode cX5_waitsFor 44 = .ok (.goto (-39), 3) := by decide +kernel
theorem dX5_waitsFor_47 : decode cX5_waitsFor 47 = .ok (.lload_n 2, 1) := by decide +kernel
theorem dX5_waitsFor_48 : decode cX5_waitsFor 48 = .ok (.lreturn, 1) := by decide +kernel
theorem dX5_lacksSource_0 : decode cX5_lacksSource 0 = .ok (.iconst 0, 1) := by decide +kernel
theorem dX5_lacksSource_1 : decode cX5_lacksSource 1 = .ok (.istore_n 2, 1) := by decide +kernel
theorem dX5_lacksSource_2 : decode cX5_lacksSource 2 = .ok (.iload_n 2, 1) := by decide +kernel
theorem dX5_lacksSource_3 : decode cX5_lacksSource 3 = .ok (.aload_n 0, 1) := by decide +kernel
theorem dX5_lacksSource_4 : decode cX5_lacksSource 4 = .ok (.getfield 35, 3) := by decide +kernel
theorem dX5_lacksSource_7 : decode cX5_lacksSource 7 = .ok (.if_icmp .ge 24, 3) := by decide +kernel
theorem dX5_lacksSource_10 : decode cX5_lacksSource 10 = .ok (.aload_n 1, 1) := by decide +kernel
theorem dX5_lacksSource_11 : decode cX5_lacksSource 11 = .ok (.aload_n 0, 1) := by decide +kernel
theorem dX5_lacksSource_12 : decode cX5_lacksSource 12 = .ok (.getfield 9, 3) := by decide +kernel
theorem dX5_lacksSource_15 : decode cX5_lacksSource 15 = .ok (.iload_n 2, 1) := by decide +kernel
theorem dX5_lacksSource_16 : decode cX5_lacksSource 16 = .ok (.iaload, 1) := by decide +kernel
theorem dX5_lacksSource_17 : decode cX5_lacksSource 17 = .ok (.invokevirtual 58, 3) := by decide +kernel
theorem dX5_lacksSource_20 : decode cX5_lacksSource 20 = .ok (.ifCond .eq 5, 3) := by decide +kernel
theorem dX5_lacksSource_23 : decode cX5_lacksSource 23 = .ok (.iconst 1, 1) := by decide +kernel
theorem dX5_lacksSource_24 : decode cX5_lacksSource 24 = .ok (.ireturn, 1) := by decide +kernel
theorem dX5_lacksSource_25 : decode cX5_lacksSource 25 = .ok (.iinc 2 1, 3) := by decide +kernel
theorem dX5_lacksSource_28 : decode cX5_lacksSource 28 = .ok (.goto (-26), 3) := by decide +kernel
theorem dX5_lacksSource_31 : decode cX5_lacksSource 31 = .ok (.iconst 0, 1) := by decide +kernel
theorem dX5_lacksSource_32 : decode cX5_lacksSource 32 = .ok (.ireturn, 1) := by decide +kernel
theorem dX5_whyDue_0 : decode cX5_whyDue 0 = .ok (.aload_n 0, 1) := by decide +kernel
theorem dX5_whyDue_1 : decode cX5_whyDue 1 = .ok (.getfield 47, 3) := by decide +kernel
theorem dX5_whyDue_4 : decode cX5_whyDue 4 = .ok (.ifCond .ne 5, 3) := by decide +kernel
theorem dX5_whyDue_7 : decode cX5_whyDue 7 = .ok (.iconst 1, 1) := by decide +kernel
theorem dX5_whyDue_8 : decode cX5_whyDue 8 = .ok (.ireturn, 1) := by decide +kernel
theorem dX5_whyDue_9 : decode cX5_whyDue 9 = .ok (.aload_n 0, 1) := by decide +kernel
theorem dX5_whyDue_10 : decode cX5_whyDue 10 = .ok (.invokevirtual 62, 3) := by decide +kernel
theorem dX5_whyDue_13 : decode cX5_whyDue 13 = .ok (.ifCond .eq 5, 3) := by decide +kernel
theorem dX5_whyDue_16 : decode cX5_whyDue 16 = .ok (.iconst 2, 1) := by decide +kernel
theorem dX5_whyDue_17 : decode cX5_whyDue 17 = .ok (.ireturn, 1) := by decide +kernel
theorem dX5_whyDue_18 : decode cX5_whyDue 18 = .ok (.aload_n 0, 1) := by decide +kernel
theorem dX5_whyDue_19 : decode cX5_whyDue 19 = .ok (.aload_n 1, 1) := by decide +kernel
theorem dX5_whyDue_20 : decode cX5_whyDue 20 = .ok (.invokevirtual 66, 3) := by decide +kernel
theorem dX5_whyDue_23 : decode cX5_whyDue 23 = .ok (.ifCond .eq 5, 3) := by decide +kernel
theorem dX5_whyDue_26 : decode cX5_whyDue 26 = .ok (.iconst 3, 1) := by decide +kernel
theorem dX5_whyDue_27 : decode cX5_whyDue 27 = .ok (.ireturn, 1) := by decide +kernel
theorem dX5_whyDue_28 : decode cX5_whyDue 28 = .ok (.aload_n 0, 1) := by decide +kernel
theorem dX5_whyDue_29 : decode cX5_whyDue 29 = .ok (.aload_n 1, 1) := by decide +kernel
theorem dX5_whyDue_30 : decode cX5_whyDue 30 = .ok (.invokevirtual 70, 3) := by decide +kernel
theorem dX5_whyDue_33 : decode cX5_whyDue 33 = .ok (.ifCond .eq 7, 3) := by decide +kernel
theorem dX5_whyDue_36 : decode cX5_whyDue 36 = .ok (.iconst 4, 1) := by decide +kernel
theorem dX5_whyDue_37 : decode cX5_whyDue 37 = .ok (.goto 4, 3) := by decide +kernel
theorem dX5_whyDue_40 : decode cX5_whyDue 40 = .ok (.iconst 0, 1) := by decide +kernel
theorem dX5_whyDue_41 : decode cX5_whyDue 41 = .ok (.ireturn, 1) := by decide +kernel
theorem dX5_isToldOtherwise_0 : decode cX5_isToldOtherwise 0 = .ok (.aload_n 0, 1) := by decide +kernel
theorem dX5_isToldOtherwise_1 : decode cX5_isToldOtherwise 1 = .ok (.getfield 25, 3) := by decide +kernel
theorem dX5_isToldOtherwise_4 : decode cX5_isToldOtherwise 4 = .ok (.aload_n 0, 1) := by decide +kernel
theorem dX5_isToldOtherwise_5 : decode cX5_isToldOtherwise 5 = .ok (.getfield 73, 3) := by decide +kernel
theorem dX5_isToldOtherwise_8 : decode cX5_isToldOtherwise 8 = .ok (.if_icmp .ne 36, 3) := by decide +kernel
theorem dX5_isToldOtherwise_11 : decode cX5_isToldOtherwise 11 = .ok (.aload_n 0, 1) := by decide +kernel
theorem dX5_isToldOtherwise_12 : decode cX5_isToldOtherwise 12 = .ok (.getfield 29, 3) := by decide +kernel
theorem dX5_isToldOtherwise_15 : decode cX5_isToldOtherwise 15 = .ok (.aload_n 0, 1) := by decide +kernel
theorem dX5_isToldOtherwise_16 : decode cX5_isToldOtherwise 16 = .ok (.getfield 76, 3) := by decide +kernel
theorem dX5_isToldOtherwise_19 : decode cX5_isToldOtherwise 19 = .ok (.if_icmp .ne 25, 3) := by decide +kernel
theorem dX5_isToldOtherwise_22 : decode cX5_isToldOtherwise 22 = .ok (.aload_n 0, 1) := by decide +kernel
theorem dX5_isToldOtherwise_23 : decode cX5_isToldOtherwise 23 = .ok (.getfield 35, 3) := by decide +kernel
theorem dX5_isToldOtherwise_26 : decode cX5_isToldOtherwise 26 = .ok (.aload_n 0, 1) := by decide +kernel
theorem dX5_isToldOtherwise_27 : decode cX5_isToldOtherwise 27 = .ok (.getfield 79, 3) := by decide +kernel
theorem dX5_isToldOtherwise_30 : decode cX5_isToldOtherwise 30 = .ok (.if_icmp .ne 14, 3) := by decide +kernel
theorem dX5_isToldOtherwise_33 : decode cX5_isToldOtherwise 33 = .ok (.aload_n 0, 1) := by decide +kernel
theorem dX5_isToldOtherwise_34 : decode cX5_isToldOtherwise 34 = .ok (.getfield 38, 3) := by decide +kernel
theorem dX5_isToldOtherwise_37 : decode cX5_isToldOtherwise 37 = .ok (.aload_n 0, 1) := by decide +kernel
theorem dX5_isToldOtherwise_38 : decode cX5_isToldOtherwise 38 = .ok (.getfield 82, 3) := by decide +kernel
theorem dX5_isToldOtherwise_41 : decode cX5_isToldOtherwise 41 = .ok (.if_icmp .eq 7, 3) := by decide +kernel
theorem dX5_isToldOtherwise_44 : decode cX5_isToldOtherwise 44 = .ok (.iconst 1, 1) := by decide +kernel
theorem dX5_isToldOtherwise_45 : decode cX5_isToldOtherwise 45 = .ok (.goto 4, 3) := by decide +kernel
theorem dX5_isToldOtherwise_48 : decode cX5_isToldOtherwise 48 = .ok (.iconst 0, 1) := by decide +kernel
theorem dX5_isToldOtherwise_49 : decode cX5_isToldOtherwise 49 = .ok (.ireturn, 1) := by decide +kernel
theorem dX5_outputLacks_0 : decode cX5_outputLacks 0 = .ok (.iconst 0, 1) := by decide +kernel
theorem dX5_outputLacks_1 : decode cX5_outputLacks 1 = .ok (.istore_n 2, 1) := by decide +kernel
theorem dX5_outputLacks_2 : decode cX5_outputLacks 2 = .ok (.iload_n 2, 1) := by decide +kernel
theorem dX5_outputLacks_3 : decode cX5_outputLacks 3 = .ok (.aload_n 0, 1) := by decide +kernel
theorem dX5_outputLacks_4 : decode cX5_outputLacks 4 = .ok (.getfield 38, 3) := by decide +kernel
theorem dX5_outputLacks_7 : decode cX5_outputLacks 7 = .ok (.if_icmp .ge 24, 3) := by decide +kernel
theorem dX5_outputLacks_10 : decode cX5_outputLacks 10 = .ok (.aload_n 1, 1) := by decide +kernel
theorem dX5_outputLacks_11 : decode cX5_outputLacks 11 = .ok (.aload_n 0, 1) := by decide +kernel
theorem dX5_outputLacks_12 : decode cX5_outputLacks 12 = .ok (.getfield 15, 3) := by decide +kernel
theorem dX5_outputLacks_15 : decode cX5_outputLacks 15 = .ok (.iload_n 2, 1) := by decide +kernel
theorem dX5_outputLacks_16 : decode cX5_outputLacks 16 = .ok (.iaload, 1) := by decide +kernel
theorem dX5_outputLacks_17 : decode cX5_outputLacks 17 = .ok (.invokevirtual 85, 3) := by decide +kernel
theorem dX5_outputLacks_20 : decode cX5_outputLacks 20 = .ok (.ifCond .ne 5, 3) := by decide +kernel
theorem dX5_outputLacks_23 : decode cX5_outputLacks 23 = .ok (.iconst 1, 1) := by decide +kernel
theorem dX5_outputLacks_24 : decode cX5_outputLacks 24 = .ok (.ireturn, 1) := by decide +kernel
theorem dX5_outputLacks_25 : decode cX5_outputLacks 25 = .ok (.iinc 2 1, 3) := by decide +kernel
theorem dX5_outputLacks_28 : decode cX5_outputLacks 28 = .ok (.goto (-26), 3) := by decide +kernel
theorem dX5_outputLacks_31 : decode cX5_outputLacks 31 = .ok (.iconst 0, 1) := by decide +kernel
theorem dX5_outputLacks_32 : decode cX5_outputLacks 32 = .ok (.ireturn, 1) := by decide +kernel
theorem dX5_inputDiffers_0 : decode cX5_inputDiffers 0 = .ok (.iconst 0, 1) := by decide +kernel
theorem dX5_inputDiffers_1 : decode cX5_inputDiffers 1 = .ok (.istore_n 2, 1) := by decide +kernel
theorem dX5_inputDiffers_2 : decode cX5_inputDiffers 2 = .ok (.iload_n 2, 1) := by decide +kernel
theorem dX5_inputDiffers_3 : decode cX5_inputDiffers 3 = .ok (.aload_n 0, 1) := by decide +kernel
theorem dX5_inputDiffers_4 : decode cX5_inputDiffers 4 = .ok (.getfield 35, 3) := by decide +kernel
theorem dX5_inputDiffers_7 : decode cX5_inputDiffers 7 = .ok (.if_icmp .ge 40, 3) := by decide +kernel
theorem dX5_inputDiffers_10 : decode cX5_inputDiffers 10 = .ok (.aload_n 0, 1) := by decide +kernel
theorem dX5_inputDiffers_11 : decode cX5_inputDiffers 11 = .ok (.getfield 9, 3) := by decide +kernel
theorem dX5_inputDiffers_14 : decode cX5_inputDiffers 14 = .ok (.iload_n 2, 1) := by decide +kernel
theorem dX5_inputDiffers_15 : decode cX5_inputDiffers 15 = .ok (.iaload, 1) := by decide +kernel
theorem dX5_inputDiffers_16 : decode cX5_inputDiffers 16 = .ok (.istore_n 3, 1) := by decide +kernel
theorem dX5_inputDiffers_17 : decode cX5_inputDiffers 17 = .ok (.aload_n 1, 1) := by decide +kernel
theorem dX5_inputDiffers_18 : decode cX5_inputDiffers 18 = .ok (.iload_n 3, 1) := by decide +kernel
theorem dX5_inputDiffers_19 : decode cX5_inputDiffers 19 = .ok (.invokevirtual 85, 3) := by decide +kernel
theorem dX5_inputDiffers_22 : decode cX5_inputDiffers 22 = .ok (.ifCond .eq 17, 3) := by decide +kernel
theorem dX5_inputDiffers_25 : decode cX5_inputDiffers 25 = .ok (.aload_n 1, 1) := by decide +kernel
theorem dX5_inputDiffers_26 : decode cX5_inputDiffers 26 = .ok (.iload_n 3, 1) := by decide +kernel
theorem dX5_inputDiffers_27 : decode cX5_inputDiffers 27 = .ok (.invokevirtual 88, 3) := by decide +kernel
theorem dX5_inputDiffers_30 : decode cX5_inputDiffers 30 = .ok (.aload_n 0, 1) := by decide +kernel
theorem dX5_inputDiffers_31 : decode cX5_inputDiffers 31 = .ok (.getfield 18, 3) := by decide +kernel
theorem dX5_inputDiffers_34 : decode cX5_inputDiffers 34 = .ok (.iload_n 2, 1) := by decide +kernel
theorem dX5_inputDiffers_35 : decode cX5_inputDiffers 35 = .ok (.iaload, 1) := by decide +kernel
theorem dX5_inputDiffers_36 : decode cX5_inputDiffers 36 = .ok (.if_icmp .eq 5, 3) := by decide +kernel
theorem dX5_inputDiffers_39 : decode cX5_inputDiffers 39 = .ok (.iconst 1, 1) := by decide +kernel
theorem dX5_inputDiffers_40 : decode cX5_inputDiffers 40 = .ok (.ireturn, 1) := by decide +kernel
theorem dX5_inputDiffers_41 : decode cX5_inputDiffers 41 = .ok (.iinc 2 1, 3) := by decide +kernel
theorem dX5_inputDiffers_44 : decode cX5_inputDiffers 44 = .ok (.goto (-42), 3) := by decide +kernel
theorem dX5_inputDiffers_47 : decode cX5_inputDiffers 47 = .ok (.iconst 0, 1) := by decide +kernel
theorem dX5_inputDiffers_48 : decode cX5_inputDiffers 48 = .ok (.ireturn, 1) := by decide +kernel
theorem dX5_make_0 : decode cX5_make 0 = .ok (.aload_n 0, 1) := by decide +kernel
theorem dX5_make_1 : decode cX5_make 1 = .ok (.getfield 25, 3) := by decide +kernel
theorem dX5_make_4 : decode cX5_make 4 = .ok (.istore_n 2, 1) := by decide +kernel
theorem dX5_make_5 : decode cX5_make 5 = .ok (.iconst 0, 1) := by decide +kernel
theorem dX5_make_6 : decode cX5_make 6 = .ok (.istore_n 3, 1) := by decide +kernel
theorem dX5_make_7 : decode cX5_make 7 = .ok (.iload_n 3, 1) := by decide +kernel
theorem dX5_make_8 : decode cX5_make 8 = .ok (.aload_n 0, 1) := by decide +kernel
theorem dX5_make_9 : decode cX5_make 9 = .ok (.getfield 35, 3) := by decide +kernel
theorem dX5_make_12 : decode cX5_make 12 = .ok (.if_icmp .ge 37, 3) := by decide +kernel
theorem dX5_make_15 : decode cX5_make 15 = .ok (.aload_n 1, 1) := by decide +kernel
theorem dX5_make_16 : decode cX5_make 16 = .ok (.aload_n 0, 1) := by decide +kernel
theorem dX5_make_17 : decode cX5_make 17 = .ok (.getfield 9, 3) := by decide +kernel
theorem dX5_make_20 : decode cX5_make 20 = .ok (.iload_n 3, 1) := by decide +kernel
theorem dX5_make_21 : decode cX5_make 21 = .ok (.iaload, 1) := by decide +kernel
theorem dX5_make_22 : decode cX5_make 22 = .ok (.invokevirtual 88, 3) := by decide +kernel
theorem dX5_make_25 : decode cX5_make 25 = .ok (.istore 4, 2) := by decide +kernel
theorem dX5_make_27 : decode cX5_make 27 = .ok (.aload_n 0, 1) := by decide +kernel
theorem dX5_make_28 : decode cX5_make 28 = .ok (.getfield 18, 3) := by decide +kernel
theorem dX5_make_31 : decode cX5_make 31 = .ok (.iload_n 3, 1) := by decide +kernel
theorem dX5_make_32 : decode cX5_make 32 = .ok (.iload 4, 2) := by decide +kernel
theorem dX5_make_34 : decode cX5_make 34 = .ok (.iastore, 1) := by decide +kernel
theorem dX5_make_35 : decode cX5_make 35 = .ok (.iload_n 2, 1) := by decide +kernel
theorem dX5_make_36 : decode cX5_make 36 = .ok (.iload 4, 2) := by decide +kernel
theorem dX5_make_38 : decode cX5_make 38 = .ok (.ixor, 1) := by decide +kernel
theorem dX5_make_39 : decode cX5_make 39 = .ok (.ldc 91, 2) := by decide +kernel
theorem dX5_make_41 : decode cX5_make 41 = .ok (.imul, 1) := by decide +kernel
theorem dX5_make_42 : decode cX5_make 42 = .ok (.istore_n 2, 1) := by decide +kernel
theorem dX5_make_43 : decode cX5_make 43 = .ok (.iinc 3 1, 3) := by decide +kernel
theorem dX5_make_46 : decode cX5_make 46 = .ok (.goto (-39), 3) := by decide +kernel
theorem dX5_make_49 : decode cX5_make 49 = .ok (.iconst 0, 1) := by decide +kernel
theorem dX5_make_50 : decode cX5_make 50 = .ok (.istore_n 3, 1) := by decide +kernel
theorem dX5_make_51 : decode cX5_make 51 = .ok (.iload_n 3, 1) := by decide +kernel
theorem dX5_make_52 : decode cX5_make 52 = .ok (.aload_n 0, 1) := by decide +kernel
theorem dX5_make_53 : decode cX5_make 53 = .ok (.getfield 38, 3) := by decide +kernel
theorem dX5_make_56 : decode cX5_make 56 = .ok (.if_icmp .ge 27, 3) := by decide +kernel
theorem dX5_make_59 : decode cX5_make 59 = .ok (.aload_n 1, 1) := by decide +kernel
theorem dX5_make_60 : decode cX5_make 60 = .ok (.aload_n 0, 1) := by decide +kernel
theorem dX5_make_61 : decode cX5_make 61 = .ok (.getfield 15, 3) := by decide +kernel
theorem dX5_make_64 : decode cX5_make 64 = .ok (.iload_n 3, 1) := by decide +kernel
theorem dX5_make_65 : decode cX5_make 65 = .ok (.iaload, 1) := by decide +kernel
theorem dX5_make_66 : decode cX5_make 66 = .ok (.iload_n 2, 1) := by decide +kernel
theorem dX5_make_67 : decode cX5_make 67 = .ok (.iload_n 3, 1) := by decide +kernel
theorem dX5_make_68 : decode cX5_make 68 = .ok (.iadd, 1) := by decide +kernel
theorem dX5_make_69 : decode cX5_make 69 = .ok (.aload_n 0, 1) := by decide +kernel
theorem dX5_make_70 : decode cX5_make 70 = .ok (.getfield 29, 3) := by decide +kernel
theorem dX5_make_73 : decode cX5_make 73 = .ok (.iand, 1) := by decide +kernel
theorem dX5_make_74 : decode cX5_make 74 = .ok (.invokevirtual 92, 3) := by decide +kernel
theorem dX5_make_77 : decode cX5_make 77 = .ok (.iinc 3 1, 3) := by decide +kernel
theorem dX5_make_80 : decode cX5_make 80 = .ok (.goto (-29), 3) := by decide +kernel
theorem dX5_make_83 : decode cX5_make 83 = .ok (.aload_n 0, 1) := by decide +kernel
theorem dX5_make_84 : decode cX5_make 84 = .ok (.iconst 1, 1) := by decide +kernel
theorem dX5_make_85 : decode cX5_make 85 = .ok (.putfield 47, 3) := by decide +kernel
theorem dX5_make_88 : decode cX5_make 88 = .ok (.aload_n 0, 1) := by decide +kernel
theorem dX5_make_89 : decode cX5_make 89 = .ok (.aload_n 0, 1) := by decide +kernel
theorem dX5_make_90 : decode cX5_make 90 = .ok (.getfield 25, 3) := by decide +kernel
theorem dX5_make_93 : decode cX5_make 93 = .ok (.putfield 73, 3) := by decide +kernel
theorem dX5_make_96 : decode cX5_make 96 = .ok (.aload_n 0, 1) := by decide +kernel
theorem dX5_make_97 : decode cX5_make 97 = .ok (.aload_n 0, 1) := by decide +kernel
theorem dX5_make_98 : decode cX5_make 98 = .ok (.getfield 29, 3) := by decide +kernel
theorem dX5_make_101 : decode cX5_make 101 = .ok (.putfield 76, 3) := by decide +kernel
theorem dX5_make_104 : decode cX5_make 104 = .ok (.aload_n 0, 1) := by decide +kernel
theorem dX5_make_105 : decode cX5_make 105 = .ok (.aload_n 0, 1) := by decide +kernel
theorem dX5_make_106 : decode cX5_make 106 = .ok (.getfield 35, 3) := by decide +kernel
theorem dX5_make_109 : decode cX5_make 109 = .ok (.putfield 79, 3) := by decide +kernel
theorem dX5_make_112 : decode cX5_make 112 = .ok (.aload_n 0, 1) := by decide +kernel
theorem dX5_make_113 : decode cX5_make 113 = .ok (.aload_n 0, 1) := by decide +kernel
theorem dX5_make_114 : decode cX5_make 114 = .ok (.getfield 38, 3) := by decide +kernel
theorem dX5_make_117 : decode cX5_make 117 = .ok (.putfield 82, 3) := by decide +kernel
theorem dX5_make_120 : decode cX5_make 120 = .ok (.return_, 1) := by decide +kernel
theorem dX6_init_0 : decode cX6_init 0 = .ok (.aload_n 0, 1) := by decide +kernel
theorem dX6_init_1 : decode cX6_init 1 = .ok (.invokespecial 1, 3) := by decide +kernel
theorem dX6_init_4 : decode cX6_init 4 = .ok (.aload_n 0, 1) := by decide +kernel
theorem dX6_init_5 : decode cX6_init 5 = .ok (.new 7, 3) := by decide +kernel
theorem dX6_init_8 : decode cX6_init 8 = .ok (.dup, 1) := by decide +kernel
theorem dX6_init_9 : decode cX6_init 9 = .ok (.invokespecial 9, 3) := by decide +kernel
theorem dX6_init_12 : decode cX6_init 12 = .ok (.putfield 10, 3) := by decide +kernel
theorem dX6_init_15 : decode cX6_init 15 = .ok (.aload_n 0, 1) := by decide +kernel
theorem dX6_init_16 : decode cX6_init 16 = .ok (.bipush 40, 2) := by decide +kernel
theorem dX6_init_18 : decode cX6_init 18 = .ok (.anewarray 16, 3) := by decide +kernel
theorem dX6_init_21 : decode cX6_init 21 = .ok (.putfield 18, 3) := by decide +kernel
theorem dX6_init_24 : decode cX6_init 24 = .ok (.iconst 0, 1) := by decide +kernel
theorem dX6_init_25 : decode cX6_init 25 = .ok (.istore_n 1, 1) := by decide +kernel
theorem dX6_init_26 : decode cX6_init 26 = .ok (.iload_n 1, 1) := by decide +kernel
theorem dX6_init_27 : decode cX6_init 27 = .ok (.bipush 40, 2) := by decide +kernel
theorem dX6_init_29 : decode cX6_init 29 = .ok (.if_icmp .ge 22, 3) := by decide +kernel
theorem dX6_init_32 : decode cX6_init 32 = .ok (.aload_n 0, 1) := by decide +kernel
theorem dX6_init_33 : decode cX6_init 33 = .ok (.getfield 18, 3) := by decide +kernel
theorem dX6_init_36 : decode cX6_init 36 = .ok (.iload_n 1, 1) := by decide +kernel
theorem dX6_init_37 : decode cX6_init 37 = .ok (.new 16, 3) := by decide +kernel
theorem dX6_init_40 : decode cX6_init 40 = .ok (.dup, 1) := by decide +kernel
theorem dX6_init_41 : decode cX6_init 41 = .ok (.invokespecial 22, 3) := by decide +kernel
theorem dX6_init_44 : decode cX6_init 44 = .ok (.aastore, 1) := by decide +kernel
theorem dX6_init_45 : decode cX6_init 45 = .ok (.iinc 1 1, 3) := by decide +kernel
theorem dX6_init_48 : decode cX6_init 48 = .ok (.goto (-22), 3) := by decide +kernel
theorem dX6_init_51 : decode cX6_init 51 = .ok (.aload_n 0, 1) := by decide +kernel
theorem dX6_init_52 : decode cX6_init 52 = .ok (.new 23, 3) := by decide +kernel
theorem dX6_init_55 : decode cX6_init 55 = .ok (.dup, 1) := by decide +kernel
theorem dX6_init_56 : decode cX6_init 56 = .ok (.invokespecial 25, 3) := by decide +kernel
theorem dX6_init_59 : decode cX6_init 59 = .ok (.putfield 26, 3) := by decide +kernel
theorem dX6_init_62 : decode cX6_init 62 = .ok (.aload_n 0, 1) := by decide +kernel
theorem dX6_init_63 : decode cX6_init 63 = .ok (.new 30, 3) := by decide +kernel
theorem dX6_init_66 : decode cX6_init 66 = .ok (.dup, 1) := by decide +kernel
theorem dX6_init_67 : decode cX6_init 67 = .ok (.invokespecial 32, 3) := by decide +kernel
theorem dX6_init_70 : decode cX6_init 70 = .ok (.putfield 33, 3) := by decide +kernel
theorem dX6_init_73 : decode cX6_init 73 = .ok (.aload_n 0, 1) := by decide +kernel
theorem dX6_init_74 : decode cX6_init 74 = .ok (.new 37, 3) := by decide +kernel
theorem dX6_init_77 : decode cX6_init 77 = .ok (.dup, 1) := by decide +kernel
theorem dX6_init_78 : decode cX6_init 78 = .ok (.invokespecial 39, 3) := by decide +kernel
theorem dX6_init_81 : decode cX6_init 81 = .ok (.putfield 40, 3) := by decide +kernel
theorem dX6_init_84 : decode cX6_init 84 = .ok (.aload_n 0, 1) := by decide +kernel
theorem dX6_init_85 : decode cX6_init 85 = .ok (.new 44, 3) := by decide +kernel
theorem dX6_init_88 : decode cX6_init 88 = .ok (.dup, 1) := by decide +kernel
theorem dX6_init_89 : decode cX6_init 89 = .ok (.invokespecial 46, 3) := by decide +kernel
theorem dX6_init_92 : decode cX6_init 92 = .ok (.putfield 47, 3) := by decide +kernel
theorem dX6_init_95 : decode cX6_init 95 = .ok (.return_, 1) := by decide +kernel
theorem dX6_step_0 : decode cX6_step 0 = .ok (.iload_n 1, 1) := by decide +kernel
theorem dX6_step_1 : decode cX6_step 1 = .ok (.invokestatic 51, 3) := by decide +kernel
theorem dX6_step_4 : decode cX6_step 4 = .ok (.ifCond .eq 16, 3) := by decide +kernel
theorem dX6_step_7 : decode cX6_step 7 = .ok (.iload 4, 2) := by decide +kernel
theorem dX6_step_9 : decode cX6_step 9 = .ok (.iconst 1, 1) := by decide +kernel
theorem dX6_step_10 : decode cX6_step 10 = .ok (.if_icmp .lt 10, 3) := by decide +kernel
theorem dX6_step_13 : decode cX6_step 13 = .ok (.iload 4, 2) := by decide +kernel
theorem dX6_step_15 : decode cX6_step 15 = .ok (.bipush 100, 2) := by decide +kernel
theorem dX6_step_17 : decode cX6_step 17 = .ok (.if_icmp .le 5, 3) := by decide +kernel
theorem dX6_step_20 : decode cX6_step 20 = .ok (.iconst 0, 1) := by decide +kernel
theorem dX6_step_21 : decode cX6_step 21 = .ok (.ireturn, 1) := by decide +kernel
theorem dX6_step_22 : decode cX6_step 22 = .ok (.aload_n 0, 1) := by decide +kernel
theorem dX6_step_23 : decode cX6_step 23 = .ok (.getfield 18, 3) := by decide +kernel
theorem dX6_step_26 : decode cX6_step 26 = .ok (.iload_n 1, 1) := by decide +kernel
theorem dX6_step_27 : decode cX6_step 27 = .ok (.aaload, 1) := by decide +kernel
theorem dX6_step_28 : decode cX6_step 28 = .ok (.iload_n 2, 1) := by decide +kernel
theorem dX6_step_29 : decode cX6_step 29 = .ok (.iload_n 3, 1) := by decide +kernel
theorem dX6_step_30 : decode cX6_step 30 = .ok (.iload 4, 2) := by decide +kernel
theorem dX6_step_32 : decode cX6_step 32 = .ok (.invokevirtual 55, 3) := by decide +kernel
theorem dX6_step_35 : decode cX6_step 35 = .ok (.iconst 1, 1) := by decide +kernel
theorem dX6_step_36 : decode cX6_step 36 = .ok (.ireturn, 1) := by decide +kernel
theorem dX6_input_0 : decode cX6_input 0 = .ok (.aload_n 0, 1) := by decide +kernel
theorem dX6_input_1 : decode cX6_input 1 = .ok (.iload_n 1, 1) := by decide +kernel
theorem dX6_input_2 : decode cX6_input 2 = .ok (.invokevirtual 59, 3) := by decide +kernel
theorem dX6_input_5 : decode cX6_input 5 = .ok (.ifCond .eq 27, 3) := by decide +kernel
theorem dX6_input_8 : decode cX6_input 8 = .ok (.iload_n 2, 1) := by decide +kernel
theorem dX6_input_9 : decode cX6_input 9 = .ok (.invokestatic 62, 3) := by decide +kernel
theorem dX6_input_12 : decode cX6_input 12 = .ok (.ifCond .eq 20, 3) := by decide +kernel
theorem dX6_input_15 : decode cX6_input 15 = .ok (.aload_n 0, 1) := by decide +kernel
theorem dX6_input_16 : decode cX6_input 16 = .ok (.getfield 18, 3) := by decide +kernel
theorem dX6_input_19 : decode cX6_input 19 = .ok (.iload_n 1, 1) := by decide +kernel
theorem dX6_input_20 : decode cX6_input 20 = .ok (.aaload, 1) := by decide +kernel
theorem dX6_input_21 : decode cX6_input 21 = .ok (.iload_n 2, 1) := by decide +kernel
theorem dX6_input_22 : decode cX6_input 22 = .ok (.invokevirtual 65, 3) := by decide +kernel
theorem dX6_input_25 : decode cX6_input 25 = .ok (.ifCond .eq 7, 3) := by decide +kernel
theorem dX6_input_28 : decode cX6_input 28 = .ok (.iconst 1, 1) := by decide +kernel
theorem dX6_input_29 : decode cX6_input 29 = .ok (.goto 4, 3) := by decide +kernel
theorem dX6_input_32 : decode cX6_input 32 = .ok (.iconst 0, 1) := by decide +kernel
theorem dX6_input_33 : decode cX6_input 33 = .ok (.ireturn, 1) := by decide +kernel
theorem dX6_output_0 : decode cX6_output 0 = .ok (.aload_n 0, 1) := by decide +kernel
theorem dX6_output_1 : decode cX6_output 1 = .ok (.iload_n 1, 1) := by decide +kernel
theorem dX6_output_2 : decode cX6_output 2 = .ok (.invokevirtual 59, 3) := by decide +kernel
theorem dX6_output_5 : decode cX6_output 5 = .ok (.ifCond .eq 24, 3) := by decide +kernel
theorem dX6_output_8 : decode cX6_output 8 = .ok (.aload_n 0, 1) := by decide +kernel
theorem dX6_output_9 : decode cX6_output 9 = .ok (.iload_n 2, 1) := by decide +kernel
theorem dX6_output_10 : decode cX6_output 10 = .ok (.invokevirtual 68, 3) := by decide +kernel
theorem dX6_output_13 : decode cX6_output 13 = .ok (.ifCond .eq 16, 3) := by decide +kernel
theorem dX6_output_16 : decode cX6_output 16 = .ok (.aload_n 0, 1) := by decide +kernel
theorem dX6_output_17 : decode cX6_output 17 = .ok (.getfield 18, 3) := by decide +kernel
theorem dX6_output_20 : decode cX6_output 20 = .ok (.iload_n 1, 1) := by decide +kernel
theorem dX6_output_21 : decode cX6_output 21 = .ok (.aaload, 1) := by decide +kernel
theorem dX6_output_22 : decode cX6_output 22 = .ok (.iload_n 2, 1) := by decide +kernel
theorem dX6_output_23 : decode cX6_output 23 = .ok (.invokevirtual 71, 3) := by decide +kernel
theorem dX6_output_26 : decode cX6_output 26 = .ok (.ifCond .ne 5, 3) := by decide +kernel
theorem dX6_output_29 : decode cX6_output 29 = .ok (.iconst 0, 1) := by decide +kernel
theorem dX6_output_30 : decode cX6_output 30 = .ok (.ireturn, 1) := by decide +kernel
theorem dX6_output_31 : decode cX6_output 31 = .ok (.aload_n 0, 1) := by decide +kernel
theorem dX6_output_32 : decode cX6_output 32 = .ok (.getfield 10, 3) := by decide +kernel
theorem dX6_output_35 : decode cX6_output 35 = .ok (.iload_n 2, 1) := by decide +kernel
theorem dX6_output_36 : decode cX6_output 36 = .ok (.iload_n 1, 1) := by decide +kernel
theorem dX6_output_37 : decode cX6_output 37 = .ok (.invokevirtual 74, 3) := by decide +kernel
theorem dX6_output_40 : decode cX6_output 40 = .ok (.iconst 1, 1) := by decide +kernel
theorem dX6_output_41 : decode cX6_output 41 = .ok (.ireturn, 1) := by decide +kernel
theorem dX6_drop_0 : decode cX6_drop 0 = .ok (.aload_n 0, 1) := by decide +kernel
theorem dX6_drop_1 : decode cX6_drop 1 = .ok (.iload_n 1, 1) := by decide +kernel
theorem dX6_drop_2 : decode cX6_drop 2 = .ok (.invokevirtual 59, 3) := by decide +kernel
theorem dX6_drop_5 : decode cX6_drop 5 = .ok (.ifCond .ne 5, 3) := by decide +kernel
theorem dX6_drop_8 : decode cX6_drop 8 = .ok (.iconst 0, 1) := by decide +kernel
theorem dX6_drop_9 : decode cX6_drop 9 = .ok (.ireturn, 1) := by decide +kernel
theorem dX6_drop_10 : decode cX6_drop 10 = .ok (.aload_n 0, 1) := by decide +kernel
theorem dX6_drop_11 : decode cX6_drop 11 = .ok (.getfield 18, 3) := by decide +kernel
theorem dX6_drop_14 : decode cX6_drop 14 = .ok (.iload_n 1, 1) := by decide +kernel
theorem dX6_drop_15 : decode cX6_drop 15 = .ok (.aaload, 1) := by decide +kernel
theorem dX6_drop_16 : decode cX6_drop 16 = .ok (.aload_n 0, 1) := by decide +kernel
theorem dX6_drop_17 : decode cX6_drop 17 = .ok (.getfield 10, 3) := by decide +kernel
theorem dX6_drop_20 : decode cX6_drop 20 = .ok (.invokevirtual 78, 3) := by decide +kernel
theorem dX6_drop_23 : decode cX6_drop 23 = .ok (.iconst 1, 1) := by decide +kernel
theorem dX6_drop_24 : decode cX6_drop 24 = .ok (.ireturn, 1) := by decide +kernel
theorem dX6_source_0 : decode cX6_source 0 = .ok (.aload_n 0, 1) := by decide +kernel
theorem dX6_source_1 : decode cX6_source 1 = .ok (.iload_n 1, 1) := by decide +kernel
theorem dX6_source_2 : decode cX6_source 2 = .ok (.invokevirtual 68, 3) := by decide +kernel
theorem dX6_source_5 : decode cX6_source 5 = .ok (.ifCond .ne 5, 3) := by decide +kernel
theorem dX6_source_8 : decode cX6_source 8 = .ok (.iconst 0, 1) := by decide +kernel
theorem dX6_source_9 : decode cX6_source 9 = .ok (.ireturn, 1) := by decide +kernel
theorem dX6_source_10 : decode cX6_source 10 = .ok (.aload_n 0, 1) := by decide +kernel
theorem dX6_source_11 : decode cX6_source 11 = .ok (.getfield 10, 3) := by decide +kernel
theorem dX6_source_14 : decode cX6_source 14 = .ok (.iload_n 1, 1) := by decide +kernel
theorem dX6_source_15 : decode cX6_source 15 = .ok (.iload_n 2, 1) := by decide +kernel
theorem dX6_source_16 : decode cX6_source 16 = .ok (.invokevirtual 82, 3) := by decide +kernel
theorem dX6_source_19 : decode cX6_source 19 = .ok (.iconst 1, 1) := by decide +kernel
theorem dX6_source_20 : decode cX6_source 20 = .ok (.ireturn, 1) := by decide +kernel
theorem dX6_spoil_0 : decode cX6_spoil 0 = .ok (.iload_n 1, 1) := by decide +kernel
theorem dX6_spoil_1 : decode cX6_spoil 1 = .ok (.invokestatic 62, 3) := by decide +kernel
theorem dX6_spoil_4 : decode cX6_spoil 4 = .ok (.ifCond .eq 18, 3) := by decide +kernel
theorem dX6_spoil_7 : decode cX6_spoil 7 = .ok (.aload_n 0, 1) := by decide +kernel
theorem dX6_spoil_8 : decode cX6_spoil 8 = .ok (.getfield 10, 3) := by decide +kernel
theorem dX6_spoil_11 : decode cX6_spoil 11 = .ok (.iload_n 1, 1) := by decide +kernel
theorem dX6_spoil_12 : decode cX6_spoil 12 = .ok (.invokevirtual 85, 3) := by decide +kernel
theorem dX6_spoil_15 : decode cX6_spoil 15 = .ok (.ifCond .eq 7, 3) := by decide +kernel
theorem dX6_spoil_18 : decode cX6_spoil 18 = .ok (.iconst 1, 1) := by decide +kernel
theorem dX6_spoil_19 : decode cX6_spoil 19 = .ok (.goto 4, 3) := by decide +kernel
theorem dX6_spoil_22 : decode cX6_spoil 22 = .ok (.iconst 0, 1) := by decide +kernel
theorem dX6_spoil_23 : decode cX6_spoil 23 = .ok (.ireturn, 1) := by decide +kernel
theorem dX6_build_0 : decode cX6_build 0 = .ok (.iload_n 1, 1) := by decide +kernel
theorem dX6_build_1 : decode cX6_build 1 = .ok (.invokestatic 62, 3) := by decide +kernel
theorem dX6_build_4 : decode cX6_build 4 = .ok (.ifCond .ne 13, 3) := by decide +kernel
theorem dX6_build_7 : decode cX6_build 7 = .ok (.new 88, 3) := by decide +kernel
theorem dX6_build_10 : decode cX6_build 10 = .ok (.dup, 1) := by decide +kernel
theorem dX6_build_11 : decode cX6_build 11 = .ok (.ldc 90, 2) := by decide +kernel
theorem dX6_build_13 : decode cX6_build 13 = .ok (.invokespecial 92, 3) := by decide +kernel
theorem dX6_build_16 : decode cX6_build 16 = .ok (.athrow, 1) := by decide +kernel
theorem dX6_build_17 : decode cX6_build 17 = .ok (.iload_n 2, 1) := by decide +kernel
theorem dX6_build_18 : decode cX6_build 18 = .ok (.iconst 1, 1) := by decide +kernel
theorem dX6_build_19 : decode cX6_build 19 = .ok (.if_icmp .lt 9, 3) := by decide +kernel
theorem dX6_build_22 : decode cX6_build 22 = .ok (.iload_n 2, 1) := by decide +kernel
theorem dX6_build_23 : decode cX6_build 23 = .ok (.bipush 8, 2) := by decide +kernel
theorem dX6_build_25 : decode cX6_build 25 = .ok (.if_icmp .le 13, 3) := by decide +kernel
theorem dX6_build_28 : decode cX6_build 28 = .ok (.new 88, 3) := by decide +kernel
theorem dX6_build_31 : decode cX6_build 31 = .ok (.dup, 1) := by decide +kernel
theorem dX6_build_32 : decode cX6_build 32 = .ok (.ldc 95, 2) := by decide +kernel
theorem dX6_build_34 : decode cX6_build 34 = .ok (.invokespecial 92, 3) := by decide +kernel
theorem dX6_build_37 : decode cX6_build 37 = .ok (.athrow, 1) := by decide +kernel
theorem dX6_build_38 : decode cX6_build 38 = .ok (.aload_n 0, 1) := by decide +kernel
theorem dX6_build_39 : decode cX6_build 39 = .ok (.getfield 26, 3) := by decide +kernel
theorem dX6_build_42 : decode cX6_build 42 = .ok (.aload_n 0, 1) := by decide +kernel
theorem dX6_build_43 : decode cX6_build 43 = .ok (.getfield 10, 3) := by decide +kernel
theorem dX6_build_46 : decode cX6_build 46 = .ok (.iload_n 1, 1) := by decide +kernel
theorem dX6_build_47 : decode cX6_build 47 = .ok (.invokevirtual 97, 3) := by decide +kernel
theorem dX6_build_50 : decode cX6_build 50 = .ok (.aload_n 0, 1) := by decide +kernel
theorem dX6_build_51 : decode cX6_build 51 = .ok (.getfield 18, 3) := by decide +kernel
theorem dX6_build_54 : decode cX6_build 54 = .ok (.aload_n 0, 1) := by decide +kernel
theorem dX6_build_55 : decode cX6_build 55 = .ok (.getfield 10, 3) := by decide +kernel
theorem dX6_build_58 : decode cX6_build 58 = .ok (.invokevirtual 101, 3) := by decide +kernel
theorem dX6_build_61 : decode cX6_build 61 = .ok (.aload_n 0, 1) := by decide +kernel
theorem dX6_build_62 : decode cX6_build 62 = .ok (.getfield 26, 3) := by decide +kernel
theorem dX6_build_65 : decode cX6_build 65 = .ok (.invokevirtual 105, 3) := by decide +kernel
theorem dX6_build_68 : decode cX6_build 68 = .ok (.ifCond .ne 24, 3) := by decide +kernel
theorem dX6_build_71 : decode cX6_build 71 = .ok (.aload_n 0, 1) := by decide +kernel
theorem dX6_build_72 : decode cX6_build 72 = .ok (.getfield 47, 3) := by decide +kernel
theorem dX6_build_75 : decode cX6_build 75 = .ok (.aload_n 0, 1) := by decide +kernel
theorem dX6_build_76 : decode cX6_build 76 = .ok (.getfield 26, 3) := by decide +kernel
theorem dX6_build_79 : decode cX6_build 79 = .ok (.invokevirtual 109, 3) := by decide +kernel
theorem dX6_build_82 : decode cX6_build 82 = .ok (.new 113, 3) := by decide +kernel
theorem dX6_build_85 : decode cX6_build 85 = .ok (.dup, 1) := by decide +kernel
theorem dX6_build_86 : decode cX6_build 86 = .ok (.ldc 115, 2) := by decide +kernel
theorem dX6_build_88 : decode cX6_build 88 = .ok (.invokespecial 117, 3) := by decide +kernel
theorem dX6_build_91 : decode cX6_build 91 = .ok (.athrow, 1) := by decide +kernel
theorem dX6_build_92 : decode cX6_build 92 = .ok (.aload_n 0, 1) := by decide +kernel
theorem dX6_build_93 : decode cX6_build 93 = .ok (.iload_n 1, 1) := by decide +kernel
theorem dX6_build_94 : decode cX6_build 94 = .ok (.invokevirtual 118, 3) := by decide +kernel
theorem dX6_build_97 : decode cX6_build 97 = .ok (.ifCond .eq 13, 3) := by decide +kernel
theorem dX6_build_100 : decode cX6_build 100 = .ok (.new 113, 3) := by decide +kernel
theorem dX6_build_103 : decode cX6_build 103 = .ok (.dup, 1) := by decide +kernel
theorem dX6_build_104 : decode cX6_build 104 = .ok (.ldc 121, 2) := by decide +kernel
theorem dX6_build_106 : decode cX6_build 106 = .ok (.invokespecial 117, 3) := by decide +kernel
theorem dX6_build_109 : decode cX6_build 109 = .ok (.athrow, 1) := by decide +kernel
theorem dX6_build_110 : decode cX6_build 110 = .ok (.aload_n 0, 1) := by decide +kernel
theorem dX6_build_111 : decode cX6_build 111 = .ok (.getfield 26, 3) := by decide +kernel
theorem dX6_build_114 : decode cX6_build 114 = .ok (.aload_n 0, 1) := by decide +kernel
theorem dX6_build_115 : decode cX6_build 115 = .ok (.getfield 18, 3) := by decide +kernel
theorem dX6_build_118 : decode cX6_build 118 = .ok (.invokevirtual 123, 3) := by decide +kernel
theorem dX6_build_121 : decode cX6_build 121 = .ok (.aload_n 0, 1) := by decide +kernel
theorem dX6_build_122 : decode cX6_build 122 = .ok (.getfield 40, 3) := by decide +kernel
theorem dX6_build_125 : decode cX6_build 125 = .ok (.aload_n 0, 1) := by decide +kernel
theorem dX6_build_126 : decode cX6_build 126 = .ok (.getfield 26, 3) := by decide +kernel
theorem dX6_build_129 : decode cX6_build 129 = .ok (.invokevirtual 127, 3) := by decide +kernel
theorem dX6_build_132 : decode cX6_build 132 = .ok (.aload_n 0, 1) := by decide +kernel
theorem dX6_build_133 : decode cX6_build 133 = .ok (.iload_n 2, 1) := by decide +kernel
theorem dX6_build_134 : decode cX6_build 134 = .ok (.invokevirtual 130, 3) := by decide +kernel
theorem dX6_build_137 : decode cX6_build 137 = .ok (.ireturn, 1) := by decide +kernel
theorem dX6_count_0 : decode cX6_count 0 = .ok (.iload_n 1, 1) := by decide +kernel
theorem dX6_count_1 : decode cX6_count 1 = .ok (.tableswitch 84 0 5 #[39, 47, 55, 63, 71, 79], 39) := by decide +kernel
theorem dX6_count_40 : decode cX6_count 40 = .ok (.aload_n 0, 1) := by decide +kernel
theorem dX6_count_41 : decode cX6_count 41 = .ok (.getfield 40, 3) := by decide +kernel
theorem dX6_count_44 : decode cX6_count 44 = .ok (.getfield 133, 3) := by decide +kernel
theorem dX6_count_47 : decode cX6_count 47 = .ok (.ireturn, 1) := by decide +kernel
theorem dX6_count_48 : decode cX6_count 48 = .ok (.aload_n 0, 1) := by decide +kernel
theorem dX6_count_49 : decode cX6_count 49 = .ok (.getfield 40, 3) := by decide +kernel
theorem dX6_count_52 : decode cX6_count 52 = .ok (.getfield 137, 3) := by decide +kernel
theorem dX6_count_55 : decode cX6_count 55 = .ok (.ireturn, 1) := by decide +kernel
theorem dX6_count_56 : decode cX6_count 56 = .ok (.aload_n 0, 1) := by decide +kernel
theorem dX6_count_57 : decode cX6_count 57 = .ok (.getfield 40, 3) := by decide +kernel
theorem dX6_count_60 : decode cX6_count 60 = .ok (.getfield 140, 3) := by decide +kernel
theorem dX6_count_63 : decode cX6_count 63 = .ok (.ireturn, 1) := by decide +kernel
theorem dX6_count_64 : decode cX6_count 64 = .ok (.aload_n 0, 1) := by decide +kernel
theorem dX6_count_65 : decode cX6_count 65 = .ok (.getfield 40, 3) := by decide +kernel
theorem dX6_count_68 : decode cX6_count 68 = .ok (.getfield 143, 3) := by decide +kernel
theorem dX6_count_71 : decode cX6_count 71 = .ok (.ireturn, 1) := by decide +kernel
theorem dX6_count_72 : decode cX6_count 72 = .ok (.aload_n 0, 1) := by decide +kernel
theorem dX6_count_73 : decode cX6_count 73 = .ok (.getfield 10, 3) := by decide +kernel
theorem dX6_count_76 : decode cX6_count 76 = .ok (.invokevirtual 146, 3) := by decide +kernel
theorem dX6_count_79 : decode cX6_count 79 = .ok (.ireturn, 1) := by decide +kernel
theorem dX6_count_80 : decode cX6_count 80 = .ok (.aload_n 0, 1) := by decide +kernel
theorem dX6_count_81 : decode cX6_count 81 = .ok (.invokevirtual 150, 3) := by decide +kernel
theorem dX6_count_84 : decode cX6_count 84 = .ok (.ireturn, 1) := by decide +kernel
theorem dX6_count_85 : decode cX6_count 85 = .ok (.iconst (-1), 1) := by decide +kernel
theorem dX6_count_86 : decode cX6_count 86 = .ok (.ireturn, 1) := by decide +kernel
theorem dX6_begun_0 : decode cX6_begun 0 = .ok (.iload_n 1, 1) := by decide +kernel
theorem dX6_begun_1 : decode cX6_begun 1 = .ok (.ifCond .lt 23, 3) := by decide +kernel
theorem dX6_begun_4 : decode cX6_begun 4 = .ok (.iload_n 1, 1) := by decide +kernel
theorem dX6_begun_5 : decode cX6_begun 5 = .ok (.aload_n 0, 1) := by decide +kernel
theorem dX6_begun_6 : decode cX6_begun 6 = .ok (.getfield 40, 3) := by decide +kernel
theorem dX6_begun_9 : decode cX6_begun 9 = .ok (.getfield 137, 3) := by decide +kernel
theorem dX6_begun_12 : decode cX6_begun 12 = .ok (.if_icmp .ge 12, 3) := by decide +kernel
theorem dX6_begun_15 : decode cX6_begun 15 = .ok (.iload_n 2, 1) := by decide +kernel
theorem dX6_begun_16 : decode cX6_begun 16 = .ok (.ifCond .lt 8, 3) := by decide +kernel
theorem dX6_begun_19 : decode cX6_begun 19 = .ok (.iload_n 2, 1) := by decide +kernel
theorem dX6_begun_20 : decode cX6_begun 20 = .ok (.iconst 5, 1) := by decide +kernel
theorem dX6_begun_21 : decode cX6_begun 21 = .ok (.if_icmp .lt 13, 3) := by decide +kernel
theorem dX6_begun_24 : decode cX6_begun 24 = .ok (.new 153, 3) := by decide +kernel
theorem dX6_begun_27 : decode cX6_begun 27 = .ok (.dup, 1) := by decide +kernel
theorem dX6_begun_28 : decode cX6_begun 28 = .ok (.ldc 155, 2) := by decide +kernel
theorem dX6_begun_30 : decode cX6_begun 30 = .ok (.invokespecial 157, 3) := by decide +kernel
theorem dX6_begun_33 : decode cX6_begun 33 = .ok (.athrow, 1) := by decide +kernel
theorem dX6_begun_34 : decode cX6_begun 34 = .ok (.aload_n 0, 1) := by decide +kernel
theorem dX6_begun_35 : decode cX6_begun 35 = .ok (.getfield 40, 3) := by decide +kernel
theorem dX6_begun_38 : decode cX6_begun 38 = .ok (.iload_n 1, 1) := by decide +kernel
theorem dX6_begun_39 : decode cX6_begun 39 = .ok (.iload_n 2, 1) := by decide +kernel
theorem dX6_begun_40 : decode cX6_begun 40 = .ok (.invokevirtual 158, 3) := by decide +kernel
theorem dX6_begun_43 : decode cX6_begun 43 = .ok (.ireturn, 1) := by decide +kernel
