theorem dX0_init_0 : decode cX0_init 0 = .ok (.aload_n 0, 1) := by decide +kernel
theorem dX0_init_1 : decode cX0_init 1 = .ok (.invokespecial 3, 3) := by decide +kernel
theorem dX0_init_4 : decode cX0_init 4 = .ok (.aload_n 0, 1) := by decide +kernel
theorem dX0_init_5 : decode cX0_init 5 = .ok (.bipush 8, 2) := by decide +kernel
theorem dX0_init_7 : decode cX0_init 7 = .ok (.newarray .boolean, 2) := by decide +kernel
theorem dX0_init_9 : decode cX0_init 9 = .ok (.putfield 9, 3) := by decide +kernel
theorem dX0_init_12 : decode cX0_init 12 = .ok (.aload_n 0, 1) := by decide +kernel
theorem dX0_init_13 : decode cX0_init 13 = .ok (.bipush 40, 2) := by decide +kernel
theorem dX0_init_15 : decode cX0_init 15 = .ok (.newarray .int, 2) := by decide +kernel
theorem dX0_init_17 : decode cX0_init 17 = .ok (.putfield 15, 3) := by decide +kernel
theorem dX0_init_20 : decode cX0_init 20 = .ok (.aload_n 0, 1) := by decide +kernel
theorem dX0_init_21 : decode cX0_init 21 = .ok (.bipush 40, 2) := by decide +kernel
theorem dX0_init_23 : decode cX0_init 23 = .ok (.newarray .int, 2) := by decide +kernel
theorem dX0_init_25 : decode cX0_init 25 = .ok (.putfield 19, 3) := by decide +kernel
theorem dX0_init_28 : decode cX0_init 28 = .ok (.return_, 1) := by decide +kernel
theorem dX0_comeIn_0 : decode cX0_comeIn 0 = .ok (.iconst 0, 1) := by decide +kernel
theorem dX0_comeIn_1 : decode cX0_comeIn 1 = .ok (.istore_n 1, 1) := by decide +kernel
theorem dX0_comeIn_2 : decode cX0_comeIn 2 = .ok (.iload_n 1, 1) := by decide +kernel
theorem dX0_comeIn_3 : decode cX0_comeIn 3 = .ok (.bipush 8, 2) := by decide +kernel
theorem dX0_comeIn_5 : decode cX0_comeIn 5 = .ok (.if_icmp .ge 16, 3) := by decide +kernel
theorem dX0_comeIn_8 : decode cX0_comeIn 8 = .ok (.aload_n 0, 1) := by decide +kernel
theorem dX0_comeIn_9 : decode cX0_comeIn 9 = .ok (.getfield 9, 3) := by decide +kernel
theorem dX0_comeIn_12 : decode cX0_comeIn 12 = .ok (.iload_n 1, 1) := by decide +kernel
theorem dX0_comeIn_13 : decode cX0_comeIn 13 = .ok (.iconst 0, 1) := by decide +kernel
theorem dX0_comeIn_14 : decode cX0_comeIn 14 = .ok (.bastore, 1) := by decide +kernel
theorem dX0_comeIn_15 : decode cX0_comeIn 15 = .ok (.iinc 1 1, 3) := by decide +kernel
theorem dX0_comeIn_18 : decode cX0_comeIn 18 = .ok (.goto (-16), 3) := by decide +kernel
theorem dX0_comeIn_21 : decode cX0_comeIn 21 = .ok (.aload_n 0, 1) := by decide +kernel
theorem dX0_comeIn_22 : decode cX0_comeIn 22 = .ok (.lconst 0, 1) := by decide +kernel
theorem dX0_comeIn_23 : decode cX0_comeIn 23 = .ok (.putfield 22, 3) := by decide +kernel
theorem dX0_comeIn_26 : decode cX0_comeIn 26 = .ok (.aload_n 0, 1) := by decide +kernel
theorem dX0_comeIn_27 : decode cX0_comeIn 27 = .ok (.lconst 0, 1) := by decide +kernel
theorem dX0_comeIn_28 : decode cX0_comeIn 28 = .ok (.putfield 26, 3) := by decide +kernel
theorem dX0_comeIn_31 : decode cX0_comeIn 31 = .ok (.return_, 1) := by decide +kernel
theorem dX0_isBusy_0 : decode cX0_isBusy 0 = .ok (.aload_n 0, 1) := by decide +kernel
theorem dX0_isBusy_1 : decode cX0_isBusy 1 = .ok (.getfield 9, 3) := by decide +kernel
theorem dX0_isBusy_4 : decode cX0_isBusy 4 = .ok (.iload_n 1, 1) := by decide +kernel
theorem dX0_isBusy_5 : decode cX0_isBusy 5 = .ok (.baload, 1) := by decide +kernel
theorem dX0_isBusy_6 : decode cX0_isBusy 6 = .ok (.ireturn, 1) := by decide +kernel
theorem dX0_isOpen_0 : decode cX0_isOpen 0 = .ok (.aload_n 0, 1) := by decide +kernel
theorem dX0_isOpen_1 : decode cX0_isOpen 1 = .ok (.getfield 22, 3) := by decide +kernel
theorem dX0_isOpen_4 : decode cX0_isOpen 4 = .ok (.aload_n 0, 1) := by decide +kernel
theorem dX0_isOpen_5 : decode cX0_isOpen 5 = .ok (.getfield 26, 3) := by decide +kernel
theorem dX0_isOpen_8 : decode cX0_isOpen 8 = .ok (.lor, 1) := by decide +kernel
theorem dX0_isOpen_9 : decode cX0_isOpen 9 = .ok (.iload_n 1, 1) := by decide +kernel
theorem dX0_isOpen_10 : decode cX0_isOpen 10 = .ok (.invokestatic 29, 3) := by decide +kernel
theorem dX0_isOpen_13 : decode cX0_isOpen 13 = .ok (.ifCond .ne 7, 3) := by decide +kernel
theorem dX0_isOpen_16 : decode cX0_isOpen 16 = .ok (.iconst 1, 1) := by decide +kernel
theorem dX0_isOpen_17 : decode cX0_isOpen 17 = .ok (.goto 4, 3) := by decide +kernel
theorem dX0_isOpen_20 : decode cX0_isOpen 20 = .ok (.iconst 0, 1) := by decide +kernel
theorem dX0_isOpen_21 : decode cX0_isOpen 21 = .ok (.ireturn, 1) := by decide +kernel
theorem dX0_areDone_0 : decode cX0_areDone 0 = .ok (.lload_n 1, 1) := by decide +kernel
theorem dX0_areDone_1 : decode cX0_areDone 1 = .ok (.aload_n 0, 1) := by decide +kernel
theorem dX0_areDone_2 : decode cX0_areDone 2 = .ok (.getfield 26, 3) := by decide +kernel
theorem dX0_areDone_5 : decode cX0_areDone 5 = .ok (.ldc2_w 33, 3) := by decide +kernel
theorem dX0_areDone_8 : decode cX0_areDone 8 = .ok (.lxor, 1) := by decide +kernel
theorem dX0_areDone_9 : decode cX0_areDone 9 = .ok (.land, 1) := by decide +kernel
theorem dX0_areDone_10 : decode cX0_areDone 10 = .ok (.lconst 0, 1) := by decide +kernel
theorem dX0_areDone_11 : decode cX0_areDone 11 = .ok (.lcmp, 1) := by decide +kernel
theorem dX0_areDone_12 : decode cX0_areDone 12 = .ok (.ifCond .ne 7, 3) := by decide +kernel
theorem dX0_areDone_15 : decode cX0_areDone 15 = .ok (.iconst 1, 1) := by decide +kernel
theorem dX0_areDone_16 : decode cX0_areDone 16 = .ok (.goto 4, 3) := by decide +kernel
theorem dX0_areDone_19 : decode cX0_areDone 19 = .ok (.iconst 0, 1) := by decide +kernel
theorem dX0_areDone_20 : decode cX0_areDone 20 = .ok (.ireturn, 1) := by decide +kernel
theorem dX0_passOver_0 : decode cX0_passOver 0 = .ok (.aload_n 0, 1) := by decide +kernel
theorem dX0_passOver_1 : decode cX0_passOver 1 = .ok (.dup, 1) := by decide +kernel
theorem dX0_passOver_2 : decode cX0_passOver 2 = .ok (.getfield 26, 3) := by decide +kernel
theorem dX0_passOver_5 : decode cX0_passOver 5 = .ok (.iload_n 1, 1) := by decide +kernel
theorem dX0_passOver_6 : decode cX0_passOver 6 = .ok (.invokestatic 35, 3) := by decide +kernel
theorem dX0_passOver_9 : decode cX0_passOver 9 = .ok (.lor, 1) := by decide +kernel
theorem dX0_passOver_10 : decode cX0_passOver 10 = .ok (.putfield 26, 3) := by decide +kernel
theorem dX0_passOver_13 : decode cX0_passOver 13 = .ok (.return_, 1) := by decide +kernel
theorem dX0_begin_0 : decode cX0_begin 0 = .ok (.aload_n 0, 1) := by decide +kernel
theorem dX0_begin_1 : decode cX0_begin 1 = .ok (.getfield 9, 3) := by decide +kernel
theorem dX0_begin_4 : decode cX0_begin 4 = .ok (.iload_n 2, 1) := by decide +kernel
theorem dX0_begin_5 : decode cX0_begin 5 = .ok (.iconst 1, 1) := by decide +kernel
theorem dX0_begin_6 : decode cX0_begin 6 = .ok (.bastore, 1) := by decide +kernel
theorem dX0_begin_7 : decode cX0_begin 7 = .ok (.aload_n 0, 1) := by decide +kernel
theorem dX0_begin_8 : decode cX0_begin 8 = .ok (.getfield 15, 3) := by decide +kernel
theorem dX0_begin_11 : decode cX0_begin 11 = .ok (.iload_n 1, 1) := by decide +kernel
theorem dX0_begin_12 : decode cX0_begin 12 = .ok (.iload_n 2, 1) := by decide +kernel
theorem dX0_begin_13 : decode cX0_begin 13 = .ok (.iastore, 1) := by decide +kernel
theorem dX0_begin_14 : decode cX0_begin 14 = .ok (.aload_n 0, 1) := by decide +kernel
theorem dX0_begin_15 : decode cX0_begin 15 = .ok (.getfield 19, 3) := by decide +kernel
theorem dX0_begin_18 : decode cX0_begin 18 = .ok (.iload_n 1, 1) := by decide +kernel
theorem dX0_begin_19 : decode cX0_begin 19 = .ok (.iload_n 3, 1) := by decide +kernel
theorem dX0_begin_20 : decode cX0_begin 20 = .ok (.iastore, 1) := by decide +kernel
theorem dX0_begin_21 : decode cX0_begin 21 = .ok (.aload_n 0, 1) := by decide +kernel
theorem dX0_begin_22 : decode cX0_begin 22 = .ok (.dup, 1) := by decide +kernel
theorem dX0_begin_23 : decode cX0_begin 23 = .ok (.getfield 22, 3) := by decide +kernel
theorem dX0_begin_26 : decode cX0_begin 26 = .ok (.iload_n 1, 1) := by decide +kernel
theorem dX0_begin_27 : decode cX0_begin 27 = .ok (.invokestatic 35, 3) := by decide +kernel
theorem dX0_begin_30 : decode cX0_begin 30 = .ok (.lor, 1) := by decide +kernel
theorem dX0_begin_31 : decode cX0_begin 31 = .ok (.putfield 22, 3) := by decide +kernel
theorem dX0_begin_34 : decode cX0_begin 34 = .ok (.return_, 1) := by decide +kernel
theorem dX0_endsAt_0 : decode cX0_endsAt 0 = .ok (.aload_n 0, 1) := by decide +kernel
theorem dX0_endsAt_1 : decode cX0_endsAt 1 = .ok (.getfield 22, 3) := by decide +kernel
theorem dX0_endsAt_4 : decode cX0_endsAt 4 = .ok (.iload_n 1, 1) := by decide +kernel
theorem dX0_endsAt_5 : decode cX0_endsAt 5 = .ok (.invokestatic 29, 3) := by decide +kernel
theorem dX0_endsAt_8 : decode cX0_endsAt 8 = .ok (.ifCond .eq 17, 3) := by decide +kernel
theorem dX0_endsAt_11 : decode cX0_endsAt 11 = .ok (.aload_n 0, 1) := by decide +kernel
theorem dX0_endsAt_12 : decode cX0_endsAt 12 = .ok (.getfield 19, 3) := by decide +kernel
theorem dX0_endsAt_15 : decode cX0_endsAt 15 = .ok (.iload_n 1, 1) := by decide +kernel
theorem dX0_endsAt_16 : decode cX0_endsAt 16 = .ok (.iaload, 1) := by decide +kernel
theorem dX0_endsAt_17 : decode cX0_endsAt 17 = .ok (.iload_n 2, 1) := by decide +kernel
theorem dX0_endsAt_18 : decode cX0_endsAt 18 = .ok (.if_icmp .ne 7, 3) := by decide +kernel
theorem dX0_endsAt_21 : decode cX0_endsAt 21 = .ok (.iconst 1, 1) := by decide +kernel
theorem dX0_endsAt_22 : decode cX0_endsAt 22 = .ok (.goto 4, 3) := by decide +kernel
theorem dX0_endsAt_25 : decode cX0_endsAt 25 = .ok (.iconst 0, 1) := by decide +kernel
theorem dX0_endsAt_26 : decode cX0_endsAt 26 = .ok (.ireturn, 1) := by decide +kernel
theorem dX0_end_0 : decode cX0_end 0 = .ok (.aload_n 0, 1) := by decide +kernel
theorem dX0_end_1 : decode cX0_end 1 = .ok (.getfield 9, 3) := by decide +kernel
theorem dX0_end_4 : decode cX0_end 4 = .ok (.aload_n 0, 1) := by decide +kernel
theorem dX0_end_5 : decode cX0_end 5 = .ok (.getfield 15, 3) := by decide +kernel
theorem dX0_end_8 : decode cX0_end 8 = .ok (.iload_n 1, 1) := by decide +kernel
theorem dX0_end_9 : decode cX0_end 9 = .ok (.iaload, 1) := by decide +kernel
theorem dX0_end_10 : decode cX0_end 10 = .ok (.iconst 0, 1) := by decide +kernel
theorem dX0_end_11 : decode cX0_end 11 = .ok (.bastore, 1) := by decide +kernel
theorem dX0_end_12 : decode cX0_end 12 = .ok (.aload_n 0, 1) := by decide +kernel
theorem dX0_end_13 : decode cX0_end 13 = .ok (.dup, 1) := by decide +kernel
theorem dX0_end_14 : decode cX0_end 14 = .ok (.getfield 22, 3) := by decide +kernel
theorem dX0_end_17 : decode cX0_end 17 = .ok (.iload_n 1, 1) := by decide +kernel
theorem dX0_end_18 : decode cX0_end 18 = .ok (.invokestatic 35, 3) := by decide +kernel
theorem dX0_end_21 : decode cX0_end 21 = .ok (.ldc2_w 33, 3) := by decide +kernel
theorem dX0_end_24 : decode cX0_end 24 = .ok (.lxor, 1) := by decide +kernel
theorem dX0_end_25 : decode cX0_end 25 = .ok (.land, 1) := by decide +kernel
theorem dX0_end_26 : decode cX0_end 26 = .ok (.putfield 22, 3) := by decide +kernel
theorem dX0_end_29 : decode cX0_end 29 = .ok (.aload_n 0, 1) := by decide +kernel
theorem dX0_end_30 : decode cX0_end 30 = .ok (.dup, 1) := by decide +kernel
theorem dX0_end_31 : decode cX0_end 31 = .ok (.getfield 26, 3) := by decide +kernel
theorem dX0_end_34 : decode cX0_end 34 = .ok (.iload_n 1, 1) := by decide +kernel
theorem dX0_end_35 : decode cX0_end 35 = .ok (.invokestatic 35, 3) := by decide +kernel
theorem dX0_end_38 : decode cX0_end 38 = .ok (.lor, 1) := by decide +kernel
theorem dX0_end_39 : decode cX0_end 39 = .ok (.putfield 26, 3) := by decide +kernel
theorem dX0_end_42 : decode cX0_end 42 = .ok (.return_, 1) := by decide +kernel
theorem dX0_nextEnd_0 : decode cX0_nextEnd 0 = .ok (.iconst (-1), 1) := by decide +kernel
theorem dX0_nextEnd_1 : decode cX0_nextEnd 1 = .ok (.istore_n 1, 1) := by decide +kernel
theorem dX0_nextEnd_2 : decode cX0_nextEnd 2 = .ok (.iconst 0, 1) := by decide +kernel
theorem dX0_nextEnd_3 : decode cX0_nextEnd 3 = .ok (.istore_n 2, 1) := by decide +kernel
theorem dX0_nextEnd_4 : decode cX0_nextEnd 4 = .ok (.iload_n 2, 1) := by decide +kernel
theorem dX0_nextEnd_5 : decode cX0_nextEnd 5 = .ok (.bipush 40, 2) := by decide +kernel
theorem dX0_nextEnd_7 : decode cX0_nextEnd 7 = .ok (.if_icmp .ge 42, 3) := by decide +kernel
theorem dX0_nextEnd_10 : decode cX0_nextEnd 10 = .ok (.aload_n 0, 1) := by decide +kernel
theorem dX0_nextEnd_11 : decode cX0_nextEnd 11 = .ok (.getfield 22, 3) := by decide +kernel
theorem dX0_nextEnd_14 : decode cX0_nextEnd 14 = .ok (.iload_n 2, 1) := by decide +kernel
theorem dX0_nextEnd_15 : decode cX0_nextEnd 15 = .ok (.invokestatic 29, 3) := by decide +kernel
theorem dX0_nextEnd_18 : decode cX0_nextEnd 18 = .ok (.ifCond .eq 25, 3) := by decide +kernel
theorem dX0_nextEnd_21 : decode cX0_nextEnd 21 = .ok (.iload_n 1, 1) := by decide +kernel
theorem dX0_nextEnd_22 : decode cX0_nextEnd 22 = .ok (.iconst (-1), 1) := by decide +kernel
theorem dX0_nextEnd_23 : decode cX0_nextEnd 23 = .ok (.if_icmp .eq 13, 3) := by decide +kernel
theorem dX0_nextEnd_26 : decode cX0_nextEnd 26 = .ok (.aload_n 0, 1) := by decide +kernel
theorem dX0_nextEnd_27 : decode cX0_nextEnd 27 = .ok (.getfield 19, 3) := by decide +kernel
theorem dX0_nextEnd_30 : decode cX0_nextEnd 30 = .ok (.iload_n 2, 1) := by decide +kernel
theorem dX0_nextEnd_31 : decode cX0_nextEnd 31 = .ok (.iaload, 1) := by decide +kernel
theorem dX0_nextEnd_32 : decode cX0_nextEnd 32 = .ok (.iload_n 1, 1) := by decide +kernel
theorem dX0_nextEnd_33 : decode cX0_nextEnd 33 = .ok (.if_icmp .ge 10, 3) := by decide +kernel
theorem dX0_nextEnd_36 : decode cX0_nextEnd 36 = .ok (.aload_n 0, 1) := by decide +kernel
theorem dX0_nextEnd_37 : decode cX0_nextEnd 37 = .ok (.getfield 19, 3) := by decide +kernel
theorem dX0_nextEnd_40 : decode cX0_nextEnd 40 = .ok (.iload_n 2, 1) := by decide +kernel
theorem dX0_nextEnd_41 : decode cX0_nextEnd 41 = .ok (.iaload, 1) := by decide +kernel
theorem dX0_nextEnd_42 : decode cX0_nextEnd 42 = .ok (.istore_n 1, 1) := by decide +kernel
theorem dX0_nextEnd_43 : decode cX0_nextEnd 43 = .ok (.iinc 2 1, 3) := by decide +kernel
theorem dX0_nextEnd_46 : decode cX0_nextEnd 46 = .ok (.goto (-42), 3) := by decide +kernel
theorem dX0_nextEnd_49 : decode cX0_nextEnd 49 = .ok (.iload_n 1, 1) := by decide +kernel
theorem dX0_nextEnd_50 : decode cX0_nextEnd 50 = .ok (.ireturn, 1) := by decide +kernel
theorem dX1_init_0 : decode cX1_init 0 = .ok (.aload_n 0, 1) := by decide +kernel
theorem dX1_init_1 : decode cX1_init 1 = .ok (.invokespecial 3, 3) := by decide +kernel
theorem dX1_init_4 : decode cX1_init 4 = .ok (.aload_n 0, 1) := by decide +kernel
theorem dX1_init_5 : decode cX1_init 5 = .ok (.bipush 64, 2) := by decide +kernel
theorem dX1_init_7 : decode cX1_init 7 = .ok (.newarray .int, 2) := by decide +kernel
theorem dX1_init_9 : decode cX1_init 9 = .ok (.putfield 9, 3) := by decide +kernel
theorem dX1_init_12 : decode cX1_init 12 = .ok (.aload_n 0, 1) := by decide +kernel
theorem dX1_init_13 : decode cX1_init 13 = .ok (.bipush 64, 2) := by decide +kernel
theorem dX1_init_15 : decode cX1_init 15 = .ok (.newarray .boolean, 2) := by decide +kernel
theorem dX1_init_17 : decode cX1_init 17 = .ok (.putfield 15, 3) := by decide +kernel
theorem dX1_init_20 : decode cX1_init 20 = .ok (.aload_n 0, 1) := by decide +kernel
theorem dX1_init_21 : decode cX1_init 21 = .ok (.bipush 64, 2) := by decide +kernel
theorem dX1_init_23 : decode cX1_init 23 = .ok (.newarray .int, 2) := by decide +kernel
theorem dX1_init_25 : decode cX1_init 25 = .ok (.putfield 19, 3) := by decide +kernel
theorem dX1_init_28 : decode cX1_init 28 = .ok (.iconst 0, 1) := by decide +kernel
theorem dX1_init_29 : decode cX1_init 29 = .ok (.istore_n 1, 1) := by decide +kernel
theorem dX1_init_30 : decode cX1_init 30 = .ok (.iload_n 1, 1) := by decide +kernel
theorem dX1_init_31 : decode cX1_init 31 = .ok (.bipush 64, 2) := by decide +kernel
theorem dX1_init_33 : decode cX1_init 33 = .ok (.if_icmp .ge 16, 3) := by decide +kernel
theorem dX1_init_36 : decode cX1_init 36 = .ok (.aload_n 0, 1) := by decide +kernel
theorem dX1_init_37 : decode cX1_init 37 = .ok (.getfield 19, 3) := by decide +kernel
theorem dX1_init_40 : decode cX1_init 40 = .ok (.iload_n 1, 1) := by decide +kernel
theorem dX1_init_41 : decode cX1_init 41 = .ok (.iconst (-1), 1) := by decide +kernel
theorem dX1_init_42 : decode cX1_init 42 = .ok (.iastore, 1) := by decide +kernel
theorem dX1_init_43 : decode cX1_init 43 = .ok (.iinc 1 1, 3) := by decide +kernel
theorem dX1_init_46 : decode cX1_init 46 = .ok (.goto (-16), 3) := by decide +kernel
theorem dX1_init_49 : decode cX1_init 49 = .ok (.return_, 1) := by decide +kernel
theorem dX1_makerOf_0 : decode cX1_makerOf 0 = .ok (.aload_n 0, 1) := by decide +kernel
theorem dX1_makerOf_1 : decode cX1_makerOf 1 = .ok (.getfield 19, 3) := by decide +kernel
theorem dX1_makerOf_4 : decode cX1_makerOf 4 = .ok (.iload_n 1, 1) := by decide +kernel
theorem dX1_makerOf_5 : decode cX1_makerOf 5 = .ok (.iaload, 1) := by decide +kernel
theorem dX1_makerOf_6 : decode cX1_makerOf 6 = .ok (.ireturn, 1) := by decide +kernel
theorem dX1_setMaker_0 : decode cX1_setMaker 0 = .ok (.aload_n 0, 1) := by decide +kernel
theorem dX1_setMaker_1 : decode cX1_setMaker 1 = .ok (.getfield 19, 3) := by decide +kernel
theorem dX1_setMaker_4 : decode cX1_setMaker 4 = .ok (.iload_n 1, 1) := by decide +kernel
theorem dX1_setMaker_5 : decode cX1_setMaker 5 = .ok (.iload_n 2, 1) := by decide +kernel
theorem dX1_setMaker_6 : decode cX1_setMaker 6 = .ok (.iastore, 1) := by decide +kernel
theorem dX1_setMaker_7 : decode cX1_setMaker 7 = .ok (.return_, 1) := by decide +kernel
theorem dX1_isFilled_0 : decode cX1_isFilled 0 = .ok (.aload_n 0, 1) := by decide +kernel
theorem dX1_isFilled_1 : decode cX1_isFilled 1 = .ok (.getfield 15, 3) := by decide +kernel
theorem dX1_isFilled_4 : decode cX1_isFilled 4 = .ok (.iload_n 1, 1) := by decide +kernel
theorem dX1_isFilled_5 : decode cX1_isFilled 5 = .ok (.baload, 1) := by decide +kernel
theorem dX1_isFilled_6 : decode cX1_isFilled 6 = .ok (.ireturn, 1) := by decide +kernel
theorem dX1_contentOf_0 : decode cX1_contentOf 0 = .ok (.aload_n 0, 1) := by decide +kernel
theorem dX1_contentOf_1 : decode cX1_contentOf 1 = .ok (.getfield 9, 3) := by decide +kernel
theorem dX1_contentOf_4 : decode cX1_contentOf 4 = .ok (.iload_n 1, 1) := by decide +kernel
theorem dX1_contentOf_5 : decode cX1_contentOf 5 = .ok (.iaload, 1) := by decide +kernel
theorem dX1_contentOf_6 : decode cX1_contentOf 6 = .ok (.ireturn, 1) := by decide +kernel
theorem dX1_fill_0 : decode cX1_fill 0 = .ok (.aload_n 0, 1) := by decide +kernel
theorem dX1_fill_1 : decode cX1_fill 1 = .ok (.getfield 9, 3) := by decide +kernel
theorem dX1_fill_4 : decode cX1_fill 4 = .ok (.iload_n 1, 1) := by decide +kernel
theorem dX1_fill_5 : decode cX1_fill 5 = .ok (.iload_n 2, 1) := by decide +kernel
theorem dX1_fill_6 : decode cX1_fill 6 = .ok (.iastore, 1) := by decide +kernel
theorem dX1_fill_7 : decode cX1_fill 7 = .ok (.aload_n 0, 1) := by decide +kernel
theorem dX1_fill_8 : decode cX1_fill 8 = .ok (.getfield 15, 3) := by decide +kernel
theorem dX1_fill_11 : decode cX1_fill 11 = .ok (.iload_n 1, 1) := by decide +kernel
theorem dX1_fill_12 : decode cX1_fill 12 = .ok (.iconst 1, 1) := by decide +kernel
theorem dX1_fill_13 : decode cX1_fill 13 = .ok (.bastore, 1) := by decide +kernel
theorem dX1_fill_14 : decode cX1_fill 14 = .ok (.return_, 1) := by decide +kernel
theorem dX1_empty_0 : decode cX1_empty 0 = .ok (.aload_n 0, 1) := by decide +kernel
theorem dX1_empty_1 : decode cX1_empty 1 = .ok (.getfield 15, 3) := by decide +kernel
theorem dX1_empty_4 : decode cX1_empty 4 = .ok (.iload_n 1, 1) := by decide +kernel
theorem dX1_empty_5 : decode cX1_empty 5 = .ok (.baload, 1) := by decide +kernel
theorem dX1_empty_6 : decode cX1_empty 6 = .ok (.istore_n 2, 1) := by decide +kernel
theorem dX1_empty_7 : decode cX1_empty 7 = .ok (.aload_n 0, 1) := by decide +kernel
theorem dX1_empty_8 : decode cX1_empty 8 = .ok (.getfield 15, 3) := by decide +kernel
theorem dX1_empty_11 : decode cX1_empty 11 = .ok (.iload_n 1, 1) := by decide +kernel
theorem dX1_empty_12 : decode cX1_empty 12 = .ok (.iconst 0, 1) := by decide +kernel
theorem dX1_empty_13 : decode cX1_empty 13 = .ok (.bastore, 1) := by decide +kernel
theorem dX1_empty_14 : decode cX1_empty 14 = .ok (.iload_n 2, 1) := by decide +kernel
theorem dX1_empty_15 : decode cX1_empty 15 = .ok (.ireturn, 1) := by decide +kernel
theorem dX1_lacksSource_0 : decode cX1_lacksSource 0 = .ok (.aload_n 0, 1) := by decide +kernel
theorem dX1_lacksSource_1 : decode cX1_lacksSource 1 = .ok (.getfield 19, 3) := by decide +kernel
theorem dX1_lacksSource_4 : decode cX1_lacksSource 4 = .ok (.iload_n 1, 1) := by decide +kernel
theorem dX1_lacksSource_5 : decode cX1_lacksSource 5 = .ok (.iaload, 1) := by decide +kernel
theorem dX1_lacksSource_6 : decode cX1_lacksSource 6 = .ok (.iconst (-1), 1) := by decide +kernel
theorem dX1_lacksSource_7 : decode cX1_lacksSource 7 = .ok (.if_icmp .ne 16, 3) := by decide +kernel
theorem dX1_lacksSource_10 : decode cX1_lacksSource 10 = .ok (.aload_n 0, 1) := by decide +kernel
theorem dX1_lacksSource_11 : decode cX1_lacksSource 11 = .ok (.getfield 15, 3) := by decide +kernel
theorem dX1_lacksSource_14 : decode cX1_lacksSource 14 = .ok (.iload_n 1, 1) := by decide +kernel
theorem dX1_lacksSource_15 : decode cX1_lacksSource 15 = .ok (.baload, 1) := by decide +kernel
theorem dX1_lacksSource_16 : decode cX1_lacksSource 16 = .ok (.ifCond .ne 7, 3) := by decide +kernel
theorem dX1_lacksSource_19 : decode cX1_lacksSource 19 = .ok (.iconst 1, 1) := by decide +kernel
theorem dX1_lacksSource_20 : decode cX1_lacksSource 20 = .ok (.goto 4, 3) := by decide +kernel
theorem dX1_lacksSource_23 : decode cX1_lacksSource 23 = .ok (.iconst 0, 1) := by decide +kernel
theorem dX1_lacksSource_24 : decode cX1_lacksSource 24 = .ok (.ireturn, 1) := by decide +kernel
theorem dX1_countFilled_0 : decode cX1_countFilled 0 = .ok (.iconst 0, 1) := by decide +kernel
theorem dX1_countFilled_1 : decode cX1_countFilled 1 = .ok (.istore_n 1, 1) := by decide +kernel
theorem dX1_countFilled_2 : decode cX1_countFilled 2 = .ok (.iconst 0, 1) := by decide +kernel
theorem dX1_countFilled_3 : decode cX1_countFilled 3 = .ok (.istore_n 2, 1) := by decide +kernel
theorem dX1_countFilled_4 : decode cX1_countFilled 4 = .ok (.iload_n 2, 1) := by decide +kernel
theorem dX1_countFilled_5 : decode cX1_countFilled 5 = .ok (.bipush 64, 2) := by decide +kernel
theorem dX1_countFilled_7 : decode cX1_countFilled 7 = .ok (.if_icmp .ge 21, 3) := by decide +kernel
theorem dX1_countFilled_10 : decode cX1_countFilled 10 = .ok (.aload_n 0, 1) := by decide +kernel
theorem dX1_countFilled_11 : decode cX1_countFilled 11 = .ok (.getfield 15, 3) := by decide +kernel
theorem dX1_countFilled_14 : decode cX1_countFilled 14 = .ok (.iload_n 2, 1) := by decide +kernel
theorem dX1_countFilled_15 : decode cX1_countFilled 15 = .ok (.baload, 1) := by decide +kernel
theorem dX1_countFilled_16 : decode cX1_countFilled 16 = .ok (.ifCond .eq 6, 3) := by decide +kernel
theorem dX1_countFilled_19 : decode cX1_countFilled 19 = .ok (.iinc 1 1, 3) := by decide +kernel
theorem dX1_countFilled_22 : decode cX1_countFilled 22 = .ok (.iinc 2 1, 3) := by decide +kernel
theorem dX1_countFilled_25 : decode cX1_countFilled 25 = .ok (.goto (-21), 3) := by decide +kernel
theorem dX1_countFilled_28 : decode cX1_countFilled 28 = .ok (.iload_n 1, 1) := by decide +kernel
theorem dX1_countFilled_29 : decode cX1_countFilled 29 = .ok (.ireturn, 1) := by decide +kernel
theorem dX2_init_0 : decode cX2_init 0 = .ok (.aload_n 0, 1) := by decide +kernel
theorem dX2_init_1 : decode cX2_init 1 = .ok (.invokespecial 3, 3) := by decide +kernel
theorem dX2_init_4 : decode cX2_init 4 = .ok (.aload_n 0, 1) := by decide +kernel
theorem dX2_init_5 : decode cX2_init 5 = .ok (.bipush 40, 2) := by decide +kernel
theorem dX2_init_7 : decode cX2_init 7 = .ok (.newarray .long, 2) := by decide +kernel
theorem dX2_init_9 : decode cX2_init 9 = .ok (.putfield 9, 3) := by decide +kernel
theorem dX2_init_12 : decode cX2_init 12 = .ok (.aload_n 0, 1) := by decide +kernel
theorem dX2_init_13 : decode cX2_init 13 = .ok (.bipush 40, 2) := by decide +kernel
theorem dX2_init_15 : decode cX2_init 15 = .ok (.newarray .int, 2) := by decide +kernel
theorem dX2_init_17 : decode cX2_init 17 = .ok (.putfield 15, 3) := by decide +kernel
theorem dX2_init_20 : decode cX2_init 20 = .ok (.aload_n 0, 1) := by decide +kernel
theorem dX2_init_21 : decode cX2_init 21 = .ok (.bipush 40, 2) := by decide +kernel
theorem dX2_init_23 : decode cX2_init 23 = .ok (.newarray .int, 2) := by decide +kernel
theorem dX2_init_25 : decode cX2_init 25 = .ok (.putfield 19, 3) := by decide +kernel
theorem dX2_init_28 : decode cX2_init 28 = .ok (.return_, 1) := by decide +kernel
theorem dX2_findNeeded_0 : decode cX2_findNeeded 0 = .ok (.iconst 0, 1) := by decide +kernel
theorem dX2_findNeeded_1 : decode cX2_findNeeded 1 = .ok (.istore 4, 2) := by decide +kernel
theorem dX2_findNeeded_3 : decode cX2_findNeeded 3 = .ok (.iload 4, 2) := by decide +kernel
theorem dX2_findNeeded_5 : decode cX2_findNeeded 5 = .ok (.bipush 40, 2) := by decide +kernel
theorem dX2_findNeeded_7 : decode cX2_findNeeded 7 = .ok (.if_icmp .ge 24, 3) := by decide +kernel
theorem dX2_findNeeded_10 : decode cX2_findNeeded 10 = .ok (.aload_n 0, 1) := by decide +kernel
theorem dX2_findNeeded_11 : decode cX2_findNeeded 11 = .ok (.getfield 9, 3) := by decide +kernel
theorem dX2_findNeeded_14 : decode cX2_findNeeded 14 = .ok (.iload 4, 2) := by decide +kernel
theorem dX2_findNeeded_16 : decode cX2_findNeeded 16 = .ok (.aload_n 2, 1) := by decide +kernel
theorem dX2_findNeeded_17 : decode cX2_findNeeded 17 = .ok (.iload 4, 2) := by decide +kernel
theorem dX2_findNeeded_19 : decode cX2_findNeeded 19 = .ok (.aaload, 1) := by decide +kernel
theorem dX2_findNeeded_20 : decode cX2_findNeeded 20 = .ok (.aload_n 3, 1) := by decide +kernel
theorem dX2_findNeeded_21 : decode cX2_findNeeded 21 = .ok (.invokevirtual 22, 3) := by decide +kernel
theorem dX2_findNeeded_24 : decode cX2_findNeeded 24 = .ok (.lastore, 1) := by decide +kernel
theorem dX2_findNeeded_25 : decode cX2_findNeeded 25 = .ok (.iinc 4 1, 3) := by decide +kernel
theorem dX2_findNeeded_28 : decode cX2_findNeeded 28 = .ok (.goto (-25), 3) := by decide +kernel
theorem dX2_findNeeded_31 : decode cX2_findNeeded 31 = .ok (.aload_n 0, 1) := by decide +kernel
theorem dX2_findNeeded_32 : decode cX2_findNeeded 32 = .ok (.iload_n 1, 1) := by decide +kernel
theorem dX2_findNeeded_33 : decode cX2_findNeeded 33 = .ok (.iconst (-1), 1) := by decide +kernel
theorem dX2_findNeeded_34 : decode cX2_findNeeded 34 = .ok (.if_icmp .ne 7, 3) := by decide +kernel
theorem dX2_findNeeded_37 : decode cX2_findNeeded 37 = .ok (.lconst 0, 1) := by decide +kernel
theorem dX2_findNeeded_38 : decode cX2_findNeeded 38 = .ok (.goto 7, 3) := by decide +kernel
theorem dX2_findNeeded_41 : decode cX2_findNeeded 41 = .ok (.iload_n 1, 1) := by decide +kernel
theorem dX2_findNeeded_42 : decode cX2_findNeeded 42 = .ok (.invokestatic 28, 3) := by decide +kernel
theorem dX2_findNeeded_45 : decode cX2_findNeeded 45 = .ok (.putfield 32, 3) := by decide +kernel
theorem dX2_findNeeded_48 : decode cX2_findNeeded 48 = .ok (.iconst 1, 1) := by decide +kernel
theorem dX2_findNeeded_49 : decode cX2_findNeeded 49 = .ok (.istore 4, 2) := by decide +kernel
theorem dX2_findNeeded_51 : decode cX2_findNeeded 51 = .ok (.iconst 0, 1) := by decide +kernel
theorem dX2_findNeeded_52 : decode cX2_findNeeded 52 = .ok (.istore 5, 2) := by decide +kernel
theorem dX2_findNeeded_54 : decode cX2_findNeeded 54 = .ok (.iload 4, 2) := by decide +kernel
theorem dX2_findNeeded_56 : decode cX2_findNeeded 56 = .ok (.ifCond .eq 83, 3) := by decide +kernel
theorem dX2_findNeeded_59 : decode cX2_findNeeded 59 = .ok (.iload 5, 2) := by decide +kernel
theorem dX2_findNeeded_61 : decode cX2_findNeeded 61 = .ok (.bipush 40, 2) := by decide +kernel
theorem dX2_findNeeded_63 : decode cX2_findNeeded 63 = .ok (.if_icmp .ge 76, 3) := by decide +kernel
theorem dX2_findNeeded_66 : decode cX2_findNeeded 66 = .ok (.aload_n 0, 1) := by decide +kernel
theorem dX2_findNeeded_67 : decode cX2_findNeeded 67 = .ok (.getfield 32, 3) := by decide +kernel
theorem dX2_findNeeded_70 : decode cX2_findNeeded 70 = .ok (.lstore 6, 2) := by decide +kernel
theorem dX2_findNeeded_72 : decode cX2_findNeeded 72 = .ok (.iconst 0, 1) := by decide +kernel
theorem dX2_findNeeded_73 : decode cX2_findNeeded 73 = .ok (.istore 8, 2) := by decide +kernel
theorem dX2_findNeeded_75 : decode cX2_findNeeded 75 = .ok (.iload 8, 2) := by decide +kernel
theorem dX2_findNeeded_77 : decode cX2_findNeeded 77 = .ok (.bipush 40, 2) := by decide +kernel
theorem dX2_findNeeded_79 : decode cX2_findNeeded 79 = .ok (.if_icmp .ge 37, 3) := by decide +kernel
theorem dX2_findNeeded_82 : decode cX2_findNeeded 82 = .ok (.aload_n 0, 1) := by decide +kernel
theorem dX2_findNeeded_83 : decode cX2_findNeeded 83 = .ok (.getfield 32, 3) := by decide +kernel
theorem dX2_findNeeded_86 : decode cX2_findNeeded 86 = .ok (.iload 8, 2) := by decide +kernel
theorem dX2_findNeeded_88 : decode cX2_findNeeded 88 = .ok (.invokestatic 36, 3) := by decide +kernel
theorem dX2_findNeeded_91 : decode cX2_findNeeded 91 = .ok (.ifCond .eq 19, 3) := by decide +kernel
theorem dX2_findNeeded_94 : decode cX2_findNeeded 94 = .ok (.aload_n 0, 1) := by decide +kernel
theorem dX2_findNeeded_95 : decode cX2_findNeeded 95 = .ok (.dup, 1) := by decide +kernel
theorem dX2_findNeeded_96 : decode cX2_findNeeded 96 = .ok (.getfield 32, 3) := by decide +kernel
theorem dX2_findNeeded_99 : decode cX2_findNeeded 99 = .ok (.aload_n 0, 1) := by decide +kernel
theorem dX2_findNeeded_100 : decode cX2_findNeeded 100 = .ok (.getfield 9, 3) := by decide +kernel
theorem dX2_findNeeded_103 : decode cX2_findNeeded 103 = .ok (.iload 8, 2) := by decide +kernel
theorem dX2_findNeeded_105 : decode cX2_findNeeded 105 = .ok (.laload, 1) := by decide +kernel
theorem dX2_findNeeded_106 : decode cX2_findNeeded 106 = .ok (.lor, 1) := by decide +kernel
theorem dX2_findNeeded_107 : decode cX2_findNeeded 107 = .ok (.putfield 32, 3) := by decide +kernel
theorem dX2_findNeeded_110 : decode cX2_findNeeded 110 = .ok (.iinc 8 1, 3) := by decide +kernel
theorem dX2_findNeeded_113 : decode cX2_findNeeded 113 = .ok (.goto (-38), 3) := by decide +kernel
theorem dX2_findNeeded_116 : decode cX2_findNeeded 116 = .ok (.aload_n 0, 1) := by decide +kernel
theorem dX2_findNeeded_117 : decode cX2_findNeeded 117 = .ok (.getfield 32, 3) := by decide +kernel
theorem dX2_findNeeded_120 : decode cX2_findNeeded 120 = .ok (.lload 6, 2) := by decide +kernel
theorem dX2_findNeeded_122 : decode cX2_findNeeded 122 = .ok (.lcmp, 1) := by decide +kernel
theorem dX2_findNeeded_123 : decode cX2_findNeeded 123 = .ok (.ifCond .eq 7, 3) := by decide +kernel
theorem dX2_findNeeded_126 : decode cX2_findNeeded 126 = .ok (.iconst 1, 1) := by decide +kernel
theorem dX2_findNeeded_127 : decode cX2_findNeeded 127 = .ok (.goto 4, 3) := by decide +kernel
theorem dX2_findNeeded_130 : decode cX2_findNeeded 130 = .ok (.iconst 0, 1) := by decide +kernel
theorem dX2_findNeeded_131 : decode cX2_findNeeded 131 = .ok (.istore 4, 2) := by decide +kernel
theorem dX2_findNeeded_133 : decode cX2_findNeeded 133 = .ok (.iinc 5 1, 3) := by decide +kernel
theorem dX2_findNeeded_136 : decode cX2_findNeeded 136 = .ok (.goto (-82), 3) := by decide +kernel
theorem dX2_findNeeded_139 : decode cX2_findNeeded 139 = .ok (.return_, 1) := by decide +kernel
theorem dX2_lineUp_0 : decode cX2_lineUp 0 = .ok (.lconst 0, 1) := by decide +kernel
theorem dX2_lineUp_1 : decode cX2_lineUp 1 = .ok (.lstore_n 1, 1) := by decide +kernel
theorem dX2_lineUp_2 : decode cX2_lineUp 2 = .ok (.aload_n 0, 1) := by decide +kernel
theorem dX2_lineUp_3 : decode cX2_lineUp 3 = .ok (.iconst 0, 1) := by decide +kernel
theorem dX2_lineUp_4 : decode cX2_lineUp 4 = .ok (.putfield 40, 3) := by decide +kernel
theorem dX2_lineUp_7 : decode cX2_lineUp 7 = .ok (.iconst 0, 1) := by decide +kernel
theorem dX2_lineUp_8 : decode cX2_lineUp 8 = .ok (.istore_n 3, 1) := by decide +kernel
theorem dX2_lineUp_9 : decode cX2_lineUp 9 = .ok (.lload_n 1, 1) := by decide +kernel
theorem dX2_lineUp_10 : decode cX2_lineUp 10 = .ok (.aload_n 0, 1) := by decide +kernel
theorem dX2_lineUp_11 : decode cX2_lineUp 11 = .ok (.getfield 32, 3) := by decide +kernel
theorem dX2_lineUp_14 : decode cX2_lineUp 14 = .ok (.lcmp, 1) := by decide +kernel
theorem dX2_lineUp_15 : decode cX2_lineUp 15 = .ok (.ifCond .eq 96, 3) := by decide +kernel
theorem dX2_lineUp_18 : decode cX2_lineUp 18 = .ok (.iload_n 3, 1) := by decide +kernel
theorem dX2_lineUp_19 : decode cX2_lineUp 19 = .ok (.bipush 40, 2) := by decide +kernel
theorem dX2_lineUp_21 : decode cX2_lineUp 21 = .ok (.if_icmp .ge 90, 3) := by decide +kernel
theorem dX2_lineUp_24 : decode cX2_lineUp 24 = .ok (.iconst 0, 1) := by decide +kernel
theorem dX2_lineUp_25 : decode cX2_lineUp 25 = .ok (.istore 4, 2) := by decide +kernel
theorem dX2_lineUp_27 : decode cX2_lineUp 27 = .ok (.iload 4, 2) := by decide +kernel
theorem dX2_lineUp_29 : decode cX2_lineUp 29 = .ok (.bipush 40, 2) := by decide +kernel
theorem dX2_lineUp_31 : decode cX2_lineUp 31 = .ok (.if_icmp .ge 74, 3) := by decide +kernel
theorem dX2_lineUp_34 : decode cX2_lineUp 34 = .ok (.aload_n 0, 1) := by decide +kernel
theorem dX2_lineUp_35 : decode cX2_lineUp 35 = .ok (.getfield 32, 3) := by decide +kernel
theorem dX2_lineUp_38 : decode cX2_lineUp 38 = .ok (.lload_n 1, 1) := by decide +kernel
theorem dX2_lineUp_39 : decode cX2_lineUp 39 = .ok (.ldc2_w 44, 3) := by decide +kernel
theorem dX2_lineUp_42 : decode cX2_lineUp 42 = .ok (.lxor, 1) := by decide +kernel
theorem dX2_lineUp_43 : decode cX2_lineUp 43 = .ok (.land, 1) := by decide +kernel
theorem dX2_lineUp_44 : decode cX2_lineUp 44 = .ok (.iload 4, 2) := by decide +kernel
theorem dX2_lineUp_46 : decode cX2_lineUp 46 = .ok (.invokestatic 36, 3) := by decide +kernel
theorem dX2_lineUp_49 : decode cX2_lineUp 49 = .ok (.ifCond .eq 50, 3) := by decide +kernel
theorem dX2_lineUp_52 : decode cX2_lineUp 52 = .ok (.aload_n 0, 1) := by decide +kernel
theorem dX2_lineUp_53 : decode cX2_lineUp 53 = .ok (.getfield 9, 3) := by decide +kernel
theorem dX2_lineUp_56 : decode cX2_lineUp 56 = .ok (.iload 4, 2) := by decide +kernel
theorem dX2_lineUp_58 : decode cX2_lineUp 58 = .ok (.laload, 1) := by decide +kernel
theorem dX2_lineUp_59 : decode cX2_lineUp 59 = .ok (.lload_n 1, 1) := by decide +kernel
theorem dX2_lineUp_60 : decode cX2_lineUp 60 = .ok (.ldc2_w 44, 3) := by decide +kernel
theorem dX2_lineUp_63 : decode cX2_lineUp 63 = .ok (.lxor, 1) := by decide +kernel
theorem dX2_lineUp_64 : decode cX2_lineUp 64 = .ok (.land, 1) := by decide +kernel
theorem dX2_lineUp_65 : decode cX2_lineUp 65 = .ok (.lconst 0, 1) := by decide +kernel
theorem dX2_lineUp_66 : decode cX2_lineUp 66 = .ok (.lcmp, 1) := by decide +kernel
theorem dX2_lineUp_67 : decode cX2_lineUp 67 = .ok (.ifCond .ne 32, 3) := by decide +kernel
theorem dX2_lineUp_70 : decode cX2_lineUp 70 = .ok (.aload_n 0, 1) := by decide +kernel
theorem dX2_lineUp_71 : decode cX2_lineUp 71 = .ok (.getfield 15, 3) := by decide +kernel
theorem dX2_lineUp_74 : decode cX2_lineUp 74 = .ok (.aload_n 0, 1) := by decide +kernel
theorem dX2_lineUp_75 : decode cX2_lineUp 75 = .ok (.getfield 40, 3) := by decide +kernel
theorem dX2_lineUp_78 : decode cX2_lineUp 78 = .ok (.iload 4, 2) := by decide +kernel
theorem dX2_lineUp_80 : decode cX2_lineUp 80 = .ok (.iastore, 1) := by decide +kernel
theorem dX2_lineUp_81 : decode cX2_lineUp 81 = .ok (.aload_n 0, 1) := by decide +kernel
theorem dX2_lineUp_82 : decode cX2_lineUp 82 = .ok (.dup, 1) := by decide +kernel
theorem dX2_lineUp_83 : decode cX2_lineUp 83 = .ok (.getfield 40, 3) := by decide +kernel
theorem dX2_lineUp_86 : decode cX2_lineUp 86 = .ok (.iconst 1, 1) := by decide +kernel
theorem dX2_lineUp_87 : decode cX2_lineUp 87 = .ok (.iadd, 1) := by decide +kernel
theorem dX2_lineUp_88 : decode cX2_lineUp 88 = .ok (.putfield 40, 3) := by decide +kernel
theorem dX2_lineUp_91 : decode cX2_lineUp 91 = .ok (.lload_n 1, 1) := by decide +kernel
theorem dX2_lineUp_92 : decode cX2_lineUp 92 = .ok (.iload 4, 2) := by decide +kernel
theorem dX2_lineUp_94 : decode cX2_lineUp 94 = .ok (.invokestatic 28, 3) := by decide +kernel
theorem dX2_lineUp_97 : decode cX2_lineUp 97 = .ok (.lor, 1) := by decide +kernel
theorem dX2_lineUp_98 : decode cX2_lineUp 98 = .ok (.lstore_n 1, 1) := by decide +kernel
theorem dX2_lineUp_99 : decode cX2_lineUp 99 = .ok (.iinc 4 1, 3) := by decide +kernel
theorem dX2_lineUp_102 : decode cX2_lineUp 102 = .ok (.goto (-75), 3) := by decide +kernel
theorem dX2_lineUp_105 : decode cX2_lineUp 105 = .ok (.iinc 3 1, 3) := by decide +kernel
theorem dX2_lineUp_108 : decode cX2_lineUp 108 = .ok (.goto (-99), 3) := by decide +kernel
theorem dX2_lineUp_111 : decode cX2_lineUp 111 = .ok (.lload_n 1, 1) := by decide +kernel
theorem dX2_lineUp_112 : decode cX2_lineUp 112 = .ok (.aload_n 0, 1) := by decide +kernel
theorem dX2_lineUp_113 : decode cX2_lineUp 113 = .ok (.getfield 32, 3) := by decide +kernel
theorem dX2_lineUp_116 : decode cX2_lineUp 116 = .ok (.lcmp, 1) := by decide +kernel
theorem dX2_lineUp_117 : decode cX2_lineUp 117 = .ok (.ifCond .ne 7, 3) := by decide +kernel
theorem dX2_lineUp_120 : decode cX2_lineUp 120 = .ok (.iconst 1, 1) := by decide +kernel
theorem dX2_lineUp_121 : decode cX2_lineUp 121 = .ok (.goto 4, 3) := by decide +kernel
theorem dX2_lineUp_124 : decode cX2_lineUp 124 = .ok (.iconst 0, 1) := by decide +kernel
theorem dX2_lineUp_125 : decode cX2_lineUp 125 = .ok (.ireturn, 1) := by decide +kernel
theorem dX2_rankSteps_0 : decode cX2_rankSteps 0 = .ok (.iconst 0, 1) := by decide +kernel
theorem dX2_rankSteps_1 : decode cX2_rankSteps 1 = .ok (.istore_n 2, 1) := by decide +kernel
theorem dX2_rankSteps_2 : decode cX2_rankSteps 2 = .ok (.iload_n 2, 1) := by decide +kernel
theorem dX2_rankSteps_3 : decode cX2_rankSteps 3 = .ok (.bipush 40, 2) := by decide +kernel
theorem dX2_rankSteps_5 : decode cX2_rankSteps 5 = .ok (.if_icmp .ge 21, 3) := by decide +kernel
theorem dX2_rankSteps_8 : decode cX2_rankSteps 8 = .ok (.aload_n 0, 1) := by decide +kernel
theorem dX2_rankSteps_9 : decode cX2_rankSteps 9 = .ok (.getfield 19, 3) := by decide +kernel
theorem dX2_rankSteps_12 : decode cX2_rankSteps 12 = .ok (.iload_n 2, 1) := by decide +kernel
theorem dX2_rankSteps_13 : decode cX2_rankSteps 13 = .ok (.aload_n 1, 1) := by decide +kernel
theorem dX2_rankSteps_14 : decode cX2_rankSteps 14 = .ok (.iload_n 2, 1) := by decide +kernel
theorem dX2_rankSteps_15 : decode cX2_rankSteps 15 = .ok (.aaload, 1) := by decide +kernel
theorem dX2_rankSteps_16 : decode cX2_rankSteps 16 = .ok (.getfield 46, 3) := by decide +kernel
theorem dX2_rankSteps_19 : decode cX2_rankSteps 19 = .ok (.iastore, 1) := by decide +kernel
theorem dX2_rankSteps_20 : decode cX2_rankSteps 20 = .ok (.iinc 2 1, 3) := by decide +kernel
theorem dX2_rankSteps_23 : decode cX2_rankSteps 23 = .ok (.goto (-21), 3) := by decide +kernel
theorem dX2_rankSteps_26 : decode cX2_rankSteps 26 = .ok (.aload_n 0, 1) := by decide +kernel
theorem dX2_rankSteps_27 : decode cX2_rankSteps 27 = .ok (.getfield 40, 3) := by decide +kernel
theorem dX2_rankSteps_30 : decode cX2_rankSteps 30 = .ok (.iconst 1, 1) := by decide +kernel
theorem dX2_rankSteps_31 : decode cX2_rankSteps 31 = .ok (.isub, 1) := by decide +kernel
theorem dX2_rankSteps_32 : decode cX2_rankSteps 32 = .ok (.istore_n 2, 1) := by decide +kernel
theorem dX2_rankSteps_33 : decode cX2_rankSteps 33 = .ok (.iload_n 2, 1) := by decide +kernel
theorem dX2_rankSteps_34 : decode cX2_rankSteps 34 = .ok (.ifCond .lt 77, 3) := by decide +kernel
theorem dX2_rankSteps_37 : decode cX2_rankSteps 37 = .ok (.aload_n 0, 1) := by decide +kernel
theorem dX2_rankSteps_38 : decode cX2_rankSteps 38 = .ok (.getfield 15, 3) := by decide +kernel
theorem dX2_rankSteps_41 : decode cX2_rankSteps 41 = .ok (.iload_n 2, 1) := by decide +kernel
theorem dX2_rankSteps_42 : decode cX2_rankSteps 42 = .ok (.iaload, 1) := by decide +kernel
theorem dX2_rankSteps_43 : decode cX2_rankSteps 43 = .ok (.istore_n 3, 1) := by decide +kernel
theorem dX2_rankSteps_44 : decode cX2_rankSteps 44 = .ok (.iconst 0, 1) := by decide +kernel
theorem dX2_rankSteps_45 : decode cX2_rankSteps 45 = .ok (.istore 4, 2) := by decide +kernel
theorem dX2_rankSteps_47 : decode cX2_rankSteps 47 = .ok (.iload 4, 2) := by decide +kernel
theorem dX2_rankSteps_49 : decode cX2_rankSteps 49 = .ok (.bipush 40, 2) := by decide +kernel
theorem dX2_rankSteps_51 : decode cX2_rankSteps 51 = .ok (.if_icmp .ge 54, 3) := by decide +kernel
theorem dX2_rankSteps_54 : decode cX2_rankSteps 54 = .ok (.aload_n 0, 1) := by decide +kernel
theorem dX2_rankSteps_55 : decode cX2_rankSteps 55 = .ok (.getfield 9, 3) := by decide +kernel
theorem dX2_rankSteps_58 : decode cX2_rankSteps 58 = .ok (.iload_n 3, 1) := by decide +kernel
theorem dX2_rankSteps_59 : decode cX2_rankSteps 59 = .ok (.laload, 1) := by decide +kernel
theorem dX2_rankSteps_60 : decode cX2_rankSteps 60 = .ok (.iload 4, 2) := by decide +kernel
theorem dX2_rankSteps_62 : decode cX2_rankSteps 62 = .ok (.invokestatic 36, 3) := by decide +kernel
theorem dX2_rankSteps_65 : decode cX2_rankSteps 65 = .ok (.ifCond .eq 34, 3) := by decide +kernel
theorem dX2_rankSteps_68 : decode cX2_rankSteps 68 = .ok (.aload_n 0, 1) := by decide +kernel
theorem dX2_rankSteps_69 : decode cX2_rankSteps 69 = .ok (.getfield 19, 3) := by decide +kernel
theorem dX2_rankSteps_72 : decode cX2_rankSteps 72 = .ok (.iload 4, 2) := by decide +kernel
theorem dX2_rankSteps_74 : decode cX2_rankSteps 74 = .ok (.aload_n 0, 1) := by decide +kernel
theorem dX2_rankSteps_75 : decode cX2_rankSteps 75 = .ok (.getfield 19, 3) := by decide +kernel
theorem dX2_rankSteps_78 : decode cX2_rankSteps 78 = .ok (.iload 4, 2) := by decide +kernel
theorem dX2_rankSteps_80 : decode cX2_rankSteps 80 = .ok (.iaload, 1) := by decide +kernel
theorem dX2_rankSteps_81 : decode cX2_rankSteps 81 = .ok (.aload_n 1, 1) := by decide +kernel
theorem dX2_rankSteps_82 : decode cX2_rankSteps 82 = .ok (.iload 4, 2) := by decide +kernel
theorem dX2_rankSteps_84 : decode cX2_rankSteps 84 = .ok (.aaload, 1) := by decide +kernel
theorem dX2_rankSteps_85 : decode cX2_rankSteps 85 = .ok (.getfield 46, 3) := by decide +kernel
theorem dX2_rankSteps_88 : decode cX2_rankSteps 88 = .ok (.aload_n 0, 1) := by decide +kernel
theorem dX2_rankSteps_89 : decode cX2_rankSteps 89 = .ok (.getfield 19, 3) := by decide +kernel
theorem dX2_rankSteps_92 : decode cX2_rankSteps 92 = .ok (.iload_n 3, 1) := by decide +kernel
theorem dX2_rankSteps_93 : decode cX2_rankSteps 93 = .ok (.iaload, 1) := by decide +kernel
theorem dX2_rankSteps_94 : decode cX2_rankSteps 94 = .ok (.iadd, 1) := by decide +kernel
theorem dX2_rankSteps_95 : decode cX2_rankSteps 95 = .ok (.invokestatic 49, 3) := by decide +kernel
theorem dX2_rankSteps_98 : decode cX2_rankSteps 98 = .ok (.iastore, 1) := by decide +kernel
theorem dX2_rankSteps_99 : decode cX2_rankSteps 99 = .ok (.iinc 4 1, 3) := by decide +kernel
theorem dX2_rankSteps_102 : decode cX2_rankSteps 102 = .ok (.goto (-55), 3) := by decide +kernel
theorem dX2_rankSteps_105 : decode cX2_rankSteps 105 = .ok (.iinc 2 (-1), 3) := by decide +kernel
theorem dX2_rankSteps_108 : decode cX2_rankSteps 108 = .ok (.goto (-75), 3) := by decide +kernel
theorem dX2_rankSteps_111 : decode cX2_rankSteps 111 = .ok (.return_, 1) := by decide +kernel
theorem dX2_greatestRank_0 : decode cX2_greatestRank 0 = .ok (.iconst 0, 1) := by decide +kernel
theorem dX2_greatestRank_1 : decode cX2_greatestRank 1 = .ok (.istore_n 1, 1) := by decide +kernel
theorem dX2_greatestRank_2 : decode cX2_greatestRank 2 = .ok (.iconst 0, 1) := by decide +kernel
theorem dX2_greatestRank_3 : decode cX2_greatestRank 3 = .ok (.istore_n 2, 1) := by decide +kernel
theorem dX2_greatestRank_4 : decode cX2_greatestRank 4 = .ok (.iload_n 2, 1) := by decide +kernel
theorem dX2_greatestRank_5 : decode cX2_greatestRank 5 = .ok (.aload_n 0, 1) := by decide +kernel
theorem dX2_greatestRank_6 : decode cX2_greatestRank 6 = .ok (.getfield 40, 3) := by decide +kernel
theorem dX2_greatestRank_9 : decode cX2_greatestRank 9 = .ok (.if_icmp .ge 25, 3) := by decide +kernel
theorem dX2_greatestRank_12 : decode cX2_greatestRank 12 = .ok (.iload_n 1, 1) := by decide +kernel
theorem dX2_greatestRank_13 : decode cX2_greatestRank 13 = .ok (.aload_n 0, 1) := by decide +kernel
theorem dX2_greatestRank_14 : decode cX2_greatestRank 14 = .ok (.getfield 19, 3) := by decide +kernel
theorem dX2_greatestRank_17 : decode cX2_greatestRank 17 = .ok (.aload_n 0, 1) := by decide +kernel
theorem dX2_greatestRank_18 : decode cX2_greatestRank 18 = .ok (.getfield 15, 3) := by decide +kernel
theorem dX2_greatestRank_21 : decode cX2_greatestRank 21 = .ok (.iload_n 2, 1) := by decide +kernel
theorem dX2_greatestRank_22 : decode cX2_greatestRank 22 = .ok (.iaload, 1) := by decide +kernel
theorem dX2_greatestRank_23 : decode cX2_greatestRank 23 = .ok (.iaload, 1) := by decide +kernel
theorem dX2_greatestRank_24 : decode cX2_greatestRank 24 = .ok (.invokestatic 49, 3) := by decide +kernel
theorem dX2_greatestRank_27 : decode cX2_greatestRank 27 = .ok (.istore_n 1, 1) := by decide +kernel
theorem dX2_greatestRank_28 : decode cX2_greatestRank 28 = .ok (.iinc 2 1, 3) := by decide +kernel
theorem dX2_greatestRank_31 : decode cX2_greatestRank 31 = .ok (.goto (-27), 3) := by decide +kernel
theorem dX2_greatestRank_34 : decode cX2_greatestRank 34 = .ok (.iload_n 1, 1) := by decide +kernel
theorem dX2_greatestRank_35 : decode cX2_greatestRank 35 = .ok (.ireturn, 1) := by decide +kernel
theorem dX2_waitingFor_0 : decode cX2_waitingFor 0 = .ok (.lconst 0, 1) := by decide +kernel
theorem dX2_waitingFor_1 : decode cX2_waitingFor 1 = .ok (.lstore_n 3, 1) := by decide +kernel
theorem dX2_waitingFor_2 : decode cX2_waitingFor 2 = .ok (.iconst 0, 1) := by decide +kernel
theorem dX2_waitingFor_3 : decode cX2_waitingFor 3 = .ok (.istore 5, 2) := by decide +kernel
theorem dX2_waitingFor_5 : decode cX2_waitingFor 5 = .ok (.iload 5, 2) := by decide +kernel
theorem dX2_waitingFor_7 : decode cX2_waitingFor 7 = .ok (.bipush 40, 2) := by decide +kernel
theorem dX2_waitingFor_9 : decode cX2_waitingFor 9 = .ok (.if_icmp .ge 43, 3) := by decide +kernel
theorem dX2_waitingFor_12 : decode cX2_waitingFor 12 = .ok (.aload_n 0, 1) := by decide +kernel
theorem dX2_waitingFor_13 : decode cX2_waitingFor 13 = .ok (.getfield 32, 3) := by decide +kernel
theorem dX2_waitingFor_16 : decode cX2_waitingFor 16 = .ok (.iload 5, 2) := by decide +kernel
theorem dX2_waitingFor_18 : decode cX2_waitingFor 18 = .ok (.invokestatic 36, 3) := by decide +kernel
theorem dX2_waitingFor_21 : decode cX2_waitingFor 21 = .ok (.ifCond .eq 25, 3) := by decide +kernel
theorem dX2_waitingFor_24 : decode cX2_waitingFor 24 = .ok (.aload_n 0, 1) := by decide +kernel
theorem dX2_waitingFor_25 : decode cX2_waitingFor 25 = .ok (.getfield 9, 3) := by decide +kernel
theorem dX2_waitingFor_28 : decode cX2_waitingFor 28 = .ok (.iload 5, 2) := by decide +kernel
theorem dX2_waitingFor_30 : decode cX2_waitingFor 30 = .ok (.laload, 1) := by decide +kernel
theorem dX2_waitingFor_31 : decode cX2_waitingFor 31 = .ok (.lload_n 1, 1) := by decide +kernel
theorem dX2_waitingFor_32 : decode cX2_waitingFor 32 = .ok (.land, 1) := by decide +kernel
theorem dX2_waitingFor_33 : decode cX2_waitingFor 33 = .ok (.lconst 0, 1) := by decide +kernel
theorem dX2_waitingFor_34 : decode cX2_waitingFor 34 = .ok (.lcmp, 1) := by decide +kernel
theorem dX2_waitingFor_35 : decode cX2_waitingFor 35 = .ok (.ifCond .eq 11, 3) := by decide +kernel
theorem dX2_waitingFor_38 : decode cX2_waitingFor 38 = .ok (.lload_n 3, 1) := by decide +kernel
theorem dX2_waitingFor_39 : decode cX2_waitingFor 39 = .ok (.iload 5, 2) := by decide +kernel
theorem dX2_waitingFor_41 : decode cX2_waitingFor 41 = .ok (.invokestatic 28, 3) := by decide +kernel
theorem dX2_waitingFor_44 : decode cX2_waitingFor 44 = .ok (.lor, 1) := by decide +kernel
theorem dX2_waitingFor_45 : decode cX2_waitingFor 45 = .ok (.lstore_n 3, 1) := by decide +kernel
theorem dX2_waitingFor_46 : decode cX2_waitingFor 46 = .ok (.iinc 5 1, 3) := by decide +kernel
theorem dX2_waitingFor_49 : decode cX2_waitingFor 49 = .ok (.goto (-44), 3) := by decide +kernel
theorem dX2_waitingFor_52 : decode cX2_waitingFor 52 = .ok (.lload_n 3, 1) := by decide +kernel
theorem dX2_waitingFor_53 : decode cX2_waitingFor 53 = .ok (.lreturn, 1) := by decide +kernel
theorem dX3_init_0 : decode cX3_init 0 = .ok (.aload_n 0, 1) := by decide +kernel
theorem dX3_init_1 : decode cX3_init 1 = .ok (.invokespecial 3, 3) := by decide +kernel
theorem dX3_init_4 : decode cX3_init 4 = .ok (.aload_n 0, 1) := by decide +kernel
theorem dX3_init_5 : decode cX3_init 5 = .ok (.sipush 200, 3) := by decide +kernel
theorem dX3_init_8 : decode cX3_init 8 = .ok (.newarray .int, 2) := by decide +kernel
theorem dX3_init_10 : decode cX3_init 10 = .ok (.putfield 11, 3) := by decide +kernel
theorem dX3_init_13 : decode cX3_init 13 = .ok (.return_, 1) := by decide +kernel
theorem dX3_open_0 : decode cX3_open 0 = .ok (.aload_n 0, 1) := by decide +kernel
theorem dX3_open_1 : decode cX3_open 1 = .ok (.aload_n 1, 1) := by decide +kernel
theorem dX3_open_2 : decode cX3_open 2 = .ok (.getfield 15, 3) := by decide +kernel
theorem dX3_open_5 : decode cX3_open 5 = .ok (.putfield 21, 3) := by decide +kernel
theorem dX3_open_8 : decode cX3_open 8 = .ok (.aload_n 0, 1) := by decide +kernel
theorem dX3_open_9 : decode cX3_open 9 = .ok (.iconst 0, 1) := by decide +kernel
theorem dX3_open_10 : decode cX3_open 10 = .ok (.putfield 24, 3) := by decide +kernel
theorem dX3_open_13 : decode cX3_open 13 = .ok (.aload_n 0, 1) := by decide +kernel
theorem dX3_open_14 : decode cX3_open 14 = .ok (.iconst 0, 1) := by decide +kernel
theorem dX3_open_15 : decode cX3_open 15 = .ok (.putfield 27, 3) := by decide +kernel
theorem dX3_open_18 : decode cX3_open 18 = .ok (.aload_n 0, 1) := by decide +kernel
theorem dX3_open_19 : decode cX3_open 19 = .ok (.aload_n 1, 1) := by decide +kernel
theorem dX3_open_20 : decode cX3_open 20 = .ok (.invokevirtual 30, 3) := by decide +kernel
theorem dX3_open_23 : decode cX3_open 23 = .ok (.putfield 34, 3) := by decide +kernel
theorem dX3_open_26 : decode cX3_open 26 = .ok (.return_, 1) := by decide +kernel
theorem dX3_add_0 : decode cX3_add 0 = .ok (.aload_n 0, 1) := by decide +kernel
theorem dX3_add_1 : decode cX3_add 1 = .ok (.getfield 24, 3) := by decide +kernel
theorem dX3_add_4 : decode cX3_add 4 = .ok (.bipush 40, 2) := by decide +kernel
theorem dX3_add_6 : decode cX3_add 6 = .ok (.if_icmp .lt 4, 3) := by decide +kernel
theorem dX3_add_9 : decode cX3_add 9 = .ok (.return_, 1) := by decide +kernel
theorem dX3_add_10 : decode cX3_add 10 = .ok (.aload_n 0, 1) := by decide +kernel
theorem dX3_add_11 : decode cX3_add 11 = .ok (.getfield 24, 3) := by decide +kernel
theorem dX3_add_14 : decode cX3_add 14 = .ok (.iconst 5, 1) := by decide +kernel
theorem dX3_add_15 : decode cX3_add 15 = .ok (.imul, 1) := by decide +kernel
theorem dX3_add_16 : decode cX3_add 16 = .ok (.istore 6, 2) := by decide +kernel
theorem dX3_add_18 : decode cX3_add 18 = .ok (.aload_n 0, 1) := by decide +kernel
theorem dX3_add_19 : decode cX3_add 19 = .ok (.getfield 11, 3) := by decide +kernel
theorem dX3_add_22 : decode cX3_add 22 = .ok (.iload 6, 2) := by decide +kernel
theorem dX3_add_24 : decode cX3_add 24 = .ok (.iload_n 1, 1) := by decide +kernel
theorem dX3_add_25 : decode cX3_add 25 = .ok (.iastore, 1) := by decide +kernel
theorem dX3_add_26 : decode cX3_add 26 = .ok (.aload_n 0, 1) := by decide +kernel
theorem dX3_add_27 : decode cX3_add 27 = .ok (.getfield 11, 3) := by decide +kernel
theorem dX3_add_30 : decode cX3_add 30 = .ok (.iload 6, 2) := by decide +kernel
theorem dX3_add_32 : decode cX3_add 32 = .ok (.iconst 1, 1) := by decide +kernel
theorem dX3_add_33 : decode cX3_add 33 = .ok (.iadd, 1) := by decide +kernel
theorem dX3_add_34 : decode cX3_add 34 = .ok (.iload_n 2, 1) := by decide +kernel
theorem dX3_add_35 : decode cX3_add 35 = .ok (.iastore, 1) := by decide +kernel
theorem dX3_add_36 : decode cX3_add 36 = .ok (.aload_n 0, 1) := by decide +kernel
theorem dX3_add_37 : decode cX3_add 37 = .ok (.getfield 11, 3) := by decide +kernel
theorem dX3_add_40 : decode cX3_add 40 = .ok (.iload 6, 2) := by decide +kernel
theorem dX3_add_42 : decode cX3_add 42 = .ok (.iconst 2, 1) := by decide +kernel
theorem dX3_add_43 : decode cX3_add 43 = .ok (.iadd, 1) := by decide +kernel
theorem dX3_add_44 : decode cX3_add 44 = .ok (.iload_n 3, 1) := by decide +kernel
theorem dX3_add_45 : decode cX3_add 45 = .ok (.iastore, 1) := by decide +kernel
theorem dX3_add_46 : decode cX3_add 46 = .ok (.aload_n 0, 1) := by decide +kernel
theorem dX3_add_47 : decode cX3_add 47 = .ok (.getfield 11, 3) := by decide +kernel
theorem dX3_add_50 : decode cX3_add 50 = .ok (.iload 6, 2) := by decide +kernel
theorem dX3_add_52 : decode cX3_add 52 = .ok (.iconst 3, 1) := by decide +kernel
theorem dX3_add_53 : decode cX3_add 53 = .ok (.iadd, 1) := by decide +kernel
theorem dX3_add_54 : decode cX3_add 54 = .ok (.iload 4, 2) := by decide +kernel
theorem dX3_add_56 : decode cX3_add 56 = .ok (.iastore, 1) := by decide +kernel
theorem dX3_add_57 : decode cX3_add 57 = .ok (.aload_n 0, 1) := by decide +kernel
theorem dX3_add_58 : decode cX3_add 58 = .ok (.getfield 11, 3) := by decide +kernel
theorem dX3_add_61 : decode cX3_add 61 = .ok (.iload 6, 2) := by decide +kernel
theorem dX3_add_63 : decode cX3_add 63 = .ok (.iconst 4, 1) := by decide +kernel
theorem dX3_add_64 : decode cX3_add 64 = .ok (.iadd, 1) := by decide +kernel
theorem dX3_add_65 : decode cX3_add 65 = .ok (.iload 5, 2) := by decide +kernel
theorem dX3_add_67 : decode cX3_add 67 = .ok (.iastore, 1) := by decide +kernel
theorem dX3_add_68 : decode cX3_add 68 = .ok (.aload_n 0, 1) := by decide +kernel
theorem dX3_add_69 : decode cX3_add 69 = .ok (.dup, 1) := by decide +kernel
theorem dX3_add_70 : decode cX3_add 70 = .ok (.getfield 24, 3) := by decide +kernel
theorem dX3_add_73 : decode cX3_add 73 = .ok (.iconst 1, 1) := by decide +kernel
theorem dX3_add_74 : decode cX3_add 74 = .ok (.iadd, 1) := by decide +kernel
theorem dX3_add_75 : decode cX3_add 75 = .ok (.putfield 24, 3) := by decide +kernel
theorem dX3_add_78 : decode cX3_add 78 = .ok (.aload_n 0, 1) := by decide +kernel
theorem dX3_add_79 : decode cX3_add 79 = .ok (.dup, 1) := by decide +kernel
theorem dX3_add_80 : decode cX3_add 80 = .ok (.getfield 27, 3) := by decide +kernel
theorem dX3_add_83 : decode cX3_add 83 = .ok (.iload_n 3, 1) := by decide +kernel
theorem dX3_add_84 : decode cX3_add 84 = .ok (.iload_n 2, 1) := by decide +kernel
theorem dX3_add_85 : decode cX3_add 85 = .ok (.isub, 1) := by decide +kernel
theorem dX3_add_86 : decode cX3_add 86 = .ok (.iadd, 1) := by decide +kernel
theorem dX3_add_87 : decode cX3_add 87 = .ok (.putfield 27, 3) := by decide +kernel
theorem dX3_add_90 : decode cX3_add 90 = .ok (.return_, 1) := by decide +kernel
theorem dX3_cell_0 : decode cX3_cell 0 = .ok (.aload_n 0, 1) := by decide +kernel
theorem dX3_cell_1 : decode cX3_cell 1 = .ok (.getfield 11, 3) := by decide +kernel
theorem dX3_cell_4 : decode cX3_cell 4 = .ok (.iload_n 1, 1) := by decide +kernel
theorem dX3_cell_5 : decode cX3_cell 5 = .ok (.iconst 5, 1) := by decide +kernel
theorem dX3_cell_6 : decode cX3_cell 6 = .ok (.imul, 1) := by decide +kernel
theorem dX3_cell_7 : decode cX3_cell 7 = .ok (.iload_n 2, 1) := by decide +kernel
theorem dX3_cell_8 : decode cX3_cell 8 = .ok (.iadd, 1) := by decide +kernel
theorem dX3_cell_9 : decode cX3_cell 9 = .ok (.iaload, 1) := by decide +kernel
theorem dX3_cell_10 : decode cX3_cell 10 = .ok (.ireturn, 1) := by decide +kernel
theorem dX4_init_0 : decode cX4_init 0 = .ok (.aload_n 0, 1) := by decide +kernel
theorem dX4_init_1 : decode cX4_init 1 = .ok (.invokespecial 3, 3) := by decide +kernel
theorem dX4_init_4 : decode cX4_init 4 = .ok (.aload_n 0, 1) := by decide +kernel
theorem dX4_init_5 : decode cX4_init 5 = .ok (.bipush 40, 2) := by decide +kernel
theorem dX4_init_7 : decode cX4_init 7 = .ok (.newarray .int, 2) := by decide +kernel
theorem dX4_init_9 : decode cX4_init 9 = .ok (.putfield 9, 3) := by decide +kernel
theorem dX4_init_12 : decode cX4_init 12 = .ok (.aload_n 0, 1) := by decide +kernel
theorem dX4_init_13 : decode cX4_init 13 = .ok (.bipush 41, 2) := by decide +kernel
theorem dX4_init_15 : decode cX4_init 15 = .ok (.newarray .long, 2) := by decide +kernel
theorem dX4_init_17 : decode cX4_init 17 = .ok (.putfield 15, 3) := by decide +kernel
theorem dX4_init_20 : decode cX4_init 20 = .ok (.return_, 1) := by decide +kernel
theorem dX4_find_0 : decode cX4_find 0 = .ok (.iconst 0, 1) := by decide +kernel
theorem dX4_find_1 : decode cX4_find 1 = .ok (.istore_n 2, 1) := by decide +kernel
theorem dX4_find_2 : decode cX4_find 2 = .ok (.iload_n 2, 1) := by decide +kernel
theorem dX4_find_3 : decode cX4_find 3 = .ok (.bipush 40, 2) := by decide +kernel
theorem dX4_find_5 : decode cX4_find 5 = .ok (.if_icmp .ge 39, 3) := by decide +kernel
theorem dX4_find_8 : decode cX4_find 8 = .ok (.aload_n 1, 1) := by decide +kernel
theorem dX4_find_9 : decode cX4_find 9 = .ok (.getfield 19, 3) := by decide +kernel
theorem dX4_find_12 : decode cX4_find 12 = .ok (.iload_n 2, 1) := by decide +kernel
theorem dX4_find_13 : decode cX4_find 13 = .ok (.invokestatic 25, 3) := by decide +kernel
theorem dX4_find_16 : decode cX4_find 16 = .ok (.ifCond .eq 22, 3) := by decide +kernel
theorem dX4_find_19 : decode cX4_find 19 = .ok (.aload_n 0, 1) := by decide +kernel
theorem dX4_find_20 : decode cX4_find 20 = .ok (.iload_n 2, 1) := by decide +kernel
theorem dX4_find_21 : decode cX4_find 21 = .ok (.aload_n 1, 1) := by decide +kernel
theorem dX4_find_22 : decode cX4_find 22 = .ok (.invokevirtual 29, 3) := by decide +kernel
theorem dX4_find_25 : decode cX4_find 25 = .ok (.istore_n 3, 1) := by decide +kernel
theorem dX4_find_26 : decode cX4_find 26 = .ok (.iload_n 3, 1) := by decide +kernel
theorem dX4_find_27 : decode cX4_find 27 = .ok (.ifCond .le 11, 3) := by decide +kernel
theorem dX4_find_30 : decode cX4_find 30 = .ok (.aload_n 0, 1) := by decide +kernel
theorem dX4_find_31 : decode cX4_find 31 = .ok (.iload_n 2, 1) := by decide +kernel
theorem dX4_find_32 : decode cX4_find 32 = .ok (.iload_n 3, 1) := by decide +kernel
theorem dX4_find_33 : decode cX4_find 33 = .ok (.aload_n 1, 1) := by decide +kernel
theorem dX4_find_34 : decode cX4_find 34 = .ok (.invokevirtual 33, 3) := by decide +kernel
theorem dX4_find_37 : decode cX4_find 37 = .ok (.return_, 1) := by decide +kernel
theorem dX4_find_38 : decode cX4_find 38 = .ok (.iinc 2 1, 3) := by decide +kernel
theorem dX4_find_41 : decode cX4_find 41 = .ok (.goto (-39), 3) := by decide +kernel
theorem dX4_find_44 : decode cX4_find 44 = .ok (.return_, 1) := by decide +kernel
