theorem dX7_isReady_0 : decode cX7_isReady 0 = .ok (.aload_n 0, 1) := by decide +kernel
theorem dX7_isReady_1 : decode cX7_isReady 1 = .ok (.getfield 68, 3) := by decide +kernel
theorem dX7_isReady_4 : decode cX7_isReady 4 = .ok (.iload_n 1, 1) := by decide +kernel
theorem dX7_isReady_5 : decode cX7_isReady 5 = .ok (.baload, 1) := by decide +kernel
theorem dX7_isReady_6 : decode cX7_isReady 6 = .ok (.ifCond .eq 12, 3) := by decide +kernel
theorem dX7_isReady_9 : decode cX7_isReady 9 = .ok (.aload_n 0, 1) := by decide +kernel
theorem dX7_isReady_10 : decode cX7_isReady 10 = .ok (.getfield 74, 3) := by decide +kernel
theorem dX7_isReady_13 : decode cX7_isReady 13 = .ok (.iload_n 1, 1) := by decide +kernel
theorem dX7_isReady_14 : decode cX7_isReady 14 = .ok (.iaload, 1) := by decide +kernel
theorem dX7_isReady_15 : decode cX7_isReady 15 = .ok (.ifCond .eq 5, 3) := by decide +kernel
theorem dX7_isReady_18 : decode cX7_isReady 18 = .ok (.iconst 0, 1) := by decide +kernel
theorem dX7_isReady_19 : decode cX7_isReady 19 = .ok (.ireturn, 1) := by decide +kernel
theorem dX7_isReady_20 : decode cX7_isReady 20 = .ok (.iconst 1, 1) := by decide +kernel
theorem dX7_isReady_21 : decode cX7_isReady 21 = .ok (.istore_n 2, 1) := by decide +kernel
theorem dX7_isReady_22 : decode cX7_isReady 22 = .ok (.iconst 0, 1) := by decide +kernel
theorem dX7_isReady_23 : decode cX7_isReady 23 = .ok (.istore_n 3, 1) := by decide +kernel
theorem dX7_isReady_24 : decode cX7_isReady 24 = .ok (.iload_n 3, 1) := by decide +kernel
theorem dX7_isReady_25 : decode cX7_isReady 25 = .ok (.aload_n 0, 1) := by decide +kernel
theorem dX7_isReady_26 : decode cX7_isReady 26 = .ok (.getfield 32, 3) := by decide +kernel
theorem dX7_isReady_29 : decode cX7_isReady 29 = .ok (.iload_n 1, 1) := by decide +kernel
theorem dX7_isReady_30 : decode cX7_isReady 30 = .ok (.iaload, 1) := by decide +kernel
theorem dX7_isReady_31 : decode cX7_isReady 31 = .ok (.if_icmp .ge 54, 3) := by decide +kernel
theorem dX7_isReady_34 : decode cX7_isReady 34 = .ok (.aload_n 0, 1) := by decide +kernel
theorem dX7_isReady_35 : decode cX7_isReady 35 = .ok (.getfield 17, 3) := by decide +kernel
theorem dX7_isReady_38 : decode cX7_isReady 38 = .ok (.aload_n 0, 1) := by decide +kernel
theorem dX7_isReady_39 : decode cX7_isReady 39 = .ok (.getfield 38, 3) := by decide +kernel
theorem dX7_isReady_42 : decode cX7_isReady 42 = .ok (.bipush 6, 2) := by decide +kernel
theorem dX7_isReady_44 : decode cX7_isReady 44 = .ok (.iload_n 1, 1) := by decide +kernel
theorem dX7_isReady_45 : decode cX7_isReady 45 = .ok (.imul, 1) := by decide +kernel
theorem dX7_isReady_46 : decode cX7_isReady 46 = .ok (.iload_n 3, 1) := by decide +kernel
theorem dX7_isReady_47 : decode cX7_isReady 47 = .ok (.iadd, 1) := by decide +kernel
theorem dX7_isReady_48 : decode cX7_isReady 48 = .ok (.iaload, 1) := by decide +kernel
theorem dX7_isReady_49 : decode cX7_isReady 49 = .ok (.iaload, 1) := by decide +kernel
theorem dX7_isReady_50 : decode cX7_isReady 50 = .ok (.istore 4, 2) := by decide +kernel
theorem dX7_isReady_52 : decode cX7_isReady 52 = .ok (.iload_n 2, 1) := by decide +kernel
theorem dX7_isReady_53 : decode cX7_isReady 53 = .ok (.ifCond .eq 24, 3) := by decide +kernel
theorem dX7_isReady_56 : decode cX7_isReady 56 = .ok (.iload 4, 2) := by decide +kernel
theorem dX7_isReady_58 : decode cX7_isReady 58 = .ok (.iconst (-1), 1) := by decide +kernel
theorem dX7_isReady_59 : decode cX7_isReady 59 = .ok (.if_icmp .eq 14, 3) := by decide +kernel
theorem dX7_isReady_62 : decode cX7_isReady 62 = .ok (.aload_n 0, 1) := by decide +kernel
theorem dX7_isReady_63 : decode cX7_isReady 63 = .ok (.getfield 74, 3) := by decide +kernel
theorem dX7_isReady_66 : decode cX7_isReady 66 = .ok (.iload 4, 2) := by decide +kernel
theorem dX7_isReady_68 : decode cX7_isReady 68 = .ok (.iaload, 1) := by decide +kernel
theorem dX7_isReady_69 : decode cX7_isReady 69 = .ok (.iconst 2, 1) := by decide +kernel
theorem dX7_isReady_70 : decode cX7_isReady 70 = .ok (.if_icmp .ne 7, 3) := by decide +kernel
theorem dX7_isReady_73 : decode cX7_isReady 73 = .ok (.iconst 1, 1) := by decide +kernel
theorem dX7_isReady_74 : decode cX7_isReady 74 = .ok (.goto 4, 3) := by decide +kernel
theorem dX7_isReady_77 : decode cX7_isReady 77 = .ok (.iconst 0, 1) := by decide +kernel
theorem dX7_isReady_78 : decode cX7_isReady 78 = .ok (.istore_n 2, 1) := by decide +kernel
theorem dX7_isReady_79 : decode cX7_isReady 79 = .ok (.iinc 3 1, 3) := by decide +kernel
theorem dX7_isReady_82 : decode cX7_isReady 82 = .ok (.goto (-58), 3) := by decide +kernel
theorem dX7_isReady_85 : decode cX7_isReady 85 = .ok (.iload_n 2, 1) := by decide +kernel
theorem dX7_isReady_86 : decode cX7_isReady 86 = .ok (.ireturn, 1) := by decide +kernel
theorem dX7_end_0 : decode cX7_end 0 = .ok (.aload_n 0, 1) := by decide +kernel
theorem dX7_end_1 : decode cX7_end 1 = .ok (.getfield 74, 3) := by decide +kernel
theorem dX7_end_4 : decode cX7_end 4 = .ok (.iload_n 1, 1) := by decide +kernel
theorem dX7_end_5 : decode cX7_end 5 = .ok (.iconst 2, 1) := by decide +kernel
theorem dX7_end_6 : decode cX7_end 6 = .ok (.iastore, 1) := by decide +kernel
theorem dX7_end_7 : decode cX7_end 7 = .ok (.aload_n 0, 1) := by decide +kernel
theorem dX7_end_8 : decode cX7_end 8 = .ok (.getfield 86, 3) := by decide +kernel
theorem dX7_end_11 : decode cX7_end 11 = .ok (.aload_n 0, 1) := by decide +kernel
theorem dX7_end_12 : decode cX7_end 12 = .ok (.getfield 83, 3) := by decide +kernel
theorem dX7_end_15 : decode cX7_end 15 = .ok (.iload_n 1, 1) := by decide +kernel
theorem dX7_end_16 : decode cX7_end 16 = .ok (.iaload, 1) := by decide +kernel
theorem dX7_end_17 : decode cX7_end 17 = .ok (.iconst 0, 1) := by decide +kernel
theorem dX7_end_18 : decode cX7_end 18 = .ok (.bastore, 1) := by decide +kernel
theorem dX7_end_19 : decode cX7_end 19 = .ok (.iconst 0, 1) := by decide +kernel
theorem dX7_end_20 : decode cX7_end 20 = .ok (.istore_n 2, 1) := by decide +kernel
theorem dX7_end_21 : decode cX7_end 21 = .ok (.iload_n 2, 1) := by decide +kernel
theorem dX7_end_22 : decode cX7_end 22 = .ok (.aload_n 0, 1) := by decide +kernel
theorem dX7_end_23 : decode cX7_end 23 = .ok (.getfield 35, 3) := by decide +kernel
theorem dX7_end_26 : decode cX7_end 26 = .ok (.iload_n 1, 1) := by decide +kernel
theorem dX7_end_27 : decode cX7_end 27 = .ok (.iaload, 1) := by decide +kernel
theorem dX7_end_28 : decode cX7_end 28 = .ok (.if_icmp .ge 59, 3) := by decide +kernel
theorem dX7_end_31 : decode cX7_end 31 = .ok (.aload_n 0, 1) := by decide +kernel
theorem dX7_end_32 : decode cX7_end 32 = .ok (.getfield 41, 3) := by decide +kernel
theorem dX7_end_35 : decode cX7_end 35 = .ok (.iconst 3, 1) := by decide +kernel
theorem dX7_end_36 : decode cX7_end 36 = .ok (.iload_n 1, 1) := by decide +kernel
theorem dX7_end_37 : decode cX7_end 37 = .ok (.imul, 1) := by decide +kernel
theorem dX7_end_38 : decode cX7_end 38 = .ok (.iload_n 2, 1) := by decide +kernel
theorem dX7_end_39 : decode cX7_end 39 = .ok (.iadd, 1) := by decide +kernel
theorem dX7_end_40 : decode cX7_end 40 = .ok (.iaload, 1) := by decide +kernel
theorem dX7_end_41 : decode cX7_end 41 = .ok (.istore_n 3, 1) := by decide +kernel
theorem dX7_end_42 : decode cX7_end 42 = .ok (.aload_n 0, 1) := by decide +kernel
theorem dX7_end_43 : decode cX7_end 43 = .ok (.getfield 7, 3) := by decide +kernel
theorem dX7_end_46 : decode cX7_end 46 = .ok (.iload_n 3, 1) := by decide +kernel
theorem dX7_end_47 : decode cX7_end 47 = .ok (.iconst 1, 1) := by decide +kernel
theorem dX7_end_48 : decode cX7_end 48 = .ok (.bastore, 1) := by decide +kernel
theorem dX7_end_49 : decode cX7_end 49 = .ok (.aload_n 0, 1) := by decide +kernel
theorem dX7_end_50 : decode cX7_end 50 = .ok (.getfield 13, 3) := by decide +kernel
theorem dX7_end_53 : decode cX7_end 53 = .ok (.iload_n 3, 1) := by decide +kernel
theorem dX7_end_54 : decode cX7_end 54 = .ok (.aload_n 0, 1) := by decide +kernel
theorem dX7_end_55 : decode cX7_end 55 = .ok (.getfield 80, 3) := by decide +kernel
theorem dX7_end_58 : decode cX7_end 58 = .ok (.iload_n 1, 1) := by decide +kernel
theorem dX7_end_59 : decode cX7_end 59 = .ok (.iaload, 1) := by decide +kernel
theorem dX7_end_60 : decode cX7_end 60 = .ok (.iload_n 2, 1) := by decide +kernel
theorem dX7_end_61 : decode cX7_end 61 = .ok (.iadd, 1) := by decide +kernel
theorem dX7_end_62 : decode cX7_end 62 = .ok (.aload_n 0, 1) := by decide +kernel
theorem dX7_end_63 : decode cX7_end 63 = .ok (.getfield 26, 3) := by decide +kernel
theorem dX7_end_66 : decode cX7_end 66 = .ok (.iload_n 1, 1) := by decide +kernel
theorem dX7_end_67 : decode cX7_end 67 = .ok (.iaload, 1) := by decide +kernel
theorem dX7_end_68 : decode cX7_end 68 = .ok (.iand, 1) := by decide +kernel
theorem dX7_end_69 : decode cX7_end 69 = .ok (.iastore, 1) := by decide +kernel
theorem dX7_end_70 : decode cX7_end 70 = .ok (.aload_n 0, 1) := by decide +kernel
theorem dX7_end_71 : decode cX7_end 71 = .ok (.getfield 62, 3) := by decide +kernel
theorem dX7_end_74 : decode cX7_end 74 = .ok (.iconst 3, 1) := by decide +kernel
theorem dX7_end_75 : decode cX7_end 75 = .ok (.iload_n 1, 1) := by decide +kernel
theorem dX7_end_76 : decode cX7_end 76 = .ok (.imul, 1) := by decide +kernel
theorem dX7_end_77 : decode cX7_end 77 = .ok (.iload_n 2, 1) := by decide +kernel
theorem dX7_end_78 : decode cX7_end 78 = .ok (.iadd, 1) := by decide +kernel
theorem dX7_end_79 : decode cX7_end 79 = .ok (.iload_n 3, 1) := by decide +kernel
theorem dX7_end_80 : decode cX7_end 80 = .ok (.iastore, 1) := by decide +kernel
theorem dX7_end_81 : decode cX7_end 81 = .ok (.iinc 2 1, 3) := by decide +kernel
theorem dX7_end_84 : decode cX7_end 84 = .ok (.goto (-63), 3) := by decide +kernel
theorem dX7_end_87 : decode cX7_end 87 = .ok (.aload_n 0, 1) := by decide +kernel
theorem dX7_end_88 : decode cX7_end 88 = .ok (.getfield 44, 3) := by decide +kernel
theorem dX7_end_91 : decode cX7_end 91 = .ok (.iload_n 1, 1) := by decide +kernel
theorem dX7_end_92 : decode cX7_end 92 = .ok (.iconst 1, 1) := by decide +kernel
theorem dX7_end_93 : decode cX7_end 93 = .ok (.bastore, 1) := by decide +kernel
theorem dX7_end_94 : decode cX7_end 94 = .ok (.aload_n 0, 1) := by decide +kernel
theorem dX7_end_95 : decode cX7_end 95 = .ok (.getfield 47, 3) := by decide +kernel
theorem dX7_end_98 : decode cX7_end 98 = .ok (.iload_n 1, 1) := by decide +kernel
theorem dX7_end_99 : decode cX7_end 99 = .ok (.aload_n 0, 1) := by decide +kernel
theorem dX7_end_100 : decode cX7_end 100 = .ok (.getfield 23, 3) := by decide +kernel
theorem dX7_end_103 : decode cX7_end 103 = .ok (.iload_n 1, 1) := by decide +kernel
theorem dX7_end_104 : decode cX7_end 104 = .ok (.iaload, 1) := by decide +kernel
theorem dX7_end_105 : decode cX7_end 105 = .ok (.iastore, 1) := by decide +kernel
theorem dX7_end_106 : decode cX7_end 106 = .ok (.aload_n 0, 1) := by decide +kernel
theorem dX7_end_107 : decode cX7_end 107 = .ok (.getfield 50, 3) := by decide +kernel
theorem dX7_end_110 : decode cX7_end 110 = .ok (.iload_n 1, 1) := by decide +kernel
theorem dX7_end_111 : decode cX7_end 111 = .ok (.aload_n 0, 1) := by decide +kernel
theorem dX7_end_112 : decode cX7_end 112 = .ok (.getfield 26, 3) := by decide +kernel
theorem dX7_end_115 : decode cX7_end 115 = .ok (.iload_n 1, 1) := by decide +kernel
theorem dX7_end_116 : decode cX7_end 116 = .ok (.iaload, 1) := by decide +kernel
theorem dX7_end_117 : decode cX7_end 117 = .ok (.iastore, 1) := by decide +kernel
theorem dX7_end_118 : decode cX7_end 118 = .ok (.aload_n 0, 1) := by decide +kernel
theorem dX7_end_119 : decode cX7_end 119 = .ok (.getfield 53, 3) := by decide +kernel
theorem dX7_end_122 : decode cX7_end 122 = .ok (.iload_n 1, 1) := by decide +kernel
theorem dX7_end_123 : decode cX7_end 123 = .ok (.aload_n 0, 1) := by decide +kernel
theorem dX7_end_124 : decode cX7_end 124 = .ok (.getfield 32, 3) := by decide +kernel
theorem dX7_end_127 : decode cX7_end 127 = .ok (.iload_n 1, 1) := by decide +kernel
theorem dX7_end_128 : decode cX7_end 128 = .ok (.iaload, 1) := by decide +kernel
theorem dX7_end_129 : decode cX7_end 129 = .ok (.iastore, 1) := by decide +kernel
theorem dX7_end_130 : decode cX7_end 130 = .ok (.aload_n 0, 1) := by decide +kernel
theorem dX7_end_131 : decode cX7_end 131 = .ok (.getfield 56, 3) := by decide +kernel
theorem dX7_end_134 : decode cX7_end 134 = .ok (.iload_n 1, 1) := by decide +kernel
theorem dX7_end_135 : decode cX7_end 135 = .ok (.aload_n 0, 1) := by decide +kernel
theorem dX7_end_136 : decode cX7_end 136 = .ok (.getfield 35, 3) := by decide +kernel
theorem dX7_end_139 : decode cX7_end 139 = .ok (.iload_n 1, 1) := by decide +kernel
theorem dX7_end_140 : decode cX7_end 140 = .ok (.iaload, 1) := by decide +kernel
theorem dX7_end_141 : decode cX7_end 141 = .ok (.iastore, 1) := by decide +kernel
theorem dX7_end_142 : decode cX7_end 142 = .ok (.return_, 1) := by decide +kernel
theorem dX7_pass_0 : decode cX7_pass 0 = .ok (.iconst 1, 1) := by decide +kernel
theorem dX7_pass_1 : decode cX7_pass 1 = .ok (.istore_n 1, 1) := by decide +kernel
theorem dX7_pass_2 : decode cX7_pass 2 = .ok (.iload_n 1, 1) := by decide +kernel
theorem dX7_pass_3 : decode cX7_pass 3 = .ok (.ifCond .eq 50, 3) := by decide +kernel
theorem dX7_pass_6 : decode cX7_pass 6 = .ok (.iconst 0, 1) := by decide +kernel
theorem dX7_pass_7 : decode cX7_pass 7 = .ok (.istore_n 1, 1) := by decide +kernel
theorem dX7_pass_8 : decode cX7_pass 8 = .ok (.iconst 0, 1) := by decide +kernel
theorem dX7_pass_9 : decode cX7_pass 9 = .ok (.istore_n 2, 1) := by decide +kernel
theorem dX7_pass_10 : decode cX7_pass 10 = .ok (.iload_n 2, 1) := by decide +kernel
theorem dX7_pass_11 : decode cX7_pass 11 = .ok (.bipush 40, 2) := by decide +kernel
theorem dX7_pass_13 : decode cX7_pass 13 = .ok (.if_icmp .ge 37, 3) := by decide +kernel
theorem dX7_pass_16 : decode cX7_pass 16 = .ok (.aload_n 0, 1) := by decide +kernel
theorem dX7_pass_17 : decode cX7_pass 17 = .ok (.iload_n 2, 1) := by decide +kernel
theorem dX7_pass_18 : decode cX7_pass 18 = .ok (.invokevirtual 142, 3) := by decide +kernel
theorem dX7_pass_21 : decode cX7_pass 21 = .ok (.ifCond .eq 23, 3) := by decide +kernel
theorem dX7_pass_24 : decode cX7_pass 24 = .ok (.aload_n 0, 1) := by decide +kernel
theorem dX7_pass_25 : decode cX7_pass 25 = .ok (.iload_n 2, 1) := by decide +kernel
theorem dX7_pass_26 : decode cX7_pass 26 = .ok (.invokevirtual 124, 3) := by decide +kernel
theorem dX7_pass_29 : decode cX7_pass 29 = .ok (.ifCond .le 6, 3) := by decide +kernel
theorem dX7_pass_32 : decode cX7_pass 32 = .ok (.goto 12, 3) := by decide +kernel
theorem dX7_pass_35 : decode cX7_pass 35 = .ok (.aload_n 0, 1) := by decide +kernel
theorem dX7_pass_36 : decode cX7_pass 36 = .ok (.getfield 74, 3) := by decide +kernel
theorem dX7_pass_39 : decode cX7_pass 39 = .ok (.iload_n 2, 1) := by decide +kernel
theorem dX7_pass_40 : decode cX7_pass 40 = .ok (.iconst 2, 1) := by decide +kernel
theorem dX7_pass_41 : decode cX7_pass 41 = .ok (.iastore, 1) := by decide +kernel
theorem dX7_pass_42 : decode cX7_pass 42 = .ok (.iconst 1, 1) := by decide +kernel
theorem dX7_pass_43 : decode cX7_pass 43 = .ok (.istore_n 1, 1) := by decide +kernel
theorem dX7_pass_44 : decode cX7_pass 44 = .ok (.iinc 2 1, 3) := by decide +kernel
theorem dX7_pass_47 : decode cX7_pass 47 = .ok (.goto (-37), 3) := by decide +kernel
theorem dX7_pass_50 : decode cX7_pass 50 = .ok (.goto (-48), 3) := by decide +kernel
theorem dX7_pass_53 : decode cX7_pass 53 = .ok (.return_, 1) := by decide +kernel
theorem dX7_start_0 : decode cX7_start 0 = .ok (.aload_n 0, 1) := by decide +kernel
theorem dX7_start_1 : decode cX7_start 1 = .ok (.getfield 23, 3) := by decide +kernel
theorem dX7_start_4 : decode cX7_start 4 = .ok (.iload_n 1, 1) := by decide +kernel
theorem dX7_start_5 : decode cX7_start 5 = .ok (.iaload, 1) := by decide +kernel
theorem dX7_start_6 : decode cX7_start 6 = .ok (.istore_n 3, 1) := by decide +kernel
theorem dX7_start_7 : decode cX7_start 7 = .ok (.iconst 0, 1) := by decide +kernel
theorem dX7_start_8 : decode cX7_start 8 = .ok (.istore 4, 2) := by decide +kernel
theorem dX7_start_10 : decode cX7_start 10 = .ok (.iload 4, 2) := by decide +kernel
theorem dX7_start_12 : decode cX7_start 12 = .ok (.aload_n 0, 1) := by decide +kernel
theorem dX7_start_13 : decode cX7_start 13 = .ok (.getfield 32, 3) := by decide +kernel
theorem dX7_start_16 : decode cX7_start 16 = .ok (.iload_n 1, 1) := by decide +kernel
theorem dX7_start_17 : decode cX7_start 17 = .ok (.iaload, 1) := by decide +kernel
theorem dX7_start_18 : decode cX7_start 18 = .ok (.if_icmp .ge 69, 3) := by decide +kernel
theorem dX7_start_21 : decode cX7_start 21 = .ok (.aload_n 0, 1) := by decide +kernel
theorem dX7_start_22 : decode cX7_start 22 = .ok (.getfield 38, 3) := by decide +kernel
theorem dX7_start_25 : decode cX7_start 25 = .ok (.bipush 6, 2) := by decide +kernel
theorem dX7_start_27 : decode cX7_start 27 = .ok (.iload_n 1, 1) := by decide +kernel
theorem dX7_start_28 : decode cX7_start 28 = .ok (.imul, 1) := by decide +kernel
theorem dX7_start_29 : decode cX7_start 29 = .ok (.iload 4, 2) := by decide +kernel
theorem dX7_start_31 : decode cX7_start 31 = .ok (.iadd, 1) := by decide +kernel
theorem dX7_start_32 : decode cX7_start 32 = .ok (.iaload, 1) := by decide +kernel
theorem dX7_start_33 : decode cX7_start 33 = .ok (.istore 5, 2) := by decide +kernel
theorem dX7_start_35 : decode cX7_start 35 = .ok (.iload_n 3, 1) := by decide +kernel
theorem dX7_start_36 : decode cX7_start 36 = .ok (.aload_n 0, 1) := by decide +kernel
theorem dX7_start_37 : decode cX7_start 37 = .ok (.getfield 13, 3) := by decide +kernel
theorem dX7_start_40 : decode cX7_start 40 = .ok (.iload 5, 2) := by decide +kernel
theorem dX7_start_42 : decode cX7_start 42 = .ok (.iaload, 1) := by decide +kernel
theorem dX7_start_43 : decode cX7_start 43 = .ok (.ixor, 1) := by decide +kernel
theorem dX7_start_44 : decode cX7_start 44 = .ok (.ldc 145, 2) := by decide +kernel
theorem dX7_start_46 : decode cX7_start 46 = .ok (.imul, 1) := by decide +kernel
theorem dX7_start_47 : decode cX7_start 47 = .ok (.istore_n 3, 1) := by decide +kernel
theorem dX7_start_48 : decode cX7_start 48 = .ok (.aload_n 0, 1) := by decide +kernel
theorem dX7_start_49 : decode cX7_start 49 = .ok (.getfield 59, 3) := by decide +kernel
theorem dX7_start_52 : decode cX7_start 52 = .ok (.bipush 6, 2) := by decide +kernel
theorem dX7_start_54 : decode cX7_start 54 = .ok (.iload_n 1, 1) := by decide +kernel
theorem dX7_start_55 : decode cX7_start 55 = .ok (.imul, 1) := by decide +kernel
theorem dX7_start_56 : decode cX7_start 56 = .ok (.iload 4, 2) := by decide +kernel
theorem dX7_start_58 : decode cX7_start 58 = .ok (.iadd, 1) := by decide +kernel
theorem dX7_start_59 : decode cX7_start 59 = .ok (.iload 5, 2) := by decide +kernel
theorem dX7_start_61 : decode cX7_start 61 = .ok (.iastore, 1) := by decide +kernel
theorem dX7_start_62 : decode cX7_start 62 = .ok (.aload_n 0, 1) := by decide +kernel
theorem dX7_start_63 : decode cX7_start 63 = .ok (.getfield 65, 3) := by decide +kernel
theorem dX7_start_66 : decode cX7_start 66 = .ok (.bipush 6, 2) := by decide +kernel
theorem dX7_start_68 : decode cX7_start 68 = .ok (.iload_n 1, 1) := by decide +kernel
theorem dX7_start_69 : decode cX7_start 69 = .ok (.imul, 1) := by decide +kernel
theorem dX7_start_70 : decode cX7_start 70 = .ok (.iload 4, 2) := by decide +kernel
theorem dX7_start_72 : decode cX7_start 72 = .ok (.iadd, 1) := by decide +kernel
theorem dX7_start_73 : decode cX7_start 73 = .ok (.aload_n 0, 1) := by decide +kernel
theorem dX7_start_74 : decode cX7_start 74 = .ok (.getfield 13, 3) := by decide +kernel
theorem dX7_start_77 : decode cX7_start 77 = .ok (.iload 5, 2) := by decide +kernel
theorem dX7_start_79 : decode cX7_start 79 = .ok (.iaload, 1) := by decide +kernel
theorem dX7_start_80 : decode cX7_start 80 = .ok (.iastore, 1) := by decide +kernel
theorem dX7_start_81 : decode cX7_start 81 = .ok (.iinc 4 1, 3) := by decide +kernel
theorem dX7_start_84 : decode cX7_start 84 = .ok (.goto (-74), 3) := by decide +kernel
theorem dX7_start_87 : decode cX7_start 87 = .ok (.aload_n 0, 1) := by decide +kernel
theorem dX7_start_88 : decode cX7_start 88 = .ok (.getfield 89, 3) := by decide +kernel
theorem dX7_start_91 : decode cX7_start 91 = .ok (.aload_n 0, 1) := by decide +kernel
theorem dX7_start_92 : decode cX7_start 92 = .ok (.getfield 146, 3) := by decide +kernel
theorem dX7_start_95 : decode cX7_start 95 = .ok (.iload_n 1, 1) := by decide +kernel
theorem dX7_start_96 : decode cX7_start 96 = .ok (.iastore, 1) := by decide +kernel
theorem dX7_start_97 : decode cX7_start 97 = .ok (.aload_n 0, 1) := by decide +kernel
theorem dX7_start_98 : decode cX7_start 98 = .ok (.getfield 92, 3) := by decide +kernel
theorem dX7_start_101 : decode cX7_start 101 = .ok (.aload_n 0, 1) := by decide +kernel
theorem dX7_start_102 : decode cX7_start 102 = .ok (.getfield 146, 3) := by decide +kernel
theorem dX7_start_105 : decode cX7_start 105 = .ok (.aload_n 0, 1) := by decide +kernel
theorem dX7_start_106 : decode cX7_start 106 = .ok (.getfield 149, 3) := by decide +kernel
theorem dX7_start_109 : decode cX7_start 109 = .ok (.iastore, 1) := by decide +kernel
theorem dX7_start_110 : decode cX7_start 110 = .ok (.aload_n 0, 1) := by decide +kernel
theorem dX7_start_111 : decode cX7_start 111 = .ok (.getfield 95, 3) := by decide +kernel
theorem dX7_start_114 : decode cX7_start 114 = .ok (.aload_n 0, 1) := by decide +kernel
theorem dX7_start_115 : decode cX7_start 115 = .ok (.getfield 146, 3) := by decide +kernel
theorem dX7_start_118 : decode cX7_start 118 = .ok (.aload_n 0, 1) := by decide +kernel
theorem dX7_start_119 : decode cX7_start 119 = .ok (.getfield 149, 3) := by decide +kernel
theorem dX7_start_122 : decode cX7_start 122 = .ok (.aload_n 0, 1) := by decide +kernel
theorem dX7_start_123 : decode cX7_start 123 = .ok (.getfield 29, 3) := by decide +kernel
theorem dX7_start_126 : decode cX7_start 126 = .ok (.iload_n 1, 1) := by decide +kernel
theorem dX7_start_127 : decode cX7_start 127 = .ok (.iaload, 1) := by decide +kernel
theorem dX7_start_128 : decode cX7_start 128 = .ok (.iadd, 1) := by decide +kernel
theorem dX7_start_129 : decode cX7_start 129 = .ok (.iastore, 1) := by decide +kernel
theorem dX7_start_130 : decode cX7_start 130 = .ok (.aload_n 0, 1) := by decide +kernel
theorem dX7_start_131 : decode cX7_start 131 = .ok (.getfield 98, 3) := by decide +kernel
theorem dX7_start_134 : decode cX7_start 134 = .ok (.aload_n 0, 1) := by decide +kernel
theorem dX7_start_135 : decode cX7_start 135 = .ok (.getfield 146, 3) := by decide +kernel
theorem dX7_start_138 : decode cX7_start 138 = .ok (.iload_n 2, 1) := by decide +kernel
theorem dX7_start_139 : decode cX7_start 139 = .ok (.iastore, 1) := by decide +kernel
theorem dX7_start_140 : decode cX7_start 140 = .ok (.aload_n 0, 1) := by decide +kernel
theorem dX7_start_141 : decode cX7_start 141 = .ok (.dup, 1) := by decide +kernel
theorem dX7_start_142 : decode cX7_start 142 = .ok (.getfield 146, 3) := by decide +kernel
theorem dX7_start_145 : decode cX7_start 145 = .ok (.iconst 1, 1) := by decide +kernel
theorem dX7_start_146 : decode cX7_start 146 = .ok (.iadd, 1) := by decide +kernel
theorem dX7_start_147 : decode cX7_start 147 = .ok (.putfield 146, 3) := by decide +kernel
theorem dX7_start_150 : decode cX7_start 150 = .ok (.aload_n 0, 1) := by decide +kernel
theorem dX7_start_151 : decode cX7_start 151 = .ok (.dup, 1) := by decide +kernel
theorem dX7_start_152 : decode cX7_start 152 = .ok (.getfield 152, 3) := by decide +kernel
theorem dX7_start_155 : decode cX7_start 155 = .ok (.aload_n 0, 1) := by decide +kernel
theorem dX7_start_156 : decode cX7_start 156 = .ok (.getfield 29, 3) := by decide +kernel
theorem dX7_start_159 : decode cX7_start 159 = .ok (.iload_n 1, 1) := by decide +kernel
theorem dX7_start_160 : decode cX7_start 160 = .ok (.iaload, 1) := by decide +kernel
theorem dX7_start_161 : decode cX7_start 161 = .ok (.iadd, 1) := by decide +kernel
theorem dX7_start_162 : decode cX7_start 162 = .ok (.putfield 152, 3) := by decide +kernel
theorem dX7_start_165 : decode cX7_start 165 = .ok (.aload_n 0, 1) := by decide +kernel
theorem dX7_start_166 : decode cX7_start 166 = .ok (.getfield 80, 3) := by decide +kernel
theorem dX7_start_169 : decode cX7_start 169 = .ok (.iload_n 1, 1) := by decide +kernel
theorem dX7_start_170 : decode cX7_start 170 = .ok (.iload_n 3, 1) := by decide +kernel
theorem dX7_start_171 : decode cX7_start 171 = .ok (.iastore, 1) := by decide +kernel
theorem dX7_start_172 : decode cX7_start 172 = .ok (.aload_n 0, 1) := by decide +kernel
theorem dX7_start_173 : decode cX7_start 173 = .ok (.getfield 74, 3) := by decide +kernel
theorem dX7_start_176 : decode cX7_start 176 = .ok (.iload_n 1, 1) := by decide +kernel
theorem dX7_start_177 : decode cX7_start 177 = .ok (.iconst 1, 1) := by decide +kernel
theorem dX7_start_178 : decode cX7_start 178 = .ok (.iastore, 1) := by decide +kernel
theorem dX7_start_179 : decode cX7_start 179 = .ok (.aload_n 0, 1) := by decide +kernel
theorem dX7_start_180 : decode cX7_start 180 = .ok (.getfield 77, 3) := by decide +kernel
theorem dX7_start_183 : decode cX7_start 183 = .ok (.iload_n 1, 1) := by decide +kernel
theorem dX7_start_184 : decode cX7_start 184 = .ok (.aload_n 0, 1) := by decide +kernel
theorem dX7_start_185 : decode cX7_start 185 = .ok (.getfield 149, 3) := by decide +kernel
theorem dX7_start_188 : decode cX7_start 188 = .ok (.aload_n 0, 1) := by decide +kernel
theorem dX7_start_189 : decode cX7_start 189 = .ok (.getfield 29, 3) := by decide +kernel
theorem dX7_start_192 : decode cX7_start 192 = .ok (.iload_n 1, 1) := by decide +kernel
theorem dX7_start_193 : decode cX7_start 193 = .ok (.iaload, 1) := by decide +kernel
theorem dX7_start_194 : decode cX7_start 194 = .ok (.iadd, 1) := by decide +kernel
theorem dX7_start_195 : decode cX7_start 195 = .ok (.iastore, 1) := by decide +kernel
theorem dX7_start_196 : decode cX7_start 196 = .ok (.aload_n 0, 1) := by decide +kernel
theorem dX7_start_197 : decode cX7_start 197 = .ok (.getfield 83, 3) := by decide +kernel
theorem dX7_start_200 : decode cX7_start 200 = .ok (.iload_n 1, 1) := by decide +kernel
theorem dX7_start_201 : decode cX7_start 201 = .ok (.iload_n 2, 1) := by decide +kernel
theorem dX7_start_202 : decode cX7_start 202 = .ok (.iastore, 1) := by decide +kernel
theorem dX7_start_203 : decode cX7_start 203 = .ok (.aload_n 0, 1) := by decide +kernel
theorem dX7_start_204 : decode cX7_start 204 = .ok (.getfield 86, 3) := by decide +kernel
theorem dX7_start_207 : decode cX7_start 207 = .ok (.iload_n 2, 1) := by decide +kernel
theorem dX7_start_208 : decode cX7_start 208 = .ok (.iconst 1, 1) := by decide +kernel
theorem dX7_start_209 : decode cX7_start 209 = .ok (.bastore, 1) := by decide +kernel
theorem dX7_start_210 : decode cX7_start 210 = .ok (.return_, 1) := by decide +kernel
theorem dX7_hire_0 : decode cX7_hire 0 = .ok (.iconst 0, 1) := by decide +kernel
theorem dX7_hire_1 : decode cX7_hire 1 = .ok (.istore_n 2, 1) := by decide +kernel
theorem dX7_hire_2 : decode cX7_hire 2 = .ok (.iload_n 2, 1) := by decide +kernel
theorem dX7_hire_3 : decode cX7_hire 3 = .ok (.iload_n 1, 1) := by decide +kernel
theorem dX7_hire_4 : decode cX7_hire 4 = .ok (.if_icmp .ge 98, 3) := by decide +kernel
theorem dX7_hire_7 : decode cX7_hire 7 = .ok (.aload_n 0, 1) := by decide +kernel
theorem dX7_hire_8 : decode cX7_hire 8 = .ok (.getfield 86, 3) := by decide +kernel
theorem dX7_hire_11 : decode cX7_hire 11 = .ok (.iload_n 2, 1) := by decide +kernel
theorem dX7_hire_12 : decode cX7_hire 12 = .ok (.baload, 1) := by decide +kernel
theorem dX7_hire_13 : decode cX7_hire 13 = .ok (.ifCond .eq 6, 3) := by decide +kernel
theorem dX7_hire_16 : decode cX7_hire 16 = .ok (.goto 80, 3) := by decide +kernel
theorem dX7_hire_19 : decode cX7_hire 19 = .ok (.iconst (-1), 1) := by decide +kernel
theorem dX7_hire_20 : decode cX7_hire 20 = .ok (.istore_n 3, 1) := by decide +kernel
theorem dX7_hire_21 : decode cX7_hire 21 = .ok (.iconst 0, 1) := by decide +kernel
theorem dX7_hire_22 : decode cX7_hire 22 = .ok (.istore 4, 2) := by decide +kernel
theorem dX7_hire_24 : decode cX7_hire 24 = .ok (.iload 4, 2) := by decide +kernel
theorem dX7_hire_26 : decode cX7_hire 26 = .ok (.bipush 40, 2) := by decide +kernel
theorem dX7_hire_28 : decode cX7_hire 28 = .ok (.if_icmp .ge 42, 3) := by decide +kernel
theorem dX7_hire_31 : decode cX7_hire 31 = .ok (.aload_n 0, 1) := by decide +kernel
theorem dX7_hire_32 : decode cX7_hire 32 = .ok (.iload 4, 2) := by decide +kernel
theorem dX7_hire_34 : decode cX7_hire 34 = .ok (.invokevirtual 142, 3) := by decide +kernel
theorem dX7_hire_37 : decode cX7_hire 37 = .ok (.ifCond .eq 27, 3) := by decide +kernel
theorem dX7_hire_40 : decode cX7_hire 40 = .ok (.iload_n 3, 1) := by decide +kernel
theorem dX7_hire_41 : decode cX7_hire 41 = .ok (.iconst (-1), 1) := by decide +kernel
theorem dX7_hire_42 : decode cX7_hire 42 = .ok (.if_icmp .eq 19, 3) := by decide +kernel
theorem dX7_hire_45 : decode cX7_hire 45 = .ok (.aload_n 0, 1) := by decide +kernel
theorem dX7_hire_46 : decode cX7_hire 46 = .ok (.getfield 71, 3) := by decide +kernel
theorem dX7_hire_49 : decode cX7_hire 49 = .ok (.iload 4, 2) := by decide +kernel
theorem dX7_hire_51 : decode cX7_hire 51 = .ok (.iaload, 1) := by decide +kernel
theorem dX7_hire_52 : decode cX7_hire 52 = .ok (.aload_n 0, 1) := by decide +kernel
theorem dX7_hire_53 : decode cX7_hire 53 = .ok (.getfield 71, 3) := by decide +kernel
theorem dX7_hire_56 : decode cX7_hire 56 = .ok (.iload_n 3, 1) := by decide +kernel
theorem dX7_hire_57 : decode cX7_hire 57 = .ok (.iaload, 1) := by decide +kernel
theorem dX7_hire_58 : decode cX7_hire 58 = .ok (.if_icmp .le 6, 3) := by decide +kernel
theorem dX7_hire_61 : decode cX7_hire 61 = .ok (.iload 4, 2) := by decide +kernel
theorem dX7_hire_63 : decode cX7_hire 63 = .ok (.istore_n 3, 1) := by decide +kernel
theorem dX7_hire_64 : decode cX7_hire 64 = .ok (.iinc 4 1, 3) := by decide +kernel
theorem dX7_hire_67 : decode cX7_hire 67 = .ok (.goto (-43), 3) := by decide +kernel
theorem dX7_hire_70 : decode cX7_hire 70 = .ok (.iload_n 3, 1) := by decide +kernel
theorem dX7_hire_71 : decode cX7_hire 71 = .ok (.iconst (-1), 1) := by decide +kernel
theorem dX7_hire_72 : decode cX7_hire 72 = .ok (.if_icmp .ne 4, 3) := by decide +kernel
theorem dX7_hire_75 : decode cX7_hire 75 = .ok (.return_, 1) := by decide +kernel
theorem dX7_hire_76 : decode cX7_hire 76 = .ok (.aload_n 0, 1) := by decide +kernel
theorem dX7_hire_77 : decode cX7_hire 77 = .ok (.getfield 101, 3) := by decide +kernel
theorem dX7_hire_80 : decode cX7_hire 80 = .ok (.aload_n 0, 1) := by decide +kernel
theorem dX7_hire_81 : decode cX7_hire 81 = .ok (.getfield 146, 3) := by decide +kernel
theorem dX7_hire_84 : decode cX7_hire 84 = .ok (.aload_n 0, 1) := by decide +kernel
theorem dX7_hire_85 : decode cX7_hire 85 = .ok (.iload_n 3, 1) := by decide +kernel
theorem dX7_hire_86 : decode cX7_hire 86 = .ok (.invokevirtual 124, 3) := by decide +kernel
theorem dX7_hire_89 : decode cX7_hire 89 = .ok (.iastore, 1) := by decide +kernel
theorem dX7_hire_90 : decode cX7_hire 90 = .ok (.aload_n 0, 1) := by decide +kernel
theorem dX7_hire_91 : decode cX7_hire 91 = .ok (.iload_n 3, 1) := by decide +kernel
theorem dX7_hire_92 : decode cX7_hire 92 = .ok (.iload_n 2, 1) := by decide +kernel
theorem dX7_hire_93 : decode cX7_hire 93 = .ok (.invokevirtual 155, 3) := by decide +kernel
theorem dX7_hire_96 : decode cX7_hire 96 = .ok (.iinc 2 1, 3) := by decide +kernel
theorem dX7_hire_99 : decode cX7_hire 99 = .ok (.goto (-97), 3) := by decide +kernel
theorem dX7_hire_102 : decode cX7_hire 102 = .ok (.return_, 1) := by decide +kernel
theorem dX7_build_0 : decode cX7_build 0 = .ok (.iload_n 1, 1) := by decide +kernel
theorem dX7_build_1 : decode cX7_build 1 = .ok (.invokestatic 118, 3) := by decide +kernel
theorem dX7_build_4 : decode cX7_build 4 = .ok (.ifCond .eq 14, 3) := by decide +kernel
theorem dX7_build_7 : decode cX7_build 7 = .ok (.iload_n 2, 1) := by decide +kernel
theorem dX7_build_8 : decode cX7_build 8 = .ok (.iconst 1, 1) := by decide +kernel
theorem dX7_build_9 : decode cX7_build 9 = .ok (.if_icmp .lt 9, 3) := by decide +kernel
theorem dX7_build_12 : decode cX7_build 12 = .ok (.iload_n 2, 1) := by decide +kernel
theorem dX7_build_13 : decode cX7_build 13 = .ok (.bipush 8, 2) := by decide +kernel
theorem dX7_build_15 : decode cX7_build 15 = .ok (.if_icmp .le 9, 3) := by decide +kernel
theorem dX7_build_18 : decode cX7_build 18 = .ok (.aload_n 0, 1) := by decide +kernel
theorem dX7_build_19 : decode cX7_build 19 = .ok (.iconst 1, 1) := by decide +kernel
theorem dX7_build_20 : decode cX7_build 20 = .ok (.invokevirtual 159, 3) := by decide +kernel
theorem dX7_build_23 : decode cX7_build 23 = .ok (.ireturn, 1) := by decide +kernel
theorem dX7_build_24 : decode cX7_build 24 = .ok (.aload_n 0, 1) := by decide +kernel
theorem dX7_build_25 : decode cX7_build 25 = .ok (.iload_n 1, 1) := by decide +kernel
theorem dX7_build_26 : decode cX7_build 26 = .ok (.invokevirtual 162, 3) := by decide +kernel
theorem dX7_build_29 : decode cX7_build 29 = .ok (.aload_n 0, 1) := by decide +kernel
theorem dX7_build_30 : decode cX7_build 30 = .ok (.invokevirtual 165, 3) := by decide +kernel
theorem dX7_build_33 : decode cX7_build 33 = .ok (.ifCond .ne 11, 3) := by decide +kernel
theorem dX7_build_36 : decode cX7_build 36 = .ok (.aload_n 0, 1) := by decide +kernel
theorem dX7_build_37 : decode cX7_build 37 = .ok (.iload_n 1, 1) := by decide +kernel
theorem dX7_build_38 : decode cX7_build 38 = .ok (.invokevirtual 169, 3) := by decide +kernel
theorem dX7_build_41 : decode cX7_build 41 = .ok (.ifCond .eq 9, 3) := by decide +kernel
theorem dX7_build_44 : decode cX7_build 44 = .ok (.aload_n 0, 1) := by decide +kernel
theorem dX7_build_45 : decode cX7_build 45 = .ok (.iconst 2, 1) := by decide +kernel
theorem dX7_build_46 : decode cX7_build 46 = .ok (.invokevirtual 159, 3) := by decide +kernel
theorem dX7_build_49 : decode cX7_build 49 = .ok (.ireturn, 1) := by decide +kernel
theorem dX7_build_50 : decode cX7_build 50 = .ok (.aload_n 0, 1) := by decide +kernel
theorem dX7_build_51 : decode cX7_build 51 = .ok (.iconst 0, 1) := by decide +kernel
theorem dX7_build_52 : decode cX7_build 52 = .ok (.putfield 110, 3) := by decide +kernel
theorem dX7_build_55 : decode cX7_build 55 = .ok (.aload_n 0, 1) := by decide +kernel
theorem dX7_build_56 : decode cX7_build 56 = .ok (.invokevirtual 172, 3) := by decide +kernel
theorem dX7_build_59 : decode cX7_build 59 = .ok (.aload_n 0, 1) := by decide +kernel
theorem dX7_build_60 : decode cX7_build 60 = .ok (.iconst 0, 1) := by decide +kernel
theorem dX7_build_61 : decode cX7_build 61 = .ok (.putfield 146, 3) := by decide +kernel
theorem dX7_build_64 : decode cX7_build 64 = .ok (.aload_n 0, 1) := by decide +kernel
theorem dX7_build_65 : decode cX7_build 65 = .ok (.iconst 0, 1) := by decide +kernel
theorem dX7_build_66 : decode cX7_build 66 = .ok (.putfield 175, 3) := by decide +kernel
theorem dX7_build_69 : decode cX7_build 69 = .ok (.aload_n 0, 1) := by decide +kernel
theorem dX7_build_70 : decode cX7_build 70 = .ok (.iconst 0, 1) := by decide +kernel
theorem dX7_build_71 : decode cX7_build 71 = .ok (.putfield 152, 3) := by decide +kernel
theorem dX7_build_74 : decode cX7_build 74 = .ok (.aload_n 0, 1) := by decide +kernel
theorem dX7_build_75 : decode cX7_build 75 = .ok (.iconst 0, 1) := by decide +kernel
theorem dX7_build_76 : decode cX7_build 76 = .ok (.putfield 178, 3) := by decide +kernel
theorem dX7_build_79 : decode cX7_build 79 = .ok (.aload_n 0, 1) := by decide +kernel
theorem dX7_build_80 : decode cX7_build 80 = .ok (.iconst 0, 1) := by decide +kernel
theorem dX7_build_81 : decode cX7_build 81 = .ok (.putfield 149, 3) := by decide +kernel
theorem dX7_build_84 : decode cX7_build 84 = .ok (.iconst 0, 1) := by decide +kernel
theorem dX7_build_85 : decode cX7_build 85 = .ok (.istore_n 3, 1) := by decide +kernel
theorem dX7_build_86 : decode cX7_build 86 = .ok (.iload_n 3, 1) := by decide +kernel
theorem dX7_build_87 : decode cX7_build 87 = .ok (.bipush 40, 2) := by decide +kernel
theorem dX7_build_89 : decode cX7_build 89 = .ok (.if_icmp .ge 69, 3) := by decide +kernel
theorem dX7_build_92 : decode cX7_build 92 = .ok (.aload_n 0, 1) := by decide +kernel
theorem dX7_build_93 : decode cX7_build 93 = .ok (.getfield 74, 3) := by decide +kernel
theorem dX7_build_96 : decode cX7_build 96 = .ok (.iload_n 3, 1) := by decide +kernel
theorem dX7_build_97 : decode cX7_build 97 = .ok (.iconst 0, 1) := by decide +kernel
theorem dX7_build_98 : decode cX7_build 98 = .ok (.iastore, 1) := by decide +kernel
theorem dX7_build_99 : decode cX7_build 99 = .ok (.aload_n 0, 1) := by decide +kernel
theorem dX7_build_100 : decode cX7_build 100 = .ok (.dup, 1) := by decide +kernel
theorem dX7_build_101 : decode cX7_build 101 = .ok (.getfield 175, 3) := by decide +kernel
theorem dX7_build_104 : decode cX7_build 104 = .ok (.aload_n 0, 1) := by decide +kernel
theorem dX7_build_105 : decode cX7_build 105 = .ok (.getfield 68, 3) := by decide +kernel
theorem dX7_build_108 : decode cX7_build 108 = .ok (.iload_n 3, 1) := by decide +kernel
theorem dX7_build_109 : decode cX7_build 109 = .ok (.baload, 1) := by decide +kernel
theorem dX7_build_110 : decode cX7_build 110 = .ok (.ifCond .eq 7, 3) := by decide +kernel
theorem dX7_build_113 : decode cX7_build 113 = .ok (.iconst 1, 1) := by decide +kernel
theorem dX7_build_114 : decode cX7_build 114 = .ok (.goto 4, 3) := by decide +kernel
theorem dX7_build_117 : decode cX7_build 117 = .ok (.iconst 0, 1) := by decide +kernel
theorem dX7_build_118 : decode cX7_build 118 = .ok (.iadd, 1) := by decide +kernel
theorem dX7_build_119 : decode cX7_build 119 = .ok (.putfield 175, 3) := by decide +kernel
theorem dX7_build_122 : decode cX7_build 122 = .ok (.aload_n 0, 1) := by decide +kernel
theorem dX7_build_123 : decode cX7_build 123 = .ok (.aload_n 0, 1) := by decide +kernel
theorem dX7_build_124 : decode cX7_build 124 = .ok (.getfield 71, 3) := by decide +kernel
theorem dX7_build_127 : decode cX7_build 127 = .ok (.iload_n 3, 1) := by decide +kernel
theorem dX7_build_128 : decode cX7_build 128 = .ok (.iaload, 1) := by decide +kernel
theorem dX7_build_129 : decode cX7_build 129 = .ok (.aload_n 0, 1) := by decide +kernel
theorem dX7_build_130 : decode cX7_build 130 = .ok (.getfield 178, 3) := by decide +kernel
theorem dX7_build_133 : decode cX7_build 133 = .ok (.if_icmp .le 12, 3) := by decide +kernel
theorem dX7_build_136 : decode cX7_build 136 = .ok (.aload_n 0, 1) := by decide +kernel
theorem dX7_build_137 : decode cX7_build 137 = .ok (.getfield 71, 3) := by decide +kernel
theorem dX7_build_140 : decode cX7_build 140 = .ok (.iload_n 3, 1) := by decide +kernel
theorem dX7_build_141 : decode cX7_build 141 = .ok (.iaload, 1) := by decide +kernel
theorem dX7_build_142 : decode cX7_build 142 = .ok (.goto 7, 3) := by decide +kernel
theorem dX7_build_145 : decode cX7_build 145 = .ok (.aload_n 0, 1) := by decide +kernel
theorem dX7_build_146 : decode cX7_build 146 = .ok (.getfield 178, 3) := by decide +kernel
theorem dX7_build_149 : decode cX7_build 149 = .ok (.putfield 178, 3) := by decide +kernel
theorem dX7_build_152 : decode cX7_build 152 = .ok (.iinc 3 1, 3) := by decide +kernel
theorem dX7_build_155 : decode cX7_build 155 = .ok (.goto (-69), 3) := by decide +kernel
theorem dX7_build_158 : decode cX7_build 158 = .ok (.iconst 0, 1) := by decide +kernel
theorem dX7_build_159 : decode cX7_build 159 = .ok (.istore_n 3, 1) := by decide +kernel
theorem dX7_build_160 : decode cX7_build 160 = .ok (.iload_n 3, 1) := by decide +kernel
theorem dX7_build_161 : decode cX7_build 161 = .ok (.bipush 8, 2) := by decide +kernel
theorem dX7_build_163 : decode cX7_build 163 = .ok (.if_icmp .ge 16, 3) := by decide +kernel
theorem dX7_build_166 : decode cX7_build 166 = .ok (.aload_n 0, 1) := by decide +kernel
theorem dX7_build_167 : decode cX7_build 167 = .ok (.getfield 86, 3) := by decide +kernel
theorem dX7_build_170 : decode cX7_build 170 = .ok (.iload_n 3, 1) := by decide +kernel
theorem dX7_build_171 : decode cX7_build 171 = .ok (.iconst 0, 1) := by decide +kernel
theorem dX7_build_172 : decode cX7_build 172 = .ok (.bastore, 1) := by decide +kernel
theorem dX7_build_173 : decode cX7_build 173 = .ok (.iinc 3 1, 3) := by decide +kernel
theorem dX7_build_176 : decode cX7_build 176 = .ok (.goto (-16), 3) := by decide +kernel
theorem dX7_build_179 : decode cX7_build 179 = .ok (.iconst 1, 1) := by decide +kernel
theorem dX7_build_180 : decode cX7_build 180 = .ok (.istore_n 3, 1) := by decide +kernel
theorem dX7_build_181 : decode cX7_build 181 = .ok (.iload_n 3, 1) := by decide +kernel
theorem dX7_build_182 : decode cX7_build 182 = .ok (.ifCond .eq 141, 3) := by decide +kernel
theorem dX7_build_185 : decode cX7_build 185 = .ok (.iconst 0, 1) := by decide +kernel
theorem dX7_build_186 : decode cX7_build 186 = .ok (.istore 4, 2) := by decide +kernel
theorem dX7_build_188 : decode cX7_build 188 = .ok (.iload 4, 2) := by decide +kernel
theorem dX7_build_190 : decode cX7_build 190 = .ok (.bipush 40, 2) := by decide +kernel
theorem dX7_build_192 : decode cX7_build 192 = .ok (.if_icmp .ge 40, 3) := by decide +kernel
theorem dX7_build_195 : decode cX7_build 195 = .ok (.aload_n 0, 1) := by decide +kernel
theorem dX7_build_196 : decode cX7_build 196 = .ok (.getfield 74, 3) := by decide +kernel
theorem dX7_build_199 : decode cX7_build 199 = .ok (.iload 4, 2) := by decide +kernel
theorem dX7_build_201 : decode cX7_build 201 = .ok (.iaload, 1) := by decide +kernel
theorem dX7_build_202 : decode cX7_build 202 = .ok (.iconst 1, 1) := by decide +kernel
theorem dX7_build_203 : decode cX7_build 203 = .ok (.if_icmp .ne 23, 3) := by decide +kernel
theorem dX7_build_206 : decode cX7_build 206 = .ok (.aload_n 0, 1) := by decide +kernel
theorem dX7_build_207 : decode cX7_build 207 = .ok (.getfield 77, 3) := by decide +kernel
theorem dX7_build_210 : decode cX7_build 210 = .ok (.iload 4, 2) := by decide +kernel
theorem dX7_build_212 : decode cX7_build 212 = .ok (.iaload, 1) := by decide +kernel
theorem dX7_build_213 : decode cX7_build 213 = .ok (.aload_n 0, 1) := by decide +kernel
theorem dX7_build_214 : decode cX7_build 214 = .ok (.getfield 149, 3) := by decide +kernel
theorem dX7_build_217 : decode cX7_build 217 = .ok (.if_icmp .ne 9, 3) := by decide +kernel
theorem dX7_build_220 : decode cX7_build 220 = .ok (.aload_n 0, 1) := by decide +kernel
theorem dX7_build_221 : decode cX7_build 221 = .ok (.iload 4, 2) := by decide +kernel
theorem dX7_build_223 : decode cX7_build 223 = .ok (.invokevirtual 181, 3) := by decide +kernel
theorem dX7_build_226 : decode cX7_build 226 = .ok (.iinc 4 1, 3) := by decide +kernel
theorem dX7_build_229 : decode cX7_build 229 = .ok (.goto (-41), 3) := by decide +kernel
theorem dX7_build_232 : decode cX7_build 232 = .ok (.aload_n 0, 1) := by decide +kernel
theorem dX7_build_233 : decode cX7_build 233 = .ok (.invokevirtual 184, 3) := by decide +kernel
theorem dX7_build_236 : decode cX7_build 236 = .ok (.aload_n 0, 1) := by decide +kernel
theorem dX7_build_237 : decode cX7_build 237 = .ok (.iload_n 2, 1) := by decide +kernel
theorem dX7_build_238 : decode cX7_build 238 = .ok (.invokevirtual 187, 3) := by decide +kernel
theorem dX7_build_241 : decode cX7_build 241 = .ok (.iconst (-1), 1) := by decide +kernel
theorem dX7_build_242 : decode cX7_build 242 = .ok (.istore 4, 2) := by decide +kernel
theorem dX7_build_244 : decode cX7_build 244 = .ok (.iconst 0, 1) := by decide +kernel
theorem dX7_build_245 : decode cX7_build 245 = .ok (.istore 5, 2) := by decide +kernel
theorem dX7_build_247 : decode cX7_build 247 = .ok (.iload 5, 2) := by decide +kernel
theorem dX7_build_249 : decode cX7_build 249 = .ok (.bipush 40, 2) := by decide +kernel
theorem dX7_build_251 : decode cX7_build 251 = .ok (.if_icmp .ge 47, 3) := by decide +kernel
theorem dX7_build_254 : decode cX7_build 254 = .ok (.aload_n 0, 1) := by decide +kernel
theorem dX7_build_255 : decode cX7_build 255 = .ok (.getfield 74, 3) := by decide +kernel
theorem dX7_build_258 : decode cX7_build 258 = .ok (.iload 5, 2) := by decide +kernel
theorem dX7_build_260 : decode cX7_build 260 = .ok (.iaload, 1) := by decide +kernel
theorem dX7_build_261 : decode cX7_build 261 = .ok (.iconst 1, 1) := by decide +kernel
theorem dX7_build_262 : decode cX7_build 262 = .ok (.if_icmp .ne 30, 3) := by decide +kernel
theorem dX7_build_265 : decode cX7_build 265 = .ok (.iload 4, 2) := by decide +kernel
theorem dX7_build_267 : decode cX7_build 267 = .ok (.iconst (-1), 1) := by decide +kernel
theorem dX7_build_268 : decode cX7_build 268 = .ok (.if_icmp .eq 15, 3) := by decide +kernel
theorem dX7_build_271 : decode cX7_build 271 = .ok (.aload_n 0, 1) := by decide +kernel
theorem dX7_build_272 : decode cX7_build 272 = .ok (.getfield 77, 3) := by decide +kernel
theorem dX7_build_275 : decode cX7_build 275 = .ok (.iload 5, 2) := by decide +kernel
theorem dX7_build_277 : decode cX7_build 277 = .ok (.iaload, 1) := by decide +kernel
theorem dX7_build_278 : decode cX7_build 278 = .ok (.iload 4, 2) := by decide +kernel
theorem dX7_build_280 : decode cX7_build 280 = .ok (.if_icmp .ge 12, 3) := by decide +kernel
theorem dX7_build_283 : decode cX7_build 283 = .ok (.aload_n 0, 1) := by decide +kernel
theorem dX7_build_284 : decode cX7_build 284 = .ok (.getfield 77, 3) := by decide +kernel
theorem dX7_build_287 : decode cX7_build 287 = .ok (.iload 5, 2) := by decide +kernel
theorem dX7_build_289 : decode cX7_build 289 = .ok (.iaload, 1) := by decide +kernel
theorem dX7_build_290 : decode cX7_build 290 = .ok (.istore 4, 2) := by decide +kernel
theorem dX7_build_292 : decode cX7_build 292 = .ok (.iinc 5 1, 3) := by decide +kernel
theorem dX7_build_295 : decode cX7_build 295 = .ok (.goto (-48), 3) := by decide +kernel
theorem dX7_build_298 : decode cX7_build 298 = .ok (.iload 4, 2) := by decide +kernel
theorem dX7_build_300 : decode cX7_build 300 = .ok (.iconst (-1), 1) := by decide +kernel
theorem dX7_build_301 : decode cX7_build 301 = .ok (.if_icmp .eq 7, 3) := by decide +kernel
theorem dX7_build_304 : decode cX7_build 304 = .ok (.iconst 1, 1) := by decide +kernel
theorem dX7_build_305 : decode cX7_build 305 = .ok (.goto 4, 3) := by decide +kernel
theorem dX7_build_308 : decode cX7_build 308 = .ok (.iconst 0, 1) := by decide +kernel
theorem dX7_build_309 : decode cX7_build 309 = .ok (.istore_n 3, 1) := by decide +kernel
theorem dX7_build_310 : decode cX7_build 310 = .ok (.iload_n 3, 1) := by decide +kernel
theorem dX7_build_311 : decode cX7_build 311 = .ok (.ifCond .eq 9, 3) := by decide +kernel
theorem dX7_build_314 : decode cX7_build 314 = .ok (.aload_n 0, 1) := by decide +kernel
theorem dX7_build_315 : decode cX7_build 315 = .ok (.iload 4, 2) := by decide +kernel
theorem dX7_build_317 : decode cX7_build 317 = .ok (.putfield 149, 3) := by decide +kernel
theorem dX7_build_320 : decode cX7_build 320 = .ok (.goto (-139), 3) := by decide +kernel
theorem dX7_build_323 : decode cX7_build 323 = .ok (.aload_n 0, 1) := by decide +kernel
theorem dX7_build_324 : decode cX7_build 324 = .ok (.getfield 149, 3) := by decide +kernel
theorem dX7_build_327 : decode cX7_build 327 = .ok (.ireturn, 1) := by decide +kernel
theorem dX7_count_0 : decode cX7_count 0 = .ok (.aload_n 0, 1) := by decide +kernel
theorem dX7_count_1 : decode cX7_count 1 = .ok (.iconst 0, 1) := by decide +kernel
theorem dX7_count_2 : decode cX7_count 2 = .ok (.putfield 110, 3) := by decide +kernel
theorem dX7_count_5 : decode cX7_count 5 = .ok (.iconst 0, 1) := by decide +kernel
theorem dX7_count_6 : decode cX7_count 6 = .ok (.istore_n 2, 1) := by decide +kernel
theorem dX7_count_7 : decode cX7_count 7 = .ok (.iload_n 1, 1) := by decide +kernel
theorem dX7_count_8 : decode cX7_count 8 = .ok (.tableswitch 126 0 5 #[40, 45, 50, 55, 60, 93], 40) := by decide +kernel
theorem dX7_count_48 : decode cX7_count 48 = .ok (.aload_n 0, 1) := by decide +kernel
theorem dX7_count_49 : decode cX7_count 49 = .ok (.getfield 175, 3) := by decide +kernel
theorem dX7_count_52 : decode cX7_count 52 = .ok (.ireturn, 1) := by decide +kernel
theorem dX7_count_53 : decode cX7_count 53 = .ok (.aload_n 0, 1) := by decide +kernel
theorem dX7_count_54 : decode cX7_count 54 = .ok (.getfield 146, 3) := by decide +kernel
theorem dX7_count_57 : decode cX7_count 57 = .ok (.ireturn, 1) := by decide +kernel
theorem dX7_count_58 : decode cX7_count 58 = .ok (.aload_n 0, 1) := by decide +kernel
theorem dX7_count_59 : decode cX7_count 59 = .ok (.getfield 152, 3) := by decide +kernel
theorem dX7_count_62 : decode cX7_count 62 = .ok (.ireturn, 1) := by decide +kernel
theorem dX7_count_63 : decode cX7_count 63 = .ok (.aload_n 0, 1) := by decide +kernel
theorem dX7_count_64 : decode cX7_count 64 = .ok (.getfield 178, 3) := by decide +kernel
theorem dX7_count_67 : decode cX7_count 67 = .ok (.ireturn, 1) := by decide +kernel
theorem dX7_count_68 : decode cX7_count 68 = .ok (.iconst 0, 1) := by decide +kernel
theorem dX7_count_69 : decode cX7_count 69 = .ok (.istore_n 3, 1) := by decide +kernel
theorem dX7_count_70 : decode cX7_count 70 = .ok (.iload_n 3, 1) := by decide +kernel
theorem dX7_count_71 : decode cX7_count 71 = .ok (.bipush 64, 2) := by decide +kernel
theorem dX7_count_73 : decode cX7_count 73 = .ok (.if_icmp .ge 26, 3) := by decide +kernel
theorem dX7_count_76 : decode cX7_count 76 = .ok (.iload_n 2, 1) := by decide +kernel
theorem dX7_count_77 : decode cX7_count 77 = .ok (.aload_n 0, 1) := by decide +kernel
theorem dX7_count_78 : decode cX7_count 78 = .ok (.getfield 7, 3) := by decide +kernel
theorem dX7_count_81 : decode cX7_count 81 = .ok (.iload_n 3, 1) := by decide +kernel
theorem dX7_count_82 : decode cX7_count 82 = .ok (.baload, 1) := by decide +kernel
theorem dX7_count_83 : decode cX7_count 83 = .ok (.ifCond .eq 7, 3) := by decide +kernel
theorem dX7_count_86 : decode cX7_count 86 = .ok (.iconst 1, 1) := by decide +kernel
theorem dX7_count_87 : decode cX7_count 87 = .ok (.goto 4, 3) := by decide +kernel
theorem dX7_count_90 : decode cX7_count 90 = .ok (.iconst 0, 1) := by decide +kernel
theorem dX7_count_91 : decode cX7_count 91 = .ok (.iadd, 1) := by decide +kernel
theorem dX7_count_92 : decode cX7_count 92 = .ok (.istore_n 2, 1) := by decide +kernel
theorem dX7_count_93 : decode cX7_count 93 = .ok (.iinc 3 1, 3) := by decide +kernel
theorem dX7_count_96 : decode cX7_count 96 = .ok (.goto (-26), 3) := by decide +kernel
theorem dX7_count_99 : decode cX7_count 99 = .ok (.iload_n 2, 1) := by decide +kernel
theorem dX7_count_100 : decode cX7_count 100 = .ok (.ireturn, 1) := by decide +kernel
theorem dX7_count_101 : decode cX7_count 101 = .ok (.iconst 0, 1) := by decide +kernel
theorem dX7_count_102 : decode cX7_count 102 = .ok (.istore_n 3, 1) := by decide +kernel
theorem dX7_count_103 : decode cX7_count 103 = .ok (.iload_n 3, 1) := by decide +kernel
theorem dX7_count_104 : decode cX7_count 104 = .ok (.bipush 40, 2) := by decide +kernel
theorem dX7_count_106 : decode cX7_count 106 = .ok (.if_icmp .ge 26, 3) := by decide +kernel
theorem dX7_count_109 : decode cX7_count 109 = .ok (.iload_n 2, 1) := by decide +kernel
theorem dX7_count_110 : decode cX7_count 110 = .ok (.aload_n 0, 1) := by decide +kernel
theorem dX7_count_111 : decode cX7_count 111 = .ok (.getfield 20, 3) := by decide +kernel
theorem dX7_count_114 : decode cX7_count 114 = .ok (.iload_n 3, 1) := by decide +kernel
theorem dX7_count_115 : decode cX7_count 115 = .ok (.baload, 1) := by decide +kernel
theorem dX7_count_116 : decode cX7_count 116 = .ok (.ifCond .eq 7, 3) := by decide +kernel
theorem dX7_count_119 : decode cX7_count 119 = .ok (.iconst 1, 1) := by decide +kernel
theorem dX7_count_120 : decode cX7_count 120 = .ok (.goto 4, 3) := by decide +kernel
theorem dX7_count_123 : decode cX7_count 123 = .ok (.iconst 0, 1) := by decide +kernel
theorem dX7_count_124 : decode cX7_count 124 = .ok (.iadd, 1) := by decide +kernel
theorem dX7_count_125 : decode cX7_count 125 = .ok (.istore_n 2, 1) := by decide +kernel
theorem dX7_count_126 : decode cX7_count 126 = .ok (.iinc 3 1, 3) := by decide +kernel
theorem dX7_count_129 : decode cX7_count 129 = .ok (.goto (-26), 3) := by decide +kernel
theorem dX7_count_132 : decode cX7_count 132 = .ok (.iload_n 2, 1) := by decide +kernel
theorem dX7_count_133 : decode cX7_count 133 = .ok (.ireturn, 1) := by decide +kernel
theorem dX7_count_134 : decode cX7_count 134 = .ok (.iconst (-1), 1) := by decide +kernel
theorem dX7_count_135 : decode cX7_count 135 = .ok (.ireturn, 1) := by decide +kernel
theorem dX7_begun_0 : decode cX7_begun 0 = .ok (.aload_n 0, 1) := by decide +kernel
theorem dX7_begun_1 : decode cX7_begun 1 = .ok (.iload_n 1, 1) := by decide +kernel
theorem dX7_begun_2 : decode cX7_begun 2 = .ok (.ifCond .lt 20, 3) := by decide +kernel
theorem dX7_begun_5 : decode cX7_begun 5 = .ok (.iload_n 1, 1) := by decide +kernel
theorem dX7_begun_6 : decode cX7_begun 6 = .ok (.aload_n 0, 1) := by decide +kernel
theorem dX7_begun_7 : decode cX7_begun 7 = .ok (.getfield 146, 3) := by decide +kernel
theorem dX7_begun_10 : decode cX7_begun 10 = .ok (.if_icmp .ge 12, 3) := by decide +kernel
theorem dX7_begun_13 : decode cX7_begun 13 = .ok (.iload_n 2, 1) := by decide +kernel
theorem dX7_begun_14 : decode cX7_begun 14 = .ok (.ifCond .lt 8, 3) := by decide +kernel
theorem dX7_begun_17 : decode cX7_begun 17 = .ok (.iload_n 2, 1) := by decide +kernel
theorem dX7_begun_18 : decode cX7_begun 18 = .ok (.iconst 4, 1) := by decide +kernel
theorem dX7_begun_19 : decode cX7_begun 19 = .ok (.if_icmp .le 7, 3) := by decide +kernel
theorem dX7_begun_22 : decode cX7_begun 22 = .ok (.iconst 1, 1) := by decide +kernel
theorem dX7_begun_23 : decode cX7_begun 23 = .ok (.goto 4, 3) := by decide +kernel
theorem dX7_begun_26 : decode cX7_begun 26 = .ok (.iconst 0, 1) := by decide +kernel
theorem dX7_begun_27 : decode cX7_begun 27 = .ok (.putfield 110, 3) := by decide +kernel
theorem dX7_begun_30 : decode cX7_begun 30 = .ok (.aload_n 0, 1) := by decide +kernel
theorem dX7_begun_31 : decode cX7_begun 31 = .ok (.getfield 110, 3) := by decide +kernel
theorem dX7_begun_34 : decode cX7_begun 34 = .ok (.ifCond .le 5, 3) := by decide +kernel
theorem dX7_begun_37 : decode cX7_begun 37 = .ok (.iconst 0, 1) := by decide +kernel
theorem dX7_begun_38 : decode cX7_begun 38 = .ok (.ireturn, 1) := by decide +kernel
theorem dX7_begun_39 : decode cX7_begun 39 = .ok (.iload_n 2, 1) := by decide +kernel
theorem dX7_begun_40 : decode cX7_begun 40 = .ok (.tableswitch 60 0 3 #[32, 39, 46, 53], 32) := by decide +kernel
theorem dX7_begun_72 : decode cX7_begun 72 = .ok (.aload_n 0, 1) := by decide +kernel
theorem dX7_begun_73 : decode cX7_begun 73 = .ok (.getfield 89, 3) := by decide +kernel
theorem dX7_begun_76 : decode cX7_begun 76 = .ok (.iload_n 1, 1) := by decide +kernel
theorem dX7_begun_77 : decode cX7_begun 77 = .ok (.iaload, 1) := by decide +kernel
theorem dX7_begun_78 : decode cX7_begun 78 = .ok (.ireturn, 1) := by decide +kernel
theorem dX7_begun_79 : decode cX7_begun 79 = .ok (.aload_n 0, 1) := by decide +kernel
theorem dX7_begun_80 : decode cX7_begun 80 = .ok (.getfield 92, 3) := by decide +kernel
theorem dX7_begun_83 : decode cX7_begun 83 = .ok (.iload_n 1, 1) := by decide +kernel
theorem dX7_begun_84 : decode cX7_begun 84 = .ok (.iaload, 1) := by decide +kernel
theorem dX7_begun_85 : decode cX7_begun 85 = .ok (.ireturn, 1) := by decide +kernel
theorem dX7_begun_86 : decode cX7_begun 86 = .ok (.aload_n 0, 1) := by decide +kernel
theorem dX7_begun_87 : decode cX7_begun 87 = .ok (.getfield 95, 3) := by decide +kernel
theorem dX7_begun_90 : decode cX7_begun 90 = .ok (.iload_n 1, 1) := by decide +kernel
theorem dX7_begun_91 : decode cX7_begun 91 = .ok (.iaload, 1) := by decide +kernel
theorem dX7_begun_92 : decode cX7_begun 92 = .ok (.ireturn, 1) := by decide +kernel
theorem dX7_begun_93 : decode cX7_begun 93 = .ok (.aload_n 0, 1) := by decide +kernel
theorem dX7_begun_94 : decode cX7_begun 94 = .ok (.getfield 98, 3) := by decide +kernel
theorem dX7_begun_97 : decode cX7_begun 97 = .ok (.iload_n 1, 1) := by decide +kernel
theorem dX7_begun_98 : decode cX7_begun 98 = .ok (.iaload, 1) := by decide +kernel
theorem dX7_begun_99 : decode cX7_begun 99 = .ok (.ireturn, 1) := by decide +kernel
theorem dX7_begun_100 : decode cX7_begun 100 = .ok (.aload_n 0, 1) := by decide +kernel
theorem dX7_begun_101 : decode cX7_begun 101 = .ok (.getfield 101, 3) := by decide +kernel
theorem dX7_begun_104 : decode cX7_begun 104 = .ok (.iload_n 1, 1) := by decide +kernel
theorem dX7_begun_105 : decode cX7_begun 105 = .ok (.iaload, 1) := by decide +kernel
theorem dX7_begun_106 : decode cX7_begun 106 = .ok (.ireturn, 1) := by decide +kernel
