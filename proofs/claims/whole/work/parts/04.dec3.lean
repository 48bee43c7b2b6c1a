theorem dX7_drop_0 : decode cX7_drop 0 = .ok (.aload_n 0, 1) := by decide +kernel
theorem dX7_drop_1 : decode cX7_drop 1 = .ok (.iconst 0, 1) := by decide +kernel
theorem dX7_drop_2 : decode cX7_drop 2 = .ok (.putfield 110, 3) := by decide +kernel
theorem dX7_drop_5 : decode cX7_drop 5 = .ok (.aload_n 0, 1) := by decide +kernel
theorem dX7_drop_6 : decode cX7_drop 6 = .ok (.iload_n 1, 1) := by decide +kernel
theorem dX7_drop_7 : decode cX7_drop 7 = .ok (.invokevirtual 114, 3) := by decide +kernel
theorem dX7_drop_10 : decode cX7_drop 10 = .ok (.ifCond .ne 5, 3) := by decide +kernel
theorem dX7_drop_13 : decode cX7_drop 13 = .ok (.iconst 0, 1) := by decide +kernel
theorem dX7_drop_14 : decode cX7_drop 14 = .ok (.ireturn, 1) := by decide +kernel
theorem dX7_drop_15 : decode cX7_drop 15 = .ok (.aload_n 0, 1) := by decide +kernel
theorem dX7_drop_16 : decode cX7_drop 16 = .ok (.getfield 20, 3) := by decide +kernel
theorem dX7_drop_19 : decode cX7_drop 19 = .ok (.iload_n 1, 1) := by decide +kernel
theorem dX7_drop_20 : decode cX7_drop 20 = .ok (.iconst 0, 1) := by decide +kernel
theorem dX7_drop_21 : decode cX7_drop 21 = .ok (.bastore, 1) := by decide +kernel
theorem dX7_drop_22 : decode cX7_drop 22 = .ok (.iconst 0, 1) := by decide +kernel
theorem dX7_drop_23 : decode cX7_drop 23 = .ok (.istore_n 2, 1) := by decide +kernel
theorem dX7_drop_24 : decode cX7_drop 24 = .ok (.iload_n 2, 1) := by decide +kernel
theorem dX7_drop_25 : decode cX7_drop 25 = .ok (.bipush 64, 2) := by decide +kernel
theorem dX7_drop_27 : decode cX7_drop 27 = .ok (.if_icmp .ge 26, 3) := by decide +kernel
theorem dX7_drop_30 : decode cX7_drop 30 = .ok (.aload_n 0, 1) := by decide +kernel
theorem dX7_drop_31 : decode cX7_drop 31 = .ok (.getfield 17, 3) := by decide +kernel
theorem dX7_drop_34 : decode cX7_drop 34 = .ok (.iload_n 2, 1) := by decide +kernel
theorem dX7_drop_35 : decode cX7_drop 35 = .ok (.iaload, 1) := by decide +kernel
theorem dX7_drop_36 : decode cX7_drop 36 = .ok (.iload_n 1, 1) := by decide +kernel
theorem dX7_drop_37 : decode cX7_drop 37 = .ok (.if_icmp .ne 10, 3) := by decide +kernel
theorem dX7_drop_40 : decode cX7_drop 40 = .ok (.aload_n 0, 1) := by decide +kernel
theorem dX7_drop_41 : decode cX7_drop 41 = .ok (.getfield 17, 3) := by decide +kernel
theorem dX7_drop_44 : decode cX7_drop 44 = .ok (.iload_n 2, 1) := by decide +kernel
theorem dX7_drop_45 : decode cX7_drop 45 = .ok (.iconst (-1), 1) := by decide +kernel
theorem dX7_drop_46 : decode cX7_drop 46 = .ok (.iastore, 1) := by decide +kernel
theorem dX7_drop_47 : decode cX7_drop 47 = .ok (.iinc 2 1, 3) := by decide +kernel
theorem dX7_drop_50 : decode cX7_drop 50 = .ok (.goto (-26), 3) := by decide +kernel
theorem dX7_drop_53 : decode cX7_drop 53 = .ok (.iconst 1, 1) := by decide +kernel
theorem dX7_drop_54 : decode cX7_drop 54 = .ok (.ireturn, 1) := by decide +kernel
theorem dX7_source_0 : decode cX7_source 0 = .ok (.aload_n 0, 1) := by decide +kernel
theorem dX7_source_1 : decode cX7_source 1 = .ok (.iconst 0, 1) := by decide +kernel
theorem dX7_source_2 : decode cX7_source 2 = .ok (.putfield 110, 3) := by decide +kernel
theorem dX7_source_5 : decode cX7_source 5 = .ok (.iload_n 1, 1) := by decide +kernel
theorem dX7_source_6 : decode cX7_source 6 = .ok (.invokestatic 118, 3) := by decide +kernel
theorem dX7_source_9 : decode cX7_source 9 = .ok (.ifCond .eq 13, 3) := by decide +kernel
theorem dX7_source_12 : decode cX7_source 12 = .ok (.aload_n 0, 1) := by decide +kernel
theorem dX7_source_13 : decode cX7_source 13 = .ok (.getfield 17, 3) := by decide +kernel
theorem dX7_source_16 : decode cX7_source 16 = .ok (.iload_n 1, 1) := by decide +kernel
theorem dX7_source_17 : decode cX7_source 17 = .ok (.iaload, 1) := by decide +kernel
theorem dX7_source_18 : decode cX7_source 18 = .ok (.iconst (-1), 1) := by decide +kernel
theorem dX7_source_19 : decode cX7_source 19 = .ok (.if_icmp .eq 5, 3) := by decide +kernel
theorem dX7_source_22 : decode cX7_source 22 = .ok (.iconst 0, 1) := by decide +kernel
theorem dX7_source_23 : decode cX7_source 23 = .ok (.ireturn, 1) := by decide +kernel
theorem dX7_source_24 : decode cX7_source 24 = .ok (.aload_n 0, 1) := by decide +kernel
theorem dX7_source_25 : decode cX7_source 25 = .ok (.getfield 7, 3) := by decide +kernel
theorem dX7_source_28 : decode cX7_source 28 = .ok (.iload_n 1, 1) := by decide +kernel
theorem dX7_source_29 : decode cX7_source 29 = .ok (.iconst 1, 1) := by decide +kernel
theorem dX7_source_30 : decode cX7_source 30 = .ok (.bastore, 1) := by decide +kernel
theorem dX7_source_31 : decode cX7_source 31 = .ok (.aload_n 0, 1) := by decide +kernel
theorem dX7_source_32 : decode cX7_source 32 = .ok (.getfield 13, 3) := by decide +kernel
theorem dX7_source_35 : decode cX7_source 35 = .ok (.iload_n 1, 1) := by decide +kernel
theorem dX7_source_36 : decode cX7_source 36 = .ok (.iload_n 2, 1) := by decide +kernel
theorem dX7_source_37 : decode cX7_source 37 = .ok (.iastore, 1) := by decide +kernel
theorem dX7_source_38 : decode cX7_source 38 = .ok (.iconst 1, 1) := by decide +kernel
theorem dX7_source_39 : decode cX7_source 39 = .ok (.ireturn, 1) := by decide +kernel
theorem dX7_spoil_0 : decode cX7_spoil 0 = .ok (.aload_n 0, 1) := by decide +kernel
theorem dX7_spoil_1 : decode cX7_spoil 1 = .ok (.iconst 0, 1) := by decide +kernel
theorem dX7_spoil_2 : decode cX7_spoil 2 = .ok (.putfield 110, 3) := by decide +kernel
theorem dX7_spoil_5 : decode cX7_spoil 5 = .ok (.iload_n 1, 1) := by decide +kernel
theorem dX7_spoil_6 : decode cX7_spoil 6 = .ok (.invokestatic 118, 3) := by decide +kernel
theorem dX7_spoil_9 : decode cX7_spoil 9 = .ok (.ifCond .eq 12, 3) := by decide +kernel
theorem dX7_spoil_12 : decode cX7_spoil 12 = .ok (.aload_n 0, 1) := by decide +kernel
theorem dX7_spoil_13 : decode cX7_spoil 13 = .ok (.getfield 7, 3) := by decide +kernel
theorem dX7_spoil_16 : decode cX7_spoil 16 = .ok (.iload_n 1, 1) := by decide +kernel
theorem dX7_spoil_17 : decode cX7_spoil 17 = .ok (.baload, 1) := by decide +kernel
theorem dX7_spoil_18 : decode cX7_spoil 18 = .ok (.ifCond .ne 5, 3) := by decide +kernel
theorem dX7_spoil_21 : decode cX7_spoil 21 = .ok (.iconst 0, 1) := by decide +kernel
theorem dX7_spoil_22 : decode cX7_spoil 22 = .ok (.ireturn, 1) := by decide +kernel
theorem dX7_spoil_23 : decode cX7_spoil 23 = .ok (.aload_n 0, 1) := by decide +kernel
theorem dX7_spoil_24 : decode cX7_spoil 24 = .ok (.getfield 7, 3) := by decide +kernel
theorem dX7_spoil_27 : decode cX7_spoil 27 = .ok (.iload_n 1, 1) := by decide +kernel
theorem dX7_spoil_28 : decode cX7_spoil 28 = .ok (.iconst 0, 1) := by decide +kernel
theorem dX7_spoil_29 : decode cX7_spoil 29 = .ok (.bastore, 1) := by decide +kernel
theorem dX7_spoil_30 : decode cX7_spoil 30 = .ok (.iconst 1, 1) := by decide +kernel
theorem dX7_spoil_31 : decode cX7_spoil 31 = .ok (.ireturn, 1) := by decide +kernel
theorem dX7_isOther_0 : decode cX7_isOther 0 = .ok (.aload_n 0, 1) := by decide +kernel
theorem dX7_isOther_1 : decode cX7_isOther 1 = .ok (.getfield 23, 3) := by decide +kernel
theorem dX7_isOther_4 : decode cX7_isOther 4 = .ok (.iload_n 1, 1) := by decide +kernel
theorem dX7_isOther_5 : decode cX7_isOther 5 = .ok (.iaload, 1) := by decide +kernel
theorem dX7_isOther_6 : decode cX7_isOther 6 = .ok (.aload_n 0, 1) := by decide +kernel
theorem dX7_isOther_7 : decode cX7_isOther 7 = .ok (.getfield 47, 3) := by decide +kernel
theorem dX7_isOther_10 : decode cX7_isOther 10 = .ok (.iload_n 1, 1) := by decide +kernel
theorem dX7_isOther_11 : decode cX7_isOther 11 = .ok (.iaload, 1) := by decide +kernel
theorem dX7_isOther_12 : decode cX7_isOther 12 = .ok (.if_icmp .ne 48, 3) := by decide +kernel
theorem dX7_isOther_15 : decode cX7_isOther 15 = .ok (.aload_n 0, 1) := by decide +kernel
theorem dX7_isOther_16 : decode cX7_isOther 16 = .ok (.getfield 26, 3) := by decide +kernel
theorem dX7_isOther_19 : decode cX7_isOther 19 = .ok (.iload_n 1, 1) := by decide +kernel
theorem dX7_isOther_20 : decode cX7_isOther 20 = .ok (.iaload, 1) := by decide +kernel
theorem dX7_isOther_21 : decode cX7_isOther 21 = .ok (.aload_n 0, 1) := by decide +kernel
theorem dX7_isOther_22 : decode cX7_isOther 22 = .ok (.getfield 50, 3) := by decide +kernel
theorem dX7_isOther_25 : decode cX7_isOther 25 = .ok (.iload_n 1, 1) := by decide +kernel
theorem dX7_isOther_26 : decode cX7_isOther 26 = .ok (.iaload, 1) := by decide +kernel
theorem dX7_isOther_27 : decode cX7_isOther 27 = .ok (.if_icmp .ne 33, 3) := by decide +kernel
theorem dX7_isOther_30 : decode cX7_isOther 30 = .ok (.aload_n 0, 1) := by decide +kernel
theorem dX7_isOther_31 : decode cX7_isOther 31 = .ok (.getfield 32, 3) := by decide +kernel
theorem dX7_isOther_34 : decode cX7_isOther 34 = .ok (.iload_n 1, 1) := by decide +kernel
theorem dX7_isOther_35 : decode cX7_isOther 35 = .ok (.iaload, 1) := by decide +kernel
theorem dX7_isOther_36 : decode cX7_isOther 36 = .ok (.aload_n 0, 1) := by decide +kernel
theorem dX7_isOther_37 : decode cX7_isOther 37 = .ok (.getfield 53, 3) := by decide +kernel
theorem dX7_isOther_40 : decode cX7_isOther 40 = .ok (.iload_n 1, 1) := by decide +kernel
theorem dX7_isOther_41 : decode cX7_isOther 41 = .ok (.iaload, 1) := by decide +kernel
theorem dX7_isOther_42 : decode cX7_isOther 42 = .ok (.if_icmp .ne 18, 3) := by decide +kernel
theorem dX7_isOther_45 : decode cX7_isOther 45 = .ok (.aload_n 0, 1) := by decide +kernel
theorem dX7_isOther_46 : decode cX7_isOther 46 = .ok (.getfield 35, 3) := by decide +kernel
theorem dX7_isOther_49 : decode cX7_isOther 49 = .ok (.iload_n 1, 1) := by decide +kernel
theorem dX7_isOther_50 : decode cX7_isOther 50 = .ok (.iaload, 1) := by decide +kernel
theorem dX7_isOther_51 : decode cX7_isOther 51 = .ok (.aload_n 0, 1) := by decide +kernel
theorem dX7_isOther_52 : decode cX7_isOther 52 = .ok (.getfield 56, 3) := by decide +kernel
theorem dX7_isOther_55 : decode cX7_isOther 55 = .ok (.iload_n 1, 1) := by decide +kernel
theorem dX7_isOther_56 : decode cX7_isOther 56 = .ok (.iaload, 1) := by decide +kernel
theorem dX7_isOther_57 : decode cX7_isOther 57 = .ok (.if_icmp .eq 5, 3) := by decide +kernel
theorem dX7_isOther_60 : decode cX7_isOther 60 = .ok (.iconst 1, 1) := by decide +kernel
theorem dX7_isOther_61 : decode cX7_isOther 61 = .ok (.ireturn, 1) := by decide +kernel
theorem dX7_isOther_62 : decode cX7_isOther 62 = .ok (.iconst 0, 1) := by decide +kernel
theorem dX7_isOther_63 : decode cX7_isOther 63 = .ok (.istore_n 2, 1) := by decide +kernel
theorem dX7_isOther_64 : decode cX7_isOther 64 = .ok (.iconst 0, 1) := by decide +kernel
theorem dX7_isOther_65 : decode cX7_isOther 65 = .ok (.istore_n 3, 1) := by decide +kernel
theorem dX7_isOther_66 : decode cX7_isOther 66 = .ok (.iload_n 3, 1) := by decide +kernel
theorem dX7_isOther_67 : decode cX7_isOther 67 = .ok (.aload_n 0, 1) := by decide +kernel
theorem dX7_isOther_68 : decode cX7_isOther 68 = .ok (.getfield 32, 3) := by decide +kernel
theorem dX7_isOther_71 : decode cX7_isOther 71 = .ok (.iload_n 1, 1) := by decide +kernel
theorem dX7_isOther_72 : decode cX7_isOther 72 = .ok (.iaload, 1) := by decide +kernel
theorem dX7_isOther_73 : decode cX7_isOther 73 = .ok (.if_icmp .ge 44, 3) := by decide +kernel
theorem dX7_isOther_76 : decode cX7_isOther 76 = .ok (.iload_n 2, 1) := by decide +kernel
theorem dX7_isOther_77 : decode cX7_isOther 77 = .ok (.ifCond .ne 28, 3) := by decide +kernel
theorem dX7_isOther_80 : decode cX7_isOther 80 = .ok (.aload_n 0, 1) := by decide +kernel
theorem dX7_isOther_81 : decode cX7_isOther 81 = .ok (.getfield 38, 3) := by decide +kernel
theorem dX7_isOther_84 : decode cX7_isOther 84 = .ok (.bipush 6, 2) := by decide +kernel
theorem dX7_isOther_86 : decode cX7_isOther 86 = .ok (.iload_n 1, 1) := by decide +kernel
theorem dX7_isOther_87 : decode cX7_isOther 87 = .ok (.imul, 1) := by decide +kernel
theorem dX7_isOther_88 : decode cX7_isOther 88 = .ok (.iload_n 3, 1) := by decide +kernel
theorem dX7_isOther_89 : decode cX7_isOther 89 = .ok (.iadd, 1) := by decide +kernel
theorem dX7_isOther_90 : decode cX7_isOther 90 = .ok (.iaload, 1) := by decide +kernel
theorem dX7_isOther_91 : decode cX7_isOther 91 = .ok (.aload_n 0, 1) := by decide +kernel
theorem dX7_isOther_92 : decode cX7_isOther 92 = .ok (.getfield 59, 3) := by decide +kernel
theorem dX7_isOther_95 : decode cX7_isOther 95 = .ok (.bipush 6, 2) := by decide +kernel
theorem dX7_isOther_97 : decode cX7_isOther 97 = .ok (.iload_n 1, 1) := by decide +kernel
theorem dX7_isOther_98 : decode cX7_isOther 98 = .ok (.imul, 1) := by decide +kernel
theorem dX7_isOther_99 : decode cX7_isOther 99 = .ok (.iload_n 3, 1) := by decide +kernel
theorem dX7_isOther_100 : decode cX7_isOther 100 = .ok (.iadd, 1) := by decide +kernel
theorem dX7_isOther_101 : decode cX7_isOther 101 = .ok (.iaload, 1) := by decide +kernel
theorem dX7_isOther_102 : decode cX7_isOther 102 = .ok (.if_icmp .eq 7, 3) := by decide +kernel
theorem dX7_isOther_105 : decode cX7_isOther 105 = .ok (.iconst 1, 1) := by decide +kernel
theorem dX7_isOther_106 : decode cX7_isOther 106 = .ok (.goto 4, 3) := by decide +kernel
theorem dX7_isOther_109 : decode cX7_isOther 109 = .ok (.iconst 0, 1) := by decide +kernel
theorem dX7_isOther_110 : decode cX7_isOther 110 = .ok (.istore_n 2, 1) := by decide +kernel
theorem dX7_isOther_111 : decode cX7_isOther 111 = .ok (.iinc 3 1, 3) := by decide +kernel
theorem dX7_isOther_114 : decode cX7_isOther 114 = .ok (.goto (-48), 3) := by decide +kernel
theorem dX7_isOther_117 : decode cX7_isOther 117 = .ok (.iconst 0, 1) := by decide +kernel
theorem dX7_isOther_118 : decode cX7_isOther 118 = .ok (.istore_n 3, 1) := by decide +kernel
theorem dX7_isOther_119 : decode cX7_isOther 119 = .ok (.iload_n 3, 1) := by decide +kernel
theorem dX7_isOther_120 : decode cX7_isOther 120 = .ok (.aload_n 0, 1) := by decide +kernel
theorem dX7_isOther_121 : decode cX7_isOther 121 = .ok (.getfield 35, 3) := by decide +kernel
theorem dX7_isOther_124 : decode cX7_isOther 124 = .ok (.iload_n 1, 1) := by decide +kernel
theorem dX7_isOther_125 : decode cX7_isOther 125 = .ok (.iaload, 1) := by decide +kernel
theorem dX7_isOther_126 : decode cX7_isOther 126 = .ok (.if_icmp .ge 42, 3) := by decide +kernel
theorem dX7_isOther_129 : decode cX7_isOther 129 = .ok (.iload_n 2, 1) := by decide +kernel
theorem dX7_isOther_130 : decode cX7_isOther 130 = .ok (.ifCond .ne 26, 3) := by decide +kernel
theorem dX7_isOther_133 : decode cX7_isOther 133 = .ok (.aload_n 0, 1) := by decide +kernel
theorem dX7_isOther_134 : decode cX7_isOther 134 = .ok (.getfield 41, 3) := by decide +kernel
theorem dX7_isOther_137 : decode cX7_isOther 137 = .ok (.iconst 3, 1) := by decide +kernel
theorem dX7_isOther_138 : decode cX7_isOther 138 = .ok (.iload_n 1, 1) := by decide +kernel
theorem dX7_isOther_139 : decode cX7_isOther 139 = .ok (.imul, 1) := by decide +kernel
theorem dX7_isOther_140 : decode cX7_isOther 140 = .ok (.iload_n 3, 1) := by decide +kernel
theorem dX7_isOther_141 : decode cX7_isOther 141 = .ok (.iadd, 1) := by decide +kernel
theorem dX7_isOther_142 : decode cX7_isOther 142 = .ok (.iaload, 1) := by decide +kernel
theorem dX7_isOther_143 : decode cX7_isOther 143 = .ok (.aload_n 0, 1) := by decide +kernel
theorem dX7_isOther_144 : decode cX7_isOther 144 = .ok (.getfield 62, 3) := by decide +kernel
theorem dX7_isOther_147 : decode cX7_isOther 147 = .ok (.iconst 3, 1) := by decide +kernel
theorem dX7_isOther_148 : decode cX7_isOther 148 = .ok (.iload_n 1, 1) := by decide +kernel
theorem dX7_isOther_149 : decode cX7_isOther 149 = .ok (.imul, 1) := by decide +kernel
theorem dX7_isOther_150 : decode cX7_isOther 150 = .ok (.iload_n 3, 1) := by decide +kernel
theorem dX7_isOther_151 : decode cX7_isOther 151 = .ok (.iadd, 1) := by decide +kernel
theorem dX7_isOther_152 : decode cX7_isOther 152 = .ok (.iaload, 1) := by decide +kernel
theorem dX7_isOther_153 : decode cX7_isOther 153 = .ok (.if_icmp .eq 7, 3) := by decide +kernel
theorem dX7_isOther_156 : decode cX7_isOther 156 = .ok (.iconst 1, 1) := by decide +kernel
theorem dX7_isOther_157 : decode cX7_isOther 157 = .ok (.goto 4, 3) := by decide +kernel
theorem dX7_isOther_160 : decode cX7_isOther 160 = .ok (.iconst 0, 1) := by decide +kernel
theorem dX7_isOther_161 : decode cX7_isOther 161 = .ok (.istore_n 2, 1) := by decide +kernel
theorem dX7_isOther_162 : decode cX7_isOther 162 = .ok (.iinc 3 1, 3) := by decide +kernel
theorem dX7_isOther_165 : decode cX7_isOther 165 = .ok (.goto (-46), 3) := by decide +kernel
theorem dX7_isOther_168 : decode cX7_isOther 168 = .ok (.iload_n 2, 1) := by decide +kernel
theorem dX7_isOther_169 : decode cX7_isOther 169 = .ok (.ireturn, 1) := by decide +kernel
theorem dX7_why_0 : decode cX7_why 0 = .ok (.aload_n 0, 1) := by decide +kernel
theorem dX7_why_1 : decode cX7_why 1 = .ok (.getfield 44, 3) := by decide +kernel
theorem dX7_why_4 : decode cX7_why 4 = .ok (.iload_n 1, 1) := by decide +kernel
theorem dX7_why_5 : decode cX7_why 5 = .ok (.baload, 1) := by decide +kernel
theorem dX7_why_6 : decode cX7_why 6 = .ok (.ifCond .ne 5, 3) := by decide +kernel
theorem dX7_why_9 : decode cX7_why 9 = .ok (.iconst 1, 1) := by decide +kernel
theorem dX7_why_10 : decode cX7_why 10 = .ok (.ireturn, 1) := by decide +kernel
theorem dX7_why_11 : decode cX7_why 11 = .ok (.aload_n 0, 1) := by decide +kernel
theorem dX7_why_12 : decode cX7_why 12 = .ok (.iload_n 1, 1) := by decide +kernel
theorem dX7_why_13 : decode cX7_why 13 = .ok (.invokevirtual 121, 3) := by decide +kernel
theorem dX7_why_16 : decode cX7_why 16 = .ok (.ifCond .eq 5, 3) := by decide +kernel
theorem dX7_why_19 : decode cX7_why 19 = .ok (.iconst 2, 1) := by decide +kernel
theorem dX7_why_20 : decode cX7_why 20 = .ok (.ireturn, 1) := by decide +kernel
theorem dX7_why_21 : decode cX7_why 21 = .ok (.iconst 0, 1) := by decide +kernel
theorem dX7_why_22 : decode cX7_why 22 = .ok (.istore_n 2, 1) := by decide +kernel
theorem dX7_why_23 : decode cX7_why 23 = .ok (.iconst 0, 1) := by decide +kernel
theorem dX7_why_24 : decode cX7_why 24 = .ok (.istore_n 3, 1) := by decide +kernel
theorem dX7_why_25 : decode cX7_why 25 = .ok (.iload_n 3, 1) := by decide +kernel
theorem dX7_why_26 : decode cX7_why 26 = .ok (.aload_n 0, 1) := by decide +kernel
theorem dX7_why_27 : decode cX7_why 27 = .ok (.getfield 35, 3) := by decide +kernel
theorem dX7_why_30 : decode cX7_why 30 = .ok (.iload_n 1, 1) := by decide +kernel
theorem dX7_why_31 : decode cX7_why 31 = .ok (.iaload, 1) := by decide +kernel
theorem dX7_why_32 : decode cX7_why 32 = .ok (.if_icmp .ge 37, 3) := by decide +kernel
theorem dX7_why_35 : decode cX7_why 35 = .ok (.iload_n 2, 1) := by decide +kernel
theorem dX7_why_36 : decode cX7_why 36 = .ok (.ifCond .ne 21, 3) := by decide +kernel
theorem dX7_why_39 : decode cX7_why 39 = .ok (.aload_n 0, 1) := by decide +kernel
theorem dX7_why_40 : decode cX7_why 40 = .ok (.getfield 7, 3) := by decide +kernel
theorem dX7_why_43 : decode cX7_why 43 = .ok (.aload_n 0, 1) := by decide +kernel
theorem dX7_why_44 : decode cX7_why 44 = .ok (.getfield 41, 3) := by decide +kernel
theorem dX7_why_47 : decode cX7_why 47 = .ok (.iconst 3, 1) := by decide +kernel
theorem dX7_why_48 : decode cX7_why 48 = .ok (.iload_n 1, 1) := by decide +kernel
theorem dX7_why_49 : decode cX7_why 49 = .ok (.imul, 1) := by decide +kernel
theorem dX7_why_50 : decode cX7_why 50 = .ok (.iload_n 3, 1) := by decide +kernel
theorem dX7_why_51 : decode cX7_why 51 = .ok (.iadd, 1) := by decide +kernel
theorem dX7_why_52 : decode cX7_why 52 = .ok (.iaload, 1) := by decide +kernel
theorem dX7_why_53 : decode cX7_why 53 = .ok (.baload, 1) := by decide +kernel
theorem dX7_why_54 : decode cX7_why 54 = .ok (.ifCond .ne 7, 3) := by decide +kernel
theorem dX7_why_57 : decode cX7_why 57 = .ok (.iconst 1, 1) := by decide +kernel
theorem dX7_why_58 : decode cX7_why 58 = .ok (.goto 4, 3) := by decide +kernel
theorem dX7_why_61 : decode cX7_why 61 = .ok (.iconst 0, 1) := by decide +kernel
theorem dX7_why_62 : decode cX7_why 62 = .ok (.istore_n 2, 1) := by decide +kernel
theorem dX7_why_63 : decode cX7_why 63 = .ok (.iinc 3 1, 3) := by decide +kernel
theorem dX7_why_66 : decode cX7_why 66 = .ok (.goto (-41), 3) := by decide +kernel
theorem dX7_why_69 : decode cX7_why 69 = .ok (.iload_n 2, 1) := by decide +kernel
theorem dX7_why_70 : decode cX7_why 70 = .ok (.ifCond .eq 5, 3) := by decide +kernel
theorem dX7_why_73 : decode cX7_why 73 = .ok (.iconst 3, 1) := by decide +kernel
theorem dX7_why_74 : decode cX7_why 74 = .ok (.ireturn, 1) := by decide +kernel
theorem dX7_why_75 : decode cX7_why 75 = .ok (.iconst 0, 1) := by decide +kernel
theorem dX7_why_76 : decode cX7_why 76 = .ok (.istore_n 3, 1) := by decide +kernel
theorem dX7_why_77 : decode cX7_why 77 = .ok (.iconst 0, 1) := by decide +kernel
theorem dX7_why_78 : decode cX7_why 78 = .ok (.istore 4, 2) := by decide +kernel
theorem dX7_why_80 : decode cX7_why 80 = .ok (.iload 4, 2) := by decide +kernel
theorem dX7_why_82 : decode cX7_why 82 = .ok (.aload_n 0, 1) := by decide +kernel
theorem dX7_why_83 : decode cX7_why 83 = .ok (.getfield 32, 3) := by decide +kernel
theorem dX7_why_86 : decode cX7_why 86 = .ok (.iload_n 1, 1) := by decide +kernel
theorem dX7_why_87 : decode cX7_why 87 = .ok (.iaload, 1) := by decide +kernel
theorem dX7_why_88 : decode cX7_why 88 = .ok (.if_icmp .ge 65, 3) := by decide +kernel
theorem dX7_why_91 : decode cX7_why 91 = .ok (.aload_n 0, 1) := by decide +kernel
theorem dX7_why_92 : decode cX7_why 92 = .ok (.getfield 38, 3) := by decide +kernel
theorem dX7_why_95 : decode cX7_why 95 = .ok (.bipush 6, 2) := by decide +kernel
theorem dX7_why_97 : decode cX7_why 97 = .ok (.iload_n 1, 1) := by decide +kernel
theorem dX7_why_98 : decode cX7_why 98 = .ok (.imul, 1) := by decide +kernel
theorem dX7_why_99 : decode cX7_why 99 = .ok (.iload 4, 2) := by decide +kernel
theorem dX7_why_101 : decode cX7_why 101 = .ok (.iadd, 1) := by decide +kernel
theorem dX7_why_102 : decode cX7_why 102 = .ok (.iaload, 1) := by decide +kernel
theorem dX7_why_103 : decode cX7_why 103 = .ok (.istore 5, 2) := by decide +kernel
theorem dX7_why_105 : decode cX7_why 105 = .ok (.iload_n 3, 1) := by decide +kernel
theorem dX7_why_106 : decode cX7_why 106 = .ok (.ifCond .ne 35, 3) := by decide +kernel
theorem dX7_why_109 : decode cX7_why 109 = .ok (.aload_n 0, 1) := by decide +kernel
theorem dX7_why_110 : decode cX7_why 110 = .ok (.getfield 7, 3) := by decide +kernel
theorem dX7_why_113 : decode cX7_why 113 = .ok (.iload 5, 2) := by decide +kernel
theorem dX7_why_115 : decode cX7_why 115 = .ok (.baload, 1) := by decide +kernel
theorem dX7_why_116 : decode cX7_why 116 = .ok (.ifCond .eq 25, 3) := by decide +kernel
theorem dX7_why_119 : decode cX7_why 119 = .ok (.aload_n 0, 1) := by decide +kernel
theorem dX7_why_120 : decode cX7_why 120 = .ok (.getfield 13, 3) := by decide +kernel
theorem dX7_why_123 : decode cX7_why 123 = .ok (.iload 5, 2) := by decide +kernel
theorem dX7_why_125 : decode cX7_why 125 = .ok (.iaload, 1) := by decide +kernel
theorem dX7_why_126 : decode cX7_why 126 = .ok (.aload_n 0, 1) := by decide +kernel
theorem dX7_why_127 : decode cX7_why 127 = .ok (.getfield 65, 3) := by decide +kernel
theorem dX7_why_130 : decode cX7_why 130 = .ok (.bipush 6, 2) := by decide +kernel
theorem dX7_why_132 : decode cX7_why 132 = .ok (.iload_n 1, 1) := by decide +kernel
theorem dX7_why_133 : decode cX7_why 133 = .ok (.imul, 1) := by decide +kernel
theorem dX7_why_134 : decode cX7_why 134 = .ok (.iload 4, 2) := by decide +kernel
theorem dX7_why_136 : decode cX7_why 136 = .ok (.iadd, 1) := by decide +kernel
theorem dX7_why_137 : decode cX7_why 137 = .ok (.iaload, 1) := by decide +kernel
theorem dX7_why_138 : decode cX7_why 138 = .ok (.if_icmp .eq 7, 3) := by decide +kernel
theorem dX7_why_141 : decode cX7_why 141 = .ok (.iconst 1, 1) := by decide +kernel
theorem dX7_why_142 : decode cX7_why 142 = .ok (.goto 4, 3) := by decide +kernel
theorem dX7_why_145 : decode cX7_why 145 = .ok (.iconst 0, 1) := by decide +kernel
theorem dX7_why_146 : decode cX7_why 146 = .ok (.istore_n 3, 1) := by decide +kernel
theorem dX7_why_147 : decode cX7_why 147 = .ok (.iinc 4 1, 3) := by decide +kernel
theorem dX7_why_150 : decode cX7_why 150 = .ok (.goto (-70), 3) := by decide +kernel
theorem dX7_why_153 : decode cX7_why 153 = .ok (.iload_n 3, 1) := by decide +kernel
theorem dX7_why_154 : decode cX7_why 154 = .ok (.ifCond .eq 7, 3) := by decide +kernel
theorem dX7_why_157 : decode cX7_why 157 = .ok (.iconst 4, 1) := by decide +kernel
theorem dX7_why_158 : decode cX7_why 158 = .ok (.goto 4, 3) := by decide +kernel
theorem dX7_why_161 : decode cX7_why 161 = .ok (.iconst 0, 1) := by decide +kernel
theorem dX7_why_162 : decode cX7_why 162 = .ok (.ireturn, 1) := by decide +kernel
theorem dX7_reason_0 : decode cX7_reason 0 = .ok (.aload_n 0, 1) := by decide +kernel
theorem dX7_reason_1 : decode cX7_reason 1 = .ok (.iconst 0, 1) := by decide +kernel
theorem dX7_reason_2 : decode cX7_reason 2 = .ok (.putfield 110, 3) := by decide +kernel
theorem dX7_reason_5 : decode cX7_reason 5 = .ok (.aload_n 0, 1) := by decide +kernel
theorem dX7_reason_6 : decode cX7_reason 6 = .ok (.iload_n 1, 1) := by decide +kernel
theorem dX7_reason_7 : decode cX7_reason 7 = .ok (.invokevirtual 114, 3) := by decide +kernel
theorem dX7_reason_10 : decode cX7_reason 10 = .ok (.ifCond .eq 11, 3) := by decide +kernel
theorem dX7_reason_13 : decode cX7_reason 13 = .ok (.aload_n 0, 1) := by decide +kernel
theorem dX7_reason_14 : decode cX7_reason 14 = .ok (.iload_n 1, 1) := by decide +kernel
theorem dX7_reason_15 : decode cX7_reason 15 = .ok (.invokevirtual 124, 3) := by decide +kernel
theorem dX7_reason_18 : decode cX7_reason 18 = .ok (.goto 4, 3) := by decide +kernel
theorem dX7_reason_21 : decode cX7_reason 21 = .ok (.iconst (-1), 1) := by decide +kernel
theorem dX7_reason_22 : decode cX7_reason 22 = .ok (.ireturn, 1) := by decide +kernel
theorem dX7_takes_0 : decode cX7_takes 0 = .ok (.iconst 0, 1) := by decide +kernel
theorem dX7_takes_1 : decode cX7_takes 1 = .ok (.istore_n 3, 1) := by decide +kernel
theorem dX7_takes_2 : decode cX7_takes 2 = .ok (.iconst 0, 1) := by decide +kernel
theorem dX7_takes_3 : decode cX7_takes 3 = .ok (.istore 4, 2) := by decide +kernel
theorem dX7_takes_5 : decode cX7_takes 5 = .ok (.iload 4, 2) := by decide +kernel
theorem dX7_takes_7 : decode cX7_takes 7 = .ok (.aload_n 0, 1) := by decide +kernel
theorem dX7_takes_8 : decode cX7_takes 8 = .ok (.getfield 32, 3) := by decide +kernel
theorem dX7_takes_11 : decode cX7_takes 11 = .ok (.iload_n 1, 1) := by decide +kernel
theorem dX7_takes_12 : decode cX7_takes 12 = .ok (.iaload, 1) := by decide +kernel
theorem dX7_takes_13 : decode cX7_takes 13 = .ok (.if_icmp .ge 40, 3) := by decide +kernel
theorem dX7_takes_16 : decode cX7_takes 16 = .ok (.iload_n 3, 1) := by decide +kernel
theorem dX7_takes_17 : decode cX7_takes 17 = .ok (.ifCond .ne 24, 3) := by decide +kernel
theorem dX7_takes_20 : decode cX7_takes 20 = .ok (.aload_n 0, 1) := by decide +kernel
theorem dX7_takes_21 : decode cX7_takes 21 = .ok (.getfield 17, 3) := by decide +kernel
theorem dX7_takes_24 : decode cX7_takes 24 = .ok (.aload_n 0, 1) := by decide +kernel
theorem dX7_takes_25 : decode cX7_takes 25 = .ok (.getfield 38, 3) := by decide +kernel
theorem dX7_takes_28 : decode cX7_takes 28 = .ok (.bipush 6, 2) := by decide +kernel
theorem dX7_takes_30 : decode cX7_takes 30 = .ok (.iload_n 1, 1) := by decide +kernel
theorem dX7_takes_31 : decode cX7_takes 31 = .ok (.imul, 1) := by decide +kernel
theorem dX7_takes_32 : decode cX7_takes 32 = .ok (.iload 4, 2) := by decide +kernel
theorem dX7_takes_34 : decode cX7_takes 34 = .ok (.iadd, 1) := by decide +kernel
theorem dX7_takes_35 : decode cX7_takes 35 = .ok (.iaload, 1) := by decide +kernel
theorem dX7_takes_36 : decode cX7_takes 36 = .ok (.iaload, 1) := by decide +kernel
theorem dX7_takes_37 : decode cX7_takes 37 = .ok (.iload_n 2, 1) := by decide +kernel
theorem dX7_takes_38 : decode cX7_takes 38 = .ok (.if_icmp .ne 7, 3) := by decide +kernel
theorem dX7_takes_41 : decode cX7_takes 41 = .ok (.iconst 1, 1) := by decide +kernel
theorem dX7_takes_42 : decode cX7_takes 42 = .ok (.goto 4, 3) := by decide +kernel
theorem dX7_takes_45 : decode cX7_takes 45 = .ok (.iconst 0, 1) := by decide +kernel
theorem dX7_takes_46 : decode cX7_takes 46 = .ok (.istore_n 3, 1) := by decide +kernel
theorem dX7_takes_47 : decode cX7_takes 47 = .ok (.iinc 4 1, 3) := by decide +kernel
theorem dX7_takes_50 : decode cX7_takes 50 = .ok (.goto (-45), 3) := by decide +kernel
theorem dX7_takes_53 : decode cX7_takes 53 = .ok (.iload_n 3, 1) := by decide +kernel
theorem dX7_takes_54 : decode cX7_takes 54 = .ok (.ireturn, 1) := by decide +kernel
theorem dX7_spread_0 : decode cX7_spread 0 = .ok (.iconst 0, 1) := by decide +kernel
theorem dX7_spread_1 : decode cX7_spread 1 = .ok (.istore_n 2, 1) := by decide +kernel
theorem dX7_spread_2 : decode cX7_spread 2 = .ok (.iload_n 2, 1) := by decide +kernel
theorem dX7_spread_3 : decode cX7_spread 3 = .ok (.bipush 40, 2) := by decide +kernel
theorem dX7_spread_5 : decode cX7_spread 5 = .ok (.if_icmp .ge 30, 3) := by decide +kernel
theorem dX7_spread_8 : decode cX7_spread 8 = .ok (.aload_n 0, 1) := by decide +kernel
theorem dX7_spread_9 : decode cX7_spread 9 = .ok (.getfield 68, 3) := by decide +kernel
theorem dX7_spread_12 : decode cX7_spread 12 = .ok (.iload_n 2, 1) := by decide +kernel
theorem dX7_spread_13 : decode cX7_spread 13 = .ok (.aload_n 0, 1) := by decide +kernel
theorem dX7_spread_14 : decode cX7_spread 14 = .ok (.getfield 17, 3) := by decide +kernel
theorem dX7_spread_17 : decode cX7_spread 17 = .ok (.iload_n 1, 1) := by decide +kernel
theorem dX7_spread_18 : decode cX7_spread 18 = .ok (.iaload, 1) := by decide +kernel
theorem dX7_spread_19 : decode cX7_spread 19 = .ok (.iload_n 2, 1) := by decide +kernel
theorem dX7_spread_20 : decode cX7_spread 20 = .ok (.if_icmp .ne 7, 3) := by decide +kernel
theorem dX7_spread_23 : decode cX7_spread 23 = .ok (.iconst 1, 1) := by decide +kernel
theorem dX7_spread_24 : decode cX7_spread 24 = .ok (.goto 4, 3) := by decide +kernel
theorem dX7_spread_27 : decode cX7_spread 27 = .ok (.iconst 0, 1) := by decide +kernel
theorem dX7_spread_28 : decode cX7_spread 28 = .ok (.bastore, 1) := by decide +kernel
theorem dX7_spread_29 : decode cX7_spread 29 = .ok (.iinc 2 1, 3) := by decide +kernel
theorem dX7_spread_32 : decode cX7_spread 32 = .ok (.goto (-30), 3) := by decide +kernel
theorem dX7_spread_35 : decode cX7_spread 35 = .ok (.iconst 1, 1) := by decide +kernel
theorem dX7_spread_36 : decode cX7_spread 36 = .ok (.istore_n 2, 1) := by decide +kernel
theorem dX7_spread_37 : decode cX7_spread 37 = .ok (.iload_n 2, 1) := by decide +kernel
theorem dX7_spread_38 : decode cX7_spread 38 = .ok (.ifCond .eq 107, 3) := by decide +kernel
theorem dX7_spread_41 : decode cX7_spread 41 = .ok (.iconst 0, 1) := by decide +kernel
theorem dX7_spread_42 : decode cX7_spread 42 = .ok (.istore_n 2, 1) := by decide +kernel
theorem dX7_spread_43 : decode cX7_spread 43 = .ok (.iconst 0, 1) := by decide +kernel
theorem dX7_spread_44 : decode cX7_spread 44 = .ok (.istore_n 3, 1) := by decide +kernel
theorem dX7_spread_45 : decode cX7_spread 45 = .ok (.iload_n 3, 1) := by decide +kernel
theorem dX7_spread_46 : decode cX7_spread 46 = .ok (.bipush 40, 2) := by decide +kernel
theorem dX7_spread_48 : decode cX7_spread 48 = .ok (.if_icmp .ge 94, 3) := by decide +kernel
theorem dX7_spread_51 : decode cX7_spread 51 = .ok (.aload_n 0, 1) := by decide +kernel
theorem dX7_spread_52 : decode cX7_spread 52 = .ok (.getfield 68, 3) := by decide +kernel
theorem dX7_spread_55 : decode cX7_spread 55 = .ok (.iload_n 3, 1) := by decide +kernel
theorem dX7_spread_56 : decode cX7_spread 56 = .ok (.baload, 1) := by decide +kernel
theorem dX7_spread_57 : decode cX7_spread 57 = .ok (.istore 4, 2) := by decide +kernel
theorem dX7_spread_59 : decode cX7_spread 59 = .ok (.iconst 0, 1) := by decide +kernel
theorem dX7_spread_60 : decode cX7_spread 60 = .ok (.istore 5, 2) := by decide +kernel
theorem dX7_spread_62 : decode cX7_spread 62 = .ok (.iload 5, 2) := by decide +kernel
theorem dX7_spread_64 : decode cX7_spread 64 = .ok (.bipush 40, 2) := by decide +kernel
theorem dX7_spread_66 : decode cX7_spread 66 = .ok (.if_icmp .ge 41, 3) := by decide +kernel
theorem dX7_spread_69 : decode cX7_spread 69 = .ok (.iload 4, 2) := by decide +kernel
theorem dX7_spread_71 : decode cX7_spread 71 = .ok (.ifCond .ne 36, 3) := by decide +kernel
theorem dX7_spread_74 : decode cX7_spread 74 = .ok (.aload_n 0, 1) := by decide +kernel
theorem dX7_spread_75 : decode cX7_spread 75 = .ok (.getfield 68, 3) := by decide +kernel
theorem dX7_spread_78 : decode cX7_spread 78 = .ok (.iload 5, 2) := by decide +kernel
theorem dX7_spread_80 : decode cX7_spread 80 = .ok (.baload, 1) := by decide +kernel
theorem dX7_spread_81 : decode cX7_spread 81 = .ok (.ifCond .eq 17, 3) := by decide +kernel
theorem dX7_spread_84 : decode cX7_spread 84 = .ok (.aload_n 0, 1) := by decide +kernel
theorem dX7_spread_85 : decode cX7_spread 85 = .ok (.iload 5, 2) := by decide +kernel
theorem dX7_spread_87 : decode cX7_spread 87 = .ok (.iload_n 3, 1) := by decide +kernel
theorem dX7_spread_88 : decode cX7_spread 88 = .ok (.invokevirtual 128, 3) := by decide +kernel
theorem dX7_spread_91 : decode cX7_spread 91 = .ok (.ifCond .eq 7, 3) := by decide +kernel
theorem dX7_spread_94 : decode cX7_spread 94 = .ok (.iconst 1, 1) := by decide +kernel
theorem dX7_spread_95 : decode cX7_spread 95 = .ok (.goto 4, 3) := by decide +kernel
theorem dX7_spread_98 : decode cX7_spread 98 = .ok (.iconst 0, 1) := by decide +kernel
theorem dX7_spread_99 : decode cX7_spread 99 = .ok (.istore 4, 2) := by decide +kernel
theorem dX7_spread_101 : decode cX7_spread 101 = .ok (.iinc 5 1, 3) := by decide +kernel
theorem dX7_spread_104 : decode cX7_spread 104 = .ok (.goto (-42), 3) := by decide +kernel
theorem dX7_spread_107 : decode cX7_spread 107 = .ok (.iload_n 2, 1) := by decide +kernel
theorem dX7_spread_108 : decode cX7_spread 108 = .ok (.ifCond .ne 14, 3) := by decide +kernel
theorem dX7_spread_111 : decode cX7_spread 111 = .ok (.iload 4, 2) := by decide +kernel
theorem dX7_spread_113 : decode cX7_spread 113 = .ok (.aload_n 0, 1) := by decide +kernel
theorem dX7_spread_114 : decode cX7_spread 114 = .ok (.getfield 68, 3) := by decide +kernel
theorem dX7_spread_117 : decode cX7_spread 117 = .ok (.iload_n 3, 1) := by decide +kernel
theorem dX7_spread_118 : decode cX7_spread 118 = .ok (.baload, 1) := by decide +kernel
theorem dX7_spread_119 : decode cX7_spread 119 = .ok (.if_icmp .eq 7, 3) := by decide +kernel
theorem dX7_spread_122 : decode cX7_spread 122 = .ok (.iconst 1, 1) := by decide +kernel
theorem dX7_spread_123 : decode cX7_spread 123 = .ok (.goto 4, 3) := by decide +kernel
theorem dX7_spread_126 : decode cX7_spread 126 = .ok (.iconst 0, 1) := by decide +kernel
theorem dX7_spread_127 : decode cX7_spread 127 = .ok (.istore_n 2, 1) := by decide +kernel
theorem dX7_spread_128 : decode cX7_spread 128 = .ok (.aload_n 0, 1) := by decide +kernel
theorem dX7_spread_129 : decode cX7_spread 129 = .ok (.getfield 68, 3) := by decide +kernel
theorem dX7_spread_132 : decode cX7_spread 132 = .ok (.iload_n 3, 1) := by decide +kernel
theorem dX7_spread_133 : decode cX7_spread 133 = .ok (.iload 4, 2) := by decide +kernel
theorem dX7_spread_135 : decode cX7_spread 135 = .ok (.bastore, 1) := by decide +kernel
theorem dX7_spread_136 : decode cX7_spread 136 = .ok (.iinc 3 1, 3) := by decide +kernel
theorem dX7_spread_139 : decode cX7_spread 139 = .ok (.goto (-94), 3) := by decide +kernel
theorem dX7_spread_142 : decode cX7_spread 142 = .ok (.goto (-105), 3) := by decide +kernel
theorem dX7_spread_145 : decode cX7_spread 145 = .ok (.return_, 1) := by decide +kernel
theorem dX7_measure_0 : decode cX7_measure 0 = .ok (.iconst 0, 1) := by decide +kernel
theorem dX7_measure_1 : decode cX7_measure 1 = .ok (.istore_n 2, 1) := by decide +kernel
theorem dX7_measure_2 : decode cX7_measure 2 = .ok (.iload_n 2, 1) := by decide +kernel
theorem dX7_measure_3 : decode cX7_measure 3 = .ok (.bipush 40, 2) := by decide +kernel
theorem dX7_measure_5 : decode cX7_measure 5 = .ok (.if_icmp .ge 27, 3) := by decide +kernel
theorem dX7_measure_8 : decode cX7_measure 8 = .ok (.aload_n 0, 1) := by decide +kernel
theorem dX7_measure_9 : decode cX7_measure 9 = .ok (.getfield 107, 3) := by decide +kernel
theorem dX7_measure_12 : decode cX7_measure 12 = .ok (.iload_n 2, 1) := by decide +kernel
theorem dX7_measure_13 : decode cX7_measure 13 = .ok (.iload_n 2, 1) := by decide +kernel
theorem dX7_measure_14 : decode cX7_measure 14 = .ok (.iload_n 1, 1) := by decide +kernel
theorem dX7_measure_15 : decode cX7_measure 15 = .ok (.if_icmp .ne 7, 3) := by decide +kernel
theorem dX7_measure_18 : decode cX7_measure 18 = .ok (.iconst 0, 1) := by decide +kernel
theorem dX7_measure_19 : decode cX7_measure 19 = .ok (.goto 6, 3) := by decide +kernel
theorem dX7_measure_22 : decode cX7_measure 22 = .ok (.sipush 1000, 3) := by decide +kernel
theorem dX7_measure_25 : decode cX7_measure 25 = .ok (.iastore, 1) := by decide +kernel
theorem dX7_measure_26 : decode cX7_measure 26 = .ok (.iinc 2 1, 3) := by decide +kernel
theorem dX7_measure_29 : decode cX7_measure 29 = .ok (.goto (-27), 3) := by decide +kernel
theorem dX7_measure_32 : decode cX7_measure 32 = .ok (.iconst 1, 1) := by decide +kernel
theorem dX7_measure_33 : decode cX7_measure 33 = .ok (.istore_n 2, 1) := by decide +kernel
theorem dX7_measure_34 : decode cX7_measure 34 = .ok (.iload_n 2, 1) := by decide +kernel
theorem dX7_measure_35 : decode cX7_measure 35 = .ok (.ifCond .eq 100, 3) := by decide +kernel
theorem dX7_measure_38 : decode cX7_measure 38 = .ok (.iconst 0, 1) := by decide +kernel
theorem dX7_measure_39 : decode cX7_measure 39 = .ok (.istore_n 2, 1) := by decide +kernel
theorem dX7_measure_40 : decode cX7_measure 40 = .ok (.iconst 0, 1) := by decide +kernel
theorem dX7_measure_41 : decode cX7_measure 41 = .ok (.istore_n 3, 1) := by decide +kernel
theorem dX7_measure_42 : decode cX7_measure 42 = .ok (.iload_n 3, 1) := by decide +kernel
theorem dX7_measure_43 : decode cX7_measure 43 = .ok (.bipush 40, 2) := by decide +kernel
theorem dX7_measure_45 : decode cX7_measure 45 = .ok (.if_icmp .ge 87, 3) := by decide +kernel
theorem dX7_measure_48 : decode cX7_measure 48 = .ok (.iconst 0, 1) := by decide +kernel
theorem dX7_measure_49 : decode cX7_measure 49 = .ok (.istore 4, 2) := by decide +kernel
theorem dX7_measure_51 : decode cX7_measure 51 = .ok (.iload 4, 2) := by decide +kernel
theorem dX7_measure_53 : decode cX7_measure 53 = .ok (.bipush 40, 2) := by decide +kernel
theorem dX7_measure_55 : decode cX7_measure 55 = .ok (.if_icmp .ge 71, 3) := by decide +kernel
theorem dX7_measure_58 : decode cX7_measure 58 = .ok (.aload_n 0, 1) := by decide +kernel
theorem dX7_measure_59 : decode cX7_measure 59 = .ok (.getfield 68, 3) := by decide +kernel
theorem dX7_measure_62 : decode cX7_measure 62 = .ok (.iload_n 3, 1) := by decide +kernel
theorem dX7_measure_63 : decode cX7_measure 63 = .ok (.baload, 1) := by decide +kernel
theorem dX7_measure_64 : decode cX7_measure 64 = .ok (.ifCond .eq 62, 3) := by decide +kernel
theorem dX7_measure_67 : decode cX7_measure 67 = .ok (.iload_n 3, 1) := by decide +kernel
theorem dX7_measure_68 : decode cX7_measure 68 = .ok (.iload_n 1, 1) := by decide +kernel
theorem dX7_measure_69 : decode cX7_measure 69 = .ok (.if_icmp .eq 57, 3) := by decide +kernel
theorem dX7_measure_72 : decode cX7_measure 72 = .ok (.aload_n 0, 1) := by decide +kernel
theorem dX7_measure_73 : decode cX7_measure 73 = .ok (.iload_n 3, 1) := by decide +kernel
theorem dX7_measure_74 : decode cX7_measure 74 = .ok (.iload 4, 2) := by decide +kernel
theorem dX7_measure_76 : decode cX7_measure 76 = .ok (.invokevirtual 128, 3) := by decide +kernel
theorem dX7_measure_79 : decode cX7_measure 79 = .ok (.ifCond .eq 41, 3) := by decide +kernel
theorem dX7_measure_82 : decode cX7_measure 82 = .ok (.aload_n 0, 1) := by decide +kernel
theorem dX7_measure_83 : decode cX7_measure 83 = .ok (.getfield 107, 3) := by decide +kernel
theorem dX7_measure_86 : decode cX7_measure 86 = .ok (.iload 4, 2) := by decide +kernel
theorem dX7_measure_88 : decode cX7_measure 88 = .ok (.iaload, 1) := by decide +kernel
theorem dX7_measure_89 : decode cX7_measure 89 = .ok (.iconst 1, 1) := by decide +kernel
theorem dX7_measure_90 : decode cX7_measure 90 = .ok (.iadd, 1) := by decide +kernel
theorem dX7_measure_91 : decode cX7_measure 91 = .ok (.aload_n 0, 1) := by decide +kernel
theorem dX7_measure_92 : decode cX7_measure 92 = .ok (.getfield 107, 3) := by decide +kernel
theorem dX7_measure_95 : decode cX7_measure 95 = .ok (.iload_n 3, 1) := by decide +kernel
theorem dX7_measure_96 : decode cX7_measure 96 = .ok (.iaload, 1) := by decide +kernel
theorem dX7_measure_97 : decode cX7_measure 97 = .ok (.if_icmp .lt 6, 3) := by decide +kernel
theorem dX7_measure_100 : decode cX7_measure 100 = .ok (.goto 20, 3) := by decide +kernel
theorem dX7_measure_103 : decode cX7_measure 103 = .ok (.aload_n 0, 1) := by decide +kernel
theorem dX7_measure_104 : decode cX7_measure 104 = .ok (.getfield 107, 3) := by decide +kernel
theorem dX7_measure_107 : decode cX7_measure 107 = .ok (.iload_n 3, 1) := by decide +kernel
theorem dX7_measure_108 : decode cX7_measure 108 = .ok (.aload_n 0, 1) := by decide +kernel
theorem dX7_measure_109 : decode cX7_measure 109 = .ok (.getfield 107, 3) := by decide +kernel
theorem dX7_measure_112 : decode cX7_measure 112 = .ok (.iload 4, 2) := by decide +kernel
theorem dX7_measure_114 : decode cX7_measure 114 = .ok (.iaload, 1) := by decide +kernel
theorem dX7_measure_115 : decode cX7_measure 115 = .ok (.iconst 1, 1) := by decide +kernel
theorem dX7_measure_116 : decode cX7_measure 116 = .ok (.iadd, 1) := by decide +kernel
theorem dX7_measure_117 : decode cX7_measure 117 = .ok (.iastore, 1) := by decide +kernel
theorem dX7_measure_118 : decode cX7_measure 118 = .ok (.iconst 1, 1) := by decide +kernel
theorem dX7_measure_119 : decode cX7_measure 119 = .ok (.istore_n 2, 1) := by decide +kernel
theorem dX7_measure_120 : decode cX7_measure 120 = .ok (.iinc 4 1, 3) := by decide +kernel
theorem dX7_measure_123 : decode cX7_measure 123 = .ok (.goto (-72), 3) := by decide +kernel
theorem dX7_measure_126 : decode cX7_measure 126 = .ok (.iinc 3 1, 3) := by decide +kernel
theorem dX7_measure_129 : decode cX7_measure 129 = .ok (.goto (-87), 3) := by decide +kernel
theorem dX7_measure_132 : decode cX7_measure 132 = .ok (.goto (-98), 3) := by decide +kernel
theorem dX7_measure_135 : decode cX7_measure 135 = .ok (.return_, 1) := by decide +kernel
theorem dX7_nearest_0 : decode cX7_nearest 0 = .ok (.iconst (-1), 1) := by decide +kernel
theorem dX7_nearest_1 : decode cX7_nearest 1 = .ok (.istore_n 2, 1) := by decide +kernel
theorem dX7_nearest_2 : decode cX7_nearest 2 = .ok (.iconst 0, 1) := by decide +kernel
theorem dX7_nearest_3 : decode cX7_nearest 3 = .ok (.istore_n 3, 1) := by decide +kernel
theorem dX7_nearest_4 : decode cX7_nearest 4 = .ok (.iload_n 3, 1) := by decide +kernel
theorem dX7_nearest_5 : decode cX7_nearest 5 = .ok (.bipush 40, 2) := by decide +kernel
theorem dX7_nearest_7 : decode cX7_nearest 7 = .ok (.if_icmp .ge 52, 3) := by decide +kernel
theorem dX7_nearest_10 : decode cX7_nearest 10 = .ok (.aload_n 0, 1) := by decide +kernel
theorem dX7_nearest_11 : decode cX7_nearest 11 = .ok (.iload_n 1, 1) := by decide +kernel
theorem dX7_nearest_12 : decode cX7_nearest 12 = .ok (.iload_n 3, 1) := by decide +kernel
theorem dX7_nearest_13 : decode cX7_nearest 13 = .ok (.invokevirtual 128, 3) := by decide +kernel
theorem dX7_nearest_16 : decode cX7_nearest 16 = .ok (.ifCond .eq 37, 3) := by decide +kernel
theorem dX7_nearest_19 : decode cX7_nearest 19 = .ok (.aload_n 0, 1) := by decide +kernel
theorem dX7_nearest_20 : decode cX7_nearest 20 = .ok (.getfield 107, 3) := by decide +kernel
theorem dX7_nearest_23 : decode cX7_nearest 23 = .ok (.iload_n 3, 1) := by decide +kernel
theorem dX7_nearest_24 : decode cX7_nearest 24 = .ok (.iaload, 1) := by decide +kernel
theorem dX7_nearest_25 : decode cX7_nearest 25 = .ok (.sipush 1000, 3) := by decide +kernel
theorem dX7_nearest_28 : decode cX7_nearest 28 = .ok (.if_icmp .ge 25, 3) := by decide +kernel
theorem dX7_nearest_31 : decode cX7_nearest 31 = .ok (.iload_n 2, 1) := by decide +kernel
theorem dX7_nearest_32 : decode cX7_nearest 32 = .ok (.iconst (-1), 1) := by decide +kernel
theorem dX7_nearest_33 : decode cX7_nearest 33 = .ok (.if_icmp .eq 18, 3) := by decide +kernel
theorem dX7_nearest_36 : decode cX7_nearest 36 = .ok (.aload_n 0, 1) := by decide +kernel
theorem dX7_nearest_37 : decode cX7_nearest 37 = .ok (.getfield 107, 3) := by decide +kernel
theorem dX7_nearest_40 : decode cX7_nearest 40 = .ok (.iload_n 3, 1) := by decide +kernel
theorem dX7_nearest_41 : decode cX7_nearest 41 = .ok (.iaload, 1) := by decide +kernel
theorem dX7_nearest_42 : decode cX7_nearest 42 = .ok (.aload_n 0, 1) := by decide +kernel
theorem dX7_nearest_43 : decode cX7_nearest 43 = .ok (.getfield 107, 3) := by decide +kernel
theorem dX7_nearest_46 : decode cX7_nearest 46 = .ok (.iload_n 2, 1) := by decide +kernel
theorem dX7_nearest_47 : decode cX7_nearest 47 = .ok (.iaload, 1) := by decide +kernel
theorem dX7_nearest_48 : decode cX7_nearest 48 = .ok (.if_icmp .ge 5, 3) := by decide +kernel
theorem dX7_nearest_51 : decode cX7_nearest 51 = .ok (.iload_n 3, 1) := by decide +kernel
theorem dX7_nearest_52 : decode cX7_nearest 52 = .ok (.istore_n 2, 1) := by decide +kernel
theorem dX7_nearest_53 : decode cX7_nearest 53 = .ok (.iinc 3 1, 3) := by decide +kernel
theorem dX7_nearest_56 : decode cX7_nearest 56 = .ok (.goto (-52), 3) := by decide +kernel
theorem dX7_nearest_59 : decode cX7_nearest 59 = .ok (.iload_n 2, 1) := by decide +kernel
theorem dX7_nearest_60 : decode cX7_nearest 60 = .ok (.ireturn, 1) := by decide +kernel
theorem dX7_isRound_0 : decode cX7_isRound 0 = .ok (.iconst 0, 1) := by decide +kernel
theorem dX7_isRound_1 : decode cX7_isRound 1 = .ok (.istore_n 1, 1) := by decide +kernel
theorem dX7_isRound_2 : decode cX7_isRound 2 = .ok (.iload_n 1, 1) := by decide +kernel
theorem dX7_isRound_3 : decode cX7_isRound 3 = .ok (.bipush 40, 2) := by decide +kernel
theorem dX7_isRound_5 : decode cX7_isRound 5 = .ok (.if_icmp .ge 88, 3) := by decide +kernel
theorem dX7_isRound_8 : decode cX7_isRound 8 = .ok (.aload_n 0, 1) := by decide +kernel
theorem dX7_isRound_9 : decode cX7_isRound 9 = .ok (.getfield 68, 3) := by decide +kernel
theorem dX7_isRound_12 : decode cX7_isRound 12 = .ok (.iload_n 1, 1) := by decide +kernel
theorem dX7_isRound_13 : decode cX7_isRound 13 = .ok (.baload, 1) := by decide +kernel
theorem dX7_isRound_14 : decode cX7_isRound 14 = .ok (.ifCond .ne 6, 3) := by decide +kernel
theorem dX7_isRound_17 : decode cX7_isRound 17 = .ok (.goto 70, 3) := by decide +kernel
theorem dX7_isRound_20 : decode cX7_isRound 20 = .ok (.aload_n 0, 1) := by decide +kernel
theorem dX7_isRound_21 : decode cX7_isRound 21 = .ok (.iload_n 1, 1) := by decide +kernel
theorem dX7_isRound_22 : decode cX7_isRound 22 = .ok (.invokevirtual 132, 3) := by decide +kernel
theorem dX7_isRound_25 : decode cX7_isRound 25 = .ok (.aload_n 0, 1) := by decide +kernel
theorem dX7_isRound_26 : decode cX7_isRound 26 = .ok (.iload_n 1, 1) := by decide +kernel
theorem dX7_isRound_27 : decode cX7_isRound 27 = .ok (.invokevirtual 136, 3) := by decide +kernel
theorem dX7_isRound_30 : decode cX7_isRound 30 = .ok (.istore_n 2, 1) := by decide +kernel
theorem dX7_isRound_31 : decode cX7_isRound 31 = .ok (.iload_n 2, 1) := by decide +kernel
theorem dX7_isRound_32 : decode cX7_isRound 32 = .ok (.iconst (-1), 1) := by decide +kernel
theorem dX7_isRound_33 : decode cX7_isRound 33 = .ok (.if_icmp .ne 6, 3) := by decide +kernel
theorem dX7_isRound_36 : decode cX7_isRound 36 = .ok (.goto 51, 3) := by decide +kernel
theorem dX7_isRound_39 : decode cX7_isRound 39 = .ok (.aload_n 0, 1) := by decide +kernel
theorem dX7_isRound_40 : decode cX7_isRound 40 = .ok (.getfield 104, 3) := by decide +kernel
theorem dX7_isRound_43 : decode cX7_isRound 43 = .ok (.iconst 0, 1) := by decide +kernel
theorem dX7_isRound_44 : decode cX7_isRound 44 = .ok (.iload_n 1, 1) := by decide +kernel
theorem dX7_isRound_45 : decode cX7_isRound 45 = .ok (.iastore, 1) := by decide +kernel
theorem dX7_isRound_46 : decode cX7_isRound 46 = .ok (.aload_n 0, 1) := by decide +kernel
theorem dX7_isRound_47 : decode cX7_isRound 47 = .ok (.iconst 1, 1) := by decide +kernel
theorem dX7_isRound_48 : decode cX7_isRound 48 = .ok (.putfield 139, 3) := by decide +kernel
theorem dX7_isRound_51 : decode cX7_isRound 51 = .ok (.iload_n 2, 1) := by decide +kernel
theorem dX7_isRound_52 : decode cX7_isRound 52 = .ok (.iload_n 1, 1) := by decide +kernel
theorem dX7_isRound_53 : decode cX7_isRound 53 = .ok (.if_icmp .eq 32, 3) := by decide +kernel
theorem dX7_isRound_56 : decode cX7_isRound 56 = .ok (.aload_n 0, 1) := by decide +kernel
theorem dX7_isRound_57 : decode cX7_isRound 57 = .ok (.getfield 104, 3) := by decide +kernel
theorem dX7_isRound_60 : decode cX7_isRound 60 = .ok (.aload_n 0, 1) := by decide +kernel
theorem dX7_isRound_61 : decode cX7_isRound 61 = .ok (.getfield 139, 3) := by decide +kernel
theorem dX7_isRound_64 : decode cX7_isRound 64 = .ok (.iload_n 2, 1) := by decide +kernel
theorem dX7_isRound_65 : decode cX7_isRound 65 = .ok (.iastore, 1) := by decide +kernel
theorem dX7_isRound_66 : decode cX7_isRound 66 = .ok (.aload_n 0, 1) := by decide +kernel
theorem dX7_isRound_67 : decode cX7_isRound 67 = .ok (.dup, 1) := by decide +kernel
theorem dX7_isRound_68 : decode cX7_isRound 68 = .ok (.getfield 139, 3) := by decide +kernel
theorem dX7_isRound_71 : decode cX7_isRound 71 = .ok (.iconst 1, 1) := by decide +kernel
theorem dX7_isRound_72 : decode cX7_isRound 72 = .ok (.iadd, 1) := by decide +kernel
theorem dX7_isRound_73 : decode cX7_isRound 73 = .ok (.putfield 139, 3) := by decide +kernel
theorem dX7_isRound_76 : decode cX7_isRound 76 = .ok (.aload_n 0, 1) := by decide +kernel
theorem dX7_isRound_77 : decode cX7_isRound 77 = .ok (.iload_n 2, 1) := by decide +kernel
theorem dX7_isRound_78 : decode cX7_isRound 78 = .ok (.invokevirtual 136, 3) := by decide +kernel
theorem dX7_isRound_81 : decode cX7_isRound 81 = .ok (.istore_n 2, 1) := by decide +kernel
theorem dX7_isRound_82 : decode cX7_isRound 82 = .ok (.goto (-31), 3) := by decide +kernel
theorem dX7_isRound_85 : decode cX7_isRound 85 = .ok (.iconst 1, 1) := by decide +kernel
theorem dX7_isRound_86 : decode cX7_isRound 86 = .ok (.ireturn, 1) := by decide +kernel
theorem dX7_isRound_87 : decode cX7_isRound 87 = .ok (.iinc 1 1, 3) := by decide +kernel
theorem dX7_isRound_90 : decode cX7_isRound 90 = .ok (.goto (-88), 3) := by decide +kernel
theorem dX7_isRound_93 : decode cX7_isRound 93 = .ok (.iconst 0, 1) := by decide +kernel
theorem dX7_isRound_94 : decode cX7_isRound 94 = .ok (.ireturn, 1) := by decide +kernel
theorem dX7_isLacking_0 : decode cX7_isLacking 0 = .ok (.aload_n 0, 1) := by decide +kernel
theorem dX7_isLacking_1 : decode cX7_isLacking 1 = .ok (.getfield 17, 3) := by decide +kernel
theorem dX7_isLacking_4 : decode cX7_isLacking 4 = .ok (.iload_n 1, 1) := by decide +kernel
theorem dX7_isLacking_5 : decode cX7_isLacking 5 = .ok (.iaload, 1) := by decide +kernel
theorem dX7_isLacking_6 : decode cX7_isLacking 6 = .ok (.iconst (-1), 1) := by decide +kernel
theorem dX7_isLacking_7 : decode cX7_isLacking 7 = .ok (.if_icmp .ne 14, 3) := by decide +kernel
theorem dX7_isLacking_10 : decode cX7_isLacking 10 = .ok (.aload_n 0, 1) := by decide +kernel
theorem dX7_isLacking_11 : decode cX7_isLacking 11 = .ok (.getfield 7, 3) := by decide +kernel
theorem dX7_isLacking_14 : decode cX7_isLacking 14 = .ok (.iload_n 1, 1) := by decide +kernel
theorem dX7_isLacking_15 : decode cX7_isLacking 15 = .ok (.baload, 1) := by decide +kernel
theorem dX7_isLacking_16 : decode cX7_isLacking 16 = .ok (.ifCond .ne 5, 3) := by decide +kernel
theorem dX7_isLacking_19 : decode cX7_isLacking 19 = .ok (.iconst 1, 1) := by decide +kernel
theorem dX7_isLacking_20 : decode cX7_isLacking 20 = .ok (.ireturn, 1) := by decide +kernel
theorem dX7_isLacking_21 : decode cX7_isLacking 21 = .ok (.iconst 0, 1) := by decide +kernel
theorem dX7_isLacking_22 : decode cX7_isLacking 22 = .ok (.istore_n 2, 1) := by decide +kernel
theorem dX7_isLacking_23 : decode cX7_isLacking 23 = .ok (.iconst 0, 1) := by decide +kernel
theorem dX7_isLacking_24 : decode cX7_isLacking 24 = .ok (.istore_n 3, 1) := by decide +kernel
theorem dX7_isLacking_25 : decode cX7_isLacking 25 = .ok (.iload_n 3, 1) := by decide +kernel
theorem dX7_isLacking_26 : decode cX7_isLacking 26 = .ok (.bipush 40, 2) := by decide +kernel
theorem dX7_isLacking_28 : decode cX7_isLacking 28 = .ok (.if_icmp .ge 83, 3) := by decide +kernel
theorem dX7_isLacking_31 : decode cX7_isLacking 31 = .ok (.iconst 0, 1) := by decide +kernel
theorem dX7_isLacking_32 : decode cX7_isLacking 32 = .ok (.istore 4, 2) := by decide +kernel
theorem dX7_isLacking_34 : decode cX7_isLacking 34 = .ok (.iload 4, 2) := by decide +kernel
theorem dX7_isLacking_36 : decode cX7_isLacking 36 = .ok (.aload_n 0, 1) := by decide +kernel
theorem dX7_isLacking_37 : decode cX7_isLacking 37 = .ok (.getfield 32, 3) := by decide +kernel
theorem dX7_isLacking_40 : decode cX7_isLacking 40 = .ok (.iload_n 3, 1) := by decide +kernel
theorem dX7_isLacking_41 : decode cX7_isLacking 41 = .ok (.iaload, 1) := by decide +kernel
theorem dX7_isLacking_42 : decode cX7_isLacking 42 = .ok (.if_icmp .ge 63, 3) := by decide +kernel
theorem dX7_isLacking_45 : decode cX7_isLacking 45 = .ok (.aload_n 0, 1) := by decide +kernel
theorem dX7_isLacking_46 : decode cX7_isLacking 46 = .ok (.getfield 68, 3) := by decide +kernel
theorem dX7_isLacking_49 : decode cX7_isLacking 49 = .ok (.iload_n 3, 1) := by decide +kernel
theorem dX7_isLacking_50 : decode cX7_isLacking 50 = .ok (.baload, 1) := by decide +kernel
theorem dX7_isLacking_51 : decode cX7_isLacking 51 = .ok (.ifCond .eq 54, 3) := by decide +kernel
theorem dX7_isLacking_54 : decode cX7_isLacking 54 = .ok (.aload_n 0, 1) := by decide +kernel
theorem dX7_isLacking_55 : decode cX7_isLacking 55 = .ok (.getfield 38, 3) := by decide +kernel
theorem dX7_isLacking_58 : decode cX7_isLacking 58 = .ok (.bipush 6, 2) := by decide +kernel
theorem dX7_isLacking_60 : decode cX7_isLacking 60 = .ok (.iload_n 3, 1) := by decide +kernel
theorem dX7_isLacking_61 : decode cX7_isLacking 61 = .ok (.imul, 1) := by decide +kernel
theorem dX7_isLacking_62 : decode cX7_isLacking 62 = .ok (.iload 4, 2) := by decide +kernel
theorem dX7_isLacking_64 : decode cX7_isLacking 64 = .ok (.iadd, 1) := by decide +kernel
theorem dX7_isLacking_65 : decode cX7_isLacking 65 = .ok (.iaload, 1) := by decide +kernel
theorem dX7_isLacking_66 : decode cX7_isLacking 66 = .ok (.istore 5, 2) := by decide +kernel
theorem dX7_isLacking_68 : decode cX7_isLacking 68 = .ok (.iload_n 2, 1) := by decide +kernel
theorem dX7_isLacking_69 : decode cX7_isLacking 69 = .ok (.ifCond .ne 24, 3) := by decide +kernel
theorem dX7_isLacking_72 : decode cX7_isLacking 72 = .ok (.aload_n 0, 1) := by decide +kernel
theorem dX7_isLacking_73 : decode cX7_isLacking 73 = .ok (.getfield 17, 3) := by decide +kernel
theorem dX7_isLacking_76 : decode cX7_isLacking 76 = .ok (.iload 5, 2) := by decide +kernel
theorem dX7_isLacking_78 : decode cX7_isLacking 78 = .ok (.iaload, 1) := by decide +kernel
theorem dX7_isLacking_79 : decode cX7_isLacking 79 = .ok (.iconst (-1), 1) := by decide +kernel
theorem dX7_isLacking_80 : decode cX7_isLacking 80 = .ok (.if_icmp .ne 17, 3) := by decide +kernel
theorem dX7_isLacking_83 : decode cX7_isLacking 83 = .ok (.aload_n 0, 1) := by decide +kernel
theorem dX7_isLacking_84 : decode cX7_isLacking 84 = .ok (.getfield 7, 3) := by decide +kernel
theorem dX7_isLacking_87 : decode cX7_isLacking 87 = .ok (.iload 5, 2) := by decide +kernel
theorem dX7_isLacking_89 : decode cX7_isLacking 89 = .ok (.baload, 1) := by decide +kernel
theorem dX7_isLacking_90 : decode cX7_isLacking 90 = .ok (.ifCond .ne 7, 3) := by decide +kernel
theorem dX7_isLacking_93 : decode cX7_isLacking 93 = .ok (.iconst 1, 1) := by decide +kernel
theorem dX7_isLacking_94 : decode cX7_isLacking 94 = .ok (.goto 4, 3) := by decide +kernel
theorem dX7_isLacking_97 : decode cX7_isLacking 97 = .ok (.iconst 0, 1) := by decide +kernel
theorem dX7_isLacking_98 : decode cX7_isLacking 98 = .ok (.istore_n 2, 1) := by decide +kernel
theorem dX7_isLacking_99 : decode cX7_isLacking 99 = .ok (.iinc 4 1, 3) := by decide +kernel
theorem dX7_isLacking_102 : decode cX7_isLacking 102 = .ok (.goto (-68), 3) := by decide +kernel
theorem dX7_isLacking_105 : decode cX7_isLacking 105 = .ok (.iinc 3 1, 3) := by decide +kernel
theorem dX7_isLacking_108 : decode cX7_isLacking 108 = .ok (.goto (-83), 3) := by decide +kernel
theorem dX7_isLacking_111 : decode cX7_isLacking 111 = .ok (.iload_n 2, 1) := by decide +kernel
theorem dX7_isLacking_112 : decode cX7_isLacking 112 = .ok (.ireturn, 1) := by decide +kernel
theorem dX7_order_0 : decode cX7_order 0 = .ok (.iconst 0, 1) := by decide +kernel
theorem dX7_order_1 : decode cX7_order 1 = .ok (.istore_n 1, 1) := by decide +kernel
theorem dX7_order_2 : decode cX7_order 2 = .ok (.iload_n 1, 1) := by decide +kernel
theorem dX7_order_3 : decode cX7_order 3 = .ok (.bipush 40, 2) := by decide +kernel
theorem dX7_order_5 : decode cX7_order 5 = .ok (.if_icmp .ge 34, 3) := by decide +kernel
theorem dX7_order_8 : decode cX7_order 8 = .ok (.aload_n 0, 1) := by decide +kernel
theorem dX7_order_9 : decode cX7_order 9 = .ok (.getfield 71, 3) := by decide +kernel
theorem dX7_order_12 : decode cX7_order 12 = .ok (.iload_n 1, 1) := by decide +kernel
theorem dX7_order_13 : decode cX7_order 13 = .ok (.aload_n 0, 1) := by decide +kernel
theorem dX7_order_14 : decode cX7_order 14 = .ok (.getfield 68, 3) := by decide +kernel
theorem dX7_order_17 : decode cX7_order 17 = .ok (.iload_n 1, 1) := by decide +kernel
theorem dX7_order_18 : decode cX7_order 18 = .ok (.baload, 1) := by decide +kernel
theorem dX7_order_19 : decode cX7_order 19 = .ok (.ifCond .eq 12, 3) := by decide +kernel
theorem dX7_order_22 : decode cX7_order 22 = .ok (.aload_n 0, 1) := by decide +kernel
theorem dX7_order_23 : decode cX7_order 23 = .ok (.getfield 29, 3) := by decide +kernel
theorem dX7_order_26 : decode cX7_order 26 = .ok (.iload_n 1, 1) := by decide +kernel
theorem dX7_order_27 : decode cX7_order 27 = .ok (.iaload, 1) := by decide +kernel
theorem dX7_order_28 : decode cX7_order 28 = .ok (.goto 4, 3) := by decide +kernel
theorem dX7_order_31 : decode cX7_order 31 = .ok (.iconst 0, 1) := by decide +kernel
theorem dX7_order_32 : decode cX7_order 32 = .ok (.iastore, 1) := by decide +kernel
theorem dX7_order_33 : decode cX7_order 33 = .ok (.iinc 1 1, 3) := by decide +kernel
theorem dX7_order_36 : decode cX7_order 36 = .ok (.goto (-34), 3) := by decide +kernel
theorem dX7_order_39 : decode cX7_order 39 = .ok (.iconst 1, 1) := by decide +kernel
theorem dX7_order_40 : decode cX7_order 40 = .ok (.istore_n 1, 1) := by decide +kernel
theorem dX7_order_41 : decode cX7_order 41 = .ok (.iload_n 1, 1) := by decide +kernel
theorem dX7_order_42 : decode cX7_order 42 = .ok (.ifCond .eq 109, 3) := by decide +kernel
theorem dX7_order_45 : decode cX7_order 45 = .ok (.iconst 0, 1) := by decide +kernel
theorem dX7_order_46 : decode cX7_order 46 = .ok (.istore_n 1, 1) := by decide +kernel
theorem dX7_order_47 : decode cX7_order 47 = .ok (.iconst 0, 1) := by decide +kernel
theorem dX7_order_48 : decode cX7_order 48 = .ok (.istore_n 2, 1) := by decide +kernel
theorem dX7_order_49 : decode cX7_order 49 = .ok (.iload_n 2, 1) := by decide +kernel
theorem dX7_order_50 : decode cX7_order 50 = .ok (.bipush 40, 2) := by decide +kernel
theorem dX7_order_52 : decode cX7_order 52 = .ok (.if_icmp .ge 96, 3) := by decide +kernel
theorem dX7_order_55 : decode cX7_order 55 = .ok (.iconst 0, 1) := by decide +kernel
theorem dX7_order_56 : decode cX7_order 56 = .ok (.istore_n 3, 1) := by decide +kernel
theorem dX7_order_57 : decode cX7_order 57 = .ok (.iload_n 3, 1) := by decide +kernel
theorem dX7_order_58 : decode cX7_order 58 = .ok (.bipush 40, 2) := by decide +kernel
theorem dX7_order_60 : decode cX7_order 60 = .ok (.if_icmp .ge 82, 3) := by decide +kernel
theorem dX7_order_63 : decode cX7_order 63 = .ok (.aload_n 0, 1) := by decide +kernel
theorem dX7_order_64 : decode cX7_order 64 = .ok (.getfield 68, 3) := by decide +kernel
theorem dX7_order_67 : decode cX7_order 67 = .ok (.iload_n 2, 1) := by decide +kernel
theorem dX7_order_68 : decode cX7_order 68 = .ok (.baload, 1) := by decide +kernel
theorem dX7_order_69 : decode cX7_order 69 = .ok (.ifCond .eq 73, 3) := by decide +kernel
theorem dX7_order_72 : decode cX7_order 72 = .ok (.aload_n 0, 1) := by decide +kernel
theorem dX7_order_73 : decode cX7_order 73 = .ok (.getfield 68, 3) := by decide +kernel
theorem dX7_order_76 : decode cX7_order 76 = .ok (.iload_n 3, 1) := by decide +kernel
theorem dX7_order_77 : decode cX7_order 77 = .ok (.baload, 1) := by decide +kernel
theorem dX7_order_78 : decode cX7_order 78 = .ok (.ifCond .eq 58, 3) := by decide +kernel
theorem dX7_order_81 : decode cX7_order 81 = .ok (.aload_n 0, 1) := by decide +kernel
theorem dX7_order_82 : decode cX7_order 82 = .ok (.iload_n 3, 1) := by decide +kernel
theorem dX7_order_83 : decode cX7_order 83 = .ok (.iload_n 2, 1) := by decide +kernel
theorem dX7_order_84 : decode cX7_order 84 = .ok (.invokevirtual 128, 3) := by decide +kernel
theorem dX7_order_87 : decode cX7_order 87 = .ok (.ifCond .eq 49, 3) := by decide +kernel
theorem dX7_order_90 : decode cX7_order 90 = .ok (.aload_n 0, 1) := by decide +kernel
theorem dX7_order_91 : decode cX7_order 91 = .ok (.getfield 71, 3) := by decide +kernel
theorem dX7_order_94 : decode cX7_order 94 = .ok (.iload_n 3, 1) := by decide +kernel
theorem dX7_order_95 : decode cX7_order 95 = .ok (.iaload, 1) := by decide +kernel
theorem dX7_order_96 : decode cX7_order 96 = .ok (.aload_n 0, 1) := by decide +kernel
theorem dX7_order_97 : decode cX7_order 97 = .ok (.getfield 29, 3) := by decide +kernel
theorem dX7_order_100 : decode cX7_order 100 = .ok (.iload_n 2, 1) := by decide +kernel
theorem dX7_order_101 : decode cX7_order 101 = .ok (.iaload, 1) := by decide +kernel
theorem dX7_order_102 : decode cX7_order 102 = .ok (.iadd, 1) := by decide +kernel
theorem dX7_order_103 : decode cX7_order 103 = .ok (.aload_n 0, 1) := by decide +kernel
theorem dX7_order_104 : decode cX7_order 104 = .ok (.getfield 71, 3) := by decide +kernel
theorem dX7_order_107 : decode cX7_order 107 = .ok (.iload_n 2, 1) := by decide +kernel
theorem dX7_order_108 : decode cX7_order 108 = .ok (.iaload, 1) := by decide +kernel
theorem dX7_order_109 : decode cX7_order 109 = .ok (.if_icmp .gt 6, 3) := by decide +kernel
theorem dX7_order_112 : decode cX7_order 112 = .ok (.goto 24, 3) := by decide +kernel
theorem dX7_order_115 : decode cX7_order 115 = .ok (.aload_n 0, 1) := by decide +kernel
theorem dX7_order_116 : decode cX7_order 116 = .ok (.getfield 71, 3) := by decide +kernel
theorem dX7_order_119 : decode cX7_order 119 = .ok (.iload_n 2, 1) := by decide +kernel
theorem dX7_order_120 : decode cX7_order 120 = .ok (.aload_n 0, 1) := by decide +kernel
theorem dX7_order_121 : decode cX7_order 121 = .ok (.getfield 71, 3) := by decide +kernel
theorem dX7_order_124 : decode cX7_order 124 = .ok (.iload_n 3, 1) := by decide +kernel
theorem dX7_order_125 : decode cX7_order 125 = .ok (.iaload, 1) := by decide +kernel
theorem dX7_order_126 : decode cX7_order 126 = .ok (.aload_n 0, 1) := by decide +kernel
theorem dX7_order_127 : decode cX7_order 127 = .ok (.getfield 29, 3) := by decide +kernel
theorem dX7_order_130 : decode cX7_order 130 = .ok (.iload_n 2, 1) := by decide +kernel
theorem dX7_order_131 : decode cX7_order 131 = .ok (.iaload, 1) := by decide +kernel
theorem dX7_order_132 : decode cX7_order 132 = .ok (.iadd, 1) := by decide +kernel
theorem dX7_order_133 : decode cX7_order 133 = .ok (.iastore, 1) := by decide +kernel
theorem dX7_order_134 : decode cX7_order 134 = .ok (.iconst 1, 1) := by decide +kernel
theorem dX7_order_135 : decode cX7_order 135 = .ok (.istore_n 1, 1) := by decide +kernel
theorem dX7_order_136 : decode cX7_order 136 = .ok (.iinc 3 1, 3) := by decide +kernel
theorem dX7_order_139 : decode cX7_order 139 = .ok (.goto (-82), 3) := by decide +kernel
theorem dX7_order_142 : decode cX7_order 142 = .ok (.iinc 2 1, 3) := by decide +kernel
theorem dX7_order_145 : decode cX7_order 145 = .ok (.goto (-96), 3) := by decide +kernel
theorem dX7_order_148 : decode cX7_order 148 = .ok (.goto (-107), 3) := by decide +kernel
theorem dX7_order_151 : decode cX7_order 151 = .ok (.return_, 1) := by decide +kernel
