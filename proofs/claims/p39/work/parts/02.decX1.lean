theorem dX6_readAtom_112 : decode cX6_readAtom 112 = .ok (.bipush 35, 2) := by decide +kernel
theorem dX6_readAtom_114 : decode cX6_readAtom 114 = .ok (.invokevirtual 48, 3) := by decide +kernel
theorem dX6_readAtom_117 : decode cX6_readAtom 117 = .ok (.ifCond .ne 5, 3) := by decide +kernel
theorem dX6_readAtom_120 : decode cX6_readAtom 120 = .ok (.iconst 0, 1) := by decide +kernel
theorem dX6_readAtom_121 : decode cX6_readAtom 121 = .ok (.ireturn, 1) := by decide +kernel
theorem dX6_readAtom_122 : decode cX6_readAtom 122 = .ok (.aload_n 1, 1) := by decide +kernel
theorem dX6_readAtom_123 : decode cX6_readAtom 123 = .ok (.getfield 100, 3) := by decide +kernel
theorem dX6_readAtom_126 : decode cX6_readAtom 126 = .ok (.iload_n 2, 1) := by decide +kernel
theorem dX6_readAtom_127 : decode cX6_readAtom 127 = .ok (.aload_n 0, 1) := by decide +kernel
theorem dX6_readAtom_128 : decode cX6_readAtom 128 = .ok (.iconst 1, 1) := by decide +kernel
theorem dX6_readAtom_129 : decode cX6_readAtom 129 = .ok (.bipush 12, 2) := by decide +kernel
theorem dX6_readAtom_131 : decode cX6_readAtom 131 = .ok (.invokevirtual 67, 3) := by decide +kernel
theorem dX6_readAtom_134 : decode cX6_readAtom 134 = .ok (.iastore, 1) := by decide +kernel
theorem dX6_readAtom_135 : decode cX6_readAtom 135 = .ok (.aload_n 1, 1) := by decide +kernel
theorem dX6_readAtom_136 : decode cX6_readAtom 136 = .ok (.getfield 100, 3) := by decide +kernel
theorem dX6_readAtom_139 : decode cX6_readAtom 139 = .ok (.iload_n 2, 1) := by decide +kernel
theorem dX6_readAtom_140 : decode cX6_readAtom 140 = .ok (.iaload, 1) := by decide +kernel
theorem dX6_readAtom_141 : decode cX6_readAtom 141 = .ok (.ifCond .lt 7, 3) := by decide +kernel
theorem dX6_readAtom_144 : decode cX6_readAtom 144 = .ok (.iconst 1, 1) := by decide +kernel
theorem dX6_readAtom_145 : decode cX6_readAtom 145 = .ok (.goto 4, 3) := by decide +kernel
theorem dX6_readAtom_148 : decode cX6_readAtom 148 = .ok (.iconst 0, 1) := by decide +kernel
theorem dX6_readAtom_149 : decode cX6_readAtom 149 = .ok (.ireturn, 1) := by decide +kernel
theorem dX6_readWeight_0 : decode cX6_readWeight 0 = .ok (.aload_n 0, 1) := by decide +kernel
theorem dX6_readWeight_1 : decode cX6_readWeight 1 = .ok (.bipush 119, 2) := by decide +kernel
theorem dX6_readWeight_3 : decode cX6_readWeight 3 = .ok (.invokevirtual 48, 3) := by decide +kernel
theorem dX6_readWeight_6 : decode cX6_readWeight 6 = .ok (.ifCond .ne 5, 3) := by decide +kernel
theorem dX6_readWeight_9 : decode cX6_readWeight 9 = .ok (.iconst 0, 1) := by decide +kernel
theorem dX6_readWeight_10 : decode cX6_readWeight 10 = .ok (.ireturn, 1) := by decide +kernel
theorem dX6_readWeight_11 : decode cX6_readWeight 11 = .ok (.aload_n 1, 1) := by decide +kernel
theorem dX6_readWeight_12 : decode cX6_readWeight 12 = .ok (.getfield 88, 3) := by decide +kernel
theorem dX6_readWeight_15 : decode cX6_readWeight 15 = .ok (.iload_n 2, 1) := by decide +kernel
theorem dX6_readWeight_16 : decode cX6_readWeight 16 = .ok (.aload_n 0, 1) := by decide +kernel
theorem dX6_readWeight_17 : decode cX6_readWeight 17 = .ok (.invokevirtual 35, 3) := by decide +kernel
theorem dX6_readWeight_20 : decode cX6_readWeight 20 = .ok (.iastore, 1) := by decide +kernel
theorem dX6_readWeight_21 : decode cX6_readWeight 21 = .ok (.aload_n 0, 1) := by decide +kernel
theorem dX6_readWeight_22 : decode cX6_readWeight 22 = .ok (.bipush 60, 2) := by decide +kernel
theorem dX6_readWeight_24 : decode cX6_readWeight 24 = .ok (.invokevirtual 31, 3) := by decide +kernel
theorem dX6_readWeight_27 : decode cX6_readWeight 27 = .ok (.ifCond .ne 21, 3) := by decide +kernel
theorem dX6_readWeight_30 : decode cX6_readWeight 30 = .ok (.aload_n 0, 1) := by decide +kernel
theorem dX6_readWeight_31 : decode cX6_readWeight 31 = .ok (.bipush 62, 2) := by decide +kernel
theorem dX6_readWeight_33 : decode cX6_readWeight 33 = .ok (.invokevirtual 31, 3) := by decide +kernel
theorem dX6_readWeight_36 : decode cX6_readWeight 36 = .ok (.ifCond .ne 12, 3) := by decide +kernel
theorem dX6_readWeight_39 : decode cX6_readWeight 39 = .ok (.aload_n 0, 1) := by decide +kernel
theorem dX6_readWeight_40 : decode cX6_readWeight 40 = .ok (.aload_n 0, 1) := by decide +kernel
theorem dX6_readWeight_41 : decode cX6_readWeight 41 = .ok (.getfield 15, 3) := by decide +kernel
theorem dX6_readWeight_44 : decode cX6_readWeight 44 = .ok (.invokevirtual 39, 3) := by decide +kernel
theorem dX6_readWeight_47 : decode cX6_readWeight 47 = .ok (.ireturn, 1) := by decide +kernel
theorem dX6_readWeight_48 : decode cX6_readWeight 48 = .ok (.aload_n 0, 1) := by decide +kernel
theorem dX6_readWeight_49 : decode cX6_readWeight 49 = .ok (.invokevirtual 35, 3) := by decide +kernel
theorem dX6_readWeight_52 : decode cX6_readWeight 52 = .ok (.pop, 1) := by decide +kernel
theorem dX6_readWeight_53 : decode cX6_readWeight 53 = .ok (.aload_n 0, 1) := by decide +kernel
theorem dX6_readWeight_54 : decode cX6_readWeight 54 = .ok (.getfield 15, 3) := by decide +kernel
theorem dX6_readWeight_57 : decode cX6_readWeight 57 = .ok (.istore_n 3, 1) := by decide +kernel
theorem dX6_readWeight_58 : decode cX6_readWeight 58 = .ok (.aload_n 0, 1) := by decide +kernel
theorem dX6_readWeight_59 : decode cX6_readWeight 59 = .ok (.bipush 45, 2) := by decide +kernel
theorem dX6_readWeight_61 : decode cX6_readWeight 61 = .ok (.invokevirtual 31, 3) := by decide +kernel
theorem dX6_readWeight_64 : decode cX6_readWeight 64 = .ok (.istore 4, 2) := by decide +kernel
theorem dX6_readWeight_66 : decode cX6_readWeight 66 = .ok (.aload_n 0, 1) := by decide +kernel
theorem dX6_readWeight_67 : decode cX6_readWeight 67 = .ok (.iload_n 3, 1) := by decide +kernel
theorem dX6_readWeight_68 : decode cX6_readWeight 68 = .ok (.iconst 0, 1) := by decide +kernel
theorem dX6_readWeight_69 : decode cX6_readWeight 69 = .ok (.bipush 50, 2) := by decide +kernel
theorem dX6_readWeight_71 : decode cX6_readWeight 71 = .ok (.invokevirtual 103, 3) := by decide +kernel
theorem dX6_readWeight_74 : decode cX6_readWeight 74 = .ok (.istore 5, 2) := by decide +kernel
theorem dX6_readWeight_76 : decode cX6_readWeight 76 = .ok (.aload_n 1, 1) := by decide +kernel
theorem dX6_readWeight_77 : decode cX6_readWeight 77 = .ok (.getfield 107, 3) := by decide +kernel
theorem dX6_readWeight_80 : decode cX6_readWeight 80 = .ok (.iload_n 2, 1) := by decide +kernel
theorem dX6_readWeight_81 : decode cX6_readWeight 81 = .ok (.iload 4, 2) := by decide +kernel
theorem dX6_readWeight_83 : decode cX6_readWeight 83 = .ok (.ifCond .eq 9, 3) := by decide +kernel
theorem dX6_readWeight_86 : decode cX6_readWeight 86 = .ok (.iload 5, 2) := by decide +kernel
theorem dX6_readWeight_88 : decode cX6_readWeight 88 = .ok (.ineg, 1) := by decide +kernel
theorem dX6_readWeight_89 : decode cX6_readWeight 89 = .ok (.goto 5, 3) := by decide +kernel
theorem dX6_readWeight_92 : decode cX6_readWeight 92 = .ok (.iload 5, 2) := by decide +kernel
theorem dX6_readWeight_94 : decode cX6_readWeight 94 = .ok (.iastore, 1) := by decide +kernel
theorem dX6_readWeight_95 : decode cX6_readWeight 95 = .ok (.iload 5, 2) := by decide +kernel
theorem dX6_readWeight_97 : decode cX6_readWeight 97 = .ok (.ifCond .lt 7, 3) := by decide +kernel
theorem dX6_readWeight_100 : decode cX6_readWeight 100 = .ok (.iconst 1, 1) := by decide +kernel
theorem dX6_readWeight_101 : decode cX6_readWeight 101 = .ok (.goto 4, 3) := by decide +kernel
theorem dX6_readWeight_104 : decode cX6_readWeight 104 = .ok (.iconst 0, 1) := by decide +kernel
theorem dX6_readWeight_105 : decode cX6_readWeight 105 = .ok (.ireturn, 1) := by decide +kernel
theorem dX6_look_0 : decode cX6_look 0 = .ok (.aload_n 0, 1) := by decide +kernel
theorem dX6_look_1 : decode cX6_look 1 = .ok (.getfield 15, 3) := by decide +kernel
theorem dX6_look_4 : decode cX6_look 4 = .ok (.aload_n 0, 1) := by decide +kernel
theorem dX6_look_5 : decode cX6_look 5 = .ok (.getfield 110, 3) := by decide +kernel
theorem dX6_look_8 : decode cX6_look 8 = .ok (.if_icmp .ge 30, 3) := by decide +kernel
theorem dX6_look_11 : decode cX6_look 11 = .ok (.aload_n 0, 1) := by decide +kernel
theorem dX6_look_12 : decode cX6_look 12 = .ok (.getfield 9, 3) := by decide +kernel
theorem dX6_look_15 : decode cX6_look 15 = .ok (.aload_n 0, 1) := by decide +kernel
theorem dX6_look_16 : decode cX6_look 16 = .ok (.getfield 15, 3) := by decide +kernel
theorem dX6_look_19 : decode cX6_look 19 = .ok (.iaload, 1) := by decide +kernel
theorem dX6_look_20 : decode cX6_look 20 = .ok (.bipush 32, 2) := by decide +kernel
theorem dX6_look_22 : decode cX6_look 22 = .ok (.if_icmp .ne 16, 3) := by decide +kernel
theorem dX6_look_25 : decode cX6_look 25 = .ok (.aload_n 0, 1) := by decide +kernel
theorem dX6_look_26 : decode cX6_look 26 = .ok (.dup, 1) := by decide +kernel
theorem dX6_look_27 : decode cX6_look 27 = .ok (.getfield 15, 3) := by decide +kernel
theorem dX6_look_30 : decode cX6_look 30 = .ok (.iconst 1, 1) := by decide +kernel
theorem dX6_look_31 : decode cX6_look 31 = .ok (.iadd, 1) := by decide +kernel
theorem dX6_look_32 : decode cX6_look 32 = .ok (.putfield 15, 3) := by decide +kernel
theorem dX6_look_35 : decode cX6_look 35 = .ok (.goto (-35), 3) := by decide +kernel
theorem dX6_look_38 : decode cX6_look 38 = .ok (.aload_n 0, 1) := by decide +kernel
theorem dX6_look_39 : decode cX6_look 39 = .ok (.getfield 15, 3) := by decide +kernel
theorem dX6_look_42 : decode cX6_look 42 = .ok (.aload_n 0, 1) := by decide +kernel
theorem dX6_look_43 : decode cX6_look 43 = .ok (.getfield 110, 3) := by decide +kernel
theorem dX6_look_46 : decode cX6_look 46 = .ok (.if_icmp .ge 15, 3) := by decide +kernel
theorem dX6_look_49 : decode cX6_look 49 = .ok (.aload_n 0, 1) := by decide +kernel
theorem dX6_look_50 : decode cX6_look 50 = .ok (.getfield 9, 3) := by decide +kernel
theorem dX6_look_53 : decode cX6_look 53 = .ok (.aload_n 0, 1) := by decide +kernel
theorem dX6_look_54 : decode cX6_look 54 = .ok (.getfield 15, 3) := by decide +kernel
theorem dX6_look_57 : decode cX6_look 57 = .ok (.iaload, 1) := by decide +kernel
theorem dX6_look_58 : decode cX6_look 58 = .ok (.goto 4, 3) := by decide +kernel
theorem dX6_look_61 : decode cX6_look 61 = .ok (.iconst (-1), 1) := by decide +kernel
theorem dX6_look_62 : decode cX6_look 62 = .ok (.ireturn, 1) := by decide +kernel
theorem dX6_reads_0 : decode cX6_reads 0 = .ok (.aload_n 0, 1) := by decide +kernel
theorem dX6_reads_1 : decode cX6_reads 1 = .ok (.invokevirtual 35, 3) := by decide +kernel
theorem dX6_reads_4 : decode cX6_reads 4 = .ok (.iload_n 1, 1) := by decide +kernel
theorem dX6_reads_5 : decode cX6_reads 5 = .ok (.if_icmp .eq 5, 3) := by decide +kernel
theorem dX6_reads_8 : decode cX6_reads 8 = .ok (.iconst 0, 1) := by decide +kernel
theorem dX6_reads_9 : decode cX6_reads 9 = .ok (.ireturn, 1) := by decide +kernel
theorem dX6_reads_10 : decode cX6_reads 10 = .ok (.aload_n 0, 1) := by decide +kernel
theorem dX6_reads_11 : decode cX6_reads 11 = .ok (.dup, 1) := by decide +kernel
theorem dX6_reads_12 : decode cX6_reads 12 = .ok (.getfield 15, 3) := by decide +kernel
theorem dX6_reads_15 : decode cX6_reads 15 = .ok (.iconst 1, 1) := by decide +kernel
theorem dX6_reads_16 : decode cX6_reads 16 = .ok (.iadd, 1) := by decide +kernel
theorem dX6_reads_17 : decode cX6_reads 17 = .ok (.putfield 15, 3) := by decide +kernel
theorem dX6_reads_20 : decode cX6_reads 20 = .ok (.iconst 1, 1) := by decide +kernel
theorem dX6_reads_21 : decode cX6_reads 21 = .ok (.ireturn, 1) := by decide +kernel
theorem dX6_wants_0 : decode cX6_wants 0 = .ok (.aload_n 0, 1) := by decide +kernel
theorem dX6_wants_1 : decode cX6_wants 1 = .ok (.iload_n 1, 1) := by decide +kernel
theorem dX6_wants_2 : decode cX6_wants 2 = .ok (.invokevirtual 31, 3) := by decide +kernel
theorem dX6_wants_5 : decode cX6_wants 5 = .ok (.ifCond .ne 14, 3) := by decide +kernel
theorem dX6_wants_8 : decode cX6_wants 8 = .ok (.aload_n 0, 1) := by decide +kernel
theorem dX6_wants_9 : decode cX6_wants 9 = .ok (.aload_n 0, 1) := by decide +kernel
theorem dX6_wants_10 : decode cX6_wants 10 = .ok (.getfield 15, 3) := by decide +kernel
theorem dX6_wants_13 : decode cX6_wants 13 = .ok (.invokevirtual 39, 3) := by decide +kernel
theorem dX6_wants_16 : decode cX6_wants 16 = .ok (.ifCond .eq 7, 3) := by decide +kernel
theorem dX6_wants_19 : decode cX6_wants 19 = .ok (.iconst 1, 1) := by decide +kernel
theorem dX6_wants_20 : decode cX6_wants 20 = .ok (.goto 4, 3) := by decide +kernel
theorem dX6_wants_23 : decode cX6_wants 23 = .ok (.iconst 0, 1) := by decide +kernel
theorem dX6_wants_24 : decode cX6_wants 24 = .ok (.ireturn, 1) := by decide +kernel
theorem dX6_fails_0 : decode cX6_fails 0 = .ok (.aload_n 0, 1) := by decide +kernel
theorem dX6_fails_1 : decode cX6_fails 1 = .ok (.bipush (-20), 2) := by decide +kernel
theorem dX6_fails_3 : decode cX6_fails 3 = .ok (.iload_n 1, 1) := by decide +kernel
theorem dX6_fails_4 : decode cX6_fails 4 = .ok (.isub, 1) := by decide +kernel
theorem dX6_fails_5 : decode cX6_fails 5 = .ok (.putfield 23, 3) := by decide +kernel
theorem dX6_fails_8 : decode cX6_fails 8 = .ok (.iconst 0, 1) := by decide +kernel
theorem dX6_fails_9 : decode cX6_fails 9 = .ok (.ireturn, 1) := by decide +kernel
theorem dX6_readNumber_0 : decode cX6_readNumber 0 = .ok (.aload_n 0, 1) := by decide +kernel
theorem dX6_readNumber_1 : decode cX6_readNumber 1 = .ok (.invokevirtual 35, 3) := by decide +kernel
theorem dX6_readNumber_4 : decode cX6_readNumber 4 = .ok (.pop, 1) := by decide +kernel
theorem dX6_readNumber_5 : decode cX6_readNumber 5 = .ok (.aload_n 0, 1) := by decide +kernel
theorem dX6_readNumber_6 : decode cX6_readNumber 6 = .ok (.aload_n 0, 1) := by decide +kernel
theorem dX6_readNumber_7 : decode cX6_readNumber 7 = .ok (.getfield 15, 3) := by decide +kernel
theorem dX6_readNumber_10 : decode cX6_readNumber 10 = .ok (.iload_n 1, 1) := by decide +kernel
theorem dX6_readNumber_11 : decode cX6_readNumber 11 = .ok (.iload_n 2, 1) := by decide +kernel
theorem dX6_readNumber_12 : decode cX6_readNumber 12 = .ok (.invokevirtual 103, 3) := by decide +kernel
theorem dX6_readNumber_15 : decode cX6_readNumber 15 = .ok (.ireturn, 1) := by decide +kernel
theorem dX6_readNumberOf_0 : decode cX6_readNumberOf 0 = .ok (.aload_n 0, 1) := by decide +kernel
theorem dX6_readNumberOf_1 : decode cX6_readNumberOf 1 = .ok (.invokevirtual 35, 3) := by decide +kernel
theorem dX6_readNumberOf_4 : decode cX6_readNumberOf 4 = .ok (.pop, 1) := by decide +kernel
theorem dX6_readNumberOf_5 : decode cX6_readNumberOf 5 = .ok (.aload_n 0, 1) := by decide +kernel
theorem dX6_readNumberOf_6 : decode cX6_readNumberOf 6 = .ok (.getfield 15, 3) := by decide +kernel
theorem dX6_readNumberOf_9 : decode cX6_readNumberOf 9 = .ok (.istore 4, 2) := by decide +kernel
theorem dX6_readNumberOf_11 : decode cX6_readNumberOf 11 = .ok (.iconst 0, 1) := by decide +kernel
theorem dX6_readNumberOf_12 : decode cX6_readNumberOf 12 = .ok (.istore 5, 2) := by decide +kernel
theorem dX6_readNumberOf_14 : decode cX6_readNumberOf 14 = .ok (.aload_n 0, 1) := by decide +kernel
theorem dX6_readNumberOf_15 : decode cX6_readNumberOf 15 = .ok (.getfield 15, 3) := by decide +kernel
theorem dX6_readNumberOf_18 : decode cX6_readNumberOf 18 = .ok (.aload_n 0, 1) := by decide +kernel
theorem dX6_readNumberOf_19 : decode cX6_readNumberOf 19 = .ok (.getfield 110, 3) := by decide +kernel
theorem dX6_readNumberOf_22 : decode cX6_readNumberOf 22 = .ok (.if_icmp .ge 61, 3) := by decide +kernel
theorem dX6_readNumberOf_25 : decode cX6_readNumberOf 25 = .ok (.aload_n 0, 1) := by decide +kernel
theorem dX6_readNumberOf_26 : decode cX6_readNumberOf 26 = .ok (.getfield 9, 3) := by decide +kernel
theorem dX6_readNumberOf_29 : decode cX6_readNumberOf 29 = .ok (.aload_n 0, 1) := by decide +kernel
theorem dX6_readNumberOf_30 : decode cX6_readNumberOf 30 = .ok (.getfield 15, 3) := by decide +kernel
theorem dX6_readNumberOf_33 : decode cX6_readNumberOf 33 = .ok (.iaload, 1) := by decide +kernel
theorem dX6_readNumberOf_34 : decode cX6_readNumberOf 34 = .ok (.bipush 48, 2) := by decide +kernel
theorem dX6_readNumberOf_36 : decode cX6_readNumberOf 36 = .ok (.bipush 57, 2) := by decide +kernel
theorem dX6_readNumberOf_38 : decode cX6_readNumberOf 38 = .ok (.invokestatic 51, 3) := by decide +kernel
theorem dX6_readNumberOf_41 : decode cX6_readNumberOf 41 = .ok (.ifCond .eq 42, 3) := by decide +kernel
theorem dX6_readNumberOf_44 : decode cX6_readNumberOf 44 = .ok (.sipush 1000, 3) := by decide +kernel
theorem dX6_readNumberOf_47 : decode cX6_readNumberOf 47 = .ok (.iload 5, 2) := by decide +kernel
theorem dX6_readNumberOf_49 : decode cX6_readNumberOf 49 = .ok (.bipush 10, 2) := by decide +kernel
theorem dX6_readNumberOf_51 : decode cX6_readNumberOf 51 = .ok (.imul, 1) := by decide +kernel
theorem dX6_readNumberOf_52 : decode cX6_readNumberOf 52 = .ok (.aload_n 0, 1) := by decide +kernel
theorem dX6_readNumberOf_53 : decode cX6_readNumberOf 53 = .ok (.getfield 9, 3) := by decide +kernel
theorem dX6_readNumberOf_56 : decode cX6_readNumberOf 56 = .ok (.aload_n 0, 1) := by decide +kernel
theorem dX6_readNumberOf_57 : decode cX6_readNumberOf 57 = .ok (.getfield 15, 3) := by decide +kernel
theorem dX6_readNumberOf_60 : decode cX6_readNumberOf 60 = .ok (.iaload, 1) := by decide +kernel
theorem dX6_readNumberOf_61 : decode cX6_readNumberOf 61 = .ok (.iadd, 1) := by decide +kernel
theorem dX6_readNumberOf_62 : decode cX6_readNumberOf 62 = .ok (.bipush 48, 2) := by decide +kernel
theorem dX6_readNumberOf_64 : decode cX6_readNumberOf 64 = .ok (.isub, 1) := by decide +kernel
theorem dX6_readNumberOf_65 : decode cX6_readNumberOf 65 = .ok (.invokestatic 113, 3) := by decide +kernel
theorem dX6_readNumberOf_68 : decode cX6_readNumberOf 68 = .ok (.istore 5, 2) := by decide +kernel
theorem dX6_readNumberOf_70 : decode cX6_readNumberOf 70 = .ok (.aload_n 0, 1) := by decide +kernel
theorem dX6_readNumberOf_71 : decode cX6_readNumberOf 71 = .ok (.dup, 1) := by decide +kernel
theorem dX6_readNumberOf_72 : decode cX6_readNumberOf 72 = .ok (.getfield 15, 3) := by decide +kernel
theorem dX6_readNumberOf_75 : decode cX6_readNumberOf 75 = .ok (.iconst 1, 1) := by decide +kernel
theorem dX6_readNumberOf_76 : decode cX6_readNumberOf 76 = .ok (.iadd, 1) := by decide +kernel
theorem dX6_readNumberOf_77 : decode cX6_readNumberOf 77 = .ok (.putfield 15, 3) := by decide +kernel
theorem dX6_readNumberOf_80 : decode cX6_readNumberOf 80 = .ok (.goto (-66), 3) := by decide +kernel
theorem dX6_readNumberOf_83 : decode cX6_readNumberOf 83 = .ok (.aload_n 0, 1) := by decide +kernel
theorem dX6_readNumberOf_84 : decode cX6_readNumberOf 84 = .ok (.getfield 15, 3) := by decide +kernel
theorem dX6_readNumberOf_87 : decode cX6_readNumberOf 87 = .ok (.iload 4, 2) := by decide +kernel
theorem dX6_readNumberOf_89 : decode cX6_readNumberOf 89 = .ok (.if_icmp .ne 14, 3) := by decide +kernel
theorem dX6_readNumberOf_92 : decode cX6_readNumberOf 92 = .ok (.aload_n 0, 1) := by decide +kernel
theorem dX6_readNumberOf_93 : decode cX6_readNumberOf 93 = .ok (.aload_n 0, 1) := by decide +kernel
theorem dX6_readNumberOf_94 : decode cX6_readNumberOf 94 = .ok (.getfield 15, 3) := by decide +kernel
theorem dX6_readNumberOf_97 : decode cX6_readNumberOf 97 = .ok (.invokevirtual 39, 3) := by decide +kernel
theorem dX6_readNumberOf_100 : decode cX6_readNumberOf 100 = .ok (.pop, 1) := by decide +kernel
theorem dX6_readNumberOf_101 : decode cX6_readNumberOf 101 = .ok (.iconst (-1), 1) := by decide +kernel
theorem dX6_readNumberOf_102 : decode cX6_readNumberOf 102 = .ok (.ireturn, 1) := by decide +kernel
theorem dX6_readNumberOf_103 : decode cX6_readNumberOf 103 = .ok (.iload 5, 2) := by decide +kernel
theorem dX6_readNumberOf_105 : decode cX6_readNumberOf 105 = .ok (.iload_n 2, 1) := by decide +kernel
theorem dX6_readNumberOf_106 : decode cX6_readNumberOf 106 = .ok (.iload_n 3, 1) := by decide +kernel
theorem dX6_readNumberOf_107 : decode cX6_readNumberOf 107 = .ok (.invokestatic 51, 3) := by decide +kernel
theorem dX6_readNumberOf_110 : decode cX6_readNumberOf 110 = .ok (.ifCond .ne 11, 3) := by decide +kernel
theorem dX6_readNumberOf_113 : decode cX6_readNumberOf 113 = .ok (.aload_n 0, 1) := by decide +kernel
theorem dX6_readNumberOf_114 : decode cX6_readNumberOf 114 = .ok (.iload_n 1, 1) := by decide +kernel
theorem dX6_readNumberOf_115 : decode cX6_readNumberOf 115 = .ok (.invokevirtual 39, 3) := by decide +kernel
theorem dX6_readNumberOf_118 : decode cX6_readNumberOf 118 = .ok (.pop, 1) := by decide +kernel
theorem dX6_readNumberOf_119 : decode cX6_readNumberOf 119 = .ok (.iconst (-1), 1) := by decide +kernel
theorem dX6_readNumberOf_120 : decode cX6_readNumberOf 120 = .ok (.ireturn, 1) := by decide +kernel
theorem dX6_readNumberOf_121 : decode cX6_readNumberOf 121 = .ok (.iload 5, 2) := by decide +kernel
theorem dX6_readNumberOf_123 : decode cX6_readNumberOf 123 = .ok (.ireturn, 1) := by decide +kernel
theorem dX7_init_0 : decode cX7_init 0 = .ok (.aload_n 0, 1) := by decide +kernel
theorem dX7_init_1 : decode cX7_init 1 = .ok (.invokespecial 3, 3) := by decide +kernel
theorem dX7_init_4 : decode cX7_init 4 = .ok (.aload_n 0, 1) := by decide +kernel
theorem dX7_init_5 : decode cX7_init 5 = .ok (.bipush 24, 2) := by decide +kernel
theorem dX7_init_7 : decode cX7_init 7 = .ok (.newarray .int, 2) := by decide +kernel
theorem dX7_init_9 : decode cX7_init 9 = .ok (.putfield 9, 3) := by decide +kernel
theorem dX7_init_12 : decode cX7_init 12 = .ok (.return_, 1) := by decide +kernel
theorem dX7_begin_0 : decode cX7_begin 0 = .ok (.aload_n 0, 1) := by decide +kernel
theorem dX7_begin_1 : decode cX7_begin 1 = .ok (.iconst 1, 1) := by decide +kernel
theorem dX7_begin_2 : decode cX7_begin 2 = .ok (.putfield 15, 3) := by decide +kernel
theorem dX7_begin_5 : decode cX7_begin 5 = .ok (.aload_n 0, 1) := by decide +kernel
theorem dX7_begin_6 : decode cX7_begin 6 = .ok (.iload_n 1, 1) := by decide +kernel
theorem dX7_begin_7 : decode cX7_begin 7 = .ok (.putfield 19, 3) := by decide +kernel
theorem dX7_begin_10 : decode cX7_begin 10 = .ok (.aload_n 0, 1) := by decide +kernel
theorem dX7_begin_11 : decode cX7_begin 11 = .ok (.iload_n 2, 1) := by decide +kernel
theorem dX7_begin_12 : decode cX7_begin 12 = .ok (.putfield 23, 3) := by decide +kernel
theorem dX7_begin_15 : decode cX7_begin 15 = .ok (.aload_n 0, 1) := by decide +kernel
theorem dX7_begin_16 : decode cX7_begin 16 = .ok (.getfield 9, 3) := by decide +kernel
theorem dX7_begin_19 : decode cX7_begin 19 = .ok (.iconst 0, 1) := by decide +kernel
theorem dX7_begin_20 : decode cX7_begin 20 = .ok (.invokestatic 26, 3) := by decide +kernel
theorem dX7_begin_23 : decode cX7_begin 23 = .ok (.return_, 1) := by decide +kernel
theorem dX7_refusal_0 : decode cX7_refusal 0 = .ok (.aload_n 0, 1) := by decide +kernel
theorem dX7_refusal_1 : decode cX7_refusal 1 = .ok (.getfield 15, 3) := by decide +kernel
theorem dX7_refusal_4 : decode cX7_refusal 4 = .ok (.ifCond .ne 6, 3) := by decide +kernel
theorem dX7_refusal_7 : decode cX7_refusal 7 = .ok (.bipush (-11), 2) := by decide +kernel
theorem dX7_refusal_9 : decode cX7_refusal 9 = .ok (.ireturn, 1) := by decide +kernel
theorem dX7_refusal_10 : decode cX7_refusal 10 = .ok (.aload_n 0, 1) := by decide +kernel
theorem dX7_refusal_11 : decode cX7_refusal 11 = .ok (.getfield 19, 3) := by decide +kernel
theorem dX7_refusal_14 : decode cX7_refusal 14 = .ok (.iload_n 1, 1) := by decide +kernel
theorem dX7_refusal_15 : decode cX7_refusal 15 = .ok (.if_icmp .eq 6, 3) := by decide +kernel
theorem dX7_refusal_18 : decode cX7_refusal 18 = .ok (.bipush (-12), 2) := by decide +kernel
theorem dX7_refusal_20 : decode cX7_refusal 20 = .ok (.ireturn, 1) := by decide +kernel
theorem dX7_refusal_21 : decode cX7_refusal 21 = .ok (.iload_n 2, 1) := by decide +kernel
theorem dX7_refusal_22 : decode cX7_refusal 22 = .ok (.ifCond .lt 13, 3) := by decide +kernel
theorem dX7_refusal_25 : decode cX7_refusal 25 = .ok (.iload_n 2, 1) := by decide +kernel
theorem dX7_refusal_26 : decode cX7_refusal 26 = .ok (.aload_n 0, 1) := by decide +kernel
theorem dX7_refusal_27 : decode cX7_refusal 27 = .ok (.getfield 23, 3) := by decide +kernel
theorem dX7_refusal_30 : decode cX7_refusal 30 = .ok (.iload_n 3, 1) := by decide +kernel
theorem dX7_refusal_31 : decode cX7_refusal 31 = .ok (.isub, 1) := by decide +kernel
theorem dX7_refusal_32 : decode cX7_refusal 32 = .ok (.if_icmp .le 8, 3) := by decide +kernel
theorem dX7_refusal_35 : decode cX7_refusal 35 = .ok (.bipush (-13), 2) := by decide +kernel
theorem dX7_refusal_37 : decode cX7_refusal 37 = .ok (.goto 4, 3) := by decide +kernel
theorem dX7_refusal_40 : decode cX7_refusal 40 = .ok (.iconst 0, 1) := by decide +kernel
theorem dX7_refusal_41 : decode cX7_refusal 41 = .ok (.ireturn, 1) := by decide +kernel
theorem dX7_write_0 : decode cX7_write 0 = .ok (.aload_n 0, 1) := by decide +kernel
theorem dX7_write_1 : decode cX7_write 1 = .ok (.getfield 9, 3) := by decide +kernel
theorem dX7_write_4 : decode cX7_write 4 = .ok (.iload_n 1, 1) := by decide +kernel
theorem dX7_write_5 : decode cX7_write 5 = .ok (.aload_n 0, 1) := by decide +kernel
theorem dX7_write_6 : decode cX7_write 6 = .ok (.getfield 19, 3) := by decide +kernel
theorem dX7_write_9 : decode cX7_write 9 = .ok (.ifCond .ne 8, 3) := by decide +kernel
theorem dX7_write_12 : decode cX7_write 12 = .ok (.iload_n 2, 1) := by decide +kernel
theorem dX7_write_13 : decode cX7_write 13 = .ok (.i2b, 1) := by decide +kernel
theorem dX7_write_14 : decode cX7_write 14 = .ok (.goto 17, 3) := by decide +kernel
theorem dX7_write_17 : decode cX7_write 17 = .ok (.aload_n 0, 1) := by decide +kernel
theorem dX7_write_18 : decode cX7_write 18 = .ok (.getfield 19, 3) := by decide +kernel
theorem dX7_write_21 : decode cX7_write 21 = .ok (.iconst 1, 1) := by decide +kernel
theorem dX7_write_22 : decode cX7_write 22 = .ok (.if_icmp .ne 8, 3) := by decide +kernel
theorem dX7_write_25 : decode cX7_write 25 = .ok (.iload_n 2, 1) := by decide +kernel
theorem dX7_write_26 : decode cX7_write 26 = .ok (.i2s, 1) := by decide +kernel
theorem dX7_write_27 : decode cX7_write 27 = .ok (.goto 4, 3) := by decide +kernel
theorem dX7_write_30 : decode cX7_write 30 = .ok (.iload_n 2, 1) := by decide +kernel
theorem dX7_write_31 : decode cX7_write 31 = .ok (.iastore, 1) := by decide +kernel
theorem dX7_write_32 : decode cX7_write 32 = .ok (.return_, 1) := by decide +kernel
theorem dX8_init_0 : decode cX8_init 0 = .ok (.aload_n 0, 1) := by decide +kernel
theorem dX8_init_1 : decode cX8_init 1 = .ok (.invokespecial 3, 3) := by decide +kernel
theorem dX8_init_4 : decode cX8_init 4 = .ok (.aload_n 0, 1) := by decide +kernel
theorem dX8_init_5 : decode cX8_init 5 = .ok (.new 9, 3) := by decide +kernel
theorem dX8_init_8 : decode cX8_init 8 = .ok (.dup, 1) := by decide +kernel
theorem dX8_init_9 : decode cX8_init 9 = .ok (.invokespecial 11, 3) := by decide +kernel
theorem dX8_init_12 : decode cX8_init 12 = .ok (.putfield 12, 3) := by decide +kernel
theorem dX8_init_15 : decode cX8_init 15 = .ok (.aload_n 0, 1) := by decide +kernel
theorem dX8_init_16 : decode cX8_init 16 = .ok (.new 18, 3) := by decide +kernel
theorem dX8_init_19 : decode cX8_init 19 = .ok (.dup, 1) := by decide +kernel
theorem dX8_init_20 : decode cX8_init 20 = .ok (.invokespecial 20, 3) := by decide +kernel
theorem dX8_init_23 : decode cX8_init 23 = .ok (.putfield 21, 3) := by decide +kernel
theorem dX8_init_26 : decode cX8_init 26 = .ok (.aload_n 0, 1) := by decide +kernel
theorem dX8_init_27 : decode cX8_init 27 = .ok (.iconst 2, 1) := by decide +kernel
theorem dX8_init_28 : decode cX8_init 28 = .ok (.anewarray 25, 3) := by decide +kernel
theorem dX8_init_31 : decode cX8_init 31 = .ok (.dup, 1) := by decide +kernel
theorem dX8_init_32 : decode cX8_init 32 = .ok (.iconst 0, 1) := by decide +kernel
theorem dX8_init_33 : decode cX8_init 33 = .ok (.new 25, 3) := by decide +kernel
theorem dX8_init_36 : decode cX8_init 36 = .ok (.dup, 1) := by decide +kernel
theorem dX8_init_37 : decode cX8_init 37 = .ok (.invokespecial 27, 3) := by decide +kernel
theorem dX8_init_40 : decode cX8_init 40 = .ok (.aastore, 1) := by decide +kernel
theorem dX8_init_41 : decode cX8_init 41 = .ok (.dup, 1) := by decide +kernel
theorem dX8_init_42 : decode cX8_init 42 = .ok (.iconst 1, 1) := by decide +kernel
theorem dX8_init_43 : decode cX8_init 43 = .ok (.new 25, 3) := by decide +kernel
theorem dX8_init_46 : decode cX8_init 46 = .ok (.dup, 1) := by decide +kernel
theorem dX8_init_47 : decode cX8_init 47 = .ok (.invokespecial 27, 3) := by decide +kernel
theorem dX8_init_50 : decode cX8_init 50 = .ok (.aastore, 1) := by decide +kernel
theorem dX8_init_51 : decode cX8_init 51 = .ok (.putfield 28, 3) := by decide +kernel
theorem dX8_init_54 : decode cX8_init 54 = .ok (.aload_n 0, 1) := by decide +kernel
theorem dX8_init_55 : decode cX8_init 55 = .ok (.new 32, 3) := by decide +kernel
theorem dX8_init_58 : decode cX8_init 58 = .ok (.dup, 1) := by decide +kernel
theorem dX8_init_59 : decode cX8_init 59 = .ok (.invokespecial 34, 3) := by decide +kernel
theorem dX8_init_62 : decode cX8_init 62 = .ok (.putfield 35, 3) := by decide +kernel
theorem dX8_init_65 : decode cX8_init 65 = .ok (.aload_n 0, 1) := by decide +kernel
theorem dX8_init_66 : decode cX8_init 66 = .ok (.iconst 4, 1) := by decide +kernel
theorem dX8_init_67 : decode cX8_init 67 = .ok (.anewarray 39, 3) := by decide +kernel
theorem dX8_init_70 : decode cX8_init 70 = .ok (.dup, 1) := by decide +kernel
theorem dX8_init_71 : decode cX8_init 71 = .ok (.iconst 0, 1) := by decide +kernel
theorem dX8_init_72 : decode cX8_init 72 = .ok (.new 39, 3) := by decide +kernel
theorem dX8_init_75 : decode cX8_init 75 = .ok (.dup, 1) := by decide +kernel
theorem dX8_init_76 : decode cX8_init 76 = .ok (.invokespecial 41, 3) := by decide +kernel
theorem dX8_init_79 : decode cX8_init 79 = .ok (.aastore, 1) := by decide +kernel
theorem dX8_init_80 : decode cX8_init 80 = .ok (.dup, 1) := by decide +kernel
theorem dX8_init_81 : decode cX8_init 81 = .ok (.iconst 1, 1) := by decide +kernel
theorem dX8_init_82 : decode cX8_init 82 = .ok (.new 39, 3) := by decide +kernel
theorem dX8_init_85 : decode cX8_init 85 = .ok (.dup, 1) := by decide +kernel
theorem dX8_init_86 : decode cX8_init 86 = .ok (.invokespecial 41, 3) := by decide +kernel
theorem dX8_init_89 : decode cX8_init 89 = .ok (.aastore, 1) := by decide +kernel
theorem dX8_init_90 : decode cX8_init 90 = .ok (.dup, 1) := by decide +kernel
theorem dX8_init_91 : decode cX8_init 91 = .ok (.iconst 2, 1) := by decide +kernel
theorem dX8_init_92 : decode cX8_init 92 = .ok (.new 39, 3) := by decide +kernel
theorem dX8_init_95 : decode cX8_init 95 = .ok (.dup, 1) := by decide +kernel
theorem dX8_init_96 : decode cX8_init 96 = .ok (.invokespecial 41, 3) := by decide +kernel
theorem dX8_init_99 : decode cX8_init 99 = .ok (.aastore, 1) := by decide +kernel
theorem dX8_init_100 : decode cX8_init 100 = .ok (.dup, 1) := by decide +kernel
theorem dX8_init_101 : decode cX8_init 101 = .ok (.iconst 3, 1) := by decide +kernel
theorem dX8_init_102 : decode cX8_init 102 = .ok (.new 39, 3) := by decide +kernel
theorem dX8_init_105 : decode cX8_init 105 = .ok (.dup, 1) := by decide +kernel
theorem dX8_init_106 : decode cX8_init 106 = .ok (.invokespecial 41, 3) := by decide +kernel
theorem dX8_init_109 : decode cX8_init 109 = .ok (.aastore, 1) := by decide +kernel
theorem dX8_init_110 : decode cX8_init 110 = .ok (.putfield 42, 3) := by decide +kernel
theorem dX8_init_113 : decode cX8_init 113 = .ok (.aload_n 0, 1) := by decide +kernel
theorem dX8_init_114 : decode cX8_init 114 = .ok (.iconst 5, 1) := by decide +kernel
theorem dX8_init_115 : decode cX8_init 115 = .ok (.newarray .int, 2) := by decide +kernel
theorem dX8_init_117 : decode cX8_init 117 = .ok (.putfield 46, 3) := by decide +kernel
theorem dX8_init_120 : decode cX8_init 120 = .ok (.aload_n 0, 1) := by decide +kernel
theorem dX8_init_121 : decode cX8_init 121 = .ok (.iconst 5, 1) := by decide +kernel
theorem dX8_init_122 : decode cX8_init 122 = .ok (.newarray .int, 2) := by decide +kernel
theorem dX8_init_124 : decode cX8_init 124 = .ok (.putfield 50, 3) := by decide +kernel
theorem dX8_init_127 : decode cX8_init 127 = .ok (.return_, 1) := by decide +kernel
theorem dX8_take_0 : decode cX8_take 0 = .ok (.aload_n 0, 1) := by decide +kernel
theorem dX8_take_1 : decode cX8_take 1 = .ok (.getfield 12, 3) := by decide +kernel
theorem dX8_take_4 : decode cX8_take 4 = .ok (.aload_n 1, 1) := by decide +kernel
theorem dX8_take_5 : decode cX8_take 5 = .ok (.getfield 12, 3) := by decide +kernel
theorem dX8_take_8 : decode cX8_take 8 = .ok (.invokevirtual 53, 3) := by decide +kernel
theorem dX8_take_11 : decode cX8_take 11 = .ok (.aload_n 0, 1) := by decide +kernel
theorem dX8_take_12 : decode cX8_take 12 = .ok (.getfield 21, 3) := by decide +kernel
theorem dX8_take_15 : decode cX8_take 15 = .ok (.aload_n 1, 1) := by decide +kernel
theorem dX8_take_16 : decode cX8_take 16 = .ok (.getfield 21, 3) := by decide +kernel
theorem dX8_take_19 : decode cX8_take 19 = .ok (.invokevirtual 57, 3) := by decide +kernel
theorem dX8_take_22 : decode cX8_take 22 = .ok (.aload_n 0, 1) := by decide +kernel
theorem dX8_take_23 : decode cX8_take 23 = .ok (.getfield 35, 3) := by decide +kernel
theorem dX8_take_26 : decode cX8_take 26 = .ok (.aload_n 1, 1) := by decide +kernel
theorem dX8_take_27 : decode cX8_take 27 = .ok (.getfield 35, 3) := by decide +kernel
theorem dX8_take_30 : decode cX8_take 30 = .ok (.invokevirtual 60, 3) := by decide +kernel
theorem dX8_take_33 : decode cX8_take 33 = .ok (.iconst 0, 1) := by decide +kernel
theorem dX8_take_34 : decode cX8_take 34 = .ok (.istore_n 2, 1) := by decide +kernel
theorem dX8_take_35 : decode cX8_take 35 = .ok (.iload_n 2, 1) := by decide +kernel
theorem dX8_take_36 : decode cX8_take 36 = .ok (.iconst 2, 1) := by decide +kernel
theorem dX8_take_37 : decode cX8_take 37 = .ok (.if_icmp .ge 24, 3) := by decide +kernel
theorem dX8_take_40 : decode cX8_take 40 = .ok (.aload_n 0, 1) := by decide +kernel
theorem dX8_take_41 : decode cX8_take 41 = .ok (.getfield 28, 3) := by decide +kernel
theorem dX8_take_44 : decode cX8_take 44 = .ok (.iload_n 2, 1) := by decide +kernel
theorem dX8_take_45 : decode cX8_take 45 = .ok (.aaload, 1) := by decide +kernel
theorem dX8_take_46 : decode cX8_take 46 = .ok (.aload_n 1, 1) := by decide +kernel
theorem dX8_take_47 : decode cX8_take 47 = .ok (.getfield 28, 3) := by decide +kernel
theorem dX8_take_50 : decode cX8_take 50 = .ok (.iload_n 2, 1) := by decide +kernel
theorem dX8_take_51 : decode cX8_take 51 = .ok (.aaload, 1) := by decide +kernel
theorem dX8_take_52 : decode cX8_take 52 = .ok (.invokevirtual 63, 3) := by decide +kernel
theorem dX8_take_55 : decode cX8_take 55 = .ok (.iinc 2 1, 3) := by decide +kernel
theorem dX8_take_58 : decode cX8_take 58 = .ok (.goto (-23), 3) := by decide +kernel
theorem dX8_take_61 : decode cX8_take 61 = .ok (.iconst 0, 1) := by decide +kernel
theorem dX8_take_62 : decode cX8_take 62 = .ok (.istore_n 2, 1) := by decide +kernel
theorem dX8_take_63 : decode cX8_take 63 = .ok (.iload_n 2, 1) := by decide +kernel
theorem dX8_take_64 : decode cX8_take 64 = .ok (.iconst 4, 1) := by decide +kernel
theorem dX8_take_65 : decode cX8_take 65 = .ok (.if_icmp .ge 24, 3) := by decide +kernel
theorem dX8_take_68 : decode cX8_take 68 = .ok (.aload_n 0, 1) := by decide +kernel
theorem dX8_take_69 : decode cX8_take 69 = .ok (.getfield 42, 3) := by decide +kernel
theorem dX8_take_72 : decode cX8_take 72 = .ok (.iload_n 2, 1) := by decide +kernel
theorem dX8_take_73 : decode cX8_take 73 = .ok (.aaload, 1) := by decide +kernel
theorem dX8_take_74 : decode cX8_take 74 = .ok (.aload_n 1, 1) := by decide +kernel
theorem dX8_take_75 : decode cX8_take 75 = .ok (.getfield 42, 3) := by decide +kernel
theorem dX8_take_78 : decode cX8_take 78 = .ok (.iload_n 2, 1) := by decide +kernel
theorem dX8_take_79 : decode cX8_take 79 = .ok (.aaload, 1) := by decide +kernel
theorem dX8_take_80 : decode cX8_take 80 = .ok (.invokevirtual 66, 3) := by decide +kernel
theorem dX8_take_83 : decode cX8_take 83 = .ok (.iinc 2 1, 3) := by decide +kernel
theorem dX8_take_86 : decode cX8_take 86 = .ok (.goto (-23), 3) := by decide +kernel
theorem dX8_take_89 : decode cX8_take 89 = .ok (.aload_n 1, 1) := by decide +kernel
theorem dX8_take_90 : decode cX8_take 90 = .ok (.getfield 46, 3) := by decide +kernel
theorem dX8_take_93 : decode cX8_take 93 = .ok (.aload_n 0, 1) := by decide +kernel
theorem dX8_take_94 : decode cX8_take 94 = .ok (.getfield 46, 3) := by decide +kernel
theorem dX8_take_97 : decode cX8_take 97 = .ok (.invokestatic 69, 3) := by decide +kernel
theorem dX8_take_100 : decode cX8_take 100 = .ok (.aload_n 1, 1) := by decide +kernel
theorem dX8_take_101 : decode cX8_take 101 = .ok (.getfield 50, 3) := by decide +kernel
theorem dX8_take_104 : decode cX8_take 104 = .ok (.aload_n 0, 1) := by decide +kernel
theorem dX8_take_105 : decode cX8_take 105 = .ok (.getfield 50, 3) := by decide +kernel
theorem dX8_take_108 : decode cX8_take 108 = .ok (.invokestatic 69, 3) := by decide +kernel
theorem dX8_take_111 : decode cX8_take 111 = .ok (.aload_n 0, 1) := by decide +kernel
theorem dX8_take_112 : decode cX8_take 112 = .ok (.aload_n 1, 1) := by decide +kernel
theorem dX8_take_113 : decode cX8_take 113 = .ok (.getfield 73, 3) := by decide +kernel
theorem dX8_take_116 : decode cX8_take 116 = .ok (.putfield 73, 3) := by decide +kernel
theorem dX8_take_119 : decode cX8_take 119 = .ok (.aload_n 0, 1) := by decide +kernel
theorem dX8_take_120 : decode cX8_take 120 = .ok (.aload_n 1, 1) := by decide +kernel
theorem dX8_take_121 : decode cX8_take 121 = .ok (.getfield 77, 3) := by decide +kernel
theorem dX8_take_124 : decode cX8_take 124 = .ok (.putfield 77, 3) := by decide +kernel
theorem dX8_take_127 : decode cX8_take 127 = .ok (.return_, 1) := by decide +kernel
theorem dX8_canSay_0 : decode cX8_canSay 0 = .ok (.iconst 0, 1) := by decide +kernel
theorem dX8_canSay_1 : decode cX8_canSay 1 = .ok (.istore_n 3, 1) := by decide +kernel
theorem dX8_canSay_2 : decode cX8_canSay 2 = .ok (.iconst 0, 1) := by decide +kernel
theorem dX8_canSay_3 : decode cX8_canSay 3 = .ok (.istore 4, 2) := by decide +kernel
theorem dX8_canSay_5 : decode cX8_canSay 5 = .ok (.iconst 0, 1) := by decide +kernel
theorem dX8_canSay_6 : decode cX8_canSay 6 = .ok (.istore 5, 2) := by decide +kernel
theorem dX8_canSay_8 : decode cX8_canSay 8 = .ok (.iload 5, 2) := by decide +kernel
theorem dX8_canSay_10 : decode cX8_canSay 10 = .ok (.aload_n 0, 1) := by decide +kernel
theorem dX8_canSay_11 : decode cX8_canSay 11 = .ok (.getfield 77, 3) := by decide +kernel
theorem dX8_canSay_14 : decode cX8_canSay 14 = .ok (.if_icmp .ge 41, 3) := by decide +kernel
theorem dX8_canSay_17 : decode cX8_canSay 17 = .ok (.iload_n 1, 1) := by decide +kernel
theorem dX8_canSay_18 : decode cX8_canSay 18 = .ok (.iload 5, 2) := by decide +kernel
theorem dX8_canSay_20 : decode cX8_canSay 20 = .ok (.ishr, 1) := by decide +kernel
theorem dX8_canSay_21 : decode cX8_canSay 21 = .ok (.iconst 1, 1) := by decide +kernel
theorem dX8_canSay_22 : decode cX8_canSay 22 = .ok (.iand, 1) := by decide +kernel
theorem dX8_canSay_23 : decode cX8_canSay 23 = .ok (.iconst 1, 1) := by decide +kernel
theorem dX8_canSay_24 : decode cX8_canSay 24 = .ok (.if_icmp .ne 25, 3) := by decide +kernel
theorem dX8_canSay_27 : decode cX8_canSay 27 = .ok (.iload_n 3, 1) := by decide +kernel
theorem dX8_canSay_28 : decode cX8_canSay 28 = .ok (.aload_n 0, 1) := by decide +kernel
theorem dX8_canSay_29 : decode cX8_canSay 29 = .ok (.getfield 46, 3) := by decide +kernel
theorem dX8_canSay_32 : decode cX8_canSay 32 = .ok (.iload 5, 2) := by decide +kernel
theorem dX8_canSay_34 : decode cX8_canSay 34 = .ok (.iaload, 1) := by decide +kernel
theorem dX8_canSay_35 : decode cX8_canSay 35 = .ok (.iadd, 1) := by decide +kernel
theorem dX8_canSay_36 : decode cX8_canSay 36 = .ok (.istore_n 3, 1) := by decide +kernel
theorem dX8_canSay_37 : decode cX8_canSay 37 = .ok (.iload 4, 2) := by decide +kernel
theorem dX8_canSay_39 : decode cX8_canSay 39 = .ok (.aload_n 0, 1) := by decide +kernel
theorem dX8_canSay_40 : decode cX8_canSay 40 = .ok (.getfield 50, 3) := by decide +kernel
theorem dX8_canSay_43 : decode cX8_canSay 43 = .ok (.iload 5, 2) := by decide +kernel
theorem dX8_canSay_45 : decode cX8_canSay 45 = .ok (.iaload, 1) := by decide +kernel
theorem dX8_canSay_46 : decode cX8_canSay 46 = .ok (.iadd, 1) := by decide +kernel
theorem dX8_canSay_47 : decode cX8_canSay 47 = .ok (.istore 4, 2) := by decide +kernel
theorem dX8_canSay_49 : decode cX8_canSay 49 = .ok (.iinc 5 1, 3) := by decide +kernel
theorem dX8_canSay_52 : decode cX8_canSay 52 = .ok (.goto (-44), 3) := by decide +kernel
theorem dX8_canSay_55 : decode cX8_canSay 55 = .ok (.iload_n 2, 1) := by decide +kernel
theorem dX8_canSay_56 : decode cX8_canSay 56 = .ok (.iload_n 3, 1) := by decide +kernel
theorem dX8_canSay_57 : decode cX8_canSay 57 = .ok (.iload 4, 2) := by decide +kernel
theorem dX8_canSay_59 : decode cX8_canSay 59 = .ok (.invokestatic 80, 3) := by decide +kernel
theorem dX8_canSay_62 : decode cX8_canSay 62 = .ok (.ireturn, 1) := by decide +kernel
theorem dX9_init_0 : decode cX9_init 0 = .ok (.aload_n 0, 1) := by decide +kernel
theorem dX9_init_1 : decode cX9_init 1 = .ok (.invokespecial 3, 3) := by decide +kernel
theorem dX9_init_4 : decode cX9_init 4 = .ok (.aload_n 0, 1) := by decide +kernel
theorem dX9_init_5 : decode cX9_init 5 = .ok (.bipush 12, 2) := by decide +kernel
theorem dX9_init_7 : decode cX9_init 7 = .ok (.newarray .int, 2) := by decide +kernel
theorem dX9_init_9 : decode cX9_init 9 = .ok (.putfield 9, 3) := by decide +kernel
theorem dX9_init_12 : decode cX9_init 12 = .ok (.aload_n 0, 1) := by decide +kernel
theorem dX9_init_13 : decode cX9_init 13 = .ok (.bipush 12, 2) := by decide +kernel
theorem dX9_init_15 : decode cX9_init 15 = .ok (.newarray .int, 2) := by decide +kernel
theorem dX9_init_17 : decode cX9_init 17 = .ok (.putfield 15, 3) := by decide +kernel
theorem dX9_init_20 : decode cX9_init 20 = .ok (.aload_n 0, 1) := by decide +kernel
theorem dX9_init_21 : decode cX9_init 21 = .ok (.bipush 12, 2) := by decide +kernel
theorem dX9_init_23 : decode cX9_init 23 = .ok (.newarray .int, 2) := by decide +kernel
theorem dX9_init_25 : decode cX9_init 25 = .ok (.putfield 18, 3) := by decide +kernel
theorem dX9_init_28 : decode cX9_init 28 = .ok (.aload_n 0, 1) := by decide +kernel
theorem dX9_init_29 : decode cX9_init 29 = .ok (.bipush 12, 2) := by decide +kernel
theorem dX9_init_31 : decode cX9_init 31 = .ok (.newarray .int, 2) := by decide +kernel
theorem dX9_init_33 : decode cX9_init 33 = .ok (.putfield 21, 3) := by decide +kernel
theorem dX9_init_36 : decode cX9_init 36 = .ok (.aload_n 0, 1) := by decide +kernel
theorem dX9_init_37 : decode cX9_init 37 = .ok (.bipush 12, 2) := by decide +kernel
theorem dX9_init_39 : decode cX9_init 39 = .ok (.newarray .int, 2) := by decide +kernel
theorem dX9_init_41 : decode cX9_init 41 = .ok (.putfield 24, 3) := by decide +kernel
theorem dX9_init_44 : decode cX9_init 44 = .ok (.aload_n 0, 1) := by decide +kernel
theorem dX9_init_45 : decode cX9_init 45 = .ok (.bipush 12, 2) := by decide +kernel
theorem dX9_init_47 : decode cX9_init 47 = .ok (.newarray .int, 2) := by decide +kernel
theorem dX9_init_49 : decode cX9_init 49 = .ok (.putfield 27, 3) := by decide +kernel
theorem dX9_init_52 : decode cX9_init 52 = .ok (.aload_n 0, 1) := by decide +kernel
theorem dX9_init_53 : decode cX9_init 53 = .ok (.bipush 12, 2) := by decide +kernel
theorem dX9_init_55 : decode cX9_init 55 = .ok (.newarray .int, 2) := by decide +kernel
theorem dX9_init_57 : decode cX9_init 57 = .ok (.putfield 30, 3) := by decide +kernel
theorem dX9_init_60 : decode cX9_init 60 = .ok (.aload_n 0, 1) := by decide +kernel
theorem dX9_init_61 : decode cX9_init 61 = .ok (.bipush 12, 2) := by decide +kernel
theorem dX9_init_63 : decode cX9_init 63 = .ok (.bipush 96, 2) := by decide +kernel
theorem dX9_init_65 : decode cX9_init 65 = .ok (.multianewarray 33 2, 4) := by decide +kernel
theorem dX9_init_69 : decode cX9_init 69 = .ok (.putfield 35, 3) := by decide +kernel
theorem dX9_init_72 : decode cX9_init 72 = .ok (.aload_n 0, 1) := by decide +kernel
theorem dX9_init_73 : decode cX9_init 73 = .ok (.bipush 12, 2) := by decide +kernel
theorem dX9_init_75 : decode cX9_init 75 = .ok (.bipush 96, 2) := by decide +kernel
theorem dX9_init_77 : decode cX9_init 77 = .ok (.multianewarray 33 2, 4) := by decide +kernel
theorem dX9_init_81 : decode cX9_init 81 = .ok (.putfield 38, 3) := by decide +kernel
theorem dX9_init_84 : decode cX9_init 84 = .ok (.aload_n 0, 1) := by decide +kernel
theorem dX9_init_85 : decode cX9_init 85 = .ok (.bipush 24, 2) := by decide +kernel
theorem dX9_init_87 : decode cX9_init 87 = .ok (.newarray .long, 2) := by decide +kernel
theorem dX9_init_89 : decode cX9_init 89 = .ok (.putfield 41, 3) := by decide +kernel
theorem dX9_init_92 : decode cX9_init 92 = .ok (.aload_n 0, 1) := by decide +kernel
theorem dX9_init_93 : decode cX9_init 93 = .ok (.bipush 24, 2) := by decide +kernel
theorem dX9_init_95 : decode cX9_init 95 = .ok (.newarray .int, 2) := by decide +kernel
theorem dX9_init_97 : decode cX9_init 97 = .ok (.putfield 45, 3) := by decide +kernel
theorem dX9_init_100 : decode cX9_init 100 = .ok (.aload_n 0, 1) := by decide +kernel
theorem dX9_init_101 : decode cX9_init 101 = .ok (.bipush 96, 2) := by decide +kernel
theorem dX9_init_103 : decode cX9_init 103 = .ok (.newarray .long, 2) := by decide +kernel
theorem dX9_init_105 : decode cX9_init 105 = .ok (.putfield 48, 3) := by decide +kernel
theorem dX9_init_108 : decode cX9_init 108 = .ok (.aload_n 0, 1) := by decide +kernel
theorem dX9_init_109 : decode cX9_init 109 = .ok (.bipush 96, 2) := by decide +kernel
theorem dX9_init_111 : decode cX9_init 111 = .ok (.newarray .long, 2) := by decide +kernel
theorem dX9_init_113 : decode cX9_init 113 = .ok (.putfield 51, 3) := by decide +kernel
theorem dX9_init_116 : decode cX9_init 116 = .ok (.return_, 1) := by decide +kernel
theorem dX9_lay_0 : decode cX9_lay 0 = .ok (.aload_n 0, 1) := by decide +kernel
theorem dX9_lay_1 : decode cX9_lay 1 = .ok (.aload_n 1, 1) := by decide +kernel
theorem dX9_lay_2 : decode cX9_lay 2 = .ok (.getfield 54, 3) := by decide +kernel
theorem dX9_lay_5 : decode cX9_lay 5 = .ok (.putfield 60, 3) := by decide +kernel
theorem dX9_lay_8 : decode cX9_lay 8 = .ok (.aload_n 0, 1) := by decide +kernel
theorem dX9_lay_9 : decode cX9_lay 9 = .ok (.aload_n 1, 1) := by decide +kernel
theorem dX9_lay_10 : decode cX9_lay 10 = .ok (.invokevirtual 61, 3) := by decide +kernel
theorem dX9_lay_13 : decode cX9_lay 13 = .ok (.iconst 0, 1) := by decide +kernel
theorem dX9_lay_14 : decode cX9_lay 14 = .ok (.istore 4, 2) := by decide +kernel
theorem dX9_lay_16 : decode cX9_lay 16 = .ok (.iload 4, 2) := by decide +kernel
theorem dX9_lay_18 : decode cX9_lay 18 = .ok (.aload_n 1, 1) := by decide +kernel
theorem dX9_lay_19 : decode cX9_lay 19 = .ok (.getfield 65, 3) := by decide +kernel
theorem dX9_lay_22 : decode cX9_lay 22 = .ok (.if_icmp .ge 16, 3) := by decide +kernel
theorem dX9_lay_25 : decode cX9_lay 25 = .ok (.aload_n 0, 1) := by decide +kernel
theorem dX9_lay_26 : decode cX9_lay 26 = .ok (.aload_n 1, 1) := by decide +kernel
theorem dX9_lay_27 : decode cX9_lay 27 = .ok (.iload 4, 2) := by decide +kernel
theorem dX9_lay_29 : decode cX9_lay 29 = .ok (.invokevirtual 68, 3) := by decide +kernel
theorem dX9_lay_32 : decode cX9_lay 32 = .ok (.iinc 4 1, 3) := by decide +kernel
theorem dX9_lay_35 : decode cX9_lay 35 = .ok (.goto (-19), 3) := by decide +kernel
theorem dX9_lay_38 : decode cX9_lay 38 = .ok (.iconst 0, 1) := by decide +kernel
theorem dX9_lay_39 : decode cX9_lay 39 = .ok (.istore 4, 2) := by decide +kernel
theorem dX9_lay_41 : decode cX9_lay 41 = .ok (.iload 4, 2) := by decide +kernel
theorem dX9_lay_43 : decode cX9_lay 43 = .ok (.aload_n 2, 1) := by decide +kernel
theorem dX9_lay_44 : decode cX9_lay 44 = .ok (.getfield 72, 3) := by decide +kernel
theorem dX9_lay_47 : decode cX9_lay 47 = .ok (.if_icmp .ge 26, 3) := by decide +kernel
theorem dX9_lay_50 : decode cX9_lay 50 = .ok (.iload_n 3, 1) := by decide +kernel
theorem dX9_lay_51 : decode cX9_lay 51 = .ok (.iload 4, 2) := by decide +kernel
theorem dX9_lay_53 : decode cX9_lay 53 = .ok (.ishr, 1) := by decide +kernel
theorem dX9_lay_54 : decode cX9_lay 54 = .ok (.iconst 1, 1) := by decide +kernel
theorem dX9_lay_55 : decode cX9_lay 55 = .ok (.iand, 1) := by decide +kernel
theorem dX9_lay_56 : decode cX9_lay 56 = .ok (.iconst 1, 1) := by decide +kernel
theorem dX9_lay_57 : decode cX9_lay 57 = .ok (.if_icmp .ne 10, 3) := by decide +kernel
theorem dX9_lay_60 : decode cX9_lay 60 = .ok (.aload_n 0, 1) := by decide +kernel
theorem dX9_lay_61 : decode cX9_lay 61 = .ok (.aload_n 2, 1) := by decide +kernel
theorem dX9_lay_62 : decode cX9_lay 62 = .ok (.iload 4, 2) := by decide +kernel
theorem dX9_lay_64 : decode cX9_lay 64 = .ok (.invokevirtual 77, 3) := by decide +kernel
theorem dX9_lay_67 : decode cX9_lay 67 = .ok (.iinc 4 1, 3) := by decide +kernel
theorem dX9_lay_70 : decode cX9_lay 70 = .ok (.goto (-29), 3) := by decide +kernel
theorem dX9_lay_73 : decode cX9_lay 73 = .ok (.return_, 1) := by decide +kernel
theorem dX9_layPlaces_0 : decode cX9_layPlaces 0 = .ok (.aload_n 0, 1) := by decide +kernel
theorem dX9_layPlaces_1 : decode cX9_layPlaces 1 = .ok (.iconst 0, 1) := by decide +kernel
theorem dX9_layPlaces_2 : decode cX9_layPlaces 2 = .ok (.putfield 81, 3) := by decide +kernel
theorem dX9_layPlaces_5 : decode cX9_layPlaces 5 = .ok (.iconst 0, 1) := by decide +kernel
theorem dX9_layPlaces_6 : decode cX9_layPlaces 6 = .ok (.istore_n 2, 1) := by decide +kernel
theorem dX9_layPlaces_7 : decode cX9_layPlaces 7 = .ok (.iconst 0, 1) := by decide +kernel
theorem dX9_layPlaces_8 : decode cX9_layPlaces 8 = .ok (.istore_n 3, 1) := by decide +kernel
theorem dX9_layPlaces_9 : decode cX9_layPlaces 9 = .ok (.iload_n 3, 1) := by decide +kernel
theorem dX9_layPlaces_10 : decode cX9_layPlaces 10 = .ok (.aload_n 1, 1) := by decide +kernel
theorem dX9_layPlaces_11 : decode cX9_layPlaces 11 = .ok (.getfield 84, 3) := by decide +kernel
theorem dX9_layPlaces_14 : decode cX9_layPlaces 14 = .ok (.if_icmp .ge 121, 3) := by decide +kernel
theorem dX9_layPlaces_17 : decode cX9_layPlaces 17 = .ok (.aload_n 0, 1) := by decide +kernel
theorem dX9_layPlaces_18 : decode cX9_layPlaces 18 = .ok (.getfield 15, 3) := by decide +kernel
theorem dX9_layPlaces_21 : decode cX9_layPlaces 21 = .ok (.iload_n 3, 1) := by decide +kernel
theorem dX9_layPlaces_22 : decode cX9_layPlaces 22 = .ok (.aload_n 0, 1) := by decide +kernel
theorem dX9_layPlaces_23 : decode cX9_layPlaces 23 = .ok (.getfield 81, 3) := by decide +kernel
theorem dX9_layPlaces_26 : decode cX9_layPlaces 26 = .ok (.iastore, 1) := by decide +kernel
theorem dX9_layPlaces_27 : decode cX9_layPlaces 27 = .ok (.aload_n 1, 1) := by decide +kernel
theorem dX9_layPlaces_28 : decode cX9_layPlaces 28 = .ok (.iload_n 3, 1) := by decide +kernel
theorem dX9_layPlaces_29 : decode cX9_layPlaces 29 = .ok (.invokevirtual 86, 3) := by decide +kernel
theorem dX9_layPlaces_32 : decode cX9_layPlaces 32 = .ok (.ifCond .eq 83, 3) := by decide +kernel
theorem dX9_layPlaces_35 : decode cX9_layPlaces 35 = .ok (.aload_n 0, 1) := by decide +kernel
theorem dX9_layPlaces_36 : decode cX9_layPlaces 36 = .ok (.getfield 9, 3) := by decide +kernel
theorem dX9_layPlaces_39 : decode cX9_layPlaces 39 = .ok (.aload_n 0, 1) := by decide +kernel
theorem dX9_layPlaces_40 : decode cX9_layPlaces 40 = .ok (.getfield 81, 3) := by decide +kernel
theorem dX9_layPlaces_43 : decode cX9_layPlaces 43 = .ok (.iload_n 3, 1) := by decide +kernel
theorem dX9_layPlaces_44 : decode cX9_layPlaces 44 = .ok (.iastore, 1) := by decide +kernel
theorem dX9_layPlaces_45 : decode cX9_layPlaces 45 = .ok (.aload_n 0, 1) := by decide +kernel
theorem dX9_layPlaces_46 : decode cX9_layPlaces 46 = .ok (.getfield 18, 3) := by decide +kernel
theorem dX9_layPlaces_49 : decode cX9_layPlaces 49 = .ok (.aload_n 0, 1) := by decide +kernel
theorem dX9_layPlaces_50 : decode cX9_layPlaces 50 = .ok (.getfield 81, 3) := by decide +kernel
theorem dX9_layPlaces_53 : decode cX9_layPlaces 53 = .ok (.iconst 0, 1) := by decide +kernel
theorem dX9_layPlaces_54 : decode cX9_layPlaces 54 = .ok (.iastore, 1) := by decide +kernel
theorem dX9_layPlaces_55 : decode cX9_layPlaces 55 = .ok (.aload_n 0, 1) := by decide +kernel
theorem dX9_layPlaces_56 : decode cX9_layPlaces 56 = .ok (.getfield 21, 3) := by decide +kernel
theorem dX9_layPlaces_59 : decode cX9_layPlaces 59 = .ok (.aload_n 0, 1) := by decide +kernel
theorem dX9_layPlaces_60 : decode cX9_layPlaces 60 = .ok (.getfield 81, 3) := by decide +kernel
theorem dX9_layPlaces_63 : decode cX9_layPlaces 63 = .ok (.bipush 23, 2) := by decide +kernel
theorem dX9_layPlaces_65 : decode cX9_layPlaces 65 = .ok (.iastore, 1) := by decide +kernel
theorem dX9_layPlaces_66 : decode cX9_layPlaces 66 = .ok (.aload_n 0, 1) := by decide +kernel
theorem dX9_layPlaces_67 : decode cX9_layPlaces 67 = .ok (.getfield 24, 3) := by decide +kernel
theorem dX9_layPlaces_70 : decode cX9_layPlaces 70 = .ok (.aload_n 0, 1) := by decide +kernel
theorem dX9_layPlaces_71 : decode cX9_layPlaces 71 = .ok (.getfield 81, 3) := by decide +kernel
theorem dX9_layPlaces_74 : decode cX9_layPlaces 74 = .ok (.iload_n 2, 1) := by decide +kernel
theorem dX9_layPlaces_75 : decode cX9_layPlaces 75 = .ok (.ifCond .eq 7, 3) := by decide +kernel
theorem dX9_layPlaces_78 : decode cX9_layPlaces 78 = .ok (.iconst 2, 1) := by decide +kernel
theorem dX9_layPlaces_79 : decode cX9_layPlaces 79 = .ok (.goto 4, 3) := by decide +kernel
theorem dX9_layPlaces_82 : decode cX9_layPlaces 82 = .ok (.iconst 0, 1) := by decide +kernel
theorem dX9_layPlaces_83 : decode cX9_layPlaces 83 = .ok (.iastore, 1) := by decide +kernel
theorem dX9_layPlaces_84 : decode cX9_layPlaces 84 = .ok (.aload_n 0, 1) := by decide +kernel
theorem dX9_layPlaces_85 : decode cX9_layPlaces 85 = .ok (.getfield 27, 3) := by decide +kernel
theorem dX9_layPlaces_88 : decode cX9_layPlaces 88 = .ok (.aload_n 0, 1) := by decide +kernel
theorem dX9_layPlaces_89 : decode cX9_layPlaces 89 = .ok (.getfield 81, 3) := by decide +kernel
theorem dX9_layPlaces_92 : decode cX9_layPlaces 92 = .ok (.bipush 23, 2) := by decide +kernel
theorem dX9_layPlaces_94 : decode cX9_layPlaces 94 = .ok (.iastore, 1) := by decide +kernel
theorem dX9_layPlaces_95 : decode cX9_layPlaces 95 = .ok (.aload_n 0, 1) := by decide +kernel
theorem dX9_layPlaces_96 : decode cX9_layPlaces 96 = .ok (.getfield 30, 3) := by decide +kernel
theorem dX9_layPlaces_99 : decode cX9_layPlaces 99 = .ok (.aload_n 0, 1) := by decide +kernel
theorem dX9_layPlaces_100 : decode cX9_layPlaces 100 = .ok (.getfield 81, 3) := by decide +kernel
theorem dX9_layPlaces_103 : decode cX9_layPlaces 103 = .ok (.iconst 1, 1) := by decide +kernel
theorem dX9_layPlaces_104 : decode cX9_layPlaces 104 = .ok (.iastore, 1) := by decide +kernel
theorem dX9_layPlaces_105 : decode cX9_layPlaces 105 = .ok (.aload_n 0, 1) := by decide +kernel
theorem dX9_layPlaces_106 : decode cX9_layPlaces 106 = .ok (.dup, 1) := by decide +kernel
theorem dX9_layPlaces_107 : decode cX9_layPlaces 107 = .ok (.getfield 81, 3) := by decide +kernel
theorem dX9_layPlaces_110 : decode cX9_layPlaces 110 = .ok (.iconst 1, 1) := by decide +kernel
theorem dX9_layPlaces_111 : decode cX9_layPlaces 111 = .ok (.iadd, 1) := by decide +kernel
theorem dX9_layPlaces_112 : decode cX9_layPlaces 112 = .ok (.putfield 81, 3) := by decide +kernel
theorem dX9_layPlaces_115 : decode cX9_layPlaces 115 = .ok (.aload_n 1, 1) := by decide +kernel
theorem dX9_layPlaces_116 : decode cX9_layPlaces 116 = .ok (.iload_n 3, 1) := by decide +kernel
theorem dX9_layPlaces_117 : decode cX9_layPlaces 117 = .ok (.invokevirtual 86, 3) := by decide +kernel
theorem dX9_layPlaces_120 : decode cX9_layPlaces 120 = .ok (.ifCond .ne 7, 3) := by decide +kernel
theorem dX9_layPlaces_123 : decode cX9_layPlaces 123 = .ok (.iconst 1, 1) := by decide +kernel
theorem dX9_layPlaces_124 : decode cX9_layPlaces 124 = .ok (.goto 4, 3) := by decide +kernel
theorem dX9_layPlaces_127 : decode cX9_layPlaces 127 = .ok (.iconst 0, 1) := by decide +kernel
theorem dX9_layPlaces_128 : decode cX9_layPlaces 128 = .ok (.istore_n 2, 1) := by decide +kernel
theorem dX9_layPlaces_129 : decode cX9_layPlaces 129 = .ok (.iinc 3 1, 3) := by decide +kernel
theorem dX9_layPlaces_132 : decode cX9_layPlaces 132 = .ok (.goto (-123), 3) := by decide +kernel
theorem dX9_layPlaces_135 : decode cX9_layPlaces 135 = .ok (.return_, 1) := by decide +kernel
theorem dX9_layStretch_0 : decode cX9_layStretch 0 = .ok (.aload_n 1, 1) := by decide +kernel
theorem dX9_layStretch_1 : decode cX9_layStretch 1 = .ok (.getfield 90, 3) := by decide +kernel
theorem dX9_layStretch_4 : decode cX9_layStretch 4 = .ok (.iload_n 2, 1) := by decide +kernel
theorem dX9_layStretch_5 : decode cX9_layStretch 5 = .ok (.iaload, 1) := by decide +kernel
theorem dX9_layStretch_6 : decode cX9_layStretch 6 = .ok (.istore_n 3, 1) := by decide +kernel
theorem dX9_layStretch_7 : decode cX9_layStretch 7 = .ok (.iconst 1, 1) := by decide +kernel
theorem dX9_layStretch_8 : decode cX9_layStretch 8 = .ok (.istore 4, 2) := by decide +kernel
theorem dX9_layStretch_10 : decode cX9_layStretch 10 = .ok (.iload 4, 2) := by decide +kernel
theorem dX9_layStretch_12 : decode cX9_layStretch 12 = .ok (.aload_n 0, 1) := by decide +kernel
theorem dX9_layStretch_13 : decode cX9_layStretch 13 = .ok (.getfield 81, 3) := by decide +kernel
theorem dX9_layStretch_16 : decode cX9_layStretch 16 = .ok (.if_icmp .ge 100, 3) := by decide +kernel
theorem dX9_layStretch_19 : decode cX9_layStretch 19 = .ok (.aload_n 0, 1) := by decide +kernel
theorem dX9_layStretch_20 : decode cX9_layStretch 20 = .ok (.getfield 9, 3) := by decide +kernel
theorem dX9_layStretch_23 : decode cX9_layStretch 23 = .ok (.iload 4, 2) := by decide +kernel
theorem dX9_layStretch_25 : decode cX9_layStretch 25 = .ok (.iconst 1, 1) := by decide +kernel
theorem dX9_layStretch_26 : decode cX9_layStretch 26 = .ok (.isub, 1) := by decide +kernel
theorem dX9_layStretch_27 : decode cX9_layStretch 27 = .ok (.iaload, 1) := by decide +kernel
theorem dX9_layStretch_28 : decode cX9_layStretch 28 = .ok (.aload_n 1, 1) := by decide +kernel
theorem dX9_layStretch_29 : decode cX9_layStretch 29 = .ok (.getfield 93, 3) := by decide +kernel
theorem dX9_layStretch_32 : decode cX9_layStretch 32 = .ok (.iload_n 2, 1) := by decide +kernel
theorem dX9_layStretch_33 : decode cX9_layStretch 33 = .ok (.iaload, 1) := by decide +kernel
theorem dX9_layStretch_34 : decode cX9_layStretch 34 = .ok (.if_icmp .lt 76, 3) := by decide +kernel
theorem dX9_layStretch_37 : decode cX9_layStretch 37 = .ok (.aload_n 0, 1) := by decide +kernel
theorem dX9_layStretch_38 : decode cX9_layStretch 38 = .ok (.getfield 9, 3) := by decide +kernel
theorem dX9_layStretch_41 : decode cX9_layStretch 41 = .ok (.iload 4, 2) := by decide +kernel
theorem dX9_layStretch_43 : decode cX9_layStretch 43 = .ok (.iaload, 1) := by decide +kernel
theorem dX9_layStretch_44 : decode cX9_layStretch 44 = .ok (.aload_n 1, 1) := by decide +kernel
theorem dX9_layStretch_45 : decode cX9_layStretch 45 = .ok (.getfield 96, 3) := by decide +kernel
theorem dX9_layStretch_48 : decode cX9_layStretch 48 = .ok (.iload_n 2, 1) := by decide +kernel
theorem dX9_layStretch_49 : decode cX9_layStretch 49 = .ok (.iaload, 1) := by decide +kernel
theorem dX9_layStretch_50 : decode cX9_layStretch 50 = .ok (.if_icmp .gt 60, 3) := by decide +kernel
theorem dX9_layStretch_53 : decode cX9_layStretch 53 = .ok (.aload_n 1, 1) := by decide +kernel
theorem dX9_layStretch_54 : decode cX9_layStretch 54 = .ok (.getfield 99, 3) := by decide +kernel
theorem dX9_layStretch_57 : decode cX9_layStretch 57 = .ok (.iload_n 2, 1) := by decide +kernel
theorem dX9_layStretch_58 : decode cX9_layStretch 58 = .ok (.iaload, 1) := by decide +kernel
theorem dX9_layStretch_59 : decode cX9_layStretch 59 = .ok (.iconst 2, 1) := by decide +kernel
theorem dX9_layStretch_60 : decode cX9_layStretch 60 = .ok (.if_icmp .ne 24, 3) := by decide +kernel
theorem dX9_layStretch_63 : decode cX9_layStretch 63 = .ok (.aload_n 0, 1) := by decide +kernel
theorem dX9_layStretch_64 : decode cX9_layStretch 64 = .ok (.getfield 24, 3) := by decide +kernel
theorem dX9_layStretch_67 : decode cX9_layStretch 67 = .ok (.iload 4, 2) := by decide +kernel
theorem dX9_layStretch_69 : decode cX9_layStretch 69 = .ok (.aload_n 0, 1) := by decide +kernel
theorem dX9_layStretch_70 : decode cX9_layStretch 70 = .ok (.getfield 24, 3) := by decide +kernel
theorem dX9_layStretch_73 : decode cX9_layStretch 73 = .ok (.iload 4, 2) := by decide +kernel
theorem dX9_layStretch_75 : decode cX9_layStretch 75 = .ok (.iaload, 1) := by decide +kernel
theorem dX9_layStretch_76 : decode cX9_layStretch 76 = .ok (.iload_n 3, 1) := by decide +kernel
theorem dX9_layStretch_77 : decode cX9_layStretch 77 = .ok (.invokestatic 102, 3) := by decide +kernel
theorem dX9_layStretch_80 : decode cX9_layStretch 80 = .ok (.iastore, 1) := by decide +kernel
theorem dX9_layStretch_81 : decode cX9_layStretch 81 = .ok (.goto 29, 3) := by decide +kernel
theorem dX9_layStretch_84 : decode cX9_layStretch 84 = .ok (.aload_n 0, 1) := by decide +kernel
theorem dX9_layStretch_85 : decode cX9_layStretch 85 = .ok (.getfield 27, 3) := by decide +kernel
theorem dX9_layStretch_88 : decode cX9_layStretch 88 = .ok (.iload 4, 2) := by decide +kernel
theorem dX9_layStretch_90 : decode cX9_layStretch 90 = .ok (.iconst 1, 1) := by decide +kernel
theorem dX9_layStretch_91 : decode cX9_layStretch 91 = .ok (.iastore, 1) := by decide +kernel
theorem dX9_layStretch_92 : decode cX9_layStretch 92 = .ok (.aload_n 0, 1) := by decide +kernel
theorem dX9_layStretch_93 : decode cX9_layStretch 93 = .ok (.getfield 30, 3) := by decide +kernel
theorem dX9_layStretch_96 : decode cX9_layStretch 96 = .ok (.iload 4, 2) := by decide +kernel
theorem dX9_layStretch_98 : decode cX9_layStretch 98 = .ok (.aload_n 0, 1) := by decide +kernel
theorem dX9_layStretch_99 : decode cX9_layStretch 99 = .ok (.getfield 30, 3) := by decide +kernel
theorem dX9_layStretch_102 : decode cX9_layStretch 102 = .ok (.iload 4, 2) := by decide +kernel
theorem dX9_layStretch_104 : decode cX9_layStretch 104 = .ok (.iaload, 1) := by decide +kernel
theorem dX9_layStretch_105 : decode cX9_layStretch 105 = .ok (.iload_n 3, 1) := by decide +kernel
theorem dX9_layStretch_106 : decode cX9_layStretch 106 = .ok (.invokestatic 102, 3) := by decide +kernel
theorem dX9_layStretch_109 : decode cX9_layStretch 109 = .ok (.iastore, 1) := by decide +kernel
theorem dX9_layStretch_110 : decode cX9_layStretch 110 = .ok (.iinc 4 1, 3) := by decide +kernel
theorem dX9_layStretch_113 : decode cX9_layStretch 113 = .ok (.goto (-103), 3) := by decide +kernel
theorem dX9_layStretch_116 : decode cX9_layStretch 116 = .ok (.return_, 1) := by decide +kernel
theorem dX9_layDate_0 : decode cX9_layDate 0 = .ok (.aload_n 0, 1) := by decide +kernel
theorem dX9_layDate_1 : decode cX9_layDate 1 = .ok (.getfield 15, 3) := by decide +kernel
theorem dX9_layDate_4 : decode cX9_layDate 4 = .ok (.aload_n 1, 1) := by decide +kernel
theorem dX9_layDate_5 : decode cX9_layDate 5 = .ok (.getfield 108, 3) := by decide +kernel
theorem dX9_layDate_8 : decode cX9_layDate 8 = .ok (.iload_n 2, 1) := by decide +kernel
theorem dX9_layDate_9 : decode cX9_layDate 9 = .ok (.iaload, 1) := by decide +kernel
theorem dX9_layDate_10 : decode cX9_layDate 10 = .ok (.iaload, 1) := by decide +kernel
theorem dX9_layDate_11 : decode cX9_layDate 11 = .ok (.istore_n 3, 1) := by decide +kernel
theorem dX9_layDate_12 : decode cX9_layDate 12 = .ok (.aload_n 0, 1) := by decide +kernel
theorem dX9_layDate_13 : decode cX9_layDate 13 = .ok (.getfield 18, 3) := by decide +kernel
theorem dX9_layDate_16 : decode cX9_layDate 16 = .ok (.iload_n 3, 1) := by decide +kernel
theorem dX9_layDate_17 : decode cX9_layDate 17 = .ok (.aload_n 0, 1) := by decide +kernel
theorem dX9_layDate_18 : decode cX9_layDate 18 = .ok (.getfield 18, 3) := by decide +kernel
theorem dX9_layDate_21 : decode cX9_layDate 21 = .ok (.iload_n 3, 1) := by decide +kernel
theorem dX9_layDate_22 : decode cX9_layDate 22 = .ok (.iaload, 1) := by decide +kernel
theorem dX9_layDate_23 : decode cX9_layDate 23 = .ok (.aload_n 1, 1) := by decide +kernel
theorem dX9_layDate_24 : decode cX9_layDate 24 = .ok (.getfield 109, 3) := by decide +kernel
theorem dX9_layDate_27 : decode cX9_layDate 27 = .ok (.iload_n 2, 1) := by decide +kernel
theorem dX9_layDate_28 : decode cX9_layDate 28 = .ok (.iaload, 1) := by decide +kernel
theorem dX9_layDate_29 : decode cX9_layDate 29 = .ok (.invokestatic 102, 3) := by decide +kernel
theorem dX9_layDate_32 : decode cX9_layDate 32 = .ok (.iastore, 1) := by decide +kernel
theorem dX9_layDate_33 : decode cX9_layDate 33 = .ok (.aload_n 1, 1) := by decide +kernel
theorem dX9_layDate_34 : decode cX9_layDate 34 = .ok (.getfield 112, 3) := by decide +kernel
theorem dX9_layDate_37 : decode cX9_layDate 37 = .ok (.iload_n 2, 1) := by decide +kernel
theorem dX9_layDate_38 : decode cX9_layDate 38 = .ok (.iaload, 1) := by decide +kernel
theorem dX9_layDate_39 : decode cX9_layDate 39 = .ok (.ifCond .ne 24, 3) := by decide +kernel
theorem dX9_layDate_42 : decode cX9_layDate 42 = .ok (.aload_n 0, 1) := by decide +kernel
theorem dX9_layDate_43 : decode cX9_layDate 43 = .ok (.getfield 21, 3) := by decide +kernel
theorem dX9_layDate_46 : decode cX9_layDate 46 = .ok (.iload_n 3, 1) := by decide +kernel
theorem dX9_layDate_47 : decode cX9_layDate 47 = .ok (.aload_n 0, 1) := by decide +kernel
theorem dX9_layDate_48 : decode cX9_layDate 48 = .ok (.getfield 21, 3) := by decide +kernel
theorem dX9_layDate_51 : decode cX9_layDate 51 = .ok (.iload_n 3, 1) := by decide +kernel
theorem dX9_layDate_52 : decode cX9_layDate 52 = .ok (.iaload, 1) := by decide +kernel
theorem dX9_layDate_53 : decode cX9_layDate 53 = .ok (.aload_n 1, 1) := by decide +kernel
theorem dX9_layDate_54 : decode cX9_layDate 54 = .ok (.getfield 115, 3) := by decide +kernel
theorem dX9_layDate_57 : decode cX9_layDate 57 = .ok (.iload_n 2, 1) := by decide +kernel
theorem dX9_layDate_58 : decode cX9_layDate 58 = .ok (.iaload, 1) := by decide +kernel
theorem dX9_layDate_59 : decode cX9_layDate 59 = .ok (.invokestatic 118, 3) := by decide +kernel
theorem dX9_layDate_62 : decode cX9_layDate 62 = .ok (.iastore, 1) := by decide +kernel
theorem dX9_layDate_63 : decode cX9_layDate 63 = .ok (.return_, 1) := by decide +kernel
theorem dX9_goForward_0 : decode cX9_goForward 0 = .ok (.aload_n 0, 1) := by decide +kernel
theorem dX9_goForward_1 : decode cX9_goForward 1 = .ok (.lconst 0, 1) := by decide +kernel
theorem dX9_goForward_2 : decode cX9_goForward 2 = .ok (.putfield 121, 3) := by decide +kernel
theorem dX9_goForward_5 : decode cX9_goForward 5 = .ok (.aload_n 0, 1) := by decide +kernel
theorem dX9_goForward_6 : decode cX9_goForward 6 = .ok (.getfield 81, 3) := by decide +kernel
theorem dX9_goForward_9 : decode cX9_goForward 9 = .ok (.ifCond .ne 4, 3) := by decide +kernel
theorem dX9_goForward_12 : decode cX9_goForward 12 = .ok (.return_, 1) := by decide +kernel
theorem dX9_goForward_13 : decode cX9_goForward 13 = .ok (.aload_n 0, 1) := by decide +kernel
theorem dX9_goForward_14 : decode cX9_goForward 14 = .ok (.getfield 35, 3) := by decide +kernel
theorem dX9_goForward_17 : decode cX9_goForward 17 = .ok (.iconst 0, 1) := by decide +kernel
theorem dX9_goForward_18 : decode cX9_goForward 18 = .ok (.aaload, 1) := by decide +kernel
theorem dX9_goForward_19 : decode cX9_goForward 19 = .ok (.lconst 0, 1) := by decide +kernel
theorem dX9_goForward_20 : decode cX9_goForward 20 = .ok (.invokestatic 125, 3) := by decide +kernel
theorem dX9_goForward_23 : decode cX9_goForward 23 = .ok (.aload_n 0, 1) := by decide +kernel
theorem dX9_goForward_24 : decode cX9_goForward 24 = .ok (.aload_n 0, 1) := by decide +kernel
theorem dX9_goForward_25 : decode cX9_goForward 25 = .ok (.getfield 35, 3) := by decide +kernel
theorem dX9_goForward_28 : decode cX9_goForward 28 = .ok (.iconst 0, 1) := by decide +kernel
theorem dX9_goForward_29 : decode cX9_goForward 29 = .ok (.aaload, 1) := by decide +kernel
theorem dX9_goForward_30 : decode cX9_goForward 30 = .ok (.aload_n 0, 1) := by decide +kernel
theorem dX9_goForward_31 : decode cX9_goForward 31 = .ok (.getfield 45, 3) := by decide +kernel
theorem dX9_goForward_34 : decode cX9_goForward 34 = .ok (.invokevirtual 131, 3) := by decide +kernel
theorem dX9_goForward_37 : decode cX9_goForward 37 = .ok (.iconst 1, 1) := by decide +kernel
theorem dX9_goForward_38 : decode cX9_goForward 38 = .ok (.istore_n 1, 1) := by decide +kernel
theorem dX9_goForward_39 : decode cX9_goForward 39 = .ok (.iload_n 1, 1) := by decide +kernel
theorem dX9_goForward_40 : decode cX9_goForward 40 = .ok (.aload_n 0, 1) := by decide +kernel
theorem dX9_goForward_41 : decode cX9_goForward 41 = .ok (.getfield 81, 3) := by decide +kernel
theorem dX9_goForward_44 : decode cX9_goForward 44 = .ok (.if_icmp .ge 42, 3) := by decide +kernel
theorem dX9_goForward_47 : decode cX9_goForward 47 = .ok (.aload_n 0, 1) := by decide +kernel
theorem dX9_goForward_48 : decode cX9_goForward 48 = .ok (.getfield 35, 3) := by decide +kernel
theorem dX9_goForward_51 : decode cX9_goForward 51 = .ok (.iload_n 1, 1) := by decide +kernel
theorem dX9_goForward_52 : decode cX9_goForward 52 = .ok (.aaload, 1) := by decide +kernel
theorem dX9_goForward_53 : decode cX9_goForward 53 = .ok (.lconst 0, 1) := by decide +kernel
theorem dX9_goForward_54 : decode cX9_goForward 54 = .ok (.invokestatic 125, 3) := by decide +kernel
theorem dX9_goForward_57 : decode cX9_goForward 57 = .ok (.aload_n 0, 1) := by decide +kernel
theorem dX9_goForward_58 : decode cX9_goForward 58 = .ok (.aload_n 0, 1) := by decide +kernel
theorem dX9_goForward_59 : decode cX9_goForward 59 = .ok (.getfield 35, 3) := by decide +kernel
theorem dX9_goForward_62 : decode cX9_goForward 62 = .ok (.iload_n 1, 1) := by decide +kernel
theorem dX9_goForward_63 : decode cX9_goForward 63 = .ok (.iconst 1, 1) := by decide +kernel
theorem dX9_goForward_64 : decode cX9_goForward 64 = .ok (.isub, 1) := by decide +kernel
theorem dX9_goForward_65 : decode cX9_goForward 65 = .ok (.aaload, 1) := by decide +kernel
theorem dX9_goForward_66 : decode cX9_goForward 66 = .ok (.aload_n 0, 1) := by decide +kernel
theorem dX9_goForward_67 : decode cX9_goForward 67 = .ok (.getfield 35, 3) := by decide +kernel
theorem dX9_goForward_70 : decode cX9_goForward 70 = .ok (.iload_n 1, 1) := by decide +kernel
theorem dX9_goForward_71 : decode cX9_goForward 71 = .ok (.aaload, 1) := by decide +kernel
theorem dX9_goForward_72 : decode cX9_goForward 72 = .ok (.iload_n 1, 1) := by decide +kernel
theorem dX9_goForward_73 : decode cX9_goForward 73 = .ok (.aload_n 0, 1) := by decide +kernel
theorem dX9_goForward_74 : decode cX9_goForward 74 = .ok (.getfield 45, 3) := by decide +kernel
theorem dX9_goForward_77 : decode cX9_goForward 77 = .ok (.invokevirtual 135, 3) := by decide +kernel
theorem dX9_goForward_80 : decode cX9_goForward 80 = .ok (.iinc 1 1, 3) := by decide +kernel
theorem dX9_goForward_83 : decode cX9_goForward 83 = .ok (.goto (-44), 3) := by decide +kernel
theorem dX9_goForward_86 : decode cX9_goForward 86 = .ok (.iconst 0, 1) := by decide +kernel
theorem dX9_goForward_87 : decode cX9_goForward 87 = .ok (.istore_n 1, 1) := by decide +kernel
theorem dX9_goForward_88 : decode cX9_goForward 88 = .ok (.iload_n 1, 1) := by decide +kernel
theorem dX9_goForward_89 : decode cX9_goForward 89 = .ok (.bipush 96, 2) := by decide +kernel
theorem dX9_goForward_91 : decode cX9_goForward 91 = .ok (.if_icmp .ge 31, 3) := by decide +kernel
theorem dX9_goForward_94 : decode cX9_goForward 94 = .ok (.aload_n 0, 1) := by decide +kernel
theorem dX9_goForward_95 : decode cX9_goForward 95 = .ok (.dup, 1) := by decide +kernel
theorem dX9_goForward_96 : decode cX9_goForward 96 = .ok (.getfield 121, 3) := by decide +kernel
theorem dX9_goForward_99 : decode cX9_goForward 99 = .ok (.aload_n 0, 1) := by decide +kernel
theorem dX9_goForward_100 : decode cX9_goForward 100 = .ok (.getfield 35, 3) := by decide +kernel
theorem dX9_goForward_103 : decode cX9_goForward 103 = .ok (.aload_n 0, 1) := by decide +kernel
theorem dX9_goForward_104 : decode cX9_goForward 104 = .ok (.getfield 81, 3) := by decide +kernel
theorem dX9_goForward_107 : decode cX9_goForward 107 = .ok (.iconst 1, 1) := by decide +kernel
theorem dX9_goForward_108 : decode cX9_goForward 108 = .ok (.isub, 1) := by decide +kernel
theorem dX9_goForward_109 : decode cX9_goForward 109 = .ok (.aaload, 1) := by decide +kernel
theorem dX9_goForward_110 : decode cX9_goForward 110 = .ok (.iload_n 1, 1) := by decide +kernel
theorem dX9_goForward_111 : decode cX9_goForward 111 = .ok (.laload, 1) := by decide +kernel
theorem dX9_goForward_112 : decode cX9_goForward 112 = .ok (.ladd, 1) := by decide +kernel
theorem dX9_goForward_113 : decode cX9_goForward 113 = .ok (.putfield 121, 3) := by decide +kernel
theorem dX9_goForward_116 : decode cX9_goForward 116 = .ok (.iinc 1 1, 3) := by decide +kernel
theorem dX9_goForward_119 : decode cX9_goForward 119 = .ok (.goto (-31), 3) := by decide +kernel
theorem dX9_goForward_122 : decode cX9_goForward 122 = .ok (.return_, 1) := by decide +kernel
theorem dX9_start_0 : decode cX9_start 0 = .ok (.aload_n 0, 1) := by decide +kernel
theorem dX9_start_1 : decode cX9_start 1 = .ok (.getfield 18, 3) := by decide +kernel
theorem dX9_start_4 : decode cX9_start 4 = .ok (.iconst 0, 1) := by decide +kernel
theorem dX9_start_5 : decode cX9_start 5 = .ok (.iaload, 1) := by decide +kernel
theorem dX9_start_6 : decode cX9_start 6 = .ok (.istore_n 3, 1) := by decide +kernel
theorem dX9_start_7 : decode cX9_start 7 = .ok (.iload_n 3, 1) := by decide +kernel
theorem dX9_start_8 : decode cX9_start 8 = .ok (.aload_n 0, 1) := by decide +kernel
theorem dX9_start_9 : decode cX9_start 9 = .ok (.getfield 21, 3) := by decide +kernel
theorem dX9_start_12 : decode cX9_start 12 = .ok (.iconst 0, 1) := by decide +kernel
theorem dX9_start_13 : decode cX9_start 13 = .ok (.iaload, 1) := by decide +kernel
theorem dX9_start_14 : decode cX9_start 14 = .ok (.if_icmp .gt 22, 3) := by decide +kernel
theorem dX9_start_17 : decode cX9_start 17 = .ok (.aload_n 1, 1) := by decide +kernel
theorem dX9_start_18 : decode cX9_start 18 = .ok (.aload_n 2, 1) := by decide +kernel
theorem dX9_start_19 : decode cX9_start 19 = .ok (.iload_n 3, 1) := by decide +kernel
theorem dX9_start_20 : decode cX9_start 20 = .ok (.iaload, 1) := by decide +kernel
theorem dX9_start_21 : decode cX9_start 21 = .ok (.bipush 96, 2) := by decide +kernel
theorem dX9_start_23 : decode cX9_start 23 = .ok (.imul, 1) := by decide +kernel
theorem dX9_start_24 : decode cX9_start 24 = .ok (.iload_n 3, 1) := by decide +kernel
theorem dX9_start_25 : decode cX9_start 25 = .ok (.iconst 4, 1) := by decide +kernel
theorem dX9_start_26 : decode cX9_start 26 = .ok (.imul, 1) := by decide +kernel
theorem dX9_start_27 : decode cX9_start 27 = .ok (.iadd, 1) := by decide +kernel
theorem dX9_start_28 : decode cX9_start 28 = .ok (.lconst 1, 1) := by decide +kernel
theorem dX9_start_29 : decode cX9_start 29 = .ok (.lastore, 1) := by decide +kernel
theorem dX9_start_30 : decode cX9_start 30 = .ok (.iinc 3 1, 3) := by decide +kernel
theorem dX9_start_33 : decode cX9_start 33 = .ok (.goto (-26), 3) := by decide +kernel
theorem dX9_start_36 : decode cX9_start 36 = .ok (.return_, 1) := by decide +kernel
theorem dX9_advance_0 : decode cX9_advance 0 = .ok (.iconst 1, 1) := by decide +kernel
theorem dX9_advance_1 : decode cX9_advance 1 = .ok (.aload_n 0, 1) := by decide +kernel
theorem dX9_advance_2 : decode cX9_advance 2 = .ok (.getfield 24, 3) := by decide +kernel
theorem dX9_advance_5 : decode cX9_advance 5 = .ok (.iload_n 3, 1) := by decide +kernel
theorem dX9_advance_6 : decode cX9_advance 6 = .ok (.iaload, 1) := by decide +kernel
theorem dX9_advance_7 : decode cX9_advance 7 = .ok (.invokestatic 102, 3) := by decide +kernel
theorem dX9_advance_10 : decode cX9_advance 10 = .ok (.istore 5, 2) := by decide +kernel
theorem dX9_advance_12 : decode cX9_advance 12 = .ok (.iload 5, 2) := by decide +kernel
theorem dX9_advance_14 : decode cX9_advance 14 = .ok (.aload_n 0, 1) := by decide +kernel
theorem dX9_advance_15 : decode cX9_advance 15 = .ok (.getfield 27, 3) := by decide +kernel
theorem dX9_advance_18 : decode cX9_advance 18 = .ok (.iload_n 3, 1) := by decide +kernel
theorem dX9_advance_19 : decode cX9_advance 19 = .ok (.iaload, 1) := by decide +kernel
theorem dX9_advance_20 : decode cX9_advance 20 = .ok (.if_icmp .gt 7, 3) := by decide +kernel
theorem dX9_advance_23 : decode cX9_advance 23 = .ok (.iconst 1, 1) := by decide +kernel
theorem dX9_advance_24 : decode cX9_advance 24 = .ok (.goto 4, 3) := by decide +kernel
theorem dX9_advance_27 : decode cX9_advance 27 = .ok (.iconst 0, 1) := by decide +kernel
theorem dX9_advance_28 : decode cX9_advance 28 = .ok (.istore 6, 2) := by decide +kernel
theorem dX9_advance_30 : decode cX9_advance 30 = .ok (.lconst 0, 1) := by decide +kernel
theorem dX9_advance_31 : decode cX9_advance 31 = .ok (.lstore 7, 2) := by decide +kernel
theorem dX9_advance_33 : decode cX9_advance 33 = .ok (.aload_n 1, 1) := by decide +kernel
theorem dX9_advance_34 : decode cX9_advance 34 = .ok (.invokestatic 139, 3) := by decide +kernel
theorem dX9_advance_37 : decode cX9_advance 37 = .ok (.istore 9, 2) := by decide +kernel
theorem dX9_advance_39 : decode cX9_advance 39 = .ok (.iload 9, 2) := by decide +kernel
theorem dX9_advance_41 : decode cX9_advance 41 = .ok (.aload_n 0, 1) := by decide +kernel
theorem dX9_advance_42 : decode cX9_advance 42 = .ok (.getfield 21, 3) := by decide +kernel
theorem dX9_advance_45 : decode cX9_advance 45 = .ok (.iload_n 3, 1) := by decide +kernel
theorem dX9_advance_46 : decode cX9_advance 46 = .ok (.iaload, 1) := by decide +kernel
theorem dX9_advance_47 : decode cX9_advance 47 = .ok (.if_icmp .gt 131, 3) := by decide +kernel
theorem dX9_advance_50 : decode cX9_advance 50 = .ok (.iload 6, 2) := by decide +kernel
theorem dX9_advance_52 : decode cX9_advance 52 = .ok (.ifCond .eq 37, 3) := by decide +kernel
theorem dX9_advance_55 : decode cX9_advance 55 = .ok (.lload 7, 2) := by decide +kernel
theorem dX9_advance_57 : decode cX9_advance 57 = .ok (.aload_n 0, 1) := by decide +kernel
theorem dX9_advance_58 : decode cX9_advance 58 = .ok (.aload_n 1, 1) := by decide +kernel
theorem dX9_advance_59 : decode cX9_advance 59 = .ok (.iload 9, 2) := by decide +kernel
theorem dX9_advance_61 : decode cX9_advance 61 = .ok (.iload 5, 2) := by decide +kernel
theorem dX9_advance_63 : decode cX9_advance 63 = .ok (.isub, 1) := by decide +kernel
theorem dX9_advance_64 : decode cX9_advance 64 = .ok (.iload_n 3, 1) := by decide +kernel
theorem dX9_advance_65 : decode cX9_advance 65 = .ok (.invokevirtual 143, 3) := by decide +kernel
theorem dX9_advance_68 : decode cX9_advance 68 = .ok (.aload_n 0, 1) := by decide +kernel
theorem dX9_advance_69 : decode cX9_advance 69 = .ok (.aload_n 1, 1) := by decide +kernel
theorem dX9_advance_70 : decode cX9_advance 70 = .ok (.iload 9, 2) := by decide +kernel
theorem dX9_advance_72 : decode cX9_advance 72 = .ok (.aload_n 0, 1) := by decide +kernel
theorem dX9_advance_73 : decode cX9_advance 73 = .ok (.getfield 27, 3) := by decide +kernel
theorem dX9_advance_76 : decode cX9_advance 76 = .ok (.iload_n 3, 1) := by decide +kernel
theorem dX9_advance_77 : decode cX9_advance 77 = .ok (.iaload, 1) := by decide +kernel
theorem dX9_advance_78 : decode cX9_advance 78 = .ok (.isub, 1) := by decide +kernel
theorem dX9_advance_79 : decode cX9_advance 79 = .ok (.iconst 1, 1) := by decide +kernel
theorem dX9_advance_80 : decode cX9_advance 80 = .ok (.isub, 1) := by decide +kernel
theorem dX9_advance_81 : decode cX9_advance 81 = .ok (.iload_n 3, 1) := by decide +kernel
theorem dX9_advance_82 : decode cX9_advance 82 = .ok (.invokevirtual 143, 3) := by decide +kernel
theorem dX9_advance_85 : decode cX9_advance 85 = .ok (.lsub, 1) := by decide +kernel
theorem dX9_advance_86 : decode cX9_advance 86 = .ok (.ladd, 1) := by decide +kernel
theorem dX9_advance_87 : decode cX9_advance 87 = .ok (.lstore 7, 2) := by decide +kernel
theorem dX9_advance_89 : decode cX9_advance 89 = .ok (.iload 9, 2) := by decide +kernel
theorem dX9_advance_91 : decode cX9_advance 91 = .ok (.aload_n 0, 1) := by decide +kernel
theorem dX9_advance_92 : decode cX9_advance 92 = .ok (.getfield 18, 3) := by decide +kernel
theorem dX9_advance_95 : decode cX9_advance 95 = .ok (.iload_n 3, 1) := by decide +kernel
theorem dX9_advance_96 : decode cX9_advance 96 = .ok (.iaload, 1) := by decide +kernel
theorem dX9_advance_97 : decode cX9_advance 97 = .ok (.if_icmp .lt 75, 3) := by decide +kernel
theorem dX9_advance_100 : decode cX9_advance 100 = .ok (.aload 4, 2) := by decide +kernel
theorem dX9_advance_102 : decode cX9_advance 102 = .ok (.iload 9, 2) := by decide +kernel
theorem dX9_advance_104 : decode cX9_advance 104 = .ok (.iaload, 1) := by decide +kernel
theorem dX9_advance_105 : decode cX9_advance 105 = .ok (.bipush 96, 2) := by decide +kernel
theorem dX9_advance_107 : decode cX9_advance 107 = .ok (.imul, 1) := by decide +kernel
theorem dX9_advance_108 : decode cX9_advance 108 = .ok (.iload 9, 2) := by decide +kernel
theorem dX9_advance_110 : decode cX9_advance 110 = .ok (.iconst 4, 1) := by decide +kernel
theorem dX9_advance_111 : decode cX9_advance 111 = .ok (.imul, 1) := by decide +kernel
theorem dX9_advance_112 : decode cX9_advance 112 = .ok (.iadd, 1) := by decide +kernel
theorem dX9_advance_113 : decode cX9_advance 113 = .ok (.istore 10, 2) := by decide +kernel
theorem dX9_advance_115 : decode cX9_advance 115 = .ok (.aload_n 2, 1) := by decide +kernel
theorem dX9_advance_116 : decode cX9_advance 116 = .ok (.iload 10, 2) := by decide +kernel
theorem dX9_advance_118 : decode cX9_advance 118 = .ok (.dup2, 1) := by decide +kernel
theorem dX9_advance_119 : decode cX9_advance 119 = .ok (.laload, 1) := by decide +kernel
theorem dX9_advance_120 : decode cX9_advance 120 = .ok (.lload 7, 2) := by decide +kernel
theorem dX9_advance_122 : decode cX9_advance 122 = .ok (.ladd, 1) := by decide +kernel
theorem dX9_advance_123 : decode cX9_advance 123 = .ok (.lastore, 1) := by decide +kernel
theorem dX9_advance_124 : decode cX9_advance 124 = .ok (.iconst 1, 1) := by decide +kernel
theorem dX9_advance_125 : decode cX9_advance 125 = .ok (.istore 11, 2) := by decide +kernel
theorem dX9_advance_127 : decode cX9_advance 127 = .ok (.iload 11, 2) := by decide +kernel
theorem dX9_advance_129 : decode cX9_advance 129 = .ok (.aload_n 0, 1) := by decide +kernel
theorem dX9_advance_130 : decode cX9_advance 130 = .ok (.getfield 60, 3) := by decide +kernel
theorem dX9_advance_133 : decode cX9_advance 133 = .ok (.if_icmp .ge 39, 3) := by decide +kernel
theorem dX9_advance_136 : decode cX9_advance 136 = .ok (.aload_n 0, 1) := by decide +kernel
theorem dX9_advance_137 : decode cX9_advance 137 = .ok (.getfield 24, 3) := by decide +kernel
theorem dX9_advance_140 : decode cX9_advance 140 = .ok (.iload_n 3, 1) := by decide +kernel
theorem dX9_advance_141 : decode cX9_advance 141 = .ok (.iaload, 1) := by decide +kernel
theorem dX9_advance_142 : decode cX9_advance 142 = .ok (.ifCond .ne 30, 3) := by decide +kernel
theorem dX9_advance_145 : decode cX9_advance 145 = .ok (.aload_n 2, 1) := by decide +kernel
theorem dX9_advance_146 : decode cX9_advance 146 = .ok (.iload 10, 2) := by decide +kernel
theorem dX9_advance_148 : decode cX9_advance 148 = .ok (.iload 11, 2) := by decide +kernel
theorem dX9_advance_150 : decode cX9_advance 150 = .ok (.iadd, 1) := by decide +kernel
theorem dX9_advance_151 : decode cX9_advance 151 = .ok (.dup2, 1) := by decide +kernel
theorem dX9_advance_152 : decode cX9_advance 152 = .ok (.laload, 1) := by decide +kernel
theorem dX9_advance_153 : decode cX9_advance 153 = .ok (.aload_n 1, 1) := by decide +kernel
theorem dX9_advance_154 : decode cX9_advance 154 = .ok (.iload 9, 2) := by decide +kernel
theorem dX9_advance_156 : decode cX9_advance 156 = .ok (.iconst 4, 1) := by decide +kernel
theorem dX9_advance_157 : decode cX9_advance 157 = .ok (.imul, 1) := by decide +kernel
theorem dX9_advance_158 : decode cX9_advance 158 = .ok (.iload 11, 2) := by decide +kernel
theorem dX9_advance_160 : decode cX9_advance 160 = .ok (.iadd, 1) := by decide +kernel
theorem dX9_advance_161 : decode cX9_advance 161 = .ok (.iconst 1, 1) := by decide +kernel
theorem dX9_advance_162 : decode cX9_advance 162 = .ok (.isub, 1) := by decide +kernel
theorem dX9_advance_163 : decode cX9_advance 163 = .ok (.laload, 1) := by decide +kernel
theorem dX9_advance_164 : decode cX9_advance 164 = .ok (.ladd, 1) := by decide +kernel
theorem dX9_advance_165 : decode cX9_advance 165 = .ok (.lastore, 1) := by decide +kernel
theorem dX9_advance_166 : decode cX9_advance 166 = .ok (.iinc 11 1, 3) := by decide +kernel
theorem dX9_advance_169 : decode cX9_advance 169 = .ok (.goto (-42), 3) := by decide +kernel
theorem dX9_advance_172 : decode cX9_advance 172 = .ok (.iinc 9 1, 3) := by decide +kernel
theorem dX9_advance_175 : decode cX9_advance 175 = .ok (.goto (-136), 3) := by decide +kernel
theorem dX9_advance_178 : decode cX9_advance 178 = .ok (.return_, 1) := by decide +kernel
theorem dX9_firstYear_0 : decode cX9_firstYear 0 = .ok (.iconst 0, 1) := by decide +kernel
theorem dX9_firstYear_1 : decode cX9_firstYear 1 = .ok (.istore_n 1, 1) := by decide +kernel
theorem dX9_firstYear_2 : decode cX9_firstYear 2 = .ok (.iload_n 1, 1) := by decide +kernel
theorem dX9_firstYear_3 : decode cX9_firstYear 3 = .ok (.bipush 96, 2) := by decide +kernel
theorem dX9_firstYear_5 : decode cX9_firstYear 5 = .ok (.if_icmp .ge 17, 3) := by decide +kernel
theorem dX9_firstYear_8 : decode cX9_firstYear 8 = .ok (.aload_n 0, 1) := by decide +kernel
theorem dX9_firstYear_9 : decode cX9_firstYear 9 = .ok (.iload_n 1, 1) := by decide +kernel
theorem dX9_firstYear_10 : decode cX9_firstYear 10 = .ok (.laload, 1) := by decide +kernel
theorem dX9_firstYear_11 : decode cX9_firstYear 11 = .ok (.lconst 0, 1) := by decide +kernel
theorem dX9_firstYear_12 : decode cX9_firstYear 12 = .ok (.lcmp, 1) := by decide +kernel
theorem dX9_firstYear_13 : decode cX9_firstYear 13 = .ok (.ifCond .ne 9, 3) := by decide +kernel
theorem dX9_firstYear_16 : decode cX9_firstYear 16 = .ok (.iinc 1 1, 3) := by decide +kernel
theorem dX9_firstYear_19 : decode cX9_firstYear 19 = .ok (.goto (-17), 3) := by decide +kernel
theorem dX9_firstYear_22 : decode cX9_firstYear 22 = .ok (.iload_n 1, 1) := by decide +kernel
theorem dX9_firstYear_23 : decode cX9_firstYear 23 = .ok (.iconst 4, 1) := by decide +kernel
theorem dX9_firstYear_24 : decode cX9_firstYear 24 = .ok (.idiv, 1) := by decide +kernel
theorem dX9_firstYear_25 : decode cX9_firstYear 25 = .ok (.ireturn, 1) := by decide +kernel
theorem dX9_leaving_0 : decode cX9_leaving 0 = .ok (.lconst 0, 1) := by decide +kernel
theorem dX9_leaving_1 : decode cX9_leaving 1 = .ok (.lstore 4, 2) := by decide +kernel
theorem dX9_leaving_3 : decode cX9_leaving 3 = .ok (.iload_n 2, 1) := by decide +kernel
theorem dX9_leaving_4 : decode cX9_leaving 4 = .ok (.ifCond .lt 41, 3) := by decide +kernel
theorem dX9_leaving_7 : decode cX9_leaving 7 = .ok (.aload_n 0, 1) := by decide +kernel
theorem dX9_leaving_8 : decode cX9_leaving 8 = .ok (.getfield 30, 3) := by decide +kernel
theorem dX9_leaving_11 : decode cX9_leaving 11 = .ok (.iload_n 3, 1) := by decide +kernel
theorem dX9_leaving_12 : decode cX9_leaving 12 = .ok (.iaload, 1) := by decide +kernel
theorem dX9_leaving_13 : decode cX9_leaving 13 = .ok (.iconst 1, 1) := by decide +kernel
theorem dX9_leaving_14 : decode cX9_leaving 14 = .ok (.isub, 1) := by decide +kernel
theorem dX9_leaving_15 : decode cX9_leaving 15 = .ok (.istore 6, 2) := by decide +kernel
theorem dX9_leaving_17 : decode cX9_leaving 17 = .ok (.iload 6, 2) := by decide +kernel
theorem dX9_leaving_19 : decode cX9_leaving 19 = .ok (.aload_n 0, 1) := by decide +kernel
theorem dX9_leaving_20 : decode cX9_leaving 20 = .ok (.getfield 60, 3) := by decide +kernel
theorem dX9_leaving_23 : decode cX9_leaving 23 = .ok (.if_icmp .ge 22, 3) := by decide +kernel
theorem dX9_leaving_26 : decode cX9_leaving 26 = .ok (.lload 4, 2) := by decide +kernel
theorem dX9_leaving_28 : decode cX9_leaving 28 = .ok (.aload_n 1, 1) := by decide +kernel
theorem dX9_leaving_29 : decode cX9_leaving 29 = .ok (.iload_n 2, 1) := by decide +kernel
theorem dX9_leaving_30 : decode cX9_leaving 30 = .ok (.iconst 4, 1) := by decide +kernel
theorem dX9_leaving_31 : decode cX9_leaving 31 = .ok (.imul, 1) := by decide +kernel
theorem dX9_leaving_32 : decode cX9_leaving 32 = .ok (.iload 6, 2) := by decide +kernel
theorem dX9_leaving_34 : decode cX9_leaving 34 = .ok (.iadd, 1) := by decide +kernel
theorem dX9_leaving_35 : decode cX9_leaving 35 = .ok (.laload, 1) := by decide +kernel
theorem dX9_leaving_36 : decode cX9_leaving 36 = .ok (.ladd, 1) := by decide +kernel
theorem dX9_leaving_37 : decode cX9_leaving 37 = .ok (.lstore 4, 2) := by decide +kernel
theorem dX9_leaving_39 : decode cX9_leaving 39 = .ok (.iinc 6 1, 3) := by decide +kernel
theorem dX9_leaving_42 : decode cX9_leaving 42 = .ok (.goto (-25), 3) := by decide +kernel
theorem dX9_leaving_45 : decode cX9_leaving 45 = .ok (.lload 4, 2) := by decide +kernel
theorem dX9_leaving_47 : decode cX9_leaving 47 = .ok (.lreturn, 1) := by decide +kernel
theorem dX9_goBack_0 : decode cX9_goBack 0 = .ok (.aload_n 0, 1) := by decide +kernel
theorem dX9_goBack_1 : decode cX9_goBack 1 = .ok (.getfield 81, 3) := by decide +kernel
theorem dX9_goBack_4 : decode cX9_goBack 4 = .ok (.ifCond .le 18, 3) := by decide +kernel
theorem dX9_goBack_7 : decode cX9_goBack 7 = .ok (.aload_n 0, 1) := by decide +kernel
theorem dX9_goBack_8 : decode cX9_goBack 8 = .ok (.getfield 38, 3) := by decide +kernel
theorem dX9_goBack_11 : decode cX9_goBack 11 = .ok (.aload_n 0, 1) := by decide +kernel
theorem dX9_goBack_12 : decode cX9_goBack 12 = .ok (.getfield 81, 3) := by decide +kernel
theorem dX9_goBack_15 : decode cX9_goBack 15 = .ok (.iconst 1, 1) := by decide +kernel
theorem dX9_goBack_16 : decode cX9_goBack 16 = .ok (.isub, 1) := by decide +kernel
theorem dX9_goBack_17 : decode cX9_goBack 17 = .ok (.aaload, 1) := by decide +kernel
theorem dX9_goBack_18 : decode cX9_goBack 18 = .ok (.lconst 1, 1) := by decide +kernel
theorem dX9_goBack_19 : decode cX9_goBack 19 = .ok (.invokestatic 125, 3) := by decide +kernel
theorem dX9_goBack_22 : decode cX9_goBack 22 = .ok (.aload_n 0, 1) := by decide +kernel
theorem dX9_goBack_23 : decode cX9_goBack 23 = .ok (.getfield 81, 3) := by decide +kernel
theorem dX9_goBack_26 : decode cX9_goBack 26 = .ok (.iconst 1, 1) := by decide +kernel
theorem dX9_goBack_27 : decode cX9_goBack 27 = .ok (.isub, 1) := by decide +kernel
theorem dX9_goBack_28 : decode cX9_goBack 28 = .ok (.istore_n 1, 1) := by decide +kernel
theorem dX9_goBack_29 : decode cX9_goBack 29 = .ok (.iload_n 1, 1) := by decide +kernel
theorem dX9_goBack_30 : decode cX9_goBack 30 = .ok (.ifCond .le 28, 3) := by decide +kernel
theorem dX9_goBack_33 : decode cX9_goBack 33 = .ok (.aload_n 0, 1) := by decide +kernel
theorem dX9_goBack_34 : decode cX9_goBack 34 = .ok (.aload_n 0, 1) := by decide +kernel
theorem dX9_goBack_35 : decode cX9_goBack 35 = .ok (.getfield 38, 3) := by decide +kernel
theorem dX9_goBack_38 : decode cX9_goBack 38 = .ok (.iload_n 1, 1) := by decide +kernel
theorem dX9_goBack_39 : decode cX9_goBack 39 = .ok (.aaload, 1) := by decide +kernel
theorem dX9_goBack_40 : decode cX9_goBack 40 = .ok (.aload_n 0, 1) := by decide +kernel
theorem dX9_goBack_41 : decode cX9_goBack 41 = .ok (.getfield 38, 3) := by decide +kernel
theorem dX9_goBack_44 : decode cX9_goBack 44 = .ok (.iload_n 1, 1) := by decide +kernel
theorem dX9_goBack_45 : decode cX9_goBack 45 = .ok (.iconst 1, 1) := by decide +kernel
theorem dX9_goBack_46 : decode cX9_goBack 46 = .ok (.isub, 1) := by decide +kernel
theorem dX9_goBack_47 : decode cX9_goBack 47 = .ok (.aaload, 1) := by decide +kernel
theorem dX9_goBack_48 : decode cX9_goBack 48 = .ok (.iload_n 1, 1) := by decide +kernel
theorem dX9_goBack_49 : decode cX9_goBack 49 = .ok (.invokevirtual 147, 3) := by decide +kernel
theorem dX9_goBack_52 : decode cX9_goBack 52 = .ok (.iinc 1 (-1), 3) := by decide +kernel
theorem dX9_goBack_55 : decode cX9_goBack 55 = .ok (.goto (-26), 3) := by decide +kernel
theorem dX9_goBack_58 : decode cX9_goBack 58 = .ok (.return_, 1) := by decide +kernel
theorem dX9_retreat_0 : decode cX9_retreat 0 = .ok (.iconst 1, 1) := by decide +kernel
theorem dX9_retreat_1 : decode cX9_retreat 1 = .ok (.aload_n 0, 1) := by decide +kernel
theorem dX9_retreat_2 : decode cX9_retreat 2 = .ok (.getfield 24, 3) := by decide +kernel
theorem dX9_retreat_5 : decode cX9_retreat 5 = .ok (.iload_n 3, 1) := by decide +kernel
theorem dX9_retreat_6 : decode cX9_retreat 6 = .ok (.iaload, 1) := by decide +kernel
theorem dX9_retreat_7 : decode cX9_retreat 7 = .ok (.invokestatic 102, 3) := by decide +kernel
theorem dX9_retreat_10 : decode cX9_retreat 10 = .ok (.istore 4, 2) := by decide +kernel
theorem dX9_retreat_12 : decode cX9_retreat 12 = .ok (.iload 4, 2) := by decide +kernel
theorem dX9_retreat_14 : decode cX9_retreat 14 = .ok (.aload_n 0, 1) := by decide +kernel
theorem dX9_retreat_15 : decode cX9_retreat 15 = .ok (.getfield 27, 3) := by decide +kernel
theorem dX9_retreat_18 : decode cX9_retreat 18 = .ok (.iload_n 3, 1) := by decide +kernel
theorem dX9_retreat_19 : decode cX9_retreat 19 = .ok (.iaload, 1) := by decide +kernel
theorem dX9_retreat_20 : decode cX9_retreat 20 = .ok (.if_icmp .gt 7, 3) := by decide +kernel
theorem dX9_retreat_23 : decode cX9_retreat 23 = .ok (.iconst 1, 1) := by decide +kernel
theorem dX9_retreat_24 : decode cX9_retreat 24 = .ok (.goto 4, 3) := by decide +kernel
theorem dX9_retreat_27 : decode cX9_retreat 27 = .ok (.iconst 0, 1) := by decide +kernel
theorem dX9_retreat_28 : decode cX9_retreat 28 = .ok (.istore 5, 2) := by decide +kernel
theorem dX9_retreat_30 : decode cX9_retreat 30 = .ok (.lconst 0, 1) := by decide +kernel
theorem dX9_retreat_31 : decode cX9_retreat 31 = .ok (.lstore 6, 2) := by decide +kernel
theorem dX9_retreat_33 : decode cX9_retreat 33 = .ok (.bipush 23, 2) := by decide +kernel
theorem dX9_retreat_35 : decode cX9_retreat 35 = .ok (.istore 8, 2) := by decide +kernel
theorem dX9_retreat_37 : decode cX9_retreat 37 = .ok (.iload 8, 2) := by decide +kernel
theorem dX9_retreat_39 : decode cX9_retreat 39 = .ok (.ifCond .lt 166, 3) := by decide +kernel
theorem dX9_retreat_42 : decode cX9_retreat 42 = .ok (.iload 5, 2) := by decide +kernel
theorem dX9_retreat_44 : decode cX9_retreat 44 = .ok (.ifCond .eq 37, 3) := by decide +kernel
theorem dX9_retreat_47 : decode cX9_retreat 47 = .ok (.lload 6, 2) := by decide +kernel
theorem dX9_retreat_49 : decode cX9_retreat 49 = .ok (.aload_n 0, 1) := by decide +kernel
theorem dX9_retreat_50 : decode cX9_retreat 50 = .ok (.aload_n 1, 1) := by decide +kernel
theorem dX9_retreat_51 : decode cX9_retreat 51 = .ok (.iload 8, 2) := by decide +kernel
theorem dX9_retreat_53 : decode cX9_retreat 53 = .ok (.iload 4, 2) := by decide +kernel
theorem dX9_retreat_55 : decode cX9_retreat 55 = .ok (.iadd, 1) := by decide +kernel
theorem dX9_retreat_56 : decode cX9_retreat 56 = .ok (.iload_n 3, 1) := by decide +kernel
theorem dX9_retreat_57 : decode cX9_retreat 57 = .ok (.invokevirtual 151, 3) := by decide +kernel
theorem dX9_retreat_60 : decode cX9_retreat 60 = .ok (.aload_n 0, 1) := by decide +kernel
theorem dX9_retreat_61 : decode cX9_retreat 61 = .ok (.aload_n 1, 1) := by decide +kernel
theorem dX9_retreat_62 : decode cX9_retreat 62 = .ok (.iload 8, 2) := by decide +kernel
theorem dX9_retreat_64 : decode cX9_retreat 64 = .ok (.aload_n 0, 1) := by decide +kernel
theorem dX9_retreat_65 : decode cX9_retreat 65 = .ok (.getfield 27, 3) := by decide +kernel
theorem dX9_retreat_68 : decode cX9_retreat 68 = .ok (.iload_n 3, 1) := by decide +kernel
theorem dX9_retreat_69 : decode cX9_retreat 69 = .ok (.iaload, 1) := by decide +kernel
theorem dX9_retreat_70 : decode cX9_retreat 70 = .ok (.iadd, 1) := by decide +kernel
theorem dX9_retreat_71 : decode cX9_retreat 71 = .ok (.iconst 1, 1) := by decide +kernel
theorem dX9_retreat_72 : decode cX9_retreat 72 = .ok (.iadd, 1) := by decide +kernel
theorem dX9_retreat_73 : decode cX9_retreat 73 = .ok (.iload_n 3, 1) := by decide +kernel
theorem dX9_retreat_74 : decode cX9_retreat 74 = .ok (.invokevirtual 151, 3) := by decide +kernel
theorem dX9_retreat_77 : decode cX9_retreat 77 = .ok (.lsub, 1) := by decide +kernel
theorem dX9_retreat_78 : decode cX9_retreat 78 = .ok (.ladd, 1) := by decide +kernel
theorem dX9_retreat_79 : decode cX9_retreat 79 = .ok (.lstore 6, 2) := by decide +kernel
theorem dX9_retreat_81 : decode cX9_retreat 81 = .ok (.aload_n 0, 1) := by decide +kernel
theorem dX9_retreat_82 : decode cX9_retreat 82 = .ok (.getfield 24, 3) := by decide +kernel
theorem dX9_retreat_85 : decode cX9_retreat 85 = .ok (.iload_n 3, 1) := by decide +kernel
theorem dX9_retreat_86 : decode cX9_retreat 86 = .ok (.iaload, 1) := by decide +kernel
theorem dX9_retreat_87 : decode cX9_retreat 87 = .ok (.ifCond .ne 27, 3) := by decide +kernel
theorem dX9_retreat_90 : decode cX9_retreat 90 = .ok (.iload 8, 2) := by decide +kernel
theorem dX9_retreat_92 : decode cX9_retreat 92 = .ok (.aload_n 0, 1) := by decide +kernel
theorem dX9_retreat_93 : decode cX9_retreat 93 = .ok (.getfield 18, 3) := by decide +kernel
theorem dX9_retreat_96 : decode cX9_retreat 96 = .ok (.iload_n 3, 1) := by decide +kernel
theorem dX9_retreat_97 : decode cX9_retreat 97 = .ok (.iaload, 1) := by decide +kernel
theorem dX9_retreat_98 : decode cX9_retreat 98 = .ok (.aload_n 0, 1) := by decide +kernel
theorem dX9_retreat_99 : decode cX9_retreat 99 = .ok (.getfield 21, 3) := by decide +kernel
theorem dX9_retreat_102 : decode cX9_retreat 102 = .ok (.iload_n 3, 1) := by decide +kernel
theorem dX9_retreat_103 : decode cX9_retreat 103 = .ok (.iaload, 1) := by decide +kernel
theorem dX9_retreat_104 : decode cX9_retreat 104 = .ok (.invokestatic 154, 3) := by decide +kernel
theorem dX9_retreat_107 : decode cX9_retreat 107 = .ok (.ifCond .eq 7, 3) := by decide +kernel
theorem dX9_retreat_110 : decode cX9_retreat 110 = .ok (.iconst 1, 1) := by decide +kernel
theorem dX9_retreat_111 : decode cX9_retreat 111 = .ok (.goto 4, 3) := by decide +kernel
theorem dX9_retreat_114 : decode cX9_retreat 114 = .ok (.iconst 0, 1) := by decide +kernel
theorem dX9_retreat_115 : decode cX9_retreat 115 = .ok (.istore 9, 2) := by decide +kernel
theorem dX9_retreat_117 : decode cX9_retreat 117 = .ok (.iconst 0, 1) := by decide +kernel
theorem dX9_retreat_118 : decode cX9_retreat 118 = .ok (.istore 10, 2) := by decide +kernel
theorem dX9_retreat_120 : decode cX9_retreat 120 = .ok (.iload 10, 2) := by decide +kernel
theorem dX9_retreat_122 : decode cX9_retreat 122 = .ok (.aload_n 0, 1) := by decide +kernel
theorem dX9_retreat_123 : decode cX9_retreat 123 = .ok (.getfield 60, 3) := by decide +kernel
theorem dX9_retreat_126 : decode cX9_retreat 126 = .ok (.if_icmp .ge 73, 3) := by decide +kernel
theorem dX9_retreat_129 : decode cX9_retreat 129 = .ok (.iload 8, 2) := by decide +kernel
theorem dX9_retreat_131 : decode cX9_retreat 131 = .ok (.iconst 4, 1) := by decide +kernel
theorem dX9_retreat_132 : decode cX9_retreat 132 = .ok (.imul, 1) := by decide +kernel
theorem dX9_retreat_133 : decode cX9_retreat 133 = .ok (.iload 10, 2) := by decide +kernel
theorem dX9_retreat_135 : decode cX9_retreat 135 = .ok (.iadd, 1) := by decide +kernel
theorem dX9_retreat_136 : decode cX9_retreat 136 = .ok (.istore 11, 2) := by decide +kernel
theorem dX9_retreat_138 : decode cX9_retreat 138 = .ok (.iload 10, 2) := by decide +kernel
theorem dX9_retreat_140 : decode cX9_retreat 140 = .ok (.iconst 1, 1) := by decide +kernel
theorem dX9_retreat_141 : decode cX9_retreat 141 = .ok (.iadd, 1) := by decide +kernel
theorem dX9_retreat_142 : decode cX9_retreat 142 = .ok (.aload_n 0, 1) := by decide +kernel
theorem dX9_retreat_143 : decode cX9_retreat 143 = .ok (.getfield 30, 3) := by decide +kernel
theorem dX9_retreat_146 : decode cX9_retreat 146 = .ok (.iload_n 3, 1) := by decide +kernel
theorem dX9_retreat_147 : decode cX9_retreat 147 = .ok (.iaload, 1) := by decide +kernel
theorem dX9_retreat_148 : decode cX9_retreat 148 = .ok (.if_icmp .lt 8, 3) := by decide +kernel
theorem dX9_retreat_151 : decode cX9_retreat 151 = .ok (.lload 6, 2) := by decide +kernel
theorem dX9_retreat_153 : decode cX9_retreat 153 = .ok (.goto 4, 3) := by decide +kernel
theorem dX9_retreat_156 : decode cX9_retreat 156 = .ok (.lconst 0, 1) := by decide +kernel
theorem dX9_retreat_157 : decode cX9_retreat 157 = .ok (.lstore 12, 2) := by decide +kernel
theorem dX9_retreat_159 : decode cX9_retreat 159 = .ok (.aload_n 2, 1) := by decide +kernel
theorem dX9_retreat_160 : decode cX9_retreat 160 = .ok (.iload 11, 2) := by decide +kernel
theorem dX9_retreat_162 : decode cX9_retreat 162 = .ok (.iload 9, 2) := by decide +kernel
theorem dX9_retreat_164 : decode cX9_retreat 164 = .ok (.ifCond .eq 26, 3) := by decide +kernel
theorem dX9_retreat_167 : decode cX9_retreat 167 = .ok (.iload 10, 2) := by decide +kernel
theorem dX9_retreat_169 : decode cX9_retreat 169 = .ok (.iconst 1, 1) := by decide +kernel
theorem dX9_retreat_170 : decode cX9_retreat 170 = .ok (.iadd, 1) := by decide +kernel
theorem dX9_retreat_171 : decode cX9_retreat 171 = .ok (.aload_n 0, 1) := by decide +kernel
theorem dX9_retreat_172 : decode cX9_retreat 172 = .ok (.getfield 60, 3) := by decide +kernel
theorem dX9_retreat_175 : decode cX9_retreat 175 = .ok (.if_icmp .ge 15, 3) := by decide +kernel
theorem dX9_retreat_178 : decode cX9_retreat 178 = .ok (.lload 12, 2) := by decide +kernel
theorem dX9_retreat_180 : decode cX9_retreat 180 = .ok (.aload_n 1, 1) := by decide +kernel
theorem dX9_retreat_181 : decode cX9_retreat 181 = .ok (.iload 11, 2) := by decide +kernel
theorem dX9_retreat_183 : decode cX9_retreat 183 = .ok (.iconst 1, 1) := by decide +kernel
theorem dX9_retreat_184 : decode cX9_retreat 184 = .ok (.iadd, 1) := by decide +kernel
theorem dX9_retreat_185 : decode cX9_retreat 185 = .ok (.laload, 1) := by decide +kernel
theorem dX9_retreat_186 : decode cX9_retreat 186 = .ok (.ladd, 1) := by decide +kernel
theorem dX9_retreat_187 : decode cX9_retreat 187 = .ok (.goto 5, 3) := by decide +kernel
theorem dX9_retreat_190 : decode cX9_retreat 190 = .ok (.lload 12, 2) := by decide +kernel
theorem dX9_retreat_192 : decode cX9_retreat 192 = .ok (.lastore, 1) := by decide +kernel
theorem dX9_retreat_193 : decode cX9_retreat 193 = .ok (.iinc 10 1, 3) := by decide +kernel
theorem dX9_retreat_196 : decode cX9_retreat 196 = .ok (.goto (-76), 3) := by decide +kernel
theorem dX9_retreat_199 : decode cX9_retreat 199 = .ok (.iinc 8 (-1), 3) := by decide +kernel
theorem dX9_retreat_202 : decode cX9_retreat 202 = .ok (.goto (-165), 3) := by decide +kernel
theorem dX9_retreat_205 : decode cX9_retreat 205 = .ok (.return_, 1) := by decide +kernel
theorem dX9_arriving_0 : decode cX9_arriving 0 = .ok (.iload_n 2, 1) := by decide +kernel
theorem dX9_arriving_1 : decode cX9_arriving 1 = .ok (.aload_n 0, 1) := by decide +kernel
theorem dX9_arriving_2 : decode cX9_arriving 2 = .ok (.getfield 18, 3) := by decide +kernel
theorem dX9_arriving_5 : decode cX9_arriving 5 = .ok (.iload_n 3, 1) := by decide +kernel
theorem dX9_arriving_6 : decode cX9_arriving 6 = .ok (.iaload, 1) := by decide +kernel
theorem dX9_arriving_7 : decode cX9_arriving 7 = .ok (.aload_n 0, 1) := by decide +kernel
theorem dX9_arriving_8 : decode cX9_arriving 8 = .ok (.getfield 21, 3) := by decide +kernel
theorem dX9_arriving_11 : decode cX9_arriving 11 = .ok (.iload_n 3, 1) := by decide +kernel
theorem dX9_arriving_12 : decode cX9_arriving 12 = .ok (.iaload, 1) := by decide +kernel
theorem dX9_arriving_13 : decode cX9_arriving 13 = .ok (.invokestatic 154, 3) := by decide +kernel
theorem dX9_arriving_16 : decode cX9_arriving 16 = .ok (.ifCond .eq 11, 3) := by decide +kernel
theorem dX9_arriving_19 : decode cX9_arriving 19 = .ok (.aload_n 1, 1) := by decide +kernel
theorem dX9_arriving_20 : decode cX9_arriving 20 = .ok (.iload_n 2, 1) := by decide +kernel
theorem dX9_arriving_21 : decode cX9_arriving 21 = .ok (.iconst 4, 1) := by decide +kernel
theorem dX9_arriving_22 : decode cX9_arriving 22 = .ok (.imul, 1) := by decide +kernel
theorem dX9_arriving_23 : decode cX9_arriving 23 = .ok (.laload, 1) := by decide +kernel
theorem dX9_arriving_24 : decode cX9_arriving 24 = .ok (.goto 4, 3) := by decide +kernel
theorem dX9_arriving_27 : decode cX9_arriving 27 = .ok (.lconst 0, 1) := by decide +kernel
theorem dX9_arriving_28 : decode cX9_arriving 28 = .ok (.lreturn, 1) := by decide +kernel
theorem dX9_tally_0 : decode cX9_tally 0 = .ok (.aload_n 0, 1) := by decide +kernel
theorem dX9_tally_1 : decode cX9_tally 1 = .ok (.aload_n 0, 1) := by decide +kernel
theorem dX9_tally_2 : decode cX9_tally 2 = .ok (.getfield 35, 3) := by decide +kernel
theorem dX9_tally_5 : decode cX9_tally 5 = .ok (.iload_n 1, 1) := by decide +kernel
theorem dX9_tally_6 : decode cX9_tally 6 = .ok (.aaload, 1) := by decide +kernel
theorem dX9_tally_7 : decode cX9_tally 7 = .ok (.iload_n 1, 1) := by decide +kernel
theorem dX9_tally_8 : decode cX9_tally 8 = .ok (.iload_n 2, 1) := by decide +kernel
theorem dX9_tally_9 : decode cX9_tally 9 = .ok (.invokevirtual 158, 3) := by decide +kernel
theorem dX9_tally_12 : decode cX9_tally 12 = .ok (.lreturn, 1) := by decide +kernel
theorem dX9_meeting_0 : decode cX9_meeting 0 = .ok (.lconst 0, 1) := by decide +kernel
theorem dX9_meeting_1 : decode cX9_meeting 1 = .ok (.lstore 4, 2) := by decide +kernel
theorem dX9_meeting_3 : decode cX9_meeting 3 = .ok (.iconst 0, 1) := by decide +kernel
theorem dX9_meeting_4 : decode cX9_meeting 4 = .ok (.istore 6, 2) := by decide +kernel
theorem dX9_meeting_6 : decode cX9_meeting 6 = .ok (.iload 6, 2) := by decide +kernel
theorem dX9_meeting_8 : decode cX9_meeting 8 = .ok (.aload_n 0, 1) := by decide +kernel
theorem dX9_meeting_9 : decode cX9_meeting 9 = .ok (.getfield 60, 3) := by decide +kernel
theorem dX9_meeting_12 : decode cX9_meeting 12 = .ok (.if_icmp .ge 36, 3) := by decide +kernel
theorem dX9_meeting_15 : decode cX9_meeting 15 = .ok (.lload 4, 2) := by decide +kernel
theorem dX9_meeting_17 : decode cX9_meeting 17 = .ok (.aload_n 1, 1) := by decide +kernel
theorem dX9_meeting_18 : decode cX9_meeting 18 = .ok (.iload_n 3, 1) := by decide +kernel
theorem dX9_meeting_19 : decode cX9_meeting 19 = .ok (.iconst 4, 1) := by decide +kernel
theorem dX9_meeting_20 : decode cX9_meeting 20 = .ok (.imul, 1) := by decide +kernel
theorem dX9_meeting_21 : decode cX9_meeting 21 = .ok (.iload 6, 2) := by decide +kernel
theorem dX9_meeting_23 : decode cX9_meeting 23 = .ok (.iadd, 1) := by decide +kernel
theorem dX9_meeting_24 : decode cX9_meeting 24 = .ok (.laload, 1) := by decide +kernel
theorem dX9_meeting_25 : decode cX9_meeting 25 = .ok (.aload_n 0, 1) := by decide +kernel
theorem dX9_meeting_26 : decode cX9_meeting 26 = .ok (.getfield 38, 3) := by decide +kernel
theorem dX9_meeting_29 : decode cX9_meeting 29 = .ok (.iload_n 2, 1) := by decide +kernel
theorem dX9_meeting_30 : decode cX9_meeting 30 = .ok (.aaload, 1) := by decide +kernel
theorem dX9_meeting_31 : decode cX9_meeting 31 = .ok (.iload_n 3, 1) := by decide +kernel
theorem dX9_meeting_32 : decode cX9_meeting 32 = .ok (.iconst 4, 1) := by decide +kernel
theorem dX9_meeting_33 : decode cX9_meeting 33 = .ok (.imul, 1) := by decide +kernel
theorem dX9_meeting_34 : decode cX9_meeting 34 = .ok (.iload 6, 2) := by decide +kernel
theorem dX9_meeting_36 : decode cX9_meeting 36 = .ok (.iadd, 1) := by decide +kernel
theorem dX9_meeting_37 : decode cX9_meeting 37 = .ok (.laload, 1) := by decide +kernel
theorem dX9_meeting_38 : decode cX9_meeting 38 = .ok (.lmul, 1) := by decide +kernel
theorem dX9_meeting_39 : decode cX9_meeting 39 = .ok (.ladd, 1) := by decide +kernel
theorem dX9_meeting_40 : decode cX9_meeting 40 = .ok (.lstore 4, 2) := by decide +kernel
theorem dX9_meeting_42 : decode cX9_meeting 42 = .ok (.iinc 6 1, 3) := by decide +kernel
theorem dX9_meeting_45 : decode cX9_meeting 45 = .ok (.goto (-39), 3) := by decide +kernel
theorem dX9_meeting_48 : decode cX9_meeting 48 = .ok (.lload 4, 2) := by decide +kernel
theorem dX9_meeting_50 : decode cX9_meeting 50 = .ok (.lreturn, 1) := by decide +kernel
theorem dX9_worst_0 : decode cX9_worst 0 = .ok (.lconst 0, 1) := by decide +kernel
theorem dX9_worst_1 : decode cX9_worst 1 = .ok (.lstore_n 2, 1) := by decide +kernel
theorem dX9_worst_2 : decode cX9_worst 2 = .ok (.iconst 0, 1) := by decide +kernel
theorem dX9_worst_3 : decode cX9_worst 3 = .ok (.istore 4, 2) := by decide +kernel
theorem dX9_worst_5 : decode cX9_worst 5 = .ok (.iload 4, 2) := by decide +kernel
theorem dX9_worst_7 : decode cX9_worst 7 = .ok (.bipush 24, 2) := by decide +kernel
theorem dX9_worst_9 : decode cX9_worst 9 = .ok (.if_icmp .ge 21, 3) := by decide +kernel
theorem dX9_worst_12 : decode cX9_worst 12 = .ok (.lload_n 2, 1) := by decide +kernel
theorem dX9_worst_13 : decode cX9_worst 13 = .ok (.aload_n 0, 1) := by decide +kernel
theorem dX9_worst_14 : decode cX9_worst 14 = .ok (.iload_n 1, 1) := by decide +kernel
theorem dX9_worst_15 : decode cX9_worst 15 = .ok (.iload 4, 2) := by decide +kernel
theorem dX9_worst_17 : decode cX9_worst 17 = .ok (.invokevirtual 161, 3) := by decide +kernel
theorem dX9_worst_20 : decode cX9_worst 20 = .ok (.invokestatic 165, 3) := by decide +kernel
theorem dX9_worst_23 : decode cX9_worst 23 = .ok (.lstore_n 2, 1) := by decide +kernel
theorem dX9_worst_24 : decode cX9_worst 24 = .ok (.iinc 4 1, 3) := by decide +kernel
theorem dX9_worst_27 : decode cX9_worst 27 = .ok (.goto (-22), 3) := by decide +kernel
theorem dX9_worst_30 : decode cX9_worst 30 = .ok (.lload_n 2, 1) := by decide +kernel
theorem dX9_worst_31 : decode cX9_worst 31 = .ok (.lreturn, 1) := by decide +kernel
theorem dX9_endOf_0 : decode cX9_endOf 0 = .ok (.iconst 0, 1) := by decide +kernel
theorem dX9_endOf_1 : decode cX9_endOf 1 = .ok (.istore_n 3, 1) := by decide +kernel
theorem dX9_endOf_2 : decode cX9_endOf 2 = .ok (.iconst 0, 1) := by decide +kernel
theorem dX9_endOf_3 : decode cX9_endOf 3 = .ok (.istore 4, 2) := by decide +kernel
theorem dX9_endOf_5 : decode cX9_endOf 5 = .ok (.iload 4, 2) := by decide +kernel
theorem dX9_endOf_7 : decode cX9_endOf 7 = .ok (.bipush 24, 2) := by decide +kernel
theorem dX9_endOf_9 : decode cX9_endOf 9 = .ok (.if_icmp .ge 40, 3) := by decide +kernel
theorem dX9_endOf_12 : decode cX9_endOf 12 = .ok (.iload_n 2, 1) := by decide +kernel
theorem dX9_endOf_13 : decode cX9_endOf 13 = .ok (.ifCond .ne 11, 3) := by decide +kernel
theorem dX9_endOf_16 : decode cX9_endOf 16 = .ok (.bipush 23, 2) := by decide +kernel
theorem dX9_endOf_18 : decode cX9_endOf 18 = .ok (.iload 4, 2) := by decide +kernel
theorem dX9_endOf_20 : decode cX9_endOf 20 = .ok (.isub, 1) := by decide +kernel
theorem dX9_endOf_21 : decode cX9_endOf 21 = .ok (.goto 5, 3) := by decide +kernel
theorem dX9_endOf_24 : decode cX9_endOf 24 = .ok (.iload 4, 2) := by decide +kernel
theorem dX9_endOf_26 : decode cX9_endOf 26 = .ok (.istore 5, 2) := by decide +kernel
theorem dX9_endOf_28 : decode cX9_endOf 28 = .ok (.aload_n 0, 1) := by decide +kernel
theorem dX9_endOf_29 : decode cX9_endOf 29 = .ok (.iload_n 1, 1) := by decide +kernel
theorem dX9_endOf_30 : decode cX9_endOf 30 = .ok (.iload 5, 2) := by decide +kernel
theorem dX9_endOf_32 : decode cX9_endOf 32 = .ok (.invokevirtual 161, 3) := by decide +kernel
theorem dX9_endOf_35 : decode cX9_endOf 35 = .ok (.lconst 0, 1) := by decide +kernel
theorem dX9_endOf_36 : decode cX9_endOf 36 = .ok (.lcmp, 1) := by decide +kernel
theorem dX9_endOf_37 : decode cX9_endOf 37 = .ok (.ifCond .le 6, 3) := by decide +kernel
theorem dX9_endOf_40 : decode cX9_endOf 40 = .ok (.iload 5, 2) := by decide +kernel
theorem dX9_endOf_42 : decode cX9_endOf 42 = .ok (.istore_n 3, 1) := by decide +kernel
theorem dX9_endOf_43 : decode cX9_endOf 43 = .ok (.iinc 4 1, 3) := by decide +kernel
theorem dX9_endOf_46 : decode cX9_endOf 46 = .ok (.goto (-41), 3) := by decide +kernel
theorem dX9_endOf_49 : decode cX9_endOf 49 = .ok (.iload_n 3, 1) := by decide +kernel
theorem dX9_endOf_50 : decode cX9_endOf 50 = .ok (.ireturn, 1) := by decide +kernel
theorem dX9_measure_0 : decode cX9_measure 0 = .ok (.aload_n 0, 1) := by decide +kernel
theorem dX9_measure_1 : decode cX9_measure 1 = .ok (.getfield 41, 3) := by decide +kernel
theorem dX9_measure_4 : decode cX9_measure 4 = .ok (.lconst 0, 1) := by decide +kernel
theorem dX9_measure_5 : decode cX9_measure 5 = .ok (.invokestatic 125, 3) := by decide +kernel
theorem dX9_measure_8 : decode cX9_measure 8 = .ok (.aload_n 0, 1) := by decide +kernel
theorem dX9_measure_9 : decode cX9_measure 9 = .ok (.getfield 18, 3) := by decide +kernel
theorem dX9_measure_12 : decode cX9_measure 12 = .ok (.iload_n 1, 1) := by decide +kernel
theorem dX9_measure_13 : decode cX9_measure 13 = .ok (.iaload, 1) := by decide +kernel
theorem dX9_measure_14 : decode cX9_measure 14 = .ok (.istore_n 3, 1) := by decide +kernel
theorem dX9_measure_15 : decode cX9_measure 15 = .ok (.iload_n 3, 1) := by decide +kernel
theorem dX9_measure_16 : decode cX9_measure 16 = .ok (.aload_n 0, 1) := by decide +kernel
theorem dX9_measure_17 : decode cX9_measure 17 = .ok (.getfield 21, 3) := by decide +kernel
theorem dX9_measure_20 : decode cX9_measure 20 = .ok (.iload_n 1, 1) := by decide +kernel
theorem dX9_measure_21 : decode cX9_measure 21 = .ok (.iaload, 1) := by decide +kernel
theorem dX9_measure_22 : decode cX9_measure 22 = .ok (.if_icmp .gt 16, 3) := by decide +kernel
theorem dX9_measure_25 : decode cX9_measure 25 = .ok (.aload_n 0, 1) := by decide +kernel
theorem dX9_measure_26 : decode cX9_measure 26 = .ok (.iload_n 1, 1) := by decide +kernel
theorem dX9_measure_27 : decode cX9_measure 27 = .ok (.iload_n 2, 1) := by decide +kernel
theorem dX9_measure_28 : decode cX9_measure 28 = .ok (.iload_n 3, 1) := by decide +kernel
theorem dX9_measure_29 : decode cX9_measure 29 = .ok (.invokevirtual 168, 3) := by decide +kernel
theorem dX9_measure_32 : decode cX9_measure 32 = .ok (.iinc 3 1, 3) := by decide +kernel
theorem dX9_measure_35 : decode cX9_measure 35 = .ok (.goto (-20), 3) := by decide +kernel
theorem dX9_measure_38 : decode cX9_measure 38 = .ok (.return_, 1) := by decide +kernel
theorem dX9_measureFrom_0 : decode cX9_measureFrom 0 = .ok (.aload_n 0, 1) := by decide +kernel
theorem dX9_measureFrom_1 : decode cX9_measureFrom 1 = .ok (.getfield 48, 3) := by decide +kernel
theorem dX9_measureFrom_4 : decode cX9_measureFrom 4 = .ok (.astore 4, 2) := by decide +kernel
theorem dX9_measureFrom_6 : decode cX9_measureFrom 6 = .ok (.aload_n 0, 1) := by decide +kernel
theorem dX9_measureFrom_7 : decode cX9_measureFrom 7 = .ok (.getfield 51, 3) := by decide +kernel
theorem dX9_measureFrom_10 : decode cX9_measureFrom 10 = .ok (.astore 5, 2) := by decide +kernel
theorem dX9_measureFrom_12 : decode cX9_measureFrom 12 = .ok (.aload 4, 2) := by decide +kernel
theorem dX9_measureFrom_14 : decode cX9_measureFrom 14 = .ok (.lconst 0, 1) := by decide +kernel
theorem dX9_measureFrom_15 : decode cX9_measureFrom 15 = .ok (.invokestatic 125, 3) := by decide +kernel
theorem dX9_measureFrom_18 : decode cX9_measureFrom 18 = .ok (.iconst 0, 1) := by decide +kernel
theorem dX9_measureFrom_19 : decode cX9_measureFrom 19 = .ok (.istore 6, 2) := by decide +kernel
theorem dX9_measureFrom_21 : decode cX9_measureFrom 21 = .ok (.iload 6, 2) := by decide +kernel
theorem dX9_measureFrom_23 : decode cX9_measureFrom 23 = .ok (.aload_n 0, 1) := by decide +kernel
theorem dX9_measureFrom_24 : decode cX9_measureFrom 24 = .ok (.getfield 60, 3) := by decide +kernel
theorem dX9_measureFrom_27 : decode cX9_measureFrom 27 = .ok (.if_icmp .ge 31, 3) := by decide +kernel
theorem dX9_measureFrom_30 : decode cX9_measureFrom 30 = .ok (.aload 4, 2) := by decide +kernel
theorem dX9_measureFrom_32 : decode cX9_measureFrom 32 = .ok (.iload_n 3, 1) := by decide +kernel
theorem dX9_measureFrom_33 : decode cX9_measureFrom 33 = .ok (.iconst 4, 1) := by decide +kernel
theorem dX9_measureFrom_34 : decode cX9_measureFrom 34 = .ok (.imul, 1) := by decide +kernel
theorem dX9_measureFrom_35 : decode cX9_measureFrom 35 = .ok (.iload 6, 2) := by decide +kernel
theorem dX9_measureFrom_37 : decode cX9_measureFrom 37 = .ok (.iadd, 1) := by decide +kernel
theorem dX9_measureFrom_38 : decode cX9_measureFrom 38 = .ok (.aload_n 0, 1) := by decide +kernel
theorem dX9_measureFrom_39 : decode cX9_measureFrom 39 = .ok (.getfield 35, 3) := by decide +kernel
theorem dX9_measureFrom_42 : decode cX9_measureFrom 42 = .ok (.iload_n 1, 1) := by decide +kernel
theorem dX9_measureFrom_43 : decode cX9_measureFrom 43 = .ok (.aaload, 1) := by decide +kernel
theorem dX9_measureFrom_44 : decode cX9_measureFrom 44 = .ok (.iload_n 3, 1) := by decide +kernel
theorem dX9_measureFrom_45 : decode cX9_measureFrom 45 = .ok (.iconst 4, 1) := by decide +kernel
theorem dX9_measureFrom_46 : decode cX9_measureFrom 46 = .ok (.imul, 1) := by decide +kernel
theorem dX9_measureFrom_47 : decode cX9_measureFrom 47 = .ok (.iload 6, 2) := by decide +kernel
theorem dX9_measureFrom_49 : decode cX9_measureFrom 49 = .ok (.iadd, 1) := by decide +kernel
theorem dX9_measureFrom_50 : decode cX9_measureFrom 50 = .ok (.laload, 1) := by decide +kernel
theorem dX9_measureFrom_51 : decode cX9_measureFrom 51 = .ok (.lastore, 1) := by decide +kernel
theorem dX9_measureFrom_52 : decode cX9_measureFrom 52 = .ok (.iinc 6 1, 3) := by decide +kernel
theorem dX9_measureFrom_55 : decode cX9_measureFrom 55 = .ok (.goto (-34), 3) := by decide +kernel
theorem dX9_measureFrom_58 : decode cX9_measureFrom 58 = .ok (.iload_n 1, 1) := by decide +kernel
theorem dX9_measureFrom_59 : decode cX9_measureFrom 59 = .ok (.iconst 1, 1) := by decide +kernel
theorem dX9_measureFrom_60 : decode cX9_measureFrom 60 = .ok (.iadd, 1) := by decide +kernel
theorem dX9_measureFrom_61 : decode cX9_measureFrom 61 = .ok (.istore 6, 2) := by decide +kernel
theorem dX9_measureFrom_63 : decode cX9_measureFrom 63 = .ok (.iload 6, 2) := by decide +kernel
theorem dX9_measureFrom_65 : decode cX9_measureFrom 65 = .ok (.iload_n 2, 1) := by decide +kernel
theorem dX9_measureFrom_66 : decode cX9_measureFrom 66 = .ok (.if_icmp .gt 41, 3) := by decide +kernel
theorem dX9_measureFrom_69 : decode cX9_measureFrom 69 = .ok (.aload 5, 2) := by decide +kernel
theorem dX9_measureFrom_71 : decode cX9_measureFrom 71 = .ok (.lconst 0, 1) := by decide +kernel
theorem dX9_measureFrom_72 : decode cX9_measureFrom 72 = .ok (.invokestatic 125, 3) := by decide +kernel
theorem dX9_measureFrom_75 : decode cX9_measureFrom 75 = .ok (.aload_n 0, 1) := by decide +kernel
theorem dX9_measureFrom_76 : decode cX9_measureFrom 76 = .ok (.aload 4, 2) := by decide +kernel
theorem dX9_measureFrom_78 : decode cX9_measureFrom 78 = .ok (.aload 5, 2) := by decide +kernel
theorem dX9_measureFrom_80 : decode cX9_measureFrom 80 = .ok (.iload 6, 2) := by decide +kernel
theorem dX9_measureFrom_82 : decode cX9_measureFrom 82 = .ok (.aload_n 0, 1) := by decide +kernel
theorem dX9_measureFrom_83 : decode cX9_measureFrom 83 = .ok (.getfield 45, 3) := by decide +kernel
theorem dX9_measureFrom_86 : decode cX9_measureFrom 86 = .ok (.invokevirtual 135, 3) := by decide +kernel
theorem dX9_measureFrom_89 : decode cX9_measureFrom 89 = .ok (.aload 4, 2) := by decide +kernel
theorem dX9_measureFrom_91 : decode cX9_measureFrom 91 = .ok (.astore 7, 2) := by decide +kernel
theorem dX9_measureFrom_93 : decode cX9_measureFrom 93 = .ok (.aload 5, 2) := by decide +kernel
theorem dX9_measureFrom_95 : decode cX9_measureFrom 95 = .ok (.astore 4, 2) := by decide +kernel
theorem dX9_measureFrom_97 : decode cX9_measureFrom 97 = .ok (.aload 7, 2) := by decide +kernel
theorem dX9_measureFrom_99 : decode cX9_measureFrom 99 = .ok (.astore 5, 2) := by decide +kernel
theorem dX9_measureFrom_101 : decode cX9_measureFrom 101 = .ok (.iinc 6 1, 3) := by decide +kernel
theorem dX9_measureFrom_104 : decode cX9_measureFrom 104 = .ok (.goto (-41), 3) := by decide +kernel
theorem dX9_measureFrom_107 : decode cX9_measureFrom 107 = .ok (.iload_n 3, 1) := by decide +kernel
theorem dX9_measureFrom_108 : decode cX9_measureFrom 108 = .ok (.istore 6, 2) := by decide +kernel
theorem dX9_measureFrom_110 : decode cX9_measureFrom 110 = .ok (.iload 6, 2) := by decide +kernel
theorem dX9_measureFrom_112 : decode cX9_measureFrom 112 = .ok (.bipush 24, 2) := by decide +kernel
theorem dX9_measureFrom_114 : decode cX9_measureFrom 114 = .ok (.if_icmp .ge 30, 3) := by decide +kernel
theorem dX9_measureFrom_117 : decode cX9_measureFrom 117 = .ok (.aload_n 0, 1) := by decide +kernel
theorem dX9_measureFrom_118 : decode cX9_measureFrom 118 = .ok (.getfield 41, 3) := by decide +kernel
theorem dX9_measureFrom_121 : decode cX9_measureFrom 121 = .ok (.iload 6, 2) := by decide +kernel
theorem dX9_measureFrom_123 : decode cX9_measureFrom 123 = .ok (.iload_n 3, 1) := by decide +kernel
theorem dX9_measureFrom_124 : decode cX9_measureFrom 124 = .ok (.isub, 1) := by decide +kernel
theorem dX9_measureFrom_125 : decode cX9_measureFrom 125 = .ok (.dup2, 1) := by decide +kernel
theorem dX9_measureFrom_126 : decode cX9_measureFrom 126 = .ok (.laload, 1) := by decide +kernel
theorem dX9_measureFrom_127 : decode cX9_measureFrom 127 = .ok (.aload_n 0, 1) := by decide +kernel
theorem dX9_measureFrom_128 : decode cX9_measureFrom 128 = .ok (.aload 4, 2) := by decide +kernel
theorem dX9_measureFrom_130 : decode cX9_measureFrom 130 = .ok (.iload_n 2, 1) := by decide +kernel
theorem dX9_measureFrom_131 : decode cX9_measureFrom 131 = .ok (.iload 6, 2) := by decide +kernel
theorem dX9_measureFrom_133 : decode cX9_measureFrom 133 = .ok (.invokevirtual 158, 3) := by decide +kernel
theorem dX9_measureFrom_136 : decode cX9_measureFrom 136 = .ok (.ladd, 1) := by decide +kernel
theorem dX9_measureFrom_137 : decode cX9_measureFrom 137 = .ok (.lastore, 1) := by decide +kernel
theorem dX9_measureFrom_138 : decode cX9_measureFrom 138 = .ok (.iinc 6 1, 3) := by decide +kernel
theorem dX9_measureFrom_141 : decode cX9_measureFrom 141 = .ok (.goto (-31), 3) := by decide +kernel
theorem dX9_measureFrom_144 : decode cX9_measureFrom 144 = .ok (.return_, 1) := by decide +kernel
theorem dX9_distanceEnd_0 : decode cX9_distanceEnd 0 = .ok (.iconst 0, 1) := by decide +kernel
theorem dX9_distanceEnd_1 : decode cX9_distanceEnd 1 = .ok (.istore_n 2, 1) := by decide +kernel
theorem dX9_distanceEnd_2 : decode cX9_distanceEnd 2 = .ok (.iconst 0, 1) := by decide +kernel
theorem dX9_distanceEnd_3 : decode cX9_distanceEnd 3 = .ok (.istore_n 3, 1) := by decide +kernel
theorem dX9_distanceEnd_4 : decode cX9_distanceEnd 4 = .ok (.iload_n 3, 1) := by decide +kernel
theorem dX9_distanceEnd_5 : decode cX9_distanceEnd 5 = .ok (.bipush 24, 2) := by decide +kernel
theorem dX9_distanceEnd_7 : decode cX9_distanceEnd 7 = .ok (.if_icmp .ge 38, 3) := by decide +kernel
theorem dX9_distanceEnd_10 : decode cX9_distanceEnd 10 = .ok (.iload_n 1, 1) := by decide +kernel
theorem dX9_distanceEnd_11 : decode cX9_distanceEnd 11 = .ok (.ifCond .ne 10, 3) := by decide +kernel
theorem dX9_distanceEnd_14 : decode cX9_distanceEnd 14 = .ok (.bipush 23, 2) := by decide +kernel
theorem dX9_distanceEnd_16 : decode cX9_distanceEnd 16 = .ok (.iload_n 3, 1) := by decide +kernel
theorem dX9_distanceEnd_17 : decode cX9_distanceEnd 17 = .ok (.isub, 1) := by decide +kernel
theorem dX9_distanceEnd_18 : decode cX9_distanceEnd 18 = .ok (.goto 4, 3) := by decide +kernel
theorem dX9_distanceEnd_21 : decode cX9_distanceEnd 21 = .ok (.iload_n 3, 1) := by decide +kernel
theorem dX9_distanceEnd_22 : decode cX9_distanceEnd 22 = .ok (.istore 4, 2) := by decide +kernel
theorem dX9_distanceEnd_24 : decode cX9_distanceEnd 24 = .ok (.aload_n 0, 1) := by decide +kernel
theorem dX9_distanceEnd_25 : decode cX9_distanceEnd 25 = .ok (.getfield 41, 3) := by decide +kernel
theorem dX9_distanceEnd_28 : decode cX9_distanceEnd 28 = .ok (.iload 4, 2) := by decide +kernel
theorem dX9_distanceEnd_30 : decode cX9_distanceEnd 30 = .ok (.laload, 1) := by decide +kernel
theorem dX9_distanceEnd_31 : decode cX9_distanceEnd 31 = .ok (.lconst 0, 1) := by decide +kernel
theorem dX9_distanceEnd_32 : decode cX9_distanceEnd 32 = .ok (.lcmp, 1) := by decide +kernel
theorem dX9_distanceEnd_33 : decode cX9_distanceEnd 33 = .ok (.ifCond .le 6, 3) := by decide +kernel
theorem dX9_distanceEnd_36 : decode cX9_distanceEnd 36 = .ok (.iload 4, 2) := by decide +kernel
theorem dX9_distanceEnd_38 : decode cX9_distanceEnd 38 = .ok (.istore_n 2, 1) := by decide +kernel
theorem dX9_distanceEnd_39 : decode cX9_distanceEnd 39 = .ok (.iinc 3 1, 3) := by decide +kernel
theorem dX9_distanceEnd_42 : decode cX9_distanceEnd 42 = .ok (.goto (-38), 3) := by decide +kernel
theorem dX9_distanceEnd_45 : decode cX9_distanceEnd 45 = .ok (.iload_n 2, 1) := by decide +kernel
theorem dX9_distanceEnd_46 : decode cX9_distanceEnd 46 = .ok (.ireturn, 1) := by decide +kernel
theorem dX9_firstWrong_0 : decode cX9_firstWrong 0 = .ok (.iconst 0, 1) := by decide +kernel
theorem dX9_firstWrong_1 : decode cX9_firstWrong 1 = .ok (.istore_n 3, 1) := by decide +kernel
theorem dX9_firstWrong_2 : decode cX9_firstWrong 2 = .ok (.iconst 0, 1) := by decide +kernel
theorem dX9_firstWrong_3 : decode cX9_firstWrong 3 = .ok (.istore 4, 2) := by decide +kernel
theorem dX9_firstWrong_5 : decode cX9_firstWrong 5 = .ok (.iload 4, 2) := by decide +kernel
theorem dX9_firstWrong_7 : decode cX9_firstWrong 7 = .ok (.aload_n 0, 1) := by decide +kernel
theorem dX9_firstWrong_8 : decode cX9_firstWrong 8 = .ok (.getfield 81, 3) := by decide +kernel
theorem dX9_firstWrong_11 : decode cX9_firstWrong 11 = .ok (.if_icmp .ge 96, 3) := by decide +kernel
theorem dX9_firstWrong_14 : decode cX9_firstWrong 14 = .ok (.aload_n 1, 1) := by decide +kernel
theorem dX9_firstWrong_15 : decode cX9_firstWrong 15 = .ok (.iload_n 2, 1) := by decide +kernel
theorem dX9_firstWrong_16 : decode cX9_firstWrong 16 = .ok (.iload 4, 2) := by decide +kernel
theorem dX9_firstWrong_18 : decode cX9_firstWrong 18 = .ok (.iadd, 1) := by decide +kernel
theorem dX9_firstWrong_19 : decode cX9_firstWrong 19 = .ok (.iaload, 1) := by decide +kernel
theorem dX9_firstWrong_20 : decode cX9_firstWrong 20 = .ok (.istore 5, 2) := by decide +kernel
theorem dX9_firstWrong_22 : decode cX9_firstWrong 22 = .ok (.iload 5, 2) := by decide +kernel
theorem dX9_firstWrong_24 : decode cX9_firstWrong 24 = .ok (.aload_n 0, 1) := by decide +kernel
theorem dX9_firstWrong_25 : decode cX9_firstWrong 25 = .ok (.getfield 18, 3) := by decide +kernel
theorem dX9_firstWrong_28 : decode cX9_firstWrong 28 = .ok (.iload 4, 2) := by decide +kernel
theorem dX9_firstWrong_30 : decode cX9_firstWrong 30 = .ok (.iaload, 1) := by decide +kernel
theorem dX9_firstWrong_31 : decode cX9_firstWrong 31 = .ok (.aload_n 0, 1) := by decide +kernel
theorem dX9_firstWrong_32 : decode cX9_firstWrong 32 = .ok (.getfield 21, 3) := by decide +kernel
theorem dX9_firstWrong_35 : decode cX9_firstWrong 35 = .ok (.iload 4, 2) := by decide +kernel
theorem dX9_firstWrong_37 : decode cX9_firstWrong 37 = .ok (.iaload, 1) := by decide +kernel
theorem dX9_firstWrong_38 : decode cX9_firstWrong 38 = .ok (.invokestatic 154, 3) := by decide +kernel
theorem dX9_firstWrong_41 : decode cX9_firstWrong 41 = .ok (.ifCond .ne 6, 3) := by decide +kernel
theorem dX9_firstWrong_44 : decode cX9_firstWrong 44 = .ok (.iload 4, 2) := by decide +kernel
theorem dX9_firstWrong_46 : decode cX9_firstWrong 46 = .ok (.ireturn, 1) := by decide +kernel
theorem dX9_firstWrong_47 : decode cX9_firstWrong 47 = .ok (.iload 4, 2) := by decide +kernel
theorem dX9_firstWrong_49 : decode cX9_firstWrong 49 = .ok (.ifCond .le 26, 3) := by decide +kernel
theorem dX9_firstWrong_52 : decode cX9_firstWrong 52 = .ok (.aload_n 0, 1) := by decide +kernel
theorem dX9_firstWrong_53 : decode cX9_firstWrong 53 = .ok (.aload_n 1, 1) := by decide +kernel
theorem dX9_firstWrong_54 : decode cX9_firstWrong 54 = .ok (.iload_n 2, 1) := by decide +kernel
theorem dX9_firstWrong_55 : decode cX9_firstWrong 55 = .ok (.iload 4, 2) := by decide +kernel
theorem dX9_firstWrong_57 : decode cX9_firstWrong 57 = .ok (.iadd, 1) := by decide +kernel
theorem dX9_firstWrong_58 : decode cX9_firstWrong 58 = .ok (.iconst 1, 1) := by decide +kernel
theorem dX9_firstWrong_59 : decode cX9_firstWrong 59 = .ok (.isub, 1) := by decide +kernel
theorem dX9_firstWrong_60 : decode cX9_firstWrong 60 = .ok (.iaload, 1) := by decide +kernel
theorem dX9_firstWrong_61 : decode cX9_firstWrong 61 = .ok (.iload_n 3, 1) := by decide +kernel
theorem dX9_firstWrong_62 : decode cX9_firstWrong 62 = .ok (.iload 5, 2) := by decide +kernel
theorem dX9_firstWrong_64 : decode cX9_firstWrong 64 = .ok (.iload 4, 2) := by decide +kernel
theorem dX9_firstWrong_66 : decode cX9_firstWrong 66 = .ok (.invokevirtual 172, 3) := by decide +kernel
theorem dX9_firstWrong_69 : decode cX9_firstWrong 69 = .ok (.ifCond .ne 6, 3) := by decide +kernel
theorem dX9_firstWrong_72 : decode cX9_firstWrong 72 = .ok (.iload 4, 2) := by decide +kernel
theorem dX9_firstWrong_74 : decode cX9_firstWrong 74 = .ok (.ireturn, 1) := by decide +kernel
theorem dX9_firstWrong_75 : decode cX9_firstWrong 75 = .ok (.iload 4, 2) := by decide +kernel
theorem dX9_firstWrong_77 : decode cX9_firstWrong 77 = .ok (.ifCond .le 22, 3) := by decide +kernel
theorem dX9_firstWrong_80 : decode cX9_firstWrong 80 = .ok (.aload_n 1, 1) := by decide +kernel
theorem dX9_firstWrong_81 : decode cX9_firstWrong 81 = .ok (.iload_n 2, 1) := by decide +kernel
theorem dX9_firstWrong_82 : decode cX9_firstWrong 82 = .ok (.iload 4, 2) := by decide +kernel
theorem dX9_firstWrong_84 : decode cX9_firstWrong 84 = .ok (.iadd, 1) := by decide +kernel
theorem dX9_firstWrong_85 : decode cX9_firstWrong 85 = .ok (.iconst 1, 1) := by decide +kernel
theorem dX9_firstWrong_86 : decode cX9_firstWrong 86 = .ok (.isub, 1) := by decide +kernel
theorem dX9_firstWrong_87 : decode cX9_firstWrong 87 = .ok (.iaload, 1) := by decide +kernel
theorem dX9_firstWrong_88 : decode cX9_firstWrong 88 = .ok (.iload 5, 2) := by decide +kernel
theorem dX9_firstWrong_90 : decode cX9_firstWrong 90 = .ok (.if_icmp .ne 9, 3) := by decide +kernel
theorem dX9_firstWrong_93 : decode cX9_firstWrong 93 = .ok (.iload_n 3, 1) := by decide +kernel
theorem dX9_firstWrong_94 : decode cX9_firstWrong 94 = .ok (.iconst 1, 1) := by decide +kernel
theorem dX9_firstWrong_95 : decode cX9_firstWrong 95 = .ok (.iadd, 1) := by decide +kernel
theorem dX9_firstWrong_96 : decode cX9_firstWrong 96 = .ok (.goto 4, 3) := by decide +kernel
theorem dX9_firstWrong_99 : decode cX9_firstWrong 99 = .ok (.iconst 1, 1) := by decide +kernel
theorem dX9_firstWrong_100 : decode cX9_firstWrong 100 = .ok (.istore_n 3, 1) := by decide +kernel
theorem dX9_firstWrong_101 : decode cX9_firstWrong 101 = .ok (.iinc 4 1, 3) := by decide +kernel
theorem dX9_firstWrong_104 : decode cX9_firstWrong 104 = .ok (.goto (-99), 3) := by decide +kernel
theorem dX9_firstWrong_107 : decode cX9_firstWrong 107 = .ok (.iconst (-1), 1) := by decide +kernel
theorem dX9_firstWrong_108 : decode cX9_firstWrong 108 = .ok (.ireturn, 1) := by decide +kernel
theorem dX9_follows_0 : decode cX9_follows 0 = .ok (.iload_n 3, 1) := by decide +kernel
theorem dX9_follows_1 : decode cX9_follows 1 = .ok (.iload_n 1, 1) := by decide +kernel
theorem dX9_follows_2 : decode cX9_follows 2 = .ok (.if_icmp .ne 27, 3) := by decide +kernel
theorem dX9_follows_5 : decode cX9_follows 5 = .ok (.aload_n 0, 1) := by decide +kernel
theorem dX9_follows_6 : decode cX9_follows 6 = .ok (.getfield 24, 3) := by decide +kernel
theorem dX9_follows_9 : decode cX9_follows 9 = .ok (.iload 4, 2) := by decide +kernel
theorem dX9_follows_11 : decode cX9_follows 11 = .ok (.iaload, 1) := by decide +kernel
theorem dX9_follows_12 : decode cX9_follows 12 = .ok (.ifCond .ne 15, 3) := by decide +kernel
theorem dX9_follows_15 : decode cX9_follows 15 = .ok (.iload_n 2, 1) := by decide +kernel
theorem dX9_follows_16 : decode cX9_follows 16 = .ok (.aload_n 0, 1) := by decide +kernel
theorem dX9_follows_17 : decode cX9_follows 17 = .ok (.getfield 60, 3) := by decide +kernel
theorem dX9_follows_20 : decode cX9_follows 20 = .ok (.if_icmp .ge 7, 3) := by decide +kernel
theorem dX9_follows_23 : decode cX9_follows 23 = .ok (.iconst 1, 1) := by decide +kernel
theorem dX9_follows_24 : decode cX9_follows 24 = .ok (.goto 4, 3) := by decide +kernel
theorem dX9_follows_27 : decode cX9_follows 27 = .ok (.iconst 0, 1) := by decide +kernel
theorem dX9_follows_28 : decode cX9_follows 28 = .ok (.ireturn, 1) := by decide +kernel
theorem dX9_follows_29 : decode cX9_follows 29 = .ok (.iload_n 3, 1) := by decide +kernel
theorem dX9_follows_30 : decode cX9_follows 30 = .ok (.iload_n 1, 1) := by decide +kernel
theorem dX9_follows_31 : decode cX9_follows 31 = .ok (.isub, 1) := by decide +kernel
theorem dX9_follows_32 : decode cX9_follows 32 = .ok (.iconst 1, 1) := by decide +kernel
theorem dX9_follows_33 : decode cX9_follows 33 = .ok (.aload_n 0, 1) := by decide +kernel
theorem dX9_follows_34 : decode cX9_follows 34 = .ok (.getfield 24, 3) := by decide +kernel
theorem dX9_follows_37 : decode cX9_follows 37 = .ok (.iload 4, 2) := by decide +kernel
theorem dX9_follows_39 : decode cX9_follows 39 = .ok (.iaload, 1) := by decide +kernel
theorem dX9_follows_40 : decode cX9_follows 40 = .ok (.invokestatic 102, 3) := by decide +kernel
theorem dX9_follows_43 : decode cX9_follows 43 = .ok (.aload_n 0, 1) := by decide +kernel
theorem dX9_follows_44 : decode cX9_follows 44 = .ok (.getfield 27, 3) := by decide +kernel
theorem dX9_follows_47 : decode cX9_follows 47 = .ok (.iload 4, 2) := by decide +kernel
theorem dX9_follows_49 : decode cX9_follows 49 = .ok (.iaload, 1) := by decide +kernel
theorem dX9_follows_50 : decode cX9_follows 50 = .ok (.invokestatic 154, 3) := by decide +kernel
theorem dX9_follows_53 : decode cX9_follows 53 = .ok (.ifCond .eq 18, 3) := by decide +kernel
theorem dX9_follows_56 : decode cX9_follows 56 = .ok (.iload_n 2, 1) := by decide +kernel
theorem dX9_follows_57 : decode cX9_follows 57 = .ok (.aload_n 0, 1) := by decide +kernel
theorem dX9_follows_58 : decode cX9_follows 58 = .ok (.getfield 30, 3) := by decide +kernel
theorem dX9_follows_61 : decode cX9_follows 61 = .ok (.iload 4, 2) := by decide +kernel
theorem dX9_follows_63 : decode cX9_follows 63 = .ok (.iaload, 1) := by decide +kernel
theorem dX9_follows_64 : decode cX9_follows 64 = .ok (.if_icmp .lt 7, 3) := by decide +kernel
theorem dX9_follows_67 : decode cX9_follows 67 = .ok (.iconst 1, 1) := by decide +kernel
theorem dX9_follows_68 : decode cX9_follows 68 = .ok (.goto 4, 3) := by decide +kernel
theorem dX9_follows_71 : decode cX9_follows 71 = .ok (.iconst 0, 1) := by decide +kernel
theorem dX9_follows_72 : decode cX9_follows 72 = .ok (.ireturn, 1) := by decide +kernel
theorem dX10_init_0 : decode cX10_init 0 = .ok (.aload_n 0, 1) := by decide +kernel
theorem dX10_init_1 : decode cX10_init 1 = .ok (.invokespecial 3, 3) := by decide +kernel
theorem dX10_init_4 : decode cX10_init 4 = .ok (.aload_n 0, 1) := by decide +kernel
theorem dX10_init_5 : decode cX10_init 5 = .ok (.new 9, 3) := by decide +kernel
theorem dX10_init_8 : decode cX10_init 8 = .ok (.dup, 1) := by decide +kernel
theorem dX10_init_9 : decode cX10_init 9 = .ok (.invokespecial 11, 3) := by decide +kernel
theorem dX10_init_12 : decode cX10_init 12 = .ok (.putfield 12, 3) := by decide +kernel
theorem dX10_init_15 : decode cX10_init 15 = .ok (.aload_n 0, 1) := by decide +kernel
theorem dX10_init_16 : decode cX10_init 16 = .ok (.new 9, 3) := by decide +kernel
theorem dX10_init_19 : decode cX10_init 19 = .ok (.dup, 1) := by decide +kernel
theorem dX10_init_20 : decode cX10_init 20 = .ok (.invokespecial 11, 3) := by decide +kernel
theorem dX10_init_23 : decode cX10_init 23 = .ok (.putfield 16, 3) := by decide +kernel
theorem dX10_init_26 : decode cX10_init 26 = .ok (.aload_n 0, 1) := by decide +kernel
theorem dX10_init_27 : decode cX10_init 27 = .ok (.new 19, 3) := by decide +kernel
theorem dX10_init_30 : decode cX10_init 30 = .ok (.dup, 1) := by decide +kernel
theorem dX10_init_31 : decode cX10_init 31 = .ok (.invokespecial 21, 3) := by decide +kernel
theorem dX10_init_34 : decode cX10_init 34 = .ok (.putfield 22, 3) := by decide +kernel
theorem dX10_init_37 : decode cX10_init 37 = .ok (.aload_n 0, 1) := by decide +kernel
theorem dX10_init_38 : decode cX10_init 38 = .ok (.new 26, 3) := by decide +kernel
theorem dX10_init_41 : decode cX10_init 41 = .ok (.dup, 1) := by decide +kernel
theorem dX10_init_42 : decode cX10_init 42 = .ok (.invokespecial 28, 3) := by decide +kernel
theorem dX10_init_45 : decode cX10_init 45 = .ok (.putfield 29, 3) := by decide +kernel
theorem dX10_init_48 : decode cX10_init 48 = .ok (.aload_n 0, 1) := by decide +kernel
theorem dX10_init_49 : decode cX10_init 49 = .ok (.new 33, 3) := by decide +kernel
theorem dX10_init_52 : decode cX10_init 52 = .ok (.dup, 1) := by decide +kernel
theorem dX10_init_53 : decode cX10_init 53 = .ok (.invokespecial 35, 3) := by decide +kernel
theorem dX10_init_56 : decode cX10_init 56 = .ok (.putfield 36, 3) := by decide +kernel
theorem dX10_init_59 : decode cX10_init 59 = .ok (.aload_n 0, 1) := by decide +kernel
theorem dX10_init_60 : decode cX10_init 60 = .ok (.iconst 4, 1) := by decide +kernel
theorem dX10_init_61 : decode cX10_init 61 = .ok (.anewarray 40, 3) := by decide +kernel
theorem dX10_init_64 : decode cX10_init 64 = .ok (.dup, 1) := by decide +kernel
theorem dX10_init_65 : decode cX10_init 65 = .ok (.iconst 0, 1) := by decide +kernel
theorem dX10_init_66 : decode cX10_init 66 = .ok (.new 40, 3) := by decide +kernel
theorem dX10_init_69 : decode cX10_init 69 = .ok (.dup, 1) := by decide +kernel
theorem dX10_init_70 : decode cX10_init 70 = .ok (.invokespecial 42, 3) := by decide +kernel
theorem dX10_init_73 : decode cX10_init 73 = .ok (.aastore, 1) := by decide +kernel
theorem dX10_init_74 : decode cX10_init 74 = .ok (.dup, 1) := by decide +kernel
theorem dX10_init_75 : decode cX10_init 75 = .ok (.iconst 1, 1) := by decide +kernel
theorem dX10_init_76 : decode cX10_init 76 = .ok (.new 40, 3) := by decide +kernel
theorem dX10_init_79 : decode cX10_init 79 = .ok (.dup, 1) := by decide +kernel
theorem dX10_init_80 : decode cX10_init 80 = .ok (.invokespecial 42, 3) := by decide +kernel
theorem dX10_init_83 : decode cX10_init 83 = .ok (.aastore, 1) := by decide +kernel
theorem dX10_init_84 : decode cX10_init 84 = .ok (.dup, 1) := by decide +kernel
theorem dX10_init_85 : decode cX10_init 85 = .ok (.iconst 2, 1) := by decide +kernel
theorem dX10_init_86 : decode cX10_init 86 = .ok (.new 40, 3) := by decide +kernel
theorem dX10_init_89 : decode cX10_init 89 = .ok (.dup, 1) := by decide +kernel
theorem dX10_init_90 : decode cX10_init 90 = .ok (.invokespecial 42, 3) := by decide +kernel
theorem dX10_init_93 : decode cX10_init 93 = .ok (.aastore, 1) := by decide +kernel
theorem dX10_init_94 : decode cX10_init 94 = .ok (.dup, 1) := by decide +kernel
theorem dX10_init_95 : decode cX10_init 95 = .ok (.iconst 3, 1) := by decide +kernel
theorem dX10_init_96 : decode cX10_init 96 = .ok (.new 40, 3) := by decide +kernel
theorem dX10_init_99 : decode cX10_init 99 = .ok (.dup, 1) := by decide +kernel
theorem dX10_init_100 : decode cX10_init 100 = .ok (.invokespecial 42, 3) := by decide +kernel
theorem dX10_init_103 : decode cX10_init 103 = .ok (.aastore, 1) := by decide +kernel
theorem dX10_init_104 : decode cX10_init 104 = .ok (.putfield 43, 3) := by decide +kernel
theorem dX10_init_107 : decode cX10_init 107 = .ok (.aload_n 0, 1) := by decide +kernel
theorem dX10_init_108 : decode cX10_init 108 = .ok (.iconst 2, 1) := by decide +kernel
theorem dX10_init_109 : decode cX10_init 109 = .ok (.anewarray 47, 3) := by decide +kernel
theorem dX10_init_112 : decode cX10_init 112 = .ok (.dup, 1) := by decide +kernel
theorem dX10_init_113 : decode cX10_init 113 = .ok (.iconst 0, 1) := by decide +kernel
theorem dX10_init_114 : decode cX10_init 114 = .ok (.new 47, 3) := by decide +kernel
theorem dX10_init_117 : decode cX10_init 117 = .ok (.dup, 1) := by decide +kernel
theorem dX10_init_118 : decode cX10_init 118 = .ok (.invokespecial 49, 3) := by decide +kernel
theorem dX10_init_121 : decode cX10_init 121 = .ok (.aastore, 1) := by decide +kernel
theorem dX10_init_122 : decode cX10_init 122 = .ok (.dup, 1) := by decide +kernel
theorem dX10_init_123 : decode cX10_init 123 = .ok (.iconst 1, 1) := by decide +kernel
theorem dX10_init_124 : decode cX10_init 124 = .ok (.new 47, 3) := by decide +kernel
theorem dX10_init_127 : decode cX10_init 127 = .ok (.dup, 1) := by decide +kernel
theorem dX10_init_128 : decode cX10_init 128 = .ok (.invokespecial 49, 3) := by decide +kernel
theorem dX10_init_131 : decode cX10_init 131 = .ok (.aastore, 1) := by decide +kernel
theorem dX10_init_132 : decode cX10_init 132 = .ok (.putfield 50, 3) := by decide +kernel
theorem dX10_init_135 : decode cX10_init 135 = .ok (.aload_n 0, 1) := by decide +kernel
theorem dX10_init_136 : decode cX10_init 136 = .ok (.iconst 2, 1) := by decide +kernel
theorem dX10_init_137 : decode cX10_init 137 = .ok (.newarray .boolean, 2) := by decide +kernel
theorem dX10_init_139 : decode cX10_init 139 = .ok (.putfield 54, 3) := by decide +kernel
theorem dX10_init_142 : decode cX10_init 142 = .ok (.aload_n 0, 1) := by decide +kernel
theorem dX10_init_143 : decode cX10_init 143 = .ok (.new 58, 3) := by decide +kernel
theorem dX10_init_146 : decode cX10_init 146 = .ok (.dup, 1) := by decide +kernel
theorem dX10_init_147 : decode cX10_init 147 = .ok (.invokespecial 60, 3) := by decide +kernel
theorem dX10_init_150 : decode cX10_init 150 = .ok (.putfield 61, 3) := by decide +kernel
theorem dX10_init_153 : decode cX10_init 153 = .ok (.return_, 1) := by decide +kernel
theorem dX10_rain_0 : decode cX10_rain 0 = .ok (.iload_n 1, 1) := by decide +kernel
theorem dX10_rain_1 : decode cX10_rain 1 = .ok (.invokestatic 65, 3) := by decide +kernel
theorem dX10_rain_4 : decode cX10_rain 4 = .ok (.ifCond .eq 20, 3) := by decide +kernel
theorem dX10_rain_7 : decode cX10_rain 7 = .ok (.iload_n 2, 1) := by decide +kernel
theorem dX10_rain_8 : decode cX10_rain 8 = .ok (.iconst 0, 1) := by decide +kernel
theorem dX10_rain_9 : decode cX10_rain 9 = .ok (.iconst 2, 1) := by decide +kernel
theorem dX10_rain_10 : decode cX10_rain 10 = .ok (.invokestatic 69, 3) := by decide +kernel
theorem dX10_rain_13 : decode cX10_rain 13 = .ok (.ifCond .eq 11, 3) := by decide +kernel
theorem dX10_rain_16 : decode cX10_rain 16 = .ok (.iload_n 2, 1) := by decide +kernel
theorem dX10_rain_17 : decode cX10_rain 17 = .ok (.iload_n 3, 1) := by decide +kernel
theorem dX10_rain_18 : decode cX10_rain 18 = .ok (.invokestatic 73, 3) := by decide +kernel
theorem dX10_rain_21 : decode cX10_rain 21 = .ok (.ifCond .ne 7, 3) := by decide +kernel
theorem dX10_rain_24 : decode cX10_rain 24 = .ok (.sipush (-1001), 3) := by decide +kernel
theorem dX10_rain_27 : decode cX10_rain 27 = .ok (.ireturn, 1) := by decide +kernel
theorem dX10_rain_28 : decode cX10_rain 28 = .ok (.aload_n 0, 1) := by decide +kernel
theorem dX10_rain_29 : decode cX10_rain 29 = .ok (.getfield 12, 3) := by decide +kernel
theorem dX10_rain_32 : decode cX10_rain 32 = .ok (.getfield 79, 3) := by decide +kernel
theorem dX10_rain_35 : decode cX10_rain 35 = .ok (.getfield 83, 3) := by decide +kernel
theorem dX10_rain_38 : decode cX10_rain 38 = .ok (.iload_n 2, 1) := by decide +kernel
theorem dX10_rain_39 : decode cX10_rain 39 = .ok (.aaload, 1) := by decide +kernel
theorem dX10_rain_40 : decode cX10_rain 40 = .ok (.iload_n 1, 1) := by decide +kernel
theorem dX10_rain_41 : decode cX10_rain 41 = .ok (.iaload, 1) := by decide +kernel
theorem dX10_rain_42 : decode cX10_rain 42 = .ok (.istore 4, 2) := by decide +kernel
theorem dX10_rain_44 : decode cX10_rain 44 = .ok (.aload_n 0, 1) := by decide +kernel
theorem dX10_rain_45 : decode cX10_rain 45 = .ok (.getfield 12, 3) := by decide +kernel
theorem dX10_rain_48 : decode cX10_rain 48 = .ok (.getfield 79, 3) := by decide +kernel
theorem dX10_rain_51 : decode cX10_rain 51 = .ok (.getfield 83, 3) := by decide +kernel
theorem dX10_rain_54 : decode cX10_rain 54 = .ok (.iload_n 2, 1) := by decide +kernel
theorem dX10_rain_55 : decode cX10_rain 55 = .ok (.aaload, 1) := by decide +kernel
theorem dX10_rain_56 : decode cX10_rain 56 = .ok (.iload_n 1, 1) := by decide +kernel
theorem dX10_rain_57 : decode cX10_rain 57 = .ok (.iload_n 3, 1) := by decide +kernel
theorem dX10_rain_58 : decode cX10_rain 58 = .ok (.iastore, 1) := by decide +kernel
theorem dX10_rain_59 : decode cX10_rain 59 = .ok (.iload 4, 2) := by decide +kernel
theorem dX10_rain_61 : decode cX10_rain 61 = .ok (.ireturn, 1) := by decide +kernel
theorem dX10_rains_0 : decode cX10_rains 0 = .ok (.iload_n 1, 1) := by decide +kernel
theorem dX10_rains_1 : decode cX10_rains 1 = .ok (.iconst 0, 1) := by decide +kernel
theorem dX10_rains_2 : decode cX10_rains 2 = .ok (.iconst 2, 1) := by decide +kernel
theorem dX10_rains_3 : decode cX10_rains 3 = .ok (.invokestatic 69, 3) := by decide +kernel
theorem dX10_rains_6 : decode cX10_rains 6 = .ok (.ifCond .eq 22, 3) := by decide +kernel
theorem dX10_rains_9 : decode cX10_rains 9 = .ok (.iload_n 2, 1) := by decide +kernel
theorem dX10_rains_10 : decode cX10_rains 10 = .ok (.iload_n 3, 1) := by decide +kernel
theorem dX10_rains_11 : decode cX10_rains 11 = .ok (.invokestatic 87, 3) := by decide +kernel
theorem dX10_rains_14 : decode cX10_rains 14 = .ok (.ifCond .eq 14, 3) := by decide +kernel
theorem dX10_rains_17 : decode cX10_rains 17 = .ok (.iload 5, 2) := by decide +kernel
theorem dX10_rains_19 : decode cX10_rains 19 = .ok (.iconst 1, 1) := by decide +kernel
theorem dX10_rains_20 : decode cX10_rains 20 = .ok (.bipush 24, 2) := by decide +kernel
theorem dX10_rains_22 : decode cX10_rains 22 = .ok (.invokestatic 69, 3) := by decide +kernel
theorem dX10_rains_25 : decode cX10_rains 25 = .ok (.ifCond .ne 5, 3) := by decide +kernel
theorem dX10_rains_28 : decode cX10_rains 28 = .ok (.iconst (-1), 1) := by decide +kernel
theorem dX10_rains_29 : decode cX10_rains 29 = .ok (.ireturn, 1) := by decide +kernel
theorem dX10_rains_30 : decode cX10_rains 30 = .ok (.aload_n 0, 1) := by decide +kernel
theorem dX10_rains_31 : decode cX10_rains 31 = .ok (.getfield 43, 3) := by decide +kernel
theorem dX10_rains_34 : decode cX10_rains 34 = .ok (.iload_n 2, 1) := by decide +kernel
theorem dX10_rains_35 : decode cX10_rains 35 = .ok (.aaload, 1) := by decide +kernel
theorem dX10_rains_36 : decode cX10_rains 36 = .ok (.astore 6, 2) := by decide +kernel
theorem dX10_rains_38 : decode cX10_rains 38 = .ok (.aload 6, 2) := by decide +kernel
theorem dX10_rains_40 : decode cX10_rains 40 = .ok (.iload_n 3, 1) := by decide +kernel
theorem dX10_rains_41 : decode cX10_rains 41 = .ok (.iload 4, 2) := by decide +kernel
theorem dX10_rains_43 : decode cX10_rains 43 = .ok (.iload 5, 2) := by decide +kernel
theorem dX10_rains_45 : decode cX10_rains 45 = .ok (.invokevirtual 90, 3) := by decide +kernel
theorem dX10_rains_48 : decode cX10_rains 48 = .ok (.istore 7, 2) := by decide +kernel
theorem dX10_rains_50 : decode cX10_rains 50 = .ok (.iload 7, 2) := by decide +kernel
theorem dX10_rains_52 : decode cX10_rains 52 = .ok (.ifCond .eq 6, 3) := by decide +kernel
theorem dX10_rains_55 : decode cX10_rains 55 = .ok (.iload 7, 2) := by decide +kernel
theorem dX10_rains_57 : decode cX10_rains 57 = .ok (.ireturn, 1) := by decide +kernel
theorem dX10_rains_58 : decode cX10_rains 58 = .ok (.iconst 0, 1) := by decide +kernel
theorem dX10_rains_59 : decode cX10_rains 59 = .ok (.istore 8, 2) := by decide +kernel
theorem dX10_rains_61 : decode cX10_rains 61 = .ok (.iload 8, 2) := by decide +kernel
theorem dX10_rains_63 : decode cX10_rains 63 = .ok (.iload 5, 2) := by decide +kernel
theorem dX10_rains_65 : decode cX10_rains 65 = .ok (.if_icmp .ge 30, 3) := by decide +kernel
theorem dX10_rains_68 : decode cX10_rains 68 = .ok (.iload_n 1, 1) := by decide +kernel
theorem dX10_rains_69 : decode cX10_rains 69 = .ok (.aload 6, 2) := by decide +kernel
theorem dX10_rains_71 : decode cX10_rains 71 = .ok (.getfield 94, 3) := by decide +kernel
theorem dX10_rains_74 : decode cX10_rains 74 = .ok (.iload 4, 2) := by decide +kernel
theorem dX10_rains_76 : decode cX10_rains 76 = .ok (.iload 8, 2) := by decide +kernel
theorem dX10_rains_78 : decode cX10_rains 78 = .ok (.iadd, 1) := by decide +kernel
theorem dX10_rains_79 : decode cX10_rains 79 = .ok (.iaload, 1) := by decide +kernel
theorem dX10_rains_80 : decode cX10_rains 80 = .ok (.invokestatic 73, 3) := by decide +kernel
theorem dX10_rains_83 : decode cX10_rains 83 = .ok (.ifCond .ne 6, 3) := by decide +kernel
theorem dX10_rains_86 : decode cX10_rains 86 = .ok (.bipush (-2), 2) := by decide +kernel
theorem dX10_rains_88 : decode cX10_rains 88 = .ok (.ireturn, 1) := by decide +kernel
theorem dX10_rains_89 : decode cX10_rains 89 = .ok (.iinc 8 1, 3) := by decide +kernel
theorem dX10_rains_92 : decode cX10_rains 92 = .ok (.goto (-31), 3) := by decide +kernel
theorem dX10_rains_95 : decode cX10_rains 95 = .ok (.iconst 0, 1) := by decide +kernel
theorem dX10_rains_96 : decode cX10_rains 96 = .ok (.istore 8, 2) := by decide +kernel
theorem dX10_rains_98 : decode cX10_rains 98 = .ok (.iload 8, 2) := by decide +kernel
theorem dX10_rains_100 : decode cX10_rains 100 = .ok (.iload 5, 2) := by decide +kernel
theorem dX10_rains_102 : decode cX10_rains 102 = .ok (.if_icmp .ge 35, 3) := by decide +kernel
theorem dX10_rains_105 : decode cX10_rains 105 = .ok (.aload_n 0, 1) := by decide +kernel
theorem dX10_rains_106 : decode cX10_rains 106 = .ok (.getfield 12, 3) := by decide +kernel
theorem dX10_rains_109 : decode cX10_rains 109 = .ok (.getfield 79, 3) := by decide +kernel
theorem dX10_rains_112 : decode cX10_rains 112 = .ok (.getfield 83, 3) := by decide +kernel
theorem dX10_rains_115 : decode cX10_rains 115 = .ok (.iload_n 1, 1) := by decide +kernel
theorem dX10_rains_116 : decode cX10_rains 116 = .ok (.aaload, 1) := by decide +kernel
theorem dX10_rains_117 : decode cX10_rains 117 = .ok (.iload 8, 2) := by decide +kernel
theorem dX10_rains_119 : decode cX10_rains 119 = .ok (.aload 6, 2) := by decide +kernel
theorem dX10_rains_121 : decode cX10_rains 121 = .ok (.getfield 94, 3) := by decide +kernel
theorem dX10_rains_124 : decode cX10_rains 124 = .ok (.iload 4, 2) := by decide +kernel
theorem dX10_rains_126 : decode cX10_rains 126 = .ok (.iload 8, 2) := by decide +kernel
theorem dX10_rains_128 : decode cX10_rains 128 = .ok (.iadd, 1) := by decide +kernel
theorem dX10_rains_129 : decode cX10_rains 129 = .ok (.iaload, 1) := by decide +kernel
theorem dX10_rains_130 : decode cX10_rains 130 = .ok (.iastore, 1) := by decide +kernel
theorem dX10_rains_131 : decode cX10_rains 131 = .ok (.iinc 8 1, 3) := by decide +kernel
theorem dX10_rains_134 : decode cX10_rains 134 = .ok (.goto (-36), 3) := by decide +kernel
theorem dX10_rains_137 : decode cX10_rains 137 = .ok (.iload 5, 2) := by decide +kernel
theorem dX10_rains_139 : decode cX10_rains 139 = .ok (.ireturn, 1) := by decide +kernel
theorem dX10_set_0 : decode cX10_set 0 = .ok (.iload_n 1, 1) := by decide +kernel
theorem dX10_set_1 : decode cX10_set 1 = .ok (.iconst 0, 1) := by decide +kernel
theorem dX10_set_2 : decode cX10_set 2 = .ok (.iconst 1, 1) := by decide +kernel
theorem dX10_set_3 : decode cX10_set 3 = .ok (.invokestatic 69, 3) := by decide +kernel
theorem dX10_set_6 : decode cX10_set 6 = .ok (.ifCond .eq 21, 3) := by decide +kernel
theorem dX10_set_9 : decode cX10_set 9 = .ok (.iload_n 2, 1) := by decide +kernel
theorem dX10_set_10 : decode cX10_set 10 = .ok (.iconst 1, 1) := by decide +kernel
theorem dX10_set_11 : decode cX10_set 11 = .ok (.iload_n 1, 1) := by decide +kernel
theorem dX10_set_12 : decode cX10_set 12 = .ok (.ifCond .ne 7, 3) := by decide +kernel
theorem dX10_set_15 : decode cX10_set 15 = .ok (.iconst 5, 1) := by decide +kernel
theorem dX10_set_16 : decode cX10_set 16 = .ok (.goto 5, 3) := by decide +kernel
theorem dX10_set_19 : decode cX10_set 19 = .ok (.bipush 9, 2) := by decide +kernel
theorem dX10_set_21 : decode cX10_set 21 = .ok (.invokestatic 69, 3) := by decide +kernel
theorem dX10_set_24 : decode cX10_set 24 = .ok (.ifCond .ne 5, 3) := by decide +kernel
theorem dX10_set_27 : decode cX10_set 27 = .ok (.iconst (-1), 1) := by decide +kernel
theorem dX10_set_28 : decode cX10_set 28 = .ok (.ireturn, 1) := by decide +kernel
theorem dX10_set_29 : decode cX10_set 29 = .ok (.aload_n 0, 1) := by decide +kernel
theorem dX10_set_30 : decode cX10_set 30 = .ok (.getfield 12, 3) := by decide +kernel
theorem dX10_set_33 : decode cX10_set 33 = .ok (.getfield 79, 3) := by decide +kernel
theorem dX10_set_36 : decode cX10_set 36 = .ok (.astore_n 3, 1) := by decide +kernel
theorem dX10_set_37 : decode cX10_set 37 = .ok (.iload_n 1, 1) := by decide +kernel
theorem dX10_set_38 : decode cX10_set 38 = .ok (.ifCond .ne 10, 3) := by decide +kernel
theorem dX10_set_41 : decode cX10_set 41 = .ok (.aload_n 3, 1) := by decide +kernel
theorem dX10_set_42 : decode cX10_set 42 = .ok (.getfield 98, 3) := by decide +kernel
theorem dX10_set_45 : decode cX10_set 45 = .ok (.goto 7, 3) := by decide +kernel
theorem dX10_set_48 : decode cX10_set 48 = .ok (.aload_n 3, 1) := by decide +kernel
theorem dX10_set_49 : decode cX10_set 49 = .ok (.getfield 102, 3) := by decide +kernel
theorem dX10_set_52 : decode cX10_set 52 = .ok (.istore 4, 2) := by decide +kernel
theorem dX10_set_54 : decode cX10_set 54 = .ok (.iload_n 1, 1) := by decide +kernel
theorem dX10_set_55 : decode cX10_set 55 = .ok (.ifCond .ne 11, 3) := by decide +kernel
theorem dX10_set_58 : decode cX10_set 58 = .ok (.aload_n 3, 1) := by decide +kernel
theorem dX10_set_59 : decode cX10_set 59 = .ok (.iload_n 2, 1) := by decide +kernel
theorem dX10_set_60 : decode cX10_set 60 = .ok (.putfield 98, 3) := by decide +kernel
theorem dX10_set_63 : decode cX10_set 63 = .ok (.goto 8, 3) := by decide +kernel
theorem dX10_set_66 : decode cX10_set 66 = .ok (.aload_n 3, 1) := by decide +kernel
theorem dX10_set_67 : decode cX10_set 67 = .ok (.iload_n 2, 1) := by decide +kernel
theorem dX10_set_68 : decode cX10_set 68 = .ok (.putfield 102, 3) := by decide +kernel
theorem dX10_set_71 : decode cX10_set 71 = .ok (.iload 4, 2) := by decide +kernel
theorem dX10_set_73 : decode cX10_set 73 = .ok (.ireturn, 1) := by decide +kernel
theorem dX10_wet_0 : decode cX10_wet 0 = .ok (.iload_n 1, 1) := by decide +kernel
theorem dX10_wet_1 : decode cX10_wet 1 = .ok (.invokestatic 65, 3) := by decide +kernel
theorem dX10_wet_4 : decode cX10_wet 4 = .ok (.ifCond .eq 27, 3) := by decide +kernel
theorem dX10_wet_7 : decode cX10_wet 7 = .ok (.aload_n 0, 1) := by decide +kernel
theorem dX10_wet_8 : decode cX10_wet 8 = .ok (.getfield 12, 3) := by decide +kernel
theorem dX10_wet_11 : decode cX10_wet 11 = .ok (.getfield 79, 3) := by decide +kernel
theorem dX10_wet_14 : decode cX10_wet 14 = .ok (.iload_n 1, 1) := by decide +kernel
theorem dX10_wet_15 : decode cX10_wet 15 = .ok (.aload_n 0, 1) := by decide +kernel
theorem dX10_wet_16 : decode cX10_wet 16 = .ok (.getfield 12, 3) := by decide +kernel
theorem dX10_wet_19 : decode cX10_wet 19 = .ok (.getfield 79, 3) := by decide +kernel
theorem dX10_wet_22 : decode cX10_wet 22 = .ok (.getfield 98, 3) := by decide +kernel
theorem dX10_wet_25 : decode cX10_wet 25 = .ok (.invokevirtual 105, 3) := by decide +kernel
theorem dX10_wet_28 : decode cX10_wet 28 = .ok (.goto 4, 3) := by decide +kernel
theorem dX10_wet_31 : decode cX10_wet 31 = .ok (.iconst (-1), 1) := by decide +kernel
theorem dX10_wet_32 : decode cX10_wet 32 = .ok (.ireturn, 1) := by decide +kernel
theorem dX10_water_0 : decode cX10_water 0 = .ok (.iload_n 1, 1) := by decide +kernel
theorem dX10_water_1 : decode cX10_water 1 = .ok (.invokestatic 65, 3) := by decide +kernel
theorem dX10_water_4 : decode cX10_water 4 = .ok (.ifCond .eq 27, 3) := by decide +kernel
theorem dX10_water_7 : decode cX10_water 7 = .ok (.aload_n 0, 1) := by decide +kernel
theorem dX10_water_8 : decode cX10_water 8 = .ok (.getfield 12, 3) := by decide +kernel
theorem dX10_water_11 : decode cX10_water 11 = .ok (.getfield 79, 3) := by decide +kernel
theorem dX10_water_14 : decode cX10_water 14 = .ok (.iload_n 1, 1) := by decide +kernel
theorem dX10_water_15 : decode cX10_water 15 = .ok (.aload_n 0, 1) := by decide +kernel
theorem dX10_water_16 : decode cX10_water 16 = .ok (.getfield 12, 3) := by decide +kernel
theorem dX10_water_19 : decode cX10_water 19 = .ok (.getfield 79, 3) := by decide +kernel
theorem dX10_water_22 : decode cX10_water 22 = .ok (.getfield 98, 3) := by decide +kernel
theorem dX10_water_25 : decode cX10_water 25 = .ok (.invokevirtual 109, 3) := by decide +kernel
theorem dX10_water_28 : decode cX10_water 28 = .ok (.goto 6, 3) := by decide +kernel
theorem dX10_water_31 : decode cX10_water 31 = .ok (.sipush (-1001), 3) := by decide +kernel
theorem dX10_water_34 : decode cX10_water 34 = .ok (.ireturn, 1) := by decide +kernel
theorem dX10_type_0 : decode cX10_type 0 = .ok (.iload_n 3, 1) := by decide +kernel
theorem dX10_type_1 : decode cX10_type 1 = .ok (.iconst 1, 1) := by decide +kernel
theorem dX10_type_2 : decode cX10_type 2 = .ok (.bipush 8, 2) := by decide +kernel
theorem dX10_type_4 : decode cX10_type 4 = .ok (.invokestatic 69, 3) := by decide +kernel
theorem dX10_type_7 : decode cX10_type 7 = .ok (.ifCond .ne 5, 3) := by decide +kernel
theorem dX10_type_10 : decode cX10_type 10 = .ok (.iconst (-1), 1) := by decide +kernel
theorem dX10_type_11 : decode cX10_type 11 = .ok (.ireturn, 1) := by decide +kernel
theorem dX10_type_12 : decode cX10_type 12 = .ok (.iconst 0, 1) := by decide +kernel
theorem dX10_type_13 : decode cX10_type 13 = .ok (.istore 4, 2) := by decide +kernel
theorem dX10_type_15 : decode cX10_type 15 = .ok (.iload 4, 2) := by decide +kernel
theorem dX10_type_17 : decode cX10_type 17 = .ok (.iload_n 3, 1) := by decide +kernel
theorem dX10_type_18 : decode cX10_type 18 = .ok (.if_icmp .ge 27, 3) := by decide +kernel
theorem dX10_type_21 : decode cX10_type 21 = .ok (.lload_n 1, 1) := by decide +kernel
theorem dX10_type_22 : decode cX10_type 22 = .ok (.iload 4, 2) := by decide +kernel
theorem dX10_type_24 : decode cX10_type 24 = .ok (.invokestatic 112, 3) := by decide +kernel
theorem dX10_type_27 : decode cX10_type 27 = .ok (.bipush 32, 2) := by decide +kernel
theorem dX10_type_29 : decode cX10_type 29 = .ok (.bipush 126, 2) := by decide +kernel
theorem dX10_type_31 : decode cX10_type 31 = .ok (.invokestatic 69, 3) := by decide +kernel
theorem dX10_type_34 : decode cX10_type 34 = .ok (.ifCond .ne 5, 3) := by decide +kernel
theorem dX10_type_37 : decode cX10_type 37 = .ok (.iconst (-1), 1) := by decide +kernel
theorem dX10_type_38 : decode cX10_type 38 = .ok (.ireturn, 1) := by decide +kernel
theorem dX10_type_39 : decode cX10_type 39 = .ok (.iinc 4 1, 3) := by decide +kernel
theorem dX10_type_42 : decode cX10_type 42 = .ok (.goto (-27), 3) := by decide +kernel
theorem dX10_type_45 : decode cX10_type 45 = .ok (.aload_n 0, 1) := by decide +kernel
theorem dX10_type_46 : decode cX10_type 46 = .ok (.getfield 22, 3) := by decide +kernel
theorem dX10_type_49 : decode cX10_type 49 = .ok (.getfield 116, 3) := by decide +kernel
theorem dX10_type_52 : decode cX10_type 52 = .ok (.iload_n 3, 1) := by decide +kernel
theorem dX10_type_53 : decode cX10_type 53 = .ok (.iadd, 1) := by decide +kernel
theorem dX10_type_54 : decode cX10_type 54 = .ok (.bipush 80, 2) := by decide +kernel
theorem dX10_type_56 : decode cX10_type 56 = .ok (.if_icmp .le 6, 3) := by decide +kernel
theorem dX10_type_59 : decode cX10_type 59 = .ok (.bipush (-3), 2) := by decide +kernel
theorem dX10_type_61 : decode cX10_type 61 = .ok (.ireturn, 1) := by decide +kernel
theorem dX10_type_62 : decode cX10_type 62 = .ok (.iload_n 3, 1) := by decide +kernel
theorem dX10_type_63 : decode cX10_type 63 = .ok (.iconst 1, 1) := by decide +kernel
theorem dX10_type_64 : decode cX10_type 64 = .ok (.isub, 1) := by decide +kernel
theorem dX10_type_65 : decode cX10_type 65 = .ok (.istore 4, 2) := by decide +kernel
theorem dX10_type_67 : decode cX10_type 67 = .ok (.iload 4, 2) := by decide +kernel
theorem dX10_type_69 : decode cX10_type 69 = .ok (.ifCond .lt 43, 3) := by decide +kernel
theorem dX10_type_72 : decode cX10_type 72 = .ok (.aload_n 0, 1) := by decide +kernel
theorem dX10_type_73 : decode cX10_type 73 = .ok (.getfield 22, 3) := by decide +kernel
theorem dX10_type_76 : decode cX10_type 76 = .ok (.getfield 119, 3) := by decide +kernel
theorem dX10_type_79 : decode cX10_type 79 = .ok (.aload_n 0, 1) := by decide +kernel
theorem dX10_type_80 : decode cX10_type 80 = .ok (.getfield 22, 3) := by decide +kernel
theorem dX10_type_83 : decode cX10_type 83 = .ok (.getfield 116, 3) := by decide +kernel
theorem dX10_type_86 : decode cX10_type 86 = .ok (.lload_n 1, 1) := by decide +kernel
theorem dX10_type_87 : decode cX10_type 87 = .ok (.iload 4, 2) := by decide +kernel
theorem dX10_type_89 : decode cX10_type 89 = .ok (.invokestatic 112, 3) := by decide +kernel
theorem dX10_type_92 : decode cX10_type 92 = .ok (.iastore, 1) := by decide +kernel
theorem dX10_type_93 : decode cX10_type 93 = .ok (.aload_n 0, 1) := by decide +kernel
theorem dX10_type_94 : decode cX10_type 94 = .ok (.getfield 22, 3) := by decide +kernel
theorem dX10_type_97 : decode cX10_type 97 = .ok (.dup, 1) := by decide +kernel
theorem dX10_type_98 : decode cX10_type 98 = .ok (.getfield 116, 3) := by decide +kernel
theorem dX10_type_101 : decode cX10_type 101 = .ok (.iconst 1, 1) := by decide +kernel
theorem dX10_type_102 : decode cX10_type 102 = .ok (.iadd, 1) := by decide +kernel
theorem dX10_type_103 : decode cX10_type 103 = .ok (.putfield 116, 3) := by decide +kernel
