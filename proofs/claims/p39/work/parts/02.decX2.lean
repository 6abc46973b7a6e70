theorem dX10_type_106 : decode cX10_type 106 = .ok (.iinc 4 (-1), 3) := by decide +kernel
theorem dX10_type_109 : decode cX10_type 109 = .ok (.goto (-42), 3) := by decide +kernel
theorem dX10_type_112 : decode cX10_type 112 = .ok (.aload_n 0, 1) := by decide +kernel
theorem dX10_type_113 : decode cX10_type 113 = .ok (.getfield 22, 3) := by decide +kernel
theorem dX10_type_116 : decode cX10_type 116 = .ok (.getfield 116, 3) := by decide +kernel
theorem dX10_type_119 : decode cX10_type 119 = .ok (.ireturn, 1) := by decide +kernel
theorem dX10_byteOf_0 : decode cX10_byteOf 0 = .ok (.lload_n 0, 1) := by decide +kernel
theorem dX10_byteOf_1 : decode cX10_byteOf 1 = .ok (.bipush 8, 2) := by decide +kernel
theorem dX10_byteOf_3 : decode cX10_byteOf 3 = .ok (.iload_n 2, 1) := by decide +kernel
theorem dX10_byteOf_4 : decode cX10_byteOf 4 = .ok (.imul, 1) := by decide +kernel
theorem dX10_byteOf_5 : decode cX10_byteOf 5 = .ok (.lushr, 1) := by decide +kernel
theorem dX10_byteOf_6 : decode cX10_byteOf 6 = .ok (.l2i, 1) := by decide +kernel
theorem dX10_byteOf_7 : decode cX10_byteOf 7 = .ok (.sipush 255, 3) := by decide +kernel
theorem dX10_byteOf_10 : decode cX10_byteOf 10 = .ok (.iand, 1) := by decide +kernel
theorem dX10_byteOf_11 : decode cX10_byteOf 11 = .ok (.ireturn, 1) := by decide +kernel
theorem dX10_law_0 : decode cX10_law 0 = .ok (.aload_n 0, 1) := by decide +kernel
theorem dX10_law_1 : decode cX10_law 1 = .ok (.getfield 22, 3) := by decide +kernel
theorem dX10_law_4 : decode cX10_law 4 = .ok (.aload_n 0, 1) := by decide +kernel
theorem dX10_law_5 : decode cX10_law 5 = .ok (.getfield 29, 3) := by decide +kernel
theorem dX10_law_8 : decode cX10_law 8 = .ok (.invokevirtual 122, 3) := by decide +kernel
theorem dX10_law_11 : decode cX10_law 11 = .ok (.istore_n 1, 1) := by decide +kernel
theorem dX10_law_12 : decode cX10_law 12 = .ok (.aload_n 0, 1) := by decide +kernel
theorem dX10_law_13 : decode cX10_law 13 = .ok (.getfield 22, 3) := by decide +kernel
theorem dX10_law_16 : decode cX10_law 16 = .ok (.iconst 0, 1) := by decide +kernel
theorem dX10_law_17 : decode cX10_law 17 = .ok (.putfield 116, 3) := by decide +kernel
theorem dX10_law_20 : decode cX10_law 20 = .ok (.iload_n 1, 1) := by decide +kernel
theorem dX10_law_21 : decode cX10_law 21 = .ok (.ifCond .eq 5, 3) := by decide +kernel
theorem dX10_law_24 : decode cX10_law 24 = .ok (.iload_n 1, 1) := by decide +kernel
theorem dX10_law_25 : decode cX10_law 25 = .ok (.ireturn, 1) := by decide +kernel
theorem dX10_law_26 : decode cX10_law 26 = .ok (.aload_n 0, 1) := by decide +kernel
theorem dX10_law_27 : decode cX10_law 27 = .ok (.getfield 12, 3) := by decide +kernel
theorem dX10_law_30 : decode cX10_law 30 = .ok (.getfield 126, 3) := by decide +kernel
theorem dX10_law_33 : decode cX10_law 33 = .ok (.aload_n 0, 1) := by decide +kernel
theorem dX10_law_34 : decode cX10_law 34 = .ok (.getfield 29, 3) := by decide +kernel
theorem dX10_law_37 : decode cX10_law 37 = .ok (.invokevirtual 129, 3) := by decide +kernel
theorem dX10_law_40 : decode cX10_law 40 = .ok (.aload_n 0, 1) := by decide +kernel
theorem dX10_law_41 : decode cX10_law 41 = .ok (.getfield 12, 3) := by decide +kernel
theorem dX10_law_44 : decode cX10_law 44 = .ok (.getfield 126, 3) := by decide +kernel
theorem dX10_law_47 : decode cX10_law 47 = .ok (.getfield 133, 3) := by decide +kernel
theorem dX10_law_50 : decode cX10_law 50 = .ok (.ireturn, 1) := by decide +kernel
theorem dX10_grows_0 : decode cX10_grows 0 = .ok (.iload_n 1, 1) := by decide +kernel
theorem dX10_grows_1 : decode cX10_grows 1 = .ok (.invokestatic 65, 3) := by decide +kernel
theorem dX10_grows_4 : decode cX10_grows 4 = .ok (.ifCond .eq 24, 3) := by decide +kernel
theorem dX10_grows_7 : decode cX10_grows 7 = .ok (.aload_n 0, 1) := by decide +kernel
theorem dX10_grows_8 : decode cX10_grows 8 = .ok (.getfield 12, 3) := by decide +kernel
theorem dX10_grows_11 : decode cX10_grows 11 = .ok (.getfield 126, 3) := by decide +kernel
theorem dX10_grows_14 : decode cX10_grows 14 = .ok (.aload_n 0, 1) := by decide +kernel
theorem dX10_grows_15 : decode cX10_grows 15 = .ok (.getfield 12, 3) := by decide +kernel
theorem dX10_grows_18 : decode cX10_grows 18 = .ok (.getfield 79, 3) := by decide +kernel
theorem dX10_grows_21 : decode cX10_grows 21 = .ok (.iload_n 1, 1) := by decide +kernel
theorem dX10_grows_22 : decode cX10_grows 22 = .ok (.invokevirtual 136, 3) := by decide +kernel
theorem dX10_grows_25 : decode cX10_grows 25 = .ok (.goto 4, 3) := by decide +kernel
theorem dX10_grows_28 : decode cX10_grows 28 = .ok (.iconst (-1), 1) := by decide +kernel
theorem dX10_grows_29 : decode cX10_grows 29 = .ok (.ireturn, 1) := by decide +kernel
theorem dX10_learn_0 : decode cX10_learn 0 = .ok (.iload_n 1, 1) := by decide +kernel
theorem dX10_learn_1 : decode cX10_learn 1 = .ok (.iload_n 2, 1) := by decide +kernel
theorem dX10_learn_2 : decode cX10_learn 2 = .ok (.invokestatic 87, 3) := by decide +kernel
theorem dX10_learn_5 : decode cX10_learn 5 = .ok (.ifCond .eq 25, 3) := by decide +kernel
theorem dX10_learn_8 : decode cX10_learn 8 = .ok (.iload 4, 2) := by decide +kernel
theorem dX10_learn_10 : decode cX10_learn 10 = .ok (.iconst 1, 1) := by decide +kernel
theorem dX10_learn_11 : decode cX10_learn 11 = .ok (.bipush 8, 2) := by decide +kernel
theorem dX10_learn_13 : decode cX10_learn 13 = .ok (.invokestatic 69, 3) := by decide +kernel
theorem dX10_learn_16 : decode cX10_learn 16 = .ok (.ifCond .eq 14, 3) := by decide +kernel
theorem dX10_learn_19 : decode cX10_learn 19 = .ok (.iload 5, 2) := by decide +kernel
theorem dX10_learn_21 : decode cX10_learn 21 = .ok (.iconst 0, 1) := by decide +kernel
theorem dX10_learn_22 : decode cX10_learn 22 = .ok (.bipush 9, 2) := by decide +kernel
theorem dX10_learn_24 : decode cX10_learn 24 = .ok (.invokestatic 69, 3) := by decide +kernel
theorem dX10_learn_27 : decode cX10_learn 27 = .ok (.ifCond .ne 5, 3) := by decide +kernel
theorem dX10_learn_30 : decode cX10_learn 30 = .ok (.iconst (-1), 1) := by decide +kernel
theorem dX10_learn_31 : decode cX10_learn 31 = .ok (.ireturn, 1) := by decide +kernel
theorem dX10_learn_32 : decode cX10_learn 32 = .ok (.aload_n 0, 1) := by decide +kernel
theorem dX10_learn_33 : decode cX10_learn 33 = .ok (.getfield 43, 3) := by decide +kernel
theorem dX10_learn_36 : decode cX10_learn 36 = .ok (.iload_n 1, 1) := by decide +kernel
theorem dX10_learn_37 : decode cX10_learn 37 = .ok (.aaload, 1) := by decide +kernel
theorem dX10_learn_38 : decode cX10_learn 38 = .ok (.astore 6, 2) := by decide +kernel
theorem dX10_learn_40 : decode cX10_learn 40 = .ok (.aload 6, 2) := by decide +kernel
theorem dX10_learn_42 : decode cX10_learn 42 = .ok (.iload_n 2, 1) := by decide +kernel
theorem dX10_learn_43 : decode cX10_learn 43 = .ok (.iload_n 3, 1) := by decide +kernel
theorem dX10_learn_44 : decode cX10_learn 44 = .ok (.iconst 2, 1) := by decide +kernel
theorem dX10_learn_45 : decode cX10_learn 45 = .ok (.iload 4, 2) := by decide +kernel
theorem dX10_learn_47 : decode cX10_learn 47 = .ok (.imul, 1) := by decide +kernel
theorem dX10_learn_48 : decode cX10_learn 48 = .ok (.invokevirtual 90, 3) := by decide +kernel
theorem dX10_learn_51 : decode cX10_learn 51 = .ok (.istore 7, 2) := by decide +kernel
theorem dX10_learn_53 : decode cX10_learn 53 = .ok (.iload 7, 2) := by decide +kernel
theorem dX10_learn_55 : decode cX10_learn 55 = .ok (.ifCond .eq 6, 3) := by decide +kernel
theorem dX10_learn_58 : decode cX10_learn 58 = .ok (.iload 7, 2) := by decide +kernel
theorem dX10_learn_60 : decode cX10_learn 60 = .ok (.ireturn, 1) := by decide +kernel
theorem dX10_learn_61 : decode cX10_learn 61 = .ok (.iconst 0, 1) := by decide +kernel
theorem dX10_learn_62 : decode cX10_learn 62 = .ok (.istore 8, 2) := by decide +kernel
theorem dX10_learn_64 : decode cX10_learn 64 = .ok (.iload 8, 2) := by decide +kernel
theorem dX10_learn_66 : decode cX10_learn 66 = .ok (.iload 4, 2) := by decide +kernel
theorem dX10_learn_68 : decode cX10_learn 68 = .ok (.if_icmp .ge 30, 3) := by decide +kernel
theorem dX10_learn_71 : decode cX10_learn 71 = .ok (.aload 6, 2) := by decide +kernel
theorem dX10_learn_73 : decode cX10_learn 73 = .ok (.getfield 94, 3) := by decide +kernel
theorem dX10_learn_76 : decode cX10_learn 76 = .ok (.iload_n 3, 1) := by decide +kernel
theorem dX10_learn_77 : decode cX10_learn 77 = .ok (.iconst 2, 1) := by decide +kernel
theorem dX10_learn_78 : decode cX10_learn 78 = .ok (.iload 8, 2) := by decide +kernel
theorem dX10_learn_80 : decode cX10_learn 80 = .ok (.imul, 1) := by decide +kernel
theorem dX10_learn_81 : decode cX10_learn 81 = .ok (.iadd, 1) := by decide +kernel
theorem dX10_learn_82 : decode cX10_learn 82 = .ok (.iaload, 1) := by decide +kernel
theorem dX10_learn_83 : decode cX10_learn 83 = .ok (.invokestatic 65, 3) := by decide +kernel
theorem dX10_learn_86 : decode cX10_learn 86 = .ok (.ifCond .ne 6, 3) := by decide +kernel
theorem dX10_learn_89 : decode cX10_learn 89 = .ok (.bipush (-2), 2) := by decide +kernel
theorem dX10_learn_91 : decode cX10_learn 91 = .ok (.ireturn, 1) := by decide +kernel
theorem dX10_learn_92 : decode cX10_learn 92 = .ok (.iinc 8 1, 3) := by decide +kernel
theorem dX10_learn_95 : decode cX10_learn 95 = .ok (.goto (-31), 3) := by decide +kernel
theorem dX10_learn_98 : decode cX10_learn 98 = .ok (.iconst 0, 1) := by decide +kernel
theorem dX10_learn_99 : decode cX10_learn 99 = .ok (.istore 8, 2) := by decide +kernel
theorem dX10_learn_101 : decode cX10_learn 101 = .ok (.iconst 1, 1) := by decide +kernel
theorem dX10_learn_102 : decode cX10_learn 102 = .ok (.istore 9, 2) := by decide +kernel
theorem dX10_learn_104 : decode cX10_learn 104 = .ok (.iload 9, 2) := by decide +kernel
theorem dX10_learn_106 : decode cX10_learn 106 = .ok (.iconst 5, 1) := by decide +kernel
theorem dX10_learn_107 : decode cX10_learn 107 = .ok (.if_icmp .gt 36, 3) := by decide +kernel
theorem dX10_learn_110 : decode cX10_learn 110 = .ok (.aload_n 0, 1) := by decide +kernel
theorem dX10_learn_111 : decode cX10_learn 111 = .ok (.aload 6, 2) := by decide +kernel
theorem dX10_learn_113 : decode cX10_learn 113 = .ok (.iload_n 3, 1) := by decide +kernel
theorem dX10_learn_114 : decode cX10_learn 114 = .ok (.iload 4, 2) := by decide +kernel
theorem dX10_learn_116 : decode cX10_learn 116 = .ok (.iload 5, 2) := by decide +kernel
theorem dX10_learn_118 : decode cX10_learn 118 = .ok (.iload 9, 2) := by decide +kernel
theorem dX10_learn_120 : decode cX10_learn 120 = .ok (.invokevirtual 140, 3) := by decide +kernel
theorem dX10_learn_123 : decode cX10_learn 123 = .ok (.ifCond .eq 14, 3) := by decide +kernel
theorem dX10_learn_126 : decode cX10_learn 126 = .ok (.iload 8, 2) := by decide +kernel
theorem dX10_learn_128 : decode cX10_learn 128 = .ok (.iconst 1, 1) := by decide +kernel
theorem dX10_learn_129 : decode cX10_learn 129 = .ok (.iload 9, 2) := by decide +kernel
theorem dX10_learn_131 : decode cX10_learn 131 = .ok (.iconst 1, 1) := by decide +kernel
theorem dX10_learn_132 : decode cX10_learn 132 = .ok (.isub, 1) := by decide +kernel
theorem dX10_learn_133 : decode cX10_learn 133 = .ok (.ishl, 1) := by decide +kernel
theorem dX10_learn_134 : decode cX10_learn 134 = .ok (.ior, 1) := by decide +kernel
theorem dX10_learn_135 : decode cX10_learn 135 = .ok (.istore 8, 2) := by decide +kernel
theorem dX10_learn_137 : decode cX10_learn 137 = .ok (.iinc 9 1, 3) := by decide +kernel
theorem dX10_learn_140 : decode cX10_learn 140 = .ok (.goto (-36), 3) := by decide +kernel
theorem dX10_learn_143 : decode cX10_learn 143 = .ok (.iload 8, 2) := by decide +kernel
theorem dX10_learn_145 : decode cX10_learn 145 = .ok (.ifCond .ne 8, 3) := by decide +kernel
theorem dX10_learn_148 : decode cX10_learn 148 = .ok (.bipush (-4), 2) := by decide +kernel
theorem dX10_learn_150 : decode cX10_learn 150 = .ok (.goto 5, 3) := by decide +kernel
theorem dX10_learn_153 : decode cX10_learn 153 = .ok (.iload 8, 2) := by decide +kernel
theorem dX10_learn_155 : decode cX10_learn 155 = .ok (.ireturn, 1) := by decide +kernel
theorem dX10_fitsBuckets_0 : decode cX10_fitsBuckets 0 = .ok (.iconst 0, 1) := by decide +kernel
theorem dX10_fitsBuckets_1 : decode cX10_fitsBuckets 1 = .ok (.istore 6, 2) := by decide +kernel
theorem dX10_fitsBuckets_3 : decode cX10_fitsBuckets 3 = .ok (.iload 6, 2) := by decide +kernel
theorem dX10_fitsBuckets_5 : decode cX10_fitsBuckets 5 = .ok (.iload_n 3, 1) := by decide +kernel
theorem dX10_fitsBuckets_6 : decode cX10_fitsBuckets 6 = .ok (.if_icmp .ge 83, 3) := by decide +kernel
theorem dX10_fitsBuckets_9 : decode cX10_fitsBuckets 9 = .ok (.aload_n 0, 1) := by decide +kernel
theorem dX10_fitsBuckets_10 : decode cX10_fitsBuckets 10 = .ok (.getfield 12, 3) := by decide +kernel
theorem dX10_fitsBuckets_13 : decode cX10_fitsBuckets 13 = .ok (.getfield 79, 3) := by decide +kernel
theorem dX10_fitsBuckets_16 : decode cX10_fitsBuckets 16 = .ok (.aload_n 1, 1) := by decide +kernel
theorem dX10_fitsBuckets_17 : decode cX10_fitsBuckets 17 = .ok (.getfield 94, 3) := by decide +kernel
theorem dX10_fitsBuckets_20 : decode cX10_fitsBuckets 20 = .ok (.iload_n 2, 1) := by decide +kernel
theorem dX10_fitsBuckets_21 : decode cX10_fitsBuckets 21 = .ok (.iconst 2, 1) := by decide +kernel
theorem dX10_fitsBuckets_22 : decode cX10_fitsBuckets 22 = .ok (.iload 6, 2) := by decide +kernel
theorem dX10_fitsBuckets_24 : decode cX10_fitsBuckets 24 = .ok (.imul, 1) := by decide +kernel
theorem dX10_fitsBuckets_25 : decode cX10_fitsBuckets 25 = .ok (.iadd, 1) := by decide +kernel
theorem dX10_fitsBuckets_26 : decode cX10_fitsBuckets 26 = .ok (.iaload, 1) := by decide +kernel
theorem dX10_fitsBuckets_27 : decode cX10_fitsBuckets 27 = .ok (.iload 5, 2) := by decide +kernel
theorem dX10_fitsBuckets_29 : decode cX10_fitsBuckets 29 = .ok (.invokevirtual 109, 3) := by decide +kernel
theorem dX10_fitsBuckets_32 : decode cX10_fitsBuckets 32 = .ok (.istore 7, 2) := by decide +kernel
theorem dX10_fitsBuckets_34 : decode cX10_fitsBuckets 34 = .ok (.iload 7, 2) := by decide +kernel
theorem dX10_fitsBuckets_36 : decode cX10_fitsBuckets 36 = .ok (.i2l, 1) := by decide +kernel
theorem dX10_fitsBuckets_37 : decode cX10_fitsBuckets 37 = .ok (.aload_n 1, 1) := by decide +kernel
theorem dX10_fitsBuckets_38 : decode cX10_fitsBuckets 38 = .ok (.getfield 94, 3) := by decide +kernel
theorem dX10_fitsBuckets_41 : decode cX10_fitsBuckets 41 = .ok (.iload_n 2, 1) := by decide +kernel
theorem dX10_fitsBuckets_42 : decode cX10_fitsBuckets 42 = .ok (.iconst 2, 1) := by decide +kernel
theorem dX10_fitsBuckets_43 : decode cX10_fitsBuckets 43 = .ok (.iload 6, 2) := by decide +kernel
theorem dX10_fitsBuckets_45 : decode cX10_fitsBuckets 45 = .ok (.imul, 1) := by decide +kernel
theorem dX10_fitsBuckets_46 : decode cX10_fitsBuckets 46 = .ok (.iadd, 1) := by decide +kernel
theorem dX10_fitsBuckets_47 : decode cX10_fitsBuckets 47 = .ok (.iconst 1, 1) := by decide +kernel
theorem dX10_fitsBuckets_48 : decode cX10_fitsBuckets 48 = .ok (.iadd, 1) := by decide +kernel
theorem dX10_fitsBuckets_49 : decode cX10_fitsBuckets 49 = .ok (.iaload, 1) := by decide +kernel
theorem dX10_fitsBuckets_50 : decode cX10_fitsBuckets 50 = .ok (.i2l, 1) := by decide +kernel
theorem dX10_fitsBuckets_51 : decode cX10_fitsBuckets 51 = .ok (.lsub, 1) := by decide +kernel
theorem dX10_fitsBuckets_52 : decode cX10_fitsBuckets 52 = .ok (.lstore 8, 2) := by decide +kernel
theorem dX10_fitsBuckets_54 : decode cX10_fitsBuckets 54 = .ok (.iload 7, 2) := by decide +kernel
theorem dX10_fitsBuckets_56 : decode cX10_fitsBuckets 56 = .ok (.sipush (-1004), 3) := by decide +kernel
theorem dX10_fitsBuckets_59 : decode cX10_fitsBuckets 59 = .ok (.if_icmp .eq 22, 3) := by decide +kernel
theorem dX10_fitsBuckets_62 : decode cX10_fitsBuckets 62 = .ok (.lload 8, 2) := by decide +kernel
theorem dX10_fitsBuckets_64 : decode cX10_fitsBuckets 64 = .ok (.iload 4, 2) := by decide +kernel
theorem dX10_fitsBuckets_66 : decode cX10_fitsBuckets 66 = .ok (.i2l, 1) := by decide +kernel
theorem dX10_fitsBuckets_67 : decode cX10_fitsBuckets 67 = .ok (.lcmp, 1) := by decide +kernel
theorem dX10_fitsBuckets_68 : decode cX10_fitsBuckets 68 = .ok (.ifCond .gt 13, 3) := by decide +kernel
theorem dX10_fitsBuckets_71 : decode cX10_fitsBuckets 71 = .ok (.lload 8, 2) := by decide +kernel
theorem dX10_fitsBuckets_73 : decode cX10_fitsBuckets 73 = .ok (.iload 4, 2) := by decide +kernel
theorem dX10_fitsBuckets_75 : decode cX10_fitsBuckets 75 = .ok (.ineg, 1) := by decide +kernel
theorem dX10_fitsBuckets_76 : decode cX10_fitsBuckets 76 = .ok (.i2l, 1) := by decide +kernel
theorem dX10_fitsBuckets_77 : decode cX10_fitsBuckets 77 = .ok (.lcmp, 1) := by decide +kernel
theorem dX10_fitsBuckets_78 : decode cX10_fitsBuckets 78 = .ok (.ifCond .ge 5, 3) := by decide +kernel
theorem dX10_fitsBuckets_81 : decode cX10_fitsBuckets 81 = .ok (.iconst 0, 1) := by decide +kernel
theorem dX10_fitsBuckets_82 : decode cX10_fitsBuckets 82 = .ok (.ireturn, 1) := by decide +kernel
theorem dX10_fitsBuckets_83 : decode cX10_fitsBuckets 83 = .ok (.iinc 6 1, 3) := by decide +kernel
theorem dX10_fitsBuckets_86 : decode cX10_fitsBuckets 86 = .ok (.goto (-83), 3) := by decide +kernel
theorem dX10_fitsBuckets_89 : decode cX10_fitsBuckets 89 = .ok (.iconst 1, 1) := by decide +kernel
theorem dX10_fitsBuckets_90 : decode cX10_fitsBuckets 90 = .ok (.ireturn, 1) := by decide +kernel
theorem dX10_make_0 : decode cX10_make 0 = .ok (.iload_n 1, 1) := by decide +kernel
theorem dX10_make_1 : decode cX10_make 1 = .ok (.invokestatic 144, 3) := by decide +kernel
theorem dX10_make_4 : decode cX10_make 4 = .ok (.ifCond .ne 5, 3) := by decide +kernel
theorem dX10_make_7 : decode cX10_make 7 = .ok (.iconst (-1), 1) := by decide +kernel
theorem dX10_make_8 : decode cX10_make 8 = .ok (.ireturn, 1) := by decide +kernel
theorem dX10_make_9 : decode cX10_make 9 = .ok (.aload_n 0, 1) := by decide +kernel
theorem dX10_make_10 : decode cX10_make 10 = .ok (.getfield 12, 3) := by decide +kernel
theorem dX10_make_13 : decode cX10_make 13 = .ok (.getfield 126, 3) := by decide +kernel
theorem dX10_make_16 : decode cX10_make 16 = .ok (.getfield 133, 3) := by decide +kernel
theorem dX10_make_19 : decode cX10_make 19 = .ok (.ifCond .ne 6, 3) := by decide +kernel
theorem dX10_make_22 : decode cX10_make 22 = .ok (.bipush (-2), 2) := by decide +kernel
theorem dX10_make_24 : decode cX10_make 24 = .ok (.ireturn, 1) := by decide +kernel
theorem dX10_make_25 : decode cX10_make 25 = .ok (.aload_n 0, 1) := by decide +kernel
theorem dX10_make_26 : decode cX10_make 26 = .ok (.getfield 12, 3) := by decide +kernel
theorem dX10_make_29 : decode cX10_make 29 = .ok (.getfield 147, 3) := by decide +kernel
theorem dX10_make_32 : decode cX10_make 32 = .ok (.iload_n 1, 1) := by decide +kernel
theorem dX10_make_33 : decode cX10_make 33 = .ok (.aaload, 1) := by decide +kernel
theorem dX10_make_34 : decode cX10_make 34 = .ok (.aload_n 0, 1) := by decide +kernel
theorem dX10_make_35 : decode cX10_make 35 = .ok (.getfield 12, 3) := by decide +kernel
theorem dX10_make_38 : decode cX10_make 38 = .ok (.getfield 79, 3) := by decide +kernel
theorem dX10_make_41 : decode cX10_make 41 = .ok (.aload_n 0, 1) := by decide +kernel
theorem dX10_make_42 : decode cX10_make 42 = .ok (.getfield 12, 3) := by decide +kernel
theorem dX10_make_45 : decode cX10_make 45 = .ok (.getfield 126, 3) := by decide +kernel
theorem dX10_make_48 : decode cX10_make 48 = .ok (.invokevirtual 151, 3) := by decide +kernel
theorem dX10_make_51 : decode cX10_make 51 = .ok (.aload_n 0, 1) := by decide +kernel
theorem dX10_make_52 : decode cX10_make 52 = .ok (.getfield 12, 3) := by decide +kernel
theorem dX10_make_55 : decode cX10_make 55 = .ok (.getfield 157, 3) := by decide +kernel
theorem dX10_make_58 : decode cX10_make 58 = .ok (.iload_n 1, 1) := by decide +kernel
theorem dX10_make_59 : decode cX10_make 59 = .ok (.iconst 0, 1) := by decide +kernel
theorem dX10_make_60 : decode cX10_make 60 = .ok (.invokevirtual 161, 3) := by decide +kernel
theorem dX10_make_63 : decode cX10_make 63 = .ok (.aload_n 0, 1) := by decide +kernel
theorem dX10_make_64 : decode cX10_make 64 = .ok (.getfield 54, 3) := by decide +kernel
theorem dX10_make_67 : decode cX10_make 67 = .ok (.iload_n 1, 1) := by decide +kernel
theorem dX10_make_68 : decode cX10_make 68 = .ok (.iconst 0, 1) := by decide +kernel
theorem dX10_make_69 : decode cX10_make 69 = .ok (.bastore, 1) := by decide +kernel
theorem dX10_make_70 : decode cX10_make 70 = .ok (.aload_n 0, 1) := by decide +kernel
theorem dX10_make_71 : decode cX10_make 71 = .ok (.getfield 12, 3) := by decide +kernel
theorem dX10_make_74 : decode cX10_make 74 = .ok (.getfield 147, 3) := by decide +kernel
theorem dX10_make_77 : decode cX10_make 77 = .ok (.iload_n 1, 1) := by decide +kernel
theorem dX10_make_78 : decode cX10_make 78 = .ok (.aaload, 1) := by decide +kernel
theorem dX10_make_79 : decode cX10_make 79 = .ok (.getfield 167, 3) := by decide +kernel
theorem dX10_make_82 : decode cX10_make 82 = .ok (.ireturn, 1) := by decide +kernel
theorem dX10_truth_0 : decode cX10_truth 0 = .ok (.aload_n 0, 1) := by decide +kernel
theorem dX10_truth_1 : decode cX10_truth 1 = .ok (.iload_n 1, 1) := by decide +kernel
theorem dX10_truth_2 : decode cX10_truth 2 = .ok (.iload_n 2, 1) := by decide +kernel
theorem dX10_truth_3 : decode cX10_truth 3 = .ok (.invokevirtual 170, 3) := by decide +kernel
theorem dX10_truth_6 : decode cX10_truth 6 = .ok (.ifCond .ne 5, 3) := by decide +kernel
theorem dX10_truth_9 : decode cX10_truth 9 = .ok (.iconst (-1), 1) := by decide +kernel
theorem dX10_truth_10 : decode cX10_truth 10 = .ok (.ireturn, 1) := by decide +kernel
theorem dX10_truth_11 : decode cX10_truth 11 = .ok (.aload_n 0, 1) := by decide +kernel
theorem dX10_truth_12 : decode cX10_truth 12 = .ok (.getfield 12, 3) := by decide +kernel
theorem dX10_truth_15 : decode cX10_truth 15 = .ok (.getfield 147, 3) := by decide +kernel
theorem dX10_truth_18 : decode cX10_truth 18 = .ok (.iload_n 1, 1) := by decide +kernel
theorem dX10_truth_19 : decode cX10_truth 19 = .ok (.aaload, 1) := by decide +kernel
theorem dX10_truth_20 : decode cX10_truth 20 = .ok (.astore_n 3, 1) := by decide +kernel
theorem dX10_truth_21 : decode cX10_truth 21 = .ok (.aload_n 3, 1) := by decide +kernel
theorem dX10_truth_22 : decode cX10_truth 22 = .ok (.getfield 173, 3) := by decide +kernel
theorem dX10_truth_25 : decode cX10_truth 25 = .ok (.ifCond .ne 6, 3) := by decide +kernel
theorem dX10_truth_28 : decode cX10_truth 28 = .ok (.bipush (-2), 2) := by decide +kernel
theorem dX10_truth_30 : decode cX10_truth 30 = .ok (.ireturn, 1) := by decide +kernel
theorem dX10_truth_31 : decode cX10_truth 31 = .ok (.aload_n 3, 1) := by decide +kernel
theorem dX10_truth_32 : decode cX10_truth 32 = .ok (.iload_n 2, 1) := by decide +kernel
theorem dX10_truth_33 : decode cX10_truth 33 = .ok (.invokevirtual 177, 3) := by decide +kernel
theorem dX10_truth_36 : decode cX10_truth 36 = .ok (.ifCond .eq 12, 3) := by decide +kernel
theorem dX10_truth_39 : decode cX10_truth 39 = .ok (.aload_n 3, 1) := by decide +kernel
theorem dX10_truth_40 : decode cX10_truth 40 = .ok (.getfield 180, 3) := by decide +kernel
theorem dX10_truth_43 : decode cX10_truth 43 = .ok (.iload_n 2, 1) := by decide +kernel
theorem dX10_truth_44 : decode cX10_truth 44 = .ok (.iaload, 1) := by decide +kernel
theorem dX10_truth_45 : decode cX10_truth 45 = .ok (.goto 5, 3) := by decide +kernel
theorem dX10_truth_48 : decode cX10_truth 48 = .ok (.bipush (-12), 2) := by decide +kernel
theorem dX10_truth_50 : decode cX10_truth 50 = .ok (.ireturn, 1) := by decide +kernel
theorem dX10_put_0 : decode cX10_put 0 = .ok (.iload_n 1, 1) := by decide +kernel
theorem dX10_put_1 : decode cX10_put 1 = .ok (.invokestatic 144, 3) := by decide +kernel
theorem dX10_put_4 : decode cX10_put 4 = .ok (.ifCond .eq 12, 3) := by decide +kernel
theorem dX10_put_7 : decode cX10_put 7 = .ok (.iload_n 2, 1) := by decide +kernel
theorem dX10_put_8 : decode cX10_put 8 = .ok (.iconst 0, 1) := by decide +kernel
theorem dX10_put_9 : decode cX10_put 9 = .ok (.iconst 2, 1) := by decide +kernel
theorem dX10_put_10 : decode cX10_put 10 = .ok (.invokestatic 69, 3) := by decide +kernel
theorem dX10_put_13 : decode cX10_put 13 = .ok (.ifCond .ne 5, 3) := by decide +kernel
theorem dX10_put_16 : decode cX10_put 16 = .ok (.iconst (-1), 1) := by decide +kernel
theorem dX10_put_17 : decode cX10_put 17 = .ok (.ireturn, 1) := by decide +kernel
theorem dX10_put_18 : decode cX10_put 18 = .ok (.iload_n 2, 1) := by decide +kernel
theorem dX10_put_19 : decode cX10_put 19 = .ok (.ifCond .ne 17, 3) := by decide +kernel
theorem dX10_put_22 : decode cX10_put 22 = .ok (.iload_n 3, 1) := by decide +kernel
theorem dX10_put_23 : decode cX10_put 23 = .ok (.bipush (-50), 2) := by decide +kernel
theorem dX10_put_25 : decode cX10_put 25 = .ok (.bipush 50, 2) := by decide +kernel
theorem dX10_put_27 : decode cX10_put 27 = .ok (.invokestatic 69, 3) := by decide +kernel
theorem dX10_put_30 : decode cX10_put 30 = .ok (.ifCond .ne 12, 3) := by decide +kernel
theorem dX10_put_33 : decode cX10_put 33 = .ok (.goto 7, 3) := by decide +kernel
theorem dX10_put_36 : decode cX10_put 36 = .ok (.iload_n 3, 1) := by decide +kernel
theorem dX10_put_37 : decode cX10_put 37 = .ok (.ifCond .eq 5, 3) := by decide +kernel
theorem dX10_put_40 : decode cX10_put 40 = .ok (.iconst (-1), 1) := by decide +kernel
theorem dX10_put_41 : decode cX10_put 41 = .ok (.ireturn, 1) := by decide +kernel
theorem dX10_put_42 : decode cX10_put 42 = .ok (.aload_n 0, 1) := by decide +kernel
theorem dX10_put_43 : decode cX10_put 43 = .ok (.getfield 12, 3) := by decide +kernel
theorem dX10_put_46 : decode cX10_put 46 = .ok (.getfield 147, 3) := by decide +kernel
theorem dX10_put_49 : decode cX10_put 49 = .ok (.iload_n 1, 1) := by decide +kernel
theorem dX10_put_50 : decode cX10_put 50 = .ok (.aaload, 1) := by decide +kernel
theorem dX10_put_51 : decode cX10_put 51 = .ok (.astore 4, 2) := by decide +kernel
theorem dX10_put_53 : decode cX10_put 53 = .ok (.aload 4, 2) := by decide +kernel
theorem dX10_put_55 : decode cX10_put 55 = .ok (.getfield 167, 3) := by decide +kernel
theorem dX10_put_58 : decode cX10_put 58 = .ok (.bipush 12, 2) := by decide +kernel
theorem dX10_put_60 : decode cX10_put 60 = .ok (.if_icmp .ne 6, 3) := by decide +kernel
theorem dX10_put_63 : decode cX10_put 63 = .ok (.bipush (-3), 2) := by decide +kernel
theorem dX10_put_65 : decode cX10_put 65 = .ok (.ireturn, 1) := by decide +kernel
theorem dX10_put_66 : decode cX10_put 66 = .ok (.aload 4, 2) := by decide +kernel
theorem dX10_put_68 : decode cX10_put 68 = .ok (.iload_n 2, 1) := by decide +kernel
theorem dX10_put_69 : decode cX10_put 69 = .ok (.iload_n 3, 1) := by decide +kernel
theorem dX10_put_70 : decode cX10_put 70 = .ok (.iconst 0, 1) := by decide +kernel
theorem dX10_put_71 : decode cX10_put 71 = .ok (.invokevirtual 183, 3) := by decide +kernel
theorem dX10_put_74 : decode cX10_put 74 = .ok (.aload 4, 2) := by decide +kernel
theorem dX10_put_76 : decode cX10_put 76 = .ok (.iconst 0, 1) := by decide +kernel
theorem dX10_put_77 : decode cX10_put 77 = .ok (.putfield 173, 3) := by decide +kernel
theorem dX10_put_80 : decode cX10_put 80 = .ok (.aload_n 0, 1) := by decide +kernel
theorem dX10_put_81 : decode cX10_put 81 = .ok (.getfield 54, 3) := by decide +kernel
theorem dX10_put_84 : decode cX10_put 84 = .ok (.iload_n 1, 1) := by decide +kernel
theorem dX10_put_85 : decode cX10_put 85 = .ok (.iconst 0, 1) := by decide +kernel
theorem dX10_put_86 : decode cX10_put 86 = .ok (.bastore, 1) := by decide +kernel
theorem dX10_put_87 : decode cX10_put 87 = .ok (.aload 4, 2) := by decide +kernel
theorem dX10_put_89 : decode cX10_put 89 = .ok (.getfield 167, 3) := by decide +kernel
theorem dX10_put_92 : decode cX10_put 92 = .ok (.iconst 1, 1) := by decide +kernel
theorem dX10_put_93 : decode cX10_put 93 = .ok (.isub, 1) := by decide +kernel
theorem dX10_put_94 : decode cX10_put 94 = .ok (.ireturn, 1) := by decide +kernel
theorem dX10_cut_0 : decode cX10_cut 0 = .ok (.aload_n 0, 1) := by decide +kernel
theorem dX10_cut_1 : decode cX10_cut 1 = .ok (.iload_n 1, 1) := by decide +kernel
theorem dX10_cut_2 : decode cX10_cut 2 = .ok (.iload_n 2, 1) := by decide +kernel
theorem dX10_cut_3 : decode cX10_cut 3 = .ok (.invokevirtual 170, 3) := by decide +kernel
theorem dX10_cut_6 : decode cX10_cut 6 = .ok (.ifCond .ne 5, 3) := by decide +kernel
theorem dX10_cut_9 : decode cX10_cut 9 = .ok (.iconst (-1), 1) := by decide +kernel
theorem dX10_cut_10 : decode cX10_cut 10 = .ok (.ireturn, 1) := by decide +kernel
theorem dX10_cut_11 : decode cX10_cut 11 = .ok (.aload_n 0, 1) := by decide +kernel
theorem dX10_cut_12 : decode cX10_cut 12 = .ok (.getfield 12, 3) := by decide +kernel
theorem dX10_cut_15 : decode cX10_cut 15 = .ok (.getfield 147, 3) := by decide +kernel
theorem dX10_cut_18 : decode cX10_cut 18 = .ok (.iload_n 1, 1) := by decide +kernel
theorem dX10_cut_19 : decode cX10_cut 19 = .ok (.aaload, 1) := by decide +kernel
theorem dX10_cut_20 : decode cX10_cut 20 = .ok (.iload_n 2, 1) := by decide +kernel
theorem dX10_cut_21 : decode cX10_cut 21 = .ok (.invokevirtual 187, 3) := by decide +kernel
theorem dX10_cut_24 : decode cX10_cut 24 = .ok (.aload_n 0, 1) := by decide +kernel
theorem dX10_cut_25 : decode cX10_cut 25 = .ok (.getfield 12, 3) := by decide +kernel
theorem dX10_cut_28 : decode cX10_cut 28 = .ok (.getfield 157, 3) := by decide +kernel
theorem dX10_cut_31 : decode cX10_cut 31 = .ok (.iload_n 1, 1) := by decide +kernel
theorem dX10_cut_32 : decode cX10_cut 32 = .ok (.iload_n 2, 1) := by decide +kernel
theorem dX10_cut_33 : decode cX10_cut 33 = .ok (.invokevirtual 161, 3) := by decide +kernel
theorem dX10_cut_36 : decode cX10_cut 36 = .ok (.aload_n 0, 1) := by decide +kernel
theorem dX10_cut_37 : decode cX10_cut 37 = .ok (.getfield 54, 3) := by decide +kernel
theorem dX10_cut_40 : decode cX10_cut 40 = .ok (.iload_n 1, 1) := by decide +kernel
theorem dX10_cut_41 : decode cX10_cut 41 = .ok (.iconst 0, 1) := by decide +kernel
theorem dX10_cut_42 : decode cX10_cut 42 = .ok (.bastore, 1) := by decide +kernel
theorem dX10_cut_43 : decode cX10_cut 43 = .ok (.iload_n 2, 1) := by decide +kernel
theorem dX10_cut_44 : decode cX10_cut 44 = .ok (.ireturn, 1) := by decide +kernel
theorem dX10_thing_0 : decode cX10_thing 0 = .ok (.aload_n 0, 1) := by decide +kernel
theorem dX10_thing_1 : decode cX10_thing 1 = .ok (.iload_n 1, 1) := by decide +kernel
theorem dX10_thing_2 : decode cX10_thing 2 = .ok (.iload_n 2, 1) := by decide +kernel
theorem dX10_thing_3 : decode cX10_thing 3 = .ok (.invokevirtual 170, 3) := by decide +kernel
theorem dX10_thing_6 : decode cX10_thing 6 = .ok (.ifCond .eq 12, 3) := by decide +kernel
theorem dX10_thing_9 : decode cX10_thing 9 = .ok (.iload_n 3, 1) := by decide +kernel
theorem dX10_thing_10 : decode cX10_thing 10 = .ok (.iconst 0, 1) := by decide +kernel
theorem dX10_thing_11 : decode cX10_thing 11 = .ok (.iconst 1, 1) := by decide +kernel
theorem dX10_thing_12 : decode cX10_thing 12 = .ok (.invokestatic 69, 3) := by decide +kernel
theorem dX10_thing_15 : decode cX10_thing 15 = .ok (.ifCond .ne 7, 3) := by decide +kernel
theorem dX10_thing_18 : decode cX10_thing 18 = .ok (.sipush (-1001), 3) := by decide +kernel
theorem dX10_thing_21 : decode cX10_thing 21 = .ok (.ireturn, 1) := by decide +kernel
theorem dX10_thing_22 : decode cX10_thing 22 = .ok (.aload_n 0, 1) := by decide +kernel
theorem dX10_thing_23 : decode cX10_thing 23 = .ok (.getfield 12, 3) := by decide +kernel
theorem dX10_thing_26 : decode cX10_thing 26 = .ok (.getfield 147, 3) := by decide +kernel
theorem dX10_thing_29 : decode cX10_thing 29 = .ok (.iload_n 1, 1) := by decide +kernel
theorem dX10_thing_30 : decode cX10_thing 30 = .ok (.aaload, 1) := by decide +kernel
theorem dX10_thing_31 : decode cX10_thing 31 = .ok (.astore 4, 2) := by decide +kernel
theorem dX10_thing_33 : decode cX10_thing 33 = .ok (.iload_n 3, 1) := by decide +kernel
theorem dX10_thing_34 : decode cX10_thing 34 = .ok (.ifCond .ne 11, 3) := by decide +kernel
theorem dX10_thing_37 : decode cX10_thing 37 = .ok (.aload 4, 2) := by decide +kernel
theorem dX10_thing_39 : decode cX10_thing 39 = .ok (.getfield 191, 3) := by decide +kernel
theorem dX10_thing_42 : decode cX10_thing 42 = .ok (.iload_n 2, 1) := by decide +kernel
theorem dX10_thing_43 : decode cX10_thing 43 = .ok (.iaload, 1) := by decide +kernel
theorem dX10_thing_44 : decode cX10_thing 44 = .ok (.ireturn, 1) := by decide +kernel
theorem dX10_thing_45 : decode cX10_thing 45 = .ok (.aload 4, 2) := by decide +kernel
theorem dX10_thing_47 : decode cX10_thing 47 = .ok (.getfield 191, 3) := by decide +kernel
theorem dX10_thing_50 : decode cX10_thing 50 = .ok (.iload_n 2, 1) := by decide +kernel
theorem dX10_thing_51 : decode cX10_thing 51 = .ok (.iaload, 1) := by decide +kernel
theorem dX10_thing_52 : decode cX10_thing 52 = .ok (.ifCond .ne 13, 3) := by decide +kernel
theorem dX10_thing_55 : decode cX10_thing 55 = .ok (.aload 4, 2) := by decide +kernel
theorem dX10_thing_57 : decode cX10_thing 57 = .ok (.getfield 194, 3) := by decide +kernel
theorem dX10_thing_60 : decode cX10_thing 60 = .ok (.iload_n 2, 1) := by decide +kernel
theorem dX10_thing_61 : decode cX10_thing 61 = .ok (.iaload, 1) := by decide +kernel
theorem dX10_thing_62 : decode cX10_thing 62 = .ok (.goto 6, 3) := by decide +kernel
theorem dX10_thing_65 : decode cX10_thing 65 = .ok (.sipush (-1012), 3) := by decide +kernel
theorem dX10_thing_68 : decode cX10_thing 68 = .ok (.ireturn, 1) := by decide +kernel
theorem dX10_most_0 : decode cX10_most 0 = .ok (.iload_n 1, 1) := by decide +kernel
theorem dX10_most_1 : decode cX10_most 1 = .ok (.invokestatic 144, 3) := by decide +kernel
theorem dX10_most_4 : decode cX10_most 4 = .ok (.ifCond .eq 12, 3) := by decide +kernel
theorem dX10_most_7 : decode cX10_most 7 = .ok (.iload_n 2, 1) := by decide +kernel
theorem dX10_most_8 : decode cX10_most 8 = .ok (.iconst 1, 1) := by decide +kernel
theorem dX10_most_9 : decode cX10_most 9 = .ok (.iconst 4, 1) := by decide +kernel
theorem dX10_most_10 : decode cX10_most 10 = .ok (.invokestatic 69, 3) := by decide +kernel
theorem dX10_most_13 : decode cX10_most 13 = .ok (.ifCond .ne 5, 3) := by decide +kernel
theorem dX10_most_16 : decode cX10_most 16 = .ok (.iconst (-1), 1) := by decide +kernel
theorem dX10_most_17 : decode cX10_most 17 = .ok (.ireturn, 1) := by decide +kernel
theorem dX10_most_18 : decode cX10_most 18 = .ok (.aload_n 0, 1) := by decide +kernel
theorem dX10_most_19 : decode cX10_most 19 = .ok (.getfield 12, 3) := by decide +kernel
theorem dX10_most_22 : decode cX10_most 22 = .ok (.getfield 147, 3) := by decide +kernel
theorem dX10_most_25 : decode cX10_most 25 = .ok (.iload_n 1, 1) := by decide +kernel
theorem dX10_most_26 : decode cX10_most 26 = .ok (.aaload, 1) := by decide +kernel
theorem dX10_most_27 : decode cX10_most 27 = .ok (.getfield 197, 3) := by decide +kernel
theorem dX10_most_30 : decode cX10_most 30 = .ok (.istore_n 3, 1) := by decide +kernel
theorem dX10_most_31 : decode cX10_most 31 = .ok (.aload_n 0, 1) := by decide +kernel
theorem dX10_most_32 : decode cX10_most 32 = .ok (.getfield 12, 3) := by decide +kernel
theorem dX10_most_35 : decode cX10_most 35 = .ok (.getfield 147, 3) := by decide +kernel
theorem dX10_most_38 : decode cX10_most 38 = .ok (.iload_n 1, 1) := by decide +kernel
theorem dX10_most_39 : decode cX10_most 39 = .ok (.aaload, 1) := by decide +kernel
theorem dX10_most_40 : decode cX10_most 40 = .ok (.iload_n 2, 1) := by decide +kernel
theorem dX10_most_41 : decode cX10_most 41 = .ok (.putfield 197, 3) := by decide +kernel
theorem dX10_most_44 : decode cX10_most 44 = .ok (.aload_n 0, 1) := by decide +kernel
theorem dX10_most_45 : decode cX10_most 45 = .ok (.getfield 54, 3) := by decide +kernel
theorem dX10_most_48 : decode cX10_most 48 = .ok (.iload_n 1, 1) := by decide +kernel
theorem dX10_most_49 : decode cX10_most 49 = .ok (.iconst 0, 1) := by decide +kernel
theorem dX10_most_50 : decode cX10_most 50 = .ok (.bastore, 1) := by decide +kernel
theorem dX10_most_51 : decode cX10_most 51 = .ok (.iload_n 3, 1) := by decide +kernel
theorem dX10_most_52 : decode cX10_most 52 = .ok (.ireturn, 1) := by decide +kernel
theorem dX10_stretch_0 : decode cX10_stretch 0 = .ok (.aload_n 0, 1) := by decide +kernel
theorem dX10_stretch_1 : decode cX10_stretch 1 = .ok (.iload_n 1, 1) := by decide +kernel
theorem dX10_stretch_2 : decode cX10_stretch 2 = .ok (.iload_n 3, 1) := by decide +kernel
theorem dX10_stretch_3 : decode cX10_stretch 3 = .ok (.invokevirtual 170, 3) := by decide +kernel
theorem dX10_stretch_6 : decode cX10_stretch 6 = .ok (.ifCond .eq 28, 3) := by decide +kernel
theorem dX10_stretch_9 : decode cX10_stretch 9 = .ok (.aload_n 0, 1) := by decide +kernel
theorem dX10_stretch_10 : decode cX10_stretch 10 = .ok (.iload_n 1, 1) := by decide +kernel
theorem dX10_stretch_11 : decode cX10_stretch 11 = .ok (.iload 4, 2) := by decide +kernel
theorem dX10_stretch_13 : decode cX10_stretch 13 = .ok (.invokevirtual 170, 3) := by decide +kernel
theorem dX10_stretch_16 : decode cX10_stretch 16 = .ok (.ifCond .eq 18, 3) := by decide +kernel
theorem dX10_stretch_19 : decode cX10_stretch 19 = .ok (.iload_n 3, 1) := by decide +kernel
theorem dX10_stretch_20 : decode cX10_stretch 20 = .ok (.iload 4, 2) := by decide +kernel
theorem dX10_stretch_22 : decode cX10_stretch 22 = .ok (.if_icmp .gt 12, 3) := by decide +kernel
theorem dX10_stretch_25 : decode cX10_stretch 25 = .ok (.iload_n 2, 1) := by decide +kernel
theorem dX10_stretch_26 : decode cX10_stretch 26 = .ok (.iload 5, 2) := by decide +kernel
theorem dX10_stretch_28 : decode cX10_stretch 28 = .ok (.invokestatic 200, 3) := by decide +kernel
theorem dX10_stretch_31 : decode cX10_stretch 31 = .ok (.ifCond .ne 5, 3) := by decide +kernel
theorem dX10_stretch_34 : decode cX10_stretch 34 = .ok (.iconst (-1), 1) := by decide +kernel
theorem dX10_stretch_35 : decode cX10_stretch 35 = .ok (.ireturn, 1) := by decide +kernel
theorem dX10_stretch_36 : decode cX10_stretch 36 = .ok (.aload_n 0, 1) := by decide +kernel
theorem dX10_stretch_37 : decode cX10_stretch 37 = .ok (.getfield 12, 3) := by decide +kernel
theorem dX10_stretch_40 : decode cX10_stretch 40 = .ok (.getfield 147, 3) := by decide +kernel
theorem dX10_stretch_43 : decode cX10_stretch 43 = .ok (.iload_n 1, 1) := by decide +kernel
theorem dX10_stretch_44 : decode cX10_stretch 44 = .ok (.aaload, 1) := by decide +kernel
theorem dX10_stretch_45 : decode cX10_stretch 45 = .ok (.astore 6, 2) := by decide +kernel
theorem dX10_stretch_47 : decode cX10_stretch 47 = .ok (.aload 6, 2) := by decide +kernel
theorem dX10_stretch_49 : decode cX10_stretch 49 = .ok (.iload_n 3, 1) := by decide +kernel
theorem dX10_stretch_50 : decode cX10_stretch 50 = .ok (.invokevirtual 177, 3) := by decide +kernel
theorem dX10_stretch_53 : decode cX10_stretch 53 = .ok (.ifCond .eq 13, 3) := by decide +kernel
theorem dX10_stretch_56 : decode cX10_stretch 56 = .ok (.aload 6, 2) := by decide +kernel
theorem dX10_stretch_58 : decode cX10_stretch 58 = .ok (.iload 4, 2) := by decide +kernel
theorem dX10_stretch_60 : decode cX10_stretch 60 = .ok (.invokevirtual 177, 3) := by decide +kernel
theorem dX10_stretch_63 : decode cX10_stretch 63 = .ok (.ifCond .ne 6, 3) := by decide +kernel
theorem dX10_stretch_66 : decode cX10_stretch 66 = .ok (.bipush (-12), 2) := by decide +kernel
theorem dX10_stretch_68 : decode cX10_stretch 68 = .ok (.ireturn, 1) := by decide +kernel
theorem dX10_stretch_69 : decode cX10_stretch 69 = .ok (.aload 6, 2) := by decide +kernel
theorem dX10_stretch_71 : decode cX10_stretch 71 = .ok (.getfield 203, 3) := by decide +kernel
theorem dX10_stretch_74 : decode cX10_stretch 74 = .ok (.bipush 6, 2) := by decide +kernel
theorem dX10_stretch_76 : decode cX10_stretch 76 = .ok (.if_icmp .ne 6, 3) := by decide +kernel
theorem dX10_stretch_79 : decode cX10_stretch 79 = .ok (.bipush (-3), 2) := by decide +kernel
theorem dX10_stretch_81 : decode cX10_stretch 81 = .ok (.ireturn, 1) := by decide +kernel
theorem dX10_stretch_82 : decode cX10_stretch 82 = .ok (.aload 6, 2) := by decide +kernel
theorem dX10_stretch_84 : decode cX10_stretch 84 = .ok (.iload_n 2, 1) := by decide +kernel
theorem dX10_stretch_85 : decode cX10_stretch 85 = .ok (.iload_n 3, 1) := by decide +kernel
theorem dX10_stretch_86 : decode cX10_stretch 86 = .ok (.iload 4, 2) := by decide +kernel
theorem dX10_stretch_88 : decode cX10_stretch 88 = .ok (.iload 5, 2) := by decide +kernel
theorem dX10_stretch_90 : decode cX10_stretch 90 = .ok (.invokevirtual 206, 3) := by decide +kernel
theorem dX10_stretch_93 : decode cX10_stretch 93 = .ok (.aload_n 0, 1) := by decide +kernel
theorem dX10_stretch_94 : decode cX10_stretch 94 = .ok (.getfield 54, 3) := by decide +kernel
theorem dX10_stretch_97 : decode cX10_stretch 97 = .ok (.iload_n 1, 1) := by decide +kernel
theorem dX10_stretch_98 : decode cX10_stretch 98 = .ok (.iconst 0, 1) := by decide +kernel
theorem dX10_stretch_99 : decode cX10_stretch 99 = .ok (.bastore, 1) := by decide +kernel
theorem dX10_stretch_100 : decode cX10_stretch 100 = .ok (.aload 6, 2) := by decide +kernel
theorem dX10_stretch_102 : decode cX10_stretch 102 = .ok (.getfield 203, 3) := by decide +kernel
theorem dX10_stretch_105 : decode cX10_stretch 105 = .ok (.ireturn, 1) := by decide +kernel
theorem dX10_fitsStretch_0 : decode cX10_fitsStretch 0 = .ok (.iload_n 0, 1) := by decide +kernel
theorem dX10_fitsStretch_1 : decode cX10_fitsStretch 1 = .ok (.ifCond .ne 13, 3) := by decide +kernel
theorem dX10_fitsStretch_4 : decode cX10_fitsStretch 4 = .ok (.iload_n 1, 1) := by decide +kernel
theorem dX10_fitsStretch_5 : decode cX10_fitsStretch 5 = .ok (.ifCond .ne 7, 3) := by decide +kernel
theorem dX10_fitsStretch_8 : decode cX10_fitsStretch 8 = .ok (.iconst 1, 1) := by decide +kernel
theorem dX10_fitsStretch_9 : decode cX10_fitsStretch 9 = .ok (.goto 4, 3) := by decide +kernel
theorem dX10_fitsStretch_12 : decode cX10_fitsStretch 12 = .ok (.iconst 0, 1) := by decide +kernel
theorem dX10_fitsStretch_13 : decode cX10_fitsStretch 13 = .ok (.ireturn, 1) := by decide +kernel
theorem dX10_fitsStretch_14 : decode cX10_fitsStretch 14 = .ok (.iload_n 0, 1) := by decide +kernel
theorem dX10_fitsStretch_15 : decode cX10_fitsStretch 15 = .ok (.iconst 1, 1) := by decide +kernel
theorem dX10_fitsStretch_16 : decode cX10_fitsStretch 16 = .ok (.if_icmp .ne 12, 3) := by decide +kernel
theorem dX10_fitsStretch_19 : decode cX10_fitsStretch 19 = .ok (.iload_n 1, 1) := by decide +kernel
theorem dX10_fitsStretch_20 : decode cX10_fitsStretch 20 = .ok (.iconst 1, 1) := by decide +kernel
theorem dX10_fitsStretch_21 : decode cX10_fitsStretch 21 = .ok (.iconst 4, 1) := by decide +kernel
theorem dX10_fitsStretch_22 : decode cX10_fitsStretch 22 = .ok (.invokestatic 69, 3) := by decide +kernel
theorem dX10_fitsStretch_25 : decode cX10_fitsStretch 25 = .ok (.goto 23, 3) := by decide +kernel
theorem dX10_fitsStretch_28 : decode cX10_fitsStretch 28 = .ok (.iload_n 0, 1) := by decide +kernel
theorem dX10_fitsStretch_29 : decode cX10_fitsStretch 29 = .ok (.iconst 2, 1) := by decide +kernel
theorem dX10_fitsStretch_30 : decode cX10_fitsStretch 30 = .ok (.if_icmp .ne 17, 3) := by decide +kernel
theorem dX10_fitsStretch_33 : decode cX10_fitsStretch 33 = .ok (.iload_n 1, 1) := by decide +kernel
theorem dX10_fitsStretch_34 : decode cX10_fitsStretch 34 = .ok (.iconst 1, 1) := by decide +kernel
theorem dX10_fitsStretch_35 : decode cX10_fitsStretch 35 = .ok (.bipush 20, 2) := by decide +kernel
theorem dX10_fitsStretch_37 : decode cX10_fitsStretch 37 = .ok (.invokestatic 69, 3) := by decide +kernel
theorem dX10_fitsStretch_40 : decode cX10_fitsStretch 40 = .ok (.ifCond .eq 7, 3) := by decide +kernel
theorem dX10_fitsStretch_43 : decode cX10_fitsStretch 43 = .ok (.iconst 1, 1) := by decide +kernel
theorem dX10_fitsStretch_44 : decode cX10_fitsStretch 44 = .ok (.goto 4, 3) := by decide +kernel
theorem dX10_fitsStretch_47 : decode cX10_fitsStretch 47 = .ok (.iconst 0, 1) := by decide +kernel
theorem dX10_fitsStretch_48 : decode cX10_fitsStretch 48 = .ok (.ireturn, 1) := by decide +kernel
theorem dX10_date_0 : decode cX10_date 0 = .ok (.aload_n 0, 1) := by decide +kernel
theorem dX10_date_1 : decode cX10_date 1 = .ok (.iload_n 1, 1) := by decide +kernel
theorem dX10_date_2 : decode cX10_date 2 = .ok (.iload_n 2, 1) := by decide +kernel
theorem dX10_date_3 : decode cX10_date 3 = .ok (.invokevirtual 170, 3) := by decide +kernel
theorem dX10_date_6 : decode cX10_date 6 = .ok (.ifCond .eq 34, 3) := by decide +kernel
theorem dX10_date_9 : decode cX10_date 9 = .ok (.iload_n 3, 1) := by decide +kernel
theorem dX10_date_10 : decode cX10_date 10 = .ok (.invokestatic 65, 3) := by decide +kernel
theorem dX10_date_13 : decode cX10_date 13 = .ok (.ifCond .eq 27, 3) := by decide +kernel
theorem dX10_date_16 : decode cX10_date 16 = .ok (.iload 4, 2) := by decide +kernel
theorem dX10_date_18 : decode cX10_date 18 = .ok (.invokestatic 65, 3) := by decide +kernel
theorem dX10_date_21 : decode cX10_date 21 = .ok (.ifCond .eq 19, 3) := by decide +kernel
theorem dX10_date_24 : decode cX10_date 24 = .ok (.iload_n 3, 1) := by decide +kernel
theorem dX10_date_25 : decode cX10_date 25 = .ok (.iload 4, 2) := by decide +kernel
theorem dX10_date_27 : decode cX10_date 27 = .ok (.if_icmp .gt 13, 3) := by decide +kernel
theorem dX10_date_30 : decode cX10_date 30 = .ok (.iload 5, 2) := by decide +kernel
theorem dX10_date_32 : decode cX10_date 32 = .ok (.iconst 0, 1) := by decide +kernel
theorem dX10_date_33 : decode cX10_date 33 = .ok (.iconst 1, 1) := by decide +kernel
theorem dX10_date_34 : decode cX10_date 34 = .ok (.invokestatic 69, 3) := by decide +kernel
theorem dX10_date_37 : decode cX10_date 37 = .ok (.ifCond .ne 5, 3) := by decide +kernel
theorem dX10_date_40 : decode cX10_date 40 = .ok (.iconst (-1), 1) := by decide +kernel
theorem dX10_date_41 : decode cX10_date 41 = .ok (.ireturn, 1) := by decide +kernel
theorem dX10_date_42 : decode cX10_date 42 = .ok (.aload_n 0, 1) := by decide +kernel
theorem dX10_date_43 : decode cX10_date 43 = .ok (.getfield 12, 3) := by decide +kernel
theorem dX10_date_46 : decode cX10_date 46 = .ok (.getfield 147, 3) := by decide +kernel
theorem dX10_date_49 : decode cX10_date 49 = .ok (.iload_n 1, 1) := by decide +kernel
theorem dX10_date_50 : decode cX10_date 50 = .ok (.aaload, 1) := by decide +kernel
theorem dX10_date_51 : decode cX10_date 51 = .ok (.iload_n 2, 1) := by decide +kernel
theorem dX10_date_52 : decode cX10_date 52 = .ok (.invokevirtual 177, 3) := by decide +kernel
theorem dX10_date_55 : decode cX10_date 55 = .ok (.ifCond .ne 6, 3) := by decide +kernel
theorem dX10_date_58 : decode cX10_date 58 = .ok (.bipush (-12), 2) := by decide +kernel
theorem dX10_date_60 : decode cX10_date 60 = .ok (.ireturn, 1) := by decide +kernel
theorem dX10_date_61 : decode cX10_date 61 = .ok (.aload_n 0, 1) := by decide +kernel
theorem dX10_date_62 : decode cX10_date 62 = .ok (.getfield 12, 3) := by decide +kernel
theorem dX10_date_65 : decode cX10_date 65 = .ok (.getfield 157, 3) := by decide +kernel
theorem dX10_date_68 : decode cX10_date 68 = .ok (.getfield 210, 3) := by decide +kernel
theorem dX10_date_71 : decode cX10_date 71 = .ok (.bipush 8, 2) := by decide +kernel
theorem dX10_date_73 : decode cX10_date 73 = .ok (.if_icmp .ne 6, 3) := by decide +kernel
theorem dX10_date_76 : decode cX10_date 76 = .ok (.bipush (-3), 2) := by decide +kernel
theorem dX10_date_78 : decode cX10_date 78 = .ok (.ireturn, 1) := by decide +kernel
theorem dX10_date_79 : decode cX10_date 79 = .ok (.aload_n 0, 1) := by decide +kernel
theorem dX10_date_80 : decode cX10_date 80 = .ok (.getfield 12, 3) := by decide +kernel
theorem dX10_date_83 : decode cX10_date 83 = .ok (.getfield 157, 3) := by decide +kernel
theorem dX10_date_86 : decode cX10_date 86 = .ok (.iload_n 1, 1) := by decide +kernel
theorem dX10_date_87 : decode cX10_date 87 = .ok (.iload_n 2, 1) := by decide +kernel
theorem dX10_date_88 : decode cX10_date 88 = .ok (.iload_n 3, 1) := by decide +kernel
theorem dX10_date_89 : decode cX10_date 89 = .ok (.iload 4, 2) := by decide +kernel
theorem dX10_date_91 : decode cX10_date 91 = .ok (.iload 5, 2) := by decide +kernel
theorem dX10_date_93 : decode cX10_date 93 = .ok (.invokevirtual 213, 3) := by decide +kernel
theorem dX10_date_96 : decode cX10_date 96 = .ok (.aload_n 0, 1) := by decide +kernel
theorem dX10_date_97 : decode cX10_date 97 = .ok (.getfield 54, 3) := by decide +kernel
theorem dX10_date_100 : decode cX10_date 100 = .ok (.iload_n 1, 1) := by decide +kernel
theorem dX10_date_101 : decode cX10_date 101 = .ok (.iconst 0, 1) := by decide +kernel
theorem dX10_date_102 : decode cX10_date 102 = .ok (.bastore, 1) := by decide +kernel
theorem dX10_date_103 : decode cX10_date 103 = .ok (.aload_n 0, 1) := by decide +kernel
theorem dX10_date_104 : decode cX10_date 104 = .ok (.getfield 12, 3) := by decide +kernel
theorem dX10_date_107 : decode cX10_date 107 = .ok (.getfield 157, 3) := by decide +kernel
theorem dX10_date_110 : decode cX10_date 110 = .ok (.getfield 210, 3) := by decide +kernel
theorem dX10_date_113 : decode cX10_date 113 = .ok (.iconst 1, 1) := by decide +kernel
theorem dX10_date_114 : decode cX10_date 114 = .ok (.isub, 1) := by decide +kernel
theorem dX10_date_115 : decode cX10_date 115 = .ok (.ireturn, 1) := by decide +kernel
theorem dX10_throwOut_0 : decode cX10_throwOut 0 = .ok (.iload_n 1, 1) := by decide +kernel
theorem dX10_throwOut_1 : decode cX10_throwOut 1 = .ok (.iconst 0, 1) := by decide +kernel
theorem dX10_throwOut_2 : decode cX10_throwOut 2 = .ok (.aload_n 0, 1) := by decide +kernel
theorem dX10_throwOut_3 : decode cX10_throwOut 3 = .ok (.getfield 12, 3) := by decide +kernel
theorem dX10_throwOut_6 : decode cX10_throwOut 6 = .ok (.getfield 157, 3) := by decide +kernel
theorem dX10_throwOut_9 : decode cX10_throwOut 9 = .ok (.getfield 210, 3) := by decide +kernel
theorem dX10_throwOut_12 : decode cX10_throwOut 12 = .ok (.iconst 1, 1) := by decide +kernel
theorem dX10_throwOut_13 : decode cX10_throwOut 13 = .ok (.isub, 1) := by decide +kernel
theorem dX10_throwOut_14 : decode cX10_throwOut 14 = .ok (.invokestatic 69, 3) := by decide +kernel
theorem dX10_throwOut_17 : decode cX10_throwOut 17 = .ok (.ifCond .eq 13, 3) := by decide +kernel
theorem dX10_throwOut_20 : decode cX10_throwOut 20 = .ok (.iload_n 2, 1) := by decide +kernel
theorem dX10_throwOut_21 : decode cX10_throwOut 21 = .ok (.iconst 0, 1) := by decide +kernel
theorem dX10_throwOut_22 : decode cX10_throwOut 22 = .ok (.bipush 9, 2) := by decide +kernel
theorem dX10_throwOut_24 : decode cX10_throwOut 24 = .ok (.invokestatic 69, 3) := by decide +kernel
theorem dX10_throwOut_27 : decode cX10_throwOut 27 = .ok (.ifCond .ne 5, 3) := by decide +kernel
theorem dX10_throwOut_30 : decode cX10_throwOut 30 = .ok (.iconst (-1), 1) := by decide +kernel
theorem dX10_throwOut_31 : decode cX10_throwOut 31 = .ok (.ireturn, 1) := by decide +kernel
theorem dX10_throwOut_32 : decode cX10_throwOut 32 = .ok (.aload_n 0, 1) := by decide +kernel
theorem dX10_throwOut_33 : decode cX10_throwOut 33 = .ok (.getfield 12, 3) := by decide +kernel
theorem dX10_throwOut_36 : decode cX10_throwOut 36 = .ok (.getfield 157, 3) := by decide +kernel
theorem dX10_throwOut_39 : decode cX10_throwOut 39 = .ok (.getfield 216, 3) := by decide +kernel
theorem dX10_throwOut_42 : decode cX10_throwOut 42 = .ok (.iload_n 1, 1) := by decide +kernel
theorem dX10_throwOut_43 : decode cX10_throwOut 43 = .ok (.iaload, 1) := by decide +kernel
theorem dX10_throwOut_44 : decode cX10_throwOut 44 = .ok (.istore_n 3, 1) := by decide +kernel
theorem dX10_throwOut_45 : decode cX10_throwOut 45 = .ok (.aload_n 0, 1) := by decide +kernel
theorem dX10_throwOut_46 : decode cX10_throwOut 46 = .ok (.getfield 12, 3) := by decide +kernel
theorem dX10_throwOut_49 : decode cX10_throwOut 49 = .ok (.getfield 157, 3) := by decide +kernel
theorem dX10_throwOut_52 : decode cX10_throwOut 52 = .ok (.getfield 216, 3) := by decide +kernel
theorem dX10_throwOut_55 : decode cX10_throwOut 55 = .ok (.iload_n 1, 1) := by decide +kernel
theorem dX10_throwOut_56 : decode cX10_throwOut 56 = .ok (.iload_n 2, 1) := by decide +kernel
theorem dX10_throwOut_57 : decode cX10_throwOut 57 = .ok (.iastore, 1) := by decide +kernel
theorem dX10_throwOut_58 : decode cX10_throwOut 58 = .ok (.aload_n 0, 1) := by decide +kernel
theorem dX10_throwOut_59 : decode cX10_throwOut 59 = .ok (.getfield 54, 3) := by decide +kernel
theorem dX10_throwOut_62 : decode cX10_throwOut 62 = .ok (.aload_n 0, 1) := by decide +kernel
theorem dX10_throwOut_63 : decode cX10_throwOut 63 = .ok (.getfield 12, 3) := by decide +kernel
theorem dX10_throwOut_66 : decode cX10_throwOut 66 = .ok (.getfield 157, 3) := by decide +kernel
theorem dX10_throwOut_69 : decode cX10_throwOut 69 = .ok (.getfield 219, 3) := by decide +kernel
theorem dX10_throwOut_72 : decode cX10_throwOut 72 = .ok (.iload_n 1, 1) := by decide +kernel
theorem dX10_throwOut_73 : decode cX10_throwOut 73 = .ok (.iaload, 1) := by decide +kernel
theorem dX10_throwOut_74 : decode cX10_throwOut 74 = .ok (.iconst 0, 1) := by decide +kernel
theorem dX10_throwOut_75 : decode cX10_throwOut 75 = .ok (.bastore, 1) := by decide +kernel
theorem dX10_throwOut_76 : decode cX10_throwOut 76 = .ok (.iload_n 3, 1) := by decide +kernel
theorem dX10_throwOut_77 : decode cX10_throwOut 77 = .ok (.ireturn, 1) := by decide +kernel
theorem dX10_count_0 : decode cX10_count 0 = .ok (.iload_n 1, 1) := by decide +kernel
theorem dX10_count_1 : decode cX10_count 1 = .ok (.tableswitch 137 0 7 #[47, 58, 69, 77, 85, 98, 111, 124], 47) := by decide +kernel
theorem dX10_count_48 : decode cX10_count 48 = .ok (.aload_n 0, 1) := by decide +kernel
theorem dX10_count_49 : decode cX10_count 49 = .ok (.getfield 12, 3) := by decide +kernel
theorem dX10_count_52 : decode cX10_count 52 = .ok (.getfield 157, 3) := by decide +kernel
theorem dX10_count_55 : decode cX10_count 55 = .ok (.getfield 210, 3) := by decide +kernel
theorem dX10_count_58 : decode cX10_count 58 = .ok (.ireturn, 1) := by decide +kernel
theorem dX10_count_59 : decode cX10_count 59 = .ok (.aload_n 0, 1) := by decide +kernel
theorem dX10_count_60 : decode cX10_count 60 = .ok (.getfield 12, 3) := by decide +kernel
theorem dX10_count_63 : decode cX10_count 63 = .ok (.getfield 157, 3) := by decide +kernel
theorem dX10_count_66 : decode cX10_count 66 = .ok (.invokevirtual 221, 3) := by decide +kernel
theorem dX10_count_69 : decode cX10_count 69 = .ok (.ireturn, 1) := by decide +kernel
theorem dX10_count_70 : decode cX10_count 70 = .ok (.aload_n 0, 1) := by decide +kernel
theorem dX10_count_71 : decode cX10_count 71 = .ok (.getfield 12, 3) := by decide +kernel
theorem dX10_count_74 : decode cX10_count 74 = .ok (.getfield 225, 3) := by decide +kernel
theorem dX10_count_77 : decode cX10_count 77 = .ok (.ireturn, 1) := by decide +kernel
theorem dX10_count_78 : decode cX10_count 78 = .ok (.aload_n 0, 1) := by decide +kernel
theorem dX10_count_79 : decode cX10_count 79 = .ok (.getfield 12, 3) := by decide +kernel
theorem dX10_count_82 : decode cX10_count 82 = .ok (.getfield 228, 3) := by decide +kernel
theorem dX10_count_85 : decode cX10_count 85 = .ok (.ireturn, 1) := by decide +kernel
theorem dX10_count_86 : decode cX10_count 86 = .ok (.aload_n 0, 1) := by decide +kernel
theorem dX10_count_87 : decode cX10_count 87 = .ok (.getfield 12, 3) := by decide +kernel
theorem dX10_count_90 : decode cX10_count 90 = .ok (.getfield 147, 3) := by decide +kernel
theorem dX10_count_93 : decode cX10_count 93 = .ok (.iconst 0, 1) := by decide +kernel
theorem dX10_count_94 : decode cX10_count 94 = .ok (.aaload, 1) := by decide +kernel
theorem dX10_count_95 : decode cX10_count 95 = .ok (.getfield 167, 3) := by decide +kernel
theorem dX10_count_98 : decode cX10_count 98 = .ok (.ireturn, 1) := by decide +kernel
theorem dX10_count_99 : decode cX10_count 99 = .ok (.aload_n 0, 1) := by decide +kernel
theorem dX10_count_100 : decode cX10_count 100 = .ok (.getfield 12, 3) := by decide +kernel
theorem dX10_count_103 : decode cX10_count 103 = .ok (.getfield 147, 3) := by decide +kernel
theorem dX10_count_106 : decode cX10_count 106 = .ok (.iconst 1, 1) := by decide +kernel
theorem dX10_count_107 : decode cX10_count 107 = .ok (.aaload, 1) := by decide +kernel
theorem dX10_count_108 : decode cX10_count 108 = .ok (.getfield 167, 3) := by decide +kernel
theorem dX10_count_111 : decode cX10_count 111 = .ok (.ireturn, 1) := by decide +kernel
theorem dX10_count_112 : decode cX10_count 112 = .ok (.aload_n 0, 1) := by decide +kernel
theorem dX10_count_113 : decode cX10_count 113 = .ok (.getfield 12, 3) := by decide +kernel
theorem dX10_count_116 : decode cX10_count 116 = .ok (.getfield 147, 3) := by decide +kernel
theorem dX10_count_119 : decode cX10_count 119 = .ok (.iconst 0, 1) := by decide +kernel
theorem dX10_count_120 : decode cX10_count 120 = .ok (.aaload, 1) := by decide +kernel
theorem dX10_count_121 : decode cX10_count 121 = .ok (.invokevirtual 231, 3) := by decide +kernel
theorem dX10_count_124 : decode cX10_count 124 = .ok (.ireturn, 1) := by decide +kernel
theorem dX10_count_125 : decode cX10_count 125 = .ok (.aload_n 0, 1) := by decide +kernel
theorem dX10_count_126 : decode cX10_count 126 = .ok (.getfield 12, 3) := by decide +kernel
theorem dX10_count_129 : decode cX10_count 129 = .ok (.getfield 147, 3) := by decide +kernel
theorem dX10_count_132 : decode cX10_count 132 = .ok (.iconst 1, 1) := by decide +kernel
theorem dX10_count_133 : decode cX10_count 133 = .ok (.aaload, 1) := by decide +kernel
theorem dX10_count_134 : decode cX10_count 134 = .ok (.invokevirtual 231, 3) := by decide +kernel
theorem dX10_count_137 : decode cX10_count 137 = .ok (.ireturn, 1) := by decide +kernel
theorem dX10_count_138 : decode cX10_count 138 = .ok (.iconst (-1), 1) := by decide +kernel
theorem dX10_count_139 : decode cX10_count 139 = .ok (.ireturn, 1) := by decide +kernel
theorem dX10_ways_0 : decode cX10_ways 0 = .ok (.iload_n 1, 1) := by decide +kernel
theorem dX10_ways_1 : decode cX10_ways 1 = .ok (.invokestatic 144, 3) := by decide +kernel
theorem dX10_ways_4 : decode cX10_ways 4 = .ok (.ifCond .ne 7, 3) := by decide +kernel
theorem dX10_ways_7 : decode cX10_ways 7 = .ok (.ldc2_w 234, 3) := by decide +kernel
theorem dX10_ways_10 : decode cX10_ways 10 = .ok (.lreturn, 1) := by decide +kernel
theorem dX10_ways_11 : decode cX10_ways 11 = .ok (.aload_n 0, 1) := by decide +kernel
theorem dX10_ways_12 : decode cX10_ways 12 = .ok (.getfield 12, 3) := by decide +kernel
theorem dX10_ways_15 : decode cX10_ways 15 = .ok (.getfield 147, 3) := by decide +kernel
theorem dX10_ways_18 : decode cX10_ways 18 = .ok (.iload_n 1, 1) := by decide +kernel
theorem dX10_ways_19 : decode cX10_ways 19 = .ok (.aaload, 1) := by decide +kernel
theorem dX10_ways_20 : decode cX10_ways 20 = .ok (.invokevirtual 231, 3) := by decide +kernel
theorem dX10_ways_23 : decode cX10_ways 23 = .ok (.ifCond .ne 9, 3) := by decide +kernel
theorem dX10_ways_26 : decode cX10_ways 26 = .ok (.ldc2_w 236, 3) := by decide +kernel
theorem dX10_ways_29 : decode cX10_ways 29 = .ok (.goto 11, 3) := by decide +kernel
theorem dX10_ways_32 : decode cX10_ways 32 = .ok (.aload_n 0, 1) := by decide +kernel
theorem dX10_ways_33 : decode cX10_ways 33 = .ok (.iload_n 1, 1) := by decide +kernel
theorem dX10_ways_34 : decode cX10_ways 34 = .ok (.invokevirtual 238, 3) := by decide +kernel
theorem dX10_ways_37 : decode cX10_ways 37 = .ok (.getfield 242, 3) := by decide +kernel
theorem dX10_ways_40 : decode cX10_ways 40 = .ok (.lreturn, 1) := by decide +kernel
theorem dX10_ends_0 : decode cX10_ends 0 = .ok (.aload_n 0, 1) := by decide +kernel
theorem dX10_ends_1 : decode cX10_ends 1 = .ok (.iload_n 1, 1) := by decide +kernel
theorem dX10_ends_2 : decode cX10_ends 2 = .ok (.iload_n 2, 1) := by decide +kernel
theorem dX10_ends_3 : decode cX10_ends 3 = .ok (.invokevirtual 170, 3) := by decide +kernel
theorem dX10_ends_6 : decode cX10_ends 6 = .ok (.ifCond .eq 12, 3) := by decide +kernel
theorem dX10_ends_9 : decode cX10_ends 9 = .ok (.iload_n 3, 1) := by decide +kernel
theorem dX10_ends_10 : decode cX10_ends 10 = .ok (.iconst 0, 1) := by decide +kernel
theorem dX10_ends_11 : decode cX10_ends 11 = .ok (.iconst 1, 1) := by decide +kernel
theorem dX10_ends_12 : decode cX10_ends 12 = .ok (.invokestatic 69, 3) := by decide +kernel
theorem dX10_ends_15 : decode cX10_ends 15 = .ok (.ifCond .ne 5, 3) := by decide +kernel
theorem dX10_ends_18 : decode cX10_ends 18 = .ok (.iconst (-1), 1) := by decide +kernel
theorem dX10_ends_19 : decode cX10_ends 19 = .ok (.ireturn, 1) := by decide +kernel
theorem dX10_ends_20 : decode cX10_ends 20 = .ok (.aload_n 0, 1) := by decide +kernel
theorem dX10_ends_21 : decode cX10_ends 21 = .ok (.getfield 12, 3) := by decide +kernel
theorem dX10_ends_24 : decode cX10_ends 24 = .ok (.getfield 147, 3) := by decide +kernel
theorem dX10_ends_27 : decode cX10_ends 27 = .ok (.iload_n 1, 1) := by decide +kernel
theorem dX10_ends_28 : decode cX10_ends 28 = .ok (.aaload, 1) := by decide +kernel
theorem dX10_ends_29 : decode cX10_ends 29 = .ok (.iload_n 2, 1) := by decide +kernel
theorem dX10_ends_30 : decode cX10_ends 30 = .ok (.invokevirtual 177, 3) := by decide +kernel
theorem dX10_ends_33 : decode cX10_ends 33 = .ok (.ifCond .ne 6, 3) := by decide +kernel
theorem dX10_ends_36 : decode cX10_ends 36 = .ok (.bipush (-12), 2) := by decide +kernel
theorem dX10_ends_38 : decode cX10_ends 38 = .ok (.ireturn, 1) := by decide +kernel
theorem dX10_ends_39 : decode cX10_ends 39 = .ok (.aload_n 0, 1) := by decide +kernel
theorem dX10_ends_40 : decode cX10_ends 40 = .ok (.iload_n 1, 1) := by decide +kernel
theorem dX10_ends_41 : decode cX10_ends 41 = .ok (.invokevirtual 238, 3) := by decide +kernel
theorem dX10_ends_44 : decode cX10_ends 44 = .ok (.astore 4, 2) := by decide +kernel
theorem dX10_ends_46 : decode cX10_ends 46 = .ok (.aload 4, 2) := by decide +kernel
theorem dX10_ends_48 : decode cX10_ends 48 = .ok (.getfield 242, 3) := by decide +kernel
theorem dX10_ends_51 : decode cX10_ends 51 = .ok (.lconst 0, 1) := by decide +kernel
theorem dX10_ends_52 : decode cX10_ends 52 = .ok (.lcmp, 1) := by decide +kernel
theorem dX10_ends_53 : decode cX10_ends 53 = .ok (.ifCond .ne 8, 3) := by decide +kernel
theorem dX10_ends_56 : decode cX10_ends 56 = .ok (.bipush (-4), 2) := by decide +kernel
theorem dX10_ends_58 : decode cX10_ends 58 = .ok (.goto 16, 3) := by decide +kernel
theorem dX10_ends_61 : decode cX10_ends 61 = .ok (.aload 4, 2) := by decide +kernel
theorem dX10_ends_63 : decode cX10_ends 63 = .ok (.aload 4, 2) := by decide +kernel
theorem dX10_ends_65 : decode cX10_ends 65 = .ok (.getfield 246, 3) := by decide +kernel
theorem dX10_ends_68 : decode cX10_ends 68 = .ok (.iload_n 2, 1) := by decide +kernel
theorem dX10_ends_69 : decode cX10_ends 69 = .ok (.iaload, 1) := by decide +kernel
theorem dX10_ends_70 : decode cX10_ends 70 = .ok (.iload_n 3, 1) := by decide +kernel
theorem dX10_ends_71 : decode cX10_ends 71 = .ok (.invokevirtual 249, 3) := by decide +kernel
theorem dX10_ends_74 : decode cX10_ends 74 = .ok (.ireturn, 1) := by decide +kernel
theorem dX10_odds_0 : decode cX10_odds 0 = .ok (.aload_n 0, 1) := by decide +kernel
theorem dX10_odds_1 : decode cX10_odds 1 = .ok (.iload_n 1, 1) := by decide +kernel
theorem dX10_odds_2 : decode cX10_odds 2 = .ok (.iload_n 2, 1) := by decide +kernel
theorem dX10_odds_3 : decode cX10_odds 3 = .ok (.invokevirtual 170, 3) := by decide +kernel
theorem dX10_odds_6 : decode cX10_odds 6 = .ok (.ifCond .eq 20, 3) := by decide +kernel
theorem dX10_odds_9 : decode cX10_odds 9 = .ok (.iload_n 3, 1) := by decide +kernel
theorem dX10_odds_10 : decode cX10_odds 10 = .ok (.invokestatic 65, 3) := by decide +kernel
theorem dX10_odds_13 : decode cX10_odds 13 = .ok (.ifCond .eq 13, 3) := by decide +kernel
theorem dX10_odds_16 : decode cX10_odds 16 = .ok (.iload 4, 2) := by decide +kernel
theorem dX10_odds_18 : decode cX10_odds 18 = .ok (.iconst 0, 1) := by decide +kernel
theorem dX10_odds_19 : decode cX10_odds 19 = .ok (.iconst 1, 1) := by decide +kernel
theorem dX10_odds_20 : decode cX10_odds 20 = .ok (.invokestatic 69, 3) := by decide +kernel
theorem dX10_odds_23 : decode cX10_odds 23 = .ok (.ifCond .ne 7, 3) := by decide +kernel
theorem dX10_odds_26 : decode cX10_odds 26 = .ok (.ldc2_w 234, 3) := by decide +kernel
theorem dX10_odds_29 : decode cX10_odds 29 = .ok (.lreturn, 1) := by decide +kernel
theorem dX10_odds_30 : decode cX10_odds 30 = .ok (.aload_n 0, 1) := by decide +kernel
theorem dX10_odds_31 : decode cX10_odds 31 = .ok (.getfield 12, 3) := by decide +kernel
theorem dX10_odds_34 : decode cX10_odds 34 = .ok (.getfield 147, 3) := by decide +kernel
theorem dX10_odds_37 : decode cX10_odds 37 = .ok (.iload_n 1, 1) := by decide +kernel
theorem dX10_odds_38 : decode cX10_odds 38 = .ok (.aaload, 1) := by decide +kernel
theorem dX10_odds_39 : decode cX10_odds 39 = .ok (.iload_n 2, 1) := by decide +kernel
theorem dX10_odds_40 : decode cX10_odds 40 = .ok (.invokevirtual 177, 3) := by decide +kernel
theorem dX10_odds_43 : decode cX10_odds 43 = .ok (.ifCond .ne 7, 3) := by decide +kernel
theorem dX10_odds_46 : decode cX10_odds 46 = .ok (.ldc2_w 252, 3) := by decide +kernel
theorem dX10_odds_49 : decode cX10_odds 49 = .ok (.lreturn, 1) := by decide +kernel
theorem dX10_odds_50 : decode cX10_odds 50 = .ok (.aload_n 0, 1) := by decide +kernel
theorem dX10_odds_51 : decode cX10_odds 51 = .ok (.iload_n 1, 1) := by decide +kernel
theorem dX10_odds_52 : decode cX10_odds 52 = .ok (.invokevirtual 238, 3) := by decide +kernel
theorem dX10_odds_55 : decode cX10_odds 55 = .ok (.astore 5, 2) := by decide +kernel
theorem dX10_odds_57 : decode cX10_odds 57 = .ok (.aload 5, 2) := by decide +kernel
theorem dX10_odds_59 : decode cX10_odds 59 = .ok (.aload 5, 2) := by decide +kernel
theorem dX10_odds_61 : decode cX10_odds 61 = .ok (.getfield 246, 3) := by decide +kernel
theorem dX10_odds_64 : decode cX10_odds 64 = .ok (.iload_n 2, 1) := by decide +kernel
theorem dX10_odds_65 : decode cX10_odds 65 = .ok (.iaload, 1) := by decide +kernel
theorem dX10_odds_66 : decode cX10_odds 66 = .ok (.iload_n 3, 1) := by decide +kernel
theorem dX10_odds_67 : decode cX10_odds 67 = .ok (.invokevirtual 254, 3) := by decide +kernel
theorem dX10_odds_70 : decode cX10_odds 70 = .ok (.aload 5, 2) := by decide +kernel
theorem dX10_odds_72 : decode cX10_odds 72 = .ok (.getfield 242, 3) := by decide +kernel
theorem dX10_odds_75 : decode cX10_odds 75 = .ok (.iload 4, 2) := by decide +kernel
theorem dX10_odds_77 : decode cX10_odds 77 = .ok (.invokestatic 258, 3) := by decide +kernel
theorem dX10_odds_80 : decode cX10_odds 80 = .ok (.lreturn, 1) := by decide +kernel
theorem dX10_span_0 : decode cX10_span 0 = .ok (.aload_n 0, 1) := by decide +kernel
theorem dX10_span_1 : decode cX10_span 1 = .ok (.iload_n 1, 1) := by decide +kernel
theorem dX10_span_2 : decode cX10_span 2 = .ok (.iload_n 2, 1) := by decide +kernel
theorem dX10_span_3 : decode cX10_span 3 = .ok (.iload_n 3, 1) := by decide +kernel
theorem dX10_span_4 : decode cX10_span 4 = .ok (.invokevirtual 262, 3) := by decide +kernel
theorem dX10_span_7 : decode cX10_span 7 = .ok (.ifCond .eq 13, 3) := by decide +kernel
theorem dX10_span_10 : decode cX10_span 10 = .ok (.iload 4, 2) := by decide +kernel
theorem dX10_span_12 : decode cX10_span 12 = .ok (.iconst 0, 1) := by decide +kernel
theorem dX10_span_13 : decode cX10_span 13 = .ok (.iconst 1, 1) := by decide +kernel
theorem dX10_span_14 : decode cX10_span 14 = .ok (.invokestatic 69, 3) := by decide +kernel
theorem dX10_span_17 : decode cX10_span 17 = .ok (.ifCond .ne 5, 3) := by decide +kernel
theorem dX10_span_20 : decode cX10_span 20 = .ok (.iconst (-1), 1) := by decide +kernel
theorem dX10_span_21 : decode cX10_span 21 = .ok (.ireturn, 1) := by decide +kernel
theorem dX10_span_22 : decode cX10_span 22 = .ok (.aload_n 0, 1) := by decide +kernel
theorem dX10_span_23 : decode cX10_span 23 = .ok (.getfield 12, 3) := by decide +kernel
theorem dX10_span_26 : decode cX10_span 26 = .ok (.getfield 147, 3) := by decide +kernel
theorem dX10_span_29 : decode cX10_span 29 = .ok (.iload_n 1, 1) := by decide +kernel
theorem dX10_span_30 : decode cX10_span 30 = .ok (.aaload, 1) := by decide +kernel
theorem dX10_span_31 : decode cX10_span 31 = .ok (.astore 5, 2) := by decide +kernel
theorem dX10_span_33 : decode cX10_span 33 = .ok (.aload 5, 2) := by decide +kernel
theorem dX10_span_35 : decode cX10_span 35 = .ok (.iload_n 2, 1) := by decide +kernel
theorem dX10_span_36 : decode cX10_span 36 = .ok (.invokevirtual 177, 3) := by decide +kernel
theorem dX10_span_39 : decode cX10_span 39 = .ok (.ifCond .eq 12, 3) := by decide +kernel
theorem dX10_span_42 : decode cX10_span 42 = .ok (.aload 5, 2) := by decide +kernel
theorem dX10_span_44 : decode cX10_span 44 = .ok (.iload_n 3, 1) := by decide +kernel
theorem dX10_span_45 : decode cX10_span 45 = .ok (.invokevirtual 177, 3) := by decide +kernel
theorem dX10_span_48 : decode cX10_span 48 = .ok (.ifCond .ne 6, 3) := by decide +kernel
theorem dX10_span_51 : decode cX10_span 51 = .ok (.bipush (-12), 2) := by decide +kernel
theorem dX10_span_53 : decode cX10_span 53 = .ok (.ireturn, 1) := by decide +kernel
theorem dX10_span_54 : decode cX10_span 54 = .ok (.aload_n 0, 1) := by decide +kernel
theorem dX10_span_55 : decode cX10_span 55 = .ok (.iload_n 1, 1) := by decide +kernel
theorem dX10_span_56 : decode cX10_span 56 = .ok (.invokevirtual 238, 3) := by decide +kernel
theorem dX10_span_59 : decode cX10_span 59 = .ok (.astore 6, 2) := by decide +kernel
theorem dX10_span_61 : decode cX10_span 61 = .ok (.aload 6, 2) := by decide +kernel
theorem dX10_span_63 : decode cX10_span 63 = .ok (.aload 6, 2) := by decide +kernel
theorem dX10_span_65 : decode cX10_span 65 = .ok (.getfield 246, 3) := by decide +kernel
theorem dX10_span_68 : decode cX10_span 68 = .ok (.iload_n 2, 1) := by decide +kernel
theorem dX10_span_69 : decode cX10_span 69 = .ok (.iaload, 1) := by decide +kernel
theorem dX10_span_70 : decode cX10_span 70 = .ok (.aload 6, 2) := by decide +kernel
theorem dX10_span_72 : decode cX10_span 72 = .ok (.getfield 246, 3) := by decide +kernel
theorem dX10_span_75 : decode cX10_span 75 = .ok (.iload_n 3, 1) := by decide +kernel
theorem dX10_span_76 : decode cX10_span 76 = .ok (.iaload, 1) := by decide +kernel
theorem dX10_span_77 : decode cX10_span 77 = .ok (.invokevirtual 265, 3) := by decide +kernel
theorem dX10_span_80 : decode cX10_span 80 = .ok (.aload 6, 2) := by decide +kernel
theorem dX10_span_82 : decode cX10_span 82 = .ok (.getfield 242, 3) := by decide +kernel
theorem dX10_span_85 : decode cX10_span 85 = .ok (.lconst 0, 1) := by decide +kernel
theorem dX10_span_86 : decode cX10_span 86 = .ok (.lcmp, 1) := by decide +kernel
theorem dX10_span_87 : decode cX10_span 87 = .ok (.ifCond .ne 8, 3) := by decide +kernel
theorem dX10_span_90 : decode cX10_span 90 = .ok (.bipush (-4), 2) := by decide +kernel
theorem dX10_span_92 : decode cX10_span 92 = .ok (.goto 10, 3) := by decide +kernel
theorem dX10_span_95 : decode cX10_span 95 = .ok (.aload 6, 2) := by decide +kernel
theorem dX10_span_97 : decode cX10_span 97 = .ok (.iload 4, 2) := by decide +kernel
theorem dX10_span_99 : decode cX10_span 99 = .ok (.invokevirtual 268, 3) := by decide +kernel
theorem dX10_span_102 : decode cX10_span 102 = .ok (.ireturn, 1) := by decide +kernel
theorem dX10_apart_0 : decode cX10_apart 0 = .ok (.aload_n 0, 1) := by decide +kernel
theorem dX10_apart_1 : decode cX10_apart 1 = .ok (.iload_n 1, 1) := by decide +kernel
theorem dX10_apart_2 : decode cX10_apart 2 = .ok (.iload_n 2, 1) := by decide +kernel
theorem dX10_apart_3 : decode cX10_apart 3 = .ok (.iload_n 3, 1) := by decide +kernel
theorem dX10_apart_4 : decode cX10_apart 4 = .ok (.invokevirtual 262, 3) := by decide +kernel
theorem dX10_apart_7 : decode cX10_apart 7 = .ok (.ifCond .eq 21, 3) := by decide +kernel
theorem dX10_apart_10 : decode cX10_apart 10 = .ok (.iload 4, 2) := by decide +kernel
theorem dX10_apart_12 : decode cX10_apart 12 = .ok (.invokestatic 65, 3) := by decide +kernel
theorem dX10_apart_15 : decode cX10_apart 15 = .ok (.ifCond .eq 13, 3) := by decide +kernel
theorem dX10_apart_18 : decode cX10_apart 18 = .ok (.iload 5, 2) := by decide +kernel
theorem dX10_apart_20 : decode cX10_apart 20 = .ok (.iconst 0, 1) := by decide +kernel
theorem dX10_apart_21 : decode cX10_apart 21 = .ok (.iconst 1, 1) := by decide +kernel
theorem dX10_apart_22 : decode cX10_apart 22 = .ok (.invokestatic 69, 3) := by decide +kernel
theorem dX10_apart_25 : decode cX10_apart 25 = .ok (.ifCond .ne 7, 3) := by decide +kernel
theorem dX10_apart_28 : decode cX10_apart 28 = .ok (.ldc2_w 234, 3) := by decide +kernel
theorem dX10_apart_31 : decode cX10_apart 31 = .ok (.lreturn, 1) := by decide +kernel
theorem dX10_apart_32 : decode cX10_apart 32 = .ok (.aload_n 0, 1) := by decide +kernel
theorem dX10_apart_33 : decode cX10_apart 33 = .ok (.getfield 12, 3) := by decide +kernel
theorem dX10_apart_36 : decode cX10_apart 36 = .ok (.getfield 147, 3) := by decide +kernel
theorem dX10_apart_39 : decode cX10_apart 39 = .ok (.iload_n 1, 1) := by decide +kernel
theorem dX10_apart_40 : decode cX10_apart 40 = .ok (.aaload, 1) := by decide +kernel
theorem dX10_apart_41 : decode cX10_apart 41 = .ok (.astore 6, 2) := by decide +kernel
theorem dX10_apart_43 : decode cX10_apart 43 = .ok (.aload 6, 2) := by decide +kernel
theorem dX10_apart_45 : decode cX10_apart 45 = .ok (.iload_n 2, 1) := by decide +kernel
theorem dX10_apart_46 : decode cX10_apart 46 = .ok (.invokevirtual 177, 3) := by decide +kernel
theorem dX10_apart_49 : decode cX10_apart 49 = .ok (.ifCond .eq 12, 3) := by decide +kernel
theorem dX10_apart_52 : decode cX10_apart 52 = .ok (.aload 6, 2) := by decide +kernel
theorem dX10_apart_54 : decode cX10_apart 54 = .ok (.iload_n 3, 1) := by decide +kernel
theorem dX10_apart_55 : decode cX10_apart 55 = .ok (.invokevirtual 177, 3) := by decide +kernel
theorem dX10_apart_58 : decode cX10_apart 58 = .ok (.ifCond .ne 7, 3) := by decide +kernel
theorem dX10_apart_61 : decode cX10_apart 61 = .ok (.ldc2_w 252, 3) := by decide +kernel
theorem dX10_apart_64 : decode cX10_apart 64 = .ok (.lreturn, 1) := by decide +kernel
theorem dX10_apart_65 : decode cX10_apart 65 = .ok (.aload_n 0, 1) := by decide +kernel
theorem dX10_apart_66 : decode cX10_apart 66 = .ok (.iload_n 1, 1) := by decide +kernel
theorem dX10_apart_67 : decode cX10_apart 67 = .ok (.invokevirtual 238, 3) := by decide +kernel
theorem dX10_apart_70 : decode cX10_apart 70 = .ok (.astore 7, 2) := by decide +kernel
theorem dX10_apart_72 : decode cX10_apart 72 = .ok (.aload 7, 2) := by decide +kernel
theorem dX10_apart_74 : decode cX10_apart 74 = .ok (.aload 7, 2) := by decide +kernel
theorem dX10_apart_76 : decode cX10_apart 76 = .ok (.getfield 246, 3) := by decide +kernel
theorem dX10_apart_79 : decode cX10_apart 79 = .ok (.iload_n 2, 1) := by decide +kernel
theorem dX10_apart_80 : decode cX10_apart 80 = .ok (.iaload, 1) := by decide +kernel
theorem dX10_apart_81 : decode cX10_apart 81 = .ok (.aload 7, 2) := by decide +kernel
theorem dX10_apart_83 : decode cX10_apart 83 = .ok (.getfield 246, 3) := by decide +kernel
theorem dX10_apart_86 : decode cX10_apart 86 = .ok (.iload_n 3, 1) := by decide +kernel
theorem dX10_apart_87 : decode cX10_apart 87 = .ok (.iaload, 1) := by decide +kernel
theorem dX10_apart_88 : decode cX10_apart 88 = .ok (.invokevirtual 265, 3) := by decide +kernel
theorem dX10_apart_91 : decode cX10_apart 91 = .ok (.lconst 0, 1) := by decide +kernel
theorem dX10_apart_92 : decode cX10_apart 92 = .ok (.lstore 8, 2) := by decide +kernel
theorem dX10_apart_94 : decode cX10_apart 94 = .ok (.iload 4, 2) := by decide +kernel
theorem dX10_apart_96 : decode cX10_apart 96 = .ok (.istore 10, 2) := by decide +kernel
theorem dX10_apart_98 : decode cX10_apart 98 = .ok (.iload 10, 2) := by decide +kernel
theorem dX10_apart_100 : decode cX10_apart 100 = .ok (.bipush 24, 2) := by decide +kernel
theorem dX10_apart_102 : decode cX10_apart 102 = .ok (.if_icmp .ge 22, 3) := by decide +kernel
theorem dX10_apart_105 : decode cX10_apart 105 = .ok (.lload 8, 2) := by decide +kernel
theorem dX10_apart_107 : decode cX10_apart 107 = .ok (.aload 7, 2) := by decide +kernel
theorem dX10_apart_109 : decode cX10_apart 109 = .ok (.getfield 272, 3) := by decide +kernel
theorem dX10_apart_112 : decode cX10_apart 112 = .ok (.iload 10, 2) := by decide +kernel
theorem dX10_apart_114 : decode cX10_apart 114 = .ok (.laload, 1) := by decide +kernel
theorem dX10_apart_115 : decode cX10_apart 115 = .ok (.ladd, 1) := by decide +kernel
theorem dX10_apart_116 : decode cX10_apart 116 = .ok (.lstore 8, 2) := by decide +kernel
theorem dX10_apart_118 : decode cX10_apart 118 = .ok (.iinc 10 1, 3) := by decide +kernel
theorem dX10_apart_121 : decode cX10_apart 121 = .ok (.goto (-23), 3) := by decide +kernel
theorem dX10_apart_124 : decode cX10_apart 124 = .ok (.lload 8, 2) := by decide +kernel
theorem dX10_apart_126 : decode cX10_apart 126 = .ok (.aload 7, 2) := by decide +kernel
theorem dX10_apart_128 : decode cX10_apart 128 = .ok (.getfield 242, 3) := by decide +kernel
theorem dX10_apart_131 : decode cX10_apart 131 = .ok (.iload 5, 2) := by decide +kernel
theorem dX10_apart_133 : decode cX10_apart 133 = .ok (.invokestatic 258, 3) := by decide +kernel
theorem dX10_apart_136 : decode cX10_apart 136 = .ok (.lreturn, 1) := by decide +kernel
theorem dX10_next_0 : decode cX10_next 0 = .ok (.iload_n 1, 1) := by decide +kernel
theorem dX10_next_1 : decode cX10_next 1 = .ok (.invokestatic 144, 3) := by decide +kernel
theorem dX10_next_4 : decode cX10_next 4 = .ok (.ifCond .eq 12, 3) := by decide +kernel
theorem dX10_next_7 : decode cX10_next 7 = .ok (.iload_n 2, 1) := by decide +kernel
theorem dX10_next_8 : decode cX10_next 8 = .ok (.iconst 0, 1) := by decide +kernel
theorem dX10_next_9 : decode cX10_next 9 = .ok (.iconst 1, 1) := by decide +kernel
theorem dX10_next_10 : decode cX10_next 10 = .ok (.invokestatic 69, 3) := by decide +kernel
theorem dX10_next_13 : decode cX10_next 13 = .ok (.ifCond .ne 7, 3) := by decide +kernel
theorem dX10_next_16 : decode cX10_next 16 = .ok (.ldc2_w 234, 3) := by decide +kernel
theorem dX10_next_19 : decode cX10_next 19 = .ok (.lreturn, 1) := by decide +kernel
theorem dX10_next_20 : decode cX10_next 20 = .ok (.aload_n 0, 1) := by decide +kernel
theorem dX10_next_21 : decode cX10_next 21 = .ok (.getfield 12, 3) := by decide +kernel
theorem dX10_next_24 : decode cX10_next 24 = .ok (.getfield 147, 3) := by decide +kernel
theorem dX10_next_27 : decode cX10_next 27 = .ok (.iload_n 1, 1) := by decide +kernel
theorem dX10_next_28 : decode cX10_next 28 = .ok (.aaload, 1) := by decide +kernel
theorem dX10_next_29 : decode cX10_next 29 = .ok (.invokevirtual 231, 3) := by decide +kernel
theorem dX10_next_32 : decode cX10_next 32 = .ok (.ifCond .ne 7, 3) := by decide +kernel
theorem dX10_next_35 : decode cX10_next 35 = .ok (.ldc2_w 236, 3) := by decide +kernel
theorem dX10_next_38 : decode cX10_next 38 = .ok (.lreturn, 1) := by decide +kernel
theorem dX10_next_39 : decode cX10_next 39 = .ok (.aload_n 0, 1) := by decide +kernel
theorem dX10_next_40 : decode cX10_next 40 = .ok (.iload_n 1, 1) := by decide +kernel
theorem dX10_next_41 : decode cX10_next 41 = .ok (.invokevirtual 238, 3) := by decide +kernel
theorem dX10_next_44 : decode cX10_next 44 = .ok (.astore_n 3, 1) := by decide +kernel
theorem dX10_next_45 : decode cX10_next 45 = .ok (.aload_n 3, 1) := by decide +kernel
theorem dX10_next_46 : decode cX10_next 46 = .ok (.getfield 242, 3) := by decide +kernel
theorem dX10_next_49 : decode cX10_next 49 = .ok (.lconst 0, 1) := by decide +kernel
theorem dX10_next_50 : decode cX10_next 50 = .ok (.lcmp, 1) := by decide +kernel
theorem dX10_next_51 : decode cX10_next 51 = .ok (.ifCond .ne 7, 3) := by decide +kernel
theorem dX10_next_54 : decode cX10_next 54 = .ok (.ldc2_w 276, 3) := by decide +kernel
theorem dX10_next_57 : decode cX10_next 57 = .ok (.lreturn, 1) := by decide +kernel
theorem dX10_next_58 : decode cX10_next 58 = .ok (.iconst 0, 1) := by decide +kernel
theorem dX10_next_59 : decode cX10_next 59 = .ok (.istore 4, 2) := by decide +kernel
theorem dX10_next_61 : decode cX10_next 61 = .ok (.iconst 1, 1) := by decide +kernel
theorem dX10_next_62 : decode cX10_next 62 = .ok (.istore 5, 2) := by decide +kernel
theorem dX10_next_64 : decode cX10_next 64 = .ok (.iload 5, 2) := by decide +kernel
theorem dX10_next_66 : decode cX10_next 66 = .ok (.aload_n 3, 1) := by decide +kernel
theorem dX10_next_67 : decode cX10_next 67 = .ok (.getfield 278, 3) := by decide +kernel
theorem dX10_next_70 : decode cX10_next 70 = .ok (.if_icmp .ge 29, 3) := by decide +kernel
theorem dX10_next_73 : decode cX10_next 73 = .ok (.aload_n 3, 1) := by decide +kernel
theorem dX10_next_74 : decode cX10_next 74 = .ok (.iload 5, 2) := by decide +kernel
theorem dX10_next_76 : decode cX10_next 76 = .ok (.invokevirtual 280, 3) := by decide +kernel
theorem dX10_next_79 : decode cX10_next 79 = .ok (.aload_n 3, 1) := by decide +kernel
theorem dX10_next_80 : decode cX10_next 80 = .ok (.iload 4, 2) := by decide +kernel
theorem dX10_next_82 : decode cX10_next 82 = .ok (.invokevirtual 280, 3) := by decide +kernel
theorem dX10_next_85 : decode cX10_next 85 = .ok (.lcmp, 1) := by decide +kernel
theorem dX10_next_86 : decode cX10_next 86 = .ok (.ifCond .ge 7, 3) := by decide +kernel
theorem dX10_next_89 : decode cX10_next 89 = .ok (.iload 5, 2) := by decide +kernel
theorem dX10_next_91 : decode cX10_next 91 = .ok (.istore 4, 2) := by decide +kernel
theorem dX10_next_93 : decode cX10_next 93 = .ok (.iinc 5 1, 3) := by decide +kernel
theorem dX10_next_96 : decode cX10_next 96 = .ok (.goto (-32), 3) := by decide +kernel
theorem dX10_next_99 : decode cX10_next 99 = .ok (.iload_n 2, 1) := by decide +kernel
theorem dX10_next_100 : decode cX10_next 100 = .ok (.ifCond .ne 14, 3) := by decide +kernel
theorem dX10_next_103 : decode cX10_next 103 = .ok (.aload_n 3, 1) := by decide +kernel
theorem dX10_next_104 : decode cX10_next 104 = .ok (.getfield 284, 3) := by decide +kernel
theorem dX10_next_107 : decode cX10_next 107 = .ok (.iload 4, 2) := by decide +kernel
theorem dX10_next_109 : decode cX10_next 109 = .ok (.iaload, 1) := by decide +kernel
theorem dX10_next_110 : decode cX10_next 110 = .ok (.i2l, 1) := by decide +kernel
theorem dX10_next_111 : decode cX10_next 111 = .ok (.goto 9, 3) := by decide +kernel
theorem dX10_next_114 : decode cX10_next 114 = .ok (.aload_n 3, 1) := by decide +kernel
theorem dX10_next_115 : decode cX10_next 115 = .ok (.iload 4, 2) := by decide +kernel
theorem dX10_next_117 : decode cX10_next 117 = .ok (.invokevirtual 280, 3) := by decide +kernel
theorem dX10_next_120 : decode cX10_next 120 = .ok (.lreturn, 1) := by decide +kernel
theorem dX10_mustGo_0 : decode cX10_mustGo 0 = .ok (.iload_n 1, 1) := by decide +kernel
theorem dX10_mustGo_1 : decode cX10_mustGo 1 = .ok (.invokestatic 144, 3) := by decide +kernel
theorem dX10_mustGo_4 : decode cX10_mustGo 4 = .ok (.ifCond .ne 5, 3) := by decide +kernel
theorem dX10_mustGo_7 : decode cX10_mustGo 7 = .ok (.iconst (-1), 1) := by decide +kernel
theorem dX10_mustGo_8 : decode cX10_mustGo 8 = .ok (.ireturn, 1) := by decide +kernel
theorem dX10_mustGo_9 : decode cX10_mustGo 9 = .ok (.aload_n 0, 1) := by decide +kernel
theorem dX10_mustGo_10 : decode cX10_mustGo 10 = .ok (.getfield 12, 3) := by decide +kernel
theorem dX10_mustGo_13 : decode cX10_mustGo 13 = .ok (.getfield 147, 3) := by decide +kernel
theorem dX10_mustGo_16 : decode cX10_mustGo 16 = .ok (.iload_n 1, 1) := by decide +kernel
theorem dX10_mustGo_17 : decode cX10_mustGo 17 = .ok (.aaload, 1) := by decide +kernel
theorem dX10_mustGo_18 : decode cX10_mustGo 18 = .ok (.invokevirtual 231, 3) := by decide +kernel
theorem dX10_mustGo_21 : decode cX10_mustGo 21 = .ok (.ifCond .ne 6, 3) := by decide +kernel
theorem dX10_mustGo_24 : decode cX10_mustGo 24 = .ok (.bipush (-2), 2) := by decide +kernel
theorem dX10_mustGo_26 : decode cX10_mustGo 26 = .ok (.ireturn, 1) := by decide +kernel
theorem dX10_mustGo_27 : decode cX10_mustGo 27 = .ok (.aload_n 0, 1) := by decide +kernel
theorem dX10_mustGo_28 : decode cX10_mustGo 28 = .ok (.getfield 12, 3) := by decide +kernel
theorem dX10_mustGo_31 : decode cX10_mustGo 31 = .ok (.getfield 157, 3) := by decide +kernel
theorem dX10_mustGo_34 : decode cX10_mustGo 34 = .ok (.iload_n 1, 1) := by decide +kernel
theorem dX10_mustGo_35 : decode cX10_mustGo 35 = .ok (.invokevirtual 286, 3) := by decide +kernel
theorem dX10_mustGo_38 : decode cX10_mustGo 38 = .ok (.istore_n 2, 1) := by decide +kernel
theorem dX10_mustGo_39 : decode cX10_mustGo 39 = .ok (.aload_n 0, 1) := by decide +kernel
theorem dX10_mustGo_40 : decode cX10_mustGo 40 = .ok (.iload_n 1, 1) := by decide +kernel
theorem dX10_mustGo_41 : decode cX10_mustGo 41 = .ok (.iconst 0, 1) := by decide +kernel
theorem dX10_mustGo_42 : decode cX10_mustGo 42 = .ok (.invokevirtual 289, 3) := by decide +kernel
theorem dX10_mustGo_45 : decode cX10_mustGo 45 = .ok (.lconst 0, 1) := by decide +kernel
theorem dX10_mustGo_46 : decode cX10_mustGo 46 = .ok (.lcmp, 1) := by decide +kernel
theorem dX10_mustGo_47 : decode cX10_mustGo 47 = .ok (.ifCond .ne 6, 3) := by decide +kernel
theorem dX10_mustGo_50 : decode cX10_mustGo 50 = .ok (.bipush (-4), 2) := by decide +kernel
theorem dX10_mustGo_52 : decode cX10_mustGo 52 = .ok (.ireturn, 1) := by decide +kernel
theorem dX10_mustGo_53 : decode cX10_mustGo 53 = .ok (.iload_n 2, 1) := by decide +kernel
theorem dX10_mustGo_54 : decode cX10_mustGo 54 = .ok (.istore_n 3, 1) := by decide +kernel
theorem dX10_mustGo_55 : decode cX10_mustGo 55 = .ok (.iconst 0, 1) := by decide +kernel
theorem dX10_mustGo_56 : decode cX10_mustGo 56 = .ok (.istore 4, 2) := by decide +kernel
theorem dX10_mustGo_58 : decode cX10_mustGo 58 = .ok (.iload 4, 2) := by decide +kernel
theorem dX10_mustGo_60 : decode cX10_mustGo 60 = .ok (.iload_n 2, 1) := by decide +kernel
theorem dX10_mustGo_61 : decode cX10_mustGo 61 = .ok (.if_icmp .ge 61, 3) := by decide +kernel
theorem dX10_mustGo_64 : decode cX10_mustGo 64 = .ok (.iload 4, 2) := by decide +kernel
theorem dX10_mustGo_66 : decode cX10_mustGo 66 = .ok (.invokestatic 292, 3) := by decide +kernel
theorem dX10_mustGo_69 : decode cX10_mustGo 69 = .ok (.iload_n 3, 1) := by decide +kernel
theorem dX10_mustGo_70 : decode cX10_mustGo 70 = .ok (.invokestatic 292, 3) := by decide +kernel
theorem dX10_mustGo_73 : decode cX10_mustGo 73 = .ok (.if_icmp .ge 7, 3) := by decide +kernel
theorem dX10_mustGo_76 : decode cX10_mustGo 76 = .ok (.iconst 1, 1) := by decide +kernel
theorem dX10_mustGo_77 : decode cX10_mustGo 77 = .ok (.goto 4, 3) := by decide +kernel
theorem dX10_mustGo_80 : decode cX10_mustGo 80 = .ok (.iconst 0, 1) := by decide +kernel
theorem dX10_mustGo_81 : decode cX10_mustGo 81 = .ok (.istore 5, 2) := by decide +kernel
theorem dX10_mustGo_83 : decode cX10_mustGo 83 = .ok (.iload 4, 2) := by decide +kernel
theorem dX10_mustGo_85 : decode cX10_mustGo 85 = .ok (.iload_n 2, 1) := by decide +kernel
theorem dX10_mustGo_86 : decode cX10_mustGo 86 = .ok (.iconst (-1), 1) := by decide +kernel
theorem dX10_mustGo_87 : decode cX10_mustGo 87 = .ok (.ixor, 1) := by decide +kernel
theorem dX10_mustGo_88 : decode cX10_mustGo 88 = .ok (.iand, 1) := by decide +kernel
theorem dX10_mustGo_89 : decode cX10_mustGo 89 = .ok (.ifCond .ne 27, 3) := by decide +kernel
theorem dX10_mustGo_92 : decode cX10_mustGo 92 = .ok (.iload 5, 2) := by decide +kernel
theorem dX10_mustGo_94 : decode cX10_mustGo 94 = .ok (.ifCond .eq 22, 3) := by decide +kernel
theorem dX10_mustGo_97 : decode cX10_mustGo 97 = .ok (.aload_n 0, 1) := by decide +kernel
theorem dX10_mustGo_98 : decode cX10_mustGo 98 = .ok (.iload_n 1, 1) := by decide +kernel
theorem dX10_mustGo_99 : decode cX10_mustGo 99 = .ok (.iload_n 2, 1) := by decide +kernel
theorem dX10_mustGo_100 : decode cX10_mustGo 100 = .ok (.iload 4, 2) := by decide +kernel
theorem dX10_mustGo_102 : decode cX10_mustGo 102 = .ok (.iconst (-1), 1) := by decide +kernel
theorem dX10_mustGo_103 : decode cX10_mustGo 103 = .ok (.ixor, 1) := by decide +kernel
theorem dX10_mustGo_104 : decode cX10_mustGo 104 = .ok (.iand, 1) := by decide +kernel
theorem dX10_mustGo_105 : decode cX10_mustGo 105 = .ok (.invokevirtual 289, 3) := by decide +kernel
theorem dX10_mustGo_108 : decode cX10_mustGo 108 = .ok (.lconst 0, 1) := by decide +kernel
theorem dX10_mustGo_109 : decode cX10_mustGo 109 = .ok (.lcmp, 1) := by decide +kernel
theorem dX10_mustGo_110 : decode cX10_mustGo 110 = .ok (.ifCond .le 6, 3) := by decide +kernel
theorem dX10_mustGo_113 : decode cX10_mustGo 113 = .ok (.iload 4, 2) := by decide +kernel
theorem dX10_mustGo_115 : decode cX10_mustGo 115 = .ok (.istore_n 3, 1) := by decide +kernel
theorem dX10_mustGo_116 : decode cX10_mustGo 116 = .ok (.iinc 4 1, 3) := by decide +kernel
theorem dX10_mustGo_119 : decode cX10_mustGo 119 = .ok (.goto (-61), 3) := by decide +kernel
theorem dX10_mustGo_122 : decode cX10_mustGo 122 = .ok (.iload_n 3, 1) := by decide +kernel
theorem dX10_mustGo_123 : decode cX10_mustGo 123 = .ok (.ireturn, 1) := by decide +kernel
theorem dX10_waysWith_0 : decode cX10_waysWith 0 = .ok (.aload_n 0, 1) := by decide +kernel
theorem dX10_waysWith_1 : decode cX10_waysWith 1 = .ok (.getfield 50, 3) := by decide +kernel
theorem dX10_waysWith_4 : decode cX10_waysWith 4 = .ok (.iload_n 1, 1) := by decide +kernel
theorem dX10_waysWith_5 : decode cX10_waysWith 5 = .ok (.aaload, 1) := by decide +kernel
theorem dX10_waysWith_6 : decode cX10_waysWith 6 = .ok (.astore_n 3, 1) := by decide +kernel
theorem dX10_waysWith_7 : decode cX10_waysWith 7 = .ok (.aload_n 0, 1) := by decide +kernel
theorem dX10_waysWith_8 : decode cX10_waysWith 8 = .ok (.getfield 54, 3) := by decide +kernel
theorem dX10_waysWith_11 : decode cX10_waysWith 11 = .ok (.iload_n 1, 1) := by decide +kernel
theorem dX10_waysWith_12 : decode cX10_waysWith 12 = .ok (.iconst 0, 1) := by decide +kernel
theorem dX10_waysWith_13 : decode cX10_waysWith 13 = .ok (.bastore, 1) := by decide +kernel
theorem dX10_waysWith_14 : decode cX10_waysWith 14 = .ok (.aload_n 3, 1) := by decide +kernel
theorem dX10_waysWith_15 : decode cX10_waysWith 15 = .ok (.aload_n 0, 1) := by decide +kernel
theorem dX10_waysWith_16 : decode cX10_waysWith 16 = .ok (.getfield 12, 3) := by decide +kernel
theorem dX10_waysWith_19 : decode cX10_waysWith 19 = .ok (.getfield 147, 3) := by decide +kernel
theorem dX10_waysWith_22 : decode cX10_waysWith 22 = .ok (.iload_n 1, 1) := by decide +kernel
theorem dX10_waysWith_23 : decode cX10_waysWith 23 = .ok (.aaload, 1) := by decide +kernel
theorem dX10_waysWith_24 : decode cX10_waysWith 24 = .ok (.aload_n 0, 1) := by decide +kernel
theorem dX10_waysWith_25 : decode cX10_waysWith 25 = .ok (.getfield 12, 3) := by decide +kernel
theorem dX10_waysWith_28 : decode cX10_waysWith 28 = .ok (.getfield 157, 3) := by decide +kernel
theorem dX10_waysWith_31 : decode cX10_waysWith 31 = .ok (.iload_n 2, 1) := by decide +kernel
theorem dX10_waysWith_32 : decode cX10_waysWith 32 = .ok (.invokevirtual 297, 3) := by decide +kernel
theorem dX10_waysWith_35 : decode cX10_waysWith 35 = .ok (.aload_n 3, 1) := by decide +kernel
theorem dX10_waysWith_36 : decode cX10_waysWith 36 = .ok (.invokevirtual 301, 3) := by decide +kernel
theorem dX10_waysWith_39 : decode cX10_waysWith 39 = .ok (.aload_n 3, 1) := by decide +kernel
theorem dX10_waysWith_40 : decode cX10_waysWith 40 = .ok (.getfield 242, 3) := by decide +kernel
theorem dX10_waysWith_43 : decode cX10_waysWith 43 = .ok (.lreturn, 1) := by decide +kernel
theorem dX10_leans_0 : decode cX10_leans 0 = .ok (.iload_n 1, 1) := by decide +kernel
theorem dX10_leans_1 : decode cX10_leans 1 = .ok (.iconst 0, 1) := by decide +kernel
theorem dX10_leans_2 : decode cX10_leans 2 = .ok (.aload_n 0, 1) := by decide +kernel
theorem dX10_leans_3 : decode cX10_leans 3 = .ok (.getfield 12, 3) := by decide +kernel
theorem dX10_leans_6 : decode cX10_leans 6 = .ok (.getfield 157, 3) := by decide +kernel
theorem dX10_leans_9 : decode cX10_leans 9 = .ok (.getfield 210, 3) := by decide +kernel
theorem dX10_leans_12 : decode cX10_leans 12 = .ok (.iconst 1, 1) := by decide +kernel
theorem dX10_leans_13 : decode cX10_leans 13 = .ok (.isub, 1) := by decide +kernel
theorem dX10_leans_14 : decode cX10_leans 14 = .ok (.invokestatic 69, 3) := by decide +kernel
theorem dX10_leans_17 : decode cX10_leans 17 = .ok (.ifCond .eq 12, 3) := by decide +kernel
theorem dX10_leans_20 : decode cX10_leans 20 = .ok (.iload_n 3, 1) := by decide +kernel
theorem dX10_leans_21 : decode cX10_leans 21 = .ok (.iconst 0, 1) := by decide +kernel
theorem dX10_leans_22 : decode cX10_leans 22 = .ok (.iconst 1, 1) := by decide +kernel
theorem dX10_leans_23 : decode cX10_leans 23 = .ok (.invokestatic 69, 3) := by decide +kernel
theorem dX10_leans_26 : decode cX10_leans 26 = .ok (.ifCond .ne 7, 3) := by decide +kernel
theorem dX10_leans_29 : decode cX10_leans 29 = .ok (.sipush (-1001), 3) := by decide +kernel
theorem dX10_leans_32 : decode cX10_leans 32 = .ok (.ireturn, 1) := by decide +kernel
theorem dX10_leans_33 : decode cX10_leans 33 = .ok (.aload_n 0, 1) := by decide +kernel
theorem dX10_leans_34 : decode cX10_leans 34 = .ok (.getfield 12, 3) := by decide +kernel
theorem dX10_leans_37 : decode cX10_leans 37 = .ok (.getfield 157, 3) := by decide +kernel
theorem dX10_leans_40 : decode cX10_leans 40 = .ok (.getfield 219, 3) := by decide +kernel
theorem dX10_leans_43 : decode cX10_leans 43 = .ok (.iload_n 1, 1) := by decide +kernel
theorem dX10_leans_44 : decode cX10_leans 44 = .ok (.iaload, 1) := by decide +kernel
theorem dX10_leans_45 : decode cX10_leans 45 = .ok (.istore 4, 2) := by decide +kernel
theorem dX10_leans_47 : decode cX10_leans 47 = .ok (.aload_n 0, 1) := by decide +kernel
theorem dX10_leans_48 : decode cX10_leans 48 = .ok (.iload 4, 2) := by decide +kernel
theorem dX10_leans_50 : decode cX10_leans 50 = .ok (.iload_n 2, 1) := by decide +kernel
theorem dX10_leans_51 : decode cX10_leans 51 = .ok (.invokevirtual 170, 3) := by decide +kernel
theorem dX10_leans_54 : decode cX10_leans 54 = .ok (.ifCond .ne 7, 3) := by decide +kernel
theorem dX10_leans_57 : decode cX10_leans 57 = .ok (.sipush (-1001), 3) := by decide +kernel
theorem dX10_leans_60 : decode cX10_leans 60 = .ok (.ireturn, 1) := by decide +kernel
theorem dX10_leans_61 : decode cX10_leans 61 = .ok (.aload_n 0, 1) := by decide +kernel
theorem dX10_leans_62 : decode cX10_leans 62 = .ok (.getfield 12, 3) := by decide +kernel
theorem dX10_leans_65 : decode cX10_leans 65 = .ok (.getfield 147, 3) := by decide +kernel
theorem dX10_leans_68 : decode cX10_leans 68 = .ok (.iload 4, 2) := by decide +kernel
theorem dX10_leans_70 : decode cX10_leans 70 = .ok (.aaload, 1) := by decide +kernel
theorem dX10_leans_71 : decode cX10_leans 71 = .ok (.iload_n 2, 1) := by decide +kernel
theorem dX10_leans_72 : decode cX10_leans 72 = .ok (.invokevirtual 177, 3) := by decide +kernel
theorem dX10_leans_75 : decode cX10_leans 75 = .ok (.ifCond .ne 7, 3) := by decide +kernel
theorem dX10_leans_78 : decode cX10_leans 78 = .ok (.sipush (-1012), 3) := by decide +kernel
theorem dX10_leans_81 : decode cX10_leans 81 = .ok (.ireturn, 1) := by decide +kernel
theorem dX10_leans_82 : decode cX10_leans 82 = .ok (.aload_n 0, 1) := by decide +kernel
theorem dX10_leans_83 : decode cX10_leans 83 = .ok (.getfield 12, 3) := by decide +kernel
theorem dX10_leans_86 : decode cX10_leans 86 = .ok (.getfield 157, 3) := by decide +kernel
theorem dX10_leans_89 : decode cX10_leans 89 = .ok (.iload 4, 2) := by decide +kernel
theorem dX10_leans_91 : decode cX10_leans 91 = .ok (.invokevirtual 286, 3) := by decide +kernel
theorem dX10_leans_94 : decode cX10_leans 94 = .ok (.iconst 1, 1) := by decide +kernel
theorem dX10_leans_95 : decode cX10_leans 95 = .ok (.iload_n 1, 1) := by decide +kernel
theorem dX10_leans_96 : decode cX10_leans 96 = .ok (.ishl, 1) := by decide +kernel
theorem dX10_leans_97 : decode cX10_leans 97 = .ok (.iconst (-1), 1) := by decide +kernel
theorem dX10_leans_98 : decode cX10_leans 98 = .ok (.ixor, 1) := by decide +kernel
theorem dX10_leans_99 : decode cX10_leans 99 = .ok (.iand, 1) := by decide +kernel
theorem dX10_leans_100 : decode cX10_leans 100 = .ok (.istore 5, 2) := by decide +kernel
theorem dX10_leans_102 : decode cX10_leans 102 = .ok (.aload_n 0, 1) := by decide +kernel
theorem dX10_leans_103 : decode cX10_leans 103 = .ok (.iload 4, 2) := by decide +kernel
theorem dX10_leans_105 : decode cX10_leans 105 = .ok (.iload_n 2, 1) := by decide +kernel
theorem dX10_leans_106 : decode cX10_leans 106 = .ok (.iload_n 3, 1) := by decide +kernel
theorem dX10_leans_107 : decode cX10_leans 107 = .ok (.iload 5, 2) := by decide +kernel
theorem dX10_leans_109 : decode cX10_leans 109 = .ok (.iconst 1, 1) := by decide +kernel
theorem dX10_leans_110 : decode cX10_leans 110 = .ok (.iload_n 1, 1) := by decide +kernel
theorem dX10_leans_111 : decode cX10_leans 111 = .ok (.ishl, 1) := by decide +kernel
theorem dX10_leans_112 : decode cX10_leans 112 = .ok (.ior, 1) := by decide +kernel
theorem dX10_leans_113 : decode cX10_leans 113 = .ok (.invokevirtual 304, 3) := by decide +kernel
theorem dX10_leans_116 : decode cX10_leans 116 = .ok (.istore 6, 2) := by decide +kernel
theorem dX10_leans_118 : decode cX10_leans 118 = .ok (.aload_n 0, 1) := by decide +kernel
theorem dX10_leans_119 : decode cX10_leans 119 = .ok (.iload 4, 2) := by decide +kernel
theorem dX10_leans_121 : decode cX10_leans 121 = .ok (.iload_n 2, 1) := by decide +kernel
theorem dX10_leans_122 : decode cX10_leans 122 = .ok (.iload_n 3, 1) := by decide +kernel
theorem dX10_leans_123 : decode cX10_leans 123 = .ok (.iload 5, 2) := by decide +kernel
theorem dX10_leans_125 : decode cX10_leans 125 = .ok (.invokevirtual 304, 3) := by decide +kernel
theorem dX10_leans_128 : decode cX10_leans 128 = .ok (.istore 7, 2) := by decide +kernel
theorem dX10_leans_130 : decode cX10_leans 130 = .ok (.iload 6, 2) := by decide +kernel
theorem dX10_leans_132 : decode cX10_leans 132 = .ok (.ifCond .lt 8, 3) := by decide +kernel
theorem dX10_leans_135 : decode cX10_leans 135 = .ok (.iload 7, 2) := by decide +kernel
theorem dX10_leans_137 : decode cX10_leans 137 = .ok (.ifCond .ge 9, 3) := by decide +kernel
theorem dX10_leans_140 : decode cX10_leans 140 = .ok (.sipush (-1004), 3) := by decide +kernel
theorem dX10_leans_143 : decode cX10_leans 143 = .ok (.goto 8, 3) := by decide +kernel
theorem dX10_leans_146 : decode cX10_leans 146 = .ok (.iload 7, 2) := by decide +kernel
theorem dX10_leans_148 : decode cX10_leans 148 = .ok (.iload 6, 2) := by decide +kernel
theorem dX10_leans_150 : decode cX10_leans 150 = .ok (.isub, 1) := by decide +kernel
theorem dX10_leans_151 : decode cX10_leans 151 = .ok (.ireturn, 1) := by decide +kernel
theorem dX10_endWith_0 : decode cX10_endWith 0 = .ok (.aload_n 0, 1) := by decide +kernel
theorem dX10_endWith_1 : decode cX10_endWith 1 = .ok (.iload_n 1, 1) := by decide +kernel
theorem dX10_endWith_2 : decode cX10_endWith 2 = .ok (.iload 4, 2) := by decide +kernel
theorem dX10_endWith_4 : decode cX10_endWith 4 = .ok (.invokevirtual 289, 3) := by decide +kernel
theorem dX10_endWith_7 : decode cX10_endWith 7 = .ok (.lconst 0, 1) := by decide +kernel
theorem dX10_endWith_8 : decode cX10_endWith 8 = .ok (.lcmp, 1) := by decide +kernel
theorem dX10_endWith_9 : decode cX10_endWith 9 = .ok (.ifCond .ne 6, 3) := by decide +kernel
theorem dX10_endWith_12 : decode cX10_endWith 12 = .ok (.bipush (-4), 2) := by decide +kernel
theorem dX10_endWith_14 : decode cX10_endWith 14 = .ok (.ireturn, 1) := by decide +kernel
theorem dX10_endWith_15 : decode cX10_endWith 15 = .ok (.aload_n 0, 1) := by decide +kernel
theorem dX10_endWith_16 : decode cX10_endWith 16 = .ok (.getfield 50, 3) := by decide +kernel
theorem dX10_endWith_19 : decode cX10_endWith 19 = .ok (.iload_n 1, 1) := by decide +kernel
theorem dX10_endWith_20 : decode cX10_endWith 20 = .ok (.aaload, 1) := by decide +kernel
theorem dX10_endWith_21 : decode cX10_endWith 21 = .ok (.astore 5, 2) := by decide +kernel
theorem dX10_endWith_23 : decode cX10_endWith 23 = .ok (.aload 5, 2) := by decide +kernel
theorem dX10_endWith_25 : decode cX10_endWith 25 = .ok (.invokevirtual 308, 3) := by decide +kernel
theorem dX10_endWith_28 : decode cX10_endWith 28 = .ok (.aload 5, 2) := by decide +kernel
theorem dX10_endWith_30 : decode cX10_endWith 30 = .ok (.aload 5, 2) := by decide +kernel
theorem dX10_endWith_32 : decode cX10_endWith 32 = .ok (.getfield 246, 3) := by decide +kernel
theorem dX10_endWith_35 : decode cX10_endWith 35 = .ok (.iload_n 2, 1) := by decide +kernel
theorem dX10_endWith_36 : decode cX10_endWith 36 = .ok (.iaload, 1) := by decide +kernel
theorem dX10_endWith_37 : decode cX10_endWith 37 = .ok (.iload_n 3, 1) := by decide +kernel
theorem dX10_endWith_38 : decode cX10_endWith 38 = .ok (.invokevirtual 249, 3) := by decide +kernel
theorem dX10_endWith_41 : decode cX10_endWith 41 = .ok (.ireturn, 1) := by decide +kernel
theorem dX10_judge_0 : decode cX10_judge 0 = .ok (.iload_n 1, 1) := by decide +kernel
theorem dX10_judge_1 : decode cX10_judge 1 = .ok (.invokestatic 144, 3) := by decide +kernel
theorem dX10_judge_4 : decode cX10_judge 4 = .ok (.ifCond .eq 11, 3) := by decide +kernel
theorem dX10_judge_7 : decode cX10_judge 7 = .ok (.iload_n 2, 1) := by decide +kernel
theorem dX10_judge_8 : decode cX10_judge 8 = .ok (.iload_n 3, 1) := by decide +kernel
theorem dX10_judge_9 : decode cX10_judge 9 = .ok (.invokestatic 87, 3) := by decide +kernel
theorem dX10_judge_12 : decode cX10_judge 12 = .ok (.ifCond .ne 5, 3) := by decide +kernel
theorem dX10_judge_15 : decode cX10_judge 15 = .ok (.iconst (-1), 1) := by decide +kernel
theorem dX10_judge_16 : decode cX10_judge 16 = .ok (.ireturn, 1) := by decide +kernel
theorem dX10_judge_17 : decode cX10_judge 17 = .ok (.aload_n 0, 1) := by decide +kernel
theorem dX10_judge_18 : decode cX10_judge 18 = .ok (.getfield 12, 3) := by decide +kernel
theorem dX10_judge_21 : decode cX10_judge 21 = .ok (.getfield 147, 3) := by decide +kernel
theorem dX10_judge_24 : decode cX10_judge 24 = .ok (.iload_n 1, 1) := by decide +kernel
theorem dX10_judge_25 : decode cX10_judge 25 = .ok (.aaload, 1) := by decide +kernel
theorem dX10_judge_26 : decode cX10_judge 26 = .ok (.invokevirtual 231, 3) := by decide +kernel
theorem dX10_judge_29 : decode cX10_judge 29 = .ok (.istore 5, 2) := by decide +kernel
theorem dX10_judge_31 : decode cX10_judge 31 = .ok (.iload 5, 2) := by decide +kernel
theorem dX10_judge_33 : decode cX10_judge 33 = .ok (.ifCond .ne 6, 3) := by decide +kernel
theorem dX10_judge_36 : decode cX10_judge 36 = .ok (.bipush (-2), 2) := by decide +kernel
theorem dX10_judge_38 : decode cX10_judge 38 = .ok (.ireturn, 1) := by decide +kernel
theorem dX10_judge_39 : decode cX10_judge 39 = .ok (.aload_n 0, 1) := by decide +kernel
theorem dX10_judge_40 : decode cX10_judge 40 = .ok (.getfield 43, 3) := by decide +kernel
theorem dX10_judge_43 : decode cX10_judge 43 = .ok (.iload_n 2, 1) := by decide +kernel
theorem dX10_judge_44 : decode cX10_judge 44 = .ok (.aaload, 1) := by decide +kernel
theorem dX10_judge_45 : decode cX10_judge 45 = .ok (.iload_n 3, 1) := by decide +kernel
theorem dX10_judge_46 : decode cX10_judge 46 = .ok (.iload 4, 2) := by decide +kernel
theorem dX10_judge_48 : decode cX10_judge 48 = .ok (.iload 5, 2) := by decide +kernel
theorem dX10_judge_50 : decode cX10_judge 50 = .ok (.invokevirtual 90, 3) := by decide +kernel
theorem dX10_judge_53 : decode cX10_judge 53 = .ok (.istore 6, 2) := by decide +kernel
theorem dX10_judge_55 : decode cX10_judge 55 = .ok (.iload 6, 2) := by decide +kernel
theorem dX10_judge_57 : decode cX10_judge 57 = .ok (.ifCond .eq 6, 3) := by decide +kernel
theorem dX10_judge_60 : decode cX10_judge 60 = .ok (.iload 6, 2) := by decide +kernel
theorem dX10_judge_62 : decode cX10_judge 62 = .ok (.ireturn, 1) := by decide +kernel
theorem dX10_judge_63 : decode cX10_judge 63 = .ok (.aload_n 0, 1) := by decide +kernel
theorem dX10_judge_64 : decode cX10_judge 64 = .ok (.iload_n 1, 1) := by decide +kernel
theorem dX10_judge_65 : decode cX10_judge 65 = .ok (.invokevirtual 238, 3) := by decide +kernel
theorem dX10_judge_68 : decode cX10_judge 68 = .ok (.astore 7, 2) := by decide +kernel
theorem dX10_judge_70 : decode cX10_judge 70 = .ok (.aload 7, 2) := by decide +kernel
theorem dX10_judge_72 : decode cX10_judge 72 = .ok (.aload_n 0, 1) := by decide +kernel
theorem dX10_judge_73 : decode cX10_judge 73 = .ok (.getfield 43, 3) := by decide +kernel
theorem dX10_judge_76 : decode cX10_judge 76 = .ok (.iload_n 2, 1) := by decide +kernel
theorem dX10_judge_77 : decode cX10_judge 77 = .ok (.aaload, 1) := by decide +kernel
theorem dX10_judge_78 : decode cX10_judge 78 = .ok (.getfield 94, 3) := by decide +kernel
theorem dX10_judge_81 : decode cX10_judge 81 = .ok (.iload 4, 2) := by decide +kernel
theorem dX10_judge_83 : decode cX10_judge 83 = .ok (.invokevirtual 311, 3) := by decide +kernel
theorem dX10_judge_86 : decode cX10_judge 86 = .ok (.istore 8, 2) := by decide +kernel
theorem dX10_judge_88 : decode cX10_judge 88 = .ok (.iload 8, 2) := by decide +kernel
theorem dX10_judge_90 : decode cX10_judge 90 = .ok (.ifCond .ge 8, 3) := by decide +kernel
theorem dX10_judge_93 : decode cX10_judge 93 = .ok (.bipush (-4), 2) := by decide +kernel
theorem dX10_judge_95 : decode cX10_judge 95 = .ok (.goto 11, 3) := by decide +kernel
theorem dX10_judge_98 : decode cX10_judge 98 = .ok (.aload 7, 2) := by decide +kernel
theorem dX10_judge_100 : decode cX10_judge 100 = .ok (.getfield 284, 3) := by decide +kernel
theorem dX10_judge_103 : decode cX10_judge 103 = .ok (.iload 8, 2) := by decide +kernel
theorem dX10_judge_105 : decode cX10_judge 105 = .ok (.iaload, 1) := by decide +kernel
theorem dX10_judge_106 : decode cX10_judge 106 = .ok (.ireturn, 1) := by decide +kernel
theorem dX10_lineOf_0 : decode cX10_lineOf 0 = .ok (.aload_n 0, 1) := by decide +kernel
theorem dX10_lineOf_1 : decode cX10_lineOf 1 = .ok (.getfield 54, 3) := by decide +kernel
theorem dX10_lineOf_4 : decode cX10_lineOf 4 = .ok (.iload_n 1, 1) := by decide +kernel
theorem dX10_lineOf_5 : decode cX10_lineOf 5 = .ok (.baload, 1) := by decide +kernel
theorem dX10_lineOf_6 : decode cX10_lineOf 6 = .ok (.ifCond .ne 36, 3) := by decide +kernel
theorem dX10_lineOf_9 : decode cX10_lineOf 9 = .ok (.aload_n 0, 1) := by decide +kernel
theorem dX10_lineOf_10 : decode cX10_lineOf 10 = .ok (.iload_n 1, 1) := by decide +kernel
theorem dX10_lineOf_11 : decode cX10_lineOf 11 = .ok (.aload_n 0, 1) := by decide +kernel
theorem dX10_lineOf_12 : decode cX10_lineOf 12 = .ok (.getfield 12, 3) := by decide +kernel
theorem dX10_lineOf_15 : decode cX10_lineOf 15 = .ok (.getfield 157, 3) := by decide +kernel
theorem dX10_lineOf_18 : decode cX10_lineOf 18 = .ok (.iload_n 1, 1) := by decide +kernel
theorem dX10_lineOf_19 : decode cX10_lineOf 19 = .ok (.invokevirtual 286, 3) := by decide +kernel
theorem dX10_lineOf_22 : decode cX10_lineOf 22 = .ok (.invokevirtual 289, 3) := by decide +kernel
theorem dX10_lineOf_25 : decode cX10_lineOf 25 = .ok (.pop2, 1) := by decide +kernel
theorem dX10_lineOf_26 : decode cX10_lineOf 26 = .ok (.aload_n 0, 1) := by decide +kernel
theorem dX10_lineOf_27 : decode cX10_lineOf 27 = .ok (.getfield 50, 3) := by decide +kernel
theorem dX10_lineOf_30 : decode cX10_lineOf 30 = .ok (.iload_n 1, 1) := by decide +kernel
theorem dX10_lineOf_31 : decode cX10_lineOf 31 = .ok (.aaload, 1) := by decide +kernel
theorem dX10_lineOf_32 : decode cX10_lineOf 32 = .ok (.invokevirtual 308, 3) := by decide +kernel
theorem dX10_lineOf_35 : decode cX10_lineOf 35 = .ok (.aload_n 0, 1) := by decide +kernel
theorem dX10_lineOf_36 : decode cX10_lineOf 36 = .ok (.getfield 54, 3) := by decide +kernel
theorem dX10_lineOf_39 : decode cX10_lineOf 39 = .ok (.iload_n 1, 1) := by decide +kernel
theorem dX10_lineOf_40 : decode cX10_lineOf 40 = .ok (.iconst 1, 1) := by decide +kernel
theorem dX10_lineOf_41 : decode cX10_lineOf 41 = .ok (.bastore, 1) := by decide +kernel
theorem dX10_lineOf_42 : decode cX10_lineOf 42 = .ok (.aload_n 0, 1) := by decide +kernel
theorem dX10_lineOf_43 : decode cX10_lineOf 43 = .ok (.getfield 50, 3) := by decide +kernel
theorem dX10_lineOf_46 : decode cX10_lineOf 46 = .ok (.iload_n 1, 1) := by decide +kernel
theorem dX10_lineOf_47 : decode cX10_lineOf 47 = .ok (.aaload, 1) := by decide +kernel
theorem dX10_lineOf_48 : decode cX10_lineOf 48 = .ok (.areturn, 1) := by decide +kernel
theorem dX10_oddsPart_0 : decode cX10_oddsPart 0 = .ok (.lload_n 2, 1) := by decide +kernel
theorem dX10_oddsPart_1 : decode cX10_oddsPart 1 = .ok (.lconst 0, 1) := by decide +kernel
theorem dX10_oddsPart_2 : decode cX10_oddsPart 2 = .ok (.lcmp, 1) := by decide +kernel
theorem dX10_oddsPart_3 : decode cX10_oddsPart 3 = .ok (.ifCond .ne 7, 3) := by decide +kernel
theorem dX10_oddsPart_6 : decode cX10_oddsPart 6 = .ok (.ldc2_w 276, 3) := by decide +kernel
theorem dX10_oddsPart_9 : decode cX10_oddsPart 9 = .ok (.lreturn, 1) := by decide +kernel
theorem dX10_oddsPart_10 : decode cX10_oddsPart 10 = .ok (.lload_n 0, 1) := by decide +kernel
theorem dX10_oddsPart_11 : decode cX10_oddsPart 11 = .ok (.lload_n 2, 1) := by decide +kernel
theorem dX10_oddsPart_12 : decode cX10_oddsPart 12 = .ok (.invokestatic 315, 3) := by decide +kernel
theorem dX10_oddsPart_15 : decode cX10_oddsPart 15 = .ok (.lstore 5, 2) := by decide +kernel
theorem dX10_oddsPart_17 : decode cX10_oddsPart 17 = .ok (.iload 4, 2) := by decide +kernel
theorem dX10_oddsPart_19 : decode cX10_oddsPart 19 = .ok (.ifCond .ne 7, 3) := by decide +kernel
theorem dX10_oddsPart_22 : decode cX10_oddsPart 22 = .ok (.lload_n 0, 1) := by decide +kernel
theorem dX10_oddsPart_23 : decode cX10_oddsPart 23 = .ok (.goto 4, 3) := by decide +kernel
theorem dX10_oddsPart_26 : decode cX10_oddsPart 26 = .ok (.lload_n 2, 1) := by decide +kernel
theorem dX10_oddsPart_27 : decode cX10_oddsPart 27 = .ok (.lconst 1, 1) := by decide +kernel
theorem dX10_oddsPart_28 : decode cX10_oddsPart 28 = .ok (.lload 5, 2) := by decide +kernel
theorem dX10_oddsPart_30 : decode cX10_oddsPart 30 = .ok (.invokestatic 319, 3) := by decide +kernel
theorem dX10_oddsPart_33 : decode cX10_oddsPart 33 = .ok (.ldiv, 1) := by decide +kernel
theorem dX10_oddsPart_34 : decode cX10_oddsPart 34 = .ok (.lreturn, 1) := by decide +kernel
theorem dX10_greatestDivisor_0 : decode cX10_greatestDivisor 0 = .ok (.lload_n 0, 1) := by decide +kernel
theorem dX10_greatestDivisor_1 : decode cX10_greatestDivisor 1 = .ok (.lstore 4, 2) := by decide +kernel
theorem dX10_greatestDivisor_3 : decode cX10_greatestDivisor 3 = .ok (.lload_n 2, 1) := by decide +kernel
theorem dX10_greatestDivisor_4 : decode cX10_greatestDivisor 4 = .ok (.lstore 6, 2) := by decide +kernel
theorem dX10_greatestDivisor_6 : decode cX10_greatestDivisor 6 = .ok (.iconst 0, 1) := by decide +kernel
theorem dX10_greatestDivisor_7 : decode cX10_greatestDivisor 7 = .ok (.istore 8, 2) := by decide +kernel
theorem dX10_greatestDivisor_9 : decode cX10_greatestDivisor 9 = .ok (.iload 8, 2) := by decide +kernel
theorem dX10_greatestDivisor_11 : decode cX10_greatestDivisor 11 = .ok (.sipush 200, 3) := by decide +kernel
theorem dX10_greatestDivisor_14 : decode cX10_greatestDivisor 14 = .ok (.if_icmp .ge 31, 3) := by decide +kernel
theorem dX10_greatestDivisor_17 : decode cX10_greatestDivisor 17 = .ok (.lload 6, 2) := by decide +kernel
theorem dX10_greatestDivisor_19 : decode cX10_greatestDivisor 19 = .ok (.lconst 0, 1) := by decide +kernel
theorem dX10_greatestDivisor_20 : decode cX10_greatestDivisor 20 = .ok (.lcmp, 1) := by decide +kernel
theorem dX10_greatestDivisor_21 : decode cX10_greatestDivisor 21 = .ok (.ifCond .eq 24, 3) := by decide +kernel
theorem dX10_greatestDivisor_24 : decode cX10_greatestDivisor 24 = .ok (.lload 4, 2) := by decide +kernel
theorem dX10_greatestDivisor_26 : decode cX10_greatestDivisor 26 = .ok (.lload 6, 2) := by decide +kernel
theorem dX10_greatestDivisor_28 : decode cX10_greatestDivisor 28 = .ok (.lrem, 1) := by decide +kernel
theorem dX10_greatestDivisor_29 : decode cX10_greatestDivisor 29 = .ok (.lstore 9, 2) := by decide +kernel
theorem dX10_greatestDivisor_31 : decode cX10_greatestDivisor 31 = .ok (.lload 6, 2) := by decide +kernel
theorem dX10_greatestDivisor_33 : decode cX10_greatestDivisor 33 = .ok (.lstore 4, 2) := by decide +kernel
theorem dX10_greatestDivisor_35 : decode cX10_greatestDivisor 35 = .ok (.lload 9, 2) := by decide +kernel
theorem dX10_greatestDivisor_37 : decode cX10_greatestDivisor 37 = .ok (.lstore 6, 2) := by decide +kernel
theorem dX10_greatestDivisor_39 : decode cX10_greatestDivisor 39 = .ok (.iinc 8 1, 3) := by decide +kernel
theorem dX10_greatestDivisor_42 : decode cX10_greatestDivisor 42 = .ok (.goto (-33), 3) := by decide +kernel
theorem dX10_greatestDivisor_45 : decode cX10_greatestDivisor 45 = .ok (.lload 4, 2) := by decide +kernel
theorem dX10_greatestDivisor_47 : decode cX10_greatestDivisor 47 = .ok (.lreturn, 1) := by decide +kernel
theorem dX10_oneYear_0 : decode cX10_oneYear 0 = .ok (.aload_n 0, 1) := by decide +kernel
theorem dX10_oneYear_1 : decode cX10_oneYear 1 = .ok (.iconst 0, 1) := by decide +kernel
theorem dX10_oneYear_2 : decode cX10_oneYear 2 = .ok (.iload_n 1, 1) := by decide +kernel
theorem dX10_oneYear_3 : decode cX10_oneYear 3 = .ok (.invokevirtual 170, 3) := by decide +kernel
theorem dX10_oneYear_6 : decode cX10_oneYear 6 = .ok (.ifCond .eq 21, 3) := by decide +kernel
theorem dX10_oneYear_9 : decode cX10_oneYear 9 = .ok (.aload_n 0, 1) := by decide +kernel
theorem dX10_oneYear_10 : decode cX10_oneYear 10 = .ok (.iconst 1, 1) := by decide +kernel
theorem dX10_oneYear_11 : decode cX10_oneYear 11 = .ok (.iload_n 2, 1) := by decide +kernel
theorem dX10_oneYear_12 : decode cX10_oneYear 12 = .ok (.invokevirtual 170, 3) := by decide +kernel
theorem dX10_oneYear_15 : decode cX10_oneYear 15 = .ok (.ifCond .eq 12, 3) := by decide +kernel
theorem dX10_oneYear_18 : decode cX10_oneYear 18 = .ok (.iload_n 3, 1) := by decide +kernel
theorem dX10_oneYear_19 : decode cX10_oneYear 19 = .ok (.iconst 0, 1) := by decide +kernel
theorem dX10_oneYear_20 : decode cX10_oneYear 20 = .ok (.iconst 1, 1) := by decide +kernel
theorem dX10_oneYear_21 : decode cX10_oneYear 21 = .ok (.invokestatic 69, 3) := by decide +kernel
theorem dX10_oneYear_24 : decode cX10_oneYear 24 = .ok (.ifCond .ne 7, 3) := by decide +kernel
theorem dX10_oneYear_27 : decode cX10_oneYear 27 = .ok (.ldc2_w 234, 3) := by decide +kernel
theorem dX10_oneYear_30 : decode cX10_oneYear 30 = .ok (.lreturn, 1) := by decide +kernel
theorem dX10_oneYear_31 : decode cX10_oneYear 31 = .ok (.aload_n 0, 1) := by decide +kernel
theorem dX10_oneYear_32 : decode cX10_oneYear 32 = .ok (.getfield 12, 3) := by decide +kernel
theorem dX10_oneYear_35 : decode cX10_oneYear 35 = .ok (.getfield 147, 3) := by decide +kernel
theorem dX10_oneYear_38 : decode cX10_oneYear 38 = .ok (.iconst 0, 1) := by decide +kernel
theorem dX10_oneYear_39 : decode cX10_oneYear 39 = .ok (.aaload, 1) := by decide +kernel
theorem dX10_oneYear_40 : decode cX10_oneYear 40 = .ok (.iload_n 1, 1) := by decide +kernel
theorem dX10_oneYear_41 : decode cX10_oneYear 41 = .ok (.invokevirtual 177, 3) := by decide +kernel
theorem dX10_oneYear_44 : decode cX10_oneYear 44 = .ok (.ifCond .eq 19, 3) := by decide +kernel
theorem dX10_oneYear_47 : decode cX10_oneYear 47 = .ok (.aload_n 0, 1) := by decide +kernel
theorem dX10_oneYear_48 : decode cX10_oneYear 48 = .ok (.getfield 12, 3) := by decide +kernel
theorem dX10_oneYear_51 : decode cX10_oneYear 51 = .ok (.getfield 147, 3) := by decide +kernel
theorem dX10_oneYear_54 : decode cX10_oneYear 54 = .ok (.iconst 1, 1) := by decide +kernel
theorem dX10_oneYear_55 : decode cX10_oneYear 55 = .ok (.aaload, 1) := by decide +kernel
theorem dX10_oneYear_56 : decode cX10_oneYear 56 = .ok (.iload_n 2, 1) := by decide +kernel
theorem dX10_oneYear_57 : decode cX10_oneYear 57 = .ok (.invokevirtual 177, 3) := by decide +kernel
theorem dX10_oneYear_60 : decode cX10_oneYear 60 = .ok (.ifCond .ne 7, 3) := by decide +kernel
theorem dX10_oneYear_63 : decode cX10_oneYear 63 = .ok (.ldc2_w 252, 3) := by decide +kernel
theorem dX10_oneYear_66 : decode cX10_oneYear 66 = .ok (.lreturn, 1) := by decide +kernel
theorem dX10_oneYear_67 : decode cX10_oneYear 67 = .ok (.aload_n 0, 1) := by decide +kernel
theorem dX10_oneYear_68 : decode cX10_oneYear 68 = .ok (.iconst 0, 1) := by decide +kernel
theorem dX10_oneYear_69 : decode cX10_oneYear 69 = .ok (.invokevirtual 238, 3) := by decide +kernel
theorem dX10_oneYear_72 : decode cX10_oneYear 72 = .ok (.astore 4, 2) := by decide +kernel
theorem dX10_oneYear_74 : decode cX10_oneYear 74 = .ok (.aload_n 0, 1) := by decide +kernel
theorem dX10_oneYear_75 : decode cX10_oneYear 75 = .ok (.iconst 1, 1) := by decide +kernel
theorem dX10_oneYear_76 : decode cX10_oneYear 76 = .ok (.invokevirtual 238, 3) := by decide +kernel
theorem dX10_oneYear_79 : decode cX10_oneYear 79 = .ok (.astore 5, 2) := by decide +kernel
theorem dX10_oneYear_81 : decode cX10_oneYear 81 = .ok (.aload_n 0, 1) := by decide +kernel
theorem dX10_oneYear_82 : decode cX10_oneYear 82 = .ok (.aload 4, 2) := by decide +kernel
theorem dX10_oneYear_84 : decode cX10_oneYear 84 = .ok (.getfield 246, 3) := by decide +kernel
theorem dX10_oneYear_87 : decode cX10_oneYear 87 = .ok (.iload_n 1, 1) := by decide +kernel
theorem dX10_oneYear_88 : decode cX10_oneYear 88 = .ok (.iaload, 1) := by decide +kernel
theorem dX10_oneYear_89 : decode cX10_oneYear 89 = .ok (.aload 5, 2) := by decide +kernel
theorem dX10_oneYear_91 : decode cX10_oneYear 91 = .ok (.getfield 246, 3) := by decide +kernel
theorem dX10_oneYear_94 : decode cX10_oneYear 94 = .ok (.iload_n 2, 1) := by decide +kernel
theorem dX10_oneYear_95 : decode cX10_oneYear 95 = .ok (.iaload, 1) := by decide +kernel
theorem dX10_oneYear_96 : decode cX10_oneYear 96 = .ok (.invokevirtual 324, 3) := by decide +kernel
theorem dX10_oneYear_99 : decode cX10_oneYear 99 = .ok (.lstore 6, 2) := by decide +kernel
theorem dX10_oneYear_101 : decode cX10_oneYear 101 = .ok (.lload 6, 2) := by decide +kernel
theorem dX10_oneYear_103 : decode cX10_oneYear 103 = .ok (.aload 4, 2) := by decide +kernel
theorem dX10_oneYear_105 : decode cX10_oneYear 105 = .ok (.getfield 242, 3) := by decide +kernel
theorem dX10_oneYear_108 : decode cX10_oneYear 108 = .ok (.aload 5, 2) := by decide +kernel
theorem dX10_oneYear_110 : decode cX10_oneYear 110 = .ok (.getfield 242, 3) := by decide +kernel
theorem dX10_oneYear_113 : decode cX10_oneYear 113 = .ok (.lmul, 1) := by decide +kernel
theorem dX10_oneYear_114 : decode cX10_oneYear 114 = .ok (.iload_n 3, 1) := by decide +kernel
theorem dX10_oneYear_115 : decode cX10_oneYear 115 = .ok (.invokestatic 258, 3) := by decide +kernel
theorem dX10_oneYear_118 : decode cX10_oneYear 118 = .ok (.lreturn, 1) := by decide +kernel
theorem dX10_sharedWays_0 : decode cX10_sharedWays 0 = .ok (.lconst 0, 1) := by decide +kernel
theorem dX10_sharedWays_1 : decode cX10_sharedWays 1 = .ok (.lstore_n 3, 1) := by decide +kernel
theorem dX10_sharedWays_2 : decode cX10_sharedWays 2 = .ok (.iconst 0, 1) := by decide +kernel
theorem dX10_sharedWays_3 : decode cX10_sharedWays 3 = .ok (.istore 5, 2) := by decide +kernel
theorem dX10_sharedWays_5 : decode cX10_sharedWays 5 = .ok (.iload 5, 2) := by decide +kernel
theorem dX10_sharedWays_7 : decode cX10_sharedWays 7 = .ok (.bipush 24, 2) := by decide +kernel
theorem dX10_sharedWays_9 : decode cX10_sharedWays 9 = .ok (.if_icmp .ge 37, 3) := by decide +kernel
theorem dX10_sharedWays_12 : decode cX10_sharedWays 12 = .ok (.lload_n 3, 1) := by decide +kernel
theorem dX10_sharedWays_13 : decode cX10_sharedWays 13 = .ok (.aload_n 0, 1) := by decide +kernel
theorem dX10_sharedWays_14 : decode cX10_sharedWays 14 = .ok (.getfield 50, 3) := by decide +kernel
theorem dX10_sharedWays_17 : decode cX10_sharedWays 17 = .ok (.iconst 0, 1) := by decide +kernel
theorem dX10_sharedWays_18 : decode cX10_sharedWays 18 = .ok (.aaload, 1) := by decide +kernel
theorem dX10_sharedWays_19 : decode cX10_sharedWays 19 = .ok (.iload_n 1, 1) := by decide +kernel
theorem dX10_sharedWays_20 : decode cX10_sharedWays 20 = .ok (.iload 5, 2) := by decide +kernel
theorem dX10_sharedWays_22 : decode cX10_sharedWays 22 = .ok (.invokevirtual 254, 3) := by decide +kernel
theorem dX10_sharedWays_25 : decode cX10_sharedWays 25 = .ok (.aload_n 0, 1) := by decide +kernel
theorem dX10_sharedWays_26 : decode cX10_sharedWays 26 = .ok (.getfield 50, 3) := by decide +kernel
theorem dX10_sharedWays_29 : decode cX10_sharedWays 29 = .ok (.iconst 1, 1) := by decide +kernel
theorem dX10_sharedWays_30 : decode cX10_sharedWays 30 = .ok (.aaload, 1) := by decide +kernel
theorem dX10_sharedWays_31 : decode cX10_sharedWays 31 = .ok (.iload_n 2, 1) := by decide +kernel
theorem dX10_sharedWays_32 : decode cX10_sharedWays 32 = .ok (.iload 5, 2) := by decide +kernel
theorem dX10_sharedWays_34 : decode cX10_sharedWays 34 = .ok (.invokevirtual 254, 3) := by decide +kernel
theorem dX10_sharedWays_37 : decode cX10_sharedWays 37 = .ok (.lmul, 1) := by decide +kernel
theorem dX10_sharedWays_38 : decode cX10_sharedWays 38 = .ok (.ladd, 1) := by decide +kernel
theorem dX10_sharedWays_39 : decode cX10_sharedWays 39 = .ok (.lstore_n 3, 1) := by decide +kernel
theorem dX10_sharedWays_40 : decode cX10_sharedWays 40 = .ok (.iinc 5 1, 3) := by decide +kernel
theorem dX10_sharedWays_43 : decode cX10_sharedWays 43 = .ok (.goto (-38), 3) := by decide +kernel
theorem dX10_sharedWays_46 : decode cX10_sharedWays 46 = .ok (.lload_n 3, 1) := by decide +kernel
theorem dX10_sharedWays_47 : decode cX10_sharedWays 47 = .ok (.lreturn, 1) := by decide +kernel
theorem dX10_tie_0 : decode cX10_tie 0 = .ok (.iload_n 1, 1) := by decide +kernel
theorem dX10_tie_1 : decode cX10_tie 1 = .ok (.iconst 0, 1) := by decide +kernel
theorem dX10_tie_2 : decode cX10_tie 2 = .ok (.iconst 2, 1) := by decide +kernel
theorem dX10_tie_3 : decode cX10_tie 3 = .ok (.invokestatic 69, 3) := by decide +kernel
theorem dX10_tie_6 : decode cX10_tie 6 = .ok (.ifCond .ne 7, 3) := by decide +kernel
theorem dX10_tie_9 : decode cX10_tie 9 = .ok (.ldc2_w 234, 3) := by decide +kernel
theorem dX10_tie_12 : decode cX10_tie 12 = .ok (.lreturn, 1) := by decide +kernel
theorem dX10_tie_13 : decode cX10_tie 13 = .ok (.aload_n 0, 1) := by decide +kernel
theorem dX10_tie_14 : decode cX10_tie 14 = .ok (.getfield 12, 3) := by decide +kernel
theorem dX10_tie_17 : decode cX10_tie 17 = .ok (.getfield 147, 3) := by decide +kernel
theorem dX10_tie_20 : decode cX10_tie 20 = .ok (.iconst 0, 1) := by decide +kernel
theorem dX10_tie_21 : decode cX10_tie 21 = .ok (.aaload, 1) := by decide +kernel
theorem dX10_tie_22 : decode cX10_tie 22 = .ok (.invokevirtual 231, 3) := by decide +kernel
theorem dX10_tie_25 : decode cX10_tie 25 = .ok (.ifCond .eq 18, 3) := by decide +kernel
theorem dX10_tie_28 : decode cX10_tie 28 = .ok (.aload_n 0, 1) := by decide +kernel
theorem dX10_tie_29 : decode cX10_tie 29 = .ok (.getfield 12, 3) := by decide +kernel
theorem dX10_tie_32 : decode cX10_tie 32 = .ok (.getfield 147, 3) := by decide +kernel
theorem dX10_tie_35 : decode cX10_tie 35 = .ok (.iconst 1, 1) := by decide +kernel
theorem dX10_tie_36 : decode cX10_tie 36 = .ok (.aaload, 1) := by decide +kernel
theorem dX10_tie_37 : decode cX10_tie 37 = .ok (.invokevirtual 231, 3) := by decide +kernel
theorem dX10_tie_40 : decode cX10_tie 40 = .ok (.ifCond .ne 7, 3) := by decide +kernel
theorem dX10_tie_43 : decode cX10_tie 43 = .ok (.ldc2_w 236, 3) := by decide +kernel
theorem dX10_tie_46 : decode cX10_tie 46 = .ok (.lreturn, 1) := by decide +kernel
theorem dX10_tie_47 : decode cX10_tie 47 = .ok (.aload_n 0, 1) := by decide +kernel
theorem dX10_tie_48 : decode cX10_tie 48 = .ok (.iconst 0, 1) := by decide +kernel
theorem dX10_tie_49 : decode cX10_tie 49 = .ok (.invokevirtual 238, 3) := by decide +kernel
theorem dX10_tie_52 : decode cX10_tie 52 = .ok (.astore_n 2, 1) := by decide +kernel
theorem dX10_tie_53 : decode cX10_tie 53 = .ok (.aload_n 0, 1) := by decide +kernel
theorem dX10_tie_54 : decode cX10_tie 54 = .ok (.iconst 1, 1) := by decide +kernel
theorem dX10_tie_55 : decode cX10_tie 55 = .ok (.invokevirtual 238, 3) := by decide +kernel
theorem dX10_tie_58 : decode cX10_tie 58 = .ok (.astore_n 3, 1) := by decide +kernel
theorem dX10_tie_59 : decode cX10_tie 59 = .ok (.aload_n 2, 1) := by decide +kernel
theorem dX10_tie_60 : decode cX10_tie 60 = .ok (.getfield 242, 3) := by decide +kernel
theorem dX10_tie_63 : decode cX10_tie 63 = .ok (.lconst 0, 1) := by decide +kernel
theorem dX10_tie_64 : decode cX10_tie 64 = .ok (.lcmp, 1) := by decide +kernel
theorem dX10_tie_65 : decode cX10_tie 65 = .ok (.ifCond .eq 12, 3) := by decide +kernel
theorem dX10_tie_68 : decode cX10_tie 68 = .ok (.aload_n 3, 1) := by decide +kernel
theorem dX10_tie_69 : decode cX10_tie 69 = .ok (.getfield 242, 3) := by decide +kernel
theorem dX10_tie_72 : decode cX10_tie 72 = .ok (.lconst 0, 1) := by decide +kernel
theorem dX10_tie_73 : decode cX10_tie 73 = .ok (.lcmp, 1) := by decide +kernel
theorem dX10_tie_74 : decode cX10_tie 74 = .ok (.ifCond .ne 7, 3) := by decide +kernel
theorem dX10_tie_77 : decode cX10_tie 77 = .ok (.ldc2_w 276, 3) := by decide +kernel
theorem dX10_tie_80 : decode cX10_tie 80 = .ok (.lreturn, 1) := by decide +kernel
theorem dX10_tie_81 : decode cX10_tie 81 = .ok (.iconst 0, 1) := by decide +kernel
theorem dX10_tie_82 : decode cX10_tie 82 = .ok (.istore 4, 2) := by decide +kernel
theorem dX10_tie_84 : decode cX10_tie 84 = .ok (.iconst 0, 1) := by decide +kernel
theorem dX10_tie_85 : decode cX10_tie 85 = .ok (.istore 5, 2) := by decide +kernel
theorem dX10_tie_87 : decode cX10_tie 87 = .ok (.ldc2_w 234, 3) := by decide +kernel
theorem dX10_tie_90 : decode cX10_tie 90 = .ok (.lstore 6, 2) := by decide +kernel
theorem dX10_tie_92 : decode cX10_tie 92 = .ok (.iconst 0, 1) := by decide +kernel
theorem dX10_tie_93 : decode cX10_tie 93 = .ok (.istore 8, 2) := by decide +kernel
theorem dX10_tie_95 : decode cX10_tie 95 = .ok (.iload 8, 2) := by decide +kernel
theorem dX10_tie_97 : decode cX10_tie 97 = .ok (.aload_n 2, 1) := by decide +kernel
theorem dX10_tie_98 : decode cX10_tie 98 = .ok (.getfield 278, 3) := by decide +kernel
theorem dX10_tie_101 : decode cX10_tie 101 = .ok (.if_icmp .ge 57, 3) := by decide +kernel
theorem dX10_tie_104 : decode cX10_tie 104 = .ok (.iconst 0, 1) := by decide +kernel
theorem dX10_tie_105 : decode cX10_tie 105 = .ok (.istore 9, 2) := by decide +kernel
theorem dX10_tie_107 : decode cX10_tie 107 = .ok (.iload 9, 2) := by decide +kernel
theorem dX10_tie_109 : decode cX10_tie 109 = .ok (.aload_n 3, 1) := by decide +kernel
theorem dX10_tie_110 : decode cX10_tie 110 = .ok (.getfield 278, 3) := by decide +kernel
theorem dX10_tie_113 : decode cX10_tie 113 = .ok (.if_icmp .ge 39, 3) := by decide +kernel
theorem dX10_tie_116 : decode cX10_tie 116 = .ok (.aload_n 0, 1) := by decide +kernel
theorem dX10_tie_117 : decode cX10_tie 117 = .ok (.iload 8, 2) := by decide +kernel
theorem dX10_tie_119 : decode cX10_tie 119 = .ok (.iload 9, 2) := by decide +kernel
theorem dX10_tie_121 : decode cX10_tie 121 = .ok (.invokevirtual 324, 3) := by decide +kernel
theorem dX10_tie_124 : decode cX10_tie 124 = .ok (.lstore 10, 2) := by decide +kernel
theorem dX10_tie_126 : decode cX10_tie 126 = .ok (.lload 10, 2) := by decide +kernel
theorem dX10_tie_128 : decode cX10_tie 128 = .ok (.lload 6, 2) := by decide +kernel
theorem dX10_tie_130 : decode cX10_tie 130 = .ok (.lcmp, 1) := by decide +kernel
theorem dX10_tie_131 : decode cX10_tie 131 = .ok (.ifCond .le 15, 3) := by decide +kernel
theorem dX10_tie_134 : decode cX10_tie 134 = .ok (.lload 10, 2) := by decide +kernel
theorem dX10_tie_136 : decode cX10_tie 136 = .ok (.lstore 6, 2) := by decide +kernel
theorem dX10_tie_138 : decode cX10_tie 138 = .ok (.iload 8, 2) := by decide +kernel
theorem dX10_tie_140 : decode cX10_tie 140 = .ok (.istore 4, 2) := by decide +kernel
theorem dX10_tie_142 : decode cX10_tie 142 = .ok (.iload 9, 2) := by decide +kernel
theorem dX10_tie_144 : decode cX10_tie 144 = .ok (.istore 5, 2) := by decide +kernel
theorem dX10_tie_146 : decode cX10_tie 146 = .ok (.iinc 9 1, 3) := by decide +kernel
theorem dX10_tie_149 : decode cX10_tie 149 = .ok (.goto (-42), 3) := by decide +kernel
theorem dX10_tie_152 : decode cX10_tie 152 = .ok (.iinc 8 1, 3) := by decide +kernel
theorem dX10_tie_155 : decode cX10_tie 155 = .ok (.goto (-60), 3) := by decide +kernel
theorem dX10_tie_158 : decode cX10_tie 158 = .ok (.iload_n 1, 1) := by decide +kernel
theorem dX10_tie_159 : decode cX10_tie 159 = .ok (.ifCond .ne 14, 3) := by decide +kernel
theorem dX10_tie_162 : decode cX10_tie 162 = .ok (.aload_n 2, 1) := by decide +kernel
theorem dX10_tie_163 : decode cX10_tie 163 = .ok (.getfield 284, 3) := by decide +kernel
theorem dX10_tie_166 : decode cX10_tie 166 = .ok (.iload 4, 2) := by decide +kernel
theorem dX10_tie_168 : decode cX10_tie 168 = .ok (.iaload, 1) := by decide +kernel
theorem dX10_tie_169 : decode cX10_tie 169 = .ok (.i2l, 1) := by decide +kernel
theorem dX10_tie_170 : decode cX10_tie 170 = .ok (.goto 21, 3) := by decide +kernel
theorem dX10_tie_173 : decode cX10_tie 173 = .ok (.iload_n 1, 1) := by decide +kernel
theorem dX10_tie_174 : decode cX10_tie 174 = .ok (.iconst 1, 1) := by decide +kernel
theorem dX10_tie_175 : decode cX10_tie 175 = .ok (.if_icmp .ne 14, 3) := by decide +kernel
theorem dX10_tie_178 : decode cX10_tie 178 = .ok (.aload_n 3, 1) := by decide +kernel
theorem dX10_tie_179 : decode cX10_tie 179 = .ok (.getfield 284, 3) := by decide +kernel
theorem dX10_tie_182 : decode cX10_tie 182 = .ok (.iload 5, 2) := by decide +kernel
theorem dX10_tie_184 : decode cX10_tie 184 = .ok (.iaload, 1) := by decide +kernel
theorem dX10_tie_185 : decode cX10_tie 185 = .ok (.i2l, 1) := by decide +kernel
theorem dX10_tie_186 : decode cX10_tie 186 = .ok (.goto 5, 3) := by decide +kernel
theorem dX10_tie_189 : decode cX10_tie 189 = .ok (.lload 6, 2) := by decide +kernel
theorem dX10_tie_191 : decode cX10_tie 191 = .ok (.lreturn, 1) := by decide +kernel
theorem dX10_claim_0 : decode cX10_claim 0 = .ok (.aload_n 0, 1) := by decide +kernel
theorem dX10_claim_1 : decode cX10_claim 1 = .ok (.getfield 22, 3) := by decide +kernel
theorem dX10_claim_4 : decode cX10_claim 4 = .ok (.aload_n 0, 1) := by decide +kernel
theorem dX10_claim_5 : decode cX10_claim 5 = .ok (.getfield 36, 3) := by decide +kernel
theorem dX10_claim_8 : decode cX10_claim 8 = .ok (.invokevirtual 327, 3) := by decide +kernel
theorem dX10_claim_11 : decode cX10_claim 11 = .ok (.istore_n 1, 1) := by decide +kernel
theorem dX10_claim_12 : decode cX10_claim 12 = .ok (.iload_n 1, 1) := by decide +kernel
theorem dX10_claim_13 : decode cX10_claim 13 = .ok (.ifCond .eq 13, 3) := by decide +kernel
theorem dX10_claim_16 : decode cX10_claim 16 = .ok (.aload_n 0, 1) := by decide +kernel
theorem dX10_claim_17 : decode cX10_claim 17 = .ok (.getfield 22, 3) := by decide +kernel
theorem dX10_claim_20 : decode cX10_claim 20 = .ok (.iconst 0, 1) := by decide +kernel
theorem dX10_claim_21 : decode cX10_claim 21 = .ok (.putfield 116, 3) := by decide +kernel
theorem dX10_claim_24 : decode cX10_claim 24 = .ok (.iload_n 1, 1) := by decide +kernel
theorem dX10_claim_25 : decode cX10_claim 25 = .ok (.ireturn, 1) := by decide +kernel
theorem dX10_claim_26 : decode cX10_claim 26 = .ok (.aload_n 0, 1) := by decide +kernel
theorem dX10_claim_27 : decode cX10_claim 27 = .ok (.getfield 12, 3) := by decide +kernel
theorem dX10_claim_30 : decode cX10_claim 30 = .ok (.getfield 225, 3) := by decide +kernel
theorem dX10_claim_33 : decode cX10_claim 33 = .ok (.iconst 4, 1) := by decide +kernel
theorem dX10_claim_34 : decode cX10_claim 34 = .ok (.if_icmp .ne 6, 3) := by decide +kernel
theorem dX10_claim_37 : decode cX10_claim 37 = .ok (.bipush (-3), 2) := by decide +kernel
theorem dX10_claim_39 : decode cX10_claim 39 = .ok (.ireturn, 1) := by decide +kernel
theorem dX10_claim_40 : decode cX10_claim 40 = .ok (.aload_n 0, 1) := by decide +kernel
theorem dX10_claim_41 : decode cX10_claim 41 = .ok (.getfield 22, 3) := by decide +kernel
theorem dX10_claim_44 : decode cX10_claim 44 = .ok (.iconst 0, 1) := by decide +kernel
theorem dX10_claim_45 : decode cX10_claim 45 = .ok (.putfield 116, 3) := by decide +kernel
theorem dX10_claim_48 : decode cX10_claim 48 = .ok (.aload_n 0, 1) := by decide +kernel
theorem dX10_claim_49 : decode cX10_claim 49 = .ok (.getfield 12, 3) := by decide +kernel
theorem dX10_claim_52 : decode cX10_claim 52 = .ok (.getfield 331, 3) := by decide +kernel
theorem dX10_claim_55 : decode cX10_claim 55 = .ok (.aload_n 0, 1) := by decide +kernel
theorem dX10_claim_56 : decode cX10_claim 56 = .ok (.getfield 12, 3) := by decide +kernel
theorem dX10_claim_59 : decode cX10_claim 59 = .ok (.getfield 225, 3) := by decide +kernel
theorem dX10_claim_62 : decode cX10_claim 62 = .ok (.aaload, 1) := by decide +kernel
theorem dX10_claim_63 : decode cX10_claim 63 = .ok (.aload_n 0, 1) := by decide +kernel
theorem dX10_claim_64 : decode cX10_claim 64 = .ok (.getfield 36, 3) := by decide +kernel
theorem dX10_claim_67 : decode cX10_claim 67 = .ok (.invokevirtual 335, 3) := by decide +kernel
theorem dX10_claim_70 : decode cX10_claim 70 = .ok (.aload_n 0, 1) := by decide +kernel
theorem dX10_claim_71 : decode cX10_claim 71 = .ok (.getfield 12, 3) := by decide +kernel
theorem dX10_claim_74 : decode cX10_claim 74 = .ok (.dup, 1) := by decide +kernel
theorem dX10_claim_75 : decode cX10_claim 75 = .ok (.getfield 225, 3) := by decide +kernel
theorem dX10_claim_78 : decode cX10_claim 78 = .ok (.iconst 1, 1) := by decide +kernel
theorem dX10_claim_79 : decode cX10_claim 79 = .ok (.iadd, 1) := by decide +kernel
theorem dX10_claim_80 : decode cX10_claim 80 = .ok (.putfield 225, 3) := by decide +kernel
theorem dX10_claim_83 : decode cX10_claim 83 = .ok (.aload_n 0, 1) := by decide +kernel
theorem dX10_claim_84 : decode cX10_claim 84 = .ok (.getfield 12, 3) := by decide +kernel
theorem dX10_claim_87 : decode cX10_claim 87 = .ok (.getfield 225, 3) := by decide +kernel
theorem dX10_claim_90 : decode cX10_claim 90 = .ok (.iconst 1, 1) := by decide +kernel
theorem dX10_claim_91 : decode cX10_claim 91 = .ok (.isub, 1) := by decide +kernel
theorem dX10_claim_92 : decode cX10_claim 92 = .ok (.ireturn, 1) := by decide +kernel
theorem dX10_chance_0 : decode cX10_chance 0 = .ok (.aload_n 0, 1) := by decide +kernel
theorem dX10_chance_1 : decode cX10_chance 1 = .ok (.iload_n 1, 1) := by decide +kernel
theorem dX10_chance_2 : decode cX10_chance 2 = .ok (.invokevirtual 338, 3) := by decide +kernel
theorem dX10_chance_5 : decode cX10_chance 5 = .ok (.ifCond .eq 19, 3) := by decide +kernel
theorem dX10_chance_8 : decode cX10_chance 8 = .ok (.iload_n 2, 1) := by decide +kernel
theorem dX10_chance_9 : decode cX10_chance 9 = .ok (.invokestatic 144, 3) := by decide +kernel
theorem dX10_chance_12 : decode cX10_chance 12 = .ok (.ifCond .eq 12, 3) := by decide +kernel
theorem dX10_chance_15 : decode cX10_chance 15 = .ok (.iload_n 3, 1) := by decide +kernel
theorem dX10_chance_16 : decode cX10_chance 16 = .ok (.iconst 0, 1) := by decide +kernel
theorem dX10_chance_17 : decode cX10_chance 17 = .ok (.iconst 1, 1) := by decide +kernel
theorem dX10_chance_18 : decode cX10_chance 18 = .ok (.invokestatic 69, 3) := by decide +kernel
theorem dX10_chance_21 : decode cX10_chance 21 = .ok (.ifCond .ne 7, 3) := by decide +kernel
theorem dX10_chance_24 : decode cX10_chance 24 = .ok (.ldc2_w 234, 3) := by decide +kernel
theorem dX10_chance_27 : decode cX10_chance 27 = .ok (.lreturn, 1) := by decide +kernel
theorem dX10_chance_28 : decode cX10_chance 28 = .ok (.aload_n 0, 1) := by decide +kernel
theorem dX10_chance_29 : decode cX10_chance 29 = .ok (.getfield 12, 3) := by decide +kernel
theorem dX10_chance_32 : decode cX10_chance 32 = .ok (.getfield 147, 3) := by decide +kernel
theorem dX10_chance_35 : decode cX10_chance 35 = .ok (.iload_n 2, 1) := by decide +kernel
theorem dX10_chance_36 : decode cX10_chance 36 = .ok (.aaload, 1) := by decide +kernel
theorem dX10_chance_37 : decode cX10_chance 37 = .ok (.invokevirtual 231, 3) := by decide +kernel
theorem dX10_chance_40 : decode cX10_chance 40 = .ok (.ifCond .ne 7, 3) := by decide +kernel
theorem dX10_chance_43 : decode cX10_chance 43 = .ok (.ldc2_w 236, 3) := by decide +kernel
theorem dX10_chance_46 : decode cX10_chance 46 = .ok (.lreturn, 1) := by decide +kernel
theorem dX10_chance_47 : decode cX10_chance 47 = .ok (.aload_n 0, 1) := by decide +kernel
theorem dX10_chance_48 : decode cX10_chance 48 = .ok (.iload_n 2, 1) := by decide +kernel
theorem dX10_chance_49 : decode cX10_chance 49 = .ok (.invokevirtual 238, 3) := by decide +kernel
theorem dX10_chance_52 : decode cX10_chance 52 = .ok (.astore 4, 2) := by decide +kernel
theorem dX10_chance_54 : decode cX10_chance 54 = .ok (.aload 4, 2) := by decide +kernel
theorem dX10_chance_56 : decode cX10_chance 56 = .ok (.getfield 242, 3) := by decide +kernel
theorem dX10_chance_59 : decode cX10_chance 59 = .ok (.lconst 0, 1) := by decide +kernel
theorem dX10_chance_60 : decode cX10_chance 60 = .ok (.lcmp, 1) := by decide +kernel
theorem dX10_chance_61 : decode cX10_chance 61 = .ok (.ifCond .ne 7, 3) := by decide +kernel
theorem dX10_chance_64 : decode cX10_chance 64 = .ok (.ldc2_w 276, 3) := by decide +kernel
theorem dX10_chance_67 : decode cX10_chance 67 = .ok (.lreturn, 1) := by decide +kernel
theorem dX10_chance_68 : decode cX10_chance 68 = .ok (.aload_n 0, 1) := by decide +kernel
theorem dX10_chance_69 : decode cX10_chance 69 = .ok (.getfield 61, 3) := by decide +kernel
theorem dX10_chance_72 : decode cX10_chance 72 = .ok (.aload 4, 2) := by decide +kernel
theorem dX10_chance_74 : decode cX10_chance 74 = .ok (.aload_n 0, 1) := by decide +kernel
theorem dX10_chance_75 : decode cX10_chance 75 = .ok (.getfield 12, 3) := by decide +kernel
theorem dX10_chance_78 : decode cX10_chance 78 = .ok (.getfield 147, 3) := by decide +kernel
theorem dX10_chance_81 : decode cX10_chance 81 = .ok (.iload_n 2, 1) := by decide +kernel
theorem dX10_chance_82 : decode cX10_chance 82 = .ok (.aaload, 1) := by decide +kernel
theorem dX10_chance_83 : decode cX10_chance 83 = .ok (.aload_n 0, 1) := by decide +kernel
theorem dX10_chance_84 : decode cX10_chance 84 = .ok (.getfield 12, 3) := by decide +kernel
theorem dX10_chance_87 : decode cX10_chance 87 = .ok (.getfield 331, 3) := by decide +kernel
theorem dX10_chance_90 : decode cX10_chance 90 = .ok (.iload_n 1, 1) := by decide +kernel
theorem dX10_chance_91 : decode cX10_chance 91 = .ok (.aaload, 1) := by decide +kernel
theorem dX10_chance_92 : decode cX10_chance 92 = .ok (.iconst 0, 1) := by decide +kernel
theorem dX10_chance_93 : decode cX10_chance 93 = .ok (.invokevirtual 341, 3) := by decide +kernel
theorem dX10_chance_96 : decode cX10_chance 96 = .ok (.aload 4, 2) := by decide +kernel
theorem dX10_chance_98 : decode cX10_chance 98 = .ok (.getfield 242, 3) := by decide +kernel
theorem dX10_chance_101 : decode cX10_chance 101 = .ok (.iload_n 3, 1) := by decide +kernel
theorem dX10_chance_102 : decode cX10_chance 102 = .ok (.invokestatic 258, 3) := by decide +kernel
theorem dX10_chance_105 : decode cX10_chance 105 = .ok (.lreturn, 1) := by decide +kernel
theorem dX10_holds_0 : decode cX10_holds 0 = .ok (.aload_n 0, 1) := by decide +kernel
theorem dX10_holds_1 : decode cX10_holds 1 = .ok (.iload_n 1, 1) := by decide +kernel
theorem dX10_holds_2 : decode cX10_holds 2 = .ok (.invokevirtual 338, 3) := by decide +kernel
theorem dX10_holds_5 : decode cX10_holds 5 = .ok (.ifCond .eq 10, 3) := by decide +kernel
theorem dX10_holds_8 : decode cX10_holds 8 = .ok (.iload_n 2, 1) := by decide +kernel
theorem dX10_holds_9 : decode cX10_holds 9 = .ok (.invokestatic 144, 3) := by decide +kernel
theorem dX10_holds_12 : decode cX10_holds 12 = .ok (.ifCond .ne 5, 3) := by decide +kernel
theorem dX10_holds_15 : decode cX10_holds 15 = .ok (.iconst (-1), 1) := by decide +kernel
theorem dX10_holds_16 : decode cX10_holds 16 = .ok (.ireturn, 1) := by decide +kernel
theorem dX10_holds_17 : decode cX10_holds 17 = .ok (.aload_n 0, 1) := by decide +kernel
theorem dX10_holds_18 : decode cX10_holds 18 = .ok (.getfield 12, 3) := by decide +kernel
theorem dX10_holds_21 : decode cX10_holds 21 = .ok (.getfield 147, 3) := by decide +kernel
theorem dX10_holds_24 : decode cX10_holds 24 = .ok (.iload_n 2, 1) := by decide +kernel
theorem dX10_holds_25 : decode cX10_holds 25 = .ok (.aaload, 1) := by decide +kernel
theorem dX10_holds_26 : decode cX10_holds 26 = .ok (.astore_n 3, 1) := by decide +kernel
theorem dX10_holds_27 : decode cX10_holds 27 = .ok (.aload_n 3, 1) := by decide +kernel
theorem dX10_holds_28 : decode cX10_holds 28 = .ok (.getfield 173, 3) := by decide +kernel
theorem dX10_holds_31 : decode cX10_holds 31 = .ok (.ifCond .ne 6, 3) := by decide +kernel
theorem dX10_holds_34 : decode cX10_holds 34 = .ok (.bipush (-2), 2) := by decide +kernel
theorem dX10_holds_36 : decode cX10_holds 36 = .ok (.ireturn, 1) := by decide +kernel
theorem dX10_holds_37 : decode cX10_holds 37 = .ok (.aload_n 0, 1) := by decide +kernel
theorem dX10_holds_38 : decode cX10_holds 38 = .ok (.getfield 12, 3) := by decide +kernel
theorem dX10_holds_41 : decode cX10_holds 41 = .ok (.getfield 331, 3) := by decide +kernel
theorem dX10_holds_44 : decode cX10_holds 44 = .ok (.iload_n 1, 1) := by decide +kernel
theorem dX10_holds_45 : decode cX10_holds 45 = .ok (.aaload, 1) := by decide +kernel
theorem dX10_holds_46 : decode cX10_holds 46 = .ok (.astore 4, 2) := by decide +kernel
theorem dX10_holds_48 : decode cX10_holds 48 = .ok (.aload 4, 2) := by decide +kernel
theorem dX10_holds_50 : decode cX10_holds 50 = .ok (.aload 4, 2) := by decide +kernel
theorem dX10_holds_52 : decode cX10_holds 52 = .ok (.iconst 0, 1) := by decide +kernel
theorem dX10_holds_53 : decode cX10_holds 53 = .ok (.aload_n 3, 1) := by decide +kernel
theorem dX10_holds_54 : decode cX10_holds 54 = .ok (.invokevirtual 345, 3) := by decide +kernel
theorem dX10_holds_57 : decode cX10_holds 57 = .ok (.aload 4, 2) := by decide +kernel
theorem dX10_holds_59 : decode cX10_holds 59 = .ok (.iconst 1, 1) := by decide +kernel
theorem dX10_holds_60 : decode cX10_holds 60 = .ok (.aload_n 3, 1) := by decide +kernel
theorem dX10_holds_61 : decode cX10_holds 61 = .ok (.invokevirtual 345, 3) := by decide +kernel
theorem dX10_holds_64 : decode cX10_holds 64 = .ok (.invokevirtual 349, 3) := by decide +kernel
theorem dX10_holds_67 : decode cX10_holds 67 = .ok (.ifCond .eq 7, 3) := by decide +kernel
theorem dX10_holds_70 : decode cX10_holds 70 = .ok (.iconst 1, 1) := by decide +kernel
theorem dX10_holds_71 : decode cX10_holds 71 = .ok (.goto 4, 3) := by decide +kernel
theorem dX10_holds_74 : decode cX10_holds 74 = .ok (.iconst 0, 1) := by decide +kernel
theorem dX10_holds_75 : decode cX10_holds 75 = .ok (.ireturn, 1) := by decide +kernel
theorem dX10_looked_0 : decode cX10_looked 0 = .ok (.aload_n 0, 1) := by decide +kernel
theorem dX10_looked_1 : decode cX10_looked 1 = .ok (.iload_n 1, 1) := by decide +kernel
theorem dX10_looked_2 : decode cX10_looked 2 = .ok (.invokevirtual 338, 3) := by decide +kernel
theorem dX10_looked_5 : decode cX10_looked 5 = .ok (.ifCond .eq 20, 3) := by decide +kernel
theorem dX10_looked_8 : decode cX10_looked 8 = .ok (.iload_n 2, 1) := by decide +kernel
theorem dX10_looked_9 : decode cX10_looked 9 = .ok (.invokestatic 144, 3) := by decide +kernel
theorem dX10_looked_12 : decode cX10_looked 12 = .ok (.ifCond .eq 13, 3) := by decide +kernel
theorem dX10_looked_15 : decode cX10_looked 15 = .ok (.iload 5, 2) := by decide +kernel
theorem dX10_looked_17 : decode cX10_looked 17 = .ok (.iconst 0, 1) := by decide +kernel
theorem dX10_looked_18 : decode cX10_looked 18 = .ok (.iconst 1, 1) := by decide +kernel
theorem dX10_looked_19 : decode cX10_looked 19 = .ok (.invokestatic 69, 3) := by decide +kernel
theorem dX10_looked_22 : decode cX10_looked 22 = .ok (.ifCond .ne 5, 3) := by decide +kernel
theorem dX10_looked_25 : decode cX10_looked 25 = .ok (.iconst (-1), 1) := by decide +kernel
theorem dX10_looked_26 : decode cX10_looked 26 = .ok (.ireturn, 1) := by decide +kernel
theorem dX10_looked_27 : decode cX10_looked 27 = .ok (.iload 4, 2) := by decide +kernel
theorem dX10_looked_29 : decode cX10_looked 29 = .ok (.iconst 1, 1) := by decide +kernel
theorem dX10_looked_30 : decode cX10_looked 30 = .ok (.sipush 1000, 3) := by decide +kernel
theorem dX10_looked_33 : decode cX10_looked 33 = .ok (.invokestatic 69, 3) := by decide +kernel
theorem dX10_looked_36 : decode cX10_looked 36 = .ok (.ifCond .eq 13, 3) := by decide +kernel
theorem dX10_looked_39 : decode cX10_looked 39 = .ok (.iload_n 3, 1) := by decide +kernel
theorem dX10_looked_40 : decode cX10_looked 40 = .ok (.iconst 0, 1) := by decide +kernel
theorem dX10_looked_41 : decode cX10_looked 41 = .ok (.iload 4, 2) := by decide +kernel
theorem dX10_looked_43 : decode cX10_looked 43 = .ok (.invokestatic 69, 3) := by decide +kernel
theorem dX10_looked_46 : decode cX10_looked 46 = .ok (.ifCond .ne 5, 3) := by decide +kernel
theorem dX10_looked_49 : decode cX10_looked 49 = .ok (.iconst (-1), 1) := by decide +kernel
theorem dX10_looked_50 : decode cX10_looked 50 = .ok (.ireturn, 1) := by decide +kernel
theorem dX10_looked_51 : decode cX10_looked 51 = .ok (.aload_n 0, 1) := by decide +kernel
theorem dX10_looked_52 : decode cX10_looked 52 = .ok (.getfield 12, 3) := by decide +kernel
theorem dX10_looked_55 : decode cX10_looked 55 = .ok (.getfield 147, 3) := by decide +kernel
theorem dX10_looked_58 : decode cX10_looked 58 = .ok (.iload_n 2, 1) := by decide +kernel
theorem dX10_looked_59 : decode cX10_looked 59 = .ok (.aaload, 1) := by decide +kernel
theorem dX10_looked_60 : decode cX10_looked 60 = .ok (.astore 6, 2) := by decide +kernel
theorem dX10_looked_62 : decode cX10_looked 62 = .ok (.aload 6, 2) := by decide +kernel
theorem dX10_looked_64 : decode cX10_looked 64 = .ok (.invokevirtual 231, 3) := by decide +kernel
theorem dX10_looked_67 : decode cX10_looked 67 = .ok (.ifCond .ne 6, 3) := by decide +kernel
theorem dX10_looked_70 : decode cX10_looked 70 = .ok (.bipush (-2), 2) := by decide +kernel
theorem dX10_looked_72 : decode cX10_looked 72 = .ok (.ireturn, 1) := by decide +kernel
theorem dX10_looked_73 : decode cX10_looked 73 = .ok (.aload_n 0, 1) := by decide +kernel
theorem dX10_looked_74 : decode cX10_looked 74 = .ok (.iload_n 2, 1) := by decide +kernel
theorem dX10_looked_75 : decode cX10_looked 75 = .ok (.invokevirtual 238, 3) := by decide +kernel
theorem dX10_looked_78 : decode cX10_looked 78 = .ok (.astore 7, 2) := by decide +kernel
theorem dX10_looked_80 : decode cX10_looked 80 = .ok (.aload 7, 2) := by decide +kernel
theorem dX10_looked_82 : decode cX10_looked 82 = .ok (.getfield 242, 3) := by decide +kernel
theorem dX10_looked_85 : decode cX10_looked 85 = .ok (.lconst 0, 1) := by decide +kernel
theorem dX10_looked_86 : decode cX10_looked 86 = .ok (.lcmp, 1) := by decide +kernel
theorem dX10_looked_87 : decode cX10_looked 87 = .ok (.ifCond .ne 6, 3) := by decide +kernel
theorem dX10_looked_90 : decode cX10_looked 90 = .ok (.bipush (-4), 2) := by decide +kernel
theorem dX10_looked_92 : decode cX10_looked 92 = .ok (.ireturn, 1) := by decide +kernel
theorem dX10_looked_93 : decode cX10_looked 93 = .ok (.bipush 24, 2) := by decide +kernel
theorem dX10_looked_95 : decode cX10_looked 95 = .ok (.aload_n 0, 1) := by decide +kernel
theorem dX10_looked_96 : decode cX10_looked 96 = .ok (.getfield 12, 3) := by decide +kernel
theorem dX10_looked_99 : decode cX10_looked 99 = .ok (.getfield 331, 3) := by decide +kernel
theorem dX10_looked_102 : decode cX10_looked 102 = .ok (.iload_n 1, 1) := by decide +kernel
theorem dX10_looked_103 : decode cX10_looked 103 = .ok (.aaload, 1) := by decide +kernel
theorem dX10_looked_104 : decode cX10_looked 104 = .ok (.invokevirtual 352, 3) := by decide +kernel
theorem dX10_looked_107 : decode cX10_looked 107 = .ok (.isub, 1) := by decide +kernel
theorem dX10_looked_108 : decode cX10_looked 108 = .ok (.istore 8, 2) := by decide +kernel
theorem dX10_looked_110 : decode cX10_looked 110 = .ok (.iload 5, 2) := by decide +kernel
theorem dX10_looked_112 : decode cX10_looked 112 = .ok (.ifCond .ne 6, 3) := by decide +kernel
theorem dX10_looked_115 : decode cX10_looked 115 = .ok (.iload 8, 2) := by decide +kernel
theorem dX10_looked_117 : decode cX10_looked 117 = .ok (.ireturn, 1) := by decide +kernel
theorem dX10_looked_118 : decode cX10_looked 118 = .ok (.iconst 0, 1) := by decide +kernel
theorem dX10_looked_119 : decode cX10_looked 119 = .ok (.istore 9, 2) := by decide +kernel
theorem dX10_looked_121 : decode cX10_looked 121 = .ok (.iconst 0, 1) := by decide +kernel
theorem dX10_looked_122 : decode cX10_looked 122 = .ok (.istore 10, 2) := by decide +kernel
theorem dX10_looked_124 : decode cX10_looked 124 = .ok (.iload 10, 2) := by decide +kernel
theorem dX10_looked_126 : decode cX10_looked 126 = .ok (.iload 8, 2) := by decide +kernel
theorem dX10_looked_128 : decode cX10_looked 128 = .ok (.if_icmp .ge 50, 3) := by decide +kernel
theorem dX10_looked_131 : decode cX10_looked 131 = .ok (.aload_n 0, 1) := by decide +kernel
theorem dX10_looked_132 : decode cX10_looked 132 = .ok (.getfield 61, 3) := by decide +kernel
theorem dX10_looked_135 : decode cX10_looked 135 = .ok (.aload 7, 2) := by decide +kernel
theorem dX10_looked_137 : decode cX10_looked 137 = .ok (.aload 6, 2) := by decide +kernel
theorem dX10_looked_139 : decode cX10_looked 139 = .ok (.aload_n 0, 1) := by decide +kernel
theorem dX10_looked_140 : decode cX10_looked 140 = .ok (.getfield 12, 3) := by decide +kernel
theorem dX10_looked_143 : decode cX10_looked 143 = .ok (.getfield 331, 3) := by decide +kernel
theorem dX10_looked_146 : decode cX10_looked 146 = .ok (.iload_n 1, 1) := by decide +kernel
theorem dX10_looked_147 : decode cX10_looked 147 = .ok (.aaload, 1) := by decide +kernel
theorem dX10_looked_148 : decode cX10_looked 148 = .ok (.iload 10, 2) := by decide +kernel
theorem dX10_looked_150 : decode cX10_looked 150 = .ok (.invokevirtual 341, 3) := by decide +kernel
theorem dX10_looked_153 : decode cX10_looked 153 = .ok (.iload 4, 2) := by decide +kernel
theorem dX10_looked_155 : decode cX10_looked 155 = .ok (.i2l, 1) := by decide +kernel
theorem dX10_looked_156 : decode cX10_looked 156 = .ok (.lmul, 1) := by decide +kernel
theorem dX10_looked_157 : decode cX10_looked 157 = .ok (.aload 7, 2) := by decide +kernel
theorem dX10_looked_159 : decode cX10_looked 159 = .ok (.getfield 242, 3) := by decide +kernel
theorem dX10_looked_162 : decode cX10_looked 162 = .ok (.iload_n 3, 1) := by decide +kernel
theorem dX10_looked_163 : decode cX10_looked 163 = .ok (.i2l, 1) := by decide +kernel
theorem dX10_looked_164 : decode cX10_looked 164 = .ok (.lmul, 1) := by decide +kernel
theorem dX10_looked_165 : decode cX10_looked 165 = .ok (.lcmp, 1) := by decide +kernel
theorem dX10_looked_166 : decode cX10_looked 166 = .ok (.ifCond .lt 6, 3) := by decide +kernel
theorem dX10_looked_169 : decode cX10_looked 169 = .ok (.iinc 9 1, 3) := by decide +kernel
theorem dX10_looked_172 : decode cX10_looked 172 = .ok (.iinc 10 1, 3) := by decide +kernel
theorem dX10_looked_175 : decode cX10_looked 175 = .ok (.goto (-51), 3) := by decide +kernel
theorem dX10_looked_178 : decode cX10_looked 178 = .ok (.iload 9, 2) := by decide +kernel
theorem dX10_looked_180 : decode cX10_looked 180 = .ok (.ireturn, 1) := by decide +kernel
theorem dX10_cause_0 : decode cX10_cause 0 = .ok (.iload_n 1, 1) := by decide +kernel
theorem dX10_cause_1 : decode cX10_cause 1 = .ok (.bipush (-30), 2) := by decide +kernel
theorem dX10_cause_3 : decode cX10_cause 3 = .ok (.bipush 30, 2) := by decide +kernel
theorem dX10_cause_5 : decode cX10_cause 5 = .ok (.invokestatic 69, 3) := by decide +kernel
theorem dX10_cause_8 : decode cX10_cause 8 = .ok (.ifCond .eq 13, 3) := by decide +kernel
theorem dX10_cause_11 : decode cX10_cause 11 = .ok (.iload_n 2, 1) := by decide +kernel
theorem dX10_cause_12 : decode cX10_cause 12 = .ok (.iload_n 1, 1) := by decide +kernel
theorem dX10_cause_13 : decode cX10_cause 13 = .ok (.bipush 30, 2) := by decide +kernel
theorem dX10_cause_15 : decode cX10_cause 15 = .ok (.invokestatic 69, 3) := by decide +kernel
theorem dX10_cause_18 : decode cX10_cause 18 = .ok (.ifCond .ne 5, 3) := by decide +kernel
theorem dX10_cause_21 : decode cX10_cause 21 = .ok (.iconst (-1), 1) := by decide +kernel
theorem dX10_cause_22 : decode cX10_cause 22 = .ok (.ireturn, 1) := by decide +kernel
theorem dX10_cause_23 : decode cX10_cause 23 = .ok (.aload_n 0, 1) := by decide +kernel
theorem dX10_cause_24 : decode cX10_cause 24 = .ok (.getfield 12, 3) := by decide +kernel
theorem dX10_cause_27 : decode cX10_cause 27 = .ok (.getfield 228, 3) := by decide +kernel
theorem dX10_cause_30 : decode cX10_cause 30 = .ok (.iconst 5, 1) := by decide +kernel
theorem dX10_cause_31 : decode cX10_cause 31 = .ok (.if_icmp .ne 6, 3) := by decide +kernel
theorem dX10_cause_34 : decode cX10_cause 34 = .ok (.bipush (-3), 2) := by decide +kernel
theorem dX10_cause_36 : decode cX10_cause 36 = .ok (.ireturn, 1) := by decide +kernel
theorem dX10_cause_37 : decode cX10_cause 37 = .ok (.aload_n 0, 1) := by decide +kernel
theorem dX10_cause_38 : decode cX10_cause 38 = .ok (.getfield 12, 3) := by decide +kernel
theorem dX10_cause_41 : decode cX10_cause 41 = .ok (.getfield 355, 3) := by decide +kernel
theorem dX10_cause_44 : decode cX10_cause 44 = .ok (.aload_n 0, 1) := by decide +kernel
theorem dX10_cause_45 : decode cX10_cause 45 = .ok (.getfield 12, 3) := by decide +kernel
theorem dX10_cause_48 : decode cX10_cause 48 = .ok (.getfield 228, 3) := by decide +kernel
theorem dX10_cause_51 : decode cX10_cause 51 = .ok (.iload_n 1, 1) := by decide +kernel
theorem dX10_cause_52 : decode cX10_cause 52 = .ok (.iastore, 1) := by decide +kernel
theorem dX10_cause_53 : decode cX10_cause 53 = .ok (.aload_n 0, 1) := by decide +kernel
theorem dX10_cause_54 : decode cX10_cause 54 = .ok (.getfield 12, 3) := by decide +kernel
theorem dX10_cause_57 : decode cX10_cause 57 = .ok (.getfield 358, 3) := by decide +kernel
theorem dX10_cause_60 : decode cX10_cause 60 = .ok (.aload_n 0, 1) := by decide +kernel
theorem dX10_cause_61 : decode cX10_cause 61 = .ok (.getfield 12, 3) := by decide +kernel
theorem dX10_cause_64 : decode cX10_cause 64 = .ok (.getfield 228, 3) := by decide +kernel
theorem dX10_cause_67 : decode cX10_cause 67 = .ok (.iload_n 2, 1) := by decide +kernel
theorem dX10_cause_68 : decode cX10_cause 68 = .ok (.iastore, 1) := by decide +kernel
theorem dX10_cause_69 : decode cX10_cause 69 = .ok (.aload_n 0, 1) := by decide +kernel
theorem dX10_cause_70 : decode cX10_cause 70 = .ok (.getfield 12, 3) := by decide +kernel
theorem dX10_cause_73 : decode cX10_cause 73 = .ok (.dup, 1) := by decide +kernel
theorem dX10_cause_74 : decode cX10_cause 74 = .ok (.getfield 228, 3) := by decide +kernel
theorem dX10_cause_77 : decode cX10_cause 77 = .ok (.iconst 1, 1) := by decide +kernel
theorem dX10_cause_78 : decode cX10_cause 78 = .ok (.iadd, 1) := by decide +kernel
theorem dX10_cause_79 : decode cX10_cause 79 = .ok (.putfield 228, 3) := by decide +kernel
theorem dX10_cause_82 : decode cX10_cause 82 = .ok (.aload_n 0, 1) := by decide +kernel
theorem dX10_cause_83 : decode cX10_cause 83 = .ok (.getfield 12, 3) := by decide +kernel
theorem dX10_cause_86 : decode cX10_cause 86 = .ok (.getfield 228, 3) := by decide +kernel
theorem dX10_cause_89 : decode cX10_cause 89 = .ok (.iconst 1, 1) := by decide +kernel
theorem dX10_cause_90 : decode cX10_cause 90 = .ok (.isub, 1) := by decide +kernel
theorem dX10_cause_91 : decode cX10_cause 91 = .ok (.ireturn, 1) := by decide +kernel
theorem dX10_says_0 : decode cX10_says 0 = .ok (.aload_n 0, 1) := by decide +kernel
theorem dX10_says_1 : decode cX10_says 1 = .ok (.iload_n 1, 1) := by decide +kernel
theorem dX10_says_2 : decode cX10_says 2 = .ok (.iload_n 2, 1) := by decide +kernel
theorem dX10_says_3 : decode cX10_says 3 = .ok (.iload_n 3, 1) := by decide +kernel
theorem dX10_says_4 : decode cX10_says 4 = .ok (.invokevirtual 262, 3) := by decide +kernel
theorem dX10_says_7 : decode cX10_says 7 = .ok (.ifCond .eq 13, 3) := by decide +kernel
theorem dX10_says_10 : decode cX10_says 10 = .ok (.iload 4, 2) := by decide +kernel
theorem dX10_says_12 : decode cX10_says 12 = .ok (.iconst 0, 1) := by decide +kernel
theorem dX10_says_13 : decode cX10_says 13 = .ok (.iconst 2, 1) := by decide +kernel
theorem dX10_says_14 : decode cX10_says 14 = .ok (.invokestatic 69, 3) := by decide +kernel
theorem dX10_says_17 : decode cX10_says 17 = .ok (.ifCond .ne 5, 3) := by decide +kernel
theorem dX10_says_20 : decode cX10_says 20 = .ok (.iconst (-1), 1) := by decide +kernel
theorem dX10_says_21 : decode cX10_says 21 = .ok (.ireturn, 1) := by decide +kernel
theorem dX10_says_22 : decode cX10_says 22 = .ok (.aload_n 0, 1) := by decide +kernel
theorem dX10_says_23 : decode cX10_says 23 = .ok (.getfield 12, 3) := by decide +kernel
theorem dX10_says_26 : decode cX10_says 26 = .ok (.getfield 147, 3) := by decide +kernel
theorem dX10_says_29 : decode cX10_says 29 = .ok (.iload_n 1, 1) := by decide +kernel
theorem dX10_says_30 : decode cX10_says 30 = .ok (.aaload, 1) := by decide +kernel
theorem dX10_says_31 : decode cX10_says 31 = .ok (.astore 5, 2) := by decide +kernel
theorem dX10_says_33 : decode cX10_says 33 = .ok (.aload 5, 2) := by decide +kernel
theorem dX10_says_35 : decode cX10_says 35 = .ok (.getfield 191, 3) := by decide +kernel
theorem dX10_says_38 : decode cX10_says 38 = .ok (.iload_n 2, 1) := by decide +kernel
theorem dX10_says_39 : decode cX10_says 39 = .ok (.iaload, 1) := by decide +kernel
theorem dX10_says_40 : decode cX10_says 40 = .ok (.ifCond .ne 13, 3) := by decide +kernel
theorem dX10_says_43 : decode cX10_says 43 = .ok (.aload 5, 2) := by decide +kernel
theorem dX10_says_45 : decode cX10_says 45 = .ok (.getfield 191, 3) := by decide +kernel
theorem dX10_says_48 : decode cX10_says 48 = .ok (.iload_n 3, 1) := by decide +kernel
theorem dX10_says_49 : decode cX10_says 49 = .ok (.iaload, 1) := by decide +kernel
theorem dX10_says_50 : decode cX10_says 50 = .ok (.ifCond .eq 6, 3) := by decide +kernel
theorem dX10_says_53 : decode cX10_says 53 = .ok (.bipush (-12), 2) := by decide +kernel
theorem dX10_says_55 : decode cX10_says 55 = .ok (.ireturn, 1) := by decide +kernel
theorem dX10_says_56 : decode cX10_says 56 = .ok (.aload 5, 2) := by decide +kernel
theorem dX10_says_58 : decode cX10_says 58 = .ok (.getfield 194, 3) := by decide +kernel
theorem dX10_says_61 : decode cX10_says 61 = .ok (.iload_n 3, 1) := by decide +kernel
theorem dX10_says_62 : decode cX10_says 62 = .ok (.iaload, 1) := by decide +kernel
theorem dX10_says_63 : decode cX10_says 63 = .ok (.aload 5, 2) := by decide +kernel
theorem dX10_says_65 : decode cX10_says 65 = .ok (.getfield 194, 3) := by decide +kernel
theorem dX10_says_68 : decode cX10_says 68 = .ok (.iload_n 2, 1) := by decide +kernel
theorem dX10_says_69 : decode cX10_says 69 = .ok (.iaload, 1) := by decide +kernel
theorem dX10_says_70 : decode cX10_says 70 = .ok (.isub, 1) := by decide +kernel
theorem dX10_says_71 : decode cX10_says 71 = .ok (.istore 6, 2) := by decide +kernel
theorem dX10_says_73 : decode cX10_says 73 = .ok (.iconst 0, 1) := by decide +kernel
theorem dX10_says_74 : decode cX10_says 74 = .ok (.istore 7, 2) := by decide +kernel
theorem dX10_says_76 : decode cX10_says 76 = .ok (.iconst 0, 1) := by decide +kernel
theorem dX10_says_77 : decode cX10_says 77 = .ok (.istore 8, 2) := by decide +kernel
theorem dX10_says_79 : decode cX10_says 79 = .ok (.iconst 1, 1) := by decide +kernel
theorem dX10_says_80 : decode cX10_says 80 = .ok (.aload_n 0, 1) := by decide +kernel
theorem dX10_says_81 : decode cX10_says 81 = .ok (.getfield 12, 3) := by decide +kernel
theorem dX10_says_84 : decode cX10_says 84 = .ok (.getfield 228, 3) := by decide +kernel
theorem dX10_says_87 : decode cX10_says 87 = .ok (.ishl, 1) := by decide +kernel
theorem dX10_says_88 : decode cX10_says 88 = .ok (.iconst 1, 1) := by decide +kernel
theorem dX10_says_89 : decode cX10_says 89 = .ok (.isub, 1) := by decide +kernel
theorem dX10_says_90 : decode cX10_says 90 = .ok (.istore 9, 2) := by decide +kernel
theorem dX10_says_92 : decode cX10_says 92 = .ok (.iconst 1, 1) := by decide +kernel
theorem dX10_says_93 : decode cX10_says 93 = .ok (.istore 10, 2) := by decide +kernel
theorem dX10_says_95 : decode cX10_says 95 = .ok (.iload 10, 2) := by decide +kernel
theorem dX10_says_97 : decode cX10_says 97 = .ok (.iconst 1, 1) := by decide +kernel
theorem dX10_says_98 : decode cX10_says 98 = .ok (.aload_n 0, 1) := by decide +kernel
theorem dX10_says_99 : decode cX10_says 99 = .ok (.getfield 12, 3) := by decide +kernel
theorem dX10_says_102 : decode cX10_says 102 = .ok (.getfield 228, 3) := by decide +kernel
theorem dX10_says_105 : decode cX10_says 105 = .ok (.ishl, 1) := by decide +kernel
theorem dX10_says_106 : decode cX10_says 106 = .ok (.if_icmp .ge 55, 3) := by decide +kernel
theorem dX10_says_109 : decode cX10_says 109 = .ok (.aload_n 0, 1) := by decide +kernel
theorem dX10_says_110 : decode cX10_says 110 = .ok (.getfield 12, 3) := by decide +kernel
