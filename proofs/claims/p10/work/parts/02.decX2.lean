noncomputable def dkL02decX2_0 : List (ByteArray × Nat × Instr × Nat) := [(cX10_type, 106, (.iinc 4 (-1), 3)), (cX10_type, 109, (.goto (-42), 3)), (cX10_type, 112, (.aload_n 0, 1)), (cX10_type, 113, (.getfield 22, 3)), (cX10_type, 116, (.getfield 116, 3)), (cX10_type, 119, (.ireturn, 1)), (cX10_byteOf, 0, (.lload_n 0, 1)), (cX10_byteOf, 1, (.bipush 8, 2)), (cX10_byteOf, 3, (.iload_n 2, 1)), (cX10_byteOf, 4, (.imul, 1)), (cX10_byteOf, 5, (.lushr, 1)), (cX10_byteOf, 6, (.l2i, 1)), (cX10_byteOf, 7, (.sipush 255, 3)), (cX10_byteOf, 10, (.iand, 1)), (cX10_byteOf, 11, (.ireturn, 1)), (cX10_law, 0, (.aload_n 0, 1)), (cX10_law, 1, (.getfield 22, 3)), (cX10_law, 4, (.aload_n 0, 1)), (cX10_law, 5, (.getfield 29, 3)), (cX10_law, 8, (.invokevirtual 122, 3)), (cX10_law, 11, (.istore_n 1, 1)), (cX10_law, 12, (.aload_n 0, 1)), (cX10_law, 13, (.getfield 22, 3)), (cX10_law, 16, (.iconst 0, 1)), (cX10_law, 17, (.putfield 116, 3)), (cX10_law, 20, (.iload_n 1, 1)), (cX10_law, 21, (.ifCond .eq 5, 3)), (cX10_law, 24, (.iload_n 1, 1)), (cX10_law, 25, (.ireturn, 1)), (cX10_law, 26, (.aload_n 0, 1)), (cX10_law, 27, (.getfield 12, 3)), (cX10_law, 30, (.getfield 126, 3)), (cX10_law, 33, (.aload_n 0, 1)), (cX10_law, 34, (.getfield 29, 3)), (cX10_law, 37, (.invokevirtual 129, 3)), (cX10_law, 40, (.aload_n 0, 1)), (cX10_law, 41, (.getfield 12, 3)), (cX10_law, 44, (.getfield 126, 3)), (cX10_law, 47, (.getfield 133, 3)), (cX10_law, 50, (.ireturn, 1)), (cX10_grows, 0, (.iload_n 1, 1)), (cX10_grows, 1, (.invokestatic 65, 3)), (cX10_grows, 4, (.ifCond .eq 24, 3)), (cX10_grows, 7, (.aload_n 0, 1)), (cX10_grows, 8, (.getfield 12, 3)), (cX10_grows, 11, (.getfield 126, 3)), (cX10_grows, 14, (.aload_n 0, 1)), (cX10_grows, 15, (.getfield 12, 3)), (cX10_grows, 18, (.getfield 79, 3)), (cX10_grows, 21, (.iload_n 1, 1)), (cX10_grows, 22, (.invokevirtual 136, 3)), (cX10_grows, 25, (.goto 4, 3)), (cX10_grows, 28, (.iconst (-1), 1)), (cX10_grows, 29, (.ireturn, 1)), (cX10_learn, 0, (.iload_n 1, 1)), (cX10_learn, 1, (.iload_n 2, 1)), (cX10_learn, 2, (.invokestatic 87, 3)), (cX10_learn, 5, (.ifCond .eq 25, 3)), (cX10_learn, 8, (.iload 4, 2)), (cX10_learn, 10, (.iconst 1, 1))]
theorem dkB02decX2_0 : dkL02decX2_0.all (fun q => decide (decode q.1 q.2.1 = .ok q.2.2)) = true := by decide +kernel
theorem dX10_type_106 : decode cX10_type 106 = .ok (.iinc 4 (-1), 3) := dk_at dkB02decX2_0 0 rfl
theorem dX10_type_109 : decode cX10_type 109 = .ok (.goto (-42), 3) := dk_at dkB02decX2_0 1 rfl
theorem dX10_type_112 : decode cX10_type 112 = .ok (.aload_n 0, 1) := dk_at dkB02decX2_0 2 rfl
theorem dX10_type_113 : decode cX10_type 113 = .ok (.getfield 22, 3) := dk_at dkB02decX2_0 3 rfl
theorem dX10_type_116 : decode cX10_type 116 = .ok (.getfield 116, 3) := dk_at dkB02decX2_0 4 rfl
theorem dX10_type_119 : decode cX10_type 119 = .ok (.ireturn, 1) := dk_at dkB02decX2_0 5 rfl
theorem dX10_byteOf_0 : decode cX10_byteOf 0 = .ok (.lload_n 0, 1) := dk_at dkB02decX2_0 6 rfl
theorem dX10_byteOf_1 : decode cX10_byteOf 1 = .ok (.bipush 8, 2) := dk_at dkB02decX2_0 7 rfl
theorem dX10_byteOf_3 : decode cX10_byteOf 3 = .ok (.iload_n 2, 1) := dk_at dkB02decX2_0 8 rfl
theorem dX10_byteOf_4 : decode cX10_byteOf 4 = .ok (.imul, 1) := dk_at dkB02decX2_0 9 rfl
theorem dX10_byteOf_5 : decode cX10_byteOf 5 = .ok (.lushr, 1) := dk_at dkB02decX2_0 10 rfl
theorem dX10_byteOf_6 : decode cX10_byteOf 6 = .ok (.l2i, 1) := dk_at dkB02decX2_0 11 rfl
theorem dX10_byteOf_7 : decode cX10_byteOf 7 = .ok (.sipush 255, 3) := dk_at dkB02decX2_0 12 rfl
theorem dX10_byteOf_10 : decode cX10_byteOf 10 = .ok (.iand, 1) := dk_at dkB02decX2_0 13 rfl
theorem dX10_byteOf_11 : decode cX10_byteOf 11 = .ok (.ireturn, 1) := dk_at dkB02decX2_0 14 rfl
theorem dX10_law_0 : decode cX10_law 0 = .ok (.aload_n 0, 1) := dk_at dkB02decX2_0 15 rfl
theorem dX10_law_1 : decode cX10_law 1 = .ok (.getfield 22, 3) := dk_at dkB02decX2_0 16 rfl
theorem dX10_law_4 : decode cX10_law 4 = .ok (.aload_n 0, 1) := dk_at dkB02decX2_0 17 rfl
theorem dX10_law_5 : decode cX10_law 5 = .ok (.getfield 29, 3) := dk_at dkB02decX2_0 18 rfl
theorem dX10_law_8 : decode cX10_law 8 = .ok (.invokevirtual 122, 3) := dk_at dkB02decX2_0 19 rfl
theorem dX10_law_11 : decode cX10_law 11 = .ok (.istore_n 1, 1) := dk_at dkB02decX2_0 20 rfl
theorem dX10_law_12 : decode cX10_law 12 = .ok (.aload_n 0, 1) := dk_at dkB02decX2_0 21 rfl
theorem dX10_law_13 : decode cX10_law 13 = .ok (.getfield 22, 3) := dk_at dkB02decX2_0 22 rfl
theorem dX10_law_16 : decode cX10_law 16 = .ok (.iconst 0, 1) := dk_at dkB02decX2_0 23 rfl
theorem dX10_law_17 : decode cX10_law 17 = .ok (.putfield 116, 3) := dk_at dkB02decX2_0 24 rfl
theorem dX10_law_20 : decode cX10_law 20 = .ok (.iload_n 1, 1) := dk_at dkB02decX2_0 25 rfl
theorem dX10_law_21 : decode cX10_law 21 = .ok (.ifCond .eq 5, 3) := dk_at dkB02decX2_0 26 rfl
theorem dX10_law_24 : decode cX10_law 24 = .ok (.iload_n 1, 1) := dk_at dkB02decX2_0 27 rfl
theorem dX10_law_25 : decode cX10_law 25 = .ok (.ireturn, 1) := dk_at dkB02decX2_0 28 rfl
theorem dX10_law_26 : decode cX10_law 26 = .ok (.aload_n 0, 1) := dk_at dkB02decX2_0 29 rfl
theorem dX10_law_27 : decode cX10_law 27 = .ok (.getfield 12, 3) := dk_at dkB02decX2_0 30 rfl
theorem dX10_law_30 : decode cX10_law 30 = .ok (.getfield 126, 3) := dk_at dkB02decX2_0 31 rfl
theorem dX10_law_33 : decode cX10_law 33 = .ok (.aload_n 0, 1) := dk_at dkB02decX2_0 32 rfl
theorem dX10_law_34 : decode cX10_law 34 = .ok (.getfield 29, 3) := dk_at dkB02decX2_0 33 rfl
theorem dX10_law_37 : decode cX10_law 37 = .ok (.invokevirtual 129, 3) := dk_at dkB02decX2_0 34 rfl
theorem dX10_law_40 : decode cX10_law 40 = .ok (.aload_n 0, 1) := dk_at dkB02decX2_0 35 rfl
theorem dX10_law_41 : decode cX10_law 41 = .ok (.getfield 12, 3) := dk_at dkB02decX2_0 36 rfl
theorem dX10_law_44 : decode cX10_law 44 = .ok (.getfield 126, 3) := dk_at dkB02decX2_0 37 rfl
theorem dX10_law_47 : decode cX10_law 47 = .ok (.getfield 133, 3) := dk_at dkB02decX2_0 38 rfl
theorem dX10_law_50 : decode cX10_law 50 = .ok (.ireturn, 1) := dk_at dkB02decX2_0 39 rfl
theorem dX10_grows_0 : decode cX10_grows 0 = .ok (.iload_n 1, 1) := dk_at dkB02decX2_0 40 rfl
theorem dX10_grows_1 : decode cX10_grows 1 = .ok (.invokestatic 65, 3) := dk_at dkB02decX2_0 41 rfl
theorem dX10_grows_4 : decode cX10_grows 4 = .ok (.ifCond .eq 24, 3) := dk_at dkB02decX2_0 42 rfl
theorem dX10_grows_7 : decode cX10_grows 7 = .ok (.aload_n 0, 1) := dk_at dkB02decX2_0 43 rfl
theorem dX10_grows_8 : decode cX10_grows 8 = .ok (.getfield 12, 3) := dk_at dkB02decX2_0 44 rfl
theorem dX10_grows_11 : decode cX10_grows 11 = .ok (.getfield 126, 3) := dk_at dkB02decX2_0 45 rfl
theorem dX10_grows_14 : decode cX10_grows 14 = .ok (.aload_n 0, 1) := dk_at dkB02decX2_0 46 rfl
theorem dX10_grows_15 : decode cX10_grows 15 = .ok (.getfield 12, 3) := dk_at dkB02decX2_0 47 rfl
theorem dX10_grows_18 : decode cX10_grows 18 = .ok (.getfield 79, 3) := dk_at dkB02decX2_0 48 rfl
theorem dX10_grows_21 : decode cX10_grows 21 = .ok (.iload_n 1, 1) := dk_at dkB02decX2_0 49 rfl
theorem dX10_grows_22 : decode cX10_grows 22 = .ok (.invokevirtual 136, 3) := dk_at dkB02decX2_0 50 rfl
theorem dX10_grows_25 : decode cX10_grows 25 = .ok (.goto 4, 3) := dk_at dkB02decX2_0 51 rfl
theorem dX10_grows_28 : decode cX10_grows 28 = .ok (.iconst (-1), 1) := dk_at dkB02decX2_0 52 rfl
theorem dX10_grows_29 : decode cX10_grows 29 = .ok (.ireturn, 1) := dk_at dkB02decX2_0 53 rfl
theorem dX10_learn_0 : decode cX10_learn 0 = .ok (.iload_n 1, 1) := dk_at dkB02decX2_0 54 rfl
theorem dX10_learn_1 : decode cX10_learn 1 = .ok (.iload_n 2, 1) := dk_at dkB02decX2_0 55 rfl
theorem dX10_learn_2 : decode cX10_learn 2 = .ok (.invokestatic 87, 3) := dk_at dkB02decX2_0 56 rfl
theorem dX10_learn_5 : decode cX10_learn 5 = .ok (.ifCond .eq 25, 3) := dk_at dkB02decX2_0 57 rfl
theorem dX10_learn_8 : decode cX10_learn 8 = .ok (.iload 4, 2) := dk_at dkB02decX2_0 58 rfl
theorem dX10_learn_10 : decode cX10_learn 10 = .ok (.iconst 1, 1) := dk_at dkB02decX2_0 59 rfl
noncomputable def dkL02decX2_1 : List (ByteArray × Nat × Instr × Nat) := [(cX10_learn, 11, (.bipush 8, 2)), (cX10_learn, 13, (.invokestatic 69, 3)), (cX10_learn, 16, (.ifCond .eq 14, 3)), (cX10_learn, 19, (.iload 5, 2)), (cX10_learn, 21, (.iconst 0, 1)), (cX10_learn, 22, (.bipush 9, 2)), (cX10_learn, 24, (.invokestatic 69, 3)), (cX10_learn, 27, (.ifCond .ne 5, 3)), (cX10_learn, 30, (.iconst (-1), 1)), (cX10_learn, 31, (.ireturn, 1)), (cX10_learn, 32, (.aload_n 0, 1)), (cX10_learn, 33, (.getfield 43, 3)), (cX10_learn, 36, (.iload_n 1, 1)), (cX10_learn, 37, (.aaload, 1)), (cX10_learn, 38, (.astore 6, 2)), (cX10_learn, 40, (.aload 6, 2)), (cX10_learn, 42, (.iload_n 2, 1)), (cX10_learn, 43, (.iload_n 3, 1)), (cX10_learn, 44, (.iconst 2, 1)), (cX10_learn, 45, (.iload 4, 2)), (cX10_learn, 47, (.imul, 1)), (cX10_learn, 48, (.invokevirtual 90, 3)), (cX10_learn, 51, (.istore 7, 2)), (cX10_learn, 53, (.iload 7, 2)), (cX10_learn, 55, (.ifCond .eq 6, 3)), (cX10_learn, 58, (.iload 7, 2)), (cX10_learn, 60, (.ireturn, 1)), (cX10_learn, 61, (.iconst 0, 1)), (cX10_learn, 62, (.istore 8, 2)), (cX10_learn, 64, (.iload 8, 2)), (cX10_learn, 66, (.iload 4, 2)), (cX10_learn, 68, (.if_icmp .ge 30, 3)), (cX10_learn, 71, (.aload 6, 2)), (cX10_learn, 73, (.getfield 94, 3)), (cX10_learn, 76, (.iload_n 3, 1)), (cX10_learn, 77, (.iconst 2, 1)), (cX10_learn, 78, (.iload 8, 2)), (cX10_learn, 80, (.imul, 1)), (cX10_learn, 81, (.iadd, 1)), (cX10_learn, 82, (.iaload, 1)), (cX10_learn, 83, (.invokestatic 65, 3)), (cX10_learn, 86, (.ifCond .ne 6, 3)), (cX10_learn, 89, (.bipush (-2), 2)), (cX10_learn, 91, (.ireturn, 1)), (cX10_learn, 92, (.iinc 8 1, 3)), (cX10_learn, 95, (.goto (-31), 3)), (cX10_learn, 98, (.iconst 0, 1)), (cX10_learn, 99, (.istore 8, 2)), (cX10_learn, 101, (.iconst 1, 1)), (cX10_learn, 102, (.istore 9, 2)), (cX10_learn, 104, (.iload 9, 2)), (cX10_learn, 106, (.iconst 5, 1)), (cX10_learn, 107, (.if_icmp .gt 36, 3)), (cX10_learn, 110, (.aload_n 0, 1)), (cX10_learn, 111, (.aload 6, 2)), (cX10_learn, 113, (.iload_n 3, 1)), (cX10_learn, 114, (.iload 4, 2)), (cX10_learn, 116, (.iload 5, 2)), (cX10_learn, 118, (.iload 9, 2)), (cX10_learn, 120, (.invokevirtual 140, 3))]
theorem dkB02decX2_1 : dkL02decX2_1.all (fun q => decide (decode q.1 q.2.1 = .ok q.2.2)) = true := by decide +kernel
theorem dX10_learn_11 : decode cX10_learn 11 = .ok (.bipush 8, 2) := dk_at dkB02decX2_1 0 rfl
theorem dX10_learn_13 : decode cX10_learn 13 = .ok (.invokestatic 69, 3) := dk_at dkB02decX2_1 1 rfl
theorem dX10_learn_16 : decode cX10_learn 16 = .ok (.ifCond .eq 14, 3) := dk_at dkB02decX2_1 2 rfl
theorem dX10_learn_19 : decode cX10_learn 19 = .ok (.iload 5, 2) := dk_at dkB02decX2_1 3 rfl
theorem dX10_learn_21 : decode cX10_learn 21 = .ok (.iconst 0, 1) := dk_at dkB02decX2_1 4 rfl
theorem dX10_learn_22 : decode cX10_learn 22 = .ok (.bipush 9, 2) := dk_at dkB02decX2_1 5 rfl
theorem dX10_learn_24 : decode cX10_learn 24 = .ok (.invokestatic 69, 3) := dk_at dkB02decX2_1 6 rfl
theorem dX10_learn_27 : decode cX10_learn 27 = .ok (.ifCond .ne 5, 3) := dk_at dkB02decX2_1 7 rfl
theorem dX10_learn_30 : decode cX10_learn 30 = .ok (.iconst (-1), 1) := dk_at dkB02decX2_1 8 rfl
theorem dX10_learn_31 : decode cX10_learn 31 = .ok (.ireturn, 1) := dk_at dkB02decX2_1 9 rfl
theorem dX10_learn_32 : decode cX10_learn 32 = .ok (.aload_n 0, 1) := dk_at dkB02decX2_1 10 rfl
theorem dX10_learn_33 : decode cX10_learn 33 = .ok (.getfield 43, 3) := dk_at dkB02decX2_1 11 rfl
theorem dX10_learn_36 : decode cX10_learn 36 = .ok (.iload_n 1, 1) := dk_at dkB02decX2_1 12 rfl
theorem dX10_learn_37 : decode cX10_learn 37 = .ok (.aaload, 1) := dk_at dkB02decX2_1 13 rfl
theorem dX10_learn_38 : decode cX10_learn 38 = .ok (.astore 6, 2) := dk_at dkB02decX2_1 14 rfl
theorem dX10_learn_40 : decode cX10_learn 40 = .ok (.aload 6, 2) := dk_at dkB02decX2_1 15 rfl
theorem dX10_learn_42 : decode cX10_learn 42 = .ok (.iload_n 2, 1) := dk_at dkB02decX2_1 16 rfl
theorem dX10_learn_43 : decode cX10_learn 43 = .ok (.iload_n 3, 1) := dk_at dkB02decX2_1 17 rfl
theorem dX10_learn_44 : decode cX10_learn 44 = .ok (.iconst 2, 1) := dk_at dkB02decX2_1 18 rfl
theorem dX10_learn_45 : decode cX10_learn 45 = .ok (.iload 4, 2) := dk_at dkB02decX2_1 19 rfl
theorem dX10_learn_47 : decode cX10_learn 47 = .ok (.imul, 1) := dk_at dkB02decX2_1 20 rfl
theorem dX10_learn_48 : decode cX10_learn 48 = .ok (.invokevirtual 90, 3) := dk_at dkB02decX2_1 21 rfl
theorem dX10_learn_51 : decode cX10_learn 51 = .ok (.istore 7, 2) := dk_at dkB02decX2_1 22 rfl
theorem dX10_learn_53 : decode cX10_learn 53 = .ok (.iload 7, 2) := dk_at dkB02decX2_1 23 rfl
theorem dX10_learn_55 : decode cX10_learn 55 = .ok (.ifCond .eq 6, 3) := dk_at dkB02decX2_1 24 rfl
theorem dX10_learn_58 : decode cX10_learn 58 = .ok (.iload 7, 2) := dk_at dkB02decX2_1 25 rfl
theorem dX10_learn_60 : decode cX10_learn 60 = .ok (.ireturn, 1) := dk_at dkB02decX2_1 26 rfl
theorem dX10_learn_61 : decode cX10_learn 61 = .ok (.iconst 0, 1) := dk_at dkB02decX2_1 27 rfl
theorem dX10_learn_62 : decode cX10_learn 62 = .ok (.istore 8, 2) := dk_at dkB02decX2_1 28 rfl
theorem dX10_learn_64 : decode cX10_learn 64 = .ok (.iload 8, 2) := dk_at dkB02decX2_1 29 rfl
theorem dX10_learn_66 : decode cX10_learn 66 = .ok (.iload 4, 2) := dk_at dkB02decX2_1 30 rfl
theorem dX10_learn_68 : decode cX10_learn 68 = .ok (.if_icmp .ge 30, 3) := dk_at dkB02decX2_1 31 rfl
theorem dX10_learn_71 : decode cX10_learn 71 = .ok (.aload 6, 2) := dk_at dkB02decX2_1 32 rfl
theorem dX10_learn_73 : decode cX10_learn 73 = .ok (.getfield 94, 3) := dk_at dkB02decX2_1 33 rfl
theorem dX10_learn_76 : decode cX10_learn 76 = .ok (.iload_n 3, 1) := dk_at dkB02decX2_1 34 rfl
theorem dX10_learn_77 : decode cX10_learn 77 = .ok (.iconst 2, 1) := dk_at dkB02decX2_1 35 rfl
theorem dX10_learn_78 : decode cX10_learn 78 = .ok (.iload 8, 2) := dk_at dkB02decX2_1 36 rfl
theorem dX10_learn_80 : decode cX10_learn 80 = .ok (.imul, 1) := dk_at dkB02decX2_1 37 rfl
theorem dX10_learn_81 : decode cX10_learn 81 = .ok (.iadd, 1) := dk_at dkB02decX2_1 38 rfl
theorem dX10_learn_82 : decode cX10_learn 82 = .ok (.iaload, 1) := dk_at dkB02decX2_1 39 rfl
theorem dX10_learn_83 : decode cX10_learn 83 = .ok (.invokestatic 65, 3) := dk_at dkB02decX2_1 40 rfl
theorem dX10_learn_86 : decode cX10_learn 86 = .ok (.ifCond .ne 6, 3) := dk_at dkB02decX2_1 41 rfl
theorem dX10_learn_89 : decode cX10_learn 89 = .ok (.bipush (-2), 2) := dk_at dkB02decX2_1 42 rfl
theorem dX10_learn_91 : decode cX10_learn 91 = .ok (.ireturn, 1) := dk_at dkB02decX2_1 43 rfl
theorem dX10_learn_92 : decode cX10_learn 92 = .ok (.iinc 8 1, 3) := dk_at dkB02decX2_1 44 rfl
theorem dX10_learn_95 : decode cX10_learn 95 = .ok (.goto (-31), 3) := dk_at dkB02decX2_1 45 rfl
theorem dX10_learn_98 : decode cX10_learn 98 = .ok (.iconst 0, 1) := dk_at dkB02decX2_1 46 rfl
theorem dX10_learn_99 : decode cX10_learn 99 = .ok (.istore 8, 2) := dk_at dkB02decX2_1 47 rfl
theorem dX10_learn_101 : decode cX10_learn 101 = .ok (.iconst 1, 1) := dk_at dkB02decX2_1 48 rfl
theorem dX10_learn_102 : decode cX10_learn 102 = .ok (.istore 9, 2) := dk_at dkB02decX2_1 49 rfl
theorem dX10_learn_104 : decode cX10_learn 104 = .ok (.iload 9, 2) := dk_at dkB02decX2_1 50 rfl
theorem dX10_learn_106 : decode cX10_learn 106 = .ok (.iconst 5, 1) := dk_at dkB02decX2_1 51 rfl
theorem dX10_learn_107 : decode cX10_learn 107 = .ok (.if_icmp .gt 36, 3) := dk_at dkB02decX2_1 52 rfl
theorem dX10_learn_110 : decode cX10_learn 110 = .ok (.aload_n 0, 1) := dk_at dkB02decX2_1 53 rfl
theorem dX10_learn_111 : decode cX10_learn 111 = .ok (.aload 6, 2) := dk_at dkB02decX2_1 54 rfl
theorem dX10_learn_113 : decode cX10_learn 113 = .ok (.iload_n 3, 1) := dk_at dkB02decX2_1 55 rfl
theorem dX10_learn_114 : decode cX10_learn 114 = .ok (.iload 4, 2) := dk_at dkB02decX2_1 56 rfl
theorem dX10_learn_116 : decode cX10_learn 116 = .ok (.iload 5, 2) := dk_at dkB02decX2_1 57 rfl
theorem dX10_learn_118 : decode cX10_learn 118 = .ok (.iload 9, 2) := dk_at dkB02decX2_1 58 rfl
theorem dX10_learn_120 : decode cX10_learn 120 = .ok (.invokevirtual 140, 3) := dk_at dkB02decX2_1 59 rfl
noncomputable def dkL02decX2_2 : List (ByteArray × Nat × Instr × Nat) := [(cX10_learn, 123, (.ifCond .eq 14, 3)), (cX10_learn, 126, (.iload 8, 2)), (cX10_learn, 128, (.iconst 1, 1)), (cX10_learn, 129, (.iload 9, 2)), (cX10_learn, 131, (.iconst 1, 1)), (cX10_learn, 132, (.isub, 1)), (cX10_learn, 133, (.ishl, 1)), (cX10_learn, 134, (.ior, 1)), (cX10_learn, 135, (.istore 8, 2)), (cX10_learn, 137, (.iinc 9 1, 3)), (cX10_learn, 140, (.goto (-36), 3)), (cX10_learn, 143, (.iload 8, 2)), (cX10_learn, 145, (.ifCond .ne 8, 3)), (cX10_learn, 148, (.bipush (-4), 2)), (cX10_learn, 150, (.goto 5, 3)), (cX10_learn, 153, (.iload 8, 2)), (cX10_learn, 155, (.ireturn, 1)), (cX10_fitsBuckets, 0, (.iconst 0, 1)), (cX10_fitsBuckets, 1, (.istore 6, 2)), (cX10_fitsBuckets, 3, (.iload 6, 2)), (cX10_fitsBuckets, 5, (.iload_n 3, 1)), (cX10_fitsBuckets, 6, (.if_icmp .ge 83, 3)), (cX10_fitsBuckets, 9, (.aload_n 0, 1)), (cX10_fitsBuckets, 10, (.getfield 12, 3)), (cX10_fitsBuckets, 13, (.getfield 79, 3)), (cX10_fitsBuckets, 16, (.aload_n 1, 1)), (cX10_fitsBuckets, 17, (.getfield 94, 3)), (cX10_fitsBuckets, 20, (.iload_n 2, 1)), (cX10_fitsBuckets, 21, (.iconst 2, 1)), (cX10_fitsBuckets, 22, (.iload 6, 2)), (cX10_fitsBuckets, 24, (.imul, 1)), (cX10_fitsBuckets, 25, (.iadd, 1)), (cX10_fitsBuckets, 26, (.iaload, 1)), (cX10_fitsBuckets, 27, (.iload 5, 2)), (cX10_fitsBuckets, 29, (.invokevirtual 109, 3)), (cX10_fitsBuckets, 32, (.istore 7, 2)), (cX10_fitsBuckets, 34, (.iload 7, 2)), (cX10_fitsBuckets, 36, (.i2l, 1)), (cX10_fitsBuckets, 37, (.aload_n 1, 1)), (cX10_fitsBuckets, 38, (.getfield 94, 3)), (cX10_fitsBuckets, 41, (.iload_n 2, 1)), (cX10_fitsBuckets, 42, (.iconst 2, 1)), (cX10_fitsBuckets, 43, (.iload 6, 2)), (cX10_fitsBuckets, 45, (.imul, 1)), (cX10_fitsBuckets, 46, (.iadd, 1)), (cX10_fitsBuckets, 47, (.iconst 1, 1)), (cX10_fitsBuckets, 48, (.iadd, 1)), (cX10_fitsBuckets, 49, (.iaload, 1)), (cX10_fitsBuckets, 50, (.i2l, 1)), (cX10_fitsBuckets, 51, (.lsub, 1)), (cX10_fitsBuckets, 52, (.lstore 8, 2)), (cX10_fitsBuckets, 54, (.iload 7, 2)), (cX10_fitsBuckets, 56, (.sipush (-1004), 3)), (cX10_fitsBuckets, 59, (.if_icmp .eq 22, 3)), (cX10_fitsBuckets, 62, (.lload 8, 2)), (cX10_fitsBuckets, 64, (.iload 4, 2)), (cX10_fitsBuckets, 66, (.i2l, 1)), (cX10_fitsBuckets, 67, (.lcmp, 1)), (cX10_fitsBuckets, 68, (.ifCond .gt 13, 3)), (cX10_fitsBuckets, 71, (.lload 8, 2))]
theorem dkB02decX2_2 : dkL02decX2_2.all (fun q => decide (decode q.1 q.2.1 = .ok q.2.2)) = true := by decide +kernel
theorem dX10_learn_123 : decode cX10_learn 123 = .ok (.ifCond .eq 14, 3) := dk_at dkB02decX2_2 0 rfl
theorem dX10_learn_126 : decode cX10_learn 126 = .ok (.iload 8, 2) := dk_at dkB02decX2_2 1 rfl
theorem dX10_learn_128 : decode cX10_learn 128 = .ok (.iconst 1, 1) := dk_at dkB02decX2_2 2 rfl
theorem dX10_learn_129 : decode cX10_learn 129 = .ok (.iload 9, 2) := dk_at dkB02decX2_2 3 rfl
theorem dX10_learn_131 : decode cX10_learn 131 = .ok (.iconst 1, 1) := dk_at dkB02decX2_2 4 rfl
theorem dX10_learn_132 : decode cX10_learn 132 = .ok (.isub, 1) := dk_at dkB02decX2_2 5 rfl
theorem dX10_learn_133 : decode cX10_learn 133 = .ok (.ishl, 1) := dk_at dkB02decX2_2 6 rfl
theorem dX10_learn_134 : decode cX10_learn 134 = .ok (.ior, 1) := dk_at dkB02decX2_2 7 rfl
theorem dX10_learn_135 : decode cX10_learn 135 = .ok (.istore 8, 2) := dk_at dkB02decX2_2 8 rfl
theorem dX10_learn_137 : decode cX10_learn 137 = .ok (.iinc 9 1, 3) := dk_at dkB02decX2_2 9 rfl
theorem dX10_learn_140 : decode cX10_learn 140 = .ok (.goto (-36), 3) := dk_at dkB02decX2_2 10 rfl
theorem dX10_learn_143 : decode cX10_learn 143 = .ok (.iload 8, 2) := dk_at dkB02decX2_2 11 rfl
theorem dX10_learn_145 : decode cX10_learn 145 = .ok (.ifCond .ne 8, 3) := dk_at dkB02decX2_2 12 rfl
theorem dX10_learn_148 : decode cX10_learn 148 = .ok (.bipush (-4), 2) := dk_at dkB02decX2_2 13 rfl
theorem dX10_learn_150 : decode cX10_learn 150 = .ok (.goto 5, 3) := dk_at dkB02decX2_2 14 rfl
theorem dX10_learn_153 : decode cX10_learn 153 = .ok (.iload 8, 2) := dk_at dkB02decX2_2 15 rfl
theorem dX10_learn_155 : decode cX10_learn 155 = .ok (.ireturn, 1) := dk_at dkB02decX2_2 16 rfl
theorem dX10_fitsBuckets_0 : decode cX10_fitsBuckets 0 = .ok (.iconst 0, 1) := dk_at dkB02decX2_2 17 rfl
theorem dX10_fitsBuckets_1 : decode cX10_fitsBuckets 1 = .ok (.istore 6, 2) := dk_at dkB02decX2_2 18 rfl
theorem dX10_fitsBuckets_3 : decode cX10_fitsBuckets 3 = .ok (.iload 6, 2) := dk_at dkB02decX2_2 19 rfl
theorem dX10_fitsBuckets_5 : decode cX10_fitsBuckets 5 = .ok (.iload_n 3, 1) := dk_at dkB02decX2_2 20 rfl
theorem dX10_fitsBuckets_6 : decode cX10_fitsBuckets 6 = .ok (.if_icmp .ge 83, 3) := dk_at dkB02decX2_2 21 rfl
theorem dX10_fitsBuckets_9 : decode cX10_fitsBuckets 9 = .ok (.aload_n 0, 1) := dk_at dkB02decX2_2 22 rfl
theorem dX10_fitsBuckets_10 : decode cX10_fitsBuckets 10 = .ok (.getfield 12, 3) := dk_at dkB02decX2_2 23 rfl
theorem dX10_fitsBuckets_13 : decode cX10_fitsBuckets 13 = .ok (.getfield 79, 3) := dk_at dkB02decX2_2 24 rfl
theorem dX10_fitsBuckets_16 : decode cX10_fitsBuckets 16 = .ok (.aload_n 1, 1) := dk_at dkB02decX2_2 25 rfl
theorem dX10_fitsBuckets_17 : decode cX10_fitsBuckets 17 = .ok (.getfield 94, 3) := dk_at dkB02decX2_2 26 rfl
theorem dX10_fitsBuckets_20 : decode cX10_fitsBuckets 20 = .ok (.iload_n 2, 1) := dk_at dkB02decX2_2 27 rfl
theorem dX10_fitsBuckets_21 : decode cX10_fitsBuckets 21 = .ok (.iconst 2, 1) := dk_at dkB02decX2_2 28 rfl
theorem dX10_fitsBuckets_22 : decode cX10_fitsBuckets 22 = .ok (.iload 6, 2) := dk_at dkB02decX2_2 29 rfl
theorem dX10_fitsBuckets_24 : decode cX10_fitsBuckets 24 = .ok (.imul, 1) := dk_at dkB02decX2_2 30 rfl
theorem dX10_fitsBuckets_25 : decode cX10_fitsBuckets 25 = .ok (.iadd, 1) := dk_at dkB02decX2_2 31 rfl
theorem dX10_fitsBuckets_26 : decode cX10_fitsBuckets 26 = .ok (.iaload, 1) := dk_at dkB02decX2_2 32 rfl
theorem dX10_fitsBuckets_27 : decode cX10_fitsBuckets 27 = .ok (.iload 5, 2) := dk_at dkB02decX2_2 33 rfl
theorem dX10_fitsBuckets_29 : decode cX10_fitsBuckets 29 = .ok (.invokevirtual 109, 3) := dk_at dkB02decX2_2 34 rfl
theorem dX10_fitsBuckets_32 : decode cX10_fitsBuckets 32 = .ok (.istore 7, 2) := dk_at dkB02decX2_2 35 rfl
theorem dX10_fitsBuckets_34 : decode cX10_fitsBuckets 34 = .ok (.iload 7, 2) := dk_at dkB02decX2_2 36 rfl
theorem dX10_fitsBuckets_36 : decode cX10_fitsBuckets 36 = .ok (.i2l, 1) := dk_at dkB02decX2_2 37 rfl
theorem dX10_fitsBuckets_37 : decode cX10_fitsBuckets 37 = .ok (.aload_n 1, 1) := dk_at dkB02decX2_2 38 rfl
theorem dX10_fitsBuckets_38 : decode cX10_fitsBuckets 38 = .ok (.getfield 94, 3) := dk_at dkB02decX2_2 39 rfl
theorem dX10_fitsBuckets_41 : decode cX10_fitsBuckets 41 = .ok (.iload_n 2, 1) := dk_at dkB02decX2_2 40 rfl
theorem dX10_fitsBuckets_42 : decode cX10_fitsBuckets 42 = .ok (.iconst 2, 1) := dk_at dkB02decX2_2 41 rfl
theorem dX10_fitsBuckets_43 : decode cX10_fitsBuckets 43 = .ok (.iload 6, 2) := dk_at dkB02decX2_2 42 rfl
theorem dX10_fitsBuckets_45 : decode cX10_fitsBuckets 45 = .ok (.imul, 1) := dk_at dkB02decX2_2 43 rfl
theorem dX10_fitsBuckets_46 : decode cX10_fitsBuckets 46 = .ok (.iadd, 1) := dk_at dkB02decX2_2 44 rfl
theorem dX10_fitsBuckets_47 : decode cX10_fitsBuckets 47 = .ok (.iconst 1, 1) := dk_at dkB02decX2_2 45 rfl
theorem dX10_fitsBuckets_48 : decode cX10_fitsBuckets 48 = .ok (.iadd, 1) := dk_at dkB02decX2_2 46 rfl
theorem dX10_fitsBuckets_49 : decode cX10_fitsBuckets 49 = .ok (.iaload, 1) := dk_at dkB02decX2_2 47 rfl
theorem dX10_fitsBuckets_50 : decode cX10_fitsBuckets 50 = .ok (.i2l, 1) := dk_at dkB02decX2_2 48 rfl
theorem dX10_fitsBuckets_51 : decode cX10_fitsBuckets 51 = .ok (.lsub, 1) := dk_at dkB02decX2_2 49 rfl
theorem dX10_fitsBuckets_52 : decode cX10_fitsBuckets 52 = .ok (.lstore 8, 2) := dk_at dkB02decX2_2 50 rfl
theorem dX10_fitsBuckets_54 : decode cX10_fitsBuckets 54 = .ok (.iload 7, 2) := dk_at dkB02decX2_2 51 rfl
theorem dX10_fitsBuckets_56 : decode cX10_fitsBuckets 56 = .ok (.sipush (-1004), 3) := dk_at dkB02decX2_2 52 rfl
theorem dX10_fitsBuckets_59 : decode cX10_fitsBuckets 59 = .ok (.if_icmp .eq 22, 3) := dk_at dkB02decX2_2 53 rfl
theorem dX10_fitsBuckets_62 : decode cX10_fitsBuckets 62 = .ok (.lload 8, 2) := dk_at dkB02decX2_2 54 rfl
theorem dX10_fitsBuckets_64 : decode cX10_fitsBuckets 64 = .ok (.iload 4, 2) := dk_at dkB02decX2_2 55 rfl
theorem dX10_fitsBuckets_66 : decode cX10_fitsBuckets 66 = .ok (.i2l, 1) := dk_at dkB02decX2_2 56 rfl
theorem dX10_fitsBuckets_67 : decode cX10_fitsBuckets 67 = .ok (.lcmp, 1) := dk_at dkB02decX2_2 57 rfl
theorem dX10_fitsBuckets_68 : decode cX10_fitsBuckets 68 = .ok (.ifCond .gt 13, 3) := dk_at dkB02decX2_2 58 rfl
theorem dX10_fitsBuckets_71 : decode cX10_fitsBuckets 71 = .ok (.lload 8, 2) := dk_at dkB02decX2_2 59 rfl
noncomputable def dkL02decX2_3 : List (ByteArray × Nat × Instr × Nat) := [(cX10_fitsBuckets, 73, (.iload 4, 2)), (cX10_fitsBuckets, 75, (.ineg, 1)), (cX10_fitsBuckets, 76, (.i2l, 1)), (cX10_fitsBuckets, 77, (.lcmp, 1)), (cX10_fitsBuckets, 78, (.ifCond .ge 5, 3)), (cX10_fitsBuckets, 81, (.iconst 0, 1)), (cX10_fitsBuckets, 82, (.ireturn, 1)), (cX10_fitsBuckets, 83, (.iinc 6 1, 3)), (cX10_fitsBuckets, 86, (.goto (-83), 3)), (cX10_fitsBuckets, 89, (.iconst 1, 1)), (cX10_fitsBuckets, 90, (.ireturn, 1)), (cX10_make, 0, (.iload_n 1, 1)), (cX10_make, 1, (.invokestatic 144, 3)), (cX10_make, 4, (.ifCond .ne 5, 3)), (cX10_make, 7, (.iconst (-1), 1)), (cX10_make, 8, (.ireturn, 1)), (cX10_make, 9, (.aload_n 0, 1)), (cX10_make, 10, (.getfield 12, 3)), (cX10_make, 13, (.getfield 126, 3)), (cX10_make, 16, (.getfield 133, 3)), (cX10_make, 19, (.ifCond .ne 6, 3)), (cX10_make, 22, (.bipush (-2), 2)), (cX10_make, 24, (.ireturn, 1)), (cX10_make, 25, (.aload_n 0, 1)), (cX10_make, 26, (.getfield 12, 3)), (cX10_make, 29, (.getfield 147, 3)), (cX10_make, 32, (.iload_n 1, 1)), (cX10_make, 33, (.aaload, 1)), (cX10_make, 34, (.aload_n 0, 1)), (cX10_make, 35, (.getfield 12, 3)), (cX10_make, 38, (.getfield 79, 3)), (cX10_make, 41, (.aload_n 0, 1)), (cX10_make, 42, (.getfield 12, 3)), (cX10_make, 45, (.getfield 126, 3)), (cX10_make, 48, (.invokevirtual 151, 3)), (cX10_make, 51, (.aload_n 0, 1)), (cX10_make, 52, (.getfield 12, 3)), (cX10_make, 55, (.getfield 157, 3)), (cX10_make, 58, (.iload_n 1, 1)), (cX10_make, 59, (.iconst 0, 1)), (cX10_make, 60, (.invokevirtual 161, 3)), (cX10_make, 63, (.aload_n 0, 1)), (cX10_make, 64, (.getfield 54, 3)), (cX10_make, 67, (.iload_n 1, 1)), (cX10_make, 68, (.iconst 0, 1)), (cX10_make, 69, (.bastore, 1)), (cX10_make, 70, (.aload_n 0, 1)), (cX10_make, 71, (.getfield 12, 3)), (cX10_make, 74, (.getfield 147, 3)), (cX10_make, 77, (.iload_n 1, 1)), (cX10_make, 78, (.aaload, 1)), (cX10_make, 79, (.getfield 167, 3)), (cX10_make, 82, (.ireturn, 1)), (cX10_truth, 0, (.aload_n 0, 1)), (cX10_truth, 1, (.iload_n 1, 1)), (cX10_truth, 2, (.iload_n 2, 1)), (cX10_truth, 3, (.invokevirtual 170, 3)), (cX10_truth, 6, (.ifCond .ne 5, 3)), (cX10_truth, 9, (.iconst (-1), 1)), (cX10_truth, 10, (.ireturn, 1))]
theorem dkB02decX2_3 : dkL02decX2_3.all (fun q => decide (decode q.1 q.2.1 = .ok q.2.2)) = true := by decide +kernel
theorem dX10_fitsBuckets_73 : decode cX10_fitsBuckets 73 = .ok (.iload 4, 2) := dk_at dkB02decX2_3 0 rfl
theorem dX10_fitsBuckets_75 : decode cX10_fitsBuckets 75 = .ok (.ineg, 1) := dk_at dkB02decX2_3 1 rfl
theorem dX10_fitsBuckets_76 : decode cX10_fitsBuckets 76 = .ok (.i2l, 1) := dk_at dkB02decX2_3 2 rfl
theorem dX10_fitsBuckets_77 : decode cX10_fitsBuckets 77 = .ok (.lcmp, 1) := dk_at dkB02decX2_3 3 rfl
theorem dX10_fitsBuckets_78 : decode cX10_fitsBuckets 78 = .ok (.ifCond .ge 5, 3) := dk_at dkB02decX2_3 4 rfl
theorem dX10_fitsBuckets_81 : decode cX10_fitsBuckets 81 = .ok (.iconst 0, 1) := dk_at dkB02decX2_3 5 rfl
theorem dX10_fitsBuckets_82 : decode cX10_fitsBuckets 82 = .ok (.ireturn, 1) := dk_at dkB02decX2_3 6 rfl
theorem dX10_fitsBuckets_83 : decode cX10_fitsBuckets 83 = .ok (.iinc 6 1, 3) := dk_at dkB02decX2_3 7 rfl
theorem dX10_fitsBuckets_86 : decode cX10_fitsBuckets 86 = .ok (.goto (-83), 3) := dk_at dkB02decX2_3 8 rfl
theorem dX10_fitsBuckets_89 : decode cX10_fitsBuckets 89 = .ok (.iconst 1, 1) := dk_at dkB02decX2_3 9 rfl
theorem dX10_fitsBuckets_90 : decode cX10_fitsBuckets 90 = .ok (.ireturn, 1) := dk_at dkB02decX2_3 10 rfl
theorem dX10_make_0 : decode cX10_make 0 = .ok (.iload_n 1, 1) := dk_at dkB02decX2_3 11 rfl
theorem dX10_make_1 : decode cX10_make 1 = .ok (.invokestatic 144, 3) := dk_at dkB02decX2_3 12 rfl
theorem dX10_make_4 : decode cX10_make 4 = .ok (.ifCond .ne 5, 3) := dk_at dkB02decX2_3 13 rfl
theorem dX10_make_7 : decode cX10_make 7 = .ok (.iconst (-1), 1) := dk_at dkB02decX2_3 14 rfl
theorem dX10_make_8 : decode cX10_make 8 = .ok (.ireturn, 1) := dk_at dkB02decX2_3 15 rfl
theorem dX10_make_9 : decode cX10_make 9 = .ok (.aload_n 0, 1) := dk_at dkB02decX2_3 16 rfl
theorem dX10_make_10 : decode cX10_make 10 = .ok (.getfield 12, 3) := dk_at dkB02decX2_3 17 rfl
theorem dX10_make_13 : decode cX10_make 13 = .ok (.getfield 126, 3) := dk_at dkB02decX2_3 18 rfl
theorem dX10_make_16 : decode cX10_make 16 = .ok (.getfield 133, 3) := dk_at dkB02decX2_3 19 rfl
theorem dX10_make_19 : decode cX10_make 19 = .ok (.ifCond .ne 6, 3) := dk_at dkB02decX2_3 20 rfl
theorem dX10_make_22 : decode cX10_make 22 = .ok (.bipush (-2), 2) := dk_at dkB02decX2_3 21 rfl
theorem dX10_make_24 : decode cX10_make 24 = .ok (.ireturn, 1) := dk_at dkB02decX2_3 22 rfl
theorem dX10_make_25 : decode cX10_make 25 = .ok (.aload_n 0, 1) := dk_at dkB02decX2_3 23 rfl
theorem dX10_make_26 : decode cX10_make 26 = .ok (.getfield 12, 3) := dk_at dkB02decX2_3 24 rfl
theorem dX10_make_29 : decode cX10_make 29 = .ok (.getfield 147, 3) := dk_at dkB02decX2_3 25 rfl
theorem dX10_make_32 : decode cX10_make 32 = .ok (.iload_n 1, 1) := dk_at dkB02decX2_3 26 rfl
theorem dX10_make_33 : decode cX10_make 33 = .ok (.aaload, 1) := dk_at dkB02decX2_3 27 rfl
theorem dX10_make_34 : decode cX10_make 34 = .ok (.aload_n 0, 1) := dk_at dkB02decX2_3 28 rfl
theorem dX10_make_35 : decode cX10_make 35 = .ok (.getfield 12, 3) := dk_at dkB02decX2_3 29 rfl
theorem dX10_make_38 : decode cX10_make 38 = .ok (.getfield 79, 3) := dk_at dkB02decX2_3 30 rfl
theorem dX10_make_41 : decode cX10_make 41 = .ok (.aload_n 0, 1) := dk_at dkB02decX2_3 31 rfl
theorem dX10_make_42 : decode cX10_make 42 = .ok (.getfield 12, 3) := dk_at dkB02decX2_3 32 rfl
theorem dX10_make_45 : decode cX10_make 45 = .ok (.getfield 126, 3) := dk_at dkB02decX2_3 33 rfl
theorem dX10_make_48 : decode cX10_make 48 = .ok (.invokevirtual 151, 3) := dk_at dkB02decX2_3 34 rfl
theorem dX10_make_51 : decode cX10_make 51 = .ok (.aload_n 0, 1) := dk_at dkB02decX2_3 35 rfl
theorem dX10_make_52 : decode cX10_make 52 = .ok (.getfield 12, 3) := dk_at dkB02decX2_3 36 rfl
theorem dX10_make_55 : decode cX10_make 55 = .ok (.getfield 157, 3) := dk_at dkB02decX2_3 37 rfl
theorem dX10_make_58 : decode cX10_make 58 = .ok (.iload_n 1, 1) := dk_at dkB02decX2_3 38 rfl
theorem dX10_make_59 : decode cX10_make 59 = .ok (.iconst 0, 1) := dk_at dkB02decX2_3 39 rfl
theorem dX10_make_60 : decode cX10_make 60 = .ok (.invokevirtual 161, 3) := dk_at dkB02decX2_3 40 rfl
theorem dX10_make_63 : decode cX10_make 63 = .ok (.aload_n 0, 1) := dk_at dkB02decX2_3 41 rfl
theorem dX10_make_64 : decode cX10_make 64 = .ok (.getfield 54, 3) := dk_at dkB02decX2_3 42 rfl
theorem dX10_make_67 : decode cX10_make 67 = .ok (.iload_n 1, 1) := dk_at dkB02decX2_3 43 rfl
theorem dX10_make_68 : decode cX10_make 68 = .ok (.iconst 0, 1) := dk_at dkB02decX2_3 44 rfl
theorem dX10_make_69 : decode cX10_make 69 = .ok (.bastore, 1) := dk_at dkB02decX2_3 45 rfl
theorem dX10_make_70 : decode cX10_make 70 = .ok (.aload_n 0, 1) := dk_at dkB02decX2_3 46 rfl
theorem dX10_make_71 : decode cX10_make 71 = .ok (.getfield 12, 3) := dk_at dkB02decX2_3 47 rfl
theorem dX10_make_74 : decode cX10_make 74 = .ok (.getfield 147, 3) := dk_at dkB02decX2_3 48 rfl
theorem dX10_make_77 : decode cX10_make 77 = .ok (.iload_n 1, 1) := dk_at dkB02decX2_3 49 rfl
theorem dX10_make_78 : decode cX10_make 78 = .ok (.aaload, 1) := dk_at dkB02decX2_3 50 rfl
theorem dX10_make_79 : decode cX10_make 79 = .ok (.getfield 167, 3) := dk_at dkB02decX2_3 51 rfl
theorem dX10_make_82 : decode cX10_make 82 = .ok (.ireturn, 1) := dk_at dkB02decX2_3 52 rfl
theorem dX10_truth_0 : decode cX10_truth 0 = .ok (.aload_n 0, 1) := dk_at dkB02decX2_3 53 rfl
theorem dX10_truth_1 : decode cX10_truth 1 = .ok (.iload_n 1, 1) := dk_at dkB02decX2_3 54 rfl
theorem dX10_truth_2 : decode cX10_truth 2 = .ok (.iload_n 2, 1) := dk_at dkB02decX2_3 55 rfl
theorem dX10_truth_3 : decode cX10_truth 3 = .ok (.invokevirtual 170, 3) := dk_at dkB02decX2_3 56 rfl
theorem dX10_truth_6 : decode cX10_truth 6 = .ok (.ifCond .ne 5, 3) := dk_at dkB02decX2_3 57 rfl
theorem dX10_truth_9 : decode cX10_truth 9 = .ok (.iconst (-1), 1) := dk_at dkB02decX2_3 58 rfl
theorem dX10_truth_10 : decode cX10_truth 10 = .ok (.ireturn, 1) := dk_at dkB02decX2_3 59 rfl
noncomputable def dkL02decX2_4 : List (ByteArray × Nat × Instr × Nat) := [(cX10_truth, 11, (.aload_n 0, 1)), (cX10_truth, 12, (.getfield 12, 3)), (cX10_truth, 15, (.getfield 147, 3)), (cX10_truth, 18, (.iload_n 1, 1)), (cX10_truth, 19, (.aaload, 1)), (cX10_truth, 20, (.astore_n 3, 1)), (cX10_truth, 21, (.aload_n 3, 1)), (cX10_truth, 22, (.getfield 173, 3)), (cX10_truth, 25, (.ifCond .ne 6, 3)), (cX10_truth, 28, (.bipush (-2), 2)), (cX10_truth, 30, (.ireturn, 1)), (cX10_truth, 31, (.aload_n 3, 1)), (cX10_truth, 32, (.iload_n 2, 1)), (cX10_truth, 33, (.invokevirtual 177, 3)), (cX10_truth, 36, (.ifCond .eq 12, 3)), (cX10_truth, 39, (.aload_n 3, 1)), (cX10_truth, 40, (.getfield 180, 3)), (cX10_truth, 43, (.iload_n 2, 1)), (cX10_truth, 44, (.iaload, 1)), (cX10_truth, 45, (.goto 5, 3)), (cX10_truth, 48, (.bipush (-12), 2)), (cX10_truth, 50, (.ireturn, 1)), (cX10_put, 0, (.iload_n 1, 1)), (cX10_put, 1, (.invokestatic 144, 3)), (cX10_put, 4, (.ifCond .eq 12, 3)), (cX10_put, 7, (.iload_n 2, 1)), (cX10_put, 8, (.iconst 0, 1)), (cX10_put, 9, (.iconst 2, 1)), (cX10_put, 10, (.invokestatic 69, 3)), (cX10_put, 13, (.ifCond .ne 5, 3)), (cX10_put, 16, (.iconst (-1), 1)), (cX10_put, 17, (.ireturn, 1)), (cX10_put, 18, (.iload_n 2, 1)), (cX10_put, 19, (.ifCond .ne 17, 3)), (cX10_put, 22, (.iload_n 3, 1)), (cX10_put, 23, (.bipush (-50), 2)), (cX10_put, 25, (.bipush 50, 2)), (cX10_put, 27, (.invokestatic 69, 3)), (cX10_put, 30, (.ifCond .ne 12, 3)), (cX10_put, 33, (.goto 7, 3)), (cX10_put, 36, (.iload_n 3, 1)), (cX10_put, 37, (.ifCond .eq 5, 3)), (cX10_put, 40, (.iconst (-1), 1)), (cX10_put, 41, (.ireturn, 1)), (cX10_put, 42, (.aload_n 0, 1)), (cX10_put, 43, (.getfield 12, 3)), (cX10_put, 46, (.getfield 147, 3)), (cX10_put, 49, (.iload_n 1, 1)), (cX10_put, 50, (.aaload, 1)), (cX10_put, 51, (.astore 4, 2)), (cX10_put, 53, (.aload 4, 2)), (cX10_put, 55, (.getfield 167, 3)), (cX10_put, 58, (.bipush 12, 2)), (cX10_put, 60, (.if_icmp .ne 6, 3)), (cX10_put, 63, (.bipush (-3), 2)), (cX10_put, 65, (.ireturn, 1)), (cX10_put, 66, (.aload 4, 2)), (cX10_put, 68, (.iload_n 2, 1)), (cX10_put, 69, (.iload_n 3, 1)), (cX10_put, 70, (.iconst 0, 1))]
theorem dkB02decX2_4 : dkL02decX2_4.all (fun q => decide (decode q.1 q.2.1 = .ok q.2.2)) = true := by decide +kernel
theorem dX10_truth_11 : decode cX10_truth 11 = .ok (.aload_n 0, 1) := dk_at dkB02decX2_4 0 rfl
theorem dX10_truth_12 : decode cX10_truth 12 = .ok (.getfield 12, 3) := dk_at dkB02decX2_4 1 rfl
theorem dX10_truth_15 : decode cX10_truth 15 = .ok (.getfield 147, 3) := dk_at dkB02decX2_4 2 rfl
theorem dX10_truth_18 : decode cX10_truth 18 = .ok (.iload_n 1, 1) := dk_at dkB02decX2_4 3 rfl
theorem dX10_truth_19 : decode cX10_truth 19 = .ok (.aaload, 1) := dk_at dkB02decX2_4 4 rfl
theorem dX10_truth_20 : decode cX10_truth 20 = .ok (.astore_n 3, 1) := dk_at dkB02decX2_4 5 rfl
theorem dX10_truth_21 : decode cX10_truth 21 = .ok (.aload_n 3, 1) := dk_at dkB02decX2_4 6 rfl
theorem dX10_truth_22 : decode cX10_truth 22 = .ok (.getfield 173, 3) := dk_at dkB02decX2_4 7 rfl
theorem dX10_truth_25 : decode cX10_truth 25 = .ok (.ifCond .ne 6, 3) := dk_at dkB02decX2_4 8 rfl
theorem dX10_truth_28 : decode cX10_truth 28 = .ok (.bipush (-2), 2) := dk_at dkB02decX2_4 9 rfl
theorem dX10_truth_30 : decode cX10_truth 30 = .ok (.ireturn, 1) := dk_at dkB02decX2_4 10 rfl
theorem dX10_truth_31 : decode cX10_truth 31 = .ok (.aload_n 3, 1) := dk_at dkB02decX2_4 11 rfl
theorem dX10_truth_32 : decode cX10_truth 32 = .ok (.iload_n 2, 1) := dk_at dkB02decX2_4 12 rfl
theorem dX10_truth_33 : decode cX10_truth 33 = .ok (.invokevirtual 177, 3) := dk_at dkB02decX2_4 13 rfl
theorem dX10_truth_36 : decode cX10_truth 36 = .ok (.ifCond .eq 12, 3) := dk_at dkB02decX2_4 14 rfl
theorem dX10_truth_39 : decode cX10_truth 39 = .ok (.aload_n 3, 1) := dk_at dkB02decX2_4 15 rfl
theorem dX10_truth_40 : decode cX10_truth 40 = .ok (.getfield 180, 3) := dk_at dkB02decX2_4 16 rfl
theorem dX10_truth_43 : decode cX10_truth 43 = .ok (.iload_n 2, 1) := dk_at dkB02decX2_4 17 rfl
theorem dX10_truth_44 : decode cX10_truth 44 = .ok (.iaload, 1) := dk_at dkB02decX2_4 18 rfl
theorem dX10_truth_45 : decode cX10_truth 45 = .ok (.goto 5, 3) := dk_at dkB02decX2_4 19 rfl
theorem dX10_truth_48 : decode cX10_truth 48 = .ok (.bipush (-12), 2) := dk_at dkB02decX2_4 20 rfl
theorem dX10_truth_50 : decode cX10_truth 50 = .ok (.ireturn, 1) := dk_at dkB02decX2_4 21 rfl
theorem dX10_put_0 : decode cX10_put 0 = .ok (.iload_n 1, 1) := dk_at dkB02decX2_4 22 rfl
theorem dX10_put_1 : decode cX10_put 1 = .ok (.invokestatic 144, 3) := dk_at dkB02decX2_4 23 rfl
theorem dX10_put_4 : decode cX10_put 4 = .ok (.ifCond .eq 12, 3) := dk_at dkB02decX2_4 24 rfl
theorem dX10_put_7 : decode cX10_put 7 = .ok (.iload_n 2, 1) := dk_at dkB02decX2_4 25 rfl
theorem dX10_put_8 : decode cX10_put 8 = .ok (.iconst 0, 1) := dk_at dkB02decX2_4 26 rfl
theorem dX10_put_9 : decode cX10_put 9 = .ok (.iconst 2, 1) := dk_at dkB02decX2_4 27 rfl
theorem dX10_put_10 : decode cX10_put 10 = .ok (.invokestatic 69, 3) := dk_at dkB02decX2_4 28 rfl
theorem dX10_put_13 : decode cX10_put 13 = .ok (.ifCond .ne 5, 3) := dk_at dkB02decX2_4 29 rfl
theorem dX10_put_16 : decode cX10_put 16 = .ok (.iconst (-1), 1) := dk_at dkB02decX2_4 30 rfl
theorem dX10_put_17 : decode cX10_put 17 = .ok (.ireturn, 1) := dk_at dkB02decX2_4 31 rfl
theorem dX10_put_18 : decode cX10_put 18 = .ok (.iload_n 2, 1) := dk_at dkB02decX2_4 32 rfl
theorem dX10_put_19 : decode cX10_put 19 = .ok (.ifCond .ne 17, 3) := dk_at dkB02decX2_4 33 rfl
theorem dX10_put_22 : decode cX10_put 22 = .ok (.iload_n 3, 1) := dk_at dkB02decX2_4 34 rfl
theorem dX10_put_23 : decode cX10_put 23 = .ok (.bipush (-50), 2) := dk_at dkB02decX2_4 35 rfl
theorem dX10_put_25 : decode cX10_put 25 = .ok (.bipush 50, 2) := dk_at dkB02decX2_4 36 rfl
theorem dX10_put_27 : decode cX10_put 27 = .ok (.invokestatic 69, 3) := dk_at dkB02decX2_4 37 rfl
theorem dX10_put_30 : decode cX10_put 30 = .ok (.ifCond .ne 12, 3) := dk_at dkB02decX2_4 38 rfl
theorem dX10_put_33 : decode cX10_put 33 = .ok (.goto 7, 3) := dk_at dkB02decX2_4 39 rfl
theorem dX10_put_36 : decode cX10_put 36 = .ok (.iload_n 3, 1) := dk_at dkB02decX2_4 40 rfl
theorem dX10_put_37 : decode cX10_put 37 = .ok (.ifCond .eq 5, 3) := dk_at dkB02decX2_4 41 rfl
theorem dX10_put_40 : decode cX10_put 40 = .ok (.iconst (-1), 1) := dk_at dkB02decX2_4 42 rfl
theorem dX10_put_41 : decode cX10_put 41 = .ok (.ireturn, 1) := dk_at dkB02decX2_4 43 rfl
theorem dX10_put_42 : decode cX10_put 42 = .ok (.aload_n 0, 1) := dk_at dkB02decX2_4 44 rfl
theorem dX10_put_43 : decode cX10_put 43 = .ok (.getfield 12, 3) := dk_at dkB02decX2_4 45 rfl
theorem dX10_put_46 : decode cX10_put 46 = .ok (.getfield 147, 3) := dk_at dkB02decX2_4 46 rfl
theorem dX10_put_49 : decode cX10_put 49 = .ok (.iload_n 1, 1) := dk_at dkB02decX2_4 47 rfl
theorem dX10_put_50 : decode cX10_put 50 = .ok (.aaload, 1) := dk_at dkB02decX2_4 48 rfl
theorem dX10_put_51 : decode cX10_put 51 = .ok (.astore 4, 2) := dk_at dkB02decX2_4 49 rfl
theorem dX10_put_53 : decode cX10_put 53 = .ok (.aload 4, 2) := dk_at dkB02decX2_4 50 rfl
theorem dX10_put_55 : decode cX10_put 55 = .ok (.getfield 167, 3) := dk_at dkB02decX2_4 51 rfl
theorem dX10_put_58 : decode cX10_put 58 = .ok (.bipush 12, 2) := dk_at dkB02decX2_4 52 rfl
theorem dX10_put_60 : decode cX10_put 60 = .ok (.if_icmp .ne 6, 3) := dk_at dkB02decX2_4 53 rfl
theorem dX10_put_63 : decode cX10_put 63 = .ok (.bipush (-3), 2) := dk_at dkB02decX2_4 54 rfl
theorem dX10_put_65 : decode cX10_put 65 = .ok (.ireturn, 1) := dk_at dkB02decX2_4 55 rfl
theorem dX10_put_66 : decode cX10_put 66 = .ok (.aload 4, 2) := dk_at dkB02decX2_4 56 rfl
theorem dX10_put_68 : decode cX10_put 68 = .ok (.iload_n 2, 1) := dk_at dkB02decX2_4 57 rfl
theorem dX10_put_69 : decode cX10_put 69 = .ok (.iload_n 3, 1) := dk_at dkB02decX2_4 58 rfl
theorem dX10_put_70 : decode cX10_put 70 = .ok (.iconst 0, 1) := dk_at dkB02decX2_4 59 rfl
noncomputable def dkL02decX2_5 : List (ByteArray × Nat × Instr × Nat) := [(cX10_put, 71, (.invokevirtual 183, 3)), (cX10_put, 74, (.aload 4, 2)), (cX10_put, 76, (.iconst 0, 1)), (cX10_put, 77, (.putfield 173, 3)), (cX10_put, 80, (.aload_n 0, 1)), (cX10_put, 81, (.getfield 54, 3)), (cX10_put, 84, (.iload_n 1, 1)), (cX10_put, 85, (.iconst 0, 1)), (cX10_put, 86, (.bastore, 1)), (cX10_put, 87, (.aload 4, 2)), (cX10_put, 89, (.getfield 167, 3)), (cX10_put, 92, (.iconst 1, 1)), (cX10_put, 93, (.isub, 1)), (cX10_put, 94, (.ireturn, 1)), (cX10_cut, 0, (.aload_n 0, 1)), (cX10_cut, 1, (.iload_n 1, 1)), (cX10_cut, 2, (.iload_n 2, 1)), (cX10_cut, 3, (.invokevirtual 170, 3)), (cX10_cut, 6, (.ifCond .ne 5, 3)), (cX10_cut, 9, (.iconst (-1), 1)), (cX10_cut, 10, (.ireturn, 1)), (cX10_cut, 11, (.aload_n 0, 1)), (cX10_cut, 12, (.getfield 12, 3)), (cX10_cut, 15, (.getfield 147, 3)), (cX10_cut, 18, (.iload_n 1, 1)), (cX10_cut, 19, (.aaload, 1)), (cX10_cut, 20, (.iload_n 2, 1)), (cX10_cut, 21, (.invokevirtual 187, 3)), (cX10_cut, 24, (.aload_n 0, 1)), (cX10_cut, 25, (.getfield 12, 3)), (cX10_cut, 28, (.getfield 157, 3)), (cX10_cut, 31, (.iload_n 1, 1)), (cX10_cut, 32, (.iload_n 2, 1)), (cX10_cut, 33, (.invokevirtual 161, 3)), (cX10_cut, 36, (.aload_n 0, 1)), (cX10_cut, 37, (.getfield 54, 3)), (cX10_cut, 40, (.iload_n 1, 1)), (cX10_cut, 41, (.iconst 0, 1)), (cX10_cut, 42, (.bastore, 1)), (cX10_cut, 43, (.iload_n 2, 1)), (cX10_cut, 44, (.ireturn, 1)), (cX10_thing, 0, (.aload_n 0, 1)), (cX10_thing, 1, (.iload_n 1, 1)), (cX10_thing, 2, (.iload_n 2, 1)), (cX10_thing, 3, (.invokevirtual 170, 3)), (cX10_thing, 6, (.ifCond .eq 12, 3)), (cX10_thing, 9, (.iload_n 3, 1)), (cX10_thing, 10, (.iconst 0, 1)), (cX10_thing, 11, (.iconst 1, 1)), (cX10_thing, 12, (.invokestatic 69, 3)), (cX10_thing, 15, (.ifCond .ne 7, 3)), (cX10_thing, 18, (.sipush (-1001), 3)), (cX10_thing, 21, (.ireturn, 1)), (cX10_thing, 22, (.aload_n 0, 1)), (cX10_thing, 23, (.getfield 12, 3)), (cX10_thing, 26, (.getfield 147, 3)), (cX10_thing, 29, (.iload_n 1, 1)), (cX10_thing, 30, (.aaload, 1)), (cX10_thing, 31, (.astore 4, 2)), (cX10_thing, 33, (.iload_n 3, 1))]
theorem dkB02decX2_5 : dkL02decX2_5.all (fun q => decide (decode q.1 q.2.1 = .ok q.2.2)) = true := by decide +kernel
theorem dX10_put_71 : decode cX10_put 71 = .ok (.invokevirtual 183, 3) := dk_at dkB02decX2_5 0 rfl
theorem dX10_put_74 : decode cX10_put 74 = .ok (.aload 4, 2) := dk_at dkB02decX2_5 1 rfl
theorem dX10_put_76 : decode cX10_put 76 = .ok (.iconst 0, 1) := dk_at dkB02decX2_5 2 rfl
theorem dX10_put_77 : decode cX10_put 77 = .ok (.putfield 173, 3) := dk_at dkB02decX2_5 3 rfl
theorem dX10_put_80 : decode cX10_put 80 = .ok (.aload_n 0, 1) := dk_at dkB02decX2_5 4 rfl
theorem dX10_put_81 : decode cX10_put 81 = .ok (.getfield 54, 3) := dk_at dkB02decX2_5 5 rfl
theorem dX10_put_84 : decode cX10_put 84 = .ok (.iload_n 1, 1) := dk_at dkB02decX2_5 6 rfl
theorem dX10_put_85 : decode cX10_put 85 = .ok (.iconst 0, 1) := dk_at dkB02decX2_5 7 rfl
theorem dX10_put_86 : decode cX10_put 86 = .ok (.bastore, 1) := dk_at dkB02decX2_5 8 rfl
theorem dX10_put_87 : decode cX10_put 87 = .ok (.aload 4, 2) := dk_at dkB02decX2_5 9 rfl
theorem dX10_put_89 : decode cX10_put 89 = .ok (.getfield 167, 3) := dk_at dkB02decX2_5 10 rfl
theorem dX10_put_92 : decode cX10_put 92 = .ok (.iconst 1, 1) := dk_at dkB02decX2_5 11 rfl
theorem dX10_put_93 : decode cX10_put 93 = .ok (.isub, 1) := dk_at dkB02decX2_5 12 rfl
theorem dX10_put_94 : decode cX10_put 94 = .ok (.ireturn, 1) := dk_at dkB02decX2_5 13 rfl
theorem dX10_cut_0 : decode cX10_cut 0 = .ok (.aload_n 0, 1) := dk_at dkB02decX2_5 14 rfl
theorem dX10_cut_1 : decode cX10_cut 1 = .ok (.iload_n 1, 1) := dk_at dkB02decX2_5 15 rfl
theorem dX10_cut_2 : decode cX10_cut 2 = .ok (.iload_n 2, 1) := dk_at dkB02decX2_5 16 rfl
theorem dX10_cut_3 : decode cX10_cut 3 = .ok (.invokevirtual 170, 3) := dk_at dkB02decX2_5 17 rfl
theorem dX10_cut_6 : decode cX10_cut 6 = .ok (.ifCond .ne 5, 3) := dk_at dkB02decX2_5 18 rfl
theorem dX10_cut_9 : decode cX10_cut 9 = .ok (.iconst (-1), 1) := dk_at dkB02decX2_5 19 rfl
theorem dX10_cut_10 : decode cX10_cut 10 = .ok (.ireturn, 1) := dk_at dkB02decX2_5 20 rfl
theorem dX10_cut_11 : decode cX10_cut 11 = .ok (.aload_n 0, 1) := dk_at dkB02decX2_5 21 rfl
theorem dX10_cut_12 : decode cX10_cut 12 = .ok (.getfield 12, 3) := dk_at dkB02decX2_5 22 rfl
theorem dX10_cut_15 : decode cX10_cut 15 = .ok (.getfield 147, 3) := dk_at dkB02decX2_5 23 rfl
theorem dX10_cut_18 : decode cX10_cut 18 = .ok (.iload_n 1, 1) := dk_at dkB02decX2_5 24 rfl
theorem dX10_cut_19 : decode cX10_cut 19 = .ok (.aaload, 1) := dk_at dkB02decX2_5 25 rfl
theorem dX10_cut_20 : decode cX10_cut 20 = .ok (.iload_n 2, 1) := dk_at dkB02decX2_5 26 rfl
theorem dX10_cut_21 : decode cX10_cut 21 = .ok (.invokevirtual 187, 3) := dk_at dkB02decX2_5 27 rfl
theorem dX10_cut_24 : decode cX10_cut 24 = .ok (.aload_n 0, 1) := dk_at dkB02decX2_5 28 rfl
theorem dX10_cut_25 : decode cX10_cut 25 = .ok (.getfield 12, 3) := dk_at dkB02decX2_5 29 rfl
theorem dX10_cut_28 : decode cX10_cut 28 = .ok (.getfield 157, 3) := dk_at dkB02decX2_5 30 rfl
theorem dX10_cut_31 : decode cX10_cut 31 = .ok (.iload_n 1, 1) := dk_at dkB02decX2_5 31 rfl
theorem dX10_cut_32 : decode cX10_cut 32 = .ok (.iload_n 2, 1) := dk_at dkB02decX2_5 32 rfl
theorem dX10_cut_33 : decode cX10_cut 33 = .ok (.invokevirtual 161, 3) := dk_at dkB02decX2_5 33 rfl
theorem dX10_cut_36 : decode cX10_cut 36 = .ok (.aload_n 0, 1) := dk_at dkB02decX2_5 34 rfl
theorem dX10_cut_37 : decode cX10_cut 37 = .ok (.getfield 54, 3) := dk_at dkB02decX2_5 35 rfl
theorem dX10_cut_40 : decode cX10_cut 40 = .ok (.iload_n 1, 1) := dk_at dkB02decX2_5 36 rfl
theorem dX10_cut_41 : decode cX10_cut 41 = .ok (.iconst 0, 1) := dk_at dkB02decX2_5 37 rfl
theorem dX10_cut_42 : decode cX10_cut 42 = .ok (.bastore, 1) := dk_at dkB02decX2_5 38 rfl
theorem dX10_cut_43 : decode cX10_cut 43 = .ok (.iload_n 2, 1) := dk_at dkB02decX2_5 39 rfl
theorem dX10_cut_44 : decode cX10_cut 44 = .ok (.ireturn, 1) := dk_at dkB02decX2_5 40 rfl
theorem dX10_thing_0 : decode cX10_thing 0 = .ok (.aload_n 0, 1) := dk_at dkB02decX2_5 41 rfl
theorem dX10_thing_1 : decode cX10_thing 1 = .ok (.iload_n 1, 1) := dk_at dkB02decX2_5 42 rfl
theorem dX10_thing_2 : decode cX10_thing 2 = .ok (.iload_n 2, 1) := dk_at dkB02decX2_5 43 rfl
theorem dX10_thing_3 : decode cX10_thing 3 = .ok (.invokevirtual 170, 3) := dk_at dkB02decX2_5 44 rfl
theorem dX10_thing_6 : decode cX10_thing 6 = .ok (.ifCond .eq 12, 3) := dk_at dkB02decX2_5 45 rfl
theorem dX10_thing_9 : decode cX10_thing 9 = .ok (.iload_n 3, 1) := dk_at dkB02decX2_5 46 rfl
theorem dX10_thing_10 : decode cX10_thing 10 = .ok (.iconst 0, 1) := dk_at dkB02decX2_5 47 rfl
theorem dX10_thing_11 : decode cX10_thing 11 = .ok (.iconst 1, 1) := dk_at dkB02decX2_5 48 rfl
theorem dX10_thing_12 : decode cX10_thing 12 = .ok (.invokestatic 69, 3) := dk_at dkB02decX2_5 49 rfl
theorem dX10_thing_15 : decode cX10_thing 15 = .ok (.ifCond .ne 7, 3) := dk_at dkB02decX2_5 50 rfl
theorem dX10_thing_18 : decode cX10_thing 18 = .ok (.sipush (-1001), 3) := dk_at dkB02decX2_5 51 rfl
theorem dX10_thing_21 : decode cX10_thing 21 = .ok (.ireturn, 1) := dk_at dkB02decX2_5 52 rfl
theorem dX10_thing_22 : decode cX10_thing 22 = .ok (.aload_n 0, 1) := dk_at dkB02decX2_5 53 rfl
theorem dX10_thing_23 : decode cX10_thing 23 = .ok (.getfield 12, 3) := dk_at dkB02decX2_5 54 rfl
theorem dX10_thing_26 : decode cX10_thing 26 = .ok (.getfield 147, 3) := dk_at dkB02decX2_5 55 rfl
theorem dX10_thing_29 : decode cX10_thing 29 = .ok (.iload_n 1, 1) := dk_at dkB02decX2_5 56 rfl
theorem dX10_thing_30 : decode cX10_thing 30 = .ok (.aaload, 1) := dk_at dkB02decX2_5 57 rfl
theorem dX10_thing_31 : decode cX10_thing 31 = .ok (.astore 4, 2) := dk_at dkB02decX2_5 58 rfl
theorem dX10_thing_33 : decode cX10_thing 33 = .ok (.iload_n 3, 1) := dk_at dkB02decX2_5 59 rfl
noncomputable def dkL02decX2_6 : List (ByteArray × Nat × Instr × Nat) := [(cX10_thing, 34, (.ifCond .ne 11, 3)), (cX10_thing, 37, (.aload 4, 2)), (cX10_thing, 39, (.getfield 191, 3)), (cX10_thing, 42, (.iload_n 2, 1)), (cX10_thing, 43, (.iaload, 1)), (cX10_thing, 44, (.ireturn, 1)), (cX10_thing, 45, (.aload 4, 2)), (cX10_thing, 47, (.getfield 191, 3)), (cX10_thing, 50, (.iload_n 2, 1)), (cX10_thing, 51, (.iaload, 1)), (cX10_thing, 52, (.ifCond .ne 13, 3)), (cX10_thing, 55, (.aload 4, 2)), (cX10_thing, 57, (.getfield 194, 3)), (cX10_thing, 60, (.iload_n 2, 1)), (cX10_thing, 61, (.iaload, 1)), (cX10_thing, 62, (.goto 6, 3)), (cX10_thing, 65, (.sipush (-1012), 3)), (cX10_thing, 68, (.ireturn, 1)), (cX10_most, 0, (.iload_n 1, 1)), (cX10_most, 1, (.invokestatic 144, 3)), (cX10_most, 4, (.ifCond .eq 12, 3)), (cX10_most, 7, (.iload_n 2, 1)), (cX10_most, 8, (.iconst 1, 1)), (cX10_most, 9, (.iconst 4, 1)), (cX10_most, 10, (.invokestatic 69, 3)), (cX10_most, 13, (.ifCond .ne 5, 3)), (cX10_most, 16, (.iconst (-1), 1)), (cX10_most, 17, (.ireturn, 1)), (cX10_most, 18, (.aload_n 0, 1)), (cX10_most, 19, (.getfield 12, 3)), (cX10_most, 22, (.getfield 147, 3)), (cX10_most, 25, (.iload_n 1, 1)), (cX10_most, 26, (.aaload, 1)), (cX10_most, 27, (.getfield 197, 3)), (cX10_most, 30, (.istore_n 3, 1)), (cX10_most, 31, (.aload_n 0, 1)), (cX10_most, 32, (.getfield 12, 3)), (cX10_most, 35, (.getfield 147, 3)), (cX10_most, 38, (.iload_n 1, 1)), (cX10_most, 39, (.aaload, 1)), (cX10_most, 40, (.iload_n 2, 1)), (cX10_most, 41, (.putfield 197, 3)), (cX10_most, 44, (.aload_n 0, 1)), (cX10_most, 45, (.getfield 54, 3)), (cX10_most, 48, (.iload_n 1, 1)), (cX10_most, 49, (.iconst 0, 1)), (cX10_most, 50, (.bastore, 1)), (cX10_most, 51, (.iload_n 3, 1)), (cX10_most, 52, (.ireturn, 1)), (cX10_stretch, 0, (.aload_n 0, 1)), (cX10_stretch, 1, (.iload_n 1, 1)), (cX10_stretch, 2, (.iload_n 3, 1)), (cX10_stretch, 3, (.invokevirtual 170, 3)), (cX10_stretch, 6, (.ifCond .eq 28, 3)), (cX10_stretch, 9, (.aload_n 0, 1)), (cX10_stretch, 10, (.iload_n 1, 1)), (cX10_stretch, 11, (.iload 4, 2)), (cX10_stretch, 13, (.invokevirtual 170, 3)), (cX10_stretch, 16, (.ifCond .eq 18, 3)), (cX10_stretch, 19, (.iload_n 3, 1))]
theorem dkB02decX2_6 : dkL02decX2_6.all (fun q => decide (decode q.1 q.2.1 = .ok q.2.2)) = true := by decide +kernel
theorem dX10_thing_34 : decode cX10_thing 34 = .ok (.ifCond .ne 11, 3) := dk_at dkB02decX2_6 0 rfl
theorem dX10_thing_37 : decode cX10_thing 37 = .ok (.aload 4, 2) := dk_at dkB02decX2_6 1 rfl
theorem dX10_thing_39 : decode cX10_thing 39 = .ok (.getfield 191, 3) := dk_at dkB02decX2_6 2 rfl
theorem dX10_thing_42 : decode cX10_thing 42 = .ok (.iload_n 2, 1) := dk_at dkB02decX2_6 3 rfl
theorem dX10_thing_43 : decode cX10_thing 43 = .ok (.iaload, 1) := dk_at dkB02decX2_6 4 rfl
theorem dX10_thing_44 : decode cX10_thing 44 = .ok (.ireturn, 1) := dk_at dkB02decX2_6 5 rfl
theorem dX10_thing_45 : decode cX10_thing 45 = .ok (.aload 4, 2) := dk_at dkB02decX2_6 6 rfl
theorem dX10_thing_47 : decode cX10_thing 47 = .ok (.getfield 191, 3) := dk_at dkB02decX2_6 7 rfl
theorem dX10_thing_50 : decode cX10_thing 50 = .ok (.iload_n 2, 1) := dk_at dkB02decX2_6 8 rfl
theorem dX10_thing_51 : decode cX10_thing 51 = .ok (.iaload, 1) := dk_at dkB02decX2_6 9 rfl
theorem dX10_thing_52 : decode cX10_thing 52 = .ok (.ifCond .ne 13, 3) := dk_at dkB02decX2_6 10 rfl
theorem dX10_thing_55 : decode cX10_thing 55 = .ok (.aload 4, 2) := dk_at dkB02decX2_6 11 rfl
theorem dX10_thing_57 : decode cX10_thing 57 = .ok (.getfield 194, 3) := dk_at dkB02decX2_6 12 rfl
theorem dX10_thing_60 : decode cX10_thing 60 = .ok (.iload_n 2, 1) := dk_at dkB02decX2_6 13 rfl
theorem dX10_thing_61 : decode cX10_thing 61 = .ok (.iaload, 1) := dk_at dkB02decX2_6 14 rfl
theorem dX10_thing_62 : decode cX10_thing 62 = .ok (.goto 6, 3) := dk_at dkB02decX2_6 15 rfl
theorem dX10_thing_65 : decode cX10_thing 65 = .ok (.sipush (-1012), 3) := dk_at dkB02decX2_6 16 rfl
theorem dX10_thing_68 : decode cX10_thing 68 = .ok (.ireturn, 1) := dk_at dkB02decX2_6 17 rfl
theorem dX10_most_0 : decode cX10_most 0 = .ok (.iload_n 1, 1) := dk_at dkB02decX2_6 18 rfl
theorem dX10_most_1 : decode cX10_most 1 = .ok (.invokestatic 144, 3) := dk_at dkB02decX2_6 19 rfl
theorem dX10_most_4 : decode cX10_most 4 = .ok (.ifCond .eq 12, 3) := dk_at dkB02decX2_6 20 rfl
theorem dX10_most_7 : decode cX10_most 7 = .ok (.iload_n 2, 1) := dk_at dkB02decX2_6 21 rfl
theorem dX10_most_8 : decode cX10_most 8 = .ok (.iconst 1, 1) := dk_at dkB02decX2_6 22 rfl
theorem dX10_most_9 : decode cX10_most 9 = .ok (.iconst 4, 1) := dk_at dkB02decX2_6 23 rfl
theorem dX10_most_10 : decode cX10_most 10 = .ok (.invokestatic 69, 3) := dk_at dkB02decX2_6 24 rfl
theorem dX10_most_13 : decode cX10_most 13 = .ok (.ifCond .ne 5, 3) := dk_at dkB02decX2_6 25 rfl
theorem dX10_most_16 : decode cX10_most 16 = .ok (.iconst (-1), 1) := dk_at dkB02decX2_6 26 rfl
theorem dX10_most_17 : decode cX10_most 17 = .ok (.ireturn, 1) := dk_at dkB02decX2_6 27 rfl
theorem dX10_most_18 : decode cX10_most 18 = .ok (.aload_n 0, 1) := dk_at dkB02decX2_6 28 rfl
theorem dX10_most_19 : decode cX10_most 19 = .ok (.getfield 12, 3) := dk_at dkB02decX2_6 29 rfl
theorem dX10_most_22 : decode cX10_most 22 = .ok (.getfield 147, 3) := dk_at dkB02decX2_6 30 rfl
theorem dX10_most_25 : decode cX10_most 25 = .ok (.iload_n 1, 1) := dk_at dkB02decX2_6 31 rfl
theorem dX10_most_26 : decode cX10_most 26 = .ok (.aaload, 1) := dk_at dkB02decX2_6 32 rfl
theorem dX10_most_27 : decode cX10_most 27 = .ok (.getfield 197, 3) := dk_at dkB02decX2_6 33 rfl
theorem dX10_most_30 : decode cX10_most 30 = .ok (.istore_n 3, 1) := dk_at dkB02decX2_6 34 rfl
theorem dX10_most_31 : decode cX10_most 31 = .ok (.aload_n 0, 1) := dk_at dkB02decX2_6 35 rfl
theorem dX10_most_32 : decode cX10_most 32 = .ok (.getfield 12, 3) := dk_at dkB02decX2_6 36 rfl
theorem dX10_most_35 : decode cX10_most 35 = .ok (.getfield 147, 3) := dk_at dkB02decX2_6 37 rfl
theorem dX10_most_38 : decode cX10_most 38 = .ok (.iload_n 1, 1) := dk_at dkB02decX2_6 38 rfl
theorem dX10_most_39 : decode cX10_most 39 = .ok (.aaload, 1) := dk_at dkB02decX2_6 39 rfl
theorem dX10_most_40 : decode cX10_most 40 = .ok (.iload_n 2, 1) := dk_at dkB02decX2_6 40 rfl
theorem dX10_most_41 : decode cX10_most 41 = .ok (.putfield 197, 3) := dk_at dkB02decX2_6 41 rfl
theorem dX10_most_44 : decode cX10_most 44 = .ok (.aload_n 0, 1) := dk_at dkB02decX2_6 42 rfl
theorem dX10_most_45 : decode cX10_most 45 = .ok (.getfield 54, 3) := dk_at dkB02decX2_6 43 rfl
theorem dX10_most_48 : decode cX10_most 48 = .ok (.iload_n 1, 1) := dk_at dkB02decX2_6 44 rfl
theorem dX10_most_49 : decode cX10_most 49 = .ok (.iconst 0, 1) := dk_at dkB02decX2_6 45 rfl
theorem dX10_most_50 : decode cX10_most 50 = .ok (.bastore, 1) := dk_at dkB02decX2_6 46 rfl
theorem dX10_most_51 : decode cX10_most 51 = .ok (.iload_n 3, 1) := dk_at dkB02decX2_6 47 rfl
theorem dX10_most_52 : decode cX10_most 52 = .ok (.ireturn, 1) := dk_at dkB02decX2_6 48 rfl
theorem dX10_stretch_0 : decode cX10_stretch 0 = .ok (.aload_n 0, 1) := dk_at dkB02decX2_6 49 rfl
theorem dX10_stretch_1 : decode cX10_stretch 1 = .ok (.iload_n 1, 1) := dk_at dkB02decX2_6 50 rfl
theorem dX10_stretch_2 : decode cX10_stretch 2 = .ok (.iload_n 3, 1) := dk_at dkB02decX2_6 51 rfl
theorem dX10_stretch_3 : decode cX10_stretch 3 = .ok (.invokevirtual 170, 3) := dk_at dkB02decX2_6 52 rfl
theorem dX10_stretch_6 : decode cX10_stretch 6 = .ok (.ifCond .eq 28, 3) := dk_at dkB02decX2_6 53 rfl
theorem dX10_stretch_9 : decode cX10_stretch 9 = .ok (.aload_n 0, 1) := dk_at dkB02decX2_6 54 rfl
theorem dX10_stretch_10 : decode cX10_stretch 10 = .ok (.iload_n 1, 1) := dk_at dkB02decX2_6 55 rfl
theorem dX10_stretch_11 : decode cX10_stretch 11 = .ok (.iload 4, 2) := dk_at dkB02decX2_6 56 rfl
theorem dX10_stretch_13 : decode cX10_stretch 13 = .ok (.invokevirtual 170, 3) := dk_at dkB02decX2_6 57 rfl
theorem dX10_stretch_16 : decode cX10_stretch 16 = .ok (.ifCond .eq 18, 3) := dk_at dkB02decX2_6 58 rfl
theorem dX10_stretch_19 : decode cX10_stretch 19 = .ok (.iload_n 3, 1) := dk_at dkB02decX2_6 59 rfl
noncomputable def dkL02decX2_7 : List (ByteArray × Nat × Instr × Nat) := [(cX10_stretch, 20, (.iload 4, 2)), (cX10_stretch, 22, (.if_icmp .gt 12, 3)), (cX10_stretch, 25, (.iload_n 2, 1)), (cX10_stretch, 26, (.iload 5, 2)), (cX10_stretch, 28, (.invokestatic 200, 3)), (cX10_stretch, 31, (.ifCond .ne 5, 3)), (cX10_stretch, 34, (.iconst (-1), 1)), (cX10_stretch, 35, (.ireturn, 1)), (cX10_stretch, 36, (.aload_n 0, 1)), (cX10_stretch, 37, (.getfield 12, 3)), (cX10_stretch, 40, (.getfield 147, 3)), (cX10_stretch, 43, (.iload_n 1, 1)), (cX10_stretch, 44, (.aaload, 1)), (cX10_stretch, 45, (.astore 6, 2)), (cX10_stretch, 47, (.aload 6, 2)), (cX10_stretch, 49, (.iload_n 3, 1)), (cX10_stretch, 50, (.invokevirtual 177, 3)), (cX10_stretch, 53, (.ifCond .eq 13, 3)), (cX10_stretch, 56, (.aload 6, 2)), (cX10_stretch, 58, (.iload 4, 2)), (cX10_stretch, 60, (.invokevirtual 177, 3)), (cX10_stretch, 63, (.ifCond .ne 6, 3)), (cX10_stretch, 66, (.bipush (-12), 2)), (cX10_stretch, 68, (.ireturn, 1)), (cX10_stretch, 69, (.aload 6, 2)), (cX10_stretch, 71, (.getfield 203, 3)), (cX10_stretch, 74, (.bipush 6, 2)), (cX10_stretch, 76, (.if_icmp .ne 6, 3)), (cX10_stretch, 79, (.bipush (-3), 2)), (cX10_stretch, 81, (.ireturn, 1)), (cX10_stretch, 82, (.aload 6, 2)), (cX10_stretch, 84, (.iload_n 2, 1)), (cX10_stretch, 85, (.iload_n 3, 1)), (cX10_stretch, 86, (.iload 4, 2)), (cX10_stretch, 88, (.iload 5, 2)), (cX10_stretch, 90, (.invokevirtual 206, 3)), (cX10_stretch, 93, (.aload_n 0, 1)), (cX10_stretch, 94, (.getfield 54, 3)), (cX10_stretch, 97, (.iload_n 1, 1)), (cX10_stretch, 98, (.iconst 0, 1)), (cX10_stretch, 99, (.bastore, 1)), (cX10_stretch, 100, (.aload 6, 2)), (cX10_stretch, 102, (.getfield 203, 3)), (cX10_stretch, 105, (.ireturn, 1)), (cX10_fitsStretch, 0, (.iload_n 0, 1)), (cX10_fitsStretch, 1, (.ifCond .ne 13, 3)), (cX10_fitsStretch, 4, (.iload_n 1, 1)), (cX10_fitsStretch, 5, (.ifCond .ne 7, 3)), (cX10_fitsStretch, 8, (.iconst 1, 1)), (cX10_fitsStretch, 9, (.goto 4, 3)), (cX10_fitsStretch, 12, (.iconst 0, 1)), (cX10_fitsStretch, 13, (.ireturn, 1)), (cX10_fitsStretch, 14, (.iload_n 0, 1)), (cX10_fitsStretch, 15, (.iconst 1, 1)), (cX10_fitsStretch, 16, (.if_icmp .ne 12, 3)), (cX10_fitsStretch, 19, (.iload_n 1, 1)), (cX10_fitsStretch, 20, (.iconst 1, 1)), (cX10_fitsStretch, 21, (.iconst 4, 1)), (cX10_fitsStretch, 22, (.invokestatic 69, 3)), (cX10_fitsStretch, 25, (.goto 23, 3))]
theorem dkB02decX2_7 : dkL02decX2_7.all (fun q => decide (decode q.1 q.2.1 = .ok q.2.2)) = true := by decide +kernel
theorem dX10_stretch_20 : decode cX10_stretch 20 = .ok (.iload 4, 2) := dk_at dkB02decX2_7 0 rfl
theorem dX10_stretch_22 : decode cX10_stretch 22 = .ok (.if_icmp .gt 12, 3) := dk_at dkB02decX2_7 1 rfl
theorem dX10_stretch_25 : decode cX10_stretch 25 = .ok (.iload_n 2, 1) := dk_at dkB02decX2_7 2 rfl
theorem dX10_stretch_26 : decode cX10_stretch 26 = .ok (.iload 5, 2) := dk_at dkB02decX2_7 3 rfl
theorem dX10_stretch_28 : decode cX10_stretch 28 = .ok (.invokestatic 200, 3) := dk_at dkB02decX2_7 4 rfl
theorem dX10_stretch_31 : decode cX10_stretch 31 = .ok (.ifCond .ne 5, 3) := dk_at dkB02decX2_7 5 rfl
theorem dX10_stretch_34 : decode cX10_stretch 34 = .ok (.iconst (-1), 1) := dk_at dkB02decX2_7 6 rfl
theorem dX10_stretch_35 : decode cX10_stretch 35 = .ok (.ireturn, 1) := dk_at dkB02decX2_7 7 rfl
theorem dX10_stretch_36 : decode cX10_stretch 36 = .ok (.aload_n 0, 1) := dk_at dkB02decX2_7 8 rfl
theorem dX10_stretch_37 : decode cX10_stretch 37 = .ok (.getfield 12, 3) := dk_at dkB02decX2_7 9 rfl
theorem dX10_stretch_40 : decode cX10_stretch 40 = .ok (.getfield 147, 3) := dk_at dkB02decX2_7 10 rfl
theorem dX10_stretch_43 : decode cX10_stretch 43 = .ok (.iload_n 1, 1) := dk_at dkB02decX2_7 11 rfl
theorem dX10_stretch_44 : decode cX10_stretch 44 = .ok (.aaload, 1) := dk_at dkB02decX2_7 12 rfl
theorem dX10_stretch_45 : decode cX10_stretch 45 = .ok (.astore 6, 2) := dk_at dkB02decX2_7 13 rfl
theorem dX10_stretch_47 : decode cX10_stretch 47 = .ok (.aload 6, 2) := dk_at dkB02decX2_7 14 rfl
theorem dX10_stretch_49 : decode cX10_stretch 49 = .ok (.iload_n 3, 1) := dk_at dkB02decX2_7 15 rfl
theorem dX10_stretch_50 : decode cX10_stretch 50 = .ok (.invokevirtual 177, 3) := dk_at dkB02decX2_7 16 rfl
theorem dX10_stretch_53 : decode cX10_stretch 53 = .ok (.ifCond .eq 13, 3) := dk_at dkB02decX2_7 17 rfl
theorem dX10_stretch_56 : decode cX10_stretch 56 = .ok (.aload 6, 2) := dk_at dkB02decX2_7 18 rfl
theorem dX10_stretch_58 : decode cX10_stretch 58 = .ok (.iload 4, 2) := dk_at dkB02decX2_7 19 rfl
theorem dX10_stretch_60 : decode cX10_stretch 60 = .ok (.invokevirtual 177, 3) := dk_at dkB02decX2_7 20 rfl
theorem dX10_stretch_63 : decode cX10_stretch 63 = .ok (.ifCond .ne 6, 3) := dk_at dkB02decX2_7 21 rfl
theorem dX10_stretch_66 : decode cX10_stretch 66 = .ok (.bipush (-12), 2) := dk_at dkB02decX2_7 22 rfl
theorem dX10_stretch_68 : decode cX10_stretch 68 = .ok (.ireturn, 1) := dk_at dkB02decX2_7 23 rfl
theorem dX10_stretch_69 : decode cX10_stretch 69 = .ok (.aload 6, 2) := dk_at dkB02decX2_7 24 rfl
theorem dX10_stretch_71 : decode cX10_stretch 71 = .ok (.getfield 203, 3) := dk_at dkB02decX2_7 25 rfl
theorem dX10_stretch_74 : decode cX10_stretch 74 = .ok (.bipush 6, 2) := dk_at dkB02decX2_7 26 rfl
theorem dX10_stretch_76 : decode cX10_stretch 76 = .ok (.if_icmp .ne 6, 3) := dk_at dkB02decX2_7 27 rfl
theorem dX10_stretch_79 : decode cX10_stretch 79 = .ok (.bipush (-3), 2) := dk_at dkB02decX2_7 28 rfl
theorem dX10_stretch_81 : decode cX10_stretch 81 = .ok (.ireturn, 1) := dk_at dkB02decX2_7 29 rfl
theorem dX10_stretch_82 : decode cX10_stretch 82 = .ok (.aload 6, 2) := dk_at dkB02decX2_7 30 rfl
theorem dX10_stretch_84 : decode cX10_stretch 84 = .ok (.iload_n 2, 1) := dk_at dkB02decX2_7 31 rfl
theorem dX10_stretch_85 : decode cX10_stretch 85 = .ok (.iload_n 3, 1) := dk_at dkB02decX2_7 32 rfl
theorem dX10_stretch_86 : decode cX10_stretch 86 = .ok (.iload 4, 2) := dk_at dkB02decX2_7 33 rfl
theorem dX10_stretch_88 : decode cX10_stretch 88 = .ok (.iload 5, 2) := dk_at dkB02decX2_7 34 rfl
theorem dX10_stretch_90 : decode cX10_stretch 90 = .ok (.invokevirtual 206, 3) := dk_at dkB02decX2_7 35 rfl
theorem dX10_stretch_93 : decode cX10_stretch 93 = .ok (.aload_n 0, 1) := dk_at dkB02decX2_7 36 rfl
theorem dX10_stretch_94 : decode cX10_stretch 94 = .ok (.getfield 54, 3) := dk_at dkB02decX2_7 37 rfl
theorem dX10_stretch_97 : decode cX10_stretch 97 = .ok (.iload_n 1, 1) := dk_at dkB02decX2_7 38 rfl
theorem dX10_stretch_98 : decode cX10_stretch 98 = .ok (.iconst 0, 1) := dk_at dkB02decX2_7 39 rfl
theorem dX10_stretch_99 : decode cX10_stretch 99 = .ok (.bastore, 1) := dk_at dkB02decX2_7 40 rfl
theorem dX10_stretch_100 : decode cX10_stretch 100 = .ok (.aload 6, 2) := dk_at dkB02decX2_7 41 rfl
theorem dX10_stretch_102 : decode cX10_stretch 102 = .ok (.getfield 203, 3) := dk_at dkB02decX2_7 42 rfl
theorem dX10_stretch_105 : decode cX10_stretch 105 = .ok (.ireturn, 1) := dk_at dkB02decX2_7 43 rfl
theorem dX10_fitsStretch_0 : decode cX10_fitsStretch 0 = .ok (.iload_n 0, 1) := dk_at dkB02decX2_7 44 rfl
theorem dX10_fitsStretch_1 : decode cX10_fitsStretch 1 = .ok (.ifCond .ne 13, 3) := dk_at dkB02decX2_7 45 rfl
theorem dX10_fitsStretch_4 : decode cX10_fitsStretch 4 = .ok (.iload_n 1, 1) := dk_at dkB02decX2_7 46 rfl
theorem dX10_fitsStretch_5 : decode cX10_fitsStretch 5 = .ok (.ifCond .ne 7, 3) := dk_at dkB02decX2_7 47 rfl
theorem dX10_fitsStretch_8 : decode cX10_fitsStretch 8 = .ok (.iconst 1, 1) := dk_at dkB02decX2_7 48 rfl
theorem dX10_fitsStretch_9 : decode cX10_fitsStretch 9 = .ok (.goto 4, 3) := dk_at dkB02decX2_7 49 rfl
theorem dX10_fitsStretch_12 : decode cX10_fitsStretch 12 = .ok (.iconst 0, 1) := dk_at dkB02decX2_7 50 rfl
theorem dX10_fitsStretch_13 : decode cX10_fitsStretch 13 = .ok (.ireturn, 1) := dk_at dkB02decX2_7 51 rfl
theorem dX10_fitsStretch_14 : decode cX10_fitsStretch 14 = .ok (.iload_n 0, 1) := dk_at dkB02decX2_7 52 rfl
theorem dX10_fitsStretch_15 : decode cX10_fitsStretch 15 = .ok (.iconst 1, 1) := dk_at dkB02decX2_7 53 rfl
theorem dX10_fitsStretch_16 : decode cX10_fitsStretch 16 = .ok (.if_icmp .ne 12, 3) := dk_at dkB02decX2_7 54 rfl
theorem dX10_fitsStretch_19 : decode cX10_fitsStretch 19 = .ok (.iload_n 1, 1) := dk_at dkB02decX2_7 55 rfl
theorem dX10_fitsStretch_20 : decode cX10_fitsStretch 20 = .ok (.iconst 1, 1) := dk_at dkB02decX2_7 56 rfl
theorem dX10_fitsStretch_21 : decode cX10_fitsStretch 21 = .ok (.iconst 4, 1) := dk_at dkB02decX2_7 57 rfl
theorem dX10_fitsStretch_22 : decode cX10_fitsStretch 22 = .ok (.invokestatic 69, 3) := dk_at dkB02decX2_7 58 rfl
theorem dX10_fitsStretch_25 : decode cX10_fitsStretch 25 = .ok (.goto 23, 3) := dk_at dkB02decX2_7 59 rfl
noncomputable def dkL02decX2_8 : List (ByteArray × Nat × Instr × Nat) := [(cX10_fitsStretch, 28, (.iload_n 0, 1)), (cX10_fitsStretch, 29, (.iconst 2, 1)), (cX10_fitsStretch, 30, (.if_icmp .ne 17, 3)), (cX10_fitsStretch, 33, (.iload_n 1, 1)), (cX10_fitsStretch, 34, (.iconst 1, 1)), (cX10_fitsStretch, 35, (.bipush 20, 2)), (cX10_fitsStretch, 37, (.invokestatic 69, 3)), (cX10_fitsStretch, 40, (.ifCond .eq 7, 3)), (cX10_fitsStretch, 43, (.iconst 1, 1)), (cX10_fitsStretch, 44, (.goto 4, 3)), (cX10_fitsStretch, 47, (.iconst 0, 1)), (cX10_fitsStretch, 48, (.ireturn, 1)), (cX10_date, 0, (.aload_n 0, 1)), (cX10_date, 1, (.iload_n 1, 1)), (cX10_date, 2, (.iload_n 2, 1)), (cX10_date, 3, (.invokevirtual 170, 3)), (cX10_date, 6, (.ifCond .eq 34, 3)), (cX10_date, 9, (.iload_n 3, 1)), (cX10_date, 10, (.invokestatic 65, 3)), (cX10_date, 13, (.ifCond .eq 27, 3)), (cX10_date, 16, (.iload 4, 2)), (cX10_date, 18, (.invokestatic 65, 3)), (cX10_date, 21, (.ifCond .eq 19, 3)), (cX10_date, 24, (.iload_n 3, 1)), (cX10_date, 25, (.iload 4, 2)), (cX10_date, 27, (.if_icmp .gt 13, 3)), (cX10_date, 30, (.iload 5, 2)), (cX10_date, 32, (.iconst 0, 1)), (cX10_date, 33, (.iconst 1, 1)), (cX10_date, 34, (.invokestatic 69, 3)), (cX10_date, 37, (.ifCond .ne 5, 3)), (cX10_date, 40, (.iconst (-1), 1)), (cX10_date, 41, (.ireturn, 1)), (cX10_date, 42, (.aload_n 0, 1)), (cX10_date, 43, (.getfield 12, 3)), (cX10_date, 46, (.getfield 147, 3)), (cX10_date, 49, (.iload_n 1, 1)), (cX10_date, 50, (.aaload, 1)), (cX10_date, 51, (.iload_n 2, 1)), (cX10_date, 52, (.invokevirtual 177, 3)), (cX10_date, 55, (.ifCond .ne 6, 3)), (cX10_date, 58, (.bipush (-12), 2)), (cX10_date, 60, (.ireturn, 1)), (cX10_date, 61, (.aload_n 0, 1)), (cX10_date, 62, (.getfield 12, 3)), (cX10_date, 65, (.getfield 157, 3)), (cX10_date, 68, (.getfield 210, 3)), (cX10_date, 71, (.bipush 8, 2)), (cX10_date, 73, (.if_icmp .ne 6, 3)), (cX10_date, 76, (.bipush (-3), 2)), (cX10_date, 78, (.ireturn, 1)), (cX10_date, 79, (.aload_n 0, 1)), (cX10_date, 80, (.getfield 12, 3)), (cX10_date, 83, (.getfield 157, 3)), (cX10_date, 86, (.iload_n 1, 1)), (cX10_date, 87, (.iload_n 2, 1)), (cX10_date, 88, (.iload_n 3, 1)), (cX10_date, 89, (.iload 4, 2)), (cX10_date, 91, (.iload 5, 2)), (cX10_date, 93, (.invokevirtual 213, 3))]
theorem dkB02decX2_8 : dkL02decX2_8.all (fun q => decide (decode q.1 q.2.1 = .ok q.2.2)) = true := by decide +kernel
theorem dX10_fitsStretch_28 : decode cX10_fitsStretch 28 = .ok (.iload_n 0, 1) := dk_at dkB02decX2_8 0 rfl
theorem dX10_fitsStretch_29 : decode cX10_fitsStretch 29 = .ok (.iconst 2, 1) := dk_at dkB02decX2_8 1 rfl
theorem dX10_fitsStretch_30 : decode cX10_fitsStretch 30 = .ok (.if_icmp .ne 17, 3) := dk_at dkB02decX2_8 2 rfl
theorem dX10_fitsStretch_33 : decode cX10_fitsStretch 33 = .ok (.iload_n 1, 1) := dk_at dkB02decX2_8 3 rfl
theorem dX10_fitsStretch_34 : decode cX10_fitsStretch 34 = .ok (.iconst 1, 1) := dk_at dkB02decX2_8 4 rfl
theorem dX10_fitsStretch_35 : decode cX10_fitsStretch 35 = .ok (.bipush 20, 2) := dk_at dkB02decX2_8 5 rfl
theorem dX10_fitsStretch_37 : decode cX10_fitsStretch 37 = .ok (.invokestatic 69, 3) := dk_at dkB02decX2_8 6 rfl
theorem dX10_fitsStretch_40 : decode cX10_fitsStretch 40 = .ok (.ifCond .eq 7, 3) := dk_at dkB02decX2_8 7 rfl
theorem dX10_fitsStretch_43 : decode cX10_fitsStretch 43 = .ok (.iconst 1, 1) := dk_at dkB02decX2_8 8 rfl
theorem dX10_fitsStretch_44 : decode cX10_fitsStretch 44 = .ok (.goto 4, 3) := dk_at dkB02decX2_8 9 rfl
theorem dX10_fitsStretch_47 : decode cX10_fitsStretch 47 = .ok (.iconst 0, 1) := dk_at dkB02decX2_8 10 rfl
theorem dX10_fitsStretch_48 : decode cX10_fitsStretch 48 = .ok (.ireturn, 1) := dk_at dkB02decX2_8 11 rfl
theorem dX10_date_0 : decode cX10_date 0 = .ok (.aload_n 0, 1) := dk_at dkB02decX2_8 12 rfl
theorem dX10_date_1 : decode cX10_date 1 = .ok (.iload_n 1, 1) := dk_at dkB02decX2_8 13 rfl
theorem dX10_date_2 : decode cX10_date 2 = .ok (.iload_n 2, 1) := dk_at dkB02decX2_8 14 rfl
theorem dX10_date_3 : decode cX10_date 3 = .ok (.invokevirtual 170, 3) := dk_at dkB02decX2_8 15 rfl
theorem dX10_date_6 : decode cX10_date 6 = .ok (.ifCond .eq 34, 3) := dk_at dkB02decX2_8 16 rfl
theorem dX10_date_9 : decode cX10_date 9 = .ok (.iload_n 3, 1) := dk_at dkB02decX2_8 17 rfl
theorem dX10_date_10 : decode cX10_date 10 = .ok (.invokestatic 65, 3) := dk_at dkB02decX2_8 18 rfl
theorem dX10_date_13 : decode cX10_date 13 = .ok (.ifCond .eq 27, 3) := dk_at dkB02decX2_8 19 rfl
theorem dX10_date_16 : decode cX10_date 16 = .ok (.iload 4, 2) := dk_at dkB02decX2_8 20 rfl
theorem dX10_date_18 : decode cX10_date 18 = .ok (.invokestatic 65, 3) := dk_at dkB02decX2_8 21 rfl
theorem dX10_date_21 : decode cX10_date 21 = .ok (.ifCond .eq 19, 3) := dk_at dkB02decX2_8 22 rfl
theorem dX10_date_24 : decode cX10_date 24 = .ok (.iload_n 3, 1) := dk_at dkB02decX2_8 23 rfl
theorem dX10_date_25 : decode cX10_date 25 = .ok (.iload 4, 2) := dk_at dkB02decX2_8 24 rfl
theorem dX10_date_27 : decode cX10_date 27 = .ok (.if_icmp .gt 13, 3) := dk_at dkB02decX2_8 25 rfl
theorem dX10_date_30 : decode cX10_date 30 = .ok (.iload 5, 2) := dk_at dkB02decX2_8 26 rfl
theorem dX10_date_32 : decode cX10_date 32 = .ok (.iconst 0, 1) := dk_at dkB02decX2_8 27 rfl
theorem dX10_date_33 : decode cX10_date 33 = .ok (.iconst 1, 1) := dk_at dkB02decX2_8 28 rfl
theorem dX10_date_34 : decode cX10_date 34 = .ok (.invokestatic 69, 3) := dk_at dkB02decX2_8 29 rfl
theorem dX10_date_37 : decode cX10_date 37 = .ok (.ifCond .ne 5, 3) := dk_at dkB02decX2_8 30 rfl
theorem dX10_date_40 : decode cX10_date 40 = .ok (.iconst (-1), 1) := dk_at dkB02decX2_8 31 rfl
theorem dX10_date_41 : decode cX10_date 41 = .ok (.ireturn, 1) := dk_at dkB02decX2_8 32 rfl
theorem dX10_date_42 : decode cX10_date 42 = .ok (.aload_n 0, 1) := dk_at dkB02decX2_8 33 rfl
theorem dX10_date_43 : decode cX10_date 43 = .ok (.getfield 12, 3) := dk_at dkB02decX2_8 34 rfl
theorem dX10_date_46 : decode cX10_date 46 = .ok (.getfield 147, 3) := dk_at dkB02decX2_8 35 rfl
theorem dX10_date_49 : decode cX10_date 49 = .ok (.iload_n 1, 1) := dk_at dkB02decX2_8 36 rfl
theorem dX10_date_50 : decode cX10_date 50 = .ok (.aaload, 1) := dk_at dkB02decX2_8 37 rfl
theorem dX10_date_51 : decode cX10_date 51 = .ok (.iload_n 2, 1) := dk_at dkB02decX2_8 38 rfl
theorem dX10_date_52 : decode cX10_date 52 = .ok (.invokevirtual 177, 3) := dk_at dkB02decX2_8 39 rfl
theorem dX10_date_55 : decode cX10_date 55 = .ok (.ifCond .ne 6, 3) := dk_at dkB02decX2_8 40 rfl
theorem dX10_date_58 : decode cX10_date 58 = .ok (.bipush (-12), 2) := dk_at dkB02decX2_8 41 rfl
theorem dX10_date_60 : decode cX10_date 60 = .ok (.ireturn, 1) := dk_at dkB02decX2_8 42 rfl
theorem dX10_date_61 : decode cX10_date 61 = .ok (.aload_n 0, 1) := dk_at dkB02decX2_8 43 rfl
theorem dX10_date_62 : decode cX10_date 62 = .ok (.getfield 12, 3) := dk_at dkB02decX2_8 44 rfl
theorem dX10_date_65 : decode cX10_date 65 = .ok (.getfield 157, 3) := dk_at dkB02decX2_8 45 rfl
theorem dX10_date_68 : decode cX10_date 68 = .ok (.getfield 210, 3) := dk_at dkB02decX2_8 46 rfl
theorem dX10_date_71 : decode cX10_date 71 = .ok (.bipush 8, 2) := dk_at dkB02decX2_8 47 rfl
theorem dX10_date_73 : decode cX10_date 73 = .ok (.if_icmp .ne 6, 3) := dk_at dkB02decX2_8 48 rfl
theorem dX10_date_76 : decode cX10_date 76 = .ok (.bipush (-3), 2) := dk_at dkB02decX2_8 49 rfl
theorem dX10_date_78 : decode cX10_date 78 = .ok (.ireturn, 1) := dk_at dkB02decX2_8 50 rfl
theorem dX10_date_79 : decode cX10_date 79 = .ok (.aload_n 0, 1) := dk_at dkB02decX2_8 51 rfl
theorem dX10_date_80 : decode cX10_date 80 = .ok (.getfield 12, 3) := dk_at dkB02decX2_8 52 rfl
theorem dX10_date_83 : decode cX10_date 83 = .ok (.getfield 157, 3) := dk_at dkB02decX2_8 53 rfl
theorem dX10_date_86 : decode cX10_date 86 = .ok (.iload_n 1, 1) := dk_at dkB02decX2_8 54 rfl
theorem dX10_date_87 : decode cX10_date 87 = .ok (.iload_n 2, 1) := dk_at dkB02decX2_8 55 rfl
theorem dX10_date_88 : decode cX10_date 88 = .ok (.iload_n 3, 1) := dk_at dkB02decX2_8 56 rfl
theorem dX10_date_89 : decode cX10_date 89 = .ok (.iload 4, 2) := dk_at dkB02decX2_8 57 rfl
theorem dX10_date_91 : decode cX10_date 91 = .ok (.iload 5, 2) := dk_at dkB02decX2_8 58 rfl
theorem dX10_date_93 : decode cX10_date 93 = .ok (.invokevirtual 213, 3) := dk_at dkB02decX2_8 59 rfl
noncomputable def dkL02decX2_9 : List (ByteArray × Nat × Instr × Nat) := [(cX10_date, 96, (.aload_n 0, 1)), (cX10_date, 97, (.getfield 54, 3)), (cX10_date, 100, (.iload_n 1, 1)), (cX10_date, 101, (.iconst 0, 1)), (cX10_date, 102, (.bastore, 1)), (cX10_date, 103, (.aload_n 0, 1)), (cX10_date, 104, (.getfield 12, 3)), (cX10_date, 107, (.getfield 157, 3)), (cX10_date, 110, (.getfield 210, 3)), (cX10_date, 113, (.iconst 1, 1)), (cX10_date, 114, (.isub, 1)), (cX10_date, 115, (.ireturn, 1)), (cX10_throwOut, 0, (.iload_n 1, 1)), (cX10_throwOut, 1, (.iconst 0, 1)), (cX10_throwOut, 2, (.aload_n 0, 1)), (cX10_throwOut, 3, (.getfield 12, 3)), (cX10_throwOut, 6, (.getfield 157, 3)), (cX10_throwOut, 9, (.getfield 210, 3)), (cX10_throwOut, 12, (.iconst 1, 1)), (cX10_throwOut, 13, (.isub, 1)), (cX10_throwOut, 14, (.invokestatic 69, 3)), (cX10_throwOut, 17, (.ifCond .eq 13, 3)), (cX10_throwOut, 20, (.iload_n 2, 1)), (cX10_throwOut, 21, (.iconst 0, 1)), (cX10_throwOut, 22, (.bipush 9, 2)), (cX10_throwOut, 24, (.invokestatic 69, 3)), (cX10_throwOut, 27, (.ifCond .ne 5, 3)), (cX10_throwOut, 30, (.iconst (-1), 1)), (cX10_throwOut, 31, (.ireturn, 1)), (cX10_throwOut, 32, (.aload_n 0, 1)), (cX10_throwOut, 33, (.getfield 12, 3)), (cX10_throwOut, 36, (.getfield 157, 3)), (cX10_throwOut, 39, (.getfield 216, 3)), (cX10_throwOut, 42, (.iload_n 1, 1)), (cX10_throwOut, 43, (.iaload, 1)), (cX10_throwOut, 44, (.istore_n 3, 1)), (cX10_throwOut, 45, (.aload_n 0, 1)), (cX10_throwOut, 46, (.getfield 12, 3)), (cX10_throwOut, 49, (.getfield 157, 3)), (cX10_throwOut, 52, (.getfield 216, 3)), (cX10_throwOut, 55, (.iload_n 1, 1)), (cX10_throwOut, 56, (.iload_n 2, 1)), (cX10_throwOut, 57, (.iastore, 1)), (cX10_throwOut, 58, (.aload_n 0, 1)), (cX10_throwOut, 59, (.getfield 54, 3)), (cX10_throwOut, 62, (.aload_n 0, 1)), (cX10_throwOut, 63, (.getfield 12, 3)), (cX10_throwOut, 66, (.getfield 157, 3)), (cX10_throwOut, 69, (.getfield 219, 3)), (cX10_throwOut, 72, (.iload_n 1, 1)), (cX10_throwOut, 73, (.iaload, 1)), (cX10_throwOut, 74, (.iconst 0, 1)), (cX10_throwOut, 75, (.bastore, 1)), (cX10_throwOut, 76, (.iload_n 3, 1)), (cX10_throwOut, 77, (.ireturn, 1)), (cX10_count, 0, (.iload_n 1, 1)), (cX10_count, 1, (.tableswitch 137 0 7 #[47, 58, 69, 77, 85, 98, 111, 124], 47)), (cX10_count, 48, (.aload_n 0, 1)), (cX10_count, 49, (.getfield 12, 3)), (cX10_count, 52, (.getfield 157, 3))]
theorem dkB02decX2_9 : dkL02decX2_9.all (fun q => decide (decode q.1 q.2.1 = .ok q.2.2)) = true := by decide +kernel
theorem dX10_date_96 : decode cX10_date 96 = .ok (.aload_n 0, 1) := dk_at dkB02decX2_9 0 rfl
theorem dX10_date_97 : decode cX10_date 97 = .ok (.getfield 54, 3) := dk_at dkB02decX2_9 1 rfl
theorem dX10_date_100 : decode cX10_date 100 = .ok (.iload_n 1, 1) := dk_at dkB02decX2_9 2 rfl
theorem dX10_date_101 : decode cX10_date 101 = .ok (.iconst 0, 1) := dk_at dkB02decX2_9 3 rfl
theorem dX10_date_102 : decode cX10_date 102 = .ok (.bastore, 1) := dk_at dkB02decX2_9 4 rfl
theorem dX10_date_103 : decode cX10_date 103 = .ok (.aload_n 0, 1) := dk_at dkB02decX2_9 5 rfl
theorem dX10_date_104 : decode cX10_date 104 = .ok (.getfield 12, 3) := dk_at dkB02decX2_9 6 rfl
theorem dX10_date_107 : decode cX10_date 107 = .ok (.getfield 157, 3) := dk_at dkB02decX2_9 7 rfl
theorem dX10_date_110 : decode cX10_date 110 = .ok (.getfield 210, 3) := dk_at dkB02decX2_9 8 rfl
theorem dX10_date_113 : decode cX10_date 113 = .ok (.iconst 1, 1) := dk_at dkB02decX2_9 9 rfl
theorem dX10_date_114 : decode cX10_date 114 = .ok (.isub, 1) := dk_at dkB02decX2_9 10 rfl
theorem dX10_date_115 : decode cX10_date 115 = .ok (.ireturn, 1) := dk_at dkB02decX2_9 11 rfl
theorem dX10_throwOut_0 : decode cX10_throwOut 0 = .ok (.iload_n 1, 1) := dk_at dkB02decX2_9 12 rfl
theorem dX10_throwOut_1 : decode cX10_throwOut 1 = .ok (.iconst 0, 1) := dk_at dkB02decX2_9 13 rfl
theorem dX10_throwOut_2 : decode cX10_throwOut 2 = .ok (.aload_n 0, 1) := dk_at dkB02decX2_9 14 rfl
theorem dX10_throwOut_3 : decode cX10_throwOut 3 = .ok (.getfield 12, 3) := dk_at dkB02decX2_9 15 rfl
theorem dX10_throwOut_6 : decode cX10_throwOut 6 = .ok (.getfield 157, 3) := dk_at dkB02decX2_9 16 rfl
theorem dX10_throwOut_9 : decode cX10_throwOut 9 = .ok (.getfield 210, 3) := dk_at dkB02decX2_9 17 rfl
theorem dX10_throwOut_12 : decode cX10_throwOut 12 = .ok (.iconst 1, 1) := dk_at dkB02decX2_9 18 rfl
theorem dX10_throwOut_13 : decode cX10_throwOut 13 = .ok (.isub, 1) := dk_at dkB02decX2_9 19 rfl
theorem dX10_throwOut_14 : decode cX10_throwOut 14 = .ok (.invokestatic 69, 3) := dk_at dkB02decX2_9 20 rfl
theorem dX10_throwOut_17 : decode cX10_throwOut 17 = .ok (.ifCond .eq 13, 3) := dk_at dkB02decX2_9 21 rfl
theorem dX10_throwOut_20 : decode cX10_throwOut 20 = .ok (.iload_n 2, 1) := dk_at dkB02decX2_9 22 rfl
theorem dX10_throwOut_21 : decode cX10_throwOut 21 = .ok (.iconst 0, 1) := dk_at dkB02decX2_9 23 rfl
theorem dX10_throwOut_22 : decode cX10_throwOut 22 = .ok (.bipush 9, 2) := dk_at dkB02decX2_9 24 rfl
theorem dX10_throwOut_24 : decode cX10_throwOut 24 = .ok (.invokestatic 69, 3) := dk_at dkB02decX2_9 25 rfl
theorem dX10_throwOut_27 : decode cX10_throwOut 27 = .ok (.ifCond .ne 5, 3) := dk_at dkB02decX2_9 26 rfl
theorem dX10_throwOut_30 : decode cX10_throwOut 30 = .ok (.iconst (-1), 1) := dk_at dkB02decX2_9 27 rfl
theorem dX10_throwOut_31 : decode cX10_throwOut 31 = .ok (.ireturn, 1) := dk_at dkB02decX2_9 28 rfl
theorem dX10_throwOut_32 : decode cX10_throwOut 32 = .ok (.aload_n 0, 1) := dk_at dkB02decX2_9 29 rfl
theorem dX10_throwOut_33 : decode cX10_throwOut 33 = .ok (.getfield 12, 3) := dk_at dkB02decX2_9 30 rfl
theorem dX10_throwOut_36 : decode cX10_throwOut 36 = .ok (.getfield 157, 3) := dk_at dkB02decX2_9 31 rfl
theorem dX10_throwOut_39 : decode cX10_throwOut 39 = .ok (.getfield 216, 3) := dk_at dkB02decX2_9 32 rfl
theorem dX10_throwOut_42 : decode cX10_throwOut 42 = .ok (.iload_n 1, 1) := dk_at dkB02decX2_9 33 rfl
theorem dX10_throwOut_43 : decode cX10_throwOut 43 = .ok (.iaload, 1) := dk_at dkB02decX2_9 34 rfl
theorem dX10_throwOut_44 : decode cX10_throwOut 44 = .ok (.istore_n 3, 1) := dk_at dkB02decX2_9 35 rfl
theorem dX10_throwOut_45 : decode cX10_throwOut 45 = .ok (.aload_n 0, 1) := dk_at dkB02decX2_9 36 rfl
theorem dX10_throwOut_46 : decode cX10_throwOut 46 = .ok (.getfield 12, 3) := dk_at dkB02decX2_9 37 rfl
theorem dX10_throwOut_49 : decode cX10_throwOut 49 = .ok (.getfield 157, 3) := dk_at dkB02decX2_9 38 rfl
theorem dX10_throwOut_52 : decode cX10_throwOut 52 = .ok (.getfield 216, 3) := dk_at dkB02decX2_9 39 rfl
theorem dX10_throwOut_55 : decode cX10_throwOut 55 = .ok (.iload_n 1, 1) := dk_at dkB02decX2_9 40 rfl
theorem dX10_throwOut_56 : decode cX10_throwOut 56 = .ok (.iload_n 2, 1) := dk_at dkB02decX2_9 41 rfl
theorem dX10_throwOut_57 : decode cX10_throwOut 57 = .ok (.iastore, 1) := dk_at dkB02decX2_9 42 rfl
theorem dX10_throwOut_58 : decode cX10_throwOut 58 = .ok (.aload_n 0, 1) := dk_at dkB02decX2_9 43 rfl
theorem dX10_throwOut_59 : decode cX10_throwOut 59 = .ok (.getfield 54, 3) := dk_at dkB02decX2_9 44 rfl
theorem dX10_throwOut_62 : decode cX10_throwOut 62 = .ok (.aload_n 0, 1) := dk_at dkB02decX2_9 45 rfl
theorem dX10_throwOut_63 : decode cX10_throwOut 63 = .ok (.getfield 12, 3) := dk_at dkB02decX2_9 46 rfl
theorem dX10_throwOut_66 : decode cX10_throwOut 66 = .ok (.getfield 157, 3) := dk_at dkB02decX2_9 47 rfl
theorem dX10_throwOut_69 : decode cX10_throwOut 69 = .ok (.getfield 219, 3) := dk_at dkB02decX2_9 48 rfl
theorem dX10_throwOut_72 : decode cX10_throwOut 72 = .ok (.iload_n 1, 1) := dk_at dkB02decX2_9 49 rfl
theorem dX10_throwOut_73 : decode cX10_throwOut 73 = .ok (.iaload, 1) := dk_at dkB02decX2_9 50 rfl
theorem dX10_throwOut_74 : decode cX10_throwOut 74 = .ok (.iconst 0, 1) := dk_at dkB02decX2_9 51 rfl
theorem dX10_throwOut_75 : decode cX10_throwOut 75 = .ok (.bastore, 1) := dk_at dkB02decX2_9 52 rfl
theorem dX10_throwOut_76 : decode cX10_throwOut 76 = .ok (.iload_n 3, 1) := dk_at dkB02decX2_9 53 rfl
theorem dX10_throwOut_77 : decode cX10_throwOut 77 = .ok (.ireturn, 1) := dk_at dkB02decX2_9 54 rfl
theorem dX10_count_0 : decode cX10_count 0 = .ok (.iload_n 1, 1) := dk_at dkB02decX2_9 55 rfl
theorem dX10_count_1 : decode cX10_count 1 = .ok (.tableswitch 137 0 7 #[47, 58, 69, 77, 85, 98, 111, 124], 47) := dk_at dkB02decX2_9 56 rfl
theorem dX10_count_48 : decode cX10_count 48 = .ok (.aload_n 0, 1) := dk_at dkB02decX2_9 57 rfl
theorem dX10_count_49 : decode cX10_count 49 = .ok (.getfield 12, 3) := dk_at dkB02decX2_9 58 rfl
theorem dX10_count_52 : decode cX10_count 52 = .ok (.getfield 157, 3) := dk_at dkB02decX2_9 59 rfl
noncomputable def dkL02decX2_10 : List (ByteArray × Nat × Instr × Nat) := [(cX10_count, 55, (.getfield 210, 3)), (cX10_count, 58, (.ireturn, 1)), (cX10_count, 59, (.aload_n 0, 1)), (cX10_count, 60, (.getfield 12, 3)), (cX10_count, 63, (.getfield 157, 3)), (cX10_count, 66, (.invokevirtual 221, 3)), (cX10_count, 69, (.ireturn, 1)), (cX10_count, 70, (.aload_n 0, 1)), (cX10_count, 71, (.getfield 12, 3)), (cX10_count, 74, (.getfield 225, 3)), (cX10_count, 77, (.ireturn, 1)), (cX10_count, 78, (.aload_n 0, 1)), (cX10_count, 79, (.getfield 12, 3)), (cX10_count, 82, (.getfield 228, 3)), (cX10_count, 85, (.ireturn, 1)), (cX10_count, 86, (.aload_n 0, 1)), (cX10_count, 87, (.getfield 12, 3)), (cX10_count, 90, (.getfield 147, 3)), (cX10_count, 93, (.iconst 0, 1)), (cX10_count, 94, (.aaload, 1)), (cX10_count, 95, (.getfield 167, 3)), (cX10_count, 98, (.ireturn, 1)), (cX10_count, 99, (.aload_n 0, 1)), (cX10_count, 100, (.getfield 12, 3)), (cX10_count, 103, (.getfield 147, 3)), (cX10_count, 106, (.iconst 1, 1)), (cX10_count, 107, (.aaload, 1)), (cX10_count, 108, (.getfield 167, 3)), (cX10_count, 111, (.ireturn, 1)), (cX10_count, 112, (.aload_n 0, 1)), (cX10_count, 113, (.getfield 12, 3)), (cX10_count, 116, (.getfield 147, 3)), (cX10_count, 119, (.iconst 0, 1)), (cX10_count, 120, (.aaload, 1)), (cX10_count, 121, (.invokevirtual 231, 3)), (cX10_count, 124, (.ireturn, 1)), (cX10_count, 125, (.aload_n 0, 1)), (cX10_count, 126, (.getfield 12, 3)), (cX10_count, 129, (.getfield 147, 3)), (cX10_count, 132, (.iconst 1, 1)), (cX10_count, 133, (.aaload, 1)), (cX10_count, 134, (.invokevirtual 231, 3)), (cX10_count, 137, (.ireturn, 1)), (cX10_count, 138, (.iconst (-1), 1)), (cX10_count, 139, (.ireturn, 1)), (cX10_ways, 0, (.iload_n 1, 1)), (cX10_ways, 1, (.invokestatic 144, 3)), (cX10_ways, 4, (.ifCond .ne 7, 3)), (cX10_ways, 7, (.ldc2_w 234, 3)), (cX10_ways, 10, (.lreturn, 1)), (cX10_ways, 11, (.aload_n 0, 1)), (cX10_ways, 12, (.getfield 12, 3)), (cX10_ways, 15, (.getfield 147, 3)), (cX10_ways, 18, (.iload_n 1, 1)), (cX10_ways, 19, (.aaload, 1)), (cX10_ways, 20, (.invokevirtual 231, 3)), (cX10_ways, 23, (.ifCond .ne 9, 3)), (cX10_ways, 26, (.ldc2_w 236, 3)), (cX10_ways, 29, (.goto 11, 3)), (cX10_ways, 32, (.aload_n 0, 1))]
theorem dkB02decX2_10 : dkL02decX2_10.all (fun q => decide (decode q.1 q.2.1 = .ok q.2.2)) = true := by decide +kernel
theorem dX10_count_55 : decode cX10_count 55 = .ok (.getfield 210, 3) := dk_at dkB02decX2_10 0 rfl
theorem dX10_count_58 : decode cX10_count 58 = .ok (.ireturn, 1) := dk_at dkB02decX2_10 1 rfl
theorem dX10_count_59 : decode cX10_count 59 = .ok (.aload_n 0, 1) := dk_at dkB02decX2_10 2 rfl
theorem dX10_count_60 : decode cX10_count 60 = .ok (.getfield 12, 3) := dk_at dkB02decX2_10 3 rfl
theorem dX10_count_63 : decode cX10_count 63 = .ok (.getfield 157, 3) := dk_at dkB02decX2_10 4 rfl
theorem dX10_count_66 : decode cX10_count 66 = .ok (.invokevirtual 221, 3) := dk_at dkB02decX2_10 5 rfl
theorem dX10_count_69 : decode cX10_count 69 = .ok (.ireturn, 1) := dk_at dkB02decX2_10 6 rfl
theorem dX10_count_70 : decode cX10_count 70 = .ok (.aload_n 0, 1) := dk_at dkB02decX2_10 7 rfl
theorem dX10_count_71 : decode cX10_count 71 = .ok (.getfield 12, 3) := dk_at dkB02decX2_10 8 rfl
theorem dX10_count_74 : decode cX10_count 74 = .ok (.getfield 225, 3) := dk_at dkB02decX2_10 9 rfl
theorem dX10_count_77 : decode cX10_count 77 = .ok (.ireturn, 1) := dk_at dkB02decX2_10 10 rfl
theorem dX10_count_78 : decode cX10_count 78 = .ok (.aload_n 0, 1) := dk_at dkB02decX2_10 11 rfl
theorem dX10_count_79 : decode cX10_count 79 = .ok (.getfield 12, 3) := dk_at dkB02decX2_10 12 rfl
theorem dX10_count_82 : decode cX10_count 82 = .ok (.getfield 228, 3) := dk_at dkB02decX2_10 13 rfl
theorem dX10_count_85 : decode cX10_count 85 = .ok (.ireturn, 1) := dk_at dkB02decX2_10 14 rfl
theorem dX10_count_86 : decode cX10_count 86 = .ok (.aload_n 0, 1) := dk_at dkB02decX2_10 15 rfl
theorem dX10_count_87 : decode cX10_count 87 = .ok (.getfield 12, 3) := dk_at dkB02decX2_10 16 rfl
theorem dX10_count_90 : decode cX10_count 90 = .ok (.getfield 147, 3) := dk_at dkB02decX2_10 17 rfl
theorem dX10_count_93 : decode cX10_count 93 = .ok (.iconst 0, 1) := dk_at dkB02decX2_10 18 rfl
theorem dX10_count_94 : decode cX10_count 94 = .ok (.aaload, 1) := dk_at dkB02decX2_10 19 rfl
theorem dX10_count_95 : decode cX10_count 95 = .ok (.getfield 167, 3) := dk_at dkB02decX2_10 20 rfl
theorem dX10_count_98 : decode cX10_count 98 = .ok (.ireturn, 1) := dk_at dkB02decX2_10 21 rfl
theorem dX10_count_99 : decode cX10_count 99 = .ok (.aload_n 0, 1) := dk_at dkB02decX2_10 22 rfl
theorem dX10_count_100 : decode cX10_count 100 = .ok (.getfield 12, 3) := dk_at dkB02decX2_10 23 rfl
theorem dX10_count_103 : decode cX10_count 103 = .ok (.getfield 147, 3) := dk_at dkB02decX2_10 24 rfl
theorem dX10_count_106 : decode cX10_count 106 = .ok (.iconst 1, 1) := dk_at dkB02decX2_10 25 rfl
theorem dX10_count_107 : decode cX10_count 107 = .ok (.aaload, 1) := dk_at dkB02decX2_10 26 rfl
theorem dX10_count_108 : decode cX10_count 108 = .ok (.getfield 167, 3) := dk_at dkB02decX2_10 27 rfl
theorem dX10_count_111 : decode cX10_count 111 = .ok (.ireturn, 1) := dk_at dkB02decX2_10 28 rfl
theorem dX10_count_112 : decode cX10_count 112 = .ok (.aload_n 0, 1) := dk_at dkB02decX2_10 29 rfl
theorem dX10_count_113 : decode cX10_count 113 = .ok (.getfield 12, 3) := dk_at dkB02decX2_10 30 rfl
theorem dX10_count_116 : decode cX10_count 116 = .ok (.getfield 147, 3) := dk_at dkB02decX2_10 31 rfl
theorem dX10_count_119 : decode cX10_count 119 = .ok (.iconst 0, 1) := dk_at dkB02decX2_10 32 rfl
theorem dX10_count_120 : decode cX10_count 120 = .ok (.aaload, 1) := dk_at dkB02decX2_10 33 rfl
theorem dX10_count_121 : decode cX10_count 121 = .ok (.invokevirtual 231, 3) := dk_at dkB02decX2_10 34 rfl
theorem dX10_count_124 : decode cX10_count 124 = .ok (.ireturn, 1) := dk_at dkB02decX2_10 35 rfl
theorem dX10_count_125 : decode cX10_count 125 = .ok (.aload_n 0, 1) := dk_at dkB02decX2_10 36 rfl
theorem dX10_count_126 : decode cX10_count 126 = .ok (.getfield 12, 3) := dk_at dkB02decX2_10 37 rfl
theorem dX10_count_129 : decode cX10_count 129 = .ok (.getfield 147, 3) := dk_at dkB02decX2_10 38 rfl
theorem dX10_count_132 : decode cX10_count 132 = .ok (.iconst 1, 1) := dk_at dkB02decX2_10 39 rfl
theorem dX10_count_133 : decode cX10_count 133 = .ok (.aaload, 1) := dk_at dkB02decX2_10 40 rfl
theorem dX10_count_134 : decode cX10_count 134 = .ok (.invokevirtual 231, 3) := dk_at dkB02decX2_10 41 rfl
theorem dX10_count_137 : decode cX10_count 137 = .ok (.ireturn, 1) := dk_at dkB02decX2_10 42 rfl
theorem dX10_count_138 : decode cX10_count 138 = .ok (.iconst (-1), 1) := dk_at dkB02decX2_10 43 rfl
theorem dX10_count_139 : decode cX10_count 139 = .ok (.ireturn, 1) := dk_at dkB02decX2_10 44 rfl
theorem dX10_ways_0 : decode cX10_ways 0 = .ok (.iload_n 1, 1) := dk_at dkB02decX2_10 45 rfl
theorem dX10_ways_1 : decode cX10_ways 1 = .ok (.invokestatic 144, 3) := dk_at dkB02decX2_10 46 rfl
theorem dX10_ways_4 : decode cX10_ways 4 = .ok (.ifCond .ne 7, 3) := dk_at dkB02decX2_10 47 rfl
theorem dX10_ways_7 : decode cX10_ways 7 = .ok (.ldc2_w 234, 3) := dk_at dkB02decX2_10 48 rfl
theorem dX10_ways_10 : decode cX10_ways 10 = .ok (.lreturn, 1) := dk_at dkB02decX2_10 49 rfl
theorem dX10_ways_11 : decode cX10_ways 11 = .ok (.aload_n 0, 1) := dk_at dkB02decX2_10 50 rfl
theorem dX10_ways_12 : decode cX10_ways 12 = .ok (.getfield 12, 3) := dk_at dkB02decX2_10 51 rfl
theorem dX10_ways_15 : decode cX10_ways 15 = .ok (.getfield 147, 3) := dk_at dkB02decX2_10 52 rfl
theorem dX10_ways_18 : decode cX10_ways 18 = .ok (.iload_n 1, 1) := dk_at dkB02decX2_10 53 rfl
theorem dX10_ways_19 : decode cX10_ways 19 = .ok (.aaload, 1) := dk_at dkB02decX2_10 54 rfl
theorem dX10_ways_20 : decode cX10_ways 20 = .ok (.invokevirtual 231, 3) := dk_at dkB02decX2_10 55 rfl
theorem dX10_ways_23 : decode cX10_ways 23 = .ok (.ifCond .ne 9, 3) := dk_at dkB02decX2_10 56 rfl
theorem dX10_ways_26 : decode cX10_ways 26 = .ok (.ldc2_w 236, 3) := dk_at dkB02decX2_10 57 rfl
theorem dX10_ways_29 : decode cX10_ways 29 = .ok (.goto 11, 3) := dk_at dkB02decX2_10 58 rfl
theorem dX10_ways_32 : decode cX10_ways 32 = .ok (.aload_n 0, 1) := dk_at dkB02decX2_10 59 rfl
noncomputable def dkL02decX2_11 : List (ByteArray × Nat × Instr × Nat) := [(cX10_ways, 33, (.iload_n 1, 1)), (cX10_ways, 34, (.invokevirtual 238, 3)), (cX10_ways, 37, (.getfield 242, 3)), (cX10_ways, 40, (.lreturn, 1)), (cX10_ends, 0, (.aload_n 0, 1)), (cX10_ends, 1, (.iload_n 1, 1)), (cX10_ends, 2, (.iload_n 2, 1)), (cX10_ends, 3, (.invokevirtual 170, 3)), (cX10_ends, 6, (.ifCond .eq 12, 3)), (cX10_ends, 9, (.iload_n 3, 1)), (cX10_ends, 10, (.iconst 0, 1)), (cX10_ends, 11, (.iconst 1, 1)), (cX10_ends, 12, (.invokestatic 69, 3)), (cX10_ends, 15, (.ifCond .ne 5, 3)), (cX10_ends, 18, (.iconst (-1), 1)), (cX10_ends, 19, (.ireturn, 1)), (cX10_ends, 20, (.aload_n 0, 1)), (cX10_ends, 21, (.getfield 12, 3)), (cX10_ends, 24, (.getfield 147, 3)), (cX10_ends, 27, (.iload_n 1, 1)), (cX10_ends, 28, (.aaload, 1)), (cX10_ends, 29, (.iload_n 2, 1)), (cX10_ends, 30, (.invokevirtual 177, 3)), (cX10_ends, 33, (.ifCond .ne 6, 3)), (cX10_ends, 36, (.bipush (-12), 2)), (cX10_ends, 38, (.ireturn, 1)), (cX10_ends, 39, (.aload_n 0, 1)), (cX10_ends, 40, (.iload_n 1, 1)), (cX10_ends, 41, (.invokevirtual 238, 3)), (cX10_ends, 44, (.astore 4, 2)), (cX10_ends, 46, (.aload 4, 2)), (cX10_ends, 48, (.getfield 242, 3)), (cX10_ends, 51, (.lconst 0, 1)), (cX10_ends, 52, (.lcmp, 1)), (cX10_ends, 53, (.ifCond .ne 8, 3)), (cX10_ends, 56, (.bipush (-4), 2)), (cX10_ends, 58, (.goto 16, 3)), (cX10_ends, 61, (.aload 4, 2)), (cX10_ends, 63, (.aload 4, 2)), (cX10_ends, 65, (.getfield 246, 3)), (cX10_ends, 68, (.iload_n 2, 1)), (cX10_ends, 69, (.iaload, 1)), (cX10_ends, 70, (.iload_n 3, 1)), (cX10_ends, 71, (.invokevirtual 249, 3)), (cX10_ends, 74, (.ireturn, 1)), (cX10_odds, 0, (.aload_n 0, 1)), (cX10_odds, 1, (.iload_n 1, 1)), (cX10_odds, 2, (.iload_n 2, 1)), (cX10_odds, 3, (.invokevirtual 170, 3)), (cX10_odds, 6, (.ifCond .eq 20, 3)), (cX10_odds, 9, (.iload_n 3, 1)), (cX10_odds, 10, (.invokestatic 65, 3)), (cX10_odds, 13, (.ifCond .eq 13, 3)), (cX10_odds, 16, (.iload 4, 2)), (cX10_odds, 18, (.iconst 0, 1)), (cX10_odds, 19, (.iconst 1, 1)), (cX10_odds, 20, (.invokestatic 69, 3)), (cX10_odds, 23, (.ifCond .ne 7, 3)), (cX10_odds, 26, (.ldc2_w 234, 3)), (cX10_odds, 29, (.lreturn, 1))]
theorem dkB02decX2_11 : dkL02decX2_11.all (fun q => decide (decode q.1 q.2.1 = .ok q.2.2)) = true := by decide +kernel
theorem dX10_ways_33 : decode cX10_ways 33 = .ok (.iload_n 1, 1) := dk_at dkB02decX2_11 0 rfl
theorem dX10_ways_34 : decode cX10_ways 34 = .ok (.invokevirtual 238, 3) := dk_at dkB02decX2_11 1 rfl
theorem dX10_ways_37 : decode cX10_ways 37 = .ok (.getfield 242, 3) := dk_at dkB02decX2_11 2 rfl
theorem dX10_ways_40 : decode cX10_ways 40 = .ok (.lreturn, 1) := dk_at dkB02decX2_11 3 rfl
theorem dX10_ends_0 : decode cX10_ends 0 = .ok (.aload_n 0, 1) := dk_at dkB02decX2_11 4 rfl
theorem dX10_ends_1 : decode cX10_ends 1 = .ok (.iload_n 1, 1) := dk_at dkB02decX2_11 5 rfl
theorem dX10_ends_2 : decode cX10_ends 2 = .ok (.iload_n 2, 1) := dk_at dkB02decX2_11 6 rfl
theorem dX10_ends_3 : decode cX10_ends 3 = .ok (.invokevirtual 170, 3) := dk_at dkB02decX2_11 7 rfl
theorem dX10_ends_6 : decode cX10_ends 6 = .ok (.ifCond .eq 12, 3) := dk_at dkB02decX2_11 8 rfl
theorem dX10_ends_9 : decode cX10_ends 9 = .ok (.iload_n 3, 1) := dk_at dkB02decX2_11 9 rfl
theorem dX10_ends_10 : decode cX10_ends 10 = .ok (.iconst 0, 1) := dk_at dkB02decX2_11 10 rfl
theorem dX10_ends_11 : decode cX10_ends 11 = .ok (.iconst 1, 1) := dk_at dkB02decX2_11 11 rfl
theorem dX10_ends_12 : decode cX10_ends 12 = .ok (.invokestatic 69, 3) := dk_at dkB02decX2_11 12 rfl
theorem dX10_ends_15 : decode cX10_ends 15 = .ok (.ifCond .ne 5, 3) := dk_at dkB02decX2_11 13 rfl
theorem dX10_ends_18 : decode cX10_ends 18 = .ok (.iconst (-1), 1) := dk_at dkB02decX2_11 14 rfl
theorem dX10_ends_19 : decode cX10_ends 19 = .ok (.ireturn, 1) := dk_at dkB02decX2_11 15 rfl
theorem dX10_ends_20 : decode cX10_ends 20 = .ok (.aload_n 0, 1) := dk_at dkB02decX2_11 16 rfl
theorem dX10_ends_21 : decode cX10_ends 21 = .ok (.getfield 12, 3) := dk_at dkB02decX2_11 17 rfl
theorem dX10_ends_24 : decode cX10_ends 24 = .ok (.getfield 147, 3) := dk_at dkB02decX2_11 18 rfl
theorem dX10_ends_27 : decode cX10_ends 27 = .ok (.iload_n 1, 1) := dk_at dkB02decX2_11 19 rfl
theorem dX10_ends_28 : decode cX10_ends 28 = .ok (.aaload, 1) := dk_at dkB02decX2_11 20 rfl
theorem dX10_ends_29 : decode cX10_ends 29 = .ok (.iload_n 2, 1) := dk_at dkB02decX2_11 21 rfl
theorem dX10_ends_30 : decode cX10_ends 30 = .ok (.invokevirtual 177, 3) := dk_at dkB02decX2_11 22 rfl
theorem dX10_ends_33 : decode cX10_ends 33 = .ok (.ifCond .ne 6, 3) := dk_at dkB02decX2_11 23 rfl
theorem dX10_ends_36 : decode cX10_ends 36 = .ok (.bipush (-12), 2) := dk_at dkB02decX2_11 24 rfl
theorem dX10_ends_38 : decode cX10_ends 38 = .ok (.ireturn, 1) := dk_at dkB02decX2_11 25 rfl
theorem dX10_ends_39 : decode cX10_ends 39 = .ok (.aload_n 0, 1) := dk_at dkB02decX2_11 26 rfl
theorem dX10_ends_40 : decode cX10_ends 40 = .ok (.iload_n 1, 1) := dk_at dkB02decX2_11 27 rfl
theorem dX10_ends_41 : decode cX10_ends 41 = .ok (.invokevirtual 238, 3) := dk_at dkB02decX2_11 28 rfl
theorem dX10_ends_44 : decode cX10_ends 44 = .ok (.astore 4, 2) := dk_at dkB02decX2_11 29 rfl
theorem dX10_ends_46 : decode cX10_ends 46 = .ok (.aload 4, 2) := dk_at dkB02decX2_11 30 rfl
theorem dX10_ends_48 : decode cX10_ends 48 = .ok (.getfield 242, 3) := dk_at dkB02decX2_11 31 rfl
theorem dX10_ends_51 : decode cX10_ends 51 = .ok (.lconst 0, 1) := dk_at dkB02decX2_11 32 rfl
theorem dX10_ends_52 : decode cX10_ends 52 = .ok (.lcmp, 1) := dk_at dkB02decX2_11 33 rfl
theorem dX10_ends_53 : decode cX10_ends 53 = .ok (.ifCond .ne 8, 3) := dk_at dkB02decX2_11 34 rfl
theorem dX10_ends_56 : decode cX10_ends 56 = .ok (.bipush (-4), 2) := dk_at dkB02decX2_11 35 rfl
theorem dX10_ends_58 : decode cX10_ends 58 = .ok (.goto 16, 3) := dk_at dkB02decX2_11 36 rfl
theorem dX10_ends_61 : decode cX10_ends 61 = .ok (.aload 4, 2) := dk_at dkB02decX2_11 37 rfl
theorem dX10_ends_63 : decode cX10_ends 63 = .ok (.aload 4, 2) := dk_at dkB02decX2_11 38 rfl
theorem dX10_ends_65 : decode cX10_ends 65 = .ok (.getfield 246, 3) := dk_at dkB02decX2_11 39 rfl
theorem dX10_ends_68 : decode cX10_ends 68 = .ok (.iload_n 2, 1) := dk_at dkB02decX2_11 40 rfl
theorem dX10_ends_69 : decode cX10_ends 69 = .ok (.iaload, 1) := dk_at dkB02decX2_11 41 rfl
theorem dX10_ends_70 : decode cX10_ends 70 = .ok (.iload_n 3, 1) := dk_at dkB02decX2_11 42 rfl
theorem dX10_ends_71 : decode cX10_ends 71 = .ok (.invokevirtual 249, 3) := dk_at dkB02decX2_11 43 rfl
theorem dX10_ends_74 : decode cX10_ends 74 = .ok (.ireturn, 1) := dk_at dkB02decX2_11 44 rfl
theorem dX10_odds_0 : decode cX10_odds 0 = .ok (.aload_n 0, 1) := dk_at dkB02decX2_11 45 rfl
theorem dX10_odds_1 : decode cX10_odds 1 = .ok (.iload_n 1, 1) := dk_at dkB02decX2_11 46 rfl
theorem dX10_odds_2 : decode cX10_odds 2 = .ok (.iload_n 2, 1) := dk_at dkB02decX2_11 47 rfl
theorem dX10_odds_3 : decode cX10_odds 3 = .ok (.invokevirtual 170, 3) := dk_at dkB02decX2_11 48 rfl
theorem dX10_odds_6 : decode cX10_odds 6 = .ok (.ifCond .eq 20, 3) := dk_at dkB02decX2_11 49 rfl
theorem dX10_odds_9 : decode cX10_odds 9 = .ok (.iload_n 3, 1) := dk_at dkB02decX2_11 50 rfl
theorem dX10_odds_10 : decode cX10_odds 10 = .ok (.invokestatic 65, 3) := dk_at dkB02decX2_11 51 rfl
theorem dX10_odds_13 : decode cX10_odds 13 = .ok (.ifCond .eq 13, 3) := dk_at dkB02decX2_11 52 rfl
theorem dX10_odds_16 : decode cX10_odds 16 = .ok (.iload 4, 2) := dk_at dkB02decX2_11 53 rfl
theorem dX10_odds_18 : decode cX10_odds 18 = .ok (.iconst 0, 1) := dk_at dkB02decX2_11 54 rfl
theorem dX10_odds_19 : decode cX10_odds 19 = .ok (.iconst 1, 1) := dk_at dkB02decX2_11 55 rfl
theorem dX10_odds_20 : decode cX10_odds 20 = .ok (.invokestatic 69, 3) := dk_at dkB02decX2_11 56 rfl
theorem dX10_odds_23 : decode cX10_odds 23 = .ok (.ifCond .ne 7, 3) := dk_at dkB02decX2_11 57 rfl
theorem dX10_odds_26 : decode cX10_odds 26 = .ok (.ldc2_w 234, 3) := dk_at dkB02decX2_11 58 rfl
theorem dX10_odds_29 : decode cX10_odds 29 = .ok (.lreturn, 1) := dk_at dkB02decX2_11 59 rfl
noncomputable def dkL02decX2_12 : List (ByteArray × Nat × Instr × Nat) := [(cX10_odds, 30, (.aload_n 0, 1)), (cX10_odds, 31, (.getfield 12, 3)), (cX10_odds, 34, (.getfield 147, 3)), (cX10_odds, 37, (.iload_n 1, 1)), (cX10_odds, 38, (.aaload, 1)), (cX10_odds, 39, (.iload_n 2, 1)), (cX10_odds, 40, (.invokevirtual 177, 3)), (cX10_odds, 43, (.ifCond .ne 7, 3)), (cX10_odds, 46, (.ldc2_w 252, 3)), (cX10_odds, 49, (.lreturn, 1)), (cX10_odds, 50, (.aload_n 0, 1)), (cX10_odds, 51, (.iload_n 1, 1)), (cX10_odds, 52, (.invokevirtual 238, 3)), (cX10_odds, 55, (.astore 5, 2)), (cX10_odds, 57, (.aload 5, 2)), (cX10_odds, 59, (.aload 5, 2)), (cX10_odds, 61, (.getfield 246, 3)), (cX10_odds, 64, (.iload_n 2, 1)), (cX10_odds, 65, (.iaload, 1)), (cX10_odds, 66, (.iload_n 3, 1)), (cX10_odds, 67, (.invokevirtual 254, 3)), (cX10_odds, 70, (.aload 5, 2)), (cX10_odds, 72, (.getfield 242, 3)), (cX10_odds, 75, (.iload 4, 2)), (cX10_odds, 77, (.invokestatic 258, 3)), (cX10_odds, 80, (.lreturn, 1)), (cX10_span, 0, (.aload_n 0, 1)), (cX10_span, 1, (.iload_n 1, 1)), (cX10_span, 2, (.iload_n 2, 1)), (cX10_span, 3, (.iload_n 3, 1)), (cX10_span, 4, (.invokevirtual 262, 3)), (cX10_span, 7, (.ifCond .eq 13, 3)), (cX10_span, 10, (.iload 4, 2)), (cX10_span, 12, (.iconst 0, 1)), (cX10_span, 13, (.iconst 1, 1)), (cX10_span, 14, (.invokestatic 69, 3)), (cX10_span, 17, (.ifCond .ne 5, 3)), (cX10_span, 20, (.iconst (-1), 1)), (cX10_span, 21, (.ireturn, 1)), (cX10_span, 22, (.aload_n 0, 1)), (cX10_span, 23, (.getfield 12, 3)), (cX10_span, 26, (.getfield 147, 3)), (cX10_span, 29, (.iload_n 1, 1)), (cX10_span, 30, (.aaload, 1)), (cX10_span, 31, (.astore 5, 2)), (cX10_span, 33, (.aload 5, 2)), (cX10_span, 35, (.iload_n 2, 1)), (cX10_span, 36, (.invokevirtual 177, 3)), (cX10_span, 39, (.ifCond .eq 12, 3)), (cX10_span, 42, (.aload 5, 2)), (cX10_span, 44, (.iload_n 3, 1)), (cX10_span, 45, (.invokevirtual 177, 3)), (cX10_span, 48, (.ifCond .ne 6, 3)), (cX10_span, 51, (.bipush (-12), 2)), (cX10_span, 53, (.ireturn, 1)), (cX10_span, 54, (.aload_n 0, 1)), (cX10_span, 55, (.iload_n 1, 1)), (cX10_span, 56, (.invokevirtual 238, 3)), (cX10_span, 59, (.astore 6, 2)), (cX10_span, 61, (.aload 6, 2))]
theorem dkB02decX2_12 : dkL02decX2_12.all (fun q => decide (decode q.1 q.2.1 = .ok q.2.2)) = true := by decide +kernel
theorem dX10_odds_30 : decode cX10_odds 30 = .ok (.aload_n 0, 1) := dk_at dkB02decX2_12 0 rfl
theorem dX10_odds_31 : decode cX10_odds 31 = .ok (.getfield 12, 3) := dk_at dkB02decX2_12 1 rfl
theorem dX10_odds_34 : decode cX10_odds 34 = .ok (.getfield 147, 3) := dk_at dkB02decX2_12 2 rfl
theorem dX10_odds_37 : decode cX10_odds 37 = .ok (.iload_n 1, 1) := dk_at dkB02decX2_12 3 rfl
theorem dX10_odds_38 : decode cX10_odds 38 = .ok (.aaload, 1) := dk_at dkB02decX2_12 4 rfl
theorem dX10_odds_39 : decode cX10_odds 39 = .ok (.iload_n 2, 1) := dk_at dkB02decX2_12 5 rfl
theorem dX10_odds_40 : decode cX10_odds 40 = .ok (.invokevirtual 177, 3) := dk_at dkB02decX2_12 6 rfl
theorem dX10_odds_43 : decode cX10_odds 43 = .ok (.ifCond .ne 7, 3) := dk_at dkB02decX2_12 7 rfl
theorem dX10_odds_46 : decode cX10_odds 46 = .ok (.ldc2_w 252, 3) := dk_at dkB02decX2_12 8 rfl
theorem dX10_odds_49 : decode cX10_odds 49 = .ok (.lreturn, 1) := dk_at dkB02decX2_12 9 rfl
theorem dX10_odds_50 : decode cX10_odds 50 = .ok (.aload_n 0, 1) := dk_at dkB02decX2_12 10 rfl
theorem dX10_odds_51 : decode cX10_odds 51 = .ok (.iload_n 1, 1) := dk_at dkB02decX2_12 11 rfl
theorem dX10_odds_52 : decode cX10_odds 52 = .ok (.invokevirtual 238, 3) := dk_at dkB02decX2_12 12 rfl
theorem dX10_odds_55 : decode cX10_odds 55 = .ok (.astore 5, 2) := dk_at dkB02decX2_12 13 rfl
theorem dX10_odds_57 : decode cX10_odds 57 = .ok (.aload 5, 2) := dk_at dkB02decX2_12 14 rfl
theorem dX10_odds_59 : decode cX10_odds 59 = .ok (.aload 5, 2) := dk_at dkB02decX2_12 15 rfl
theorem dX10_odds_61 : decode cX10_odds 61 = .ok (.getfield 246, 3) := dk_at dkB02decX2_12 16 rfl
theorem dX10_odds_64 : decode cX10_odds 64 = .ok (.iload_n 2, 1) := dk_at dkB02decX2_12 17 rfl
theorem dX10_odds_65 : decode cX10_odds 65 = .ok (.iaload, 1) := dk_at dkB02decX2_12 18 rfl
theorem dX10_odds_66 : decode cX10_odds 66 = .ok (.iload_n 3, 1) := dk_at dkB02decX2_12 19 rfl
theorem dX10_odds_67 : decode cX10_odds 67 = .ok (.invokevirtual 254, 3) := dk_at dkB02decX2_12 20 rfl
theorem dX10_odds_70 : decode cX10_odds 70 = .ok (.aload 5, 2) := dk_at dkB02decX2_12 21 rfl
theorem dX10_odds_72 : decode cX10_odds 72 = .ok (.getfield 242, 3) := dk_at dkB02decX2_12 22 rfl
theorem dX10_odds_75 : decode cX10_odds 75 = .ok (.iload 4, 2) := dk_at dkB02decX2_12 23 rfl
theorem dX10_odds_77 : decode cX10_odds 77 = .ok (.invokestatic 258, 3) := dk_at dkB02decX2_12 24 rfl
theorem dX10_odds_80 : decode cX10_odds 80 = .ok (.lreturn, 1) := dk_at dkB02decX2_12 25 rfl
theorem dX10_span_0 : decode cX10_span 0 = .ok (.aload_n 0, 1) := dk_at dkB02decX2_12 26 rfl
theorem dX10_span_1 : decode cX10_span 1 = .ok (.iload_n 1, 1) := dk_at dkB02decX2_12 27 rfl
theorem dX10_span_2 : decode cX10_span 2 = .ok (.iload_n 2, 1) := dk_at dkB02decX2_12 28 rfl
theorem dX10_span_3 : decode cX10_span 3 = .ok (.iload_n 3, 1) := dk_at dkB02decX2_12 29 rfl
theorem dX10_span_4 : decode cX10_span 4 = .ok (.invokevirtual 262, 3) := dk_at dkB02decX2_12 30 rfl
theorem dX10_span_7 : decode cX10_span 7 = .ok (.ifCond .eq 13, 3) := dk_at dkB02decX2_12 31 rfl
theorem dX10_span_10 : decode cX10_span 10 = .ok (.iload 4, 2) := dk_at dkB02decX2_12 32 rfl
theorem dX10_span_12 : decode cX10_span 12 = .ok (.iconst 0, 1) := dk_at dkB02decX2_12 33 rfl
theorem dX10_span_13 : decode cX10_span 13 = .ok (.iconst 1, 1) := dk_at dkB02decX2_12 34 rfl
theorem dX10_span_14 : decode cX10_span 14 = .ok (.invokestatic 69, 3) := dk_at dkB02decX2_12 35 rfl
theorem dX10_span_17 : decode cX10_span 17 = .ok (.ifCond .ne 5, 3) := dk_at dkB02decX2_12 36 rfl
theorem dX10_span_20 : decode cX10_span 20 = .ok (.iconst (-1), 1) := dk_at dkB02decX2_12 37 rfl
theorem dX10_span_21 : decode cX10_span 21 = .ok (.ireturn, 1) := dk_at dkB02decX2_12 38 rfl
theorem dX10_span_22 : decode cX10_span 22 = .ok (.aload_n 0, 1) := dk_at dkB02decX2_12 39 rfl
theorem dX10_span_23 : decode cX10_span 23 = .ok (.getfield 12, 3) := dk_at dkB02decX2_12 40 rfl
theorem dX10_span_26 : decode cX10_span 26 = .ok (.getfield 147, 3) := dk_at dkB02decX2_12 41 rfl
theorem dX10_span_29 : decode cX10_span 29 = .ok (.iload_n 1, 1) := dk_at dkB02decX2_12 42 rfl
theorem dX10_span_30 : decode cX10_span 30 = .ok (.aaload, 1) := dk_at dkB02decX2_12 43 rfl
theorem dX10_span_31 : decode cX10_span 31 = .ok (.astore 5, 2) := dk_at dkB02decX2_12 44 rfl
theorem dX10_span_33 : decode cX10_span 33 = .ok (.aload 5, 2) := dk_at dkB02decX2_12 45 rfl
theorem dX10_span_35 : decode cX10_span 35 = .ok (.iload_n 2, 1) := dk_at dkB02decX2_12 46 rfl
theorem dX10_span_36 : decode cX10_span 36 = .ok (.invokevirtual 177, 3) := dk_at dkB02decX2_12 47 rfl
theorem dX10_span_39 : decode cX10_span 39 = .ok (.ifCond .eq 12, 3) := dk_at dkB02decX2_12 48 rfl
theorem dX10_span_42 : decode cX10_span 42 = .ok (.aload 5, 2) := dk_at dkB02decX2_12 49 rfl
theorem dX10_span_44 : decode cX10_span 44 = .ok (.iload_n 3, 1) := dk_at dkB02decX2_12 50 rfl
theorem dX10_span_45 : decode cX10_span 45 = .ok (.invokevirtual 177, 3) := dk_at dkB02decX2_12 51 rfl
theorem dX10_span_48 : decode cX10_span 48 = .ok (.ifCond .ne 6, 3) := dk_at dkB02decX2_12 52 rfl
theorem dX10_span_51 : decode cX10_span 51 = .ok (.bipush (-12), 2) := dk_at dkB02decX2_12 53 rfl
theorem dX10_span_53 : decode cX10_span 53 = .ok (.ireturn, 1) := dk_at dkB02decX2_12 54 rfl
theorem dX10_span_54 : decode cX10_span 54 = .ok (.aload_n 0, 1) := dk_at dkB02decX2_12 55 rfl
theorem dX10_span_55 : decode cX10_span 55 = .ok (.iload_n 1, 1) := dk_at dkB02decX2_12 56 rfl
theorem dX10_span_56 : decode cX10_span 56 = .ok (.invokevirtual 238, 3) := dk_at dkB02decX2_12 57 rfl
theorem dX10_span_59 : decode cX10_span 59 = .ok (.astore 6, 2) := dk_at dkB02decX2_12 58 rfl
theorem dX10_span_61 : decode cX10_span 61 = .ok (.aload 6, 2) := dk_at dkB02decX2_12 59 rfl
noncomputable def dkL02decX2_13 : List (ByteArray × Nat × Instr × Nat) := [(cX10_span, 63, (.aload 6, 2)), (cX10_span, 65, (.getfield 246, 3)), (cX10_span, 68, (.iload_n 2, 1)), (cX10_span, 69, (.iaload, 1)), (cX10_span, 70, (.aload 6, 2)), (cX10_span, 72, (.getfield 246, 3)), (cX10_span, 75, (.iload_n 3, 1)), (cX10_span, 76, (.iaload, 1)), (cX10_span, 77, (.invokevirtual 265, 3)), (cX10_span, 80, (.aload 6, 2)), (cX10_span, 82, (.getfield 242, 3)), (cX10_span, 85, (.lconst 0, 1)), (cX10_span, 86, (.lcmp, 1)), (cX10_span, 87, (.ifCond .ne 8, 3)), (cX10_span, 90, (.bipush (-4), 2)), (cX10_span, 92, (.goto 10, 3)), (cX10_span, 95, (.aload 6, 2)), (cX10_span, 97, (.iload 4, 2)), (cX10_span, 99, (.invokevirtual 268, 3)), (cX10_span, 102, (.ireturn, 1)), (cX10_apart, 0, (.aload_n 0, 1)), (cX10_apart, 1, (.iload_n 1, 1)), (cX10_apart, 2, (.iload_n 2, 1)), (cX10_apart, 3, (.iload_n 3, 1)), (cX10_apart, 4, (.invokevirtual 262, 3)), (cX10_apart, 7, (.ifCond .eq 21, 3)), (cX10_apart, 10, (.iload 4, 2)), (cX10_apart, 12, (.invokestatic 65, 3)), (cX10_apart, 15, (.ifCond .eq 13, 3)), (cX10_apart, 18, (.iload 5, 2)), (cX10_apart, 20, (.iconst 0, 1)), (cX10_apart, 21, (.iconst 1, 1)), (cX10_apart, 22, (.invokestatic 69, 3)), (cX10_apart, 25, (.ifCond .ne 7, 3)), (cX10_apart, 28, (.ldc2_w 234, 3)), (cX10_apart, 31, (.lreturn, 1)), (cX10_apart, 32, (.aload_n 0, 1)), (cX10_apart, 33, (.getfield 12, 3)), (cX10_apart, 36, (.getfield 147, 3)), (cX10_apart, 39, (.iload_n 1, 1)), (cX10_apart, 40, (.aaload, 1)), (cX10_apart, 41, (.astore 6, 2)), (cX10_apart, 43, (.aload 6, 2)), (cX10_apart, 45, (.iload_n 2, 1)), (cX10_apart, 46, (.invokevirtual 177, 3)), (cX10_apart, 49, (.ifCond .eq 12, 3)), (cX10_apart, 52, (.aload 6, 2)), (cX10_apart, 54, (.iload_n 3, 1)), (cX10_apart, 55, (.invokevirtual 177, 3)), (cX10_apart, 58, (.ifCond .ne 7, 3)), (cX10_apart, 61, (.ldc2_w 252, 3)), (cX10_apart, 64, (.lreturn, 1)), (cX10_apart, 65, (.aload_n 0, 1)), (cX10_apart, 66, (.iload_n 1, 1)), (cX10_apart, 67, (.invokevirtual 238, 3)), (cX10_apart, 70, (.astore 7, 2)), (cX10_apart, 72, (.aload 7, 2)), (cX10_apart, 74, (.aload 7, 2)), (cX10_apart, 76, (.getfield 246, 3)), (cX10_apart, 79, (.iload_n 2, 1))]
theorem dkB02decX2_13 : dkL02decX2_13.all (fun q => decide (decode q.1 q.2.1 = .ok q.2.2)) = true := by decide +kernel
theorem dX10_span_63 : decode cX10_span 63 = .ok (.aload 6, 2) := dk_at dkB02decX2_13 0 rfl
theorem dX10_span_65 : decode cX10_span 65 = .ok (.getfield 246, 3) := dk_at dkB02decX2_13 1 rfl
theorem dX10_span_68 : decode cX10_span 68 = .ok (.iload_n 2, 1) := dk_at dkB02decX2_13 2 rfl
theorem dX10_span_69 : decode cX10_span 69 = .ok (.iaload, 1) := dk_at dkB02decX2_13 3 rfl
theorem dX10_span_70 : decode cX10_span 70 = .ok (.aload 6, 2) := dk_at dkB02decX2_13 4 rfl
theorem dX10_span_72 : decode cX10_span 72 = .ok (.getfield 246, 3) := dk_at dkB02decX2_13 5 rfl
theorem dX10_span_75 : decode cX10_span 75 = .ok (.iload_n 3, 1) := dk_at dkB02decX2_13 6 rfl
theorem dX10_span_76 : decode cX10_span 76 = .ok (.iaload, 1) := dk_at dkB02decX2_13 7 rfl
theorem dX10_span_77 : decode cX10_span 77 = .ok (.invokevirtual 265, 3) := dk_at dkB02decX2_13 8 rfl
theorem dX10_span_80 : decode cX10_span 80 = .ok (.aload 6, 2) := dk_at dkB02decX2_13 9 rfl
theorem dX10_span_82 : decode cX10_span 82 = .ok (.getfield 242, 3) := dk_at dkB02decX2_13 10 rfl
theorem dX10_span_85 : decode cX10_span 85 = .ok (.lconst 0, 1) := dk_at dkB02decX2_13 11 rfl
theorem dX10_span_86 : decode cX10_span 86 = .ok (.lcmp, 1) := dk_at dkB02decX2_13 12 rfl
theorem dX10_span_87 : decode cX10_span 87 = .ok (.ifCond .ne 8, 3) := dk_at dkB02decX2_13 13 rfl
theorem dX10_span_90 : decode cX10_span 90 = .ok (.bipush (-4), 2) := dk_at dkB02decX2_13 14 rfl
theorem dX10_span_92 : decode cX10_span 92 = .ok (.goto 10, 3) := dk_at dkB02decX2_13 15 rfl
theorem dX10_span_95 : decode cX10_span 95 = .ok (.aload 6, 2) := dk_at dkB02decX2_13 16 rfl
theorem dX10_span_97 : decode cX10_span 97 = .ok (.iload 4, 2) := dk_at dkB02decX2_13 17 rfl
theorem dX10_span_99 : decode cX10_span 99 = .ok (.invokevirtual 268, 3) := dk_at dkB02decX2_13 18 rfl
theorem dX10_span_102 : decode cX10_span 102 = .ok (.ireturn, 1) := dk_at dkB02decX2_13 19 rfl
theorem dX10_apart_0 : decode cX10_apart 0 = .ok (.aload_n 0, 1) := dk_at dkB02decX2_13 20 rfl
theorem dX10_apart_1 : decode cX10_apart 1 = .ok (.iload_n 1, 1) := dk_at dkB02decX2_13 21 rfl
theorem dX10_apart_2 : decode cX10_apart 2 = .ok (.iload_n 2, 1) := dk_at dkB02decX2_13 22 rfl
theorem dX10_apart_3 : decode cX10_apart 3 = .ok (.iload_n 3, 1) := dk_at dkB02decX2_13 23 rfl
theorem dX10_apart_4 : decode cX10_apart 4 = .ok (.invokevirtual 262, 3) := dk_at dkB02decX2_13 24 rfl
theorem dX10_apart_7 : decode cX10_apart 7 = .ok (.ifCond .eq 21, 3) := dk_at dkB02decX2_13 25 rfl
theorem dX10_apart_10 : decode cX10_apart 10 = .ok (.iload 4, 2) := dk_at dkB02decX2_13 26 rfl
theorem dX10_apart_12 : decode cX10_apart 12 = .ok (.invokestatic 65, 3) := dk_at dkB02decX2_13 27 rfl
theorem dX10_apart_15 : decode cX10_apart 15 = .ok (.ifCond .eq 13, 3) := dk_at dkB02decX2_13 28 rfl
theorem dX10_apart_18 : decode cX10_apart 18 = .ok (.iload 5, 2) := dk_at dkB02decX2_13 29 rfl
theorem dX10_apart_20 : decode cX10_apart 20 = .ok (.iconst 0, 1) := dk_at dkB02decX2_13 30 rfl
theorem dX10_apart_21 : decode cX10_apart 21 = .ok (.iconst 1, 1) := dk_at dkB02decX2_13 31 rfl
theorem dX10_apart_22 : decode cX10_apart 22 = .ok (.invokestatic 69, 3) := dk_at dkB02decX2_13 32 rfl
theorem dX10_apart_25 : decode cX10_apart 25 = .ok (.ifCond .ne 7, 3) := dk_at dkB02decX2_13 33 rfl
theorem dX10_apart_28 : decode cX10_apart 28 = .ok (.ldc2_w 234, 3) := dk_at dkB02decX2_13 34 rfl
theorem dX10_apart_31 : decode cX10_apart 31 = .ok (.lreturn, 1) := dk_at dkB02decX2_13 35 rfl
theorem dX10_apart_32 : decode cX10_apart 32 = .ok (.aload_n 0, 1) := dk_at dkB02decX2_13 36 rfl
theorem dX10_apart_33 : decode cX10_apart 33 = .ok (.getfield 12, 3) := dk_at dkB02decX2_13 37 rfl
theorem dX10_apart_36 : decode cX10_apart 36 = .ok (.getfield 147, 3) := dk_at dkB02decX2_13 38 rfl
theorem dX10_apart_39 : decode cX10_apart 39 = .ok (.iload_n 1, 1) := dk_at dkB02decX2_13 39 rfl
theorem dX10_apart_40 : decode cX10_apart 40 = .ok (.aaload, 1) := dk_at dkB02decX2_13 40 rfl
theorem dX10_apart_41 : decode cX10_apart 41 = .ok (.astore 6, 2) := dk_at dkB02decX2_13 41 rfl
theorem dX10_apart_43 : decode cX10_apart 43 = .ok (.aload 6, 2) := dk_at dkB02decX2_13 42 rfl
theorem dX10_apart_45 : decode cX10_apart 45 = .ok (.iload_n 2, 1) := dk_at dkB02decX2_13 43 rfl
theorem dX10_apart_46 : decode cX10_apart 46 = .ok (.invokevirtual 177, 3) := dk_at dkB02decX2_13 44 rfl
theorem dX10_apart_49 : decode cX10_apart 49 = .ok (.ifCond .eq 12, 3) := dk_at dkB02decX2_13 45 rfl
theorem dX10_apart_52 : decode cX10_apart 52 = .ok (.aload 6, 2) := dk_at dkB02decX2_13 46 rfl
theorem dX10_apart_54 : decode cX10_apart 54 = .ok (.iload_n 3, 1) := dk_at dkB02decX2_13 47 rfl
theorem dX10_apart_55 : decode cX10_apart 55 = .ok (.invokevirtual 177, 3) := dk_at dkB02decX2_13 48 rfl
theorem dX10_apart_58 : decode cX10_apart 58 = .ok (.ifCond .ne 7, 3) := dk_at dkB02decX2_13 49 rfl
theorem dX10_apart_61 : decode cX10_apart 61 = .ok (.ldc2_w 252, 3) := dk_at dkB02decX2_13 50 rfl
theorem dX10_apart_64 : decode cX10_apart 64 = .ok (.lreturn, 1) := dk_at dkB02decX2_13 51 rfl
theorem dX10_apart_65 : decode cX10_apart 65 = .ok (.aload_n 0, 1) := dk_at dkB02decX2_13 52 rfl
theorem dX10_apart_66 : decode cX10_apart 66 = .ok (.iload_n 1, 1) := dk_at dkB02decX2_13 53 rfl
theorem dX10_apart_67 : decode cX10_apart 67 = .ok (.invokevirtual 238, 3) := dk_at dkB02decX2_13 54 rfl
theorem dX10_apart_70 : decode cX10_apart 70 = .ok (.astore 7, 2) := dk_at dkB02decX2_13 55 rfl
theorem dX10_apart_72 : decode cX10_apart 72 = .ok (.aload 7, 2) := dk_at dkB02decX2_13 56 rfl
theorem dX10_apart_74 : decode cX10_apart 74 = .ok (.aload 7, 2) := dk_at dkB02decX2_13 57 rfl
theorem dX10_apart_76 : decode cX10_apart 76 = .ok (.getfield 246, 3) := dk_at dkB02decX2_13 58 rfl
theorem dX10_apart_79 : decode cX10_apart 79 = .ok (.iload_n 2, 1) := dk_at dkB02decX2_13 59 rfl
noncomputable def dkL02decX2_14 : List (ByteArray × Nat × Instr × Nat) := [(cX10_apart, 80, (.iaload, 1)), (cX10_apart, 81, (.aload 7, 2)), (cX10_apart, 83, (.getfield 246, 3)), (cX10_apart, 86, (.iload_n 3, 1)), (cX10_apart, 87, (.iaload, 1)), (cX10_apart, 88, (.invokevirtual 265, 3)), (cX10_apart, 91, (.lconst 0, 1)), (cX10_apart, 92, (.lstore 8, 2)), (cX10_apart, 94, (.iload 4, 2)), (cX10_apart, 96, (.istore 10, 2)), (cX10_apart, 98, (.iload 10, 2)), (cX10_apart, 100, (.bipush 24, 2)), (cX10_apart, 102, (.if_icmp .ge 22, 3)), (cX10_apart, 105, (.lload 8, 2)), (cX10_apart, 107, (.aload 7, 2)), (cX10_apart, 109, (.getfield 272, 3)), (cX10_apart, 112, (.iload 10, 2)), (cX10_apart, 114, (.laload, 1)), (cX10_apart, 115, (.ladd, 1)), (cX10_apart, 116, (.lstore 8, 2)), (cX10_apart, 118, (.iinc 10 1, 3)), (cX10_apart, 121, (.goto (-23), 3)), (cX10_apart, 124, (.lload 8, 2)), (cX10_apart, 126, (.aload 7, 2)), (cX10_apart, 128, (.getfield 242, 3)), (cX10_apart, 131, (.iload 5, 2)), (cX10_apart, 133, (.invokestatic 258, 3)), (cX10_apart, 136, (.lreturn, 1)), (cX10_next, 0, (.iload_n 1, 1)), (cX10_next, 1, (.invokestatic 144, 3)), (cX10_next, 4, (.ifCond .eq 12, 3)), (cX10_next, 7, (.iload_n 2, 1)), (cX10_next, 8, (.iconst 0, 1)), (cX10_next, 9, (.iconst 1, 1)), (cX10_next, 10, (.invokestatic 69, 3)), (cX10_next, 13, (.ifCond .ne 7, 3)), (cX10_next, 16, (.ldc2_w 234, 3)), (cX10_next, 19, (.lreturn, 1)), (cX10_next, 20, (.aload_n 0, 1)), (cX10_next, 21, (.getfield 12, 3)), (cX10_next, 24, (.getfield 147, 3)), (cX10_next, 27, (.iload_n 1, 1)), (cX10_next, 28, (.aaload, 1)), (cX10_next, 29, (.invokevirtual 231, 3)), (cX10_next, 32, (.ifCond .ne 7, 3)), (cX10_next, 35, (.ldc2_w 236, 3)), (cX10_next, 38, (.lreturn, 1)), (cX10_next, 39, (.aload_n 0, 1)), (cX10_next, 40, (.iload_n 1, 1)), (cX10_next, 41, (.invokevirtual 238, 3)), (cX10_next, 44, (.astore_n 3, 1)), (cX10_next, 45, (.aload_n 3, 1)), (cX10_next, 46, (.getfield 242, 3)), (cX10_next, 49, (.lconst 0, 1)), (cX10_next, 50, (.lcmp, 1)), (cX10_next, 51, (.ifCond .ne 7, 3)), (cX10_next, 54, (.ldc2_w 276, 3)), (cX10_next, 57, (.lreturn, 1)), (cX10_next, 58, (.iconst 0, 1)), (cX10_next, 59, (.istore 4, 2))]
theorem dkB02decX2_14 : dkL02decX2_14.all (fun q => decide (decode q.1 q.2.1 = .ok q.2.2)) = true := by decide +kernel
theorem dX10_apart_80 : decode cX10_apart 80 = .ok (.iaload, 1) := dk_at dkB02decX2_14 0 rfl
theorem dX10_apart_81 : decode cX10_apart 81 = .ok (.aload 7, 2) := dk_at dkB02decX2_14 1 rfl
theorem dX10_apart_83 : decode cX10_apart 83 = .ok (.getfield 246, 3) := dk_at dkB02decX2_14 2 rfl
theorem dX10_apart_86 : decode cX10_apart 86 = .ok (.iload_n 3, 1) := dk_at dkB02decX2_14 3 rfl
theorem dX10_apart_87 : decode cX10_apart 87 = .ok (.iaload, 1) := dk_at dkB02decX2_14 4 rfl
theorem dX10_apart_88 : decode cX10_apart 88 = .ok (.invokevirtual 265, 3) := dk_at dkB02decX2_14 5 rfl
theorem dX10_apart_91 : decode cX10_apart 91 = .ok (.lconst 0, 1) := dk_at dkB02decX2_14 6 rfl
theorem dX10_apart_92 : decode cX10_apart 92 = .ok (.lstore 8, 2) := dk_at dkB02decX2_14 7 rfl
theorem dX10_apart_94 : decode cX10_apart 94 = .ok (.iload 4, 2) := dk_at dkB02decX2_14 8 rfl
theorem dX10_apart_96 : decode cX10_apart 96 = .ok (.istore 10, 2) := dk_at dkB02decX2_14 9 rfl
theorem dX10_apart_98 : decode cX10_apart 98 = .ok (.iload 10, 2) := dk_at dkB02decX2_14 10 rfl
theorem dX10_apart_100 : decode cX10_apart 100 = .ok (.bipush 24, 2) := dk_at dkB02decX2_14 11 rfl
theorem dX10_apart_102 : decode cX10_apart 102 = .ok (.if_icmp .ge 22, 3) := dk_at dkB02decX2_14 12 rfl
theorem dX10_apart_105 : decode cX10_apart 105 = .ok (.lload 8, 2) := dk_at dkB02decX2_14 13 rfl
theorem dX10_apart_107 : decode cX10_apart 107 = .ok (.aload 7, 2) := dk_at dkB02decX2_14 14 rfl
theorem dX10_apart_109 : decode cX10_apart 109 = .ok (.getfield 272, 3) := dk_at dkB02decX2_14 15 rfl
theorem dX10_apart_112 : decode cX10_apart 112 = .ok (.iload 10, 2) := dk_at dkB02decX2_14 16 rfl
theorem dX10_apart_114 : decode cX10_apart 114 = .ok (.laload, 1) := dk_at dkB02decX2_14 17 rfl
theorem dX10_apart_115 : decode cX10_apart 115 = .ok (.ladd, 1) := dk_at dkB02decX2_14 18 rfl
theorem dX10_apart_116 : decode cX10_apart 116 = .ok (.lstore 8, 2) := dk_at dkB02decX2_14 19 rfl
theorem dX10_apart_118 : decode cX10_apart 118 = .ok (.iinc 10 1, 3) := dk_at dkB02decX2_14 20 rfl
theorem dX10_apart_121 : decode cX10_apart 121 = .ok (.goto (-23), 3) := dk_at dkB02decX2_14 21 rfl
theorem dX10_apart_124 : decode cX10_apart 124 = .ok (.lload 8, 2) := dk_at dkB02decX2_14 22 rfl
theorem dX10_apart_126 : decode cX10_apart 126 = .ok (.aload 7, 2) := dk_at dkB02decX2_14 23 rfl
theorem dX10_apart_128 : decode cX10_apart 128 = .ok (.getfield 242, 3) := dk_at dkB02decX2_14 24 rfl
theorem dX10_apart_131 : decode cX10_apart 131 = .ok (.iload 5, 2) := dk_at dkB02decX2_14 25 rfl
theorem dX10_apart_133 : decode cX10_apart 133 = .ok (.invokestatic 258, 3) := dk_at dkB02decX2_14 26 rfl
theorem dX10_apart_136 : decode cX10_apart 136 = .ok (.lreturn, 1) := dk_at dkB02decX2_14 27 rfl
theorem dX10_next_0 : decode cX10_next 0 = .ok (.iload_n 1, 1) := dk_at dkB02decX2_14 28 rfl
theorem dX10_next_1 : decode cX10_next 1 = .ok (.invokestatic 144, 3) := dk_at dkB02decX2_14 29 rfl
theorem dX10_next_4 : decode cX10_next 4 = .ok (.ifCond .eq 12, 3) := dk_at dkB02decX2_14 30 rfl
theorem dX10_next_7 : decode cX10_next 7 = .ok (.iload_n 2, 1) := dk_at dkB02decX2_14 31 rfl
theorem dX10_next_8 : decode cX10_next 8 = .ok (.iconst 0, 1) := dk_at dkB02decX2_14 32 rfl
theorem dX10_next_9 : decode cX10_next 9 = .ok (.iconst 1, 1) := dk_at dkB02decX2_14 33 rfl
theorem dX10_next_10 : decode cX10_next 10 = .ok (.invokestatic 69, 3) := dk_at dkB02decX2_14 34 rfl
theorem dX10_next_13 : decode cX10_next 13 = .ok (.ifCond .ne 7, 3) := dk_at dkB02decX2_14 35 rfl
theorem dX10_next_16 : decode cX10_next 16 = .ok (.ldc2_w 234, 3) := dk_at dkB02decX2_14 36 rfl
theorem dX10_next_19 : decode cX10_next 19 = .ok (.lreturn, 1) := dk_at dkB02decX2_14 37 rfl
theorem dX10_next_20 : decode cX10_next 20 = .ok (.aload_n 0, 1) := dk_at dkB02decX2_14 38 rfl
theorem dX10_next_21 : decode cX10_next 21 = .ok (.getfield 12, 3) := dk_at dkB02decX2_14 39 rfl
theorem dX10_next_24 : decode cX10_next 24 = .ok (.getfield 147, 3) := dk_at dkB02decX2_14 40 rfl
theorem dX10_next_27 : decode cX10_next 27 = .ok (.iload_n 1, 1) := dk_at dkB02decX2_14 41 rfl
theorem dX10_next_28 : decode cX10_next 28 = .ok (.aaload, 1) := dk_at dkB02decX2_14 42 rfl
theorem dX10_next_29 : decode cX10_next 29 = .ok (.invokevirtual 231, 3) := dk_at dkB02decX2_14 43 rfl
theorem dX10_next_32 : decode cX10_next 32 = .ok (.ifCond .ne 7, 3) := dk_at dkB02decX2_14 44 rfl
theorem dX10_next_35 : decode cX10_next 35 = .ok (.ldc2_w 236, 3) := dk_at dkB02decX2_14 45 rfl
theorem dX10_next_38 : decode cX10_next 38 = .ok (.lreturn, 1) := dk_at dkB02decX2_14 46 rfl
theorem dX10_next_39 : decode cX10_next 39 = .ok (.aload_n 0, 1) := dk_at dkB02decX2_14 47 rfl
theorem dX10_next_40 : decode cX10_next 40 = .ok (.iload_n 1, 1) := dk_at dkB02decX2_14 48 rfl
theorem dX10_next_41 : decode cX10_next 41 = .ok (.invokevirtual 238, 3) := dk_at dkB02decX2_14 49 rfl
theorem dX10_next_44 : decode cX10_next 44 = .ok (.astore_n 3, 1) := dk_at dkB02decX2_14 50 rfl
theorem dX10_next_45 : decode cX10_next 45 = .ok (.aload_n 3, 1) := dk_at dkB02decX2_14 51 rfl
theorem dX10_next_46 : decode cX10_next 46 = .ok (.getfield 242, 3) := dk_at dkB02decX2_14 52 rfl
theorem dX10_next_49 : decode cX10_next 49 = .ok (.lconst 0, 1) := dk_at dkB02decX2_14 53 rfl
theorem dX10_next_50 : decode cX10_next 50 = .ok (.lcmp, 1) := dk_at dkB02decX2_14 54 rfl
theorem dX10_next_51 : decode cX10_next 51 = .ok (.ifCond .ne 7, 3) := dk_at dkB02decX2_14 55 rfl
theorem dX10_next_54 : decode cX10_next 54 = .ok (.ldc2_w 276, 3) := dk_at dkB02decX2_14 56 rfl
theorem dX10_next_57 : decode cX10_next 57 = .ok (.lreturn, 1) := dk_at dkB02decX2_14 57 rfl
theorem dX10_next_58 : decode cX10_next 58 = .ok (.iconst 0, 1) := dk_at dkB02decX2_14 58 rfl
theorem dX10_next_59 : decode cX10_next 59 = .ok (.istore 4, 2) := dk_at dkB02decX2_14 59 rfl
noncomputable def dkL02decX2_15 : List (ByteArray × Nat × Instr × Nat) := [(cX10_next, 61, (.iconst 1, 1)), (cX10_next, 62, (.istore 5, 2)), (cX10_next, 64, (.iload 5, 2)), (cX10_next, 66, (.aload_n 3, 1)), (cX10_next, 67, (.getfield 278, 3)), (cX10_next, 70, (.if_icmp .ge 29, 3)), (cX10_next, 73, (.aload_n 3, 1)), (cX10_next, 74, (.iload 5, 2)), (cX10_next, 76, (.invokevirtual 280, 3)), (cX10_next, 79, (.aload_n 3, 1)), (cX10_next, 80, (.iload 4, 2)), (cX10_next, 82, (.invokevirtual 280, 3)), (cX10_next, 85, (.lcmp, 1)), (cX10_next, 86, (.ifCond .ge 7, 3)), (cX10_next, 89, (.iload 5, 2)), (cX10_next, 91, (.istore 4, 2)), (cX10_next, 93, (.iinc 5 1, 3)), (cX10_next, 96, (.goto (-32), 3)), (cX10_next, 99, (.iload_n 2, 1)), (cX10_next, 100, (.ifCond .ne 14, 3)), (cX10_next, 103, (.aload_n 3, 1)), (cX10_next, 104, (.getfield 284, 3)), (cX10_next, 107, (.iload 4, 2)), (cX10_next, 109, (.iaload, 1)), (cX10_next, 110, (.i2l, 1)), (cX10_next, 111, (.goto 9, 3)), (cX10_next, 114, (.aload_n 3, 1)), (cX10_next, 115, (.iload 4, 2)), (cX10_next, 117, (.invokevirtual 280, 3)), (cX10_next, 120, (.lreturn, 1)), (cX10_mustGo, 0, (.iload_n 1, 1)), (cX10_mustGo, 1, (.invokestatic 144, 3)), (cX10_mustGo, 4, (.ifCond .ne 5, 3)), (cX10_mustGo, 7, (.iconst (-1), 1)), (cX10_mustGo, 8, (.ireturn, 1)), (cX10_mustGo, 9, (.aload_n 0, 1)), (cX10_mustGo, 10, (.getfield 12, 3)), (cX10_mustGo, 13, (.getfield 147, 3)), (cX10_mustGo, 16, (.iload_n 1, 1)), (cX10_mustGo, 17, (.aaload, 1)), (cX10_mustGo, 18, (.invokevirtual 231, 3)), (cX10_mustGo, 21, (.ifCond .ne 6, 3)), (cX10_mustGo, 24, (.bipush (-2), 2)), (cX10_mustGo, 26, (.ireturn, 1)), (cX10_mustGo, 27, (.aload_n 0, 1)), (cX10_mustGo, 28, (.getfield 12, 3)), (cX10_mustGo, 31, (.getfield 157, 3)), (cX10_mustGo, 34, (.iload_n 1, 1)), (cX10_mustGo, 35, (.invokevirtual 286, 3)), (cX10_mustGo, 38, (.istore_n 2, 1)), (cX10_mustGo, 39, (.aload_n 0, 1)), (cX10_mustGo, 40, (.iload_n 1, 1)), (cX10_mustGo, 41, (.iconst 0, 1)), (cX10_mustGo, 42, (.invokevirtual 289, 3)), (cX10_mustGo, 45, (.lconst 0, 1)), (cX10_mustGo, 46, (.lcmp, 1)), (cX10_mustGo, 47, (.ifCond .ne 6, 3)), (cX10_mustGo, 50, (.bipush (-4), 2)), (cX10_mustGo, 52, (.ireturn, 1)), (cX10_mustGo, 53, (.iload_n 2, 1))]
theorem dkB02decX2_15 : dkL02decX2_15.all (fun q => decide (decode q.1 q.2.1 = .ok q.2.2)) = true := by decide +kernel
theorem dX10_next_61 : decode cX10_next 61 = .ok (.iconst 1, 1) := dk_at dkB02decX2_15 0 rfl
theorem dX10_next_62 : decode cX10_next 62 = .ok (.istore 5, 2) := dk_at dkB02decX2_15 1 rfl
theorem dX10_next_64 : decode cX10_next 64 = .ok (.iload 5, 2) := dk_at dkB02decX2_15 2 rfl
theorem dX10_next_66 : decode cX10_next 66 = .ok (.aload_n 3, 1) := dk_at dkB02decX2_15 3 rfl
theorem dX10_next_67 : decode cX10_next 67 = .ok (.getfield 278, 3) := dk_at dkB02decX2_15 4 rfl
theorem dX10_next_70 : decode cX10_next 70 = .ok (.if_icmp .ge 29, 3) := dk_at dkB02decX2_15 5 rfl
theorem dX10_next_73 : decode cX10_next 73 = .ok (.aload_n 3, 1) := dk_at dkB02decX2_15 6 rfl
theorem dX10_next_74 : decode cX10_next 74 = .ok (.iload 5, 2) := dk_at dkB02decX2_15 7 rfl
theorem dX10_next_76 : decode cX10_next 76 = .ok (.invokevirtual 280, 3) := dk_at dkB02decX2_15 8 rfl
theorem dX10_next_79 : decode cX10_next 79 = .ok (.aload_n 3, 1) := dk_at dkB02decX2_15 9 rfl
theorem dX10_next_80 : decode cX10_next 80 = .ok (.iload 4, 2) := dk_at dkB02decX2_15 10 rfl
theorem dX10_next_82 : decode cX10_next 82 = .ok (.invokevirtual 280, 3) := dk_at dkB02decX2_15 11 rfl
theorem dX10_next_85 : decode cX10_next 85 = .ok (.lcmp, 1) := dk_at dkB02decX2_15 12 rfl
theorem dX10_next_86 : decode cX10_next 86 = .ok (.ifCond .ge 7, 3) := dk_at dkB02decX2_15 13 rfl
theorem dX10_next_89 : decode cX10_next 89 = .ok (.iload 5, 2) := dk_at dkB02decX2_15 14 rfl
theorem dX10_next_91 : decode cX10_next 91 = .ok (.istore 4, 2) := dk_at dkB02decX2_15 15 rfl
theorem dX10_next_93 : decode cX10_next 93 = .ok (.iinc 5 1, 3) := dk_at dkB02decX2_15 16 rfl
theorem dX10_next_96 : decode cX10_next 96 = .ok (.goto (-32), 3) := dk_at dkB02decX2_15 17 rfl
theorem dX10_next_99 : decode cX10_next 99 = .ok (.iload_n 2, 1) := dk_at dkB02decX2_15 18 rfl
theorem dX10_next_100 : decode cX10_next 100 = .ok (.ifCond .ne 14, 3) := dk_at dkB02decX2_15 19 rfl
theorem dX10_next_103 : decode cX10_next 103 = .ok (.aload_n 3, 1) := dk_at dkB02decX2_15 20 rfl
theorem dX10_next_104 : decode cX10_next 104 = .ok (.getfield 284, 3) := dk_at dkB02decX2_15 21 rfl
theorem dX10_next_107 : decode cX10_next 107 = .ok (.iload 4, 2) := dk_at dkB02decX2_15 22 rfl
theorem dX10_next_109 : decode cX10_next 109 = .ok (.iaload, 1) := dk_at dkB02decX2_15 23 rfl
theorem dX10_next_110 : decode cX10_next 110 = .ok (.i2l, 1) := dk_at dkB02decX2_15 24 rfl
theorem dX10_next_111 : decode cX10_next 111 = .ok (.goto 9, 3) := dk_at dkB02decX2_15 25 rfl
theorem dX10_next_114 : decode cX10_next 114 = .ok (.aload_n 3, 1) := dk_at dkB02decX2_15 26 rfl
theorem dX10_next_115 : decode cX10_next 115 = .ok (.iload 4, 2) := dk_at dkB02decX2_15 27 rfl
theorem dX10_next_117 : decode cX10_next 117 = .ok (.invokevirtual 280, 3) := dk_at dkB02decX2_15 28 rfl
theorem dX10_next_120 : decode cX10_next 120 = .ok (.lreturn, 1) := dk_at dkB02decX2_15 29 rfl
theorem dX10_mustGo_0 : decode cX10_mustGo 0 = .ok (.iload_n 1, 1) := dk_at dkB02decX2_15 30 rfl
theorem dX10_mustGo_1 : decode cX10_mustGo 1 = .ok (.invokestatic 144, 3) := dk_at dkB02decX2_15 31 rfl
theorem dX10_mustGo_4 : decode cX10_mustGo 4 = .ok (.ifCond .ne 5, 3) := dk_at dkB02decX2_15 32 rfl
theorem dX10_mustGo_7 : decode cX10_mustGo 7 = .ok (.iconst (-1), 1) := dk_at dkB02decX2_15 33 rfl
theorem dX10_mustGo_8 : decode cX10_mustGo 8 = .ok (.ireturn, 1) := dk_at dkB02decX2_15 34 rfl
theorem dX10_mustGo_9 : decode cX10_mustGo 9 = .ok (.aload_n 0, 1) := dk_at dkB02decX2_15 35 rfl
theorem dX10_mustGo_10 : decode cX10_mustGo 10 = .ok (.getfield 12, 3) := dk_at dkB02decX2_15 36 rfl
theorem dX10_mustGo_13 : decode cX10_mustGo 13 = .ok (.getfield 147, 3) := dk_at dkB02decX2_15 37 rfl
theorem dX10_mustGo_16 : decode cX10_mustGo 16 = .ok (.iload_n 1, 1) := dk_at dkB02decX2_15 38 rfl
theorem dX10_mustGo_17 : decode cX10_mustGo 17 = .ok (.aaload, 1) := dk_at dkB02decX2_15 39 rfl
theorem dX10_mustGo_18 : decode cX10_mustGo 18 = .ok (.invokevirtual 231, 3) := dk_at dkB02decX2_15 40 rfl
theorem dX10_mustGo_21 : decode cX10_mustGo 21 = .ok (.ifCond .ne 6, 3) := dk_at dkB02decX2_15 41 rfl
theorem dX10_mustGo_24 : decode cX10_mustGo 24 = .ok (.bipush (-2), 2) := dk_at dkB02decX2_15 42 rfl
theorem dX10_mustGo_26 : decode cX10_mustGo 26 = .ok (.ireturn, 1) := dk_at dkB02decX2_15 43 rfl
theorem dX10_mustGo_27 : decode cX10_mustGo 27 = .ok (.aload_n 0, 1) := dk_at dkB02decX2_15 44 rfl
theorem dX10_mustGo_28 : decode cX10_mustGo 28 = .ok (.getfield 12, 3) := dk_at dkB02decX2_15 45 rfl
theorem dX10_mustGo_31 : decode cX10_mustGo 31 = .ok (.getfield 157, 3) := dk_at dkB02decX2_15 46 rfl
theorem dX10_mustGo_34 : decode cX10_mustGo 34 = .ok (.iload_n 1, 1) := dk_at dkB02decX2_15 47 rfl
theorem dX10_mustGo_35 : decode cX10_mustGo 35 = .ok (.invokevirtual 286, 3) := dk_at dkB02decX2_15 48 rfl
theorem dX10_mustGo_38 : decode cX10_mustGo 38 = .ok (.istore_n 2, 1) := dk_at dkB02decX2_15 49 rfl
theorem dX10_mustGo_39 : decode cX10_mustGo 39 = .ok (.aload_n 0, 1) := dk_at dkB02decX2_15 50 rfl
theorem dX10_mustGo_40 : decode cX10_mustGo 40 = .ok (.iload_n 1, 1) := dk_at dkB02decX2_15 51 rfl
theorem dX10_mustGo_41 : decode cX10_mustGo 41 = .ok (.iconst 0, 1) := dk_at dkB02decX2_15 52 rfl
theorem dX10_mustGo_42 : decode cX10_mustGo 42 = .ok (.invokevirtual 289, 3) := dk_at dkB02decX2_15 53 rfl
theorem dX10_mustGo_45 : decode cX10_mustGo 45 = .ok (.lconst 0, 1) := dk_at dkB02decX2_15 54 rfl
theorem dX10_mustGo_46 : decode cX10_mustGo 46 = .ok (.lcmp, 1) := dk_at dkB02decX2_15 55 rfl
theorem dX10_mustGo_47 : decode cX10_mustGo 47 = .ok (.ifCond .ne 6, 3) := dk_at dkB02decX2_15 56 rfl
theorem dX10_mustGo_50 : decode cX10_mustGo 50 = .ok (.bipush (-4), 2) := dk_at dkB02decX2_15 57 rfl
theorem dX10_mustGo_52 : decode cX10_mustGo 52 = .ok (.ireturn, 1) := dk_at dkB02decX2_15 58 rfl
theorem dX10_mustGo_53 : decode cX10_mustGo 53 = .ok (.iload_n 2, 1) := dk_at dkB02decX2_15 59 rfl
noncomputable def dkL02decX2_16 : List (ByteArray × Nat × Instr × Nat) := [(cX10_mustGo, 54, (.istore_n 3, 1)), (cX10_mustGo, 55, (.iconst 0, 1)), (cX10_mustGo, 56, (.istore 4, 2)), (cX10_mustGo, 58, (.iload 4, 2)), (cX10_mustGo, 60, (.iload_n 2, 1)), (cX10_mustGo, 61, (.if_icmp .ge 61, 3)), (cX10_mustGo, 64, (.iload 4, 2)), (cX10_mustGo, 66, (.invokestatic 292, 3)), (cX10_mustGo, 69, (.iload_n 3, 1)), (cX10_mustGo, 70, (.invokestatic 292, 3)), (cX10_mustGo, 73, (.if_icmp .ge 7, 3)), (cX10_mustGo, 76, (.iconst 1, 1)), (cX10_mustGo, 77, (.goto 4, 3)), (cX10_mustGo, 80, (.iconst 0, 1)), (cX10_mustGo, 81, (.istore 5, 2)), (cX10_mustGo, 83, (.iload 4, 2)), (cX10_mustGo, 85, (.iload_n 2, 1)), (cX10_mustGo, 86, (.iconst (-1), 1)), (cX10_mustGo, 87, (.ixor, 1)), (cX10_mustGo, 88, (.iand, 1)), (cX10_mustGo, 89, (.ifCond .ne 27, 3)), (cX10_mustGo, 92, (.iload 5, 2)), (cX10_mustGo, 94, (.ifCond .eq 22, 3)), (cX10_mustGo, 97, (.aload_n 0, 1)), (cX10_mustGo, 98, (.iload_n 1, 1)), (cX10_mustGo, 99, (.iload_n 2, 1)), (cX10_mustGo, 100, (.iload 4, 2)), (cX10_mustGo, 102, (.iconst (-1), 1)), (cX10_mustGo, 103, (.ixor, 1)), (cX10_mustGo, 104, (.iand, 1)), (cX10_mustGo, 105, (.invokevirtual 289, 3)), (cX10_mustGo, 108, (.lconst 0, 1)), (cX10_mustGo, 109, (.lcmp, 1)), (cX10_mustGo, 110, (.ifCond .le 6, 3)), (cX10_mustGo, 113, (.iload 4, 2)), (cX10_mustGo, 115, (.istore_n 3, 1)), (cX10_mustGo, 116, (.iinc 4 1, 3)), (cX10_mustGo, 119, (.goto (-61), 3)), (cX10_mustGo, 122, (.iload_n 3, 1)), (cX10_mustGo, 123, (.ireturn, 1)), (cX10_waysWith, 0, (.aload_n 0, 1)), (cX10_waysWith, 1, (.getfield 50, 3)), (cX10_waysWith, 4, (.iload_n 1, 1)), (cX10_waysWith, 5, (.aaload, 1)), (cX10_waysWith, 6, (.astore_n 3, 1)), (cX10_waysWith, 7, (.aload_n 0, 1)), (cX10_waysWith, 8, (.getfield 54, 3)), (cX10_waysWith, 11, (.iload_n 1, 1)), (cX10_waysWith, 12, (.iconst 0, 1)), (cX10_waysWith, 13, (.bastore, 1)), (cX10_waysWith, 14, (.aload_n 3, 1)), (cX10_waysWith, 15, (.aload_n 0, 1)), (cX10_waysWith, 16, (.getfield 12, 3)), (cX10_waysWith, 19, (.getfield 147, 3)), (cX10_waysWith, 22, (.iload_n 1, 1)), (cX10_waysWith, 23, (.aaload, 1)), (cX10_waysWith, 24, (.aload_n 0, 1)), (cX10_waysWith, 25, (.getfield 12, 3)), (cX10_waysWith, 28, (.getfield 157, 3)), (cX10_waysWith, 31, (.iload_n 2, 1))]
theorem dkB02decX2_16 : dkL02decX2_16.all (fun q => decide (decode q.1 q.2.1 = .ok q.2.2)) = true := by decide +kernel
theorem dX10_mustGo_54 : decode cX10_mustGo 54 = .ok (.istore_n 3, 1) := dk_at dkB02decX2_16 0 rfl
theorem dX10_mustGo_55 : decode cX10_mustGo 55 = .ok (.iconst 0, 1) := dk_at dkB02decX2_16 1 rfl
theorem dX10_mustGo_56 : decode cX10_mustGo 56 = .ok (.istore 4, 2) := dk_at dkB02decX2_16 2 rfl
theorem dX10_mustGo_58 : decode cX10_mustGo 58 = .ok (.iload 4, 2) := dk_at dkB02decX2_16 3 rfl
theorem dX10_mustGo_60 : decode cX10_mustGo 60 = .ok (.iload_n 2, 1) := dk_at dkB02decX2_16 4 rfl
theorem dX10_mustGo_61 : decode cX10_mustGo 61 = .ok (.if_icmp .ge 61, 3) := dk_at dkB02decX2_16 5 rfl
theorem dX10_mustGo_64 : decode cX10_mustGo 64 = .ok (.iload 4, 2) := dk_at dkB02decX2_16 6 rfl
theorem dX10_mustGo_66 : decode cX10_mustGo 66 = .ok (.invokestatic 292, 3) := dk_at dkB02decX2_16 7 rfl
theorem dX10_mustGo_69 : decode cX10_mustGo 69 = .ok (.iload_n 3, 1) := dk_at dkB02decX2_16 8 rfl
theorem dX10_mustGo_70 : decode cX10_mustGo 70 = .ok (.invokestatic 292, 3) := dk_at dkB02decX2_16 9 rfl
theorem dX10_mustGo_73 : decode cX10_mustGo 73 = .ok (.if_icmp .ge 7, 3) := dk_at dkB02decX2_16 10 rfl
theorem dX10_mustGo_76 : decode cX10_mustGo 76 = .ok (.iconst 1, 1) := dk_at dkB02decX2_16 11 rfl
theorem dX10_mustGo_77 : decode cX10_mustGo 77 = .ok (.goto 4, 3) := dk_at dkB02decX2_16 12 rfl
theorem dX10_mustGo_80 : decode cX10_mustGo 80 = .ok (.iconst 0, 1) := dk_at dkB02decX2_16 13 rfl
theorem dX10_mustGo_81 : decode cX10_mustGo 81 = .ok (.istore 5, 2) := dk_at dkB02decX2_16 14 rfl
theorem dX10_mustGo_83 : decode cX10_mustGo 83 = .ok (.iload 4, 2) := dk_at dkB02decX2_16 15 rfl
theorem dX10_mustGo_85 : decode cX10_mustGo 85 = .ok (.iload_n 2, 1) := dk_at dkB02decX2_16 16 rfl
theorem dX10_mustGo_86 : decode cX10_mustGo 86 = .ok (.iconst (-1), 1) := dk_at dkB02decX2_16 17 rfl
theorem dX10_mustGo_87 : decode cX10_mustGo 87 = .ok (.ixor, 1) := dk_at dkB02decX2_16 18 rfl
theorem dX10_mustGo_88 : decode cX10_mustGo 88 = .ok (.iand, 1) := dk_at dkB02decX2_16 19 rfl
theorem dX10_mustGo_89 : decode cX10_mustGo 89 = .ok (.ifCond .ne 27, 3) := dk_at dkB02decX2_16 20 rfl
theorem dX10_mustGo_92 : decode cX10_mustGo 92 = .ok (.iload 5, 2) := dk_at dkB02decX2_16 21 rfl
theorem dX10_mustGo_94 : decode cX10_mustGo 94 = .ok (.ifCond .eq 22, 3) := dk_at dkB02decX2_16 22 rfl
theorem dX10_mustGo_97 : decode cX10_mustGo 97 = .ok (.aload_n 0, 1) := dk_at dkB02decX2_16 23 rfl
theorem dX10_mustGo_98 : decode cX10_mustGo 98 = .ok (.iload_n 1, 1) := dk_at dkB02decX2_16 24 rfl
theorem dX10_mustGo_99 : decode cX10_mustGo 99 = .ok (.iload_n 2, 1) := dk_at dkB02decX2_16 25 rfl
theorem dX10_mustGo_100 : decode cX10_mustGo 100 = .ok (.iload 4, 2) := dk_at dkB02decX2_16 26 rfl
theorem dX10_mustGo_102 : decode cX10_mustGo 102 = .ok (.iconst (-1), 1) := dk_at dkB02decX2_16 27 rfl
theorem dX10_mustGo_103 : decode cX10_mustGo 103 = .ok (.ixor, 1) := dk_at dkB02decX2_16 28 rfl
theorem dX10_mustGo_104 : decode cX10_mustGo 104 = .ok (.iand, 1) := dk_at dkB02decX2_16 29 rfl
theorem dX10_mustGo_105 : decode cX10_mustGo 105 = .ok (.invokevirtual 289, 3) := dk_at dkB02decX2_16 30 rfl
theorem dX10_mustGo_108 : decode cX10_mustGo 108 = .ok (.lconst 0, 1) := dk_at dkB02decX2_16 31 rfl
theorem dX10_mustGo_109 : decode cX10_mustGo 109 = .ok (.lcmp, 1) := dk_at dkB02decX2_16 32 rfl
theorem dX10_mustGo_110 : decode cX10_mustGo 110 = .ok (.ifCond .le 6, 3) := dk_at dkB02decX2_16 33 rfl
theorem dX10_mustGo_113 : decode cX10_mustGo 113 = .ok (.iload 4, 2) := dk_at dkB02decX2_16 34 rfl
theorem dX10_mustGo_115 : decode cX10_mustGo 115 = .ok (.istore_n 3, 1) := dk_at dkB02decX2_16 35 rfl
theorem dX10_mustGo_116 : decode cX10_mustGo 116 = .ok (.iinc 4 1, 3) := dk_at dkB02decX2_16 36 rfl
theorem dX10_mustGo_119 : decode cX10_mustGo 119 = .ok (.goto (-61), 3) := dk_at dkB02decX2_16 37 rfl
theorem dX10_mustGo_122 : decode cX10_mustGo 122 = .ok (.iload_n 3, 1) := dk_at dkB02decX2_16 38 rfl
theorem dX10_mustGo_123 : decode cX10_mustGo 123 = .ok (.ireturn, 1) := dk_at dkB02decX2_16 39 rfl
theorem dX10_waysWith_0 : decode cX10_waysWith 0 = .ok (.aload_n 0, 1) := dk_at dkB02decX2_16 40 rfl
theorem dX10_waysWith_1 : decode cX10_waysWith 1 = .ok (.getfield 50, 3) := dk_at dkB02decX2_16 41 rfl
theorem dX10_waysWith_4 : decode cX10_waysWith 4 = .ok (.iload_n 1, 1) := dk_at dkB02decX2_16 42 rfl
theorem dX10_waysWith_5 : decode cX10_waysWith 5 = .ok (.aaload, 1) := dk_at dkB02decX2_16 43 rfl
theorem dX10_waysWith_6 : decode cX10_waysWith 6 = .ok (.astore_n 3, 1) := dk_at dkB02decX2_16 44 rfl
theorem dX10_waysWith_7 : decode cX10_waysWith 7 = .ok (.aload_n 0, 1) := dk_at dkB02decX2_16 45 rfl
theorem dX10_waysWith_8 : decode cX10_waysWith 8 = .ok (.getfield 54, 3) := dk_at dkB02decX2_16 46 rfl
theorem dX10_waysWith_11 : decode cX10_waysWith 11 = .ok (.iload_n 1, 1) := dk_at dkB02decX2_16 47 rfl
theorem dX10_waysWith_12 : decode cX10_waysWith 12 = .ok (.iconst 0, 1) := dk_at dkB02decX2_16 48 rfl
theorem dX10_waysWith_13 : decode cX10_waysWith 13 = .ok (.bastore, 1) := dk_at dkB02decX2_16 49 rfl
theorem dX10_waysWith_14 : decode cX10_waysWith 14 = .ok (.aload_n 3, 1) := dk_at dkB02decX2_16 50 rfl
theorem dX10_waysWith_15 : decode cX10_waysWith 15 = .ok (.aload_n 0, 1) := dk_at dkB02decX2_16 51 rfl
theorem dX10_waysWith_16 : decode cX10_waysWith 16 = .ok (.getfield 12, 3) := dk_at dkB02decX2_16 52 rfl
theorem dX10_waysWith_19 : decode cX10_waysWith 19 = .ok (.getfield 147, 3) := dk_at dkB02decX2_16 53 rfl
theorem dX10_waysWith_22 : decode cX10_waysWith 22 = .ok (.iload_n 1, 1) := dk_at dkB02decX2_16 54 rfl
theorem dX10_waysWith_23 : decode cX10_waysWith 23 = .ok (.aaload, 1) := dk_at dkB02decX2_16 55 rfl
theorem dX10_waysWith_24 : decode cX10_waysWith 24 = .ok (.aload_n 0, 1) := dk_at dkB02decX2_16 56 rfl
theorem dX10_waysWith_25 : decode cX10_waysWith 25 = .ok (.getfield 12, 3) := dk_at dkB02decX2_16 57 rfl
theorem dX10_waysWith_28 : decode cX10_waysWith 28 = .ok (.getfield 157, 3) := dk_at dkB02decX2_16 58 rfl
theorem dX10_waysWith_31 : decode cX10_waysWith 31 = .ok (.iload_n 2, 1) := dk_at dkB02decX2_16 59 rfl
noncomputable def dkL02decX2_17 : List (ByteArray × Nat × Instr × Nat) := [(cX10_waysWith, 32, (.invokevirtual 297, 3)), (cX10_waysWith, 35, (.aload_n 3, 1)), (cX10_waysWith, 36, (.invokevirtual 301, 3)), (cX10_waysWith, 39, (.aload_n 3, 1)), (cX10_waysWith, 40, (.getfield 242, 3)), (cX10_waysWith, 43, (.lreturn, 1)), (cX10_leans, 0, (.iload_n 1, 1)), (cX10_leans, 1, (.iconst 0, 1)), (cX10_leans, 2, (.aload_n 0, 1)), (cX10_leans, 3, (.getfield 12, 3)), (cX10_leans, 6, (.getfield 157, 3)), (cX10_leans, 9, (.getfield 210, 3)), (cX10_leans, 12, (.iconst 1, 1)), (cX10_leans, 13, (.isub, 1)), (cX10_leans, 14, (.invokestatic 69, 3)), (cX10_leans, 17, (.ifCond .eq 12, 3)), (cX10_leans, 20, (.iload_n 3, 1)), (cX10_leans, 21, (.iconst 0, 1)), (cX10_leans, 22, (.iconst 1, 1)), (cX10_leans, 23, (.invokestatic 69, 3)), (cX10_leans, 26, (.ifCond .ne 7, 3)), (cX10_leans, 29, (.sipush (-1001), 3)), (cX10_leans, 32, (.ireturn, 1)), (cX10_leans, 33, (.aload_n 0, 1)), (cX10_leans, 34, (.getfield 12, 3)), (cX10_leans, 37, (.getfield 157, 3)), (cX10_leans, 40, (.getfield 219, 3)), (cX10_leans, 43, (.iload_n 1, 1)), (cX10_leans, 44, (.iaload, 1)), (cX10_leans, 45, (.istore 4, 2)), (cX10_leans, 47, (.aload_n 0, 1)), (cX10_leans, 48, (.iload 4, 2)), (cX10_leans, 50, (.iload_n 2, 1)), (cX10_leans, 51, (.invokevirtual 170, 3)), (cX10_leans, 54, (.ifCond .ne 7, 3)), (cX10_leans, 57, (.sipush (-1001), 3)), (cX10_leans, 60, (.ireturn, 1)), (cX10_leans, 61, (.aload_n 0, 1)), (cX10_leans, 62, (.getfield 12, 3)), (cX10_leans, 65, (.getfield 147, 3)), (cX10_leans, 68, (.iload 4, 2)), (cX10_leans, 70, (.aaload, 1)), (cX10_leans, 71, (.iload_n 2, 1)), (cX10_leans, 72, (.invokevirtual 177, 3)), (cX10_leans, 75, (.ifCond .ne 7, 3)), (cX10_leans, 78, (.sipush (-1012), 3)), (cX10_leans, 81, (.ireturn, 1)), (cX10_leans, 82, (.aload_n 0, 1)), (cX10_leans, 83, (.getfield 12, 3)), (cX10_leans, 86, (.getfield 157, 3)), (cX10_leans, 89, (.iload 4, 2)), (cX10_leans, 91, (.invokevirtual 286, 3)), (cX10_leans, 94, (.iconst 1, 1)), (cX10_leans, 95, (.iload_n 1, 1)), (cX10_leans, 96, (.ishl, 1)), (cX10_leans, 97, (.iconst (-1), 1)), (cX10_leans, 98, (.ixor, 1)), (cX10_leans, 99, (.iand, 1)), (cX10_leans, 100, (.istore 5, 2)), (cX10_leans, 102, (.aload_n 0, 1))]
theorem dkB02decX2_17 : dkL02decX2_17.all (fun q => decide (decode q.1 q.2.1 = .ok q.2.2)) = true := by decide +kernel
theorem dX10_waysWith_32 : decode cX10_waysWith 32 = .ok (.invokevirtual 297, 3) := dk_at dkB02decX2_17 0 rfl
theorem dX10_waysWith_35 : decode cX10_waysWith 35 = .ok (.aload_n 3, 1) := dk_at dkB02decX2_17 1 rfl
theorem dX10_waysWith_36 : decode cX10_waysWith 36 = .ok (.invokevirtual 301, 3) := dk_at dkB02decX2_17 2 rfl
theorem dX10_waysWith_39 : decode cX10_waysWith 39 = .ok (.aload_n 3, 1) := dk_at dkB02decX2_17 3 rfl
theorem dX10_waysWith_40 : decode cX10_waysWith 40 = .ok (.getfield 242, 3) := dk_at dkB02decX2_17 4 rfl
theorem dX10_waysWith_43 : decode cX10_waysWith 43 = .ok (.lreturn, 1) := dk_at dkB02decX2_17 5 rfl
theorem dX10_leans_0 : decode cX10_leans 0 = .ok (.iload_n 1, 1) := dk_at dkB02decX2_17 6 rfl
theorem dX10_leans_1 : decode cX10_leans 1 = .ok (.iconst 0, 1) := dk_at dkB02decX2_17 7 rfl
theorem dX10_leans_2 : decode cX10_leans 2 = .ok (.aload_n 0, 1) := dk_at dkB02decX2_17 8 rfl
theorem dX10_leans_3 : decode cX10_leans 3 = .ok (.getfield 12, 3) := dk_at dkB02decX2_17 9 rfl
theorem dX10_leans_6 : decode cX10_leans 6 = .ok (.getfield 157, 3) := dk_at dkB02decX2_17 10 rfl
theorem dX10_leans_9 : decode cX10_leans 9 = .ok (.getfield 210, 3) := dk_at dkB02decX2_17 11 rfl
theorem dX10_leans_12 : decode cX10_leans 12 = .ok (.iconst 1, 1) := dk_at dkB02decX2_17 12 rfl
theorem dX10_leans_13 : decode cX10_leans 13 = .ok (.isub, 1) := dk_at dkB02decX2_17 13 rfl
theorem dX10_leans_14 : decode cX10_leans 14 = .ok (.invokestatic 69, 3) := dk_at dkB02decX2_17 14 rfl
theorem dX10_leans_17 : decode cX10_leans 17 = .ok (.ifCond .eq 12, 3) := dk_at dkB02decX2_17 15 rfl
theorem dX10_leans_20 : decode cX10_leans 20 = .ok (.iload_n 3, 1) := dk_at dkB02decX2_17 16 rfl
theorem dX10_leans_21 : decode cX10_leans 21 = .ok (.iconst 0, 1) := dk_at dkB02decX2_17 17 rfl
theorem dX10_leans_22 : decode cX10_leans 22 = .ok (.iconst 1, 1) := dk_at dkB02decX2_17 18 rfl
theorem dX10_leans_23 : decode cX10_leans 23 = .ok (.invokestatic 69, 3) := dk_at dkB02decX2_17 19 rfl
theorem dX10_leans_26 : decode cX10_leans 26 = .ok (.ifCond .ne 7, 3) := dk_at dkB02decX2_17 20 rfl
theorem dX10_leans_29 : decode cX10_leans 29 = .ok (.sipush (-1001), 3) := dk_at dkB02decX2_17 21 rfl
theorem dX10_leans_32 : decode cX10_leans 32 = .ok (.ireturn, 1) := dk_at dkB02decX2_17 22 rfl
theorem dX10_leans_33 : decode cX10_leans 33 = .ok (.aload_n 0, 1) := dk_at dkB02decX2_17 23 rfl
theorem dX10_leans_34 : decode cX10_leans 34 = .ok (.getfield 12, 3) := dk_at dkB02decX2_17 24 rfl
theorem dX10_leans_37 : decode cX10_leans 37 = .ok (.getfield 157, 3) := dk_at dkB02decX2_17 25 rfl
theorem dX10_leans_40 : decode cX10_leans 40 = .ok (.getfield 219, 3) := dk_at dkB02decX2_17 26 rfl
theorem dX10_leans_43 : decode cX10_leans 43 = .ok (.iload_n 1, 1) := dk_at dkB02decX2_17 27 rfl
theorem dX10_leans_44 : decode cX10_leans 44 = .ok (.iaload, 1) := dk_at dkB02decX2_17 28 rfl
theorem dX10_leans_45 : decode cX10_leans 45 = .ok (.istore 4, 2) := dk_at dkB02decX2_17 29 rfl
theorem dX10_leans_47 : decode cX10_leans 47 = .ok (.aload_n 0, 1) := dk_at dkB02decX2_17 30 rfl
theorem dX10_leans_48 : decode cX10_leans 48 = .ok (.iload 4, 2) := dk_at dkB02decX2_17 31 rfl
theorem dX10_leans_50 : decode cX10_leans 50 = .ok (.iload_n 2, 1) := dk_at dkB02decX2_17 32 rfl
theorem dX10_leans_51 : decode cX10_leans 51 = .ok (.invokevirtual 170, 3) := dk_at dkB02decX2_17 33 rfl
theorem dX10_leans_54 : decode cX10_leans 54 = .ok (.ifCond .ne 7, 3) := dk_at dkB02decX2_17 34 rfl
theorem dX10_leans_57 : decode cX10_leans 57 = .ok (.sipush (-1001), 3) := dk_at dkB02decX2_17 35 rfl
theorem dX10_leans_60 : decode cX10_leans 60 = .ok (.ireturn, 1) := dk_at dkB02decX2_17 36 rfl
theorem dX10_leans_61 : decode cX10_leans 61 = .ok (.aload_n 0, 1) := dk_at dkB02decX2_17 37 rfl
theorem dX10_leans_62 : decode cX10_leans 62 = .ok (.getfield 12, 3) := dk_at dkB02decX2_17 38 rfl
theorem dX10_leans_65 : decode cX10_leans 65 = .ok (.getfield 147, 3) := dk_at dkB02decX2_17 39 rfl
theorem dX10_leans_68 : decode cX10_leans 68 = .ok (.iload 4, 2) := dk_at dkB02decX2_17 40 rfl
theorem dX10_leans_70 : decode cX10_leans 70 = .ok (.aaload, 1) := dk_at dkB02decX2_17 41 rfl
theorem dX10_leans_71 : decode cX10_leans 71 = .ok (.iload_n 2, 1) := dk_at dkB02decX2_17 42 rfl
theorem dX10_leans_72 : decode cX10_leans 72 = .ok (.invokevirtual 177, 3) := dk_at dkB02decX2_17 43 rfl
theorem dX10_leans_75 : decode cX10_leans 75 = .ok (.ifCond .ne 7, 3) := dk_at dkB02decX2_17 44 rfl
theorem dX10_leans_78 : decode cX10_leans 78 = .ok (.sipush (-1012), 3) := dk_at dkB02decX2_17 45 rfl
theorem dX10_leans_81 : decode cX10_leans 81 = .ok (.ireturn, 1) := dk_at dkB02decX2_17 46 rfl
theorem dX10_leans_82 : decode cX10_leans 82 = .ok (.aload_n 0, 1) := dk_at dkB02decX2_17 47 rfl
theorem dX10_leans_83 : decode cX10_leans 83 = .ok (.getfield 12, 3) := dk_at dkB02decX2_17 48 rfl
theorem dX10_leans_86 : decode cX10_leans 86 = .ok (.getfield 157, 3) := dk_at dkB02decX2_17 49 rfl
theorem dX10_leans_89 : decode cX10_leans 89 = .ok (.iload 4, 2) := dk_at dkB02decX2_17 50 rfl
theorem dX10_leans_91 : decode cX10_leans 91 = .ok (.invokevirtual 286, 3) := dk_at dkB02decX2_17 51 rfl
theorem dX10_leans_94 : decode cX10_leans 94 = .ok (.iconst 1, 1) := dk_at dkB02decX2_17 52 rfl
theorem dX10_leans_95 : decode cX10_leans 95 = .ok (.iload_n 1, 1) := dk_at dkB02decX2_17 53 rfl
theorem dX10_leans_96 : decode cX10_leans 96 = .ok (.ishl, 1) := dk_at dkB02decX2_17 54 rfl
theorem dX10_leans_97 : decode cX10_leans 97 = .ok (.iconst (-1), 1) := dk_at dkB02decX2_17 55 rfl
theorem dX10_leans_98 : decode cX10_leans 98 = .ok (.ixor, 1) := dk_at dkB02decX2_17 56 rfl
theorem dX10_leans_99 : decode cX10_leans 99 = .ok (.iand, 1) := dk_at dkB02decX2_17 57 rfl
theorem dX10_leans_100 : decode cX10_leans 100 = .ok (.istore 5, 2) := dk_at dkB02decX2_17 58 rfl
theorem dX10_leans_102 : decode cX10_leans 102 = .ok (.aload_n 0, 1) := dk_at dkB02decX2_17 59 rfl
noncomputable def dkL02decX2_18 : List (ByteArray × Nat × Instr × Nat) := [(cX10_leans, 103, (.iload 4, 2)), (cX10_leans, 105, (.iload_n 2, 1)), (cX10_leans, 106, (.iload_n 3, 1)), (cX10_leans, 107, (.iload 5, 2)), (cX10_leans, 109, (.iconst 1, 1)), (cX10_leans, 110, (.iload_n 1, 1)), (cX10_leans, 111, (.ishl, 1)), (cX10_leans, 112, (.ior, 1)), (cX10_leans, 113, (.invokevirtual 304, 3)), (cX10_leans, 116, (.istore 6, 2)), (cX10_leans, 118, (.aload_n 0, 1)), (cX10_leans, 119, (.iload 4, 2)), (cX10_leans, 121, (.iload_n 2, 1)), (cX10_leans, 122, (.iload_n 3, 1)), (cX10_leans, 123, (.iload 5, 2)), (cX10_leans, 125, (.invokevirtual 304, 3)), (cX10_leans, 128, (.istore 7, 2)), (cX10_leans, 130, (.iload 6, 2)), (cX10_leans, 132, (.ifCond .lt 8, 3)), (cX10_leans, 135, (.iload 7, 2)), (cX10_leans, 137, (.ifCond .ge 9, 3)), (cX10_leans, 140, (.sipush (-1004), 3)), (cX10_leans, 143, (.goto 8, 3)), (cX10_leans, 146, (.iload 7, 2)), (cX10_leans, 148, (.iload 6, 2)), (cX10_leans, 150, (.isub, 1)), (cX10_leans, 151, (.ireturn, 1)), (cX10_endWith, 0, (.aload_n 0, 1)), (cX10_endWith, 1, (.iload_n 1, 1)), (cX10_endWith, 2, (.iload 4, 2)), (cX10_endWith, 4, (.invokevirtual 289, 3)), (cX10_endWith, 7, (.lconst 0, 1)), (cX10_endWith, 8, (.lcmp, 1)), (cX10_endWith, 9, (.ifCond .ne 6, 3)), (cX10_endWith, 12, (.bipush (-4), 2)), (cX10_endWith, 14, (.ireturn, 1)), (cX10_endWith, 15, (.aload_n 0, 1)), (cX10_endWith, 16, (.getfield 50, 3)), (cX10_endWith, 19, (.iload_n 1, 1)), (cX10_endWith, 20, (.aaload, 1)), (cX10_endWith, 21, (.astore 5, 2)), (cX10_endWith, 23, (.aload 5, 2)), (cX10_endWith, 25, (.invokevirtual 308, 3)), (cX10_endWith, 28, (.aload 5, 2)), (cX10_endWith, 30, (.aload 5, 2)), (cX10_endWith, 32, (.getfield 246, 3)), (cX10_endWith, 35, (.iload_n 2, 1)), (cX10_endWith, 36, (.iaload, 1)), (cX10_endWith, 37, (.iload_n 3, 1)), (cX10_endWith, 38, (.invokevirtual 249, 3)), (cX10_endWith, 41, (.ireturn, 1)), (cX10_judge, 0, (.iload_n 1, 1)), (cX10_judge, 1, (.invokestatic 144, 3)), (cX10_judge, 4, (.ifCond .eq 11, 3)), (cX10_judge, 7, (.iload_n 2, 1)), (cX10_judge, 8, (.iload_n 3, 1)), (cX10_judge, 9, (.invokestatic 87, 3)), (cX10_judge, 12, (.ifCond .ne 5, 3)), (cX10_judge, 15, (.iconst (-1), 1)), (cX10_judge, 16, (.ireturn, 1))]
theorem dkB02decX2_18 : dkL02decX2_18.all (fun q => decide (decode q.1 q.2.1 = .ok q.2.2)) = true := by decide +kernel
theorem dX10_leans_103 : decode cX10_leans 103 = .ok (.iload 4, 2) := dk_at dkB02decX2_18 0 rfl
theorem dX10_leans_105 : decode cX10_leans 105 = .ok (.iload_n 2, 1) := dk_at dkB02decX2_18 1 rfl
theorem dX10_leans_106 : decode cX10_leans 106 = .ok (.iload_n 3, 1) := dk_at dkB02decX2_18 2 rfl
theorem dX10_leans_107 : decode cX10_leans 107 = .ok (.iload 5, 2) := dk_at dkB02decX2_18 3 rfl
theorem dX10_leans_109 : decode cX10_leans 109 = .ok (.iconst 1, 1) := dk_at dkB02decX2_18 4 rfl
theorem dX10_leans_110 : decode cX10_leans 110 = .ok (.iload_n 1, 1) := dk_at dkB02decX2_18 5 rfl
theorem dX10_leans_111 : decode cX10_leans 111 = .ok (.ishl, 1) := dk_at dkB02decX2_18 6 rfl
theorem dX10_leans_112 : decode cX10_leans 112 = .ok (.ior, 1) := dk_at dkB02decX2_18 7 rfl
theorem dX10_leans_113 : decode cX10_leans 113 = .ok (.invokevirtual 304, 3) := dk_at dkB02decX2_18 8 rfl
theorem dX10_leans_116 : decode cX10_leans 116 = .ok (.istore 6, 2) := dk_at dkB02decX2_18 9 rfl
theorem dX10_leans_118 : decode cX10_leans 118 = .ok (.aload_n 0, 1) := dk_at dkB02decX2_18 10 rfl
theorem dX10_leans_119 : decode cX10_leans 119 = .ok (.iload 4, 2) := dk_at dkB02decX2_18 11 rfl
theorem dX10_leans_121 : decode cX10_leans 121 = .ok (.iload_n 2, 1) := dk_at dkB02decX2_18 12 rfl
theorem dX10_leans_122 : decode cX10_leans 122 = .ok (.iload_n 3, 1) := dk_at dkB02decX2_18 13 rfl
theorem dX10_leans_123 : decode cX10_leans 123 = .ok (.iload 5, 2) := dk_at dkB02decX2_18 14 rfl
theorem dX10_leans_125 : decode cX10_leans 125 = .ok (.invokevirtual 304, 3) := dk_at dkB02decX2_18 15 rfl
theorem dX10_leans_128 : decode cX10_leans 128 = .ok (.istore 7, 2) := dk_at dkB02decX2_18 16 rfl
theorem dX10_leans_130 : decode cX10_leans 130 = .ok (.iload 6, 2) := dk_at dkB02decX2_18 17 rfl
theorem dX10_leans_132 : decode cX10_leans 132 = .ok (.ifCond .lt 8, 3) := dk_at dkB02decX2_18 18 rfl
theorem dX10_leans_135 : decode cX10_leans 135 = .ok (.iload 7, 2) := dk_at dkB02decX2_18 19 rfl
theorem dX10_leans_137 : decode cX10_leans 137 = .ok (.ifCond .ge 9, 3) := dk_at dkB02decX2_18 20 rfl
theorem dX10_leans_140 : decode cX10_leans 140 = .ok (.sipush (-1004), 3) := dk_at dkB02decX2_18 21 rfl
theorem dX10_leans_143 : decode cX10_leans 143 = .ok (.goto 8, 3) := dk_at dkB02decX2_18 22 rfl
theorem dX10_leans_146 : decode cX10_leans 146 = .ok (.iload 7, 2) := dk_at dkB02decX2_18 23 rfl
theorem dX10_leans_148 : decode cX10_leans 148 = .ok (.iload 6, 2) := dk_at dkB02decX2_18 24 rfl
theorem dX10_leans_150 : decode cX10_leans 150 = .ok (.isub, 1) := dk_at dkB02decX2_18 25 rfl
theorem dX10_leans_151 : decode cX10_leans 151 = .ok (.ireturn, 1) := dk_at dkB02decX2_18 26 rfl
theorem dX10_endWith_0 : decode cX10_endWith 0 = .ok (.aload_n 0, 1) := dk_at dkB02decX2_18 27 rfl
theorem dX10_endWith_1 : decode cX10_endWith 1 = .ok (.iload_n 1, 1) := dk_at dkB02decX2_18 28 rfl
theorem dX10_endWith_2 : decode cX10_endWith 2 = .ok (.iload 4, 2) := dk_at dkB02decX2_18 29 rfl
theorem dX10_endWith_4 : decode cX10_endWith 4 = .ok (.invokevirtual 289, 3) := dk_at dkB02decX2_18 30 rfl
theorem dX10_endWith_7 : decode cX10_endWith 7 = .ok (.lconst 0, 1) := dk_at dkB02decX2_18 31 rfl
theorem dX10_endWith_8 : decode cX10_endWith 8 = .ok (.lcmp, 1) := dk_at dkB02decX2_18 32 rfl
theorem dX10_endWith_9 : decode cX10_endWith 9 = .ok (.ifCond .ne 6, 3) := dk_at dkB02decX2_18 33 rfl
theorem dX10_endWith_12 : decode cX10_endWith 12 = .ok (.bipush (-4), 2) := dk_at dkB02decX2_18 34 rfl
theorem dX10_endWith_14 : decode cX10_endWith 14 = .ok (.ireturn, 1) := dk_at dkB02decX2_18 35 rfl
theorem dX10_endWith_15 : decode cX10_endWith 15 = .ok (.aload_n 0, 1) := dk_at dkB02decX2_18 36 rfl
theorem dX10_endWith_16 : decode cX10_endWith 16 = .ok (.getfield 50, 3) := dk_at dkB02decX2_18 37 rfl
theorem dX10_endWith_19 : decode cX10_endWith 19 = .ok (.iload_n 1, 1) := dk_at dkB02decX2_18 38 rfl
theorem dX10_endWith_20 : decode cX10_endWith 20 = .ok (.aaload, 1) := dk_at dkB02decX2_18 39 rfl
theorem dX10_endWith_21 : decode cX10_endWith 21 = .ok (.astore 5, 2) := dk_at dkB02decX2_18 40 rfl
theorem dX10_endWith_23 : decode cX10_endWith 23 = .ok (.aload 5, 2) := dk_at dkB02decX2_18 41 rfl
theorem dX10_endWith_25 : decode cX10_endWith 25 = .ok (.invokevirtual 308, 3) := dk_at dkB02decX2_18 42 rfl
theorem dX10_endWith_28 : decode cX10_endWith 28 = .ok (.aload 5, 2) := dk_at dkB02decX2_18 43 rfl
theorem dX10_endWith_30 : decode cX10_endWith 30 = .ok (.aload 5, 2) := dk_at dkB02decX2_18 44 rfl
theorem dX10_endWith_32 : decode cX10_endWith 32 = .ok (.getfield 246, 3) := dk_at dkB02decX2_18 45 rfl
theorem dX10_endWith_35 : decode cX10_endWith 35 = .ok (.iload_n 2, 1) := dk_at dkB02decX2_18 46 rfl
theorem dX10_endWith_36 : decode cX10_endWith 36 = .ok (.iaload, 1) := dk_at dkB02decX2_18 47 rfl
theorem dX10_endWith_37 : decode cX10_endWith 37 = .ok (.iload_n 3, 1) := dk_at dkB02decX2_18 48 rfl
theorem dX10_endWith_38 : decode cX10_endWith 38 = .ok (.invokevirtual 249, 3) := dk_at dkB02decX2_18 49 rfl
theorem dX10_endWith_41 : decode cX10_endWith 41 = .ok (.ireturn, 1) := dk_at dkB02decX2_18 50 rfl
theorem dX10_judge_0 : decode cX10_judge 0 = .ok (.iload_n 1, 1) := dk_at dkB02decX2_18 51 rfl
theorem dX10_judge_1 : decode cX10_judge 1 = .ok (.invokestatic 144, 3) := dk_at dkB02decX2_18 52 rfl
theorem dX10_judge_4 : decode cX10_judge 4 = .ok (.ifCond .eq 11, 3) := dk_at dkB02decX2_18 53 rfl
theorem dX10_judge_7 : decode cX10_judge 7 = .ok (.iload_n 2, 1) := dk_at dkB02decX2_18 54 rfl
theorem dX10_judge_8 : decode cX10_judge 8 = .ok (.iload_n 3, 1) := dk_at dkB02decX2_18 55 rfl
theorem dX10_judge_9 : decode cX10_judge 9 = .ok (.invokestatic 87, 3) := dk_at dkB02decX2_18 56 rfl
theorem dX10_judge_12 : decode cX10_judge 12 = .ok (.ifCond .ne 5, 3) := dk_at dkB02decX2_18 57 rfl
theorem dX10_judge_15 : decode cX10_judge 15 = .ok (.iconst (-1), 1) := dk_at dkB02decX2_18 58 rfl
theorem dX10_judge_16 : decode cX10_judge 16 = .ok (.ireturn, 1) := dk_at dkB02decX2_18 59 rfl
noncomputable def dkL02decX2_19 : List (ByteArray × Nat × Instr × Nat) := [(cX10_judge, 17, (.aload_n 0, 1)), (cX10_judge, 18, (.getfield 12, 3)), (cX10_judge, 21, (.getfield 147, 3)), (cX10_judge, 24, (.iload_n 1, 1)), (cX10_judge, 25, (.aaload, 1)), (cX10_judge, 26, (.invokevirtual 231, 3)), (cX10_judge, 29, (.istore 5, 2)), (cX10_judge, 31, (.iload 5, 2)), (cX10_judge, 33, (.ifCond .ne 6, 3)), (cX10_judge, 36, (.bipush (-2), 2)), (cX10_judge, 38, (.ireturn, 1)), (cX10_judge, 39, (.aload_n 0, 1)), (cX10_judge, 40, (.getfield 43, 3)), (cX10_judge, 43, (.iload_n 2, 1)), (cX10_judge, 44, (.aaload, 1)), (cX10_judge, 45, (.iload_n 3, 1)), (cX10_judge, 46, (.iload 4, 2)), (cX10_judge, 48, (.iload 5, 2)), (cX10_judge, 50, (.invokevirtual 90, 3)), (cX10_judge, 53, (.istore 6, 2)), (cX10_judge, 55, (.iload 6, 2)), (cX10_judge, 57, (.ifCond .eq 6, 3)), (cX10_judge, 60, (.iload 6, 2)), (cX10_judge, 62, (.ireturn, 1)), (cX10_judge, 63, (.aload_n 0, 1)), (cX10_judge, 64, (.iload_n 1, 1)), (cX10_judge, 65, (.invokevirtual 238, 3)), (cX10_judge, 68, (.astore 7, 2)), (cX10_judge, 70, (.aload 7, 2)), (cX10_judge, 72, (.aload_n 0, 1)), (cX10_judge, 73, (.getfield 43, 3)), (cX10_judge, 76, (.iload_n 2, 1)), (cX10_judge, 77, (.aaload, 1)), (cX10_judge, 78, (.getfield 94, 3)), (cX10_judge, 81, (.iload 4, 2)), (cX10_judge, 83, (.invokevirtual 311, 3)), (cX10_judge, 86, (.istore 8, 2)), (cX10_judge, 88, (.iload 8, 2)), (cX10_judge, 90, (.ifCond .ge 8, 3)), (cX10_judge, 93, (.bipush (-4), 2)), (cX10_judge, 95, (.goto 11, 3)), (cX10_judge, 98, (.aload 7, 2)), (cX10_judge, 100, (.getfield 284, 3)), (cX10_judge, 103, (.iload 8, 2)), (cX10_judge, 105, (.iaload, 1)), (cX10_judge, 106, (.ireturn, 1)), (cX10_lineOf, 0, (.aload_n 0, 1)), (cX10_lineOf, 1, (.getfield 54, 3)), (cX10_lineOf, 4, (.iload_n 1, 1)), (cX10_lineOf, 5, (.baload, 1)), (cX10_lineOf, 6, (.ifCond .ne 36, 3)), (cX10_lineOf, 9, (.aload_n 0, 1)), (cX10_lineOf, 10, (.iload_n 1, 1)), (cX10_lineOf, 11, (.aload_n 0, 1)), (cX10_lineOf, 12, (.getfield 12, 3)), (cX10_lineOf, 15, (.getfield 157, 3)), (cX10_lineOf, 18, (.iload_n 1, 1)), (cX10_lineOf, 19, (.invokevirtual 286, 3)), (cX10_lineOf, 22, (.invokevirtual 289, 3)), (cX10_lineOf, 25, (.pop2, 1))]
theorem dkB02decX2_19 : dkL02decX2_19.all (fun q => decide (decode q.1 q.2.1 = .ok q.2.2)) = true := by decide +kernel
theorem dX10_judge_17 : decode cX10_judge 17 = .ok (.aload_n 0, 1) := dk_at dkB02decX2_19 0 rfl
theorem dX10_judge_18 : decode cX10_judge 18 = .ok (.getfield 12, 3) := dk_at dkB02decX2_19 1 rfl
theorem dX10_judge_21 : decode cX10_judge 21 = .ok (.getfield 147, 3) := dk_at dkB02decX2_19 2 rfl
theorem dX10_judge_24 : decode cX10_judge 24 = .ok (.iload_n 1, 1) := dk_at dkB02decX2_19 3 rfl
theorem dX10_judge_25 : decode cX10_judge 25 = .ok (.aaload, 1) := dk_at dkB02decX2_19 4 rfl
theorem dX10_judge_26 : decode cX10_judge 26 = .ok (.invokevirtual 231, 3) := dk_at dkB02decX2_19 5 rfl
theorem dX10_judge_29 : decode cX10_judge 29 = .ok (.istore 5, 2) := dk_at dkB02decX2_19 6 rfl
theorem dX10_judge_31 : decode cX10_judge 31 = .ok (.iload 5, 2) := dk_at dkB02decX2_19 7 rfl
theorem dX10_judge_33 : decode cX10_judge 33 = .ok (.ifCond .ne 6, 3) := dk_at dkB02decX2_19 8 rfl
theorem dX10_judge_36 : decode cX10_judge 36 = .ok (.bipush (-2), 2) := dk_at dkB02decX2_19 9 rfl
theorem dX10_judge_38 : decode cX10_judge 38 = .ok (.ireturn, 1) := dk_at dkB02decX2_19 10 rfl
theorem dX10_judge_39 : decode cX10_judge 39 = .ok (.aload_n 0, 1) := dk_at dkB02decX2_19 11 rfl
theorem dX10_judge_40 : decode cX10_judge 40 = .ok (.getfield 43, 3) := dk_at dkB02decX2_19 12 rfl
theorem dX10_judge_43 : decode cX10_judge 43 = .ok (.iload_n 2, 1) := dk_at dkB02decX2_19 13 rfl
theorem dX10_judge_44 : decode cX10_judge 44 = .ok (.aaload, 1) := dk_at dkB02decX2_19 14 rfl
theorem dX10_judge_45 : decode cX10_judge 45 = .ok (.iload_n 3, 1) := dk_at dkB02decX2_19 15 rfl
theorem dX10_judge_46 : decode cX10_judge 46 = .ok (.iload 4, 2) := dk_at dkB02decX2_19 16 rfl
theorem dX10_judge_48 : decode cX10_judge 48 = .ok (.iload 5, 2) := dk_at dkB02decX2_19 17 rfl
theorem dX10_judge_50 : decode cX10_judge 50 = .ok (.invokevirtual 90, 3) := dk_at dkB02decX2_19 18 rfl
theorem dX10_judge_53 : decode cX10_judge 53 = .ok (.istore 6, 2) := dk_at dkB02decX2_19 19 rfl
theorem dX10_judge_55 : decode cX10_judge 55 = .ok (.iload 6, 2) := dk_at dkB02decX2_19 20 rfl
theorem dX10_judge_57 : decode cX10_judge 57 = .ok (.ifCond .eq 6, 3) := dk_at dkB02decX2_19 21 rfl
theorem dX10_judge_60 : decode cX10_judge 60 = .ok (.iload 6, 2) := dk_at dkB02decX2_19 22 rfl
theorem dX10_judge_62 : decode cX10_judge 62 = .ok (.ireturn, 1) := dk_at dkB02decX2_19 23 rfl
theorem dX10_judge_63 : decode cX10_judge 63 = .ok (.aload_n 0, 1) := dk_at dkB02decX2_19 24 rfl
theorem dX10_judge_64 : decode cX10_judge 64 = .ok (.iload_n 1, 1) := dk_at dkB02decX2_19 25 rfl
theorem dX10_judge_65 : decode cX10_judge 65 = .ok (.invokevirtual 238, 3) := dk_at dkB02decX2_19 26 rfl
theorem dX10_judge_68 : decode cX10_judge 68 = .ok (.astore 7, 2) := dk_at dkB02decX2_19 27 rfl
theorem dX10_judge_70 : decode cX10_judge 70 = .ok (.aload 7, 2) := dk_at dkB02decX2_19 28 rfl
theorem dX10_judge_72 : decode cX10_judge 72 = .ok (.aload_n 0, 1) := dk_at dkB02decX2_19 29 rfl
theorem dX10_judge_73 : decode cX10_judge 73 = .ok (.getfield 43, 3) := dk_at dkB02decX2_19 30 rfl
theorem dX10_judge_76 : decode cX10_judge 76 = .ok (.iload_n 2, 1) := dk_at dkB02decX2_19 31 rfl
theorem dX10_judge_77 : decode cX10_judge 77 = .ok (.aaload, 1) := dk_at dkB02decX2_19 32 rfl
theorem dX10_judge_78 : decode cX10_judge 78 = .ok (.getfield 94, 3) := dk_at dkB02decX2_19 33 rfl
theorem dX10_judge_81 : decode cX10_judge 81 = .ok (.iload 4, 2) := dk_at dkB02decX2_19 34 rfl
theorem dX10_judge_83 : decode cX10_judge 83 = .ok (.invokevirtual 311, 3) := dk_at dkB02decX2_19 35 rfl
theorem dX10_judge_86 : decode cX10_judge 86 = .ok (.istore 8, 2) := dk_at dkB02decX2_19 36 rfl
theorem dX10_judge_88 : decode cX10_judge 88 = .ok (.iload 8, 2) := dk_at dkB02decX2_19 37 rfl
theorem dX10_judge_90 : decode cX10_judge 90 = .ok (.ifCond .ge 8, 3) := dk_at dkB02decX2_19 38 rfl
theorem dX10_judge_93 : decode cX10_judge 93 = .ok (.bipush (-4), 2) := dk_at dkB02decX2_19 39 rfl
theorem dX10_judge_95 : decode cX10_judge 95 = .ok (.goto 11, 3) := dk_at dkB02decX2_19 40 rfl
theorem dX10_judge_98 : decode cX10_judge 98 = .ok (.aload 7, 2) := dk_at dkB02decX2_19 41 rfl
theorem dX10_judge_100 : decode cX10_judge 100 = .ok (.getfield 284, 3) := dk_at dkB02decX2_19 42 rfl
theorem dX10_judge_103 : decode cX10_judge 103 = .ok (.iload 8, 2) := dk_at dkB02decX2_19 43 rfl
theorem dX10_judge_105 : decode cX10_judge 105 = .ok (.iaload, 1) := dk_at dkB02decX2_19 44 rfl
theorem dX10_judge_106 : decode cX10_judge 106 = .ok (.ireturn, 1) := dk_at dkB02decX2_19 45 rfl
theorem dX10_lineOf_0 : decode cX10_lineOf 0 = .ok (.aload_n 0, 1) := dk_at dkB02decX2_19 46 rfl
theorem dX10_lineOf_1 : decode cX10_lineOf 1 = .ok (.getfield 54, 3) := dk_at dkB02decX2_19 47 rfl
theorem dX10_lineOf_4 : decode cX10_lineOf 4 = .ok (.iload_n 1, 1) := dk_at dkB02decX2_19 48 rfl
theorem dX10_lineOf_5 : decode cX10_lineOf 5 = .ok (.baload, 1) := dk_at dkB02decX2_19 49 rfl
theorem dX10_lineOf_6 : decode cX10_lineOf 6 = .ok (.ifCond .ne 36, 3) := dk_at dkB02decX2_19 50 rfl
theorem dX10_lineOf_9 : decode cX10_lineOf 9 = .ok (.aload_n 0, 1) := dk_at dkB02decX2_19 51 rfl
theorem dX10_lineOf_10 : decode cX10_lineOf 10 = .ok (.iload_n 1, 1) := dk_at dkB02decX2_19 52 rfl
theorem dX10_lineOf_11 : decode cX10_lineOf 11 = .ok (.aload_n 0, 1) := dk_at dkB02decX2_19 53 rfl
theorem dX10_lineOf_12 : decode cX10_lineOf 12 = .ok (.getfield 12, 3) := dk_at dkB02decX2_19 54 rfl
theorem dX10_lineOf_15 : decode cX10_lineOf 15 = .ok (.getfield 157, 3) := dk_at dkB02decX2_19 55 rfl
theorem dX10_lineOf_18 : decode cX10_lineOf 18 = .ok (.iload_n 1, 1) := dk_at dkB02decX2_19 56 rfl
theorem dX10_lineOf_19 : decode cX10_lineOf 19 = .ok (.invokevirtual 286, 3) := dk_at dkB02decX2_19 57 rfl
theorem dX10_lineOf_22 : decode cX10_lineOf 22 = .ok (.invokevirtual 289, 3) := dk_at dkB02decX2_19 58 rfl
theorem dX10_lineOf_25 : decode cX10_lineOf 25 = .ok (.pop2, 1) := dk_at dkB02decX2_19 59 rfl
noncomputable def dkL02decX2_20 : List (ByteArray × Nat × Instr × Nat) := [(cX10_lineOf, 26, (.aload_n 0, 1)), (cX10_lineOf, 27, (.getfield 50, 3)), (cX10_lineOf, 30, (.iload_n 1, 1)), (cX10_lineOf, 31, (.aaload, 1)), (cX10_lineOf, 32, (.invokevirtual 308, 3)), (cX10_lineOf, 35, (.aload_n 0, 1)), (cX10_lineOf, 36, (.getfield 54, 3)), (cX10_lineOf, 39, (.iload_n 1, 1)), (cX10_lineOf, 40, (.iconst 1, 1)), (cX10_lineOf, 41, (.bastore, 1)), (cX10_lineOf, 42, (.aload_n 0, 1)), (cX10_lineOf, 43, (.getfield 50, 3)), (cX10_lineOf, 46, (.iload_n 1, 1)), (cX10_lineOf, 47, (.aaload, 1)), (cX10_lineOf, 48, (.areturn, 1)), (cX10_oddsPart, 0, (.lload_n 2, 1)), (cX10_oddsPart, 1, (.lconst 0, 1)), (cX10_oddsPart, 2, (.lcmp, 1)), (cX10_oddsPart, 3, (.ifCond .ne 7, 3)), (cX10_oddsPart, 6, (.ldc2_w 276, 3)), (cX10_oddsPart, 9, (.lreturn, 1)), (cX10_oddsPart, 10, (.lload_n 0, 1)), (cX10_oddsPart, 11, (.lload_n 2, 1)), (cX10_oddsPart, 12, (.invokestatic 315, 3)), (cX10_oddsPart, 15, (.lstore 5, 2)), (cX10_oddsPart, 17, (.iload 4, 2)), (cX10_oddsPart, 19, (.ifCond .ne 7, 3)), (cX10_oddsPart, 22, (.lload_n 0, 1)), (cX10_oddsPart, 23, (.goto 4, 3)), (cX10_oddsPart, 26, (.lload_n 2, 1)), (cX10_oddsPart, 27, (.lconst 1, 1)), (cX10_oddsPart, 28, (.lload 5, 2)), (cX10_oddsPart, 30, (.invokestatic 319, 3)), (cX10_oddsPart, 33, (.ldiv, 1)), (cX10_oddsPart, 34, (.lreturn, 1)), (cX10_greatestDivisor, 0, (.lload_n 0, 1)), (cX10_greatestDivisor, 1, (.lstore 4, 2)), (cX10_greatestDivisor, 3, (.lload_n 2, 1)), (cX10_greatestDivisor, 4, (.lstore 6, 2)), (cX10_greatestDivisor, 6, (.iconst 0, 1)), (cX10_greatestDivisor, 7, (.istore 8, 2)), (cX10_greatestDivisor, 9, (.iload 8, 2)), (cX10_greatestDivisor, 11, (.sipush 200, 3)), (cX10_greatestDivisor, 14, (.if_icmp .ge 31, 3)), (cX10_greatestDivisor, 17, (.lload 6, 2)), (cX10_greatestDivisor, 19, (.lconst 0, 1)), (cX10_greatestDivisor, 20, (.lcmp, 1)), (cX10_greatestDivisor, 21, (.ifCond .eq 24, 3)), (cX10_greatestDivisor, 24, (.lload 4, 2)), (cX10_greatestDivisor, 26, (.lload 6, 2)), (cX10_greatestDivisor, 28, (.lrem, 1)), (cX10_greatestDivisor, 29, (.lstore 9, 2)), (cX10_greatestDivisor, 31, (.lload 6, 2)), (cX10_greatestDivisor, 33, (.lstore 4, 2)), (cX10_greatestDivisor, 35, (.lload 9, 2)), (cX10_greatestDivisor, 37, (.lstore 6, 2)), (cX10_greatestDivisor, 39, (.iinc 8 1, 3)), (cX10_greatestDivisor, 42, (.goto (-33), 3)), (cX10_greatestDivisor, 45, (.lload 4, 2)), (cX10_greatestDivisor, 47, (.lreturn, 1))]
theorem dkB02decX2_20 : dkL02decX2_20.all (fun q => decide (decode q.1 q.2.1 = .ok q.2.2)) = true := by decide +kernel
theorem dX10_lineOf_26 : decode cX10_lineOf 26 = .ok (.aload_n 0, 1) := dk_at dkB02decX2_20 0 rfl
theorem dX10_lineOf_27 : decode cX10_lineOf 27 = .ok (.getfield 50, 3) := dk_at dkB02decX2_20 1 rfl
theorem dX10_lineOf_30 : decode cX10_lineOf 30 = .ok (.iload_n 1, 1) := dk_at dkB02decX2_20 2 rfl
theorem dX10_lineOf_31 : decode cX10_lineOf 31 = .ok (.aaload, 1) := dk_at dkB02decX2_20 3 rfl
theorem dX10_lineOf_32 : decode cX10_lineOf 32 = .ok (.invokevirtual 308, 3) := dk_at dkB02decX2_20 4 rfl
theorem dX10_lineOf_35 : decode cX10_lineOf 35 = .ok (.aload_n 0, 1) := dk_at dkB02decX2_20 5 rfl
theorem dX10_lineOf_36 : decode cX10_lineOf 36 = .ok (.getfield 54, 3) := dk_at dkB02decX2_20 6 rfl
theorem dX10_lineOf_39 : decode cX10_lineOf 39 = .ok (.iload_n 1, 1) := dk_at dkB02decX2_20 7 rfl
theorem dX10_lineOf_40 : decode cX10_lineOf 40 = .ok (.iconst 1, 1) := dk_at dkB02decX2_20 8 rfl
theorem dX10_lineOf_41 : decode cX10_lineOf 41 = .ok (.bastore, 1) := dk_at dkB02decX2_20 9 rfl
theorem dX10_lineOf_42 : decode cX10_lineOf 42 = .ok (.aload_n 0, 1) := dk_at dkB02decX2_20 10 rfl
theorem dX10_lineOf_43 : decode cX10_lineOf 43 = .ok (.getfield 50, 3) := dk_at dkB02decX2_20 11 rfl
theorem dX10_lineOf_46 : decode cX10_lineOf 46 = .ok (.iload_n 1, 1) := dk_at dkB02decX2_20 12 rfl
theorem dX10_lineOf_47 : decode cX10_lineOf 47 = .ok (.aaload, 1) := dk_at dkB02decX2_20 13 rfl
theorem dX10_lineOf_48 : decode cX10_lineOf 48 = .ok (.areturn, 1) := dk_at dkB02decX2_20 14 rfl
theorem dX10_oddsPart_0 : decode cX10_oddsPart 0 = .ok (.lload_n 2, 1) := dk_at dkB02decX2_20 15 rfl
theorem dX10_oddsPart_1 : decode cX10_oddsPart 1 = .ok (.lconst 0, 1) := dk_at dkB02decX2_20 16 rfl
theorem dX10_oddsPart_2 : decode cX10_oddsPart 2 = .ok (.lcmp, 1) := dk_at dkB02decX2_20 17 rfl
theorem dX10_oddsPart_3 : decode cX10_oddsPart 3 = .ok (.ifCond .ne 7, 3) := dk_at dkB02decX2_20 18 rfl
theorem dX10_oddsPart_6 : decode cX10_oddsPart 6 = .ok (.ldc2_w 276, 3) := dk_at dkB02decX2_20 19 rfl
theorem dX10_oddsPart_9 : decode cX10_oddsPart 9 = .ok (.lreturn, 1) := dk_at dkB02decX2_20 20 rfl
theorem dX10_oddsPart_10 : decode cX10_oddsPart 10 = .ok (.lload_n 0, 1) := dk_at dkB02decX2_20 21 rfl
theorem dX10_oddsPart_11 : decode cX10_oddsPart 11 = .ok (.lload_n 2, 1) := dk_at dkB02decX2_20 22 rfl
theorem dX10_oddsPart_12 : decode cX10_oddsPart 12 = .ok (.invokestatic 315, 3) := dk_at dkB02decX2_20 23 rfl
theorem dX10_oddsPart_15 : decode cX10_oddsPart 15 = .ok (.lstore 5, 2) := dk_at dkB02decX2_20 24 rfl
theorem dX10_oddsPart_17 : decode cX10_oddsPart 17 = .ok (.iload 4, 2) := dk_at dkB02decX2_20 25 rfl
theorem dX10_oddsPart_19 : decode cX10_oddsPart 19 = .ok (.ifCond .ne 7, 3) := dk_at dkB02decX2_20 26 rfl
theorem dX10_oddsPart_22 : decode cX10_oddsPart 22 = .ok (.lload_n 0, 1) := dk_at dkB02decX2_20 27 rfl
theorem dX10_oddsPart_23 : decode cX10_oddsPart 23 = .ok (.goto 4, 3) := dk_at dkB02decX2_20 28 rfl
theorem dX10_oddsPart_26 : decode cX10_oddsPart 26 = .ok (.lload_n 2, 1) := dk_at dkB02decX2_20 29 rfl
theorem dX10_oddsPart_27 : decode cX10_oddsPart 27 = .ok (.lconst 1, 1) := dk_at dkB02decX2_20 30 rfl
theorem dX10_oddsPart_28 : decode cX10_oddsPart 28 = .ok (.lload 5, 2) := dk_at dkB02decX2_20 31 rfl
theorem dX10_oddsPart_30 : decode cX10_oddsPart 30 = .ok (.invokestatic 319, 3) := dk_at dkB02decX2_20 32 rfl
theorem dX10_oddsPart_33 : decode cX10_oddsPart 33 = .ok (.ldiv, 1) := dk_at dkB02decX2_20 33 rfl
theorem dX10_oddsPart_34 : decode cX10_oddsPart 34 = .ok (.lreturn, 1) := dk_at dkB02decX2_20 34 rfl
theorem dX10_greatestDivisor_0 : decode cX10_greatestDivisor 0 = .ok (.lload_n 0, 1) := dk_at dkB02decX2_20 35 rfl
theorem dX10_greatestDivisor_1 : decode cX10_greatestDivisor 1 = .ok (.lstore 4, 2) := dk_at dkB02decX2_20 36 rfl
theorem dX10_greatestDivisor_3 : decode cX10_greatestDivisor 3 = .ok (.lload_n 2, 1) := dk_at dkB02decX2_20 37 rfl
theorem dX10_greatestDivisor_4 : decode cX10_greatestDivisor 4 = .ok (.lstore 6, 2) := dk_at dkB02decX2_20 38 rfl
theorem dX10_greatestDivisor_6 : decode cX10_greatestDivisor 6 = .ok (.iconst 0, 1) := dk_at dkB02decX2_20 39 rfl
theorem dX10_greatestDivisor_7 : decode cX10_greatestDivisor 7 = .ok (.istore 8, 2) := dk_at dkB02decX2_20 40 rfl
theorem dX10_greatestDivisor_9 : decode cX10_greatestDivisor 9 = .ok (.iload 8, 2) := dk_at dkB02decX2_20 41 rfl
theorem dX10_greatestDivisor_11 : decode cX10_greatestDivisor 11 = .ok (.sipush 200, 3) := dk_at dkB02decX2_20 42 rfl
theorem dX10_greatestDivisor_14 : decode cX10_greatestDivisor 14 = .ok (.if_icmp .ge 31, 3) := dk_at dkB02decX2_20 43 rfl
theorem dX10_greatestDivisor_17 : decode cX10_greatestDivisor 17 = .ok (.lload 6, 2) := dk_at dkB02decX2_20 44 rfl
theorem dX10_greatestDivisor_19 : decode cX10_greatestDivisor 19 = .ok (.lconst 0, 1) := dk_at dkB02decX2_20 45 rfl
theorem dX10_greatestDivisor_20 : decode cX10_greatestDivisor 20 = .ok (.lcmp, 1) := dk_at dkB02decX2_20 46 rfl
theorem dX10_greatestDivisor_21 : decode cX10_greatestDivisor 21 = .ok (.ifCond .eq 24, 3) := dk_at dkB02decX2_20 47 rfl
theorem dX10_greatestDivisor_24 : decode cX10_greatestDivisor 24 = .ok (.lload 4, 2) := dk_at dkB02decX2_20 48 rfl
theorem dX10_greatestDivisor_26 : decode cX10_greatestDivisor 26 = .ok (.lload 6, 2) := dk_at dkB02decX2_20 49 rfl
theorem dX10_greatestDivisor_28 : decode cX10_greatestDivisor 28 = .ok (.lrem, 1) := dk_at dkB02decX2_20 50 rfl
theorem dX10_greatestDivisor_29 : decode cX10_greatestDivisor 29 = .ok (.lstore 9, 2) := dk_at dkB02decX2_20 51 rfl
theorem dX10_greatestDivisor_31 : decode cX10_greatestDivisor 31 = .ok (.lload 6, 2) := dk_at dkB02decX2_20 52 rfl
theorem dX10_greatestDivisor_33 : decode cX10_greatestDivisor 33 = .ok (.lstore 4, 2) := dk_at dkB02decX2_20 53 rfl
theorem dX10_greatestDivisor_35 : decode cX10_greatestDivisor 35 = .ok (.lload 9, 2) := dk_at dkB02decX2_20 54 rfl
theorem dX10_greatestDivisor_37 : decode cX10_greatestDivisor 37 = .ok (.lstore 6, 2) := dk_at dkB02decX2_20 55 rfl
theorem dX10_greatestDivisor_39 : decode cX10_greatestDivisor 39 = .ok (.iinc 8 1, 3) := dk_at dkB02decX2_20 56 rfl
theorem dX10_greatestDivisor_42 : decode cX10_greatestDivisor 42 = .ok (.goto (-33), 3) := dk_at dkB02decX2_20 57 rfl
theorem dX10_greatestDivisor_45 : decode cX10_greatestDivisor 45 = .ok (.lload 4, 2) := dk_at dkB02decX2_20 58 rfl
theorem dX10_greatestDivisor_47 : decode cX10_greatestDivisor 47 = .ok (.lreturn, 1) := dk_at dkB02decX2_20 59 rfl
noncomputable def dkL02decX2_21 : List (ByteArray × Nat × Instr × Nat) := [(cX10_oneYear, 0, (.aload_n 0, 1)), (cX10_oneYear, 1, (.iconst 0, 1)), (cX10_oneYear, 2, (.iload_n 1, 1)), (cX10_oneYear, 3, (.invokevirtual 170, 3)), (cX10_oneYear, 6, (.ifCond .eq 21, 3)), (cX10_oneYear, 9, (.aload_n 0, 1)), (cX10_oneYear, 10, (.iconst 1, 1)), (cX10_oneYear, 11, (.iload_n 2, 1)), (cX10_oneYear, 12, (.invokevirtual 170, 3)), (cX10_oneYear, 15, (.ifCond .eq 12, 3)), (cX10_oneYear, 18, (.iload_n 3, 1)), (cX10_oneYear, 19, (.iconst 0, 1)), (cX10_oneYear, 20, (.iconst 1, 1)), (cX10_oneYear, 21, (.invokestatic 69, 3)), (cX10_oneYear, 24, (.ifCond .ne 7, 3)), (cX10_oneYear, 27, (.ldc2_w 234, 3)), (cX10_oneYear, 30, (.lreturn, 1)), (cX10_oneYear, 31, (.aload_n 0, 1)), (cX10_oneYear, 32, (.getfield 12, 3)), (cX10_oneYear, 35, (.getfield 147, 3)), (cX10_oneYear, 38, (.iconst 0, 1)), (cX10_oneYear, 39, (.aaload, 1)), (cX10_oneYear, 40, (.iload_n 1, 1)), (cX10_oneYear, 41, (.invokevirtual 177, 3)), (cX10_oneYear, 44, (.ifCond .eq 19, 3)), (cX10_oneYear, 47, (.aload_n 0, 1)), (cX10_oneYear, 48, (.getfield 12, 3)), (cX10_oneYear, 51, (.getfield 147, 3)), (cX10_oneYear, 54, (.iconst 1, 1)), (cX10_oneYear, 55, (.aaload, 1)), (cX10_oneYear, 56, (.iload_n 2, 1)), (cX10_oneYear, 57, (.invokevirtual 177, 3)), (cX10_oneYear, 60, (.ifCond .ne 7, 3)), (cX10_oneYear, 63, (.ldc2_w 252, 3)), (cX10_oneYear, 66, (.lreturn, 1)), (cX10_oneYear, 67, (.aload_n 0, 1)), (cX10_oneYear, 68, (.iconst 0, 1)), (cX10_oneYear, 69, (.invokevirtual 238, 3)), (cX10_oneYear, 72, (.astore 4, 2)), (cX10_oneYear, 74, (.aload_n 0, 1)), (cX10_oneYear, 75, (.iconst 1, 1)), (cX10_oneYear, 76, (.invokevirtual 238, 3)), (cX10_oneYear, 79, (.astore 5, 2)), (cX10_oneYear, 81, (.aload_n 0, 1)), (cX10_oneYear, 82, (.aload 4, 2)), (cX10_oneYear, 84, (.getfield 246, 3)), (cX10_oneYear, 87, (.iload_n 1, 1)), (cX10_oneYear, 88, (.iaload, 1)), (cX10_oneYear, 89, (.aload 5, 2)), (cX10_oneYear, 91, (.getfield 246, 3)), (cX10_oneYear, 94, (.iload_n 2, 1)), (cX10_oneYear, 95, (.iaload, 1)), (cX10_oneYear, 96, (.invokevirtual 324, 3)), (cX10_oneYear, 99, (.lstore 6, 2)), (cX10_oneYear, 101, (.lload 6, 2)), (cX10_oneYear, 103, (.aload 4, 2)), (cX10_oneYear, 105, (.getfield 242, 3)), (cX10_oneYear, 108, (.aload 5, 2)), (cX10_oneYear, 110, (.getfield 242, 3)), (cX10_oneYear, 113, (.lmul, 1))]
theorem dkB02decX2_21 : dkL02decX2_21.all (fun q => decide (decode q.1 q.2.1 = .ok q.2.2)) = true := by decide +kernel
theorem dX10_oneYear_0 : decode cX10_oneYear 0 = .ok (.aload_n 0, 1) := dk_at dkB02decX2_21 0 rfl
theorem dX10_oneYear_1 : decode cX10_oneYear 1 = .ok (.iconst 0, 1) := dk_at dkB02decX2_21 1 rfl
theorem dX10_oneYear_2 : decode cX10_oneYear 2 = .ok (.iload_n 1, 1) := dk_at dkB02decX2_21 2 rfl
theorem dX10_oneYear_3 : decode cX10_oneYear 3 = .ok (.invokevirtual 170, 3) := dk_at dkB02decX2_21 3 rfl
theorem dX10_oneYear_6 : decode cX10_oneYear 6 = .ok (.ifCond .eq 21, 3) := dk_at dkB02decX2_21 4 rfl
theorem dX10_oneYear_9 : decode cX10_oneYear 9 = .ok (.aload_n 0, 1) := dk_at dkB02decX2_21 5 rfl
theorem dX10_oneYear_10 : decode cX10_oneYear 10 = .ok (.iconst 1, 1) := dk_at dkB02decX2_21 6 rfl
theorem dX10_oneYear_11 : decode cX10_oneYear 11 = .ok (.iload_n 2, 1) := dk_at dkB02decX2_21 7 rfl
theorem dX10_oneYear_12 : decode cX10_oneYear 12 = .ok (.invokevirtual 170, 3) := dk_at dkB02decX2_21 8 rfl
theorem dX10_oneYear_15 : decode cX10_oneYear 15 = .ok (.ifCond .eq 12, 3) := dk_at dkB02decX2_21 9 rfl
theorem dX10_oneYear_18 : decode cX10_oneYear 18 = .ok (.iload_n 3, 1) := dk_at dkB02decX2_21 10 rfl
theorem dX10_oneYear_19 : decode cX10_oneYear 19 = .ok (.iconst 0, 1) := dk_at dkB02decX2_21 11 rfl
theorem dX10_oneYear_20 : decode cX10_oneYear 20 = .ok (.iconst 1, 1) := dk_at dkB02decX2_21 12 rfl
theorem dX10_oneYear_21 : decode cX10_oneYear 21 = .ok (.invokestatic 69, 3) := dk_at dkB02decX2_21 13 rfl
theorem dX10_oneYear_24 : decode cX10_oneYear 24 = .ok (.ifCond .ne 7, 3) := dk_at dkB02decX2_21 14 rfl
theorem dX10_oneYear_27 : decode cX10_oneYear 27 = .ok (.ldc2_w 234, 3) := dk_at dkB02decX2_21 15 rfl
theorem dX10_oneYear_30 : decode cX10_oneYear 30 = .ok (.lreturn, 1) := dk_at dkB02decX2_21 16 rfl
theorem dX10_oneYear_31 : decode cX10_oneYear 31 = .ok (.aload_n 0, 1) := dk_at dkB02decX2_21 17 rfl
theorem dX10_oneYear_32 : decode cX10_oneYear 32 = .ok (.getfield 12, 3) := dk_at dkB02decX2_21 18 rfl
theorem dX10_oneYear_35 : decode cX10_oneYear 35 = .ok (.getfield 147, 3) := dk_at dkB02decX2_21 19 rfl
theorem dX10_oneYear_38 : decode cX10_oneYear 38 = .ok (.iconst 0, 1) := dk_at dkB02decX2_21 20 rfl
theorem dX10_oneYear_39 : decode cX10_oneYear 39 = .ok (.aaload, 1) := dk_at dkB02decX2_21 21 rfl
theorem dX10_oneYear_40 : decode cX10_oneYear 40 = .ok (.iload_n 1, 1) := dk_at dkB02decX2_21 22 rfl
theorem dX10_oneYear_41 : decode cX10_oneYear 41 = .ok (.invokevirtual 177, 3) := dk_at dkB02decX2_21 23 rfl
theorem dX10_oneYear_44 : decode cX10_oneYear 44 = .ok (.ifCond .eq 19, 3) := dk_at dkB02decX2_21 24 rfl
theorem dX10_oneYear_47 : decode cX10_oneYear 47 = .ok (.aload_n 0, 1) := dk_at dkB02decX2_21 25 rfl
theorem dX10_oneYear_48 : decode cX10_oneYear 48 = .ok (.getfield 12, 3) := dk_at dkB02decX2_21 26 rfl
theorem dX10_oneYear_51 : decode cX10_oneYear 51 = .ok (.getfield 147, 3) := dk_at dkB02decX2_21 27 rfl
theorem dX10_oneYear_54 : decode cX10_oneYear 54 = .ok (.iconst 1, 1) := dk_at dkB02decX2_21 28 rfl
theorem dX10_oneYear_55 : decode cX10_oneYear 55 = .ok (.aaload, 1) := dk_at dkB02decX2_21 29 rfl
theorem dX10_oneYear_56 : decode cX10_oneYear 56 = .ok (.iload_n 2, 1) := dk_at dkB02decX2_21 30 rfl
theorem dX10_oneYear_57 : decode cX10_oneYear 57 = .ok (.invokevirtual 177, 3) := dk_at dkB02decX2_21 31 rfl
theorem dX10_oneYear_60 : decode cX10_oneYear 60 = .ok (.ifCond .ne 7, 3) := dk_at dkB02decX2_21 32 rfl
theorem dX10_oneYear_63 : decode cX10_oneYear 63 = .ok (.ldc2_w 252, 3) := dk_at dkB02decX2_21 33 rfl
theorem dX10_oneYear_66 : decode cX10_oneYear 66 = .ok (.lreturn, 1) := dk_at dkB02decX2_21 34 rfl
theorem dX10_oneYear_67 : decode cX10_oneYear 67 = .ok (.aload_n 0, 1) := dk_at dkB02decX2_21 35 rfl
theorem dX10_oneYear_68 : decode cX10_oneYear 68 = .ok (.iconst 0, 1) := dk_at dkB02decX2_21 36 rfl
theorem dX10_oneYear_69 : decode cX10_oneYear 69 = .ok (.invokevirtual 238, 3) := dk_at dkB02decX2_21 37 rfl
theorem dX10_oneYear_72 : decode cX10_oneYear 72 = .ok (.astore 4, 2) := dk_at dkB02decX2_21 38 rfl
theorem dX10_oneYear_74 : decode cX10_oneYear 74 = .ok (.aload_n 0, 1) := dk_at dkB02decX2_21 39 rfl
theorem dX10_oneYear_75 : decode cX10_oneYear 75 = .ok (.iconst 1, 1) := dk_at dkB02decX2_21 40 rfl
theorem dX10_oneYear_76 : decode cX10_oneYear 76 = .ok (.invokevirtual 238, 3) := dk_at dkB02decX2_21 41 rfl
theorem dX10_oneYear_79 : decode cX10_oneYear 79 = .ok (.astore 5, 2) := dk_at dkB02decX2_21 42 rfl
theorem dX10_oneYear_81 : decode cX10_oneYear 81 = .ok (.aload_n 0, 1) := dk_at dkB02decX2_21 43 rfl
theorem dX10_oneYear_82 : decode cX10_oneYear 82 = .ok (.aload 4, 2) := dk_at dkB02decX2_21 44 rfl
theorem dX10_oneYear_84 : decode cX10_oneYear 84 = .ok (.getfield 246, 3) := dk_at dkB02decX2_21 45 rfl
theorem dX10_oneYear_87 : decode cX10_oneYear 87 = .ok (.iload_n 1, 1) := dk_at dkB02decX2_21 46 rfl
theorem dX10_oneYear_88 : decode cX10_oneYear 88 = .ok (.iaload, 1) := dk_at dkB02decX2_21 47 rfl
theorem dX10_oneYear_89 : decode cX10_oneYear 89 = .ok (.aload 5, 2) := dk_at dkB02decX2_21 48 rfl
theorem dX10_oneYear_91 : decode cX10_oneYear 91 = .ok (.getfield 246, 3) := dk_at dkB02decX2_21 49 rfl
theorem dX10_oneYear_94 : decode cX10_oneYear 94 = .ok (.iload_n 2, 1) := dk_at dkB02decX2_21 50 rfl
theorem dX10_oneYear_95 : decode cX10_oneYear 95 = .ok (.iaload, 1) := dk_at dkB02decX2_21 51 rfl
theorem dX10_oneYear_96 : decode cX10_oneYear 96 = .ok (.invokevirtual 324, 3) := dk_at dkB02decX2_21 52 rfl
theorem dX10_oneYear_99 : decode cX10_oneYear 99 = .ok (.lstore 6, 2) := dk_at dkB02decX2_21 53 rfl
theorem dX10_oneYear_101 : decode cX10_oneYear 101 = .ok (.lload 6, 2) := dk_at dkB02decX2_21 54 rfl
theorem dX10_oneYear_103 : decode cX10_oneYear 103 = .ok (.aload 4, 2) := dk_at dkB02decX2_21 55 rfl
theorem dX10_oneYear_105 : decode cX10_oneYear 105 = .ok (.getfield 242, 3) := dk_at dkB02decX2_21 56 rfl
theorem dX10_oneYear_108 : decode cX10_oneYear 108 = .ok (.aload 5, 2) := dk_at dkB02decX2_21 57 rfl
theorem dX10_oneYear_110 : decode cX10_oneYear 110 = .ok (.getfield 242, 3) := dk_at dkB02decX2_21 58 rfl
theorem dX10_oneYear_113 : decode cX10_oneYear 113 = .ok (.lmul, 1) := dk_at dkB02decX2_21 59 rfl
noncomputable def dkL02decX2_22 : List (ByteArray × Nat × Instr × Nat) := [(cX10_oneYear, 114, (.iload_n 3, 1)), (cX10_oneYear, 115, (.invokestatic 258, 3)), (cX10_oneYear, 118, (.lreturn, 1)), (cX10_sharedWays, 0, (.lconst 0, 1)), (cX10_sharedWays, 1, (.lstore_n 3, 1)), (cX10_sharedWays, 2, (.iconst 0, 1)), (cX10_sharedWays, 3, (.istore 5, 2)), (cX10_sharedWays, 5, (.iload 5, 2)), (cX10_sharedWays, 7, (.bipush 24, 2)), (cX10_sharedWays, 9, (.if_icmp .ge 37, 3)), (cX10_sharedWays, 12, (.lload_n 3, 1)), (cX10_sharedWays, 13, (.aload_n 0, 1)), (cX10_sharedWays, 14, (.getfield 50, 3)), (cX10_sharedWays, 17, (.iconst 0, 1)), (cX10_sharedWays, 18, (.aaload, 1)), (cX10_sharedWays, 19, (.iload_n 1, 1)), (cX10_sharedWays, 20, (.iload 5, 2)), (cX10_sharedWays, 22, (.invokevirtual 254, 3)), (cX10_sharedWays, 25, (.aload_n 0, 1)), (cX10_sharedWays, 26, (.getfield 50, 3)), (cX10_sharedWays, 29, (.iconst 1, 1)), (cX10_sharedWays, 30, (.aaload, 1)), (cX10_sharedWays, 31, (.iload_n 2, 1)), (cX10_sharedWays, 32, (.iload 5, 2)), (cX10_sharedWays, 34, (.invokevirtual 254, 3)), (cX10_sharedWays, 37, (.lmul, 1)), (cX10_sharedWays, 38, (.ladd, 1)), (cX10_sharedWays, 39, (.lstore_n 3, 1)), (cX10_sharedWays, 40, (.iinc 5 1, 3)), (cX10_sharedWays, 43, (.goto (-38), 3)), (cX10_sharedWays, 46, (.lload_n 3, 1)), (cX10_sharedWays, 47, (.lreturn, 1)), (cX10_tie, 0, (.iload_n 1, 1)), (cX10_tie, 1, (.iconst 0, 1)), (cX10_tie, 2, (.iconst 2, 1)), (cX10_tie, 3, (.invokestatic 69, 3)), (cX10_tie, 6, (.ifCond .ne 7, 3)), (cX10_tie, 9, (.ldc2_w 234, 3)), (cX10_tie, 12, (.lreturn, 1)), (cX10_tie, 13, (.aload_n 0, 1)), (cX10_tie, 14, (.getfield 12, 3)), (cX10_tie, 17, (.getfield 147, 3)), (cX10_tie, 20, (.iconst 0, 1)), (cX10_tie, 21, (.aaload, 1)), (cX10_tie, 22, (.invokevirtual 231, 3)), (cX10_tie, 25, (.ifCond .eq 18, 3)), (cX10_tie, 28, (.aload_n 0, 1)), (cX10_tie, 29, (.getfield 12, 3)), (cX10_tie, 32, (.getfield 147, 3)), (cX10_tie, 35, (.iconst 1, 1)), (cX10_tie, 36, (.aaload, 1)), (cX10_tie, 37, (.invokevirtual 231, 3)), (cX10_tie, 40, (.ifCond .ne 7, 3)), (cX10_tie, 43, (.ldc2_w 236, 3)), (cX10_tie, 46, (.lreturn, 1)), (cX10_tie, 47, (.aload_n 0, 1)), (cX10_tie, 48, (.iconst 0, 1)), (cX10_tie, 49, (.invokevirtual 238, 3)), (cX10_tie, 52, (.astore_n 2, 1)), (cX10_tie, 53, (.aload_n 0, 1))]
theorem dkB02decX2_22 : dkL02decX2_22.all (fun q => decide (decode q.1 q.2.1 = .ok q.2.2)) = true := by decide +kernel
theorem dX10_oneYear_114 : decode cX10_oneYear 114 = .ok (.iload_n 3, 1) := dk_at dkB02decX2_22 0 rfl
theorem dX10_oneYear_115 : decode cX10_oneYear 115 = .ok (.invokestatic 258, 3) := dk_at dkB02decX2_22 1 rfl
theorem dX10_oneYear_118 : decode cX10_oneYear 118 = .ok (.lreturn, 1) := dk_at dkB02decX2_22 2 rfl
theorem dX10_sharedWays_0 : decode cX10_sharedWays 0 = .ok (.lconst 0, 1) := dk_at dkB02decX2_22 3 rfl
theorem dX10_sharedWays_1 : decode cX10_sharedWays 1 = .ok (.lstore_n 3, 1) := dk_at dkB02decX2_22 4 rfl
theorem dX10_sharedWays_2 : decode cX10_sharedWays 2 = .ok (.iconst 0, 1) := dk_at dkB02decX2_22 5 rfl
theorem dX10_sharedWays_3 : decode cX10_sharedWays 3 = .ok (.istore 5, 2) := dk_at dkB02decX2_22 6 rfl
theorem dX10_sharedWays_5 : decode cX10_sharedWays 5 = .ok (.iload 5, 2) := dk_at dkB02decX2_22 7 rfl
theorem dX10_sharedWays_7 : decode cX10_sharedWays 7 = .ok (.bipush 24, 2) := dk_at dkB02decX2_22 8 rfl
theorem dX10_sharedWays_9 : decode cX10_sharedWays 9 = .ok (.if_icmp .ge 37, 3) := dk_at dkB02decX2_22 9 rfl
theorem dX10_sharedWays_12 : decode cX10_sharedWays 12 = .ok (.lload_n 3, 1) := dk_at dkB02decX2_22 10 rfl
theorem dX10_sharedWays_13 : decode cX10_sharedWays 13 = .ok (.aload_n 0, 1) := dk_at dkB02decX2_22 11 rfl
theorem dX10_sharedWays_14 : decode cX10_sharedWays 14 = .ok (.getfield 50, 3) := dk_at dkB02decX2_22 12 rfl
theorem dX10_sharedWays_17 : decode cX10_sharedWays 17 = .ok (.iconst 0, 1) := dk_at dkB02decX2_22 13 rfl
theorem dX10_sharedWays_18 : decode cX10_sharedWays 18 = .ok (.aaload, 1) := dk_at dkB02decX2_22 14 rfl
theorem dX10_sharedWays_19 : decode cX10_sharedWays 19 = .ok (.iload_n 1, 1) := dk_at dkB02decX2_22 15 rfl
theorem dX10_sharedWays_20 : decode cX10_sharedWays 20 = .ok (.iload 5, 2) := dk_at dkB02decX2_22 16 rfl
theorem dX10_sharedWays_22 : decode cX10_sharedWays 22 = .ok (.invokevirtual 254, 3) := dk_at dkB02decX2_22 17 rfl
theorem dX10_sharedWays_25 : decode cX10_sharedWays 25 = .ok (.aload_n 0, 1) := dk_at dkB02decX2_22 18 rfl
theorem dX10_sharedWays_26 : decode cX10_sharedWays 26 = .ok (.getfield 50, 3) := dk_at dkB02decX2_22 19 rfl
theorem dX10_sharedWays_29 : decode cX10_sharedWays 29 = .ok (.iconst 1, 1) := dk_at dkB02decX2_22 20 rfl
theorem dX10_sharedWays_30 : decode cX10_sharedWays 30 = .ok (.aaload, 1) := dk_at dkB02decX2_22 21 rfl
theorem dX10_sharedWays_31 : decode cX10_sharedWays 31 = .ok (.iload_n 2, 1) := dk_at dkB02decX2_22 22 rfl
theorem dX10_sharedWays_32 : decode cX10_sharedWays 32 = .ok (.iload 5, 2) := dk_at dkB02decX2_22 23 rfl
theorem dX10_sharedWays_34 : decode cX10_sharedWays 34 = .ok (.invokevirtual 254, 3) := dk_at dkB02decX2_22 24 rfl
theorem dX10_sharedWays_37 : decode cX10_sharedWays 37 = .ok (.lmul, 1) := dk_at dkB02decX2_22 25 rfl
theorem dX10_sharedWays_38 : decode cX10_sharedWays 38 = .ok (.ladd, 1) := dk_at dkB02decX2_22 26 rfl
theorem dX10_sharedWays_39 : decode cX10_sharedWays 39 = .ok (.lstore_n 3, 1) := dk_at dkB02decX2_22 27 rfl
theorem dX10_sharedWays_40 : decode cX10_sharedWays 40 = .ok (.iinc 5 1, 3) := dk_at dkB02decX2_22 28 rfl
theorem dX10_sharedWays_43 : decode cX10_sharedWays 43 = .ok (.goto (-38), 3) := dk_at dkB02decX2_22 29 rfl
theorem dX10_sharedWays_46 : decode cX10_sharedWays 46 = .ok (.lload_n 3, 1) := dk_at dkB02decX2_22 30 rfl
theorem dX10_sharedWays_47 : decode cX10_sharedWays 47 = .ok (.lreturn, 1) := dk_at dkB02decX2_22 31 rfl
theorem dX10_tie_0 : decode cX10_tie 0 = .ok (.iload_n 1, 1) := dk_at dkB02decX2_22 32 rfl
theorem dX10_tie_1 : decode cX10_tie 1 = .ok (.iconst 0, 1) := dk_at dkB02decX2_22 33 rfl
theorem dX10_tie_2 : decode cX10_tie 2 = .ok (.iconst 2, 1) := dk_at dkB02decX2_22 34 rfl
theorem dX10_tie_3 : decode cX10_tie 3 = .ok (.invokestatic 69, 3) := dk_at dkB02decX2_22 35 rfl
theorem dX10_tie_6 : decode cX10_tie 6 = .ok (.ifCond .ne 7, 3) := dk_at dkB02decX2_22 36 rfl
theorem dX10_tie_9 : decode cX10_tie 9 = .ok (.ldc2_w 234, 3) := dk_at dkB02decX2_22 37 rfl
theorem dX10_tie_12 : decode cX10_tie 12 = .ok (.lreturn, 1) := dk_at dkB02decX2_22 38 rfl
theorem dX10_tie_13 : decode cX10_tie 13 = .ok (.aload_n 0, 1) := dk_at dkB02decX2_22 39 rfl
theorem dX10_tie_14 : decode cX10_tie 14 = .ok (.getfield 12, 3) := dk_at dkB02decX2_22 40 rfl
theorem dX10_tie_17 : decode cX10_tie 17 = .ok (.getfield 147, 3) := dk_at dkB02decX2_22 41 rfl
theorem dX10_tie_20 : decode cX10_tie 20 = .ok (.iconst 0, 1) := dk_at dkB02decX2_22 42 rfl
theorem dX10_tie_21 : decode cX10_tie 21 = .ok (.aaload, 1) := dk_at dkB02decX2_22 43 rfl
theorem dX10_tie_22 : decode cX10_tie 22 = .ok (.invokevirtual 231, 3) := dk_at dkB02decX2_22 44 rfl
theorem dX10_tie_25 : decode cX10_tie 25 = .ok (.ifCond .eq 18, 3) := dk_at dkB02decX2_22 45 rfl
theorem dX10_tie_28 : decode cX10_tie 28 = .ok (.aload_n 0, 1) := dk_at dkB02decX2_22 46 rfl
theorem dX10_tie_29 : decode cX10_tie 29 = .ok (.getfield 12, 3) := dk_at dkB02decX2_22 47 rfl
theorem dX10_tie_32 : decode cX10_tie 32 = .ok (.getfield 147, 3) := dk_at dkB02decX2_22 48 rfl
theorem dX10_tie_35 : decode cX10_tie 35 = .ok (.iconst 1, 1) := dk_at dkB02decX2_22 49 rfl
theorem dX10_tie_36 : decode cX10_tie 36 = .ok (.aaload, 1) := dk_at dkB02decX2_22 50 rfl
theorem dX10_tie_37 : decode cX10_tie 37 = .ok (.invokevirtual 231, 3) := dk_at dkB02decX2_22 51 rfl
theorem dX10_tie_40 : decode cX10_tie 40 = .ok (.ifCond .ne 7, 3) := dk_at dkB02decX2_22 52 rfl
theorem dX10_tie_43 : decode cX10_tie 43 = .ok (.ldc2_w 236, 3) := dk_at dkB02decX2_22 53 rfl
theorem dX10_tie_46 : decode cX10_tie 46 = .ok (.lreturn, 1) := dk_at dkB02decX2_22 54 rfl
theorem dX10_tie_47 : decode cX10_tie 47 = .ok (.aload_n 0, 1) := dk_at dkB02decX2_22 55 rfl
theorem dX10_tie_48 : decode cX10_tie 48 = .ok (.iconst 0, 1) := dk_at dkB02decX2_22 56 rfl
theorem dX10_tie_49 : decode cX10_tie 49 = .ok (.invokevirtual 238, 3) := dk_at dkB02decX2_22 57 rfl
theorem dX10_tie_52 : decode cX10_tie 52 = .ok (.astore_n 2, 1) := dk_at dkB02decX2_22 58 rfl
theorem dX10_tie_53 : decode cX10_tie 53 = .ok (.aload_n 0, 1) := dk_at dkB02decX2_22 59 rfl
noncomputable def dkL02decX2_23 : List (ByteArray × Nat × Instr × Nat) := [(cX10_tie, 54, (.iconst 1, 1)), (cX10_tie, 55, (.invokevirtual 238, 3)), (cX10_tie, 58, (.astore_n 3, 1)), (cX10_tie, 59, (.aload_n 2, 1)), (cX10_tie, 60, (.getfield 242, 3)), (cX10_tie, 63, (.lconst 0, 1)), (cX10_tie, 64, (.lcmp, 1)), (cX10_tie, 65, (.ifCond .eq 12, 3)), (cX10_tie, 68, (.aload_n 3, 1)), (cX10_tie, 69, (.getfield 242, 3)), (cX10_tie, 72, (.lconst 0, 1)), (cX10_tie, 73, (.lcmp, 1)), (cX10_tie, 74, (.ifCond .ne 7, 3)), (cX10_tie, 77, (.ldc2_w 276, 3)), (cX10_tie, 80, (.lreturn, 1)), (cX10_tie, 81, (.iconst 0, 1)), (cX10_tie, 82, (.istore 4, 2)), (cX10_tie, 84, (.iconst 0, 1)), (cX10_tie, 85, (.istore 5, 2)), (cX10_tie, 87, (.ldc2_w 234, 3)), (cX10_tie, 90, (.lstore 6, 2)), (cX10_tie, 92, (.iconst 0, 1)), (cX10_tie, 93, (.istore 8, 2)), (cX10_tie, 95, (.iload 8, 2)), (cX10_tie, 97, (.aload_n 2, 1)), (cX10_tie, 98, (.getfield 278, 3)), (cX10_tie, 101, (.if_icmp .ge 57, 3)), (cX10_tie, 104, (.iconst 0, 1)), (cX10_tie, 105, (.istore 9, 2)), (cX10_tie, 107, (.iload 9, 2)), (cX10_tie, 109, (.aload_n 3, 1)), (cX10_tie, 110, (.getfield 278, 3)), (cX10_tie, 113, (.if_icmp .ge 39, 3)), (cX10_tie, 116, (.aload_n 0, 1)), (cX10_tie, 117, (.iload 8, 2)), (cX10_tie, 119, (.iload 9, 2)), (cX10_tie, 121, (.invokevirtual 324, 3)), (cX10_tie, 124, (.lstore 10, 2)), (cX10_tie, 126, (.lload 10, 2)), (cX10_tie, 128, (.lload 6, 2)), (cX10_tie, 130, (.lcmp, 1)), (cX10_tie, 131, (.ifCond .le 15, 3)), (cX10_tie, 134, (.lload 10, 2)), (cX10_tie, 136, (.lstore 6, 2)), (cX10_tie, 138, (.iload 8, 2)), (cX10_tie, 140, (.istore 4, 2)), (cX10_tie, 142, (.iload 9, 2)), (cX10_tie, 144, (.istore 5, 2)), (cX10_tie, 146, (.iinc 9 1, 3)), (cX10_tie, 149, (.goto (-42), 3)), (cX10_tie, 152, (.iinc 8 1, 3)), (cX10_tie, 155, (.goto (-60), 3)), (cX10_tie, 158, (.iload_n 1, 1)), (cX10_tie, 159, (.ifCond .ne 14, 3)), (cX10_tie, 162, (.aload_n 2, 1)), (cX10_tie, 163, (.getfield 284, 3)), (cX10_tie, 166, (.iload 4, 2)), (cX10_tie, 168, (.iaload, 1)), (cX10_tie, 169, (.i2l, 1)), (cX10_tie, 170, (.goto 21, 3))]
theorem dkB02decX2_23 : dkL02decX2_23.all (fun q => decide (decode q.1 q.2.1 = .ok q.2.2)) = true := by decide +kernel
theorem dX10_tie_54 : decode cX10_tie 54 = .ok (.iconst 1, 1) := dk_at dkB02decX2_23 0 rfl
theorem dX10_tie_55 : decode cX10_tie 55 = .ok (.invokevirtual 238, 3) := dk_at dkB02decX2_23 1 rfl
theorem dX10_tie_58 : decode cX10_tie 58 = .ok (.astore_n 3, 1) := dk_at dkB02decX2_23 2 rfl
theorem dX10_tie_59 : decode cX10_tie 59 = .ok (.aload_n 2, 1) := dk_at dkB02decX2_23 3 rfl
theorem dX10_tie_60 : decode cX10_tie 60 = .ok (.getfield 242, 3) := dk_at dkB02decX2_23 4 rfl
theorem dX10_tie_63 : decode cX10_tie 63 = .ok (.lconst 0, 1) := dk_at dkB02decX2_23 5 rfl
theorem dX10_tie_64 : decode cX10_tie 64 = .ok (.lcmp, 1) := dk_at dkB02decX2_23 6 rfl
theorem dX10_tie_65 : decode cX10_tie 65 = .ok (.ifCond .eq 12, 3) := dk_at dkB02decX2_23 7 rfl
theorem dX10_tie_68 : decode cX10_tie 68 = .ok (.aload_n 3, 1) := dk_at dkB02decX2_23 8 rfl
theorem dX10_tie_69 : decode cX10_tie 69 = .ok (.getfield 242, 3) := dk_at dkB02decX2_23 9 rfl
theorem dX10_tie_72 : decode cX10_tie 72 = .ok (.lconst 0, 1) := dk_at dkB02decX2_23 10 rfl
theorem dX10_tie_73 : decode cX10_tie 73 = .ok (.lcmp, 1) := dk_at dkB02decX2_23 11 rfl
theorem dX10_tie_74 : decode cX10_tie 74 = .ok (.ifCond .ne 7, 3) := dk_at dkB02decX2_23 12 rfl
theorem dX10_tie_77 : decode cX10_tie 77 = .ok (.ldc2_w 276, 3) := dk_at dkB02decX2_23 13 rfl
theorem dX10_tie_80 : decode cX10_tie 80 = .ok (.lreturn, 1) := dk_at dkB02decX2_23 14 rfl
theorem dX10_tie_81 : decode cX10_tie 81 = .ok (.iconst 0, 1) := dk_at dkB02decX2_23 15 rfl
theorem dX10_tie_82 : decode cX10_tie 82 = .ok (.istore 4, 2) := dk_at dkB02decX2_23 16 rfl
theorem dX10_tie_84 : decode cX10_tie 84 = .ok (.iconst 0, 1) := dk_at dkB02decX2_23 17 rfl
theorem dX10_tie_85 : decode cX10_tie 85 = .ok (.istore 5, 2) := dk_at dkB02decX2_23 18 rfl
theorem dX10_tie_87 : decode cX10_tie 87 = .ok (.ldc2_w 234, 3) := dk_at dkB02decX2_23 19 rfl
theorem dX10_tie_90 : decode cX10_tie 90 = .ok (.lstore 6, 2) := dk_at dkB02decX2_23 20 rfl
theorem dX10_tie_92 : decode cX10_tie 92 = .ok (.iconst 0, 1) := dk_at dkB02decX2_23 21 rfl
theorem dX10_tie_93 : decode cX10_tie 93 = .ok (.istore 8, 2) := dk_at dkB02decX2_23 22 rfl
theorem dX10_tie_95 : decode cX10_tie 95 = .ok (.iload 8, 2) := dk_at dkB02decX2_23 23 rfl
theorem dX10_tie_97 : decode cX10_tie 97 = .ok (.aload_n 2, 1) := dk_at dkB02decX2_23 24 rfl
theorem dX10_tie_98 : decode cX10_tie 98 = .ok (.getfield 278, 3) := dk_at dkB02decX2_23 25 rfl
theorem dX10_tie_101 : decode cX10_tie 101 = .ok (.if_icmp .ge 57, 3) := dk_at dkB02decX2_23 26 rfl
theorem dX10_tie_104 : decode cX10_tie 104 = .ok (.iconst 0, 1) := dk_at dkB02decX2_23 27 rfl
theorem dX10_tie_105 : decode cX10_tie 105 = .ok (.istore 9, 2) := dk_at dkB02decX2_23 28 rfl
theorem dX10_tie_107 : decode cX10_tie 107 = .ok (.iload 9, 2) := dk_at dkB02decX2_23 29 rfl
theorem dX10_tie_109 : decode cX10_tie 109 = .ok (.aload_n 3, 1) := dk_at dkB02decX2_23 30 rfl
theorem dX10_tie_110 : decode cX10_tie 110 = .ok (.getfield 278, 3) := dk_at dkB02decX2_23 31 rfl
theorem dX10_tie_113 : decode cX10_tie 113 = .ok (.if_icmp .ge 39, 3) := dk_at dkB02decX2_23 32 rfl
theorem dX10_tie_116 : decode cX10_tie 116 = .ok (.aload_n 0, 1) := dk_at dkB02decX2_23 33 rfl
theorem dX10_tie_117 : decode cX10_tie 117 = .ok (.iload 8, 2) := dk_at dkB02decX2_23 34 rfl
theorem dX10_tie_119 : decode cX10_tie 119 = .ok (.iload 9, 2) := dk_at dkB02decX2_23 35 rfl
theorem dX10_tie_121 : decode cX10_tie 121 = .ok (.invokevirtual 324, 3) := dk_at dkB02decX2_23 36 rfl
theorem dX10_tie_124 : decode cX10_tie 124 = .ok (.lstore 10, 2) := dk_at dkB02decX2_23 37 rfl
theorem dX10_tie_126 : decode cX10_tie 126 = .ok (.lload 10, 2) := dk_at dkB02decX2_23 38 rfl
theorem dX10_tie_128 : decode cX10_tie 128 = .ok (.lload 6, 2) := dk_at dkB02decX2_23 39 rfl
theorem dX10_tie_130 : decode cX10_tie 130 = .ok (.lcmp, 1) := dk_at dkB02decX2_23 40 rfl
theorem dX10_tie_131 : decode cX10_tie 131 = .ok (.ifCond .le 15, 3) := dk_at dkB02decX2_23 41 rfl
theorem dX10_tie_134 : decode cX10_tie 134 = .ok (.lload 10, 2) := dk_at dkB02decX2_23 42 rfl
theorem dX10_tie_136 : decode cX10_tie 136 = .ok (.lstore 6, 2) := dk_at dkB02decX2_23 43 rfl
theorem dX10_tie_138 : decode cX10_tie 138 = .ok (.iload 8, 2) := dk_at dkB02decX2_23 44 rfl
theorem dX10_tie_140 : decode cX10_tie 140 = .ok (.istore 4, 2) := dk_at dkB02decX2_23 45 rfl
theorem dX10_tie_142 : decode cX10_tie 142 = .ok (.iload 9, 2) := dk_at dkB02decX2_23 46 rfl
theorem dX10_tie_144 : decode cX10_tie 144 = .ok (.istore 5, 2) := dk_at dkB02decX2_23 47 rfl
theorem dX10_tie_146 : decode cX10_tie 146 = .ok (.iinc 9 1, 3) := dk_at dkB02decX2_23 48 rfl
theorem dX10_tie_149 : decode cX10_tie 149 = .ok (.goto (-42), 3) := dk_at dkB02decX2_23 49 rfl
theorem dX10_tie_152 : decode cX10_tie 152 = .ok (.iinc 8 1, 3) := dk_at dkB02decX2_23 50 rfl
theorem dX10_tie_155 : decode cX10_tie 155 = .ok (.goto (-60), 3) := dk_at dkB02decX2_23 51 rfl
theorem dX10_tie_158 : decode cX10_tie 158 = .ok (.iload_n 1, 1) := dk_at dkB02decX2_23 52 rfl
theorem dX10_tie_159 : decode cX10_tie 159 = .ok (.ifCond .ne 14, 3) := dk_at dkB02decX2_23 53 rfl
theorem dX10_tie_162 : decode cX10_tie 162 = .ok (.aload_n 2, 1) := dk_at dkB02decX2_23 54 rfl
theorem dX10_tie_163 : decode cX10_tie 163 = .ok (.getfield 284, 3) := dk_at dkB02decX2_23 55 rfl
theorem dX10_tie_166 : decode cX10_tie 166 = .ok (.iload 4, 2) := dk_at dkB02decX2_23 56 rfl
theorem dX10_tie_168 : decode cX10_tie 168 = .ok (.iaload, 1) := dk_at dkB02decX2_23 57 rfl
theorem dX10_tie_169 : decode cX10_tie 169 = .ok (.i2l, 1) := dk_at dkB02decX2_23 58 rfl
theorem dX10_tie_170 : decode cX10_tie 170 = .ok (.goto 21, 3) := dk_at dkB02decX2_23 59 rfl
noncomputable def dkL02decX2_24 : List (ByteArray × Nat × Instr × Nat) := [(cX10_tie, 173, (.iload_n 1, 1)), (cX10_tie, 174, (.iconst 1, 1)), (cX10_tie, 175, (.if_icmp .ne 14, 3)), (cX10_tie, 178, (.aload_n 3, 1)), (cX10_tie, 179, (.getfield 284, 3)), (cX10_tie, 182, (.iload 5, 2)), (cX10_tie, 184, (.iaload, 1)), (cX10_tie, 185, (.i2l, 1)), (cX10_tie, 186, (.goto 5, 3)), (cX10_tie, 189, (.lload 6, 2)), (cX10_tie, 191, (.lreturn, 1)), (cX10_claim, 0, (.aload_n 0, 1)), (cX10_claim, 1, (.getfield 22, 3)), (cX10_claim, 4, (.aload_n 0, 1)), (cX10_claim, 5, (.getfield 36, 3)), (cX10_claim, 8, (.invokevirtual 327, 3)), (cX10_claim, 11, (.istore_n 1, 1)), (cX10_claim, 12, (.iload_n 1, 1)), (cX10_claim, 13, (.ifCond .eq 13, 3)), (cX10_claim, 16, (.aload_n 0, 1)), (cX10_claim, 17, (.getfield 22, 3)), (cX10_claim, 20, (.iconst 0, 1)), (cX10_claim, 21, (.putfield 116, 3)), (cX10_claim, 24, (.iload_n 1, 1)), (cX10_claim, 25, (.ireturn, 1)), (cX10_claim, 26, (.aload_n 0, 1)), (cX10_claim, 27, (.getfield 12, 3)), (cX10_claim, 30, (.getfield 225, 3)), (cX10_claim, 33, (.iconst 4, 1)), (cX10_claim, 34, (.if_icmp .ne 6, 3)), (cX10_claim, 37, (.bipush (-3), 2)), (cX10_claim, 39, (.ireturn, 1)), (cX10_claim, 40, (.aload_n 0, 1)), (cX10_claim, 41, (.getfield 22, 3)), (cX10_claim, 44, (.iconst 0, 1)), (cX10_claim, 45, (.putfield 116, 3)), (cX10_claim, 48, (.aload_n 0, 1)), (cX10_claim, 49, (.getfield 12, 3)), (cX10_claim, 52, (.getfield 331, 3)), (cX10_claim, 55, (.aload_n 0, 1)), (cX10_claim, 56, (.getfield 12, 3)), (cX10_claim, 59, (.getfield 225, 3)), (cX10_claim, 62, (.aaload, 1)), (cX10_claim, 63, (.aload_n 0, 1)), (cX10_claim, 64, (.getfield 36, 3)), (cX10_claim, 67, (.invokevirtual 335, 3)), (cX10_claim, 70, (.aload_n 0, 1)), (cX10_claim, 71, (.getfield 12, 3)), (cX10_claim, 74, (.dup, 1)), (cX10_claim, 75, (.getfield 225, 3)), (cX10_claim, 78, (.iconst 1, 1)), (cX10_claim, 79, (.iadd, 1)), (cX10_claim, 80, (.putfield 225, 3)), (cX10_claim, 83, (.aload_n 0, 1)), (cX10_claim, 84, (.getfield 12, 3)), (cX10_claim, 87, (.getfield 225, 3)), (cX10_claim, 90, (.iconst 1, 1)), (cX10_claim, 91, (.isub, 1)), (cX10_claim, 92, (.ireturn, 1)), (cX10_chance, 0, (.aload_n 0, 1))]
theorem dkB02decX2_24 : dkL02decX2_24.all (fun q => decide (decode q.1 q.2.1 = .ok q.2.2)) = true := by decide +kernel
theorem dX10_tie_173 : decode cX10_tie 173 = .ok (.iload_n 1, 1) := dk_at dkB02decX2_24 0 rfl
theorem dX10_tie_174 : decode cX10_tie 174 = .ok (.iconst 1, 1) := dk_at dkB02decX2_24 1 rfl
theorem dX10_tie_175 : decode cX10_tie 175 = .ok (.if_icmp .ne 14, 3) := dk_at dkB02decX2_24 2 rfl
theorem dX10_tie_178 : decode cX10_tie 178 = .ok (.aload_n 3, 1) := dk_at dkB02decX2_24 3 rfl
theorem dX10_tie_179 : decode cX10_tie 179 = .ok (.getfield 284, 3) := dk_at dkB02decX2_24 4 rfl
theorem dX10_tie_182 : decode cX10_tie 182 = .ok (.iload 5, 2) := dk_at dkB02decX2_24 5 rfl
theorem dX10_tie_184 : decode cX10_tie 184 = .ok (.iaload, 1) := dk_at dkB02decX2_24 6 rfl
theorem dX10_tie_185 : decode cX10_tie 185 = .ok (.i2l, 1) := dk_at dkB02decX2_24 7 rfl
theorem dX10_tie_186 : decode cX10_tie 186 = .ok (.goto 5, 3) := dk_at dkB02decX2_24 8 rfl
theorem dX10_tie_189 : decode cX10_tie 189 = .ok (.lload 6, 2) := dk_at dkB02decX2_24 9 rfl
theorem dX10_tie_191 : decode cX10_tie 191 = .ok (.lreturn, 1) := dk_at dkB02decX2_24 10 rfl
theorem dX10_claim_0 : decode cX10_claim 0 = .ok (.aload_n 0, 1) := dk_at dkB02decX2_24 11 rfl
theorem dX10_claim_1 : decode cX10_claim 1 = .ok (.getfield 22, 3) := dk_at dkB02decX2_24 12 rfl
theorem dX10_claim_4 : decode cX10_claim 4 = .ok (.aload_n 0, 1) := dk_at dkB02decX2_24 13 rfl
theorem dX10_claim_5 : decode cX10_claim 5 = .ok (.getfield 36, 3) := dk_at dkB02decX2_24 14 rfl
theorem dX10_claim_8 : decode cX10_claim 8 = .ok (.invokevirtual 327, 3) := dk_at dkB02decX2_24 15 rfl
theorem dX10_claim_11 : decode cX10_claim 11 = .ok (.istore_n 1, 1) := dk_at dkB02decX2_24 16 rfl
theorem dX10_claim_12 : decode cX10_claim 12 = .ok (.iload_n 1, 1) := dk_at dkB02decX2_24 17 rfl
theorem dX10_claim_13 : decode cX10_claim 13 = .ok (.ifCond .eq 13, 3) := dk_at dkB02decX2_24 18 rfl
theorem dX10_claim_16 : decode cX10_claim 16 = .ok (.aload_n 0, 1) := dk_at dkB02decX2_24 19 rfl
theorem dX10_claim_17 : decode cX10_claim 17 = .ok (.getfield 22, 3) := dk_at dkB02decX2_24 20 rfl
theorem dX10_claim_20 : decode cX10_claim 20 = .ok (.iconst 0, 1) := dk_at dkB02decX2_24 21 rfl
theorem dX10_claim_21 : decode cX10_claim 21 = .ok (.putfield 116, 3) := dk_at dkB02decX2_24 22 rfl
theorem dX10_claim_24 : decode cX10_claim 24 = .ok (.iload_n 1, 1) := dk_at dkB02decX2_24 23 rfl
theorem dX10_claim_25 : decode cX10_claim 25 = .ok (.ireturn, 1) := dk_at dkB02decX2_24 24 rfl
theorem dX10_claim_26 : decode cX10_claim 26 = .ok (.aload_n 0, 1) := dk_at dkB02decX2_24 25 rfl
theorem dX10_claim_27 : decode cX10_claim 27 = .ok (.getfield 12, 3) := dk_at dkB02decX2_24 26 rfl
theorem dX10_claim_30 : decode cX10_claim 30 = .ok (.getfield 225, 3) := dk_at dkB02decX2_24 27 rfl
theorem dX10_claim_33 : decode cX10_claim 33 = .ok (.iconst 4, 1) := dk_at dkB02decX2_24 28 rfl
theorem dX10_claim_34 : decode cX10_claim 34 = .ok (.if_icmp .ne 6, 3) := dk_at dkB02decX2_24 29 rfl
theorem dX10_claim_37 : decode cX10_claim 37 = .ok (.bipush (-3), 2) := dk_at dkB02decX2_24 30 rfl
theorem dX10_claim_39 : decode cX10_claim 39 = .ok (.ireturn, 1) := dk_at dkB02decX2_24 31 rfl
theorem dX10_claim_40 : decode cX10_claim 40 = .ok (.aload_n 0, 1) := dk_at dkB02decX2_24 32 rfl
theorem dX10_claim_41 : decode cX10_claim 41 = .ok (.getfield 22, 3) := dk_at dkB02decX2_24 33 rfl
theorem dX10_claim_44 : decode cX10_claim 44 = .ok (.iconst 0, 1) := dk_at dkB02decX2_24 34 rfl
theorem dX10_claim_45 : decode cX10_claim 45 = .ok (.putfield 116, 3) := dk_at dkB02decX2_24 35 rfl
theorem dX10_claim_48 : decode cX10_claim 48 = .ok (.aload_n 0, 1) := dk_at dkB02decX2_24 36 rfl
theorem dX10_claim_49 : decode cX10_claim 49 = .ok (.getfield 12, 3) := dk_at dkB02decX2_24 37 rfl
theorem dX10_claim_52 : decode cX10_claim 52 = .ok (.getfield 331, 3) := dk_at dkB02decX2_24 38 rfl
theorem dX10_claim_55 : decode cX10_claim 55 = .ok (.aload_n 0, 1) := dk_at dkB02decX2_24 39 rfl
theorem dX10_claim_56 : decode cX10_claim 56 = .ok (.getfield 12, 3) := dk_at dkB02decX2_24 40 rfl
theorem dX10_claim_59 : decode cX10_claim 59 = .ok (.getfield 225, 3) := dk_at dkB02decX2_24 41 rfl
theorem dX10_claim_62 : decode cX10_claim 62 = .ok (.aaload, 1) := dk_at dkB02decX2_24 42 rfl
theorem dX10_claim_63 : decode cX10_claim 63 = .ok (.aload_n 0, 1) := dk_at dkB02decX2_24 43 rfl
theorem dX10_claim_64 : decode cX10_claim 64 = .ok (.getfield 36, 3) := dk_at dkB02decX2_24 44 rfl
theorem dX10_claim_67 : decode cX10_claim 67 = .ok (.invokevirtual 335, 3) := dk_at dkB02decX2_24 45 rfl
theorem dX10_claim_70 : decode cX10_claim 70 = .ok (.aload_n 0, 1) := dk_at dkB02decX2_24 46 rfl
theorem dX10_claim_71 : decode cX10_claim 71 = .ok (.getfield 12, 3) := dk_at dkB02decX2_24 47 rfl
theorem dX10_claim_74 : decode cX10_claim 74 = .ok (.dup, 1) := dk_at dkB02decX2_24 48 rfl
theorem dX10_claim_75 : decode cX10_claim 75 = .ok (.getfield 225, 3) := dk_at dkB02decX2_24 49 rfl
theorem dX10_claim_78 : decode cX10_claim 78 = .ok (.iconst 1, 1) := dk_at dkB02decX2_24 50 rfl
theorem dX10_claim_79 : decode cX10_claim 79 = .ok (.iadd, 1) := dk_at dkB02decX2_24 51 rfl
theorem dX10_claim_80 : decode cX10_claim 80 = .ok (.putfield 225, 3) := dk_at dkB02decX2_24 52 rfl
theorem dX10_claim_83 : decode cX10_claim 83 = .ok (.aload_n 0, 1) := dk_at dkB02decX2_24 53 rfl
theorem dX10_claim_84 : decode cX10_claim 84 = .ok (.getfield 12, 3) := dk_at dkB02decX2_24 54 rfl
theorem dX10_claim_87 : decode cX10_claim 87 = .ok (.getfield 225, 3) := dk_at dkB02decX2_24 55 rfl
theorem dX10_claim_90 : decode cX10_claim 90 = .ok (.iconst 1, 1) := dk_at dkB02decX2_24 56 rfl
theorem dX10_claim_91 : decode cX10_claim 91 = .ok (.isub, 1) := dk_at dkB02decX2_24 57 rfl
theorem dX10_claim_92 : decode cX10_claim 92 = .ok (.ireturn, 1) := dk_at dkB02decX2_24 58 rfl
theorem dX10_chance_0 : decode cX10_chance 0 = .ok (.aload_n 0, 1) := dk_at dkB02decX2_24 59 rfl
noncomputable def dkL02decX2_25 : List (ByteArray × Nat × Instr × Nat) := [(cX10_chance, 1, (.iload_n 1, 1)), (cX10_chance, 2, (.invokevirtual 338, 3)), (cX10_chance, 5, (.ifCond .eq 19, 3)), (cX10_chance, 8, (.iload_n 2, 1)), (cX10_chance, 9, (.invokestatic 144, 3)), (cX10_chance, 12, (.ifCond .eq 12, 3)), (cX10_chance, 15, (.iload_n 3, 1)), (cX10_chance, 16, (.iconst 0, 1)), (cX10_chance, 17, (.iconst 1, 1)), (cX10_chance, 18, (.invokestatic 69, 3)), (cX10_chance, 21, (.ifCond .ne 7, 3)), (cX10_chance, 24, (.ldc2_w 234, 3)), (cX10_chance, 27, (.lreturn, 1)), (cX10_chance, 28, (.aload_n 0, 1)), (cX10_chance, 29, (.getfield 12, 3)), (cX10_chance, 32, (.getfield 147, 3)), (cX10_chance, 35, (.iload_n 2, 1)), (cX10_chance, 36, (.aaload, 1)), (cX10_chance, 37, (.invokevirtual 231, 3)), (cX10_chance, 40, (.ifCond .ne 7, 3)), (cX10_chance, 43, (.ldc2_w 236, 3)), (cX10_chance, 46, (.lreturn, 1)), (cX10_chance, 47, (.aload_n 0, 1)), (cX10_chance, 48, (.iload_n 2, 1)), (cX10_chance, 49, (.invokevirtual 238, 3)), (cX10_chance, 52, (.astore 4, 2)), (cX10_chance, 54, (.aload 4, 2)), (cX10_chance, 56, (.getfield 242, 3)), (cX10_chance, 59, (.lconst 0, 1)), (cX10_chance, 60, (.lcmp, 1)), (cX10_chance, 61, (.ifCond .ne 7, 3)), (cX10_chance, 64, (.ldc2_w 276, 3)), (cX10_chance, 67, (.lreturn, 1)), (cX10_chance, 68, (.aload_n 0, 1)), (cX10_chance, 69, (.getfield 61, 3)), (cX10_chance, 72, (.aload 4, 2)), (cX10_chance, 74, (.aload_n 0, 1)), (cX10_chance, 75, (.getfield 12, 3)), (cX10_chance, 78, (.getfield 147, 3)), (cX10_chance, 81, (.iload_n 2, 1)), (cX10_chance, 82, (.aaload, 1)), (cX10_chance, 83, (.aload_n 0, 1)), (cX10_chance, 84, (.getfield 12, 3)), (cX10_chance, 87, (.getfield 331, 3)), (cX10_chance, 90, (.iload_n 1, 1)), (cX10_chance, 91, (.aaload, 1)), (cX10_chance, 92, (.iconst 0, 1)), (cX10_chance, 93, (.invokevirtual 341, 3)), (cX10_chance, 96, (.aload 4, 2)), (cX10_chance, 98, (.getfield 242, 3)), (cX10_chance, 101, (.iload_n 3, 1)), (cX10_chance, 102, (.invokestatic 258, 3)), (cX10_chance, 105, (.lreturn, 1)), (cX10_holds, 0, (.aload_n 0, 1)), (cX10_holds, 1, (.iload_n 1, 1)), (cX10_holds, 2, (.invokevirtual 338, 3)), (cX10_holds, 5, (.ifCond .eq 10, 3)), (cX10_holds, 8, (.iload_n 2, 1)), (cX10_holds, 9, (.invokestatic 144, 3)), (cX10_holds, 12, (.ifCond .ne 5, 3))]
theorem dkB02decX2_25 : dkL02decX2_25.all (fun q => decide (decode q.1 q.2.1 = .ok q.2.2)) = true := by decide +kernel
theorem dX10_chance_1 : decode cX10_chance 1 = .ok (.iload_n 1, 1) := dk_at dkB02decX2_25 0 rfl
theorem dX10_chance_2 : decode cX10_chance 2 = .ok (.invokevirtual 338, 3) := dk_at dkB02decX2_25 1 rfl
theorem dX10_chance_5 : decode cX10_chance 5 = .ok (.ifCond .eq 19, 3) := dk_at dkB02decX2_25 2 rfl
theorem dX10_chance_8 : decode cX10_chance 8 = .ok (.iload_n 2, 1) := dk_at dkB02decX2_25 3 rfl
theorem dX10_chance_9 : decode cX10_chance 9 = .ok (.invokestatic 144, 3) := dk_at dkB02decX2_25 4 rfl
theorem dX10_chance_12 : decode cX10_chance 12 = .ok (.ifCond .eq 12, 3) := dk_at dkB02decX2_25 5 rfl
theorem dX10_chance_15 : decode cX10_chance 15 = .ok (.iload_n 3, 1) := dk_at dkB02decX2_25 6 rfl
theorem dX10_chance_16 : decode cX10_chance 16 = .ok (.iconst 0, 1) := dk_at dkB02decX2_25 7 rfl
theorem dX10_chance_17 : decode cX10_chance 17 = .ok (.iconst 1, 1) := dk_at dkB02decX2_25 8 rfl
theorem dX10_chance_18 : decode cX10_chance 18 = .ok (.invokestatic 69, 3) := dk_at dkB02decX2_25 9 rfl
theorem dX10_chance_21 : decode cX10_chance 21 = .ok (.ifCond .ne 7, 3) := dk_at dkB02decX2_25 10 rfl
theorem dX10_chance_24 : decode cX10_chance 24 = .ok (.ldc2_w 234, 3) := dk_at dkB02decX2_25 11 rfl
theorem dX10_chance_27 : decode cX10_chance 27 = .ok (.lreturn, 1) := dk_at dkB02decX2_25 12 rfl
theorem dX10_chance_28 : decode cX10_chance 28 = .ok (.aload_n 0, 1) := dk_at dkB02decX2_25 13 rfl
theorem dX10_chance_29 : decode cX10_chance 29 = .ok (.getfield 12, 3) := dk_at dkB02decX2_25 14 rfl
theorem dX10_chance_32 : decode cX10_chance 32 = .ok (.getfield 147, 3) := dk_at dkB02decX2_25 15 rfl
theorem dX10_chance_35 : decode cX10_chance 35 = .ok (.iload_n 2, 1) := dk_at dkB02decX2_25 16 rfl
theorem dX10_chance_36 : decode cX10_chance 36 = .ok (.aaload, 1) := dk_at dkB02decX2_25 17 rfl
theorem dX10_chance_37 : decode cX10_chance 37 = .ok (.invokevirtual 231, 3) := dk_at dkB02decX2_25 18 rfl
theorem dX10_chance_40 : decode cX10_chance 40 = .ok (.ifCond .ne 7, 3) := dk_at dkB02decX2_25 19 rfl
theorem dX10_chance_43 : decode cX10_chance 43 = .ok (.ldc2_w 236, 3) := dk_at dkB02decX2_25 20 rfl
theorem dX10_chance_46 : decode cX10_chance 46 = .ok (.lreturn, 1) := dk_at dkB02decX2_25 21 rfl
theorem dX10_chance_47 : decode cX10_chance 47 = .ok (.aload_n 0, 1) := dk_at dkB02decX2_25 22 rfl
theorem dX10_chance_48 : decode cX10_chance 48 = .ok (.iload_n 2, 1) := dk_at dkB02decX2_25 23 rfl
theorem dX10_chance_49 : decode cX10_chance 49 = .ok (.invokevirtual 238, 3) := dk_at dkB02decX2_25 24 rfl
theorem dX10_chance_52 : decode cX10_chance 52 = .ok (.astore 4, 2) := dk_at dkB02decX2_25 25 rfl
theorem dX10_chance_54 : decode cX10_chance 54 = .ok (.aload 4, 2) := dk_at dkB02decX2_25 26 rfl
theorem dX10_chance_56 : decode cX10_chance 56 = .ok (.getfield 242, 3) := dk_at dkB02decX2_25 27 rfl
theorem dX10_chance_59 : decode cX10_chance 59 = .ok (.lconst 0, 1) := dk_at dkB02decX2_25 28 rfl
theorem dX10_chance_60 : decode cX10_chance 60 = .ok (.lcmp, 1) := dk_at dkB02decX2_25 29 rfl
theorem dX10_chance_61 : decode cX10_chance 61 = .ok (.ifCond .ne 7, 3) := dk_at dkB02decX2_25 30 rfl
theorem dX10_chance_64 : decode cX10_chance 64 = .ok (.ldc2_w 276, 3) := dk_at dkB02decX2_25 31 rfl
theorem dX10_chance_67 : decode cX10_chance 67 = .ok (.lreturn, 1) := dk_at dkB02decX2_25 32 rfl
theorem dX10_chance_68 : decode cX10_chance 68 = .ok (.aload_n 0, 1) := dk_at dkB02decX2_25 33 rfl
theorem dX10_chance_69 : decode cX10_chance 69 = .ok (.getfield 61, 3) := dk_at dkB02decX2_25 34 rfl
theorem dX10_chance_72 : decode cX10_chance 72 = .ok (.aload 4, 2) := dk_at dkB02decX2_25 35 rfl
theorem dX10_chance_74 : decode cX10_chance 74 = .ok (.aload_n 0, 1) := dk_at dkB02decX2_25 36 rfl
theorem dX10_chance_75 : decode cX10_chance 75 = .ok (.getfield 12, 3) := dk_at dkB02decX2_25 37 rfl
theorem dX10_chance_78 : decode cX10_chance 78 = .ok (.getfield 147, 3) := dk_at dkB02decX2_25 38 rfl
theorem dX10_chance_81 : decode cX10_chance 81 = .ok (.iload_n 2, 1) := dk_at dkB02decX2_25 39 rfl
theorem dX10_chance_82 : decode cX10_chance 82 = .ok (.aaload, 1) := dk_at dkB02decX2_25 40 rfl
theorem dX10_chance_83 : decode cX10_chance 83 = .ok (.aload_n 0, 1) := dk_at dkB02decX2_25 41 rfl
theorem dX10_chance_84 : decode cX10_chance 84 = .ok (.getfield 12, 3) := dk_at dkB02decX2_25 42 rfl
theorem dX10_chance_87 : decode cX10_chance 87 = .ok (.getfield 331, 3) := dk_at dkB02decX2_25 43 rfl
theorem dX10_chance_90 : decode cX10_chance 90 = .ok (.iload_n 1, 1) := dk_at dkB02decX2_25 44 rfl
theorem dX10_chance_91 : decode cX10_chance 91 = .ok (.aaload, 1) := dk_at dkB02decX2_25 45 rfl
theorem dX10_chance_92 : decode cX10_chance 92 = .ok (.iconst 0, 1) := dk_at dkB02decX2_25 46 rfl
theorem dX10_chance_93 : decode cX10_chance 93 = .ok (.invokevirtual 341, 3) := dk_at dkB02decX2_25 47 rfl
theorem dX10_chance_96 : decode cX10_chance 96 = .ok (.aload 4, 2) := dk_at dkB02decX2_25 48 rfl
theorem dX10_chance_98 : decode cX10_chance 98 = .ok (.getfield 242, 3) := dk_at dkB02decX2_25 49 rfl
theorem dX10_chance_101 : decode cX10_chance 101 = .ok (.iload_n 3, 1) := dk_at dkB02decX2_25 50 rfl
theorem dX10_chance_102 : decode cX10_chance 102 = .ok (.invokestatic 258, 3) := dk_at dkB02decX2_25 51 rfl
theorem dX10_chance_105 : decode cX10_chance 105 = .ok (.lreturn, 1) := dk_at dkB02decX2_25 52 rfl
theorem dX10_holds_0 : decode cX10_holds 0 = .ok (.aload_n 0, 1) := dk_at dkB02decX2_25 53 rfl
theorem dX10_holds_1 : decode cX10_holds 1 = .ok (.iload_n 1, 1) := dk_at dkB02decX2_25 54 rfl
theorem dX10_holds_2 : decode cX10_holds 2 = .ok (.invokevirtual 338, 3) := dk_at dkB02decX2_25 55 rfl
theorem dX10_holds_5 : decode cX10_holds 5 = .ok (.ifCond .eq 10, 3) := dk_at dkB02decX2_25 56 rfl
theorem dX10_holds_8 : decode cX10_holds 8 = .ok (.iload_n 2, 1) := dk_at dkB02decX2_25 57 rfl
theorem dX10_holds_9 : decode cX10_holds 9 = .ok (.invokestatic 144, 3) := dk_at dkB02decX2_25 58 rfl
theorem dX10_holds_12 : decode cX10_holds 12 = .ok (.ifCond .ne 5, 3) := dk_at dkB02decX2_25 59 rfl
noncomputable def dkL02decX2_26 : List (ByteArray × Nat × Instr × Nat) := [(cX10_holds, 15, (.iconst (-1), 1)), (cX10_holds, 16, (.ireturn, 1)), (cX10_holds, 17, (.aload_n 0, 1)), (cX10_holds, 18, (.getfield 12, 3)), (cX10_holds, 21, (.getfield 147, 3)), (cX10_holds, 24, (.iload_n 2, 1)), (cX10_holds, 25, (.aaload, 1)), (cX10_holds, 26, (.astore_n 3, 1)), (cX10_holds, 27, (.aload_n 3, 1)), (cX10_holds, 28, (.getfield 173, 3)), (cX10_holds, 31, (.ifCond .ne 6, 3)), (cX10_holds, 34, (.bipush (-2), 2)), (cX10_holds, 36, (.ireturn, 1)), (cX10_holds, 37, (.aload_n 0, 1)), (cX10_holds, 38, (.getfield 12, 3)), (cX10_holds, 41, (.getfield 331, 3)), (cX10_holds, 44, (.iload_n 1, 1)), (cX10_holds, 45, (.aaload, 1)), (cX10_holds, 46, (.astore 4, 2)), (cX10_holds, 48, (.aload 4, 2)), (cX10_holds, 50, (.aload 4, 2)), (cX10_holds, 52, (.iconst 0, 1)), (cX10_holds, 53, (.aload_n 3, 1)), (cX10_holds, 54, (.invokevirtual 345, 3)), (cX10_holds, 57, (.aload 4, 2)), (cX10_holds, 59, (.iconst 1, 1)), (cX10_holds, 60, (.aload_n 3, 1)), (cX10_holds, 61, (.invokevirtual 345, 3)), (cX10_holds, 64, (.invokevirtual 349, 3)), (cX10_holds, 67, (.ifCond .eq 7, 3)), (cX10_holds, 70, (.iconst 1, 1)), (cX10_holds, 71, (.goto 4, 3)), (cX10_holds, 74, (.iconst 0, 1)), (cX10_holds, 75, (.ireturn, 1)), (cX10_looked, 0, (.aload_n 0, 1)), (cX10_looked, 1, (.iload_n 1, 1)), (cX10_looked, 2, (.invokevirtual 338, 3)), (cX10_looked, 5, (.ifCond .eq 20, 3)), (cX10_looked, 8, (.iload_n 2, 1)), (cX10_looked, 9, (.invokestatic 144, 3)), (cX10_looked, 12, (.ifCond .eq 13, 3)), (cX10_looked, 15, (.iload 5, 2)), (cX10_looked, 17, (.iconst 0, 1)), (cX10_looked, 18, (.iconst 1, 1)), (cX10_looked, 19, (.invokestatic 69, 3)), (cX10_looked, 22, (.ifCond .ne 5, 3)), (cX10_looked, 25, (.iconst (-1), 1)), (cX10_looked, 26, (.ireturn, 1)), (cX10_looked, 27, (.iload 4, 2)), (cX10_looked, 29, (.iconst 1, 1)), (cX10_looked, 30, (.sipush 1000, 3)), (cX10_looked, 33, (.invokestatic 69, 3)), (cX10_looked, 36, (.ifCond .eq 13, 3)), (cX10_looked, 39, (.iload_n 3, 1)), (cX10_looked, 40, (.iconst 0, 1)), (cX10_looked, 41, (.iload 4, 2)), (cX10_looked, 43, (.invokestatic 69, 3)), (cX10_looked, 46, (.ifCond .ne 5, 3)), (cX10_looked, 49, (.iconst (-1), 1)), (cX10_looked, 50, (.ireturn, 1))]
theorem dkB02decX2_26 : dkL02decX2_26.all (fun q => decide (decode q.1 q.2.1 = .ok q.2.2)) = true := by decide +kernel
theorem dX10_holds_15 : decode cX10_holds 15 = .ok (.iconst (-1), 1) := dk_at dkB02decX2_26 0 rfl
theorem dX10_holds_16 : decode cX10_holds 16 = .ok (.ireturn, 1) := dk_at dkB02decX2_26 1 rfl
theorem dX10_holds_17 : decode cX10_holds 17 = .ok (.aload_n 0, 1) := dk_at dkB02decX2_26 2 rfl
theorem dX10_holds_18 : decode cX10_holds 18 = .ok (.getfield 12, 3) := dk_at dkB02decX2_26 3 rfl
theorem dX10_holds_21 : decode cX10_holds 21 = .ok (.getfield 147, 3) := dk_at dkB02decX2_26 4 rfl
theorem dX10_holds_24 : decode cX10_holds 24 = .ok (.iload_n 2, 1) := dk_at dkB02decX2_26 5 rfl
theorem dX10_holds_25 : decode cX10_holds 25 = .ok (.aaload, 1) := dk_at dkB02decX2_26 6 rfl
theorem dX10_holds_26 : decode cX10_holds 26 = .ok (.astore_n 3, 1) := dk_at dkB02decX2_26 7 rfl
theorem dX10_holds_27 : decode cX10_holds 27 = .ok (.aload_n 3, 1) := dk_at dkB02decX2_26 8 rfl
theorem dX10_holds_28 : decode cX10_holds 28 = .ok (.getfield 173, 3) := dk_at dkB02decX2_26 9 rfl
theorem dX10_holds_31 : decode cX10_holds 31 = .ok (.ifCond .ne 6, 3) := dk_at dkB02decX2_26 10 rfl
theorem dX10_holds_34 : decode cX10_holds 34 = .ok (.bipush (-2), 2) := dk_at dkB02decX2_26 11 rfl
theorem dX10_holds_36 : decode cX10_holds 36 = .ok (.ireturn, 1) := dk_at dkB02decX2_26 12 rfl
theorem dX10_holds_37 : decode cX10_holds 37 = .ok (.aload_n 0, 1) := dk_at dkB02decX2_26 13 rfl
theorem dX10_holds_38 : decode cX10_holds 38 = .ok (.getfield 12, 3) := dk_at dkB02decX2_26 14 rfl
theorem dX10_holds_41 : decode cX10_holds 41 = .ok (.getfield 331, 3) := dk_at dkB02decX2_26 15 rfl
theorem dX10_holds_44 : decode cX10_holds 44 = .ok (.iload_n 1, 1) := dk_at dkB02decX2_26 16 rfl
theorem dX10_holds_45 : decode cX10_holds 45 = .ok (.aaload, 1) := dk_at dkB02decX2_26 17 rfl
theorem dX10_holds_46 : decode cX10_holds 46 = .ok (.astore 4, 2) := dk_at dkB02decX2_26 18 rfl
theorem dX10_holds_48 : decode cX10_holds 48 = .ok (.aload 4, 2) := dk_at dkB02decX2_26 19 rfl
theorem dX10_holds_50 : decode cX10_holds 50 = .ok (.aload 4, 2) := dk_at dkB02decX2_26 20 rfl
theorem dX10_holds_52 : decode cX10_holds 52 = .ok (.iconst 0, 1) := dk_at dkB02decX2_26 21 rfl
theorem dX10_holds_53 : decode cX10_holds 53 = .ok (.aload_n 3, 1) := dk_at dkB02decX2_26 22 rfl
theorem dX10_holds_54 : decode cX10_holds 54 = .ok (.invokevirtual 345, 3) := dk_at dkB02decX2_26 23 rfl
theorem dX10_holds_57 : decode cX10_holds 57 = .ok (.aload 4, 2) := dk_at dkB02decX2_26 24 rfl
theorem dX10_holds_59 : decode cX10_holds 59 = .ok (.iconst 1, 1) := dk_at dkB02decX2_26 25 rfl
theorem dX10_holds_60 : decode cX10_holds 60 = .ok (.aload_n 3, 1) := dk_at dkB02decX2_26 26 rfl
theorem dX10_holds_61 : decode cX10_holds 61 = .ok (.invokevirtual 345, 3) := dk_at dkB02decX2_26 27 rfl
theorem dX10_holds_64 : decode cX10_holds 64 = .ok (.invokevirtual 349, 3) := dk_at dkB02decX2_26 28 rfl
theorem dX10_holds_67 : decode cX10_holds 67 = .ok (.ifCond .eq 7, 3) := dk_at dkB02decX2_26 29 rfl
theorem dX10_holds_70 : decode cX10_holds 70 = .ok (.iconst 1, 1) := dk_at dkB02decX2_26 30 rfl
theorem dX10_holds_71 : decode cX10_holds 71 = .ok (.goto 4, 3) := dk_at dkB02decX2_26 31 rfl
theorem dX10_holds_74 : decode cX10_holds 74 = .ok (.iconst 0, 1) := dk_at dkB02decX2_26 32 rfl
theorem dX10_holds_75 : decode cX10_holds 75 = .ok (.ireturn, 1) := dk_at dkB02decX2_26 33 rfl
theorem dX10_looked_0 : decode cX10_looked 0 = .ok (.aload_n 0, 1) := dk_at dkB02decX2_26 34 rfl
theorem dX10_looked_1 : decode cX10_looked 1 = .ok (.iload_n 1, 1) := dk_at dkB02decX2_26 35 rfl
theorem dX10_looked_2 : decode cX10_looked 2 = .ok (.invokevirtual 338, 3) := dk_at dkB02decX2_26 36 rfl
theorem dX10_looked_5 : decode cX10_looked 5 = .ok (.ifCond .eq 20, 3) := dk_at dkB02decX2_26 37 rfl
theorem dX10_looked_8 : decode cX10_looked 8 = .ok (.iload_n 2, 1) := dk_at dkB02decX2_26 38 rfl
theorem dX10_looked_9 : decode cX10_looked 9 = .ok (.invokestatic 144, 3) := dk_at dkB02decX2_26 39 rfl
theorem dX10_looked_12 : decode cX10_looked 12 = .ok (.ifCond .eq 13, 3) := dk_at dkB02decX2_26 40 rfl
theorem dX10_looked_15 : decode cX10_looked 15 = .ok (.iload 5, 2) := dk_at dkB02decX2_26 41 rfl
theorem dX10_looked_17 : decode cX10_looked 17 = .ok (.iconst 0, 1) := dk_at dkB02decX2_26 42 rfl
theorem dX10_looked_18 : decode cX10_looked 18 = .ok (.iconst 1, 1) := dk_at dkB02decX2_26 43 rfl
theorem dX10_looked_19 : decode cX10_looked 19 = .ok (.invokestatic 69, 3) := dk_at dkB02decX2_26 44 rfl
theorem dX10_looked_22 : decode cX10_looked 22 = .ok (.ifCond .ne 5, 3) := dk_at dkB02decX2_26 45 rfl
theorem dX10_looked_25 : decode cX10_looked 25 = .ok (.iconst (-1), 1) := dk_at dkB02decX2_26 46 rfl
theorem dX10_looked_26 : decode cX10_looked 26 = .ok (.ireturn, 1) := dk_at dkB02decX2_26 47 rfl
theorem dX10_looked_27 : decode cX10_looked 27 = .ok (.iload 4, 2) := dk_at dkB02decX2_26 48 rfl
theorem dX10_looked_29 : decode cX10_looked 29 = .ok (.iconst 1, 1) := dk_at dkB02decX2_26 49 rfl
theorem dX10_looked_30 : decode cX10_looked 30 = .ok (.sipush 1000, 3) := dk_at dkB02decX2_26 50 rfl
theorem dX10_looked_33 : decode cX10_looked 33 = .ok (.invokestatic 69, 3) := dk_at dkB02decX2_26 51 rfl
theorem dX10_looked_36 : decode cX10_looked 36 = .ok (.ifCond .eq 13, 3) := dk_at dkB02decX2_26 52 rfl
theorem dX10_looked_39 : decode cX10_looked 39 = .ok (.iload_n 3, 1) := dk_at dkB02decX2_26 53 rfl
theorem dX10_looked_40 : decode cX10_looked 40 = .ok (.iconst 0, 1) := dk_at dkB02decX2_26 54 rfl
theorem dX10_looked_41 : decode cX10_looked 41 = .ok (.iload 4, 2) := dk_at dkB02decX2_26 55 rfl
theorem dX10_looked_43 : decode cX10_looked 43 = .ok (.invokestatic 69, 3) := dk_at dkB02decX2_26 56 rfl
theorem dX10_looked_46 : decode cX10_looked 46 = .ok (.ifCond .ne 5, 3) := dk_at dkB02decX2_26 57 rfl
theorem dX10_looked_49 : decode cX10_looked 49 = .ok (.iconst (-1), 1) := dk_at dkB02decX2_26 58 rfl
theorem dX10_looked_50 : decode cX10_looked 50 = .ok (.ireturn, 1) := dk_at dkB02decX2_26 59 rfl
noncomputable def dkL02decX2_27 : List (ByteArray × Nat × Instr × Nat) := [(cX10_looked, 51, (.aload_n 0, 1)), (cX10_looked, 52, (.getfield 12, 3)), (cX10_looked, 55, (.getfield 147, 3)), (cX10_looked, 58, (.iload_n 2, 1)), (cX10_looked, 59, (.aaload, 1)), (cX10_looked, 60, (.astore 6, 2)), (cX10_looked, 62, (.aload 6, 2)), (cX10_looked, 64, (.invokevirtual 231, 3)), (cX10_looked, 67, (.ifCond .ne 6, 3)), (cX10_looked, 70, (.bipush (-2), 2)), (cX10_looked, 72, (.ireturn, 1)), (cX10_looked, 73, (.aload_n 0, 1)), (cX10_looked, 74, (.iload_n 2, 1)), (cX10_looked, 75, (.invokevirtual 238, 3)), (cX10_looked, 78, (.astore 7, 2)), (cX10_looked, 80, (.aload 7, 2)), (cX10_looked, 82, (.getfield 242, 3)), (cX10_looked, 85, (.lconst 0, 1)), (cX10_looked, 86, (.lcmp, 1)), (cX10_looked, 87, (.ifCond .ne 6, 3)), (cX10_looked, 90, (.bipush (-4), 2)), (cX10_looked, 92, (.ireturn, 1)), (cX10_looked, 93, (.bipush 24, 2)), (cX10_looked, 95, (.aload_n 0, 1)), (cX10_looked, 96, (.getfield 12, 3)), (cX10_looked, 99, (.getfield 331, 3)), (cX10_looked, 102, (.iload_n 1, 1)), (cX10_looked, 103, (.aaload, 1)), (cX10_looked, 104, (.invokevirtual 352, 3)), (cX10_looked, 107, (.isub, 1)), (cX10_looked, 108, (.istore 8, 2)), (cX10_looked, 110, (.iload 5, 2)), (cX10_looked, 112, (.ifCond .ne 6, 3)), (cX10_looked, 115, (.iload 8, 2)), (cX10_looked, 117, (.ireturn, 1)), (cX10_looked, 118, (.iconst 0, 1)), (cX10_looked, 119, (.istore 9, 2)), (cX10_looked, 121, (.iconst 0, 1)), (cX10_looked, 122, (.istore 10, 2)), (cX10_looked, 124, (.iload 10, 2)), (cX10_looked, 126, (.iload 8, 2)), (cX10_looked, 128, (.if_icmp .ge 50, 3)), (cX10_looked, 131, (.aload_n 0, 1)), (cX10_looked, 132, (.getfield 61, 3)), (cX10_looked, 135, (.aload 7, 2)), (cX10_looked, 137, (.aload 6, 2)), (cX10_looked, 139, (.aload_n 0, 1)), (cX10_looked, 140, (.getfield 12, 3)), (cX10_looked, 143, (.getfield 331, 3)), (cX10_looked, 146, (.iload_n 1, 1)), (cX10_looked, 147, (.aaload, 1)), (cX10_looked, 148, (.iload 10, 2)), (cX10_looked, 150, (.invokevirtual 341, 3)), (cX10_looked, 153, (.iload 4, 2)), (cX10_looked, 155, (.i2l, 1)), (cX10_looked, 156, (.lmul, 1)), (cX10_looked, 157, (.aload 7, 2)), (cX10_looked, 159, (.getfield 242, 3)), (cX10_looked, 162, (.iload_n 3, 1)), (cX10_looked, 163, (.i2l, 1))]
theorem dkB02decX2_27 : dkL02decX2_27.all (fun q => decide (decode q.1 q.2.1 = .ok q.2.2)) = true := by decide +kernel
theorem dX10_looked_51 : decode cX10_looked 51 = .ok (.aload_n 0, 1) := dk_at dkB02decX2_27 0 rfl
theorem dX10_looked_52 : decode cX10_looked 52 = .ok (.getfield 12, 3) := dk_at dkB02decX2_27 1 rfl
theorem dX10_looked_55 : decode cX10_looked 55 = .ok (.getfield 147, 3) := dk_at dkB02decX2_27 2 rfl
theorem dX10_looked_58 : decode cX10_looked 58 = .ok (.iload_n 2, 1) := dk_at dkB02decX2_27 3 rfl
theorem dX10_looked_59 : decode cX10_looked 59 = .ok (.aaload, 1) := dk_at dkB02decX2_27 4 rfl
theorem dX10_looked_60 : decode cX10_looked 60 = .ok (.astore 6, 2) := dk_at dkB02decX2_27 5 rfl
theorem dX10_looked_62 : decode cX10_looked 62 = .ok (.aload 6, 2) := dk_at dkB02decX2_27 6 rfl
theorem dX10_looked_64 : decode cX10_looked 64 = .ok (.invokevirtual 231, 3) := dk_at dkB02decX2_27 7 rfl
theorem dX10_looked_67 : decode cX10_looked 67 = .ok (.ifCond .ne 6, 3) := dk_at dkB02decX2_27 8 rfl
theorem dX10_looked_70 : decode cX10_looked 70 = .ok (.bipush (-2), 2) := dk_at dkB02decX2_27 9 rfl
theorem dX10_looked_72 : decode cX10_looked 72 = .ok (.ireturn, 1) := dk_at dkB02decX2_27 10 rfl
theorem dX10_looked_73 : decode cX10_looked 73 = .ok (.aload_n 0, 1) := dk_at dkB02decX2_27 11 rfl
theorem dX10_looked_74 : decode cX10_looked 74 = .ok (.iload_n 2, 1) := dk_at dkB02decX2_27 12 rfl
theorem dX10_looked_75 : decode cX10_looked 75 = .ok (.invokevirtual 238, 3) := dk_at dkB02decX2_27 13 rfl
theorem dX10_looked_78 : decode cX10_looked 78 = .ok (.astore 7, 2) := dk_at dkB02decX2_27 14 rfl
theorem dX10_looked_80 : decode cX10_looked 80 = .ok (.aload 7, 2) := dk_at dkB02decX2_27 15 rfl
theorem dX10_looked_82 : decode cX10_looked 82 = .ok (.getfield 242, 3) := dk_at dkB02decX2_27 16 rfl
theorem dX10_looked_85 : decode cX10_looked 85 = .ok (.lconst 0, 1) := dk_at dkB02decX2_27 17 rfl
theorem dX10_looked_86 : decode cX10_looked 86 = .ok (.lcmp, 1) := dk_at dkB02decX2_27 18 rfl
theorem dX10_looked_87 : decode cX10_looked 87 = .ok (.ifCond .ne 6, 3) := dk_at dkB02decX2_27 19 rfl
theorem dX10_looked_90 : decode cX10_looked 90 = .ok (.bipush (-4), 2) := dk_at dkB02decX2_27 20 rfl
theorem dX10_looked_92 : decode cX10_looked 92 = .ok (.ireturn, 1) := dk_at dkB02decX2_27 21 rfl
theorem dX10_looked_93 : decode cX10_looked 93 = .ok (.bipush 24, 2) := dk_at dkB02decX2_27 22 rfl
theorem dX10_looked_95 : decode cX10_looked 95 = .ok (.aload_n 0, 1) := dk_at dkB02decX2_27 23 rfl
theorem dX10_looked_96 : decode cX10_looked 96 = .ok (.getfield 12, 3) := dk_at dkB02decX2_27 24 rfl
theorem dX10_looked_99 : decode cX10_looked 99 = .ok (.getfield 331, 3) := dk_at dkB02decX2_27 25 rfl
theorem dX10_looked_102 : decode cX10_looked 102 = .ok (.iload_n 1, 1) := dk_at dkB02decX2_27 26 rfl
theorem dX10_looked_103 : decode cX10_looked 103 = .ok (.aaload, 1) := dk_at dkB02decX2_27 27 rfl
theorem dX10_looked_104 : decode cX10_looked 104 = .ok (.invokevirtual 352, 3) := dk_at dkB02decX2_27 28 rfl
theorem dX10_looked_107 : decode cX10_looked 107 = .ok (.isub, 1) := dk_at dkB02decX2_27 29 rfl
theorem dX10_looked_108 : decode cX10_looked 108 = .ok (.istore 8, 2) := dk_at dkB02decX2_27 30 rfl
theorem dX10_looked_110 : decode cX10_looked 110 = .ok (.iload 5, 2) := dk_at dkB02decX2_27 31 rfl
theorem dX10_looked_112 : decode cX10_looked 112 = .ok (.ifCond .ne 6, 3) := dk_at dkB02decX2_27 32 rfl
theorem dX10_looked_115 : decode cX10_looked 115 = .ok (.iload 8, 2) := dk_at dkB02decX2_27 33 rfl
theorem dX10_looked_117 : decode cX10_looked 117 = .ok (.ireturn, 1) := dk_at dkB02decX2_27 34 rfl
theorem dX10_looked_118 : decode cX10_looked 118 = .ok (.iconst 0, 1) := dk_at dkB02decX2_27 35 rfl
theorem dX10_looked_119 : decode cX10_looked 119 = .ok (.istore 9, 2) := dk_at dkB02decX2_27 36 rfl
theorem dX10_looked_121 : decode cX10_looked 121 = .ok (.iconst 0, 1) := dk_at dkB02decX2_27 37 rfl
theorem dX10_looked_122 : decode cX10_looked 122 = .ok (.istore 10, 2) := dk_at dkB02decX2_27 38 rfl
theorem dX10_looked_124 : decode cX10_looked 124 = .ok (.iload 10, 2) := dk_at dkB02decX2_27 39 rfl
theorem dX10_looked_126 : decode cX10_looked 126 = .ok (.iload 8, 2) := dk_at dkB02decX2_27 40 rfl
theorem dX10_looked_128 : decode cX10_looked 128 = .ok (.if_icmp .ge 50, 3) := dk_at dkB02decX2_27 41 rfl
theorem dX10_looked_131 : decode cX10_looked 131 = .ok (.aload_n 0, 1) := dk_at dkB02decX2_27 42 rfl
theorem dX10_looked_132 : decode cX10_looked 132 = .ok (.getfield 61, 3) := dk_at dkB02decX2_27 43 rfl
theorem dX10_looked_135 : decode cX10_looked 135 = .ok (.aload 7, 2) := dk_at dkB02decX2_27 44 rfl
theorem dX10_looked_137 : decode cX10_looked 137 = .ok (.aload 6, 2) := dk_at dkB02decX2_27 45 rfl
theorem dX10_looked_139 : decode cX10_looked 139 = .ok (.aload_n 0, 1) := dk_at dkB02decX2_27 46 rfl
theorem dX10_looked_140 : decode cX10_looked 140 = .ok (.getfield 12, 3) := dk_at dkB02decX2_27 47 rfl
theorem dX10_looked_143 : decode cX10_looked 143 = .ok (.getfield 331, 3) := dk_at dkB02decX2_27 48 rfl
theorem dX10_looked_146 : decode cX10_looked 146 = .ok (.iload_n 1, 1) := dk_at dkB02decX2_27 49 rfl
theorem dX10_looked_147 : decode cX10_looked 147 = .ok (.aaload, 1) := dk_at dkB02decX2_27 50 rfl
theorem dX10_looked_148 : decode cX10_looked 148 = .ok (.iload 10, 2) := dk_at dkB02decX2_27 51 rfl
theorem dX10_looked_150 : decode cX10_looked 150 = .ok (.invokevirtual 341, 3) := dk_at dkB02decX2_27 52 rfl
theorem dX10_looked_153 : decode cX10_looked 153 = .ok (.iload 4, 2) := dk_at dkB02decX2_27 53 rfl
theorem dX10_looked_155 : decode cX10_looked 155 = .ok (.i2l, 1) := dk_at dkB02decX2_27 54 rfl
theorem dX10_looked_156 : decode cX10_looked 156 = .ok (.lmul, 1) := dk_at dkB02decX2_27 55 rfl
theorem dX10_looked_157 : decode cX10_looked 157 = .ok (.aload 7, 2) := dk_at dkB02decX2_27 56 rfl
theorem dX10_looked_159 : decode cX10_looked 159 = .ok (.getfield 242, 3) := dk_at dkB02decX2_27 57 rfl
theorem dX10_looked_162 : decode cX10_looked 162 = .ok (.iload_n 3, 1) := dk_at dkB02decX2_27 58 rfl
theorem dX10_looked_163 : decode cX10_looked 163 = .ok (.i2l, 1) := dk_at dkB02decX2_27 59 rfl
noncomputable def dkL02decX2_28 : List (ByteArray × Nat × Instr × Nat) := [(cX10_looked, 164, (.lmul, 1)), (cX10_looked, 165, (.lcmp, 1)), (cX10_looked, 166, (.ifCond .lt 6, 3)), (cX10_looked, 169, (.iinc 9 1, 3)), (cX10_looked, 172, (.iinc 10 1, 3)), (cX10_looked, 175, (.goto (-51), 3)), (cX10_looked, 178, (.iload 9, 2)), (cX10_looked, 180, (.ireturn, 1)), (cX10_cause, 0, (.iload_n 1, 1)), (cX10_cause, 1, (.bipush (-30), 2)), (cX10_cause, 3, (.bipush 30, 2)), (cX10_cause, 5, (.invokestatic 69, 3)), (cX10_cause, 8, (.ifCond .eq 13, 3)), (cX10_cause, 11, (.iload_n 2, 1)), (cX10_cause, 12, (.iload_n 1, 1)), (cX10_cause, 13, (.bipush 30, 2)), (cX10_cause, 15, (.invokestatic 69, 3)), (cX10_cause, 18, (.ifCond .ne 5, 3)), (cX10_cause, 21, (.iconst (-1), 1)), (cX10_cause, 22, (.ireturn, 1)), (cX10_cause, 23, (.aload_n 0, 1)), (cX10_cause, 24, (.getfield 12, 3)), (cX10_cause, 27, (.getfield 228, 3)), (cX10_cause, 30, (.iconst 5, 1)), (cX10_cause, 31, (.if_icmp .ne 6, 3)), (cX10_cause, 34, (.bipush (-3), 2)), (cX10_cause, 36, (.ireturn, 1)), (cX10_cause, 37, (.aload_n 0, 1)), (cX10_cause, 38, (.getfield 12, 3)), (cX10_cause, 41, (.getfield 355, 3)), (cX10_cause, 44, (.aload_n 0, 1)), (cX10_cause, 45, (.getfield 12, 3)), (cX10_cause, 48, (.getfield 228, 3)), (cX10_cause, 51, (.iload_n 1, 1)), (cX10_cause, 52, (.iastore, 1)), (cX10_cause, 53, (.aload_n 0, 1)), (cX10_cause, 54, (.getfield 12, 3)), (cX10_cause, 57, (.getfield 358, 3)), (cX10_cause, 60, (.aload_n 0, 1)), (cX10_cause, 61, (.getfield 12, 3)), (cX10_cause, 64, (.getfield 228, 3)), (cX10_cause, 67, (.iload_n 2, 1)), (cX10_cause, 68, (.iastore, 1)), (cX10_cause, 69, (.aload_n 0, 1)), (cX10_cause, 70, (.getfield 12, 3)), (cX10_cause, 73, (.dup, 1)), (cX10_cause, 74, (.getfield 228, 3)), (cX10_cause, 77, (.iconst 1, 1)), (cX10_cause, 78, (.iadd, 1)), (cX10_cause, 79, (.putfield 228, 3)), (cX10_cause, 82, (.aload_n 0, 1)), (cX10_cause, 83, (.getfield 12, 3)), (cX10_cause, 86, (.getfield 228, 3)), (cX10_cause, 89, (.iconst 1, 1)), (cX10_cause, 90, (.isub, 1)), (cX10_cause, 91, (.ireturn, 1)), (cX10_says, 0, (.aload_n 0, 1)), (cX10_says, 1, (.iload_n 1, 1)), (cX10_says, 2, (.iload_n 2, 1)), (cX10_says, 3, (.iload_n 3, 1))]
theorem dkB02decX2_28 : dkL02decX2_28.all (fun q => decide (decode q.1 q.2.1 = .ok q.2.2)) = true := by decide +kernel
theorem dX10_looked_164 : decode cX10_looked 164 = .ok (.lmul, 1) := dk_at dkB02decX2_28 0 rfl
theorem dX10_looked_165 : decode cX10_looked 165 = .ok (.lcmp, 1) := dk_at dkB02decX2_28 1 rfl
theorem dX10_looked_166 : decode cX10_looked 166 = .ok (.ifCond .lt 6, 3) := dk_at dkB02decX2_28 2 rfl
theorem dX10_looked_169 : decode cX10_looked 169 = .ok (.iinc 9 1, 3) := dk_at dkB02decX2_28 3 rfl
theorem dX10_looked_172 : decode cX10_looked 172 = .ok (.iinc 10 1, 3) := dk_at dkB02decX2_28 4 rfl
theorem dX10_looked_175 : decode cX10_looked 175 = .ok (.goto (-51), 3) := dk_at dkB02decX2_28 5 rfl
theorem dX10_looked_178 : decode cX10_looked 178 = .ok (.iload 9, 2) := dk_at dkB02decX2_28 6 rfl
theorem dX10_looked_180 : decode cX10_looked 180 = .ok (.ireturn, 1) := dk_at dkB02decX2_28 7 rfl
theorem dX10_cause_0 : decode cX10_cause 0 = .ok (.iload_n 1, 1) := dk_at dkB02decX2_28 8 rfl
theorem dX10_cause_1 : decode cX10_cause 1 = .ok (.bipush (-30), 2) := dk_at dkB02decX2_28 9 rfl
theorem dX10_cause_3 : decode cX10_cause 3 = .ok (.bipush 30, 2) := dk_at dkB02decX2_28 10 rfl
theorem dX10_cause_5 : decode cX10_cause 5 = .ok (.invokestatic 69, 3) := dk_at dkB02decX2_28 11 rfl
theorem dX10_cause_8 : decode cX10_cause 8 = .ok (.ifCond .eq 13, 3) := dk_at dkB02decX2_28 12 rfl
theorem dX10_cause_11 : decode cX10_cause 11 = .ok (.iload_n 2, 1) := dk_at dkB02decX2_28 13 rfl
theorem dX10_cause_12 : decode cX10_cause 12 = .ok (.iload_n 1, 1) := dk_at dkB02decX2_28 14 rfl
theorem dX10_cause_13 : decode cX10_cause 13 = .ok (.bipush 30, 2) := dk_at dkB02decX2_28 15 rfl
theorem dX10_cause_15 : decode cX10_cause 15 = .ok (.invokestatic 69, 3) := dk_at dkB02decX2_28 16 rfl
theorem dX10_cause_18 : decode cX10_cause 18 = .ok (.ifCond .ne 5, 3) := dk_at dkB02decX2_28 17 rfl
theorem dX10_cause_21 : decode cX10_cause 21 = .ok (.iconst (-1), 1) := dk_at dkB02decX2_28 18 rfl
theorem dX10_cause_22 : decode cX10_cause 22 = .ok (.ireturn, 1) := dk_at dkB02decX2_28 19 rfl
theorem dX10_cause_23 : decode cX10_cause 23 = .ok (.aload_n 0, 1) := dk_at dkB02decX2_28 20 rfl
theorem dX10_cause_24 : decode cX10_cause 24 = .ok (.getfield 12, 3) := dk_at dkB02decX2_28 21 rfl
theorem dX10_cause_27 : decode cX10_cause 27 = .ok (.getfield 228, 3) := dk_at dkB02decX2_28 22 rfl
theorem dX10_cause_30 : decode cX10_cause 30 = .ok (.iconst 5, 1) := dk_at dkB02decX2_28 23 rfl
theorem dX10_cause_31 : decode cX10_cause 31 = .ok (.if_icmp .ne 6, 3) := dk_at dkB02decX2_28 24 rfl
theorem dX10_cause_34 : decode cX10_cause 34 = .ok (.bipush (-3), 2) := dk_at dkB02decX2_28 25 rfl
theorem dX10_cause_36 : decode cX10_cause 36 = .ok (.ireturn, 1) := dk_at dkB02decX2_28 26 rfl
theorem dX10_cause_37 : decode cX10_cause 37 = .ok (.aload_n 0, 1) := dk_at dkB02decX2_28 27 rfl
theorem dX10_cause_38 : decode cX10_cause 38 = .ok (.getfield 12, 3) := dk_at dkB02decX2_28 28 rfl
theorem dX10_cause_41 : decode cX10_cause 41 = .ok (.getfield 355, 3) := dk_at dkB02decX2_28 29 rfl
theorem dX10_cause_44 : decode cX10_cause 44 = .ok (.aload_n 0, 1) := dk_at dkB02decX2_28 30 rfl
theorem dX10_cause_45 : decode cX10_cause 45 = .ok (.getfield 12, 3) := dk_at dkB02decX2_28 31 rfl
theorem dX10_cause_48 : decode cX10_cause 48 = .ok (.getfield 228, 3) := dk_at dkB02decX2_28 32 rfl
theorem dX10_cause_51 : decode cX10_cause 51 = .ok (.iload_n 1, 1) := dk_at dkB02decX2_28 33 rfl
theorem dX10_cause_52 : decode cX10_cause 52 = .ok (.iastore, 1) := dk_at dkB02decX2_28 34 rfl
theorem dX10_cause_53 : decode cX10_cause 53 = .ok (.aload_n 0, 1) := dk_at dkB02decX2_28 35 rfl
theorem dX10_cause_54 : decode cX10_cause 54 = .ok (.getfield 12, 3) := dk_at dkB02decX2_28 36 rfl
theorem dX10_cause_57 : decode cX10_cause 57 = .ok (.getfield 358, 3) := dk_at dkB02decX2_28 37 rfl
theorem dX10_cause_60 : decode cX10_cause 60 = .ok (.aload_n 0, 1) := dk_at dkB02decX2_28 38 rfl
theorem dX10_cause_61 : decode cX10_cause 61 = .ok (.getfield 12, 3) := dk_at dkB02decX2_28 39 rfl
theorem dX10_cause_64 : decode cX10_cause 64 = .ok (.getfield 228, 3) := dk_at dkB02decX2_28 40 rfl
theorem dX10_cause_67 : decode cX10_cause 67 = .ok (.iload_n 2, 1) := dk_at dkB02decX2_28 41 rfl
theorem dX10_cause_68 : decode cX10_cause 68 = .ok (.iastore, 1) := dk_at dkB02decX2_28 42 rfl
theorem dX10_cause_69 : decode cX10_cause 69 = .ok (.aload_n 0, 1) := dk_at dkB02decX2_28 43 rfl
theorem dX10_cause_70 : decode cX10_cause 70 = .ok (.getfield 12, 3) := dk_at dkB02decX2_28 44 rfl
theorem dX10_cause_73 : decode cX10_cause 73 = .ok (.dup, 1) := dk_at dkB02decX2_28 45 rfl
theorem dX10_cause_74 : decode cX10_cause 74 = .ok (.getfield 228, 3) := dk_at dkB02decX2_28 46 rfl
theorem dX10_cause_77 : decode cX10_cause 77 = .ok (.iconst 1, 1) := dk_at dkB02decX2_28 47 rfl
theorem dX10_cause_78 : decode cX10_cause 78 = .ok (.iadd, 1) := dk_at dkB02decX2_28 48 rfl
theorem dX10_cause_79 : decode cX10_cause 79 = .ok (.putfield 228, 3) := dk_at dkB02decX2_28 49 rfl
theorem dX10_cause_82 : decode cX10_cause 82 = .ok (.aload_n 0, 1) := dk_at dkB02decX2_28 50 rfl
theorem dX10_cause_83 : decode cX10_cause 83 = .ok (.getfield 12, 3) := dk_at dkB02decX2_28 51 rfl
theorem dX10_cause_86 : decode cX10_cause 86 = .ok (.getfield 228, 3) := dk_at dkB02decX2_28 52 rfl
theorem dX10_cause_89 : decode cX10_cause 89 = .ok (.iconst 1, 1) := dk_at dkB02decX2_28 53 rfl
theorem dX10_cause_90 : decode cX10_cause 90 = .ok (.isub, 1) := dk_at dkB02decX2_28 54 rfl
theorem dX10_cause_91 : decode cX10_cause 91 = .ok (.ireturn, 1) := dk_at dkB02decX2_28 55 rfl
theorem dX10_says_0 : decode cX10_says 0 = .ok (.aload_n 0, 1) := dk_at dkB02decX2_28 56 rfl
theorem dX10_says_1 : decode cX10_says 1 = .ok (.iload_n 1, 1) := dk_at dkB02decX2_28 57 rfl
theorem dX10_says_2 : decode cX10_says 2 = .ok (.iload_n 2, 1) := dk_at dkB02decX2_28 58 rfl
theorem dX10_says_3 : decode cX10_says 3 = .ok (.iload_n 3, 1) := dk_at dkB02decX2_28 59 rfl
noncomputable def dkL02decX2_29 : List (ByteArray × Nat × Instr × Nat) := [(cX10_says, 4, (.invokevirtual 262, 3)), (cX10_says, 7, (.ifCond .eq 13, 3)), (cX10_says, 10, (.iload 4, 2)), (cX10_says, 12, (.iconst 0, 1)), (cX10_says, 13, (.iconst 2, 1)), (cX10_says, 14, (.invokestatic 69, 3)), (cX10_says, 17, (.ifCond .ne 5, 3)), (cX10_says, 20, (.iconst (-1), 1)), (cX10_says, 21, (.ireturn, 1)), (cX10_says, 22, (.aload_n 0, 1)), (cX10_says, 23, (.getfield 12, 3)), (cX10_says, 26, (.getfield 147, 3)), (cX10_says, 29, (.iload_n 1, 1)), (cX10_says, 30, (.aaload, 1)), (cX10_says, 31, (.astore 5, 2)), (cX10_says, 33, (.aload 5, 2)), (cX10_says, 35, (.getfield 191, 3)), (cX10_says, 38, (.iload_n 2, 1)), (cX10_says, 39, (.iaload, 1)), (cX10_says, 40, (.ifCond .ne 13, 3)), (cX10_says, 43, (.aload 5, 2)), (cX10_says, 45, (.getfield 191, 3)), (cX10_says, 48, (.iload_n 3, 1)), (cX10_says, 49, (.iaload, 1)), (cX10_says, 50, (.ifCond .eq 6, 3)), (cX10_says, 53, (.bipush (-12), 2)), (cX10_says, 55, (.ireturn, 1)), (cX10_says, 56, (.aload 5, 2)), (cX10_says, 58, (.getfield 194, 3)), (cX10_says, 61, (.iload_n 3, 1)), (cX10_says, 62, (.iaload, 1)), (cX10_says, 63, (.aload 5, 2)), (cX10_says, 65, (.getfield 194, 3)), (cX10_says, 68, (.iload_n 2, 1)), (cX10_says, 69, (.iaload, 1)), (cX10_says, 70, (.isub, 1)), (cX10_says, 71, (.istore 6, 2)), (cX10_says, 73, (.iconst 0, 1)), (cX10_says, 74, (.istore 7, 2)), (cX10_says, 76, (.iconst 0, 1)), (cX10_says, 77, (.istore 8, 2)), (cX10_says, 79, (.iconst 1, 1)), (cX10_says, 80, (.aload_n 0, 1)), (cX10_says, 81, (.getfield 12, 3)), (cX10_says, 84, (.getfield 228, 3)), (cX10_says, 87, (.ishl, 1)), (cX10_says, 88, (.iconst 1, 1)), (cX10_says, 89, (.isub, 1)), (cX10_says, 90, (.istore 9, 2)), (cX10_says, 92, (.iconst 1, 1)), (cX10_says, 93, (.istore 10, 2)), (cX10_says, 95, (.iload 10, 2)), (cX10_says, 97, (.iconst 1, 1)), (cX10_says, 98, (.aload_n 0, 1)), (cX10_says, 99, (.getfield 12, 3)), (cX10_says, 102, (.getfield 228, 3)), (cX10_says, 105, (.ishl, 1)), (cX10_says, 106, (.if_icmp .ge 55, 3)), (cX10_says, 109, (.aload_n 0, 1)), (cX10_says, 110, (.getfield 12, 3))]
theorem dkB02decX2_29 : dkL02decX2_29.all (fun q => decide (decode q.1 q.2.1 = .ok q.2.2)) = true := by decide +kernel
theorem dX10_says_4 : decode cX10_says 4 = .ok (.invokevirtual 262, 3) := dk_at dkB02decX2_29 0 rfl
theorem dX10_says_7 : decode cX10_says 7 = .ok (.ifCond .eq 13, 3) := dk_at dkB02decX2_29 1 rfl
theorem dX10_says_10 : decode cX10_says 10 = .ok (.iload 4, 2) := dk_at dkB02decX2_29 2 rfl
theorem dX10_says_12 : decode cX10_says 12 = .ok (.iconst 0, 1) := dk_at dkB02decX2_29 3 rfl
theorem dX10_says_13 : decode cX10_says 13 = .ok (.iconst 2, 1) := dk_at dkB02decX2_29 4 rfl
theorem dX10_says_14 : decode cX10_says 14 = .ok (.invokestatic 69, 3) := dk_at dkB02decX2_29 5 rfl
theorem dX10_says_17 : decode cX10_says 17 = .ok (.ifCond .ne 5, 3) := dk_at dkB02decX2_29 6 rfl
theorem dX10_says_20 : decode cX10_says 20 = .ok (.iconst (-1), 1) := dk_at dkB02decX2_29 7 rfl
theorem dX10_says_21 : decode cX10_says 21 = .ok (.ireturn, 1) := dk_at dkB02decX2_29 8 rfl
theorem dX10_says_22 : decode cX10_says 22 = .ok (.aload_n 0, 1) := dk_at dkB02decX2_29 9 rfl
theorem dX10_says_23 : decode cX10_says 23 = .ok (.getfield 12, 3) := dk_at dkB02decX2_29 10 rfl
theorem dX10_says_26 : decode cX10_says 26 = .ok (.getfield 147, 3) := dk_at dkB02decX2_29 11 rfl
theorem dX10_says_29 : decode cX10_says 29 = .ok (.iload_n 1, 1) := dk_at dkB02decX2_29 12 rfl
theorem dX10_says_30 : decode cX10_says 30 = .ok (.aaload, 1) := dk_at dkB02decX2_29 13 rfl
theorem dX10_says_31 : decode cX10_says 31 = .ok (.astore 5, 2) := dk_at dkB02decX2_29 14 rfl
theorem dX10_says_33 : decode cX10_says 33 = .ok (.aload 5, 2) := dk_at dkB02decX2_29 15 rfl
theorem dX10_says_35 : decode cX10_says 35 = .ok (.getfield 191, 3) := dk_at dkB02decX2_29 16 rfl
theorem dX10_says_38 : decode cX10_says 38 = .ok (.iload_n 2, 1) := dk_at dkB02decX2_29 17 rfl
theorem dX10_says_39 : decode cX10_says 39 = .ok (.iaload, 1) := dk_at dkB02decX2_29 18 rfl
theorem dX10_says_40 : decode cX10_says 40 = .ok (.ifCond .ne 13, 3) := dk_at dkB02decX2_29 19 rfl
theorem dX10_says_43 : decode cX10_says 43 = .ok (.aload 5, 2) := dk_at dkB02decX2_29 20 rfl
theorem dX10_says_45 : decode cX10_says 45 = .ok (.getfield 191, 3) := dk_at dkB02decX2_29 21 rfl
theorem dX10_says_48 : decode cX10_says 48 = .ok (.iload_n 3, 1) := dk_at dkB02decX2_29 22 rfl
theorem dX10_says_49 : decode cX10_says 49 = .ok (.iaload, 1) := dk_at dkB02decX2_29 23 rfl
theorem dX10_says_50 : decode cX10_says 50 = .ok (.ifCond .eq 6, 3) := dk_at dkB02decX2_29 24 rfl
theorem dX10_says_53 : decode cX10_says 53 = .ok (.bipush (-12), 2) := dk_at dkB02decX2_29 25 rfl
theorem dX10_says_55 : decode cX10_says 55 = .ok (.ireturn, 1) := dk_at dkB02decX2_29 26 rfl
theorem dX10_says_56 : decode cX10_says 56 = .ok (.aload 5, 2) := dk_at dkB02decX2_29 27 rfl
theorem dX10_says_58 : decode cX10_says 58 = .ok (.getfield 194, 3) := dk_at dkB02decX2_29 28 rfl
theorem dX10_says_61 : decode cX10_says 61 = .ok (.iload_n 3, 1) := dk_at dkB02decX2_29 29 rfl
theorem dX10_says_62 : decode cX10_says 62 = .ok (.iaload, 1) := dk_at dkB02decX2_29 30 rfl
theorem dX10_says_63 : decode cX10_says 63 = .ok (.aload 5, 2) := dk_at dkB02decX2_29 31 rfl
theorem dX10_says_65 : decode cX10_says 65 = .ok (.getfield 194, 3) := dk_at dkB02decX2_29 32 rfl
theorem dX10_says_68 : decode cX10_says 68 = .ok (.iload_n 2, 1) := dk_at dkB02decX2_29 33 rfl
theorem dX10_says_69 : decode cX10_says 69 = .ok (.iaload, 1) := dk_at dkB02decX2_29 34 rfl
theorem dX10_says_70 : decode cX10_says 70 = .ok (.isub, 1) := dk_at dkB02decX2_29 35 rfl
theorem dX10_says_71 : decode cX10_says 71 = .ok (.istore 6, 2) := dk_at dkB02decX2_29 36 rfl
theorem dX10_says_73 : decode cX10_says 73 = .ok (.iconst 0, 1) := dk_at dkB02decX2_29 37 rfl
theorem dX10_says_74 : decode cX10_says 74 = .ok (.istore 7, 2) := dk_at dkB02decX2_29 38 rfl
theorem dX10_says_76 : decode cX10_says 76 = .ok (.iconst 0, 1) := dk_at dkB02decX2_29 39 rfl
theorem dX10_says_77 : decode cX10_says 77 = .ok (.istore 8, 2) := dk_at dkB02decX2_29 40 rfl
theorem dX10_says_79 : decode cX10_says 79 = .ok (.iconst 1, 1) := dk_at dkB02decX2_29 41 rfl
theorem dX10_says_80 : decode cX10_says 80 = .ok (.aload_n 0, 1) := dk_at dkB02decX2_29 42 rfl
theorem dX10_says_81 : decode cX10_says 81 = .ok (.getfield 12, 3) := dk_at dkB02decX2_29 43 rfl
theorem dX10_says_84 : decode cX10_says 84 = .ok (.getfield 228, 3) := dk_at dkB02decX2_29 44 rfl
theorem dX10_says_87 : decode cX10_says 87 = .ok (.ishl, 1) := dk_at dkB02decX2_29 45 rfl
theorem dX10_says_88 : decode cX10_says 88 = .ok (.iconst 1, 1) := dk_at dkB02decX2_29 46 rfl
theorem dX10_says_89 : decode cX10_says 89 = .ok (.isub, 1) := dk_at dkB02decX2_29 47 rfl
theorem dX10_says_90 : decode cX10_says 90 = .ok (.istore 9, 2) := dk_at dkB02decX2_29 48 rfl
theorem dX10_says_92 : decode cX10_says 92 = .ok (.iconst 1, 1) := dk_at dkB02decX2_29 49 rfl
theorem dX10_says_93 : decode cX10_says 93 = .ok (.istore 10, 2) := dk_at dkB02decX2_29 50 rfl
theorem dX10_says_95 : decode cX10_says 95 = .ok (.iload 10, 2) := dk_at dkB02decX2_29 51 rfl
theorem dX10_says_97 : decode cX10_says 97 = .ok (.iconst 1, 1) := dk_at dkB02decX2_29 52 rfl
theorem dX10_says_98 : decode cX10_says 98 = .ok (.aload_n 0, 1) := dk_at dkB02decX2_29 53 rfl
theorem dX10_says_99 : decode cX10_says 99 = .ok (.getfield 12, 3) := dk_at dkB02decX2_29 54 rfl
theorem dX10_says_102 : decode cX10_says 102 = .ok (.getfield 228, 3) := dk_at dkB02decX2_29 55 rfl
theorem dX10_says_105 : decode cX10_says 105 = .ok (.ishl, 1) := dk_at dkB02decX2_29 56 rfl
theorem dX10_says_106 : decode cX10_says 106 = .ok (.if_icmp .ge 55, 3) := dk_at dkB02decX2_29 57 rfl
theorem dX10_says_109 : decode cX10_says 109 = .ok (.aload_n 0, 1) := dk_at dkB02decX2_29 58 rfl
theorem dX10_says_110 : decode cX10_says 110 = .ok (.getfield 12, 3) := dk_at dkB02decX2_29 59 rfl
