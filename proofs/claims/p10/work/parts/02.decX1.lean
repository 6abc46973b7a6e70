noncomputable def dkL02decX1_0 : List (ByteArray × Nat × Instr × Nat) := [(cX6_readAtom, 112, (.bipush 35, 2)), (cX6_readAtom, 114, (.invokevirtual 48, 3)), (cX6_readAtom, 117, (.ifCond .ne 5, 3)), (cX6_readAtom, 120, (.iconst 0, 1)), (cX6_readAtom, 121, (.ireturn, 1)), (cX6_readAtom, 122, (.aload_n 1, 1)), (cX6_readAtom, 123, (.getfield 100, 3)), (cX6_readAtom, 126, (.iload_n 2, 1)), (cX6_readAtom, 127, (.aload_n 0, 1)), (cX6_readAtom, 128, (.iconst 1, 1)), (cX6_readAtom, 129, (.bipush 12, 2)), (cX6_readAtom, 131, (.invokevirtual 67, 3)), (cX6_readAtom, 134, (.iastore, 1)), (cX6_readAtom, 135, (.aload_n 1, 1)), (cX6_readAtom, 136, (.getfield 100, 3)), (cX6_readAtom, 139, (.iload_n 2, 1)), (cX6_readAtom, 140, (.iaload, 1)), (cX6_readAtom, 141, (.ifCond .lt 7, 3)), (cX6_readAtom, 144, (.iconst 1, 1)), (cX6_readAtom, 145, (.goto 4, 3)), (cX6_readAtom, 148, (.iconst 0, 1)), (cX6_readAtom, 149, (.ireturn, 1)), (cX6_readWeight, 0, (.aload_n 0, 1)), (cX6_readWeight, 1, (.bipush 119, 2)), (cX6_readWeight, 3, (.invokevirtual 48, 3)), (cX6_readWeight, 6, (.ifCond .ne 5, 3)), (cX6_readWeight, 9, (.iconst 0, 1)), (cX6_readWeight, 10, (.ireturn, 1)), (cX6_readWeight, 11, (.aload_n 1, 1)), (cX6_readWeight, 12, (.getfield 88, 3)), (cX6_readWeight, 15, (.iload_n 2, 1)), (cX6_readWeight, 16, (.aload_n 0, 1)), (cX6_readWeight, 17, (.invokevirtual 35, 3)), (cX6_readWeight, 20, (.iastore, 1)), (cX6_readWeight, 21, (.aload_n 0, 1)), (cX6_readWeight, 22, (.bipush 60, 2)), (cX6_readWeight, 24, (.invokevirtual 31, 3)), (cX6_readWeight, 27, (.ifCond .ne 21, 3)), (cX6_readWeight, 30, (.aload_n 0, 1)), (cX6_readWeight, 31, (.bipush 62, 2)), (cX6_readWeight, 33, (.invokevirtual 31, 3)), (cX6_readWeight, 36, (.ifCond .ne 12, 3)), (cX6_readWeight, 39, (.aload_n 0, 1)), (cX6_readWeight, 40, (.aload_n 0, 1)), (cX6_readWeight, 41, (.getfield 15, 3)), (cX6_readWeight, 44, (.invokevirtual 39, 3)), (cX6_readWeight, 47, (.ireturn, 1)), (cX6_readWeight, 48, (.aload_n 0, 1)), (cX6_readWeight, 49, (.invokevirtual 35, 3)), (cX6_readWeight, 52, (.pop, 1)), (cX6_readWeight, 53, (.aload_n 0, 1)), (cX6_readWeight, 54, (.getfield 15, 3)), (cX6_readWeight, 57, (.istore_n 3, 1)), (cX6_readWeight, 58, (.aload_n 0, 1)), (cX6_readWeight, 59, (.bipush 45, 2)), (cX6_readWeight, 61, (.invokevirtual 31, 3)), (cX6_readWeight, 64, (.istore 4, 2)), (cX6_readWeight, 66, (.aload_n 0, 1)), (cX6_readWeight, 67, (.iload_n 3, 1)), (cX6_readWeight, 68, (.iconst 0, 1))]
theorem dkB02decX1_0 : dkL02decX1_0.all (fun q => decide (decode q.1 q.2.1 = .ok q.2.2)) = true := by decide +kernel
theorem dX6_readAtom_112 : decode cX6_readAtom 112 = .ok (.bipush 35, 2) := dk_at dkB02decX1_0 0 rfl
theorem dX6_readAtom_114 : decode cX6_readAtom 114 = .ok (.invokevirtual 48, 3) := dk_at dkB02decX1_0 1 rfl
theorem dX6_readAtom_117 : decode cX6_readAtom 117 = .ok (.ifCond .ne 5, 3) := dk_at dkB02decX1_0 2 rfl
theorem dX6_readAtom_120 : decode cX6_readAtom 120 = .ok (.iconst 0, 1) := dk_at dkB02decX1_0 3 rfl
theorem dX6_readAtom_121 : decode cX6_readAtom 121 = .ok (.ireturn, 1) := dk_at dkB02decX1_0 4 rfl
theorem dX6_readAtom_122 : decode cX6_readAtom 122 = .ok (.aload_n 1, 1) := dk_at dkB02decX1_0 5 rfl
theorem dX6_readAtom_123 : decode cX6_readAtom 123 = .ok (.getfield 100, 3) := dk_at dkB02decX1_0 6 rfl
theorem dX6_readAtom_126 : decode cX6_readAtom 126 = .ok (.iload_n 2, 1) := dk_at dkB02decX1_0 7 rfl
theorem dX6_readAtom_127 : decode cX6_readAtom 127 = .ok (.aload_n 0, 1) := dk_at dkB02decX1_0 8 rfl
theorem dX6_readAtom_128 : decode cX6_readAtom 128 = .ok (.iconst 1, 1) := dk_at dkB02decX1_0 9 rfl
theorem dX6_readAtom_129 : decode cX6_readAtom 129 = .ok (.bipush 12, 2) := dk_at dkB02decX1_0 10 rfl
theorem dX6_readAtom_131 : decode cX6_readAtom 131 = .ok (.invokevirtual 67, 3) := dk_at dkB02decX1_0 11 rfl
theorem dX6_readAtom_134 : decode cX6_readAtom 134 = .ok (.iastore, 1) := dk_at dkB02decX1_0 12 rfl
theorem dX6_readAtom_135 : decode cX6_readAtom 135 = .ok (.aload_n 1, 1) := dk_at dkB02decX1_0 13 rfl
theorem dX6_readAtom_136 : decode cX6_readAtom 136 = .ok (.getfield 100, 3) := dk_at dkB02decX1_0 14 rfl
theorem dX6_readAtom_139 : decode cX6_readAtom 139 = .ok (.iload_n 2, 1) := dk_at dkB02decX1_0 15 rfl
theorem dX6_readAtom_140 : decode cX6_readAtom 140 = .ok (.iaload, 1) := dk_at dkB02decX1_0 16 rfl
theorem dX6_readAtom_141 : decode cX6_readAtom 141 = .ok (.ifCond .lt 7, 3) := dk_at dkB02decX1_0 17 rfl
theorem dX6_readAtom_144 : decode cX6_readAtom 144 = .ok (.iconst 1, 1) := dk_at dkB02decX1_0 18 rfl
theorem dX6_readAtom_145 : decode cX6_readAtom 145 = .ok (.goto 4, 3) := dk_at dkB02decX1_0 19 rfl
theorem dX6_readAtom_148 : decode cX6_readAtom 148 = .ok (.iconst 0, 1) := dk_at dkB02decX1_0 20 rfl
theorem dX6_readAtom_149 : decode cX6_readAtom 149 = .ok (.ireturn, 1) := dk_at dkB02decX1_0 21 rfl
theorem dX6_readWeight_0 : decode cX6_readWeight 0 = .ok (.aload_n 0, 1) := dk_at dkB02decX1_0 22 rfl
theorem dX6_readWeight_1 : decode cX6_readWeight 1 = .ok (.bipush 119, 2) := dk_at dkB02decX1_0 23 rfl
theorem dX6_readWeight_3 : decode cX6_readWeight 3 = .ok (.invokevirtual 48, 3) := dk_at dkB02decX1_0 24 rfl
theorem dX6_readWeight_6 : decode cX6_readWeight 6 = .ok (.ifCond .ne 5, 3) := dk_at dkB02decX1_0 25 rfl
theorem dX6_readWeight_9 : decode cX6_readWeight 9 = .ok (.iconst 0, 1) := dk_at dkB02decX1_0 26 rfl
theorem dX6_readWeight_10 : decode cX6_readWeight 10 = .ok (.ireturn, 1) := dk_at dkB02decX1_0 27 rfl
theorem dX6_readWeight_11 : decode cX6_readWeight 11 = .ok (.aload_n 1, 1) := dk_at dkB02decX1_0 28 rfl
theorem dX6_readWeight_12 : decode cX6_readWeight 12 = .ok (.getfield 88, 3) := dk_at dkB02decX1_0 29 rfl
theorem dX6_readWeight_15 : decode cX6_readWeight 15 = .ok (.iload_n 2, 1) := dk_at dkB02decX1_0 30 rfl
theorem dX6_readWeight_16 : decode cX6_readWeight 16 = .ok (.aload_n 0, 1) := dk_at dkB02decX1_0 31 rfl
theorem dX6_readWeight_17 : decode cX6_readWeight 17 = .ok (.invokevirtual 35, 3) := dk_at dkB02decX1_0 32 rfl
theorem dX6_readWeight_20 : decode cX6_readWeight 20 = .ok (.iastore, 1) := dk_at dkB02decX1_0 33 rfl
theorem dX6_readWeight_21 : decode cX6_readWeight 21 = .ok (.aload_n 0, 1) := dk_at dkB02decX1_0 34 rfl
theorem dX6_readWeight_22 : decode cX6_readWeight 22 = .ok (.bipush 60, 2) := dk_at dkB02decX1_0 35 rfl
theorem dX6_readWeight_24 : decode cX6_readWeight 24 = .ok (.invokevirtual 31, 3) := dk_at dkB02decX1_0 36 rfl
theorem dX6_readWeight_27 : decode cX6_readWeight 27 = .ok (.ifCond .ne 21, 3) := dk_at dkB02decX1_0 37 rfl
theorem dX6_readWeight_30 : decode cX6_readWeight 30 = .ok (.aload_n 0, 1) := dk_at dkB02decX1_0 38 rfl
theorem dX6_readWeight_31 : decode cX6_readWeight 31 = .ok (.bipush 62, 2) := dk_at dkB02decX1_0 39 rfl
theorem dX6_readWeight_33 : decode cX6_readWeight 33 = .ok (.invokevirtual 31, 3) := dk_at dkB02decX1_0 40 rfl
theorem dX6_readWeight_36 : decode cX6_readWeight 36 = .ok (.ifCond .ne 12, 3) := dk_at dkB02decX1_0 41 rfl
theorem dX6_readWeight_39 : decode cX6_readWeight 39 = .ok (.aload_n 0, 1) := dk_at dkB02decX1_0 42 rfl
theorem dX6_readWeight_40 : decode cX6_readWeight 40 = .ok (.aload_n 0, 1) := dk_at dkB02decX1_0 43 rfl
theorem dX6_readWeight_41 : decode cX6_readWeight 41 = .ok (.getfield 15, 3) := dk_at dkB02decX1_0 44 rfl
theorem dX6_readWeight_44 : decode cX6_readWeight 44 = .ok (.invokevirtual 39, 3) := dk_at dkB02decX1_0 45 rfl
theorem dX6_readWeight_47 : decode cX6_readWeight 47 = .ok (.ireturn, 1) := dk_at dkB02decX1_0 46 rfl
theorem dX6_readWeight_48 : decode cX6_readWeight 48 = .ok (.aload_n 0, 1) := dk_at dkB02decX1_0 47 rfl
theorem dX6_readWeight_49 : decode cX6_readWeight 49 = .ok (.invokevirtual 35, 3) := dk_at dkB02decX1_0 48 rfl
theorem dX6_readWeight_52 : decode cX6_readWeight 52 = .ok (.pop, 1) := dk_at dkB02decX1_0 49 rfl
theorem dX6_readWeight_53 : decode cX6_readWeight 53 = .ok (.aload_n 0, 1) := dk_at dkB02decX1_0 50 rfl
theorem dX6_readWeight_54 : decode cX6_readWeight 54 = .ok (.getfield 15, 3) := dk_at dkB02decX1_0 51 rfl
theorem dX6_readWeight_57 : decode cX6_readWeight 57 = .ok (.istore_n 3, 1) := dk_at dkB02decX1_0 52 rfl
theorem dX6_readWeight_58 : decode cX6_readWeight 58 = .ok (.aload_n 0, 1) := dk_at dkB02decX1_0 53 rfl
theorem dX6_readWeight_59 : decode cX6_readWeight 59 = .ok (.bipush 45, 2) := dk_at dkB02decX1_0 54 rfl
theorem dX6_readWeight_61 : decode cX6_readWeight 61 = .ok (.invokevirtual 31, 3) := dk_at dkB02decX1_0 55 rfl
theorem dX6_readWeight_64 : decode cX6_readWeight 64 = .ok (.istore 4, 2) := dk_at dkB02decX1_0 56 rfl
theorem dX6_readWeight_66 : decode cX6_readWeight 66 = .ok (.aload_n 0, 1) := dk_at dkB02decX1_0 57 rfl
theorem dX6_readWeight_67 : decode cX6_readWeight 67 = .ok (.iload_n 3, 1) := dk_at dkB02decX1_0 58 rfl
theorem dX6_readWeight_68 : decode cX6_readWeight 68 = .ok (.iconst 0, 1) := dk_at dkB02decX1_0 59 rfl
noncomputable def dkL02decX1_1 : List (ByteArray × Nat × Instr × Nat) := [(cX6_readWeight, 69, (.bipush 50, 2)), (cX6_readWeight, 71, (.invokevirtual 103, 3)), (cX6_readWeight, 74, (.istore 5, 2)), (cX6_readWeight, 76, (.aload_n 1, 1)), (cX6_readWeight, 77, (.getfield 107, 3)), (cX6_readWeight, 80, (.iload_n 2, 1)), (cX6_readWeight, 81, (.iload 4, 2)), (cX6_readWeight, 83, (.ifCond .eq 9, 3)), (cX6_readWeight, 86, (.iload 5, 2)), (cX6_readWeight, 88, (.ineg, 1)), (cX6_readWeight, 89, (.goto 5, 3)), (cX6_readWeight, 92, (.iload 5, 2)), (cX6_readWeight, 94, (.iastore, 1)), (cX6_readWeight, 95, (.iload 5, 2)), (cX6_readWeight, 97, (.ifCond .lt 7, 3)), (cX6_readWeight, 100, (.iconst 1, 1)), (cX6_readWeight, 101, (.goto 4, 3)), (cX6_readWeight, 104, (.iconst 0, 1)), (cX6_readWeight, 105, (.ireturn, 1)), (cX6_look, 0, (.aload_n 0, 1)), (cX6_look, 1, (.getfield 15, 3)), (cX6_look, 4, (.aload_n 0, 1)), (cX6_look, 5, (.getfield 110, 3)), (cX6_look, 8, (.if_icmp .ge 30, 3)), (cX6_look, 11, (.aload_n 0, 1)), (cX6_look, 12, (.getfield 9, 3)), (cX6_look, 15, (.aload_n 0, 1)), (cX6_look, 16, (.getfield 15, 3)), (cX6_look, 19, (.iaload, 1)), (cX6_look, 20, (.bipush 32, 2)), (cX6_look, 22, (.if_icmp .ne 16, 3)), (cX6_look, 25, (.aload_n 0, 1)), (cX6_look, 26, (.dup, 1)), (cX6_look, 27, (.getfield 15, 3)), (cX6_look, 30, (.iconst 1, 1)), (cX6_look, 31, (.iadd, 1)), (cX6_look, 32, (.putfield 15, 3)), (cX6_look, 35, (.goto (-35), 3)), (cX6_look, 38, (.aload_n 0, 1)), (cX6_look, 39, (.getfield 15, 3)), (cX6_look, 42, (.aload_n 0, 1)), (cX6_look, 43, (.getfield 110, 3)), (cX6_look, 46, (.if_icmp .ge 15, 3)), (cX6_look, 49, (.aload_n 0, 1)), (cX6_look, 50, (.getfield 9, 3)), (cX6_look, 53, (.aload_n 0, 1)), (cX6_look, 54, (.getfield 15, 3)), (cX6_look, 57, (.iaload, 1)), (cX6_look, 58, (.goto 4, 3)), (cX6_look, 61, (.iconst (-1), 1)), (cX6_look, 62, (.ireturn, 1)), (cX6_reads, 0, (.aload_n 0, 1)), (cX6_reads, 1, (.invokevirtual 35, 3)), (cX6_reads, 4, (.iload_n 1, 1)), (cX6_reads, 5, (.if_icmp .eq 5, 3)), (cX6_reads, 8, (.iconst 0, 1)), (cX6_reads, 9, (.ireturn, 1)), (cX6_reads, 10, (.aload_n 0, 1)), (cX6_reads, 11, (.dup, 1)), (cX6_reads, 12, (.getfield 15, 3))]
theorem dkB02decX1_1 : dkL02decX1_1.all (fun q => decide (decode q.1 q.2.1 = .ok q.2.2)) = true := by decide +kernel
theorem dX6_readWeight_69 : decode cX6_readWeight 69 = .ok (.bipush 50, 2) := dk_at dkB02decX1_1 0 rfl
theorem dX6_readWeight_71 : decode cX6_readWeight 71 = .ok (.invokevirtual 103, 3) := dk_at dkB02decX1_1 1 rfl
theorem dX6_readWeight_74 : decode cX6_readWeight 74 = .ok (.istore 5, 2) := dk_at dkB02decX1_1 2 rfl
theorem dX6_readWeight_76 : decode cX6_readWeight 76 = .ok (.aload_n 1, 1) := dk_at dkB02decX1_1 3 rfl
theorem dX6_readWeight_77 : decode cX6_readWeight 77 = .ok (.getfield 107, 3) := dk_at dkB02decX1_1 4 rfl
theorem dX6_readWeight_80 : decode cX6_readWeight 80 = .ok (.iload_n 2, 1) := dk_at dkB02decX1_1 5 rfl
theorem dX6_readWeight_81 : decode cX6_readWeight 81 = .ok (.iload 4, 2) := dk_at dkB02decX1_1 6 rfl
theorem dX6_readWeight_83 : decode cX6_readWeight 83 = .ok (.ifCond .eq 9, 3) := dk_at dkB02decX1_1 7 rfl
theorem dX6_readWeight_86 : decode cX6_readWeight 86 = .ok (.iload 5, 2) := dk_at dkB02decX1_1 8 rfl
theorem dX6_readWeight_88 : decode cX6_readWeight 88 = .ok (.ineg, 1) := dk_at dkB02decX1_1 9 rfl
theorem dX6_readWeight_89 : decode cX6_readWeight 89 = .ok (.goto 5, 3) := dk_at dkB02decX1_1 10 rfl
theorem dX6_readWeight_92 : decode cX6_readWeight 92 = .ok (.iload 5, 2) := dk_at dkB02decX1_1 11 rfl
theorem dX6_readWeight_94 : decode cX6_readWeight 94 = .ok (.iastore, 1) := dk_at dkB02decX1_1 12 rfl
theorem dX6_readWeight_95 : decode cX6_readWeight 95 = .ok (.iload 5, 2) := dk_at dkB02decX1_1 13 rfl
theorem dX6_readWeight_97 : decode cX6_readWeight 97 = .ok (.ifCond .lt 7, 3) := dk_at dkB02decX1_1 14 rfl
theorem dX6_readWeight_100 : decode cX6_readWeight 100 = .ok (.iconst 1, 1) := dk_at dkB02decX1_1 15 rfl
theorem dX6_readWeight_101 : decode cX6_readWeight 101 = .ok (.goto 4, 3) := dk_at dkB02decX1_1 16 rfl
theorem dX6_readWeight_104 : decode cX6_readWeight 104 = .ok (.iconst 0, 1) := dk_at dkB02decX1_1 17 rfl
theorem dX6_readWeight_105 : decode cX6_readWeight 105 = .ok (.ireturn, 1) := dk_at dkB02decX1_1 18 rfl
theorem dX6_look_0 : decode cX6_look 0 = .ok (.aload_n 0, 1) := dk_at dkB02decX1_1 19 rfl
theorem dX6_look_1 : decode cX6_look 1 = .ok (.getfield 15, 3) := dk_at dkB02decX1_1 20 rfl
theorem dX6_look_4 : decode cX6_look 4 = .ok (.aload_n 0, 1) := dk_at dkB02decX1_1 21 rfl
theorem dX6_look_5 : decode cX6_look 5 = .ok (.getfield 110, 3) := dk_at dkB02decX1_1 22 rfl
theorem dX6_look_8 : decode cX6_look 8 = .ok (.if_icmp .ge 30, 3) := dk_at dkB02decX1_1 23 rfl
theorem dX6_look_11 : decode cX6_look 11 = .ok (.aload_n 0, 1) := dk_at dkB02decX1_1 24 rfl
theorem dX6_look_12 : decode cX6_look 12 = .ok (.getfield 9, 3) := dk_at dkB02decX1_1 25 rfl
theorem dX6_look_15 : decode cX6_look 15 = .ok (.aload_n 0, 1) := dk_at dkB02decX1_1 26 rfl
theorem dX6_look_16 : decode cX6_look 16 = .ok (.getfield 15, 3) := dk_at dkB02decX1_1 27 rfl
theorem dX6_look_19 : decode cX6_look 19 = .ok (.iaload, 1) := dk_at dkB02decX1_1 28 rfl
theorem dX6_look_20 : decode cX6_look 20 = .ok (.bipush 32, 2) := dk_at dkB02decX1_1 29 rfl
theorem dX6_look_22 : decode cX6_look 22 = .ok (.if_icmp .ne 16, 3) := dk_at dkB02decX1_1 30 rfl
theorem dX6_look_25 : decode cX6_look 25 = .ok (.aload_n 0, 1) := dk_at dkB02decX1_1 31 rfl
theorem dX6_look_26 : decode cX6_look 26 = .ok (.dup, 1) := dk_at dkB02decX1_1 32 rfl
theorem dX6_look_27 : decode cX6_look 27 = .ok (.getfield 15, 3) := dk_at dkB02decX1_1 33 rfl
theorem dX6_look_30 : decode cX6_look 30 = .ok (.iconst 1, 1) := dk_at dkB02decX1_1 34 rfl
theorem dX6_look_31 : decode cX6_look 31 = .ok (.iadd, 1) := dk_at dkB02decX1_1 35 rfl
theorem dX6_look_32 : decode cX6_look 32 = .ok (.putfield 15, 3) := dk_at dkB02decX1_1 36 rfl
theorem dX6_look_35 : decode cX6_look 35 = .ok (.goto (-35), 3) := dk_at dkB02decX1_1 37 rfl
theorem dX6_look_38 : decode cX6_look 38 = .ok (.aload_n 0, 1) := dk_at dkB02decX1_1 38 rfl
theorem dX6_look_39 : decode cX6_look 39 = .ok (.getfield 15, 3) := dk_at dkB02decX1_1 39 rfl
theorem dX6_look_42 : decode cX6_look 42 = .ok (.aload_n 0, 1) := dk_at dkB02decX1_1 40 rfl
theorem dX6_look_43 : decode cX6_look 43 = .ok (.getfield 110, 3) := dk_at dkB02decX1_1 41 rfl
theorem dX6_look_46 : decode cX6_look 46 = .ok (.if_icmp .ge 15, 3) := dk_at dkB02decX1_1 42 rfl
theorem dX6_look_49 : decode cX6_look 49 = .ok (.aload_n 0, 1) := dk_at dkB02decX1_1 43 rfl
theorem dX6_look_50 : decode cX6_look 50 = .ok (.getfield 9, 3) := dk_at dkB02decX1_1 44 rfl
theorem dX6_look_53 : decode cX6_look 53 = .ok (.aload_n 0, 1) := dk_at dkB02decX1_1 45 rfl
theorem dX6_look_54 : decode cX6_look 54 = .ok (.getfield 15, 3) := dk_at dkB02decX1_1 46 rfl
theorem dX6_look_57 : decode cX6_look 57 = .ok (.iaload, 1) := dk_at dkB02decX1_1 47 rfl
theorem dX6_look_58 : decode cX6_look 58 = .ok (.goto 4, 3) := dk_at dkB02decX1_1 48 rfl
theorem dX6_look_61 : decode cX6_look 61 = .ok (.iconst (-1), 1) := dk_at dkB02decX1_1 49 rfl
theorem dX6_look_62 : decode cX6_look 62 = .ok (.ireturn, 1) := dk_at dkB02decX1_1 50 rfl
theorem dX6_reads_0 : decode cX6_reads 0 = .ok (.aload_n 0, 1) := dk_at dkB02decX1_1 51 rfl
theorem dX6_reads_1 : decode cX6_reads 1 = .ok (.invokevirtual 35, 3) := dk_at dkB02decX1_1 52 rfl
theorem dX6_reads_4 : decode cX6_reads 4 = .ok (.iload_n 1, 1) := dk_at dkB02decX1_1 53 rfl
theorem dX6_reads_5 : decode cX6_reads 5 = .ok (.if_icmp .eq 5, 3) := dk_at dkB02decX1_1 54 rfl
theorem dX6_reads_8 : decode cX6_reads 8 = .ok (.iconst 0, 1) := dk_at dkB02decX1_1 55 rfl
theorem dX6_reads_9 : decode cX6_reads 9 = .ok (.ireturn, 1) := dk_at dkB02decX1_1 56 rfl
theorem dX6_reads_10 : decode cX6_reads 10 = .ok (.aload_n 0, 1) := dk_at dkB02decX1_1 57 rfl
theorem dX6_reads_11 : decode cX6_reads 11 = .ok (.dup, 1) := dk_at dkB02decX1_1 58 rfl
theorem dX6_reads_12 : decode cX6_reads 12 = .ok (.getfield 15, 3) := dk_at dkB02decX1_1 59 rfl
noncomputable def dkL02decX1_2 : List (ByteArray × Nat × Instr × Nat) := [(cX6_reads, 15, (.iconst 1, 1)), (cX6_reads, 16, (.iadd, 1)), (cX6_reads, 17, (.putfield 15, 3)), (cX6_reads, 20, (.iconst 1, 1)), (cX6_reads, 21, (.ireturn, 1)), (cX6_wants, 0, (.aload_n 0, 1)), (cX6_wants, 1, (.iload_n 1, 1)), (cX6_wants, 2, (.invokevirtual 31, 3)), (cX6_wants, 5, (.ifCond .ne 14, 3)), (cX6_wants, 8, (.aload_n 0, 1)), (cX6_wants, 9, (.aload_n 0, 1)), (cX6_wants, 10, (.getfield 15, 3)), (cX6_wants, 13, (.invokevirtual 39, 3)), (cX6_wants, 16, (.ifCond .eq 7, 3)), (cX6_wants, 19, (.iconst 1, 1)), (cX6_wants, 20, (.goto 4, 3)), (cX6_wants, 23, (.iconst 0, 1)), (cX6_wants, 24, (.ireturn, 1)), (cX6_fails, 0, (.aload_n 0, 1)), (cX6_fails, 1, (.bipush (-20), 2)), (cX6_fails, 3, (.iload_n 1, 1)), (cX6_fails, 4, (.isub, 1)), (cX6_fails, 5, (.putfield 23, 3)), (cX6_fails, 8, (.iconst 0, 1)), (cX6_fails, 9, (.ireturn, 1)), (cX6_readNumber, 0, (.aload_n 0, 1)), (cX6_readNumber, 1, (.invokevirtual 35, 3)), (cX6_readNumber, 4, (.pop, 1)), (cX6_readNumber, 5, (.aload_n 0, 1)), (cX6_readNumber, 6, (.aload_n 0, 1)), (cX6_readNumber, 7, (.getfield 15, 3)), (cX6_readNumber, 10, (.iload_n 1, 1)), (cX6_readNumber, 11, (.iload_n 2, 1)), (cX6_readNumber, 12, (.invokevirtual 103, 3)), (cX6_readNumber, 15, (.ireturn, 1)), (cX6_readNumberOf, 0, (.aload_n 0, 1)), (cX6_readNumberOf, 1, (.invokevirtual 35, 3)), (cX6_readNumberOf, 4, (.pop, 1)), (cX6_readNumberOf, 5, (.aload_n 0, 1)), (cX6_readNumberOf, 6, (.getfield 15, 3)), (cX6_readNumberOf, 9, (.istore 4, 2)), (cX6_readNumberOf, 11, (.iconst 0, 1)), (cX6_readNumberOf, 12, (.istore 5, 2)), (cX6_readNumberOf, 14, (.aload_n 0, 1)), (cX6_readNumberOf, 15, (.getfield 15, 3)), (cX6_readNumberOf, 18, (.aload_n 0, 1)), (cX6_readNumberOf, 19, (.getfield 110, 3)), (cX6_readNumberOf, 22, (.if_icmp .ge 61, 3)), (cX6_readNumberOf, 25, (.aload_n 0, 1)), (cX6_readNumberOf, 26, (.getfield 9, 3)), (cX6_readNumberOf, 29, (.aload_n 0, 1)), (cX6_readNumberOf, 30, (.getfield 15, 3)), (cX6_readNumberOf, 33, (.iaload, 1)), (cX6_readNumberOf, 34, (.bipush 48, 2)), (cX6_readNumberOf, 36, (.bipush 57, 2)), (cX6_readNumberOf, 38, (.invokestatic 51, 3)), (cX6_readNumberOf, 41, (.ifCond .eq 42, 3)), (cX6_readNumberOf, 44, (.sipush 1000, 3)), (cX6_readNumberOf, 47, (.iload 5, 2)), (cX6_readNumberOf, 49, (.bipush 10, 2))]
theorem dkB02decX1_2 : dkL02decX1_2.all (fun q => decide (decode q.1 q.2.1 = .ok q.2.2)) = true := by decide +kernel
theorem dX6_reads_15 : decode cX6_reads 15 = .ok (.iconst 1, 1) := dk_at dkB02decX1_2 0 rfl
theorem dX6_reads_16 : decode cX6_reads 16 = .ok (.iadd, 1) := dk_at dkB02decX1_2 1 rfl
theorem dX6_reads_17 : decode cX6_reads 17 = .ok (.putfield 15, 3) := dk_at dkB02decX1_2 2 rfl
theorem dX6_reads_20 : decode cX6_reads 20 = .ok (.iconst 1, 1) := dk_at dkB02decX1_2 3 rfl
theorem dX6_reads_21 : decode cX6_reads 21 = .ok (.ireturn, 1) := dk_at dkB02decX1_2 4 rfl
theorem dX6_wants_0 : decode cX6_wants 0 = .ok (.aload_n 0, 1) := dk_at dkB02decX1_2 5 rfl
theorem dX6_wants_1 : decode cX6_wants 1 = .ok (.iload_n 1, 1) := dk_at dkB02decX1_2 6 rfl
theorem dX6_wants_2 : decode cX6_wants 2 = .ok (.invokevirtual 31, 3) := dk_at dkB02decX1_2 7 rfl
theorem dX6_wants_5 : decode cX6_wants 5 = .ok (.ifCond .ne 14, 3) := dk_at dkB02decX1_2 8 rfl
theorem dX6_wants_8 : decode cX6_wants 8 = .ok (.aload_n 0, 1) := dk_at dkB02decX1_2 9 rfl
theorem dX6_wants_9 : decode cX6_wants 9 = .ok (.aload_n 0, 1) := dk_at dkB02decX1_2 10 rfl
theorem dX6_wants_10 : decode cX6_wants 10 = .ok (.getfield 15, 3) := dk_at dkB02decX1_2 11 rfl
theorem dX6_wants_13 : decode cX6_wants 13 = .ok (.invokevirtual 39, 3) := dk_at dkB02decX1_2 12 rfl
theorem dX6_wants_16 : decode cX6_wants 16 = .ok (.ifCond .eq 7, 3) := dk_at dkB02decX1_2 13 rfl
theorem dX6_wants_19 : decode cX6_wants 19 = .ok (.iconst 1, 1) := dk_at dkB02decX1_2 14 rfl
theorem dX6_wants_20 : decode cX6_wants 20 = .ok (.goto 4, 3) := dk_at dkB02decX1_2 15 rfl
theorem dX6_wants_23 : decode cX6_wants 23 = .ok (.iconst 0, 1) := dk_at dkB02decX1_2 16 rfl
theorem dX6_wants_24 : decode cX6_wants 24 = .ok (.ireturn, 1) := dk_at dkB02decX1_2 17 rfl
theorem dX6_fails_0 : decode cX6_fails 0 = .ok (.aload_n 0, 1) := dk_at dkB02decX1_2 18 rfl
theorem dX6_fails_1 : decode cX6_fails 1 = .ok (.bipush (-20), 2) := dk_at dkB02decX1_2 19 rfl
theorem dX6_fails_3 : decode cX6_fails 3 = .ok (.iload_n 1, 1) := dk_at dkB02decX1_2 20 rfl
theorem dX6_fails_4 : decode cX6_fails 4 = .ok (.isub, 1) := dk_at dkB02decX1_2 21 rfl
theorem dX6_fails_5 : decode cX6_fails 5 = .ok (.putfield 23, 3) := dk_at dkB02decX1_2 22 rfl
theorem dX6_fails_8 : decode cX6_fails 8 = .ok (.iconst 0, 1) := dk_at dkB02decX1_2 23 rfl
theorem dX6_fails_9 : decode cX6_fails 9 = .ok (.ireturn, 1) := dk_at dkB02decX1_2 24 rfl
theorem dX6_readNumber_0 : decode cX6_readNumber 0 = .ok (.aload_n 0, 1) := dk_at dkB02decX1_2 25 rfl
theorem dX6_readNumber_1 : decode cX6_readNumber 1 = .ok (.invokevirtual 35, 3) := dk_at dkB02decX1_2 26 rfl
theorem dX6_readNumber_4 : decode cX6_readNumber 4 = .ok (.pop, 1) := dk_at dkB02decX1_2 27 rfl
theorem dX6_readNumber_5 : decode cX6_readNumber 5 = .ok (.aload_n 0, 1) := dk_at dkB02decX1_2 28 rfl
theorem dX6_readNumber_6 : decode cX6_readNumber 6 = .ok (.aload_n 0, 1) := dk_at dkB02decX1_2 29 rfl
theorem dX6_readNumber_7 : decode cX6_readNumber 7 = .ok (.getfield 15, 3) := dk_at dkB02decX1_2 30 rfl
theorem dX6_readNumber_10 : decode cX6_readNumber 10 = .ok (.iload_n 1, 1) := dk_at dkB02decX1_2 31 rfl
theorem dX6_readNumber_11 : decode cX6_readNumber 11 = .ok (.iload_n 2, 1) := dk_at dkB02decX1_2 32 rfl
theorem dX6_readNumber_12 : decode cX6_readNumber 12 = .ok (.invokevirtual 103, 3) := dk_at dkB02decX1_2 33 rfl
theorem dX6_readNumber_15 : decode cX6_readNumber 15 = .ok (.ireturn, 1) := dk_at dkB02decX1_2 34 rfl
theorem dX6_readNumberOf_0 : decode cX6_readNumberOf 0 = .ok (.aload_n 0, 1) := dk_at dkB02decX1_2 35 rfl
theorem dX6_readNumberOf_1 : decode cX6_readNumberOf 1 = .ok (.invokevirtual 35, 3) := dk_at dkB02decX1_2 36 rfl
theorem dX6_readNumberOf_4 : decode cX6_readNumberOf 4 = .ok (.pop, 1) := dk_at dkB02decX1_2 37 rfl
theorem dX6_readNumberOf_5 : decode cX6_readNumberOf 5 = .ok (.aload_n 0, 1) := dk_at dkB02decX1_2 38 rfl
theorem dX6_readNumberOf_6 : decode cX6_readNumberOf 6 = .ok (.getfield 15, 3) := dk_at dkB02decX1_2 39 rfl
theorem dX6_readNumberOf_9 : decode cX6_readNumberOf 9 = .ok (.istore 4, 2) := dk_at dkB02decX1_2 40 rfl
theorem dX6_readNumberOf_11 : decode cX6_readNumberOf 11 = .ok (.iconst 0, 1) := dk_at dkB02decX1_2 41 rfl
theorem dX6_readNumberOf_12 : decode cX6_readNumberOf 12 = .ok (.istore 5, 2) := dk_at dkB02decX1_2 42 rfl
theorem dX6_readNumberOf_14 : decode cX6_readNumberOf 14 = .ok (.aload_n 0, 1) := dk_at dkB02decX1_2 43 rfl
theorem dX6_readNumberOf_15 : decode cX6_readNumberOf 15 = .ok (.getfield 15, 3) := dk_at dkB02decX1_2 44 rfl
theorem dX6_readNumberOf_18 : decode cX6_readNumberOf 18 = .ok (.aload_n 0, 1) := dk_at dkB02decX1_2 45 rfl
theorem dX6_readNumberOf_19 : decode cX6_readNumberOf 19 = .ok (.getfield 110, 3) := dk_at dkB02decX1_2 46 rfl
theorem dX6_readNumberOf_22 : decode cX6_readNumberOf 22 = .ok (.if_icmp .ge 61, 3) := dk_at dkB02decX1_2 47 rfl
theorem dX6_readNumberOf_25 : decode cX6_readNumberOf 25 = .ok (.aload_n 0, 1) := dk_at dkB02decX1_2 48 rfl
theorem dX6_readNumberOf_26 : decode cX6_readNumberOf 26 = .ok (.getfield 9, 3) := dk_at dkB02decX1_2 49 rfl
theorem dX6_readNumberOf_29 : decode cX6_readNumberOf 29 = .ok (.aload_n 0, 1) := dk_at dkB02decX1_2 50 rfl
theorem dX6_readNumberOf_30 : decode cX6_readNumberOf 30 = .ok (.getfield 15, 3) := dk_at dkB02decX1_2 51 rfl
theorem dX6_readNumberOf_33 : decode cX6_readNumberOf 33 = .ok (.iaload, 1) := dk_at dkB02decX1_2 52 rfl
theorem dX6_readNumberOf_34 : decode cX6_readNumberOf 34 = .ok (.bipush 48, 2) := dk_at dkB02decX1_2 53 rfl
theorem dX6_readNumberOf_36 : decode cX6_readNumberOf 36 = .ok (.bipush 57, 2) := dk_at dkB02decX1_2 54 rfl
theorem dX6_readNumberOf_38 : decode cX6_readNumberOf 38 = .ok (.invokestatic 51, 3) := dk_at dkB02decX1_2 55 rfl
theorem dX6_readNumberOf_41 : decode cX6_readNumberOf 41 = .ok (.ifCond .eq 42, 3) := dk_at dkB02decX1_2 56 rfl
theorem dX6_readNumberOf_44 : decode cX6_readNumberOf 44 = .ok (.sipush 1000, 3) := dk_at dkB02decX1_2 57 rfl
theorem dX6_readNumberOf_47 : decode cX6_readNumberOf 47 = .ok (.iload 5, 2) := dk_at dkB02decX1_2 58 rfl
theorem dX6_readNumberOf_49 : decode cX6_readNumberOf 49 = .ok (.bipush 10, 2) := dk_at dkB02decX1_2 59 rfl
noncomputable def dkL02decX1_3 : List (ByteArray × Nat × Instr × Nat) := [(cX6_readNumberOf, 51, (.imul, 1)), (cX6_readNumberOf, 52, (.aload_n 0, 1)), (cX6_readNumberOf, 53, (.getfield 9, 3)), (cX6_readNumberOf, 56, (.aload_n 0, 1)), (cX6_readNumberOf, 57, (.getfield 15, 3)), (cX6_readNumberOf, 60, (.iaload, 1)), (cX6_readNumberOf, 61, (.iadd, 1)), (cX6_readNumberOf, 62, (.bipush 48, 2)), (cX6_readNumberOf, 64, (.isub, 1)), (cX6_readNumberOf, 65, (.invokestatic 113, 3)), (cX6_readNumberOf, 68, (.istore 5, 2)), (cX6_readNumberOf, 70, (.aload_n 0, 1)), (cX6_readNumberOf, 71, (.dup, 1)), (cX6_readNumberOf, 72, (.getfield 15, 3)), (cX6_readNumberOf, 75, (.iconst 1, 1)), (cX6_readNumberOf, 76, (.iadd, 1)), (cX6_readNumberOf, 77, (.putfield 15, 3)), (cX6_readNumberOf, 80, (.goto (-66), 3)), (cX6_readNumberOf, 83, (.aload_n 0, 1)), (cX6_readNumberOf, 84, (.getfield 15, 3)), (cX6_readNumberOf, 87, (.iload 4, 2)), (cX6_readNumberOf, 89, (.if_icmp .ne 14, 3)), (cX6_readNumberOf, 92, (.aload_n 0, 1)), (cX6_readNumberOf, 93, (.aload_n 0, 1)), (cX6_readNumberOf, 94, (.getfield 15, 3)), (cX6_readNumberOf, 97, (.invokevirtual 39, 3)), (cX6_readNumberOf, 100, (.pop, 1)), (cX6_readNumberOf, 101, (.iconst (-1), 1)), (cX6_readNumberOf, 102, (.ireturn, 1)), (cX6_readNumberOf, 103, (.iload 5, 2)), (cX6_readNumberOf, 105, (.iload_n 2, 1)), (cX6_readNumberOf, 106, (.iload_n 3, 1)), (cX6_readNumberOf, 107, (.invokestatic 51, 3)), (cX6_readNumberOf, 110, (.ifCond .ne 11, 3)), (cX6_readNumberOf, 113, (.aload_n 0, 1)), (cX6_readNumberOf, 114, (.iload_n 1, 1)), (cX6_readNumberOf, 115, (.invokevirtual 39, 3)), (cX6_readNumberOf, 118, (.pop, 1)), (cX6_readNumberOf, 119, (.iconst (-1), 1)), (cX6_readNumberOf, 120, (.ireturn, 1)), (cX6_readNumberOf, 121, (.iload 5, 2)), (cX6_readNumberOf, 123, (.ireturn, 1)), (cX7_init, 0, (.aload_n 0, 1)), (cX7_init, 1, (.invokespecial 3, 3)), (cX7_init, 4, (.aload_n 0, 1)), (cX7_init, 5, (.bipush 24, 2)), (cX7_init, 7, (.newarray .int, 2)), (cX7_init, 9, (.putfield 9, 3)), (cX7_init, 12, (.return_, 1)), (cX7_begin, 0, (.aload_n 0, 1)), (cX7_begin, 1, (.iconst 1, 1)), (cX7_begin, 2, (.putfield 15, 3)), (cX7_begin, 5, (.aload_n 0, 1)), (cX7_begin, 6, (.iload_n 1, 1)), (cX7_begin, 7, (.putfield 19, 3)), (cX7_begin, 10, (.aload_n 0, 1)), (cX7_begin, 11, (.iload_n 2, 1)), (cX7_begin, 12, (.putfield 23, 3)), (cX7_begin, 15, (.aload_n 0, 1)), (cX7_begin, 16, (.getfield 9, 3))]
theorem dkB02decX1_3 : dkL02decX1_3.all (fun q => decide (decode q.1 q.2.1 = .ok q.2.2)) = true := by decide +kernel
theorem dX6_readNumberOf_51 : decode cX6_readNumberOf 51 = .ok (.imul, 1) := dk_at dkB02decX1_3 0 rfl
theorem dX6_readNumberOf_52 : decode cX6_readNumberOf 52 = .ok (.aload_n 0, 1) := dk_at dkB02decX1_3 1 rfl
theorem dX6_readNumberOf_53 : decode cX6_readNumberOf 53 = .ok (.getfield 9, 3) := dk_at dkB02decX1_3 2 rfl
theorem dX6_readNumberOf_56 : decode cX6_readNumberOf 56 = .ok (.aload_n 0, 1) := dk_at dkB02decX1_3 3 rfl
theorem dX6_readNumberOf_57 : decode cX6_readNumberOf 57 = .ok (.getfield 15, 3) := dk_at dkB02decX1_3 4 rfl
theorem dX6_readNumberOf_60 : decode cX6_readNumberOf 60 = .ok (.iaload, 1) := dk_at dkB02decX1_3 5 rfl
theorem dX6_readNumberOf_61 : decode cX6_readNumberOf 61 = .ok (.iadd, 1) := dk_at dkB02decX1_3 6 rfl
theorem dX6_readNumberOf_62 : decode cX6_readNumberOf 62 = .ok (.bipush 48, 2) := dk_at dkB02decX1_3 7 rfl
theorem dX6_readNumberOf_64 : decode cX6_readNumberOf 64 = .ok (.isub, 1) := dk_at dkB02decX1_3 8 rfl
theorem dX6_readNumberOf_65 : decode cX6_readNumberOf 65 = .ok (.invokestatic 113, 3) := dk_at dkB02decX1_3 9 rfl
theorem dX6_readNumberOf_68 : decode cX6_readNumberOf 68 = .ok (.istore 5, 2) := dk_at dkB02decX1_3 10 rfl
theorem dX6_readNumberOf_70 : decode cX6_readNumberOf 70 = .ok (.aload_n 0, 1) := dk_at dkB02decX1_3 11 rfl
theorem dX6_readNumberOf_71 : decode cX6_readNumberOf 71 = .ok (.dup, 1) := dk_at dkB02decX1_3 12 rfl
theorem dX6_readNumberOf_72 : decode cX6_readNumberOf 72 = .ok (.getfield 15, 3) := dk_at dkB02decX1_3 13 rfl
theorem dX6_readNumberOf_75 : decode cX6_readNumberOf 75 = .ok (.iconst 1, 1) := dk_at dkB02decX1_3 14 rfl
theorem dX6_readNumberOf_76 : decode cX6_readNumberOf 76 = .ok (.iadd, 1) := dk_at dkB02decX1_3 15 rfl
theorem dX6_readNumberOf_77 : decode cX6_readNumberOf 77 = .ok (.putfield 15, 3) := dk_at dkB02decX1_3 16 rfl
theorem dX6_readNumberOf_80 : decode cX6_readNumberOf 80 = .ok (.goto (-66), 3) := dk_at dkB02decX1_3 17 rfl
theorem dX6_readNumberOf_83 : decode cX6_readNumberOf 83 = .ok (.aload_n 0, 1) := dk_at dkB02decX1_3 18 rfl
theorem dX6_readNumberOf_84 : decode cX6_readNumberOf 84 = .ok (.getfield 15, 3) := dk_at dkB02decX1_3 19 rfl
theorem dX6_readNumberOf_87 : decode cX6_readNumberOf 87 = .ok (.iload 4, 2) := dk_at dkB02decX1_3 20 rfl
theorem dX6_readNumberOf_89 : decode cX6_readNumberOf 89 = .ok (.if_icmp .ne 14, 3) := dk_at dkB02decX1_3 21 rfl
theorem dX6_readNumberOf_92 : decode cX6_readNumberOf 92 = .ok (.aload_n 0, 1) := dk_at dkB02decX1_3 22 rfl
theorem dX6_readNumberOf_93 : decode cX6_readNumberOf 93 = .ok (.aload_n 0, 1) := dk_at dkB02decX1_3 23 rfl
theorem dX6_readNumberOf_94 : decode cX6_readNumberOf 94 = .ok (.getfield 15, 3) := dk_at dkB02decX1_3 24 rfl
theorem dX6_readNumberOf_97 : decode cX6_readNumberOf 97 = .ok (.invokevirtual 39, 3) := dk_at dkB02decX1_3 25 rfl
theorem dX6_readNumberOf_100 : decode cX6_readNumberOf 100 = .ok (.pop, 1) := dk_at dkB02decX1_3 26 rfl
theorem dX6_readNumberOf_101 : decode cX6_readNumberOf 101 = .ok (.iconst (-1), 1) := dk_at dkB02decX1_3 27 rfl
theorem dX6_readNumberOf_102 : decode cX6_readNumberOf 102 = .ok (.ireturn, 1) := dk_at dkB02decX1_3 28 rfl
theorem dX6_readNumberOf_103 : decode cX6_readNumberOf 103 = .ok (.iload 5, 2) := dk_at dkB02decX1_3 29 rfl
theorem dX6_readNumberOf_105 : decode cX6_readNumberOf 105 = .ok (.iload_n 2, 1) := dk_at dkB02decX1_3 30 rfl
theorem dX6_readNumberOf_106 : decode cX6_readNumberOf 106 = .ok (.iload_n 3, 1) := dk_at dkB02decX1_3 31 rfl
theorem dX6_readNumberOf_107 : decode cX6_readNumberOf 107 = .ok (.invokestatic 51, 3) := dk_at dkB02decX1_3 32 rfl
theorem dX6_readNumberOf_110 : decode cX6_readNumberOf 110 = .ok (.ifCond .ne 11, 3) := dk_at dkB02decX1_3 33 rfl
theorem dX6_readNumberOf_113 : decode cX6_readNumberOf 113 = .ok (.aload_n 0, 1) := dk_at dkB02decX1_3 34 rfl
theorem dX6_readNumberOf_114 : decode cX6_readNumberOf 114 = .ok (.iload_n 1, 1) := dk_at dkB02decX1_3 35 rfl
theorem dX6_readNumberOf_115 : decode cX6_readNumberOf 115 = .ok (.invokevirtual 39, 3) := dk_at dkB02decX1_3 36 rfl
theorem dX6_readNumberOf_118 : decode cX6_readNumberOf 118 = .ok (.pop, 1) := dk_at dkB02decX1_3 37 rfl
theorem dX6_readNumberOf_119 : decode cX6_readNumberOf 119 = .ok (.iconst (-1), 1) := dk_at dkB02decX1_3 38 rfl
theorem dX6_readNumberOf_120 : decode cX6_readNumberOf 120 = .ok (.ireturn, 1) := dk_at dkB02decX1_3 39 rfl
theorem dX6_readNumberOf_121 : decode cX6_readNumberOf 121 = .ok (.iload 5, 2) := dk_at dkB02decX1_3 40 rfl
theorem dX6_readNumberOf_123 : decode cX6_readNumberOf 123 = .ok (.ireturn, 1) := dk_at dkB02decX1_3 41 rfl
theorem dX7_init_0 : decode cX7_init 0 = .ok (.aload_n 0, 1) := dk_at dkB02decX1_3 42 rfl
theorem dX7_init_1 : decode cX7_init 1 = .ok (.invokespecial 3, 3) := dk_at dkB02decX1_3 43 rfl
theorem dX7_init_4 : decode cX7_init 4 = .ok (.aload_n 0, 1) := dk_at dkB02decX1_3 44 rfl
theorem dX7_init_5 : decode cX7_init 5 = .ok (.bipush 24, 2) := dk_at dkB02decX1_3 45 rfl
theorem dX7_init_7 : decode cX7_init 7 = .ok (.newarray .int, 2) := dk_at dkB02decX1_3 46 rfl
theorem dX7_init_9 : decode cX7_init 9 = .ok (.putfield 9, 3) := dk_at dkB02decX1_3 47 rfl
theorem dX7_init_12 : decode cX7_init 12 = .ok (.return_, 1) := dk_at dkB02decX1_3 48 rfl
theorem dX7_begin_0 : decode cX7_begin 0 = .ok (.aload_n 0, 1) := dk_at dkB02decX1_3 49 rfl
theorem dX7_begin_1 : decode cX7_begin 1 = .ok (.iconst 1, 1) := dk_at dkB02decX1_3 50 rfl
theorem dX7_begin_2 : decode cX7_begin 2 = .ok (.putfield 15, 3) := dk_at dkB02decX1_3 51 rfl
theorem dX7_begin_5 : decode cX7_begin 5 = .ok (.aload_n 0, 1) := dk_at dkB02decX1_3 52 rfl
theorem dX7_begin_6 : decode cX7_begin 6 = .ok (.iload_n 1, 1) := dk_at dkB02decX1_3 53 rfl
theorem dX7_begin_7 : decode cX7_begin 7 = .ok (.putfield 19, 3) := dk_at dkB02decX1_3 54 rfl
theorem dX7_begin_10 : decode cX7_begin 10 = .ok (.aload_n 0, 1) := dk_at dkB02decX1_3 55 rfl
theorem dX7_begin_11 : decode cX7_begin 11 = .ok (.iload_n 2, 1) := dk_at dkB02decX1_3 56 rfl
theorem dX7_begin_12 : decode cX7_begin 12 = .ok (.putfield 23, 3) := dk_at dkB02decX1_3 57 rfl
theorem dX7_begin_15 : decode cX7_begin 15 = .ok (.aload_n 0, 1) := dk_at dkB02decX1_3 58 rfl
theorem dX7_begin_16 : decode cX7_begin 16 = .ok (.getfield 9, 3) := dk_at dkB02decX1_3 59 rfl
noncomputable def dkL02decX1_4 : List (ByteArray × Nat × Instr × Nat) := [(cX7_begin, 19, (.iconst 0, 1)), (cX7_begin, 20, (.invokestatic 26, 3)), (cX7_begin, 23, (.return_, 1)), (cX7_refusal, 0, (.aload_n 0, 1)), (cX7_refusal, 1, (.getfield 15, 3)), (cX7_refusal, 4, (.ifCond .ne 6, 3)), (cX7_refusal, 7, (.bipush (-11), 2)), (cX7_refusal, 9, (.ireturn, 1)), (cX7_refusal, 10, (.aload_n 0, 1)), (cX7_refusal, 11, (.getfield 19, 3)), (cX7_refusal, 14, (.iload_n 1, 1)), (cX7_refusal, 15, (.if_icmp .eq 6, 3)), (cX7_refusal, 18, (.bipush (-12), 2)), (cX7_refusal, 20, (.ireturn, 1)), (cX7_refusal, 21, (.iload_n 2, 1)), (cX7_refusal, 22, (.ifCond .lt 13, 3)), (cX7_refusal, 25, (.iload_n 2, 1)), (cX7_refusal, 26, (.aload_n 0, 1)), (cX7_refusal, 27, (.getfield 23, 3)), (cX7_refusal, 30, (.iload_n 3, 1)), (cX7_refusal, 31, (.isub, 1)), (cX7_refusal, 32, (.if_icmp .le 8, 3)), (cX7_refusal, 35, (.bipush (-13), 2)), (cX7_refusal, 37, (.goto 4, 3)), (cX7_refusal, 40, (.iconst 0, 1)), (cX7_refusal, 41, (.ireturn, 1)), (cX7_write, 0, (.aload_n 0, 1)), (cX7_write, 1, (.getfield 9, 3)), (cX7_write, 4, (.iload_n 1, 1)), (cX7_write, 5, (.aload_n 0, 1)), (cX7_write, 6, (.getfield 19, 3)), (cX7_write, 9, (.ifCond .ne 8, 3)), (cX7_write, 12, (.iload_n 2, 1)), (cX7_write, 13, (.i2b, 1)), (cX7_write, 14, (.goto 17, 3)), (cX7_write, 17, (.aload_n 0, 1)), (cX7_write, 18, (.getfield 19, 3)), (cX7_write, 21, (.iconst 1, 1)), (cX7_write, 22, (.if_icmp .ne 8, 3)), (cX7_write, 25, (.iload_n 2, 1)), (cX7_write, 26, (.i2s, 1)), (cX7_write, 27, (.goto 4, 3)), (cX7_write, 30, (.iload_n 2, 1)), (cX7_write, 31, (.iastore, 1)), (cX7_write, 32, (.return_, 1)), (cX8_init, 0, (.aload_n 0, 1)), (cX8_init, 1, (.invokespecial 3, 3)), (cX8_init, 4, (.aload_n 0, 1)), (cX8_init, 5, (.new 9, 3)), (cX8_init, 8, (.dup, 1)), (cX8_init, 9, (.invokespecial 11, 3)), (cX8_init, 12, (.putfield 12, 3)), (cX8_init, 15, (.aload_n 0, 1)), (cX8_init, 16, (.new 18, 3)), (cX8_init, 19, (.dup, 1)), (cX8_init, 20, (.invokespecial 20, 3)), (cX8_init, 23, (.putfield 21, 3)), (cX8_init, 26, (.aload_n 0, 1)), (cX8_init, 27, (.iconst 2, 1)), (cX8_init, 28, (.anewarray 25, 3))]
theorem dkB02decX1_4 : dkL02decX1_4.all (fun q => decide (decode q.1 q.2.1 = .ok q.2.2)) = true := by decide +kernel
theorem dX7_begin_19 : decode cX7_begin 19 = .ok (.iconst 0, 1) := dk_at dkB02decX1_4 0 rfl
theorem dX7_begin_20 : decode cX7_begin 20 = .ok (.invokestatic 26, 3) := dk_at dkB02decX1_4 1 rfl
theorem dX7_begin_23 : decode cX7_begin 23 = .ok (.return_, 1) := dk_at dkB02decX1_4 2 rfl
theorem dX7_refusal_0 : decode cX7_refusal 0 = .ok (.aload_n 0, 1) := dk_at dkB02decX1_4 3 rfl
theorem dX7_refusal_1 : decode cX7_refusal 1 = .ok (.getfield 15, 3) := dk_at dkB02decX1_4 4 rfl
theorem dX7_refusal_4 : decode cX7_refusal 4 = .ok (.ifCond .ne 6, 3) := dk_at dkB02decX1_4 5 rfl
theorem dX7_refusal_7 : decode cX7_refusal 7 = .ok (.bipush (-11), 2) := dk_at dkB02decX1_4 6 rfl
theorem dX7_refusal_9 : decode cX7_refusal 9 = .ok (.ireturn, 1) := dk_at dkB02decX1_4 7 rfl
theorem dX7_refusal_10 : decode cX7_refusal 10 = .ok (.aload_n 0, 1) := dk_at dkB02decX1_4 8 rfl
theorem dX7_refusal_11 : decode cX7_refusal 11 = .ok (.getfield 19, 3) := dk_at dkB02decX1_4 9 rfl
theorem dX7_refusal_14 : decode cX7_refusal 14 = .ok (.iload_n 1, 1) := dk_at dkB02decX1_4 10 rfl
theorem dX7_refusal_15 : decode cX7_refusal 15 = .ok (.if_icmp .eq 6, 3) := dk_at dkB02decX1_4 11 rfl
theorem dX7_refusal_18 : decode cX7_refusal 18 = .ok (.bipush (-12), 2) := dk_at dkB02decX1_4 12 rfl
theorem dX7_refusal_20 : decode cX7_refusal 20 = .ok (.ireturn, 1) := dk_at dkB02decX1_4 13 rfl
theorem dX7_refusal_21 : decode cX7_refusal 21 = .ok (.iload_n 2, 1) := dk_at dkB02decX1_4 14 rfl
theorem dX7_refusal_22 : decode cX7_refusal 22 = .ok (.ifCond .lt 13, 3) := dk_at dkB02decX1_4 15 rfl
theorem dX7_refusal_25 : decode cX7_refusal 25 = .ok (.iload_n 2, 1) := dk_at dkB02decX1_4 16 rfl
theorem dX7_refusal_26 : decode cX7_refusal 26 = .ok (.aload_n 0, 1) := dk_at dkB02decX1_4 17 rfl
theorem dX7_refusal_27 : decode cX7_refusal 27 = .ok (.getfield 23, 3) := dk_at dkB02decX1_4 18 rfl
theorem dX7_refusal_30 : decode cX7_refusal 30 = .ok (.iload_n 3, 1) := dk_at dkB02decX1_4 19 rfl
theorem dX7_refusal_31 : decode cX7_refusal 31 = .ok (.isub, 1) := dk_at dkB02decX1_4 20 rfl
theorem dX7_refusal_32 : decode cX7_refusal 32 = .ok (.if_icmp .le 8, 3) := dk_at dkB02decX1_4 21 rfl
theorem dX7_refusal_35 : decode cX7_refusal 35 = .ok (.bipush (-13), 2) := dk_at dkB02decX1_4 22 rfl
theorem dX7_refusal_37 : decode cX7_refusal 37 = .ok (.goto 4, 3) := dk_at dkB02decX1_4 23 rfl
theorem dX7_refusal_40 : decode cX7_refusal 40 = .ok (.iconst 0, 1) := dk_at dkB02decX1_4 24 rfl
theorem dX7_refusal_41 : decode cX7_refusal 41 = .ok (.ireturn, 1) := dk_at dkB02decX1_4 25 rfl
theorem dX7_write_0 : decode cX7_write 0 = .ok (.aload_n 0, 1) := dk_at dkB02decX1_4 26 rfl
theorem dX7_write_1 : decode cX7_write 1 = .ok (.getfield 9, 3) := dk_at dkB02decX1_4 27 rfl
theorem dX7_write_4 : decode cX7_write 4 = .ok (.iload_n 1, 1) := dk_at dkB02decX1_4 28 rfl
theorem dX7_write_5 : decode cX7_write 5 = .ok (.aload_n 0, 1) := dk_at dkB02decX1_4 29 rfl
theorem dX7_write_6 : decode cX7_write 6 = .ok (.getfield 19, 3) := dk_at dkB02decX1_4 30 rfl
theorem dX7_write_9 : decode cX7_write 9 = .ok (.ifCond .ne 8, 3) := dk_at dkB02decX1_4 31 rfl
theorem dX7_write_12 : decode cX7_write 12 = .ok (.iload_n 2, 1) := dk_at dkB02decX1_4 32 rfl
theorem dX7_write_13 : decode cX7_write 13 = .ok (.i2b, 1) := dk_at dkB02decX1_4 33 rfl
theorem dX7_write_14 : decode cX7_write 14 = .ok (.goto 17, 3) := dk_at dkB02decX1_4 34 rfl
theorem dX7_write_17 : decode cX7_write 17 = .ok (.aload_n 0, 1) := dk_at dkB02decX1_4 35 rfl
theorem dX7_write_18 : decode cX7_write 18 = .ok (.getfield 19, 3) := dk_at dkB02decX1_4 36 rfl
theorem dX7_write_21 : decode cX7_write 21 = .ok (.iconst 1, 1) := dk_at dkB02decX1_4 37 rfl
theorem dX7_write_22 : decode cX7_write 22 = .ok (.if_icmp .ne 8, 3) := dk_at dkB02decX1_4 38 rfl
theorem dX7_write_25 : decode cX7_write 25 = .ok (.iload_n 2, 1) := dk_at dkB02decX1_4 39 rfl
theorem dX7_write_26 : decode cX7_write 26 = .ok (.i2s, 1) := dk_at dkB02decX1_4 40 rfl
theorem dX7_write_27 : decode cX7_write 27 = .ok (.goto 4, 3) := dk_at dkB02decX1_4 41 rfl
theorem dX7_write_30 : decode cX7_write 30 = .ok (.iload_n 2, 1) := dk_at dkB02decX1_4 42 rfl
theorem dX7_write_31 : decode cX7_write 31 = .ok (.iastore, 1) := dk_at dkB02decX1_4 43 rfl
theorem dX7_write_32 : decode cX7_write 32 = .ok (.return_, 1) := dk_at dkB02decX1_4 44 rfl
theorem dX8_init_0 : decode cX8_init 0 = .ok (.aload_n 0, 1) := dk_at dkB02decX1_4 45 rfl
theorem dX8_init_1 : decode cX8_init 1 = .ok (.invokespecial 3, 3) := dk_at dkB02decX1_4 46 rfl
theorem dX8_init_4 : decode cX8_init 4 = .ok (.aload_n 0, 1) := dk_at dkB02decX1_4 47 rfl
theorem dX8_init_5 : decode cX8_init 5 = .ok (.new 9, 3) := dk_at dkB02decX1_4 48 rfl
theorem dX8_init_8 : decode cX8_init 8 = .ok (.dup, 1) := dk_at dkB02decX1_4 49 rfl
theorem dX8_init_9 : decode cX8_init 9 = .ok (.invokespecial 11, 3) := dk_at dkB02decX1_4 50 rfl
theorem dX8_init_12 : decode cX8_init 12 = .ok (.putfield 12, 3) := dk_at dkB02decX1_4 51 rfl
theorem dX8_init_15 : decode cX8_init 15 = .ok (.aload_n 0, 1) := dk_at dkB02decX1_4 52 rfl
theorem dX8_init_16 : decode cX8_init 16 = .ok (.new 18, 3) := dk_at dkB02decX1_4 53 rfl
theorem dX8_init_19 : decode cX8_init 19 = .ok (.dup, 1) := dk_at dkB02decX1_4 54 rfl
theorem dX8_init_20 : decode cX8_init 20 = .ok (.invokespecial 20, 3) := dk_at dkB02decX1_4 55 rfl
theorem dX8_init_23 : decode cX8_init 23 = .ok (.putfield 21, 3) := dk_at dkB02decX1_4 56 rfl
theorem dX8_init_26 : decode cX8_init 26 = .ok (.aload_n 0, 1) := dk_at dkB02decX1_4 57 rfl
theorem dX8_init_27 : decode cX8_init 27 = .ok (.iconst 2, 1) := dk_at dkB02decX1_4 58 rfl
theorem dX8_init_28 : decode cX8_init 28 = .ok (.anewarray 25, 3) := dk_at dkB02decX1_4 59 rfl
noncomputable def dkL02decX1_5 : List (ByteArray × Nat × Instr × Nat) := [(cX8_init, 31, (.dup, 1)), (cX8_init, 32, (.iconst 0, 1)), (cX8_init, 33, (.new 25, 3)), (cX8_init, 36, (.dup, 1)), (cX8_init, 37, (.invokespecial 27, 3)), (cX8_init, 40, (.aastore, 1)), (cX8_init, 41, (.dup, 1)), (cX8_init, 42, (.iconst 1, 1)), (cX8_init, 43, (.new 25, 3)), (cX8_init, 46, (.dup, 1)), (cX8_init, 47, (.invokespecial 27, 3)), (cX8_init, 50, (.aastore, 1)), (cX8_init, 51, (.putfield 28, 3)), (cX8_init, 54, (.aload_n 0, 1)), (cX8_init, 55, (.new 32, 3)), (cX8_init, 58, (.dup, 1)), (cX8_init, 59, (.invokespecial 34, 3)), (cX8_init, 62, (.putfield 35, 3)), (cX8_init, 65, (.aload_n 0, 1)), (cX8_init, 66, (.iconst 4, 1)), (cX8_init, 67, (.anewarray 39, 3)), (cX8_init, 70, (.dup, 1)), (cX8_init, 71, (.iconst 0, 1)), (cX8_init, 72, (.new 39, 3)), (cX8_init, 75, (.dup, 1)), (cX8_init, 76, (.invokespecial 41, 3)), (cX8_init, 79, (.aastore, 1)), (cX8_init, 80, (.dup, 1)), (cX8_init, 81, (.iconst 1, 1)), (cX8_init, 82, (.new 39, 3)), (cX8_init, 85, (.dup, 1)), (cX8_init, 86, (.invokespecial 41, 3)), (cX8_init, 89, (.aastore, 1)), (cX8_init, 90, (.dup, 1)), (cX8_init, 91, (.iconst 2, 1)), (cX8_init, 92, (.new 39, 3)), (cX8_init, 95, (.dup, 1)), (cX8_init, 96, (.invokespecial 41, 3)), (cX8_init, 99, (.aastore, 1)), (cX8_init, 100, (.dup, 1)), (cX8_init, 101, (.iconst 3, 1)), (cX8_init, 102, (.new 39, 3)), (cX8_init, 105, (.dup, 1)), (cX8_init, 106, (.invokespecial 41, 3)), (cX8_init, 109, (.aastore, 1)), (cX8_init, 110, (.putfield 42, 3)), (cX8_init, 113, (.aload_n 0, 1)), (cX8_init, 114, (.iconst 5, 1)), (cX8_init, 115, (.newarray .int, 2)), (cX8_init, 117, (.putfield 46, 3)), (cX8_init, 120, (.aload_n 0, 1)), (cX8_init, 121, (.iconst 5, 1)), (cX8_init, 122, (.newarray .int, 2)), (cX8_init, 124, (.putfield 50, 3)), (cX8_init, 127, (.return_, 1)), (cX8_take, 0, (.aload_n 0, 1)), (cX8_take, 1, (.getfield 12, 3)), (cX8_take, 4, (.aload_n 1, 1)), (cX8_take, 5, (.getfield 12, 3)), (cX8_take, 8, (.invokevirtual 53, 3))]
theorem dkB02decX1_5 : dkL02decX1_5.all (fun q => decide (decode q.1 q.2.1 = .ok q.2.2)) = true := by decide +kernel
theorem dX8_init_31 : decode cX8_init 31 = .ok (.dup, 1) := dk_at dkB02decX1_5 0 rfl
theorem dX8_init_32 : decode cX8_init 32 = .ok (.iconst 0, 1) := dk_at dkB02decX1_5 1 rfl
theorem dX8_init_33 : decode cX8_init 33 = .ok (.new 25, 3) := dk_at dkB02decX1_5 2 rfl
theorem dX8_init_36 : decode cX8_init 36 = .ok (.dup, 1) := dk_at dkB02decX1_5 3 rfl
theorem dX8_init_37 : decode cX8_init 37 = .ok (.invokespecial 27, 3) := dk_at dkB02decX1_5 4 rfl
theorem dX8_init_40 : decode cX8_init 40 = .ok (.aastore, 1) := dk_at dkB02decX1_5 5 rfl
theorem dX8_init_41 : decode cX8_init 41 = .ok (.dup, 1) := dk_at dkB02decX1_5 6 rfl
theorem dX8_init_42 : decode cX8_init 42 = .ok (.iconst 1, 1) := dk_at dkB02decX1_5 7 rfl
theorem dX8_init_43 : decode cX8_init 43 = .ok (.new 25, 3) := dk_at dkB02decX1_5 8 rfl
theorem dX8_init_46 : decode cX8_init 46 = .ok (.dup, 1) := dk_at dkB02decX1_5 9 rfl
theorem dX8_init_47 : decode cX8_init 47 = .ok (.invokespecial 27, 3) := dk_at dkB02decX1_5 10 rfl
theorem dX8_init_50 : decode cX8_init 50 = .ok (.aastore, 1) := dk_at dkB02decX1_5 11 rfl
theorem dX8_init_51 : decode cX8_init 51 = .ok (.putfield 28, 3) := dk_at dkB02decX1_5 12 rfl
theorem dX8_init_54 : decode cX8_init 54 = .ok (.aload_n 0, 1) := dk_at dkB02decX1_5 13 rfl
theorem dX8_init_55 : decode cX8_init 55 = .ok (.new 32, 3) := dk_at dkB02decX1_5 14 rfl
theorem dX8_init_58 : decode cX8_init 58 = .ok (.dup, 1) := dk_at dkB02decX1_5 15 rfl
theorem dX8_init_59 : decode cX8_init 59 = .ok (.invokespecial 34, 3) := dk_at dkB02decX1_5 16 rfl
theorem dX8_init_62 : decode cX8_init 62 = .ok (.putfield 35, 3) := dk_at dkB02decX1_5 17 rfl
theorem dX8_init_65 : decode cX8_init 65 = .ok (.aload_n 0, 1) := dk_at dkB02decX1_5 18 rfl
theorem dX8_init_66 : decode cX8_init 66 = .ok (.iconst 4, 1) := dk_at dkB02decX1_5 19 rfl
theorem dX8_init_67 : decode cX8_init 67 = .ok (.anewarray 39, 3) := dk_at dkB02decX1_5 20 rfl
theorem dX8_init_70 : decode cX8_init 70 = .ok (.dup, 1) := dk_at dkB02decX1_5 21 rfl
theorem dX8_init_71 : decode cX8_init 71 = .ok (.iconst 0, 1) := dk_at dkB02decX1_5 22 rfl
theorem dX8_init_72 : decode cX8_init 72 = .ok (.new 39, 3) := dk_at dkB02decX1_5 23 rfl
theorem dX8_init_75 : decode cX8_init 75 = .ok (.dup, 1) := dk_at dkB02decX1_5 24 rfl
theorem dX8_init_76 : decode cX8_init 76 = .ok (.invokespecial 41, 3) := dk_at dkB02decX1_5 25 rfl
theorem dX8_init_79 : decode cX8_init 79 = .ok (.aastore, 1) := dk_at dkB02decX1_5 26 rfl
theorem dX8_init_80 : decode cX8_init 80 = .ok (.dup, 1) := dk_at dkB02decX1_5 27 rfl
theorem dX8_init_81 : decode cX8_init 81 = .ok (.iconst 1, 1) := dk_at dkB02decX1_5 28 rfl
theorem dX8_init_82 : decode cX8_init 82 = .ok (.new 39, 3) := dk_at dkB02decX1_5 29 rfl
theorem dX8_init_85 : decode cX8_init 85 = .ok (.dup, 1) := dk_at dkB02decX1_5 30 rfl
theorem dX8_init_86 : decode cX8_init 86 = .ok (.invokespecial 41, 3) := dk_at dkB02decX1_5 31 rfl
theorem dX8_init_89 : decode cX8_init 89 = .ok (.aastore, 1) := dk_at dkB02decX1_5 32 rfl
theorem dX8_init_90 : decode cX8_init 90 = .ok (.dup, 1) := dk_at dkB02decX1_5 33 rfl
theorem dX8_init_91 : decode cX8_init 91 = .ok (.iconst 2, 1) := dk_at dkB02decX1_5 34 rfl
theorem dX8_init_92 : decode cX8_init 92 = .ok (.new 39, 3) := dk_at dkB02decX1_5 35 rfl
theorem dX8_init_95 : decode cX8_init 95 = .ok (.dup, 1) := dk_at dkB02decX1_5 36 rfl
theorem dX8_init_96 : decode cX8_init 96 = .ok (.invokespecial 41, 3) := dk_at dkB02decX1_5 37 rfl
theorem dX8_init_99 : decode cX8_init 99 = .ok (.aastore, 1) := dk_at dkB02decX1_5 38 rfl
theorem dX8_init_100 : decode cX8_init 100 = .ok (.dup, 1) := dk_at dkB02decX1_5 39 rfl
theorem dX8_init_101 : decode cX8_init 101 = .ok (.iconst 3, 1) := dk_at dkB02decX1_5 40 rfl
theorem dX8_init_102 : decode cX8_init 102 = .ok (.new 39, 3) := dk_at dkB02decX1_5 41 rfl
theorem dX8_init_105 : decode cX8_init 105 = .ok (.dup, 1) := dk_at dkB02decX1_5 42 rfl
theorem dX8_init_106 : decode cX8_init 106 = .ok (.invokespecial 41, 3) := dk_at dkB02decX1_5 43 rfl
theorem dX8_init_109 : decode cX8_init 109 = .ok (.aastore, 1) := dk_at dkB02decX1_5 44 rfl
theorem dX8_init_110 : decode cX8_init 110 = .ok (.putfield 42, 3) := dk_at dkB02decX1_5 45 rfl
theorem dX8_init_113 : decode cX8_init 113 = .ok (.aload_n 0, 1) := dk_at dkB02decX1_5 46 rfl
theorem dX8_init_114 : decode cX8_init 114 = .ok (.iconst 5, 1) := dk_at dkB02decX1_5 47 rfl
theorem dX8_init_115 : decode cX8_init 115 = .ok (.newarray .int, 2) := dk_at dkB02decX1_5 48 rfl
theorem dX8_init_117 : decode cX8_init 117 = .ok (.putfield 46, 3) := dk_at dkB02decX1_5 49 rfl
theorem dX8_init_120 : decode cX8_init 120 = .ok (.aload_n 0, 1) := dk_at dkB02decX1_5 50 rfl
theorem dX8_init_121 : decode cX8_init 121 = .ok (.iconst 5, 1) := dk_at dkB02decX1_5 51 rfl
theorem dX8_init_122 : decode cX8_init 122 = .ok (.newarray .int, 2) := dk_at dkB02decX1_5 52 rfl
theorem dX8_init_124 : decode cX8_init 124 = .ok (.putfield 50, 3) := dk_at dkB02decX1_5 53 rfl
theorem dX8_init_127 : decode cX8_init 127 = .ok (.return_, 1) := dk_at dkB02decX1_5 54 rfl
theorem dX8_take_0 : decode cX8_take 0 = .ok (.aload_n 0, 1) := dk_at dkB02decX1_5 55 rfl
theorem dX8_take_1 : decode cX8_take 1 = .ok (.getfield 12, 3) := dk_at dkB02decX1_5 56 rfl
theorem dX8_take_4 : decode cX8_take 4 = .ok (.aload_n 1, 1) := dk_at dkB02decX1_5 57 rfl
theorem dX8_take_5 : decode cX8_take 5 = .ok (.getfield 12, 3) := dk_at dkB02decX1_5 58 rfl
theorem dX8_take_8 : decode cX8_take 8 = .ok (.invokevirtual 53, 3) := dk_at dkB02decX1_5 59 rfl
noncomputable def dkL02decX1_6 : List (ByteArray × Nat × Instr × Nat) := [(cX8_take, 11, (.aload_n 0, 1)), (cX8_take, 12, (.getfield 21, 3)), (cX8_take, 15, (.aload_n 1, 1)), (cX8_take, 16, (.getfield 21, 3)), (cX8_take, 19, (.invokevirtual 57, 3)), (cX8_take, 22, (.aload_n 0, 1)), (cX8_take, 23, (.getfield 35, 3)), (cX8_take, 26, (.aload_n 1, 1)), (cX8_take, 27, (.getfield 35, 3)), (cX8_take, 30, (.invokevirtual 60, 3)), (cX8_take, 33, (.iconst 0, 1)), (cX8_take, 34, (.istore_n 2, 1)), (cX8_take, 35, (.iload_n 2, 1)), (cX8_take, 36, (.iconst 2, 1)), (cX8_take, 37, (.if_icmp .ge 24, 3)), (cX8_take, 40, (.aload_n 0, 1)), (cX8_take, 41, (.getfield 28, 3)), (cX8_take, 44, (.iload_n 2, 1)), (cX8_take, 45, (.aaload, 1)), (cX8_take, 46, (.aload_n 1, 1)), (cX8_take, 47, (.getfield 28, 3)), (cX8_take, 50, (.iload_n 2, 1)), (cX8_take, 51, (.aaload, 1)), (cX8_take, 52, (.invokevirtual 63, 3)), (cX8_take, 55, (.iinc 2 1, 3)), (cX8_take, 58, (.goto (-23), 3)), (cX8_take, 61, (.iconst 0, 1)), (cX8_take, 62, (.istore_n 2, 1)), (cX8_take, 63, (.iload_n 2, 1)), (cX8_take, 64, (.iconst 4, 1)), (cX8_take, 65, (.if_icmp .ge 24, 3)), (cX8_take, 68, (.aload_n 0, 1)), (cX8_take, 69, (.getfield 42, 3)), (cX8_take, 72, (.iload_n 2, 1)), (cX8_take, 73, (.aaload, 1)), (cX8_take, 74, (.aload_n 1, 1)), (cX8_take, 75, (.getfield 42, 3)), (cX8_take, 78, (.iload_n 2, 1)), (cX8_take, 79, (.aaload, 1)), (cX8_take, 80, (.invokevirtual 66, 3)), (cX8_take, 83, (.iinc 2 1, 3)), (cX8_take, 86, (.goto (-23), 3)), (cX8_take, 89, (.aload_n 1, 1)), (cX8_take, 90, (.getfield 46, 3)), (cX8_take, 93, (.aload_n 0, 1)), (cX8_take, 94, (.getfield 46, 3)), (cX8_take, 97, (.invokestatic 69, 3)), (cX8_take, 100, (.aload_n 1, 1)), (cX8_take, 101, (.getfield 50, 3)), (cX8_take, 104, (.aload_n 0, 1)), (cX8_take, 105, (.getfield 50, 3)), (cX8_take, 108, (.invokestatic 69, 3)), (cX8_take, 111, (.aload_n 0, 1)), (cX8_take, 112, (.aload_n 1, 1)), (cX8_take, 113, (.getfield 73, 3)), (cX8_take, 116, (.putfield 73, 3)), (cX8_take, 119, (.aload_n 0, 1)), (cX8_take, 120, (.aload_n 1, 1)), (cX8_take, 121, (.getfield 77, 3)), (cX8_take, 124, (.putfield 77, 3))]
theorem dkB02decX1_6 : dkL02decX1_6.all (fun q => decide (decode q.1 q.2.1 = .ok q.2.2)) = true := by decide +kernel
theorem dX8_take_11 : decode cX8_take 11 = .ok (.aload_n 0, 1) := dk_at dkB02decX1_6 0 rfl
theorem dX8_take_12 : decode cX8_take 12 = .ok (.getfield 21, 3) := dk_at dkB02decX1_6 1 rfl
theorem dX8_take_15 : decode cX8_take 15 = .ok (.aload_n 1, 1) := dk_at dkB02decX1_6 2 rfl
theorem dX8_take_16 : decode cX8_take 16 = .ok (.getfield 21, 3) := dk_at dkB02decX1_6 3 rfl
theorem dX8_take_19 : decode cX8_take 19 = .ok (.invokevirtual 57, 3) := dk_at dkB02decX1_6 4 rfl
theorem dX8_take_22 : decode cX8_take 22 = .ok (.aload_n 0, 1) := dk_at dkB02decX1_6 5 rfl
theorem dX8_take_23 : decode cX8_take 23 = .ok (.getfield 35, 3) := dk_at dkB02decX1_6 6 rfl
theorem dX8_take_26 : decode cX8_take 26 = .ok (.aload_n 1, 1) := dk_at dkB02decX1_6 7 rfl
theorem dX8_take_27 : decode cX8_take 27 = .ok (.getfield 35, 3) := dk_at dkB02decX1_6 8 rfl
theorem dX8_take_30 : decode cX8_take 30 = .ok (.invokevirtual 60, 3) := dk_at dkB02decX1_6 9 rfl
theorem dX8_take_33 : decode cX8_take 33 = .ok (.iconst 0, 1) := dk_at dkB02decX1_6 10 rfl
theorem dX8_take_34 : decode cX8_take 34 = .ok (.istore_n 2, 1) := dk_at dkB02decX1_6 11 rfl
theorem dX8_take_35 : decode cX8_take 35 = .ok (.iload_n 2, 1) := dk_at dkB02decX1_6 12 rfl
theorem dX8_take_36 : decode cX8_take 36 = .ok (.iconst 2, 1) := dk_at dkB02decX1_6 13 rfl
theorem dX8_take_37 : decode cX8_take 37 = .ok (.if_icmp .ge 24, 3) := dk_at dkB02decX1_6 14 rfl
theorem dX8_take_40 : decode cX8_take 40 = .ok (.aload_n 0, 1) := dk_at dkB02decX1_6 15 rfl
theorem dX8_take_41 : decode cX8_take 41 = .ok (.getfield 28, 3) := dk_at dkB02decX1_6 16 rfl
theorem dX8_take_44 : decode cX8_take 44 = .ok (.iload_n 2, 1) := dk_at dkB02decX1_6 17 rfl
theorem dX8_take_45 : decode cX8_take 45 = .ok (.aaload, 1) := dk_at dkB02decX1_6 18 rfl
theorem dX8_take_46 : decode cX8_take 46 = .ok (.aload_n 1, 1) := dk_at dkB02decX1_6 19 rfl
theorem dX8_take_47 : decode cX8_take 47 = .ok (.getfield 28, 3) := dk_at dkB02decX1_6 20 rfl
theorem dX8_take_50 : decode cX8_take 50 = .ok (.iload_n 2, 1) := dk_at dkB02decX1_6 21 rfl
theorem dX8_take_51 : decode cX8_take 51 = .ok (.aaload, 1) := dk_at dkB02decX1_6 22 rfl
theorem dX8_take_52 : decode cX8_take 52 = .ok (.invokevirtual 63, 3) := dk_at dkB02decX1_6 23 rfl
theorem dX8_take_55 : decode cX8_take 55 = .ok (.iinc 2 1, 3) := dk_at dkB02decX1_6 24 rfl
theorem dX8_take_58 : decode cX8_take 58 = .ok (.goto (-23), 3) := dk_at dkB02decX1_6 25 rfl
theorem dX8_take_61 : decode cX8_take 61 = .ok (.iconst 0, 1) := dk_at dkB02decX1_6 26 rfl
theorem dX8_take_62 : decode cX8_take 62 = .ok (.istore_n 2, 1) := dk_at dkB02decX1_6 27 rfl
theorem dX8_take_63 : decode cX8_take 63 = .ok (.iload_n 2, 1) := dk_at dkB02decX1_6 28 rfl
theorem dX8_take_64 : decode cX8_take 64 = .ok (.iconst 4, 1) := dk_at dkB02decX1_6 29 rfl
theorem dX8_take_65 : decode cX8_take 65 = .ok (.if_icmp .ge 24, 3) := dk_at dkB02decX1_6 30 rfl
theorem dX8_take_68 : decode cX8_take 68 = .ok (.aload_n 0, 1) := dk_at dkB02decX1_6 31 rfl
theorem dX8_take_69 : decode cX8_take 69 = .ok (.getfield 42, 3) := dk_at dkB02decX1_6 32 rfl
theorem dX8_take_72 : decode cX8_take 72 = .ok (.iload_n 2, 1) := dk_at dkB02decX1_6 33 rfl
theorem dX8_take_73 : decode cX8_take 73 = .ok (.aaload, 1) := dk_at dkB02decX1_6 34 rfl
theorem dX8_take_74 : decode cX8_take 74 = .ok (.aload_n 1, 1) := dk_at dkB02decX1_6 35 rfl
theorem dX8_take_75 : decode cX8_take 75 = .ok (.getfield 42, 3) := dk_at dkB02decX1_6 36 rfl
theorem dX8_take_78 : decode cX8_take 78 = .ok (.iload_n 2, 1) := dk_at dkB02decX1_6 37 rfl
theorem dX8_take_79 : decode cX8_take 79 = .ok (.aaload, 1) := dk_at dkB02decX1_6 38 rfl
theorem dX8_take_80 : decode cX8_take 80 = .ok (.invokevirtual 66, 3) := dk_at dkB02decX1_6 39 rfl
theorem dX8_take_83 : decode cX8_take 83 = .ok (.iinc 2 1, 3) := dk_at dkB02decX1_6 40 rfl
theorem dX8_take_86 : decode cX8_take 86 = .ok (.goto (-23), 3) := dk_at dkB02decX1_6 41 rfl
theorem dX8_take_89 : decode cX8_take 89 = .ok (.aload_n 1, 1) := dk_at dkB02decX1_6 42 rfl
theorem dX8_take_90 : decode cX8_take 90 = .ok (.getfield 46, 3) := dk_at dkB02decX1_6 43 rfl
theorem dX8_take_93 : decode cX8_take 93 = .ok (.aload_n 0, 1) := dk_at dkB02decX1_6 44 rfl
theorem dX8_take_94 : decode cX8_take 94 = .ok (.getfield 46, 3) := dk_at dkB02decX1_6 45 rfl
theorem dX8_take_97 : decode cX8_take 97 = .ok (.invokestatic 69, 3) := dk_at dkB02decX1_6 46 rfl
theorem dX8_take_100 : decode cX8_take 100 = .ok (.aload_n 1, 1) := dk_at dkB02decX1_6 47 rfl
theorem dX8_take_101 : decode cX8_take 101 = .ok (.getfield 50, 3) := dk_at dkB02decX1_6 48 rfl
theorem dX8_take_104 : decode cX8_take 104 = .ok (.aload_n 0, 1) := dk_at dkB02decX1_6 49 rfl
theorem dX8_take_105 : decode cX8_take 105 = .ok (.getfield 50, 3) := dk_at dkB02decX1_6 50 rfl
theorem dX8_take_108 : decode cX8_take 108 = .ok (.invokestatic 69, 3) := dk_at dkB02decX1_6 51 rfl
theorem dX8_take_111 : decode cX8_take 111 = .ok (.aload_n 0, 1) := dk_at dkB02decX1_6 52 rfl
theorem dX8_take_112 : decode cX8_take 112 = .ok (.aload_n 1, 1) := dk_at dkB02decX1_6 53 rfl
theorem dX8_take_113 : decode cX8_take 113 = .ok (.getfield 73, 3) := dk_at dkB02decX1_6 54 rfl
theorem dX8_take_116 : decode cX8_take 116 = .ok (.putfield 73, 3) := dk_at dkB02decX1_6 55 rfl
theorem dX8_take_119 : decode cX8_take 119 = .ok (.aload_n 0, 1) := dk_at dkB02decX1_6 56 rfl
theorem dX8_take_120 : decode cX8_take 120 = .ok (.aload_n 1, 1) := dk_at dkB02decX1_6 57 rfl
theorem dX8_take_121 : decode cX8_take 121 = .ok (.getfield 77, 3) := dk_at dkB02decX1_6 58 rfl
theorem dX8_take_124 : decode cX8_take 124 = .ok (.putfield 77, 3) := dk_at dkB02decX1_6 59 rfl
noncomputable def dkL02decX1_7 : List (ByteArray × Nat × Instr × Nat) := [(cX8_take, 127, (.return_, 1)), (cX8_canSay, 0, (.iconst 0, 1)), (cX8_canSay, 1, (.istore_n 3, 1)), (cX8_canSay, 2, (.iconst 0, 1)), (cX8_canSay, 3, (.istore 4, 2)), (cX8_canSay, 5, (.iconst 0, 1)), (cX8_canSay, 6, (.istore 5, 2)), (cX8_canSay, 8, (.iload 5, 2)), (cX8_canSay, 10, (.aload_n 0, 1)), (cX8_canSay, 11, (.getfield 77, 3)), (cX8_canSay, 14, (.if_icmp .ge 41, 3)), (cX8_canSay, 17, (.iload_n 1, 1)), (cX8_canSay, 18, (.iload 5, 2)), (cX8_canSay, 20, (.ishr, 1)), (cX8_canSay, 21, (.iconst 1, 1)), (cX8_canSay, 22, (.iand, 1)), (cX8_canSay, 23, (.iconst 1, 1)), (cX8_canSay, 24, (.if_icmp .ne 25, 3)), (cX8_canSay, 27, (.iload_n 3, 1)), (cX8_canSay, 28, (.aload_n 0, 1)), (cX8_canSay, 29, (.getfield 46, 3)), (cX8_canSay, 32, (.iload 5, 2)), (cX8_canSay, 34, (.iaload, 1)), (cX8_canSay, 35, (.iadd, 1)), (cX8_canSay, 36, (.istore_n 3, 1)), (cX8_canSay, 37, (.iload 4, 2)), (cX8_canSay, 39, (.aload_n 0, 1)), (cX8_canSay, 40, (.getfield 50, 3)), (cX8_canSay, 43, (.iload 5, 2)), (cX8_canSay, 45, (.iaload, 1)), (cX8_canSay, 46, (.iadd, 1)), (cX8_canSay, 47, (.istore 4, 2)), (cX8_canSay, 49, (.iinc 5 1, 3)), (cX8_canSay, 52, (.goto (-44), 3)), (cX8_canSay, 55, (.iload_n 2, 1)), (cX8_canSay, 56, (.iload_n 3, 1)), (cX8_canSay, 57, (.iload 4, 2)), (cX8_canSay, 59, (.invokestatic 80, 3)), (cX8_canSay, 62, (.ireturn, 1)), (cX9_init, 0, (.aload_n 0, 1)), (cX9_init, 1, (.invokespecial 3, 3)), (cX9_init, 4, (.aload_n 0, 1)), (cX9_init, 5, (.bipush 12, 2)), (cX9_init, 7, (.newarray .int, 2)), (cX9_init, 9, (.putfield 9, 3)), (cX9_init, 12, (.aload_n 0, 1)), (cX9_init, 13, (.bipush 12, 2)), (cX9_init, 15, (.newarray .int, 2)), (cX9_init, 17, (.putfield 15, 3)), (cX9_init, 20, (.aload_n 0, 1)), (cX9_init, 21, (.bipush 12, 2)), (cX9_init, 23, (.newarray .int, 2)), (cX9_init, 25, (.putfield 18, 3)), (cX9_init, 28, (.aload_n 0, 1)), (cX9_init, 29, (.bipush 12, 2)), (cX9_init, 31, (.newarray .int, 2)), (cX9_init, 33, (.putfield 21, 3)), (cX9_init, 36, (.aload_n 0, 1)), (cX9_init, 37, (.bipush 12, 2)), (cX9_init, 39, (.newarray .int, 2))]
theorem dkB02decX1_7 : dkL02decX1_7.all (fun q => decide (decode q.1 q.2.1 = .ok q.2.2)) = true := by decide +kernel
theorem dX8_take_127 : decode cX8_take 127 = .ok (.return_, 1) := dk_at dkB02decX1_7 0 rfl
theorem dX8_canSay_0 : decode cX8_canSay 0 = .ok (.iconst 0, 1) := dk_at dkB02decX1_7 1 rfl
theorem dX8_canSay_1 : decode cX8_canSay 1 = .ok (.istore_n 3, 1) := dk_at dkB02decX1_7 2 rfl
theorem dX8_canSay_2 : decode cX8_canSay 2 = .ok (.iconst 0, 1) := dk_at dkB02decX1_7 3 rfl
theorem dX8_canSay_3 : decode cX8_canSay 3 = .ok (.istore 4, 2) := dk_at dkB02decX1_7 4 rfl
theorem dX8_canSay_5 : decode cX8_canSay 5 = .ok (.iconst 0, 1) := dk_at dkB02decX1_7 5 rfl
theorem dX8_canSay_6 : decode cX8_canSay 6 = .ok (.istore 5, 2) := dk_at dkB02decX1_7 6 rfl
theorem dX8_canSay_8 : decode cX8_canSay 8 = .ok (.iload 5, 2) := dk_at dkB02decX1_7 7 rfl
theorem dX8_canSay_10 : decode cX8_canSay 10 = .ok (.aload_n 0, 1) := dk_at dkB02decX1_7 8 rfl
theorem dX8_canSay_11 : decode cX8_canSay 11 = .ok (.getfield 77, 3) := dk_at dkB02decX1_7 9 rfl
theorem dX8_canSay_14 : decode cX8_canSay 14 = .ok (.if_icmp .ge 41, 3) := dk_at dkB02decX1_7 10 rfl
theorem dX8_canSay_17 : decode cX8_canSay 17 = .ok (.iload_n 1, 1) := dk_at dkB02decX1_7 11 rfl
theorem dX8_canSay_18 : decode cX8_canSay 18 = .ok (.iload 5, 2) := dk_at dkB02decX1_7 12 rfl
theorem dX8_canSay_20 : decode cX8_canSay 20 = .ok (.ishr, 1) := dk_at dkB02decX1_7 13 rfl
theorem dX8_canSay_21 : decode cX8_canSay 21 = .ok (.iconst 1, 1) := dk_at dkB02decX1_7 14 rfl
theorem dX8_canSay_22 : decode cX8_canSay 22 = .ok (.iand, 1) := dk_at dkB02decX1_7 15 rfl
theorem dX8_canSay_23 : decode cX8_canSay 23 = .ok (.iconst 1, 1) := dk_at dkB02decX1_7 16 rfl
theorem dX8_canSay_24 : decode cX8_canSay 24 = .ok (.if_icmp .ne 25, 3) := dk_at dkB02decX1_7 17 rfl
theorem dX8_canSay_27 : decode cX8_canSay 27 = .ok (.iload_n 3, 1) := dk_at dkB02decX1_7 18 rfl
theorem dX8_canSay_28 : decode cX8_canSay 28 = .ok (.aload_n 0, 1) := dk_at dkB02decX1_7 19 rfl
theorem dX8_canSay_29 : decode cX8_canSay 29 = .ok (.getfield 46, 3) := dk_at dkB02decX1_7 20 rfl
theorem dX8_canSay_32 : decode cX8_canSay 32 = .ok (.iload 5, 2) := dk_at dkB02decX1_7 21 rfl
theorem dX8_canSay_34 : decode cX8_canSay 34 = .ok (.iaload, 1) := dk_at dkB02decX1_7 22 rfl
theorem dX8_canSay_35 : decode cX8_canSay 35 = .ok (.iadd, 1) := dk_at dkB02decX1_7 23 rfl
theorem dX8_canSay_36 : decode cX8_canSay 36 = .ok (.istore_n 3, 1) := dk_at dkB02decX1_7 24 rfl
theorem dX8_canSay_37 : decode cX8_canSay 37 = .ok (.iload 4, 2) := dk_at dkB02decX1_7 25 rfl
theorem dX8_canSay_39 : decode cX8_canSay 39 = .ok (.aload_n 0, 1) := dk_at dkB02decX1_7 26 rfl
theorem dX8_canSay_40 : decode cX8_canSay 40 = .ok (.getfield 50, 3) := dk_at dkB02decX1_7 27 rfl
theorem dX8_canSay_43 : decode cX8_canSay 43 = .ok (.iload 5, 2) := dk_at dkB02decX1_7 28 rfl
theorem dX8_canSay_45 : decode cX8_canSay 45 = .ok (.iaload, 1) := dk_at dkB02decX1_7 29 rfl
theorem dX8_canSay_46 : decode cX8_canSay 46 = .ok (.iadd, 1) := dk_at dkB02decX1_7 30 rfl
theorem dX8_canSay_47 : decode cX8_canSay 47 = .ok (.istore 4, 2) := dk_at dkB02decX1_7 31 rfl
theorem dX8_canSay_49 : decode cX8_canSay 49 = .ok (.iinc 5 1, 3) := dk_at dkB02decX1_7 32 rfl
theorem dX8_canSay_52 : decode cX8_canSay 52 = .ok (.goto (-44), 3) := dk_at dkB02decX1_7 33 rfl
theorem dX8_canSay_55 : decode cX8_canSay 55 = .ok (.iload_n 2, 1) := dk_at dkB02decX1_7 34 rfl
theorem dX8_canSay_56 : decode cX8_canSay 56 = .ok (.iload_n 3, 1) := dk_at dkB02decX1_7 35 rfl
theorem dX8_canSay_57 : decode cX8_canSay 57 = .ok (.iload 4, 2) := dk_at dkB02decX1_7 36 rfl
theorem dX8_canSay_59 : decode cX8_canSay 59 = .ok (.invokestatic 80, 3) := dk_at dkB02decX1_7 37 rfl
theorem dX8_canSay_62 : decode cX8_canSay 62 = .ok (.ireturn, 1) := dk_at dkB02decX1_7 38 rfl
theorem dX9_init_0 : decode cX9_init 0 = .ok (.aload_n 0, 1) := dk_at dkB02decX1_7 39 rfl
theorem dX9_init_1 : decode cX9_init 1 = .ok (.invokespecial 3, 3) := dk_at dkB02decX1_7 40 rfl
theorem dX9_init_4 : decode cX9_init 4 = .ok (.aload_n 0, 1) := dk_at dkB02decX1_7 41 rfl
theorem dX9_init_5 : decode cX9_init 5 = .ok (.bipush 12, 2) := dk_at dkB02decX1_7 42 rfl
theorem dX9_init_7 : decode cX9_init 7 = .ok (.newarray .int, 2) := dk_at dkB02decX1_7 43 rfl
theorem dX9_init_9 : decode cX9_init 9 = .ok (.putfield 9, 3) := dk_at dkB02decX1_7 44 rfl
theorem dX9_init_12 : decode cX9_init 12 = .ok (.aload_n 0, 1) := dk_at dkB02decX1_7 45 rfl
theorem dX9_init_13 : decode cX9_init 13 = .ok (.bipush 12, 2) := dk_at dkB02decX1_7 46 rfl
theorem dX9_init_15 : decode cX9_init 15 = .ok (.newarray .int, 2) := dk_at dkB02decX1_7 47 rfl
theorem dX9_init_17 : decode cX9_init 17 = .ok (.putfield 15, 3) := dk_at dkB02decX1_7 48 rfl
theorem dX9_init_20 : decode cX9_init 20 = .ok (.aload_n 0, 1) := dk_at dkB02decX1_7 49 rfl
theorem dX9_init_21 : decode cX9_init 21 = .ok (.bipush 12, 2) := dk_at dkB02decX1_7 50 rfl
theorem dX9_init_23 : decode cX9_init 23 = .ok (.newarray .int, 2) := dk_at dkB02decX1_7 51 rfl
theorem dX9_init_25 : decode cX9_init 25 = .ok (.putfield 18, 3) := dk_at dkB02decX1_7 52 rfl
theorem dX9_init_28 : decode cX9_init 28 = .ok (.aload_n 0, 1) := dk_at dkB02decX1_7 53 rfl
theorem dX9_init_29 : decode cX9_init 29 = .ok (.bipush 12, 2) := dk_at dkB02decX1_7 54 rfl
theorem dX9_init_31 : decode cX9_init 31 = .ok (.newarray .int, 2) := dk_at dkB02decX1_7 55 rfl
theorem dX9_init_33 : decode cX9_init 33 = .ok (.putfield 21, 3) := dk_at dkB02decX1_7 56 rfl
theorem dX9_init_36 : decode cX9_init 36 = .ok (.aload_n 0, 1) := dk_at dkB02decX1_7 57 rfl
theorem dX9_init_37 : decode cX9_init 37 = .ok (.bipush 12, 2) := dk_at dkB02decX1_7 58 rfl
theorem dX9_init_39 : decode cX9_init 39 = .ok (.newarray .int, 2) := dk_at dkB02decX1_7 59 rfl
noncomputable def dkL02decX1_8 : List (ByteArray × Nat × Instr × Nat) := [(cX9_init, 41, (.putfield 24, 3)), (cX9_init, 44, (.aload_n 0, 1)), (cX9_init, 45, (.bipush 12, 2)), (cX9_init, 47, (.newarray .int, 2)), (cX9_init, 49, (.putfield 27, 3)), (cX9_init, 52, (.aload_n 0, 1)), (cX9_init, 53, (.bipush 12, 2)), (cX9_init, 55, (.newarray .int, 2)), (cX9_init, 57, (.putfield 30, 3)), (cX9_init, 60, (.aload_n 0, 1)), (cX9_init, 61, (.bipush 12, 2)), (cX9_init, 63, (.bipush 96, 2)), (cX9_init, 65, (.multianewarray 33 2, 4)), (cX9_init, 69, (.putfield 35, 3)), (cX9_init, 72, (.aload_n 0, 1)), (cX9_init, 73, (.bipush 12, 2)), (cX9_init, 75, (.bipush 96, 2)), (cX9_init, 77, (.multianewarray 33 2, 4)), (cX9_init, 81, (.putfield 38, 3)), (cX9_init, 84, (.aload_n 0, 1)), (cX9_init, 85, (.bipush 24, 2)), (cX9_init, 87, (.newarray .long, 2)), (cX9_init, 89, (.putfield 41, 3)), (cX9_init, 92, (.aload_n 0, 1)), (cX9_init, 93, (.bipush 24, 2)), (cX9_init, 95, (.newarray .int, 2)), (cX9_init, 97, (.putfield 45, 3)), (cX9_init, 100, (.aload_n 0, 1)), (cX9_init, 101, (.bipush 96, 2)), (cX9_init, 103, (.newarray .long, 2)), (cX9_init, 105, (.putfield 48, 3)), (cX9_init, 108, (.aload_n 0, 1)), (cX9_init, 109, (.bipush 96, 2)), (cX9_init, 111, (.newarray .long, 2)), (cX9_init, 113, (.putfield 51, 3)), (cX9_init, 116, (.return_, 1)), (cX9_lay, 0, (.aload_n 0, 1)), (cX9_lay, 1, (.aload_n 1, 1)), (cX9_lay, 2, (.getfield 54, 3)), (cX9_lay, 5, (.putfield 60, 3)), (cX9_lay, 8, (.aload_n 0, 1)), (cX9_lay, 9, (.aload_n 1, 1)), (cX9_lay, 10, (.invokevirtual 61, 3)), (cX9_lay, 13, (.iconst 0, 1)), (cX9_lay, 14, (.istore 4, 2)), (cX9_lay, 16, (.iload 4, 2)), (cX9_lay, 18, (.aload_n 1, 1)), (cX9_lay, 19, (.getfield 65, 3)), (cX9_lay, 22, (.if_icmp .ge 16, 3)), (cX9_lay, 25, (.aload_n 0, 1)), (cX9_lay, 26, (.aload_n 1, 1)), (cX9_lay, 27, (.iload 4, 2)), (cX9_lay, 29, (.invokevirtual 68, 3)), (cX9_lay, 32, (.iinc 4 1, 3)), (cX9_lay, 35, (.goto (-19), 3)), (cX9_lay, 38, (.iconst 0, 1)), (cX9_lay, 39, (.istore 4, 2)), (cX9_lay, 41, (.iload 4, 2)), (cX9_lay, 43, (.aload_n 2, 1)), (cX9_lay, 44, (.getfield 72, 3))]
theorem dkB02decX1_8 : dkL02decX1_8.all (fun q => decide (decode q.1 q.2.1 = .ok q.2.2)) = true := by decide +kernel
theorem dX9_init_41 : decode cX9_init 41 = .ok (.putfield 24, 3) := dk_at dkB02decX1_8 0 rfl
theorem dX9_init_44 : decode cX9_init 44 = .ok (.aload_n 0, 1) := dk_at dkB02decX1_8 1 rfl
theorem dX9_init_45 : decode cX9_init 45 = .ok (.bipush 12, 2) := dk_at dkB02decX1_8 2 rfl
theorem dX9_init_47 : decode cX9_init 47 = .ok (.newarray .int, 2) := dk_at dkB02decX1_8 3 rfl
theorem dX9_init_49 : decode cX9_init 49 = .ok (.putfield 27, 3) := dk_at dkB02decX1_8 4 rfl
theorem dX9_init_52 : decode cX9_init 52 = .ok (.aload_n 0, 1) := dk_at dkB02decX1_8 5 rfl
theorem dX9_init_53 : decode cX9_init 53 = .ok (.bipush 12, 2) := dk_at dkB02decX1_8 6 rfl
theorem dX9_init_55 : decode cX9_init 55 = .ok (.newarray .int, 2) := dk_at dkB02decX1_8 7 rfl
theorem dX9_init_57 : decode cX9_init 57 = .ok (.putfield 30, 3) := dk_at dkB02decX1_8 8 rfl
theorem dX9_init_60 : decode cX9_init 60 = .ok (.aload_n 0, 1) := dk_at dkB02decX1_8 9 rfl
theorem dX9_init_61 : decode cX9_init 61 = .ok (.bipush 12, 2) := dk_at dkB02decX1_8 10 rfl
theorem dX9_init_63 : decode cX9_init 63 = .ok (.bipush 96, 2) := dk_at dkB02decX1_8 11 rfl
theorem dX9_init_65 : decode cX9_init 65 = .ok (.multianewarray 33 2, 4) := dk_at dkB02decX1_8 12 rfl
theorem dX9_init_69 : decode cX9_init 69 = .ok (.putfield 35, 3) := dk_at dkB02decX1_8 13 rfl
theorem dX9_init_72 : decode cX9_init 72 = .ok (.aload_n 0, 1) := dk_at dkB02decX1_8 14 rfl
theorem dX9_init_73 : decode cX9_init 73 = .ok (.bipush 12, 2) := dk_at dkB02decX1_8 15 rfl
theorem dX9_init_75 : decode cX9_init 75 = .ok (.bipush 96, 2) := dk_at dkB02decX1_8 16 rfl
theorem dX9_init_77 : decode cX9_init 77 = .ok (.multianewarray 33 2, 4) := dk_at dkB02decX1_8 17 rfl
theorem dX9_init_81 : decode cX9_init 81 = .ok (.putfield 38, 3) := dk_at dkB02decX1_8 18 rfl
theorem dX9_init_84 : decode cX9_init 84 = .ok (.aload_n 0, 1) := dk_at dkB02decX1_8 19 rfl
theorem dX9_init_85 : decode cX9_init 85 = .ok (.bipush 24, 2) := dk_at dkB02decX1_8 20 rfl
theorem dX9_init_87 : decode cX9_init 87 = .ok (.newarray .long, 2) := dk_at dkB02decX1_8 21 rfl
theorem dX9_init_89 : decode cX9_init 89 = .ok (.putfield 41, 3) := dk_at dkB02decX1_8 22 rfl
theorem dX9_init_92 : decode cX9_init 92 = .ok (.aload_n 0, 1) := dk_at dkB02decX1_8 23 rfl
theorem dX9_init_93 : decode cX9_init 93 = .ok (.bipush 24, 2) := dk_at dkB02decX1_8 24 rfl
theorem dX9_init_95 : decode cX9_init 95 = .ok (.newarray .int, 2) := dk_at dkB02decX1_8 25 rfl
theorem dX9_init_97 : decode cX9_init 97 = .ok (.putfield 45, 3) := dk_at dkB02decX1_8 26 rfl
theorem dX9_init_100 : decode cX9_init 100 = .ok (.aload_n 0, 1) := dk_at dkB02decX1_8 27 rfl
theorem dX9_init_101 : decode cX9_init 101 = .ok (.bipush 96, 2) := dk_at dkB02decX1_8 28 rfl
theorem dX9_init_103 : decode cX9_init 103 = .ok (.newarray .long, 2) := dk_at dkB02decX1_8 29 rfl
theorem dX9_init_105 : decode cX9_init 105 = .ok (.putfield 48, 3) := dk_at dkB02decX1_8 30 rfl
theorem dX9_init_108 : decode cX9_init 108 = .ok (.aload_n 0, 1) := dk_at dkB02decX1_8 31 rfl
theorem dX9_init_109 : decode cX9_init 109 = .ok (.bipush 96, 2) := dk_at dkB02decX1_8 32 rfl
theorem dX9_init_111 : decode cX9_init 111 = .ok (.newarray .long, 2) := dk_at dkB02decX1_8 33 rfl
theorem dX9_init_113 : decode cX9_init 113 = .ok (.putfield 51, 3) := dk_at dkB02decX1_8 34 rfl
theorem dX9_init_116 : decode cX9_init 116 = .ok (.return_, 1) := dk_at dkB02decX1_8 35 rfl
theorem dX9_lay_0 : decode cX9_lay 0 = .ok (.aload_n 0, 1) := dk_at dkB02decX1_8 36 rfl
theorem dX9_lay_1 : decode cX9_lay 1 = .ok (.aload_n 1, 1) := dk_at dkB02decX1_8 37 rfl
theorem dX9_lay_2 : decode cX9_lay 2 = .ok (.getfield 54, 3) := dk_at dkB02decX1_8 38 rfl
theorem dX9_lay_5 : decode cX9_lay 5 = .ok (.putfield 60, 3) := dk_at dkB02decX1_8 39 rfl
theorem dX9_lay_8 : decode cX9_lay 8 = .ok (.aload_n 0, 1) := dk_at dkB02decX1_8 40 rfl
theorem dX9_lay_9 : decode cX9_lay 9 = .ok (.aload_n 1, 1) := dk_at dkB02decX1_8 41 rfl
theorem dX9_lay_10 : decode cX9_lay 10 = .ok (.invokevirtual 61, 3) := dk_at dkB02decX1_8 42 rfl
theorem dX9_lay_13 : decode cX9_lay 13 = .ok (.iconst 0, 1) := dk_at dkB02decX1_8 43 rfl
theorem dX9_lay_14 : decode cX9_lay 14 = .ok (.istore 4, 2) := dk_at dkB02decX1_8 44 rfl
theorem dX9_lay_16 : decode cX9_lay 16 = .ok (.iload 4, 2) := dk_at dkB02decX1_8 45 rfl
theorem dX9_lay_18 : decode cX9_lay 18 = .ok (.aload_n 1, 1) := dk_at dkB02decX1_8 46 rfl
theorem dX9_lay_19 : decode cX9_lay 19 = .ok (.getfield 65, 3) := dk_at dkB02decX1_8 47 rfl
theorem dX9_lay_22 : decode cX9_lay 22 = .ok (.if_icmp .ge 16, 3) := dk_at dkB02decX1_8 48 rfl
theorem dX9_lay_25 : decode cX9_lay 25 = .ok (.aload_n 0, 1) := dk_at dkB02decX1_8 49 rfl
theorem dX9_lay_26 : decode cX9_lay 26 = .ok (.aload_n 1, 1) := dk_at dkB02decX1_8 50 rfl
theorem dX9_lay_27 : decode cX9_lay 27 = .ok (.iload 4, 2) := dk_at dkB02decX1_8 51 rfl
theorem dX9_lay_29 : decode cX9_lay 29 = .ok (.invokevirtual 68, 3) := dk_at dkB02decX1_8 52 rfl
theorem dX9_lay_32 : decode cX9_lay 32 = .ok (.iinc 4 1, 3) := dk_at dkB02decX1_8 53 rfl
theorem dX9_lay_35 : decode cX9_lay 35 = .ok (.goto (-19), 3) := dk_at dkB02decX1_8 54 rfl
theorem dX9_lay_38 : decode cX9_lay 38 = .ok (.iconst 0, 1) := dk_at dkB02decX1_8 55 rfl
theorem dX9_lay_39 : decode cX9_lay 39 = .ok (.istore 4, 2) := dk_at dkB02decX1_8 56 rfl
theorem dX9_lay_41 : decode cX9_lay 41 = .ok (.iload 4, 2) := dk_at dkB02decX1_8 57 rfl
theorem dX9_lay_43 : decode cX9_lay 43 = .ok (.aload_n 2, 1) := dk_at dkB02decX1_8 58 rfl
theorem dX9_lay_44 : decode cX9_lay 44 = .ok (.getfield 72, 3) := dk_at dkB02decX1_8 59 rfl
noncomputable def dkL02decX1_9 : List (ByteArray × Nat × Instr × Nat) := [(cX9_lay, 47, (.if_icmp .ge 26, 3)), (cX9_lay, 50, (.iload_n 3, 1)), (cX9_lay, 51, (.iload 4, 2)), (cX9_lay, 53, (.ishr, 1)), (cX9_lay, 54, (.iconst 1, 1)), (cX9_lay, 55, (.iand, 1)), (cX9_lay, 56, (.iconst 1, 1)), (cX9_lay, 57, (.if_icmp .ne 10, 3)), (cX9_lay, 60, (.aload_n 0, 1)), (cX9_lay, 61, (.aload_n 2, 1)), (cX9_lay, 62, (.iload 4, 2)), (cX9_lay, 64, (.invokevirtual 77, 3)), (cX9_lay, 67, (.iinc 4 1, 3)), (cX9_lay, 70, (.goto (-29), 3)), (cX9_lay, 73, (.return_, 1)), (cX9_layPlaces, 0, (.aload_n 0, 1)), (cX9_layPlaces, 1, (.iconst 0, 1)), (cX9_layPlaces, 2, (.putfield 81, 3)), (cX9_layPlaces, 5, (.iconst 0, 1)), (cX9_layPlaces, 6, (.istore_n 2, 1)), (cX9_layPlaces, 7, (.iconst 0, 1)), (cX9_layPlaces, 8, (.istore_n 3, 1)), (cX9_layPlaces, 9, (.iload_n 3, 1)), (cX9_layPlaces, 10, (.aload_n 1, 1)), (cX9_layPlaces, 11, (.getfield 84, 3)), (cX9_layPlaces, 14, (.if_icmp .ge 121, 3)), (cX9_layPlaces, 17, (.aload_n 0, 1)), (cX9_layPlaces, 18, (.getfield 15, 3)), (cX9_layPlaces, 21, (.iload_n 3, 1)), (cX9_layPlaces, 22, (.aload_n 0, 1)), (cX9_layPlaces, 23, (.getfield 81, 3)), (cX9_layPlaces, 26, (.iastore, 1)), (cX9_layPlaces, 27, (.aload_n 1, 1)), (cX9_layPlaces, 28, (.iload_n 3, 1)), (cX9_layPlaces, 29, (.invokevirtual 86, 3)), (cX9_layPlaces, 32, (.ifCond .eq 83, 3)), (cX9_layPlaces, 35, (.aload_n 0, 1)), (cX9_layPlaces, 36, (.getfield 9, 3)), (cX9_layPlaces, 39, (.aload_n 0, 1)), (cX9_layPlaces, 40, (.getfield 81, 3)), (cX9_layPlaces, 43, (.iload_n 3, 1)), (cX9_layPlaces, 44, (.iastore, 1)), (cX9_layPlaces, 45, (.aload_n 0, 1)), (cX9_layPlaces, 46, (.getfield 18, 3)), (cX9_layPlaces, 49, (.aload_n 0, 1)), (cX9_layPlaces, 50, (.getfield 81, 3)), (cX9_layPlaces, 53, (.iconst 0, 1)), (cX9_layPlaces, 54, (.iastore, 1)), (cX9_layPlaces, 55, (.aload_n 0, 1)), (cX9_layPlaces, 56, (.getfield 21, 3)), (cX9_layPlaces, 59, (.aload_n 0, 1)), (cX9_layPlaces, 60, (.getfield 81, 3)), (cX9_layPlaces, 63, (.bipush 23, 2)), (cX9_layPlaces, 65, (.iastore, 1)), (cX9_layPlaces, 66, (.aload_n 0, 1)), (cX9_layPlaces, 67, (.getfield 24, 3)), (cX9_layPlaces, 70, (.aload_n 0, 1)), (cX9_layPlaces, 71, (.getfield 81, 3)), (cX9_layPlaces, 74, (.iload_n 2, 1)), (cX9_layPlaces, 75, (.ifCond .eq 7, 3))]
theorem dkB02decX1_9 : dkL02decX1_9.all (fun q => decide (decode q.1 q.2.1 = .ok q.2.2)) = true := by decide +kernel
theorem dX9_lay_47 : decode cX9_lay 47 = .ok (.if_icmp .ge 26, 3) := dk_at dkB02decX1_9 0 rfl
theorem dX9_lay_50 : decode cX9_lay 50 = .ok (.iload_n 3, 1) := dk_at dkB02decX1_9 1 rfl
theorem dX9_lay_51 : decode cX9_lay 51 = .ok (.iload 4, 2) := dk_at dkB02decX1_9 2 rfl
theorem dX9_lay_53 : decode cX9_lay 53 = .ok (.ishr, 1) := dk_at dkB02decX1_9 3 rfl
theorem dX9_lay_54 : decode cX9_lay 54 = .ok (.iconst 1, 1) := dk_at dkB02decX1_9 4 rfl
theorem dX9_lay_55 : decode cX9_lay 55 = .ok (.iand, 1) := dk_at dkB02decX1_9 5 rfl
theorem dX9_lay_56 : decode cX9_lay 56 = .ok (.iconst 1, 1) := dk_at dkB02decX1_9 6 rfl
theorem dX9_lay_57 : decode cX9_lay 57 = .ok (.if_icmp .ne 10, 3) := dk_at dkB02decX1_9 7 rfl
theorem dX9_lay_60 : decode cX9_lay 60 = .ok (.aload_n 0, 1) := dk_at dkB02decX1_9 8 rfl
theorem dX9_lay_61 : decode cX9_lay 61 = .ok (.aload_n 2, 1) := dk_at dkB02decX1_9 9 rfl
theorem dX9_lay_62 : decode cX9_lay 62 = .ok (.iload 4, 2) := dk_at dkB02decX1_9 10 rfl
theorem dX9_lay_64 : decode cX9_lay 64 = .ok (.invokevirtual 77, 3) := dk_at dkB02decX1_9 11 rfl
theorem dX9_lay_67 : decode cX9_lay 67 = .ok (.iinc 4 1, 3) := dk_at dkB02decX1_9 12 rfl
theorem dX9_lay_70 : decode cX9_lay 70 = .ok (.goto (-29), 3) := dk_at dkB02decX1_9 13 rfl
theorem dX9_lay_73 : decode cX9_lay 73 = .ok (.return_, 1) := dk_at dkB02decX1_9 14 rfl
theorem dX9_layPlaces_0 : decode cX9_layPlaces 0 = .ok (.aload_n 0, 1) := dk_at dkB02decX1_9 15 rfl
theorem dX9_layPlaces_1 : decode cX9_layPlaces 1 = .ok (.iconst 0, 1) := dk_at dkB02decX1_9 16 rfl
theorem dX9_layPlaces_2 : decode cX9_layPlaces 2 = .ok (.putfield 81, 3) := dk_at dkB02decX1_9 17 rfl
theorem dX9_layPlaces_5 : decode cX9_layPlaces 5 = .ok (.iconst 0, 1) := dk_at dkB02decX1_9 18 rfl
theorem dX9_layPlaces_6 : decode cX9_layPlaces 6 = .ok (.istore_n 2, 1) := dk_at dkB02decX1_9 19 rfl
theorem dX9_layPlaces_7 : decode cX9_layPlaces 7 = .ok (.iconst 0, 1) := dk_at dkB02decX1_9 20 rfl
theorem dX9_layPlaces_8 : decode cX9_layPlaces 8 = .ok (.istore_n 3, 1) := dk_at dkB02decX1_9 21 rfl
theorem dX9_layPlaces_9 : decode cX9_layPlaces 9 = .ok (.iload_n 3, 1) := dk_at dkB02decX1_9 22 rfl
theorem dX9_layPlaces_10 : decode cX9_layPlaces 10 = .ok (.aload_n 1, 1) := dk_at dkB02decX1_9 23 rfl
theorem dX9_layPlaces_11 : decode cX9_layPlaces 11 = .ok (.getfield 84, 3) := dk_at dkB02decX1_9 24 rfl
theorem dX9_layPlaces_14 : decode cX9_layPlaces 14 = .ok (.if_icmp .ge 121, 3) := dk_at dkB02decX1_9 25 rfl
theorem dX9_layPlaces_17 : decode cX9_layPlaces 17 = .ok (.aload_n 0, 1) := dk_at dkB02decX1_9 26 rfl
theorem dX9_layPlaces_18 : decode cX9_layPlaces 18 = .ok (.getfield 15, 3) := dk_at dkB02decX1_9 27 rfl
theorem dX9_layPlaces_21 : decode cX9_layPlaces 21 = .ok (.iload_n 3, 1) := dk_at dkB02decX1_9 28 rfl
theorem dX9_layPlaces_22 : decode cX9_layPlaces 22 = .ok (.aload_n 0, 1) := dk_at dkB02decX1_9 29 rfl
theorem dX9_layPlaces_23 : decode cX9_layPlaces 23 = .ok (.getfield 81, 3) := dk_at dkB02decX1_9 30 rfl
theorem dX9_layPlaces_26 : decode cX9_layPlaces 26 = .ok (.iastore, 1) := dk_at dkB02decX1_9 31 rfl
theorem dX9_layPlaces_27 : decode cX9_layPlaces 27 = .ok (.aload_n 1, 1) := dk_at dkB02decX1_9 32 rfl
theorem dX9_layPlaces_28 : decode cX9_layPlaces 28 = .ok (.iload_n 3, 1) := dk_at dkB02decX1_9 33 rfl
theorem dX9_layPlaces_29 : decode cX9_layPlaces 29 = .ok (.invokevirtual 86, 3) := dk_at dkB02decX1_9 34 rfl
theorem dX9_layPlaces_32 : decode cX9_layPlaces 32 = .ok (.ifCond .eq 83, 3) := dk_at dkB02decX1_9 35 rfl
theorem dX9_layPlaces_35 : decode cX9_layPlaces 35 = .ok (.aload_n 0, 1) := dk_at dkB02decX1_9 36 rfl
theorem dX9_layPlaces_36 : decode cX9_layPlaces 36 = .ok (.getfield 9, 3) := dk_at dkB02decX1_9 37 rfl
theorem dX9_layPlaces_39 : decode cX9_layPlaces 39 = .ok (.aload_n 0, 1) := dk_at dkB02decX1_9 38 rfl
theorem dX9_layPlaces_40 : decode cX9_layPlaces 40 = .ok (.getfield 81, 3) := dk_at dkB02decX1_9 39 rfl
theorem dX9_layPlaces_43 : decode cX9_layPlaces 43 = .ok (.iload_n 3, 1) := dk_at dkB02decX1_9 40 rfl
theorem dX9_layPlaces_44 : decode cX9_layPlaces 44 = .ok (.iastore, 1) := dk_at dkB02decX1_9 41 rfl
theorem dX9_layPlaces_45 : decode cX9_layPlaces 45 = .ok (.aload_n 0, 1) := dk_at dkB02decX1_9 42 rfl
theorem dX9_layPlaces_46 : decode cX9_layPlaces 46 = .ok (.getfield 18, 3) := dk_at dkB02decX1_9 43 rfl
theorem dX9_layPlaces_49 : decode cX9_layPlaces 49 = .ok (.aload_n 0, 1) := dk_at dkB02decX1_9 44 rfl
theorem dX9_layPlaces_50 : decode cX9_layPlaces 50 = .ok (.getfield 81, 3) := dk_at dkB02decX1_9 45 rfl
theorem dX9_layPlaces_53 : decode cX9_layPlaces 53 = .ok (.iconst 0, 1) := dk_at dkB02decX1_9 46 rfl
theorem dX9_layPlaces_54 : decode cX9_layPlaces 54 = .ok (.iastore, 1) := dk_at dkB02decX1_9 47 rfl
theorem dX9_layPlaces_55 : decode cX9_layPlaces 55 = .ok (.aload_n 0, 1) := dk_at dkB02decX1_9 48 rfl
theorem dX9_layPlaces_56 : decode cX9_layPlaces 56 = .ok (.getfield 21, 3) := dk_at dkB02decX1_9 49 rfl
theorem dX9_layPlaces_59 : decode cX9_layPlaces 59 = .ok (.aload_n 0, 1) := dk_at dkB02decX1_9 50 rfl
theorem dX9_layPlaces_60 : decode cX9_layPlaces 60 = .ok (.getfield 81, 3) := dk_at dkB02decX1_9 51 rfl
theorem dX9_layPlaces_63 : decode cX9_layPlaces 63 = .ok (.bipush 23, 2) := dk_at dkB02decX1_9 52 rfl
theorem dX9_layPlaces_65 : decode cX9_layPlaces 65 = .ok (.iastore, 1) := dk_at dkB02decX1_9 53 rfl
theorem dX9_layPlaces_66 : decode cX9_layPlaces 66 = .ok (.aload_n 0, 1) := dk_at dkB02decX1_9 54 rfl
theorem dX9_layPlaces_67 : decode cX9_layPlaces 67 = .ok (.getfield 24, 3) := dk_at dkB02decX1_9 55 rfl
theorem dX9_layPlaces_70 : decode cX9_layPlaces 70 = .ok (.aload_n 0, 1) := dk_at dkB02decX1_9 56 rfl
theorem dX9_layPlaces_71 : decode cX9_layPlaces 71 = .ok (.getfield 81, 3) := dk_at dkB02decX1_9 57 rfl
theorem dX9_layPlaces_74 : decode cX9_layPlaces 74 = .ok (.iload_n 2, 1) := dk_at dkB02decX1_9 58 rfl
theorem dX9_layPlaces_75 : decode cX9_layPlaces 75 = .ok (.ifCond .eq 7, 3) := dk_at dkB02decX1_9 59 rfl
noncomputable def dkL02decX1_10 : List (ByteArray × Nat × Instr × Nat) := [(cX9_layPlaces, 78, (.iconst 2, 1)), (cX9_layPlaces, 79, (.goto 4, 3)), (cX9_layPlaces, 82, (.iconst 0, 1)), (cX9_layPlaces, 83, (.iastore, 1)), (cX9_layPlaces, 84, (.aload_n 0, 1)), (cX9_layPlaces, 85, (.getfield 27, 3)), (cX9_layPlaces, 88, (.aload_n 0, 1)), (cX9_layPlaces, 89, (.getfield 81, 3)), (cX9_layPlaces, 92, (.bipush 23, 2)), (cX9_layPlaces, 94, (.iastore, 1)), (cX9_layPlaces, 95, (.aload_n 0, 1)), (cX9_layPlaces, 96, (.getfield 30, 3)), (cX9_layPlaces, 99, (.aload_n 0, 1)), (cX9_layPlaces, 100, (.getfield 81, 3)), (cX9_layPlaces, 103, (.iconst 1, 1)), (cX9_layPlaces, 104, (.iastore, 1)), (cX9_layPlaces, 105, (.aload_n 0, 1)), (cX9_layPlaces, 106, (.dup, 1)), (cX9_layPlaces, 107, (.getfield 81, 3)), (cX9_layPlaces, 110, (.iconst 1, 1)), (cX9_layPlaces, 111, (.iadd, 1)), (cX9_layPlaces, 112, (.putfield 81, 3)), (cX9_layPlaces, 115, (.aload_n 1, 1)), (cX9_layPlaces, 116, (.iload_n 3, 1)), (cX9_layPlaces, 117, (.invokevirtual 86, 3)), (cX9_layPlaces, 120, (.ifCond .ne 7, 3)), (cX9_layPlaces, 123, (.iconst 1, 1)), (cX9_layPlaces, 124, (.goto 4, 3)), (cX9_layPlaces, 127, (.iconst 0, 1)), (cX9_layPlaces, 128, (.istore_n 2, 1)), (cX9_layPlaces, 129, (.iinc 3 1, 3)), (cX9_layPlaces, 132, (.goto (-123), 3)), (cX9_layPlaces, 135, (.return_, 1)), (cX9_layStretch, 0, (.aload_n 1, 1)), (cX9_layStretch, 1, (.getfield 90, 3)), (cX9_layStretch, 4, (.iload_n 2, 1)), (cX9_layStretch, 5, (.iaload, 1)), (cX9_layStretch, 6, (.istore_n 3, 1)), (cX9_layStretch, 7, (.iconst 1, 1)), (cX9_layStretch, 8, (.istore 4, 2)), (cX9_layStretch, 10, (.iload 4, 2)), (cX9_layStretch, 12, (.aload_n 0, 1)), (cX9_layStretch, 13, (.getfield 81, 3)), (cX9_layStretch, 16, (.if_icmp .ge 100, 3)), (cX9_layStretch, 19, (.aload_n 0, 1)), (cX9_layStretch, 20, (.getfield 9, 3)), (cX9_layStretch, 23, (.iload 4, 2)), (cX9_layStretch, 25, (.iconst 1, 1)), (cX9_layStretch, 26, (.isub, 1)), (cX9_layStretch, 27, (.iaload, 1)), (cX9_layStretch, 28, (.aload_n 1, 1)), (cX9_layStretch, 29, (.getfield 93, 3)), (cX9_layStretch, 32, (.iload_n 2, 1)), (cX9_layStretch, 33, (.iaload, 1)), (cX9_layStretch, 34, (.if_icmp .lt 76, 3)), (cX9_layStretch, 37, (.aload_n 0, 1)), (cX9_layStretch, 38, (.getfield 9, 3)), (cX9_layStretch, 41, (.iload 4, 2)), (cX9_layStretch, 43, (.iaload, 1)), (cX9_layStretch, 44, (.aload_n 1, 1))]
theorem dkB02decX1_10 : dkL02decX1_10.all (fun q => decide (decode q.1 q.2.1 = .ok q.2.2)) = true := by decide +kernel
theorem dX9_layPlaces_78 : decode cX9_layPlaces 78 = .ok (.iconst 2, 1) := dk_at dkB02decX1_10 0 rfl
theorem dX9_layPlaces_79 : decode cX9_layPlaces 79 = .ok (.goto 4, 3) := dk_at dkB02decX1_10 1 rfl
theorem dX9_layPlaces_82 : decode cX9_layPlaces 82 = .ok (.iconst 0, 1) := dk_at dkB02decX1_10 2 rfl
theorem dX9_layPlaces_83 : decode cX9_layPlaces 83 = .ok (.iastore, 1) := dk_at dkB02decX1_10 3 rfl
theorem dX9_layPlaces_84 : decode cX9_layPlaces 84 = .ok (.aload_n 0, 1) := dk_at dkB02decX1_10 4 rfl
theorem dX9_layPlaces_85 : decode cX9_layPlaces 85 = .ok (.getfield 27, 3) := dk_at dkB02decX1_10 5 rfl
theorem dX9_layPlaces_88 : decode cX9_layPlaces 88 = .ok (.aload_n 0, 1) := dk_at dkB02decX1_10 6 rfl
theorem dX9_layPlaces_89 : decode cX9_layPlaces 89 = .ok (.getfield 81, 3) := dk_at dkB02decX1_10 7 rfl
theorem dX9_layPlaces_92 : decode cX9_layPlaces 92 = .ok (.bipush 23, 2) := dk_at dkB02decX1_10 8 rfl
theorem dX9_layPlaces_94 : decode cX9_layPlaces 94 = .ok (.iastore, 1) := dk_at dkB02decX1_10 9 rfl
theorem dX9_layPlaces_95 : decode cX9_layPlaces 95 = .ok (.aload_n 0, 1) := dk_at dkB02decX1_10 10 rfl
theorem dX9_layPlaces_96 : decode cX9_layPlaces 96 = .ok (.getfield 30, 3) := dk_at dkB02decX1_10 11 rfl
theorem dX9_layPlaces_99 : decode cX9_layPlaces 99 = .ok (.aload_n 0, 1) := dk_at dkB02decX1_10 12 rfl
theorem dX9_layPlaces_100 : decode cX9_layPlaces 100 = .ok (.getfield 81, 3) := dk_at dkB02decX1_10 13 rfl
theorem dX9_layPlaces_103 : decode cX9_layPlaces 103 = .ok (.iconst 1, 1) := dk_at dkB02decX1_10 14 rfl
theorem dX9_layPlaces_104 : decode cX9_layPlaces 104 = .ok (.iastore, 1) := dk_at dkB02decX1_10 15 rfl
theorem dX9_layPlaces_105 : decode cX9_layPlaces 105 = .ok (.aload_n 0, 1) := dk_at dkB02decX1_10 16 rfl
theorem dX9_layPlaces_106 : decode cX9_layPlaces 106 = .ok (.dup, 1) := dk_at dkB02decX1_10 17 rfl
theorem dX9_layPlaces_107 : decode cX9_layPlaces 107 = .ok (.getfield 81, 3) := dk_at dkB02decX1_10 18 rfl
theorem dX9_layPlaces_110 : decode cX9_layPlaces 110 = .ok (.iconst 1, 1) := dk_at dkB02decX1_10 19 rfl
theorem dX9_layPlaces_111 : decode cX9_layPlaces 111 = .ok (.iadd, 1) := dk_at dkB02decX1_10 20 rfl
theorem dX9_layPlaces_112 : decode cX9_layPlaces 112 = .ok (.putfield 81, 3) := dk_at dkB02decX1_10 21 rfl
theorem dX9_layPlaces_115 : decode cX9_layPlaces 115 = .ok (.aload_n 1, 1) := dk_at dkB02decX1_10 22 rfl
theorem dX9_layPlaces_116 : decode cX9_layPlaces 116 = .ok (.iload_n 3, 1) := dk_at dkB02decX1_10 23 rfl
theorem dX9_layPlaces_117 : decode cX9_layPlaces 117 = .ok (.invokevirtual 86, 3) := dk_at dkB02decX1_10 24 rfl
theorem dX9_layPlaces_120 : decode cX9_layPlaces 120 = .ok (.ifCond .ne 7, 3) := dk_at dkB02decX1_10 25 rfl
theorem dX9_layPlaces_123 : decode cX9_layPlaces 123 = .ok (.iconst 1, 1) := dk_at dkB02decX1_10 26 rfl
theorem dX9_layPlaces_124 : decode cX9_layPlaces 124 = .ok (.goto 4, 3) := dk_at dkB02decX1_10 27 rfl
theorem dX9_layPlaces_127 : decode cX9_layPlaces 127 = .ok (.iconst 0, 1) := dk_at dkB02decX1_10 28 rfl
theorem dX9_layPlaces_128 : decode cX9_layPlaces 128 = .ok (.istore_n 2, 1) := dk_at dkB02decX1_10 29 rfl
theorem dX9_layPlaces_129 : decode cX9_layPlaces 129 = .ok (.iinc 3 1, 3) := dk_at dkB02decX1_10 30 rfl
theorem dX9_layPlaces_132 : decode cX9_layPlaces 132 = .ok (.goto (-123), 3) := dk_at dkB02decX1_10 31 rfl
theorem dX9_layPlaces_135 : decode cX9_layPlaces 135 = .ok (.return_, 1) := dk_at dkB02decX1_10 32 rfl
theorem dX9_layStretch_0 : decode cX9_layStretch 0 = .ok (.aload_n 1, 1) := dk_at dkB02decX1_10 33 rfl
theorem dX9_layStretch_1 : decode cX9_layStretch 1 = .ok (.getfield 90, 3) := dk_at dkB02decX1_10 34 rfl
theorem dX9_layStretch_4 : decode cX9_layStretch 4 = .ok (.iload_n 2, 1) := dk_at dkB02decX1_10 35 rfl
theorem dX9_layStretch_5 : decode cX9_layStretch 5 = .ok (.iaload, 1) := dk_at dkB02decX1_10 36 rfl
theorem dX9_layStretch_6 : decode cX9_layStretch 6 = .ok (.istore_n 3, 1) := dk_at dkB02decX1_10 37 rfl
theorem dX9_layStretch_7 : decode cX9_layStretch 7 = .ok (.iconst 1, 1) := dk_at dkB02decX1_10 38 rfl
theorem dX9_layStretch_8 : decode cX9_layStretch 8 = .ok (.istore 4, 2) := dk_at dkB02decX1_10 39 rfl
theorem dX9_layStretch_10 : decode cX9_layStretch 10 = .ok (.iload 4, 2) := dk_at dkB02decX1_10 40 rfl
theorem dX9_layStretch_12 : decode cX9_layStretch 12 = .ok (.aload_n 0, 1) := dk_at dkB02decX1_10 41 rfl
theorem dX9_layStretch_13 : decode cX9_layStretch 13 = .ok (.getfield 81, 3) := dk_at dkB02decX1_10 42 rfl
theorem dX9_layStretch_16 : decode cX9_layStretch 16 = .ok (.if_icmp .ge 100, 3) := dk_at dkB02decX1_10 43 rfl
theorem dX9_layStretch_19 : decode cX9_layStretch 19 = .ok (.aload_n 0, 1) := dk_at dkB02decX1_10 44 rfl
theorem dX9_layStretch_20 : decode cX9_layStretch 20 = .ok (.getfield 9, 3) := dk_at dkB02decX1_10 45 rfl
theorem dX9_layStretch_23 : decode cX9_layStretch 23 = .ok (.iload 4, 2) := dk_at dkB02decX1_10 46 rfl
theorem dX9_layStretch_25 : decode cX9_layStretch 25 = .ok (.iconst 1, 1) := dk_at dkB02decX1_10 47 rfl
theorem dX9_layStretch_26 : decode cX9_layStretch 26 = .ok (.isub, 1) := dk_at dkB02decX1_10 48 rfl
theorem dX9_layStretch_27 : decode cX9_layStretch 27 = .ok (.iaload, 1) := dk_at dkB02decX1_10 49 rfl
theorem dX9_layStretch_28 : decode cX9_layStretch 28 = .ok (.aload_n 1, 1) := dk_at dkB02decX1_10 50 rfl
theorem dX9_layStretch_29 : decode cX9_layStretch 29 = .ok (.getfield 93, 3) := dk_at dkB02decX1_10 51 rfl
theorem dX9_layStretch_32 : decode cX9_layStretch 32 = .ok (.iload_n 2, 1) := dk_at dkB02decX1_10 52 rfl
theorem dX9_layStretch_33 : decode cX9_layStretch 33 = .ok (.iaload, 1) := dk_at dkB02decX1_10 53 rfl
theorem dX9_layStretch_34 : decode cX9_layStretch 34 = .ok (.if_icmp .lt 76, 3) := dk_at dkB02decX1_10 54 rfl
theorem dX9_layStretch_37 : decode cX9_layStretch 37 = .ok (.aload_n 0, 1) := dk_at dkB02decX1_10 55 rfl
theorem dX9_layStretch_38 : decode cX9_layStretch 38 = .ok (.getfield 9, 3) := dk_at dkB02decX1_10 56 rfl
theorem dX9_layStretch_41 : decode cX9_layStretch 41 = .ok (.iload 4, 2) := dk_at dkB02decX1_10 57 rfl
theorem dX9_layStretch_43 : decode cX9_layStretch 43 = .ok (.iaload, 1) := dk_at dkB02decX1_10 58 rfl
theorem dX9_layStretch_44 : decode cX9_layStretch 44 = .ok (.aload_n 1, 1) := dk_at dkB02decX1_10 59 rfl
noncomputable def dkL02decX1_11 : List (ByteArray × Nat × Instr × Nat) := [(cX9_layStretch, 45, (.getfield 96, 3)), (cX9_layStretch, 48, (.iload_n 2, 1)), (cX9_layStretch, 49, (.iaload, 1)), (cX9_layStretch, 50, (.if_icmp .gt 60, 3)), (cX9_layStretch, 53, (.aload_n 1, 1)), (cX9_layStretch, 54, (.getfield 99, 3)), (cX9_layStretch, 57, (.iload_n 2, 1)), (cX9_layStretch, 58, (.iaload, 1)), (cX9_layStretch, 59, (.iconst 2, 1)), (cX9_layStretch, 60, (.if_icmp .ne 24, 3)), (cX9_layStretch, 63, (.aload_n 0, 1)), (cX9_layStretch, 64, (.getfield 24, 3)), (cX9_layStretch, 67, (.iload 4, 2)), (cX9_layStretch, 69, (.aload_n 0, 1)), (cX9_layStretch, 70, (.getfield 24, 3)), (cX9_layStretch, 73, (.iload 4, 2)), (cX9_layStretch, 75, (.iaload, 1)), (cX9_layStretch, 76, (.iload_n 3, 1)), (cX9_layStretch, 77, (.invokestatic 102, 3)), (cX9_layStretch, 80, (.iastore, 1)), (cX9_layStretch, 81, (.goto 29, 3)), (cX9_layStretch, 84, (.aload_n 0, 1)), (cX9_layStretch, 85, (.getfield 27, 3)), (cX9_layStretch, 88, (.iload 4, 2)), (cX9_layStretch, 90, (.iconst 1, 1)), (cX9_layStretch, 91, (.iastore, 1)), (cX9_layStretch, 92, (.aload_n 0, 1)), (cX9_layStretch, 93, (.getfield 30, 3)), (cX9_layStretch, 96, (.iload 4, 2)), (cX9_layStretch, 98, (.aload_n 0, 1)), (cX9_layStretch, 99, (.getfield 30, 3)), (cX9_layStretch, 102, (.iload 4, 2)), (cX9_layStretch, 104, (.iaload, 1)), (cX9_layStretch, 105, (.iload_n 3, 1)), (cX9_layStretch, 106, (.invokestatic 102, 3)), (cX9_layStretch, 109, (.iastore, 1)), (cX9_layStretch, 110, (.iinc 4 1, 3)), (cX9_layStretch, 113, (.goto (-103), 3)), (cX9_layStretch, 116, (.return_, 1)), (cX9_layDate, 0, (.aload_n 0, 1)), (cX9_layDate, 1, (.getfield 15, 3)), (cX9_layDate, 4, (.aload_n 1, 1)), (cX9_layDate, 5, (.getfield 108, 3)), (cX9_layDate, 8, (.iload_n 2, 1)), (cX9_layDate, 9, (.iaload, 1)), (cX9_layDate, 10, (.iaload, 1)), (cX9_layDate, 11, (.istore_n 3, 1)), (cX9_layDate, 12, (.aload_n 0, 1)), (cX9_layDate, 13, (.getfield 18, 3)), (cX9_layDate, 16, (.iload_n 3, 1)), (cX9_layDate, 17, (.aload_n 0, 1)), (cX9_layDate, 18, (.getfield 18, 3)), (cX9_layDate, 21, (.iload_n 3, 1)), (cX9_layDate, 22, (.iaload, 1)), (cX9_layDate, 23, (.aload_n 1, 1)), (cX9_layDate, 24, (.getfield 109, 3)), (cX9_layDate, 27, (.iload_n 2, 1)), (cX9_layDate, 28, (.iaload, 1)), (cX9_layDate, 29, (.invokestatic 102, 3)), (cX9_layDate, 32, (.iastore, 1))]
theorem dkB02decX1_11 : dkL02decX1_11.all (fun q => decide (decode q.1 q.2.1 = .ok q.2.2)) = true := by decide +kernel
theorem dX9_layStretch_45 : decode cX9_layStretch 45 = .ok (.getfield 96, 3) := dk_at dkB02decX1_11 0 rfl
theorem dX9_layStretch_48 : decode cX9_layStretch 48 = .ok (.iload_n 2, 1) := dk_at dkB02decX1_11 1 rfl
theorem dX9_layStretch_49 : decode cX9_layStretch 49 = .ok (.iaload, 1) := dk_at dkB02decX1_11 2 rfl
theorem dX9_layStretch_50 : decode cX9_layStretch 50 = .ok (.if_icmp .gt 60, 3) := dk_at dkB02decX1_11 3 rfl
theorem dX9_layStretch_53 : decode cX9_layStretch 53 = .ok (.aload_n 1, 1) := dk_at dkB02decX1_11 4 rfl
theorem dX9_layStretch_54 : decode cX9_layStretch 54 = .ok (.getfield 99, 3) := dk_at dkB02decX1_11 5 rfl
theorem dX9_layStretch_57 : decode cX9_layStretch 57 = .ok (.iload_n 2, 1) := dk_at dkB02decX1_11 6 rfl
theorem dX9_layStretch_58 : decode cX9_layStretch 58 = .ok (.iaload, 1) := dk_at dkB02decX1_11 7 rfl
theorem dX9_layStretch_59 : decode cX9_layStretch 59 = .ok (.iconst 2, 1) := dk_at dkB02decX1_11 8 rfl
theorem dX9_layStretch_60 : decode cX9_layStretch 60 = .ok (.if_icmp .ne 24, 3) := dk_at dkB02decX1_11 9 rfl
theorem dX9_layStretch_63 : decode cX9_layStretch 63 = .ok (.aload_n 0, 1) := dk_at dkB02decX1_11 10 rfl
theorem dX9_layStretch_64 : decode cX9_layStretch 64 = .ok (.getfield 24, 3) := dk_at dkB02decX1_11 11 rfl
theorem dX9_layStretch_67 : decode cX9_layStretch 67 = .ok (.iload 4, 2) := dk_at dkB02decX1_11 12 rfl
theorem dX9_layStretch_69 : decode cX9_layStretch 69 = .ok (.aload_n 0, 1) := dk_at dkB02decX1_11 13 rfl
theorem dX9_layStretch_70 : decode cX9_layStretch 70 = .ok (.getfield 24, 3) := dk_at dkB02decX1_11 14 rfl
theorem dX9_layStretch_73 : decode cX9_layStretch 73 = .ok (.iload 4, 2) := dk_at dkB02decX1_11 15 rfl
theorem dX9_layStretch_75 : decode cX9_layStretch 75 = .ok (.iaload, 1) := dk_at dkB02decX1_11 16 rfl
theorem dX9_layStretch_76 : decode cX9_layStretch 76 = .ok (.iload_n 3, 1) := dk_at dkB02decX1_11 17 rfl
theorem dX9_layStretch_77 : decode cX9_layStretch 77 = .ok (.invokestatic 102, 3) := dk_at dkB02decX1_11 18 rfl
theorem dX9_layStretch_80 : decode cX9_layStretch 80 = .ok (.iastore, 1) := dk_at dkB02decX1_11 19 rfl
theorem dX9_layStretch_81 : decode cX9_layStretch 81 = .ok (.goto 29, 3) := dk_at dkB02decX1_11 20 rfl
theorem dX9_layStretch_84 : decode cX9_layStretch 84 = .ok (.aload_n 0, 1) := dk_at dkB02decX1_11 21 rfl
theorem dX9_layStretch_85 : decode cX9_layStretch 85 = .ok (.getfield 27, 3) := dk_at dkB02decX1_11 22 rfl
theorem dX9_layStretch_88 : decode cX9_layStretch 88 = .ok (.iload 4, 2) := dk_at dkB02decX1_11 23 rfl
theorem dX9_layStretch_90 : decode cX9_layStretch 90 = .ok (.iconst 1, 1) := dk_at dkB02decX1_11 24 rfl
theorem dX9_layStretch_91 : decode cX9_layStretch 91 = .ok (.iastore, 1) := dk_at dkB02decX1_11 25 rfl
theorem dX9_layStretch_92 : decode cX9_layStretch 92 = .ok (.aload_n 0, 1) := dk_at dkB02decX1_11 26 rfl
theorem dX9_layStretch_93 : decode cX9_layStretch 93 = .ok (.getfield 30, 3) := dk_at dkB02decX1_11 27 rfl
theorem dX9_layStretch_96 : decode cX9_layStretch 96 = .ok (.iload 4, 2) := dk_at dkB02decX1_11 28 rfl
theorem dX9_layStretch_98 : decode cX9_layStretch 98 = .ok (.aload_n 0, 1) := dk_at dkB02decX1_11 29 rfl
theorem dX9_layStretch_99 : decode cX9_layStretch 99 = .ok (.getfield 30, 3) := dk_at dkB02decX1_11 30 rfl
theorem dX9_layStretch_102 : decode cX9_layStretch 102 = .ok (.iload 4, 2) := dk_at dkB02decX1_11 31 rfl
theorem dX9_layStretch_104 : decode cX9_layStretch 104 = .ok (.iaload, 1) := dk_at dkB02decX1_11 32 rfl
theorem dX9_layStretch_105 : decode cX9_layStretch 105 = .ok (.iload_n 3, 1) := dk_at dkB02decX1_11 33 rfl
theorem dX9_layStretch_106 : decode cX9_layStretch 106 = .ok (.invokestatic 102, 3) := dk_at dkB02decX1_11 34 rfl
theorem dX9_layStretch_109 : decode cX9_layStretch 109 = .ok (.iastore, 1) := dk_at dkB02decX1_11 35 rfl
theorem dX9_layStretch_110 : decode cX9_layStretch 110 = .ok (.iinc 4 1, 3) := dk_at dkB02decX1_11 36 rfl
theorem dX9_layStretch_113 : decode cX9_layStretch 113 = .ok (.goto (-103), 3) := dk_at dkB02decX1_11 37 rfl
theorem dX9_layStretch_116 : decode cX9_layStretch 116 = .ok (.return_, 1) := dk_at dkB02decX1_11 38 rfl
theorem dX9_layDate_0 : decode cX9_layDate 0 = .ok (.aload_n 0, 1) := dk_at dkB02decX1_11 39 rfl
theorem dX9_layDate_1 : decode cX9_layDate 1 = .ok (.getfield 15, 3) := dk_at dkB02decX1_11 40 rfl
theorem dX9_layDate_4 : decode cX9_layDate 4 = .ok (.aload_n 1, 1) := dk_at dkB02decX1_11 41 rfl
theorem dX9_layDate_5 : decode cX9_layDate 5 = .ok (.getfield 108, 3) := dk_at dkB02decX1_11 42 rfl
theorem dX9_layDate_8 : decode cX9_layDate 8 = .ok (.iload_n 2, 1) := dk_at dkB02decX1_11 43 rfl
theorem dX9_layDate_9 : decode cX9_layDate 9 = .ok (.iaload, 1) := dk_at dkB02decX1_11 44 rfl
theorem dX9_layDate_10 : decode cX9_layDate 10 = .ok (.iaload, 1) := dk_at dkB02decX1_11 45 rfl
theorem dX9_layDate_11 : decode cX9_layDate 11 = .ok (.istore_n 3, 1) := dk_at dkB02decX1_11 46 rfl
theorem dX9_layDate_12 : decode cX9_layDate 12 = .ok (.aload_n 0, 1) := dk_at dkB02decX1_11 47 rfl
theorem dX9_layDate_13 : decode cX9_layDate 13 = .ok (.getfield 18, 3) := dk_at dkB02decX1_11 48 rfl
theorem dX9_layDate_16 : decode cX9_layDate 16 = .ok (.iload_n 3, 1) := dk_at dkB02decX1_11 49 rfl
theorem dX9_layDate_17 : decode cX9_layDate 17 = .ok (.aload_n 0, 1) := dk_at dkB02decX1_11 50 rfl
theorem dX9_layDate_18 : decode cX9_layDate 18 = .ok (.getfield 18, 3) := dk_at dkB02decX1_11 51 rfl
theorem dX9_layDate_21 : decode cX9_layDate 21 = .ok (.iload_n 3, 1) := dk_at dkB02decX1_11 52 rfl
theorem dX9_layDate_22 : decode cX9_layDate 22 = .ok (.iaload, 1) := dk_at dkB02decX1_11 53 rfl
theorem dX9_layDate_23 : decode cX9_layDate 23 = .ok (.aload_n 1, 1) := dk_at dkB02decX1_11 54 rfl
theorem dX9_layDate_24 : decode cX9_layDate 24 = .ok (.getfield 109, 3) := dk_at dkB02decX1_11 55 rfl
theorem dX9_layDate_27 : decode cX9_layDate 27 = .ok (.iload_n 2, 1) := dk_at dkB02decX1_11 56 rfl
theorem dX9_layDate_28 : decode cX9_layDate 28 = .ok (.iaload, 1) := dk_at dkB02decX1_11 57 rfl
theorem dX9_layDate_29 : decode cX9_layDate 29 = .ok (.invokestatic 102, 3) := dk_at dkB02decX1_11 58 rfl
theorem dX9_layDate_32 : decode cX9_layDate 32 = .ok (.iastore, 1) := dk_at dkB02decX1_11 59 rfl
noncomputable def dkL02decX1_12 : List (ByteArray × Nat × Instr × Nat) := [(cX9_layDate, 33, (.aload_n 1, 1)), (cX9_layDate, 34, (.getfield 112, 3)), (cX9_layDate, 37, (.iload_n 2, 1)), (cX9_layDate, 38, (.iaload, 1)), (cX9_layDate, 39, (.ifCond .ne 24, 3)), (cX9_layDate, 42, (.aload_n 0, 1)), (cX9_layDate, 43, (.getfield 21, 3)), (cX9_layDate, 46, (.iload_n 3, 1)), (cX9_layDate, 47, (.aload_n 0, 1)), (cX9_layDate, 48, (.getfield 21, 3)), (cX9_layDate, 51, (.iload_n 3, 1)), (cX9_layDate, 52, (.iaload, 1)), (cX9_layDate, 53, (.aload_n 1, 1)), (cX9_layDate, 54, (.getfield 115, 3)), (cX9_layDate, 57, (.iload_n 2, 1)), (cX9_layDate, 58, (.iaload, 1)), (cX9_layDate, 59, (.invokestatic 118, 3)), (cX9_layDate, 62, (.iastore, 1)), (cX9_layDate, 63, (.return_, 1)), (cX9_goForward, 0, (.aload_n 0, 1)), (cX9_goForward, 1, (.lconst 0, 1)), (cX9_goForward, 2, (.putfield 121, 3)), (cX9_goForward, 5, (.aload_n 0, 1)), (cX9_goForward, 6, (.getfield 81, 3)), (cX9_goForward, 9, (.ifCond .ne 4, 3)), (cX9_goForward, 12, (.return_, 1)), (cX9_goForward, 13, (.aload_n 0, 1)), (cX9_goForward, 14, (.getfield 35, 3)), (cX9_goForward, 17, (.iconst 0, 1)), (cX9_goForward, 18, (.aaload, 1)), (cX9_goForward, 19, (.lconst 0, 1)), (cX9_goForward, 20, (.invokestatic 125, 3)), (cX9_goForward, 23, (.aload_n 0, 1)), (cX9_goForward, 24, (.aload_n 0, 1)), (cX9_goForward, 25, (.getfield 35, 3)), (cX9_goForward, 28, (.iconst 0, 1)), (cX9_goForward, 29, (.aaload, 1)), (cX9_goForward, 30, (.aload_n 0, 1)), (cX9_goForward, 31, (.getfield 45, 3)), (cX9_goForward, 34, (.invokevirtual 131, 3)), (cX9_goForward, 37, (.iconst 1, 1)), (cX9_goForward, 38, (.istore_n 1, 1)), (cX9_goForward, 39, (.iload_n 1, 1)), (cX9_goForward, 40, (.aload_n 0, 1)), (cX9_goForward, 41, (.getfield 81, 3)), (cX9_goForward, 44, (.if_icmp .ge 42, 3)), (cX9_goForward, 47, (.aload_n 0, 1)), (cX9_goForward, 48, (.getfield 35, 3)), (cX9_goForward, 51, (.iload_n 1, 1)), (cX9_goForward, 52, (.aaload, 1)), (cX9_goForward, 53, (.lconst 0, 1)), (cX9_goForward, 54, (.invokestatic 125, 3)), (cX9_goForward, 57, (.aload_n 0, 1)), (cX9_goForward, 58, (.aload_n 0, 1)), (cX9_goForward, 59, (.getfield 35, 3)), (cX9_goForward, 62, (.iload_n 1, 1)), (cX9_goForward, 63, (.iconst 1, 1)), (cX9_goForward, 64, (.isub, 1)), (cX9_goForward, 65, (.aaload, 1)), (cX9_goForward, 66, (.aload_n 0, 1))]
theorem dkB02decX1_12 : dkL02decX1_12.all (fun q => decide (decode q.1 q.2.1 = .ok q.2.2)) = true := by decide +kernel
theorem dX9_layDate_33 : decode cX9_layDate 33 = .ok (.aload_n 1, 1) := dk_at dkB02decX1_12 0 rfl
theorem dX9_layDate_34 : decode cX9_layDate 34 = .ok (.getfield 112, 3) := dk_at dkB02decX1_12 1 rfl
theorem dX9_layDate_37 : decode cX9_layDate 37 = .ok (.iload_n 2, 1) := dk_at dkB02decX1_12 2 rfl
theorem dX9_layDate_38 : decode cX9_layDate 38 = .ok (.iaload, 1) := dk_at dkB02decX1_12 3 rfl
theorem dX9_layDate_39 : decode cX9_layDate 39 = .ok (.ifCond .ne 24, 3) := dk_at dkB02decX1_12 4 rfl
theorem dX9_layDate_42 : decode cX9_layDate 42 = .ok (.aload_n 0, 1) := dk_at dkB02decX1_12 5 rfl
theorem dX9_layDate_43 : decode cX9_layDate 43 = .ok (.getfield 21, 3) := dk_at dkB02decX1_12 6 rfl
theorem dX9_layDate_46 : decode cX9_layDate 46 = .ok (.iload_n 3, 1) := dk_at dkB02decX1_12 7 rfl
theorem dX9_layDate_47 : decode cX9_layDate 47 = .ok (.aload_n 0, 1) := dk_at dkB02decX1_12 8 rfl
theorem dX9_layDate_48 : decode cX9_layDate 48 = .ok (.getfield 21, 3) := dk_at dkB02decX1_12 9 rfl
theorem dX9_layDate_51 : decode cX9_layDate 51 = .ok (.iload_n 3, 1) := dk_at dkB02decX1_12 10 rfl
theorem dX9_layDate_52 : decode cX9_layDate 52 = .ok (.iaload, 1) := dk_at dkB02decX1_12 11 rfl
theorem dX9_layDate_53 : decode cX9_layDate 53 = .ok (.aload_n 1, 1) := dk_at dkB02decX1_12 12 rfl
theorem dX9_layDate_54 : decode cX9_layDate 54 = .ok (.getfield 115, 3) := dk_at dkB02decX1_12 13 rfl
theorem dX9_layDate_57 : decode cX9_layDate 57 = .ok (.iload_n 2, 1) := dk_at dkB02decX1_12 14 rfl
theorem dX9_layDate_58 : decode cX9_layDate 58 = .ok (.iaload, 1) := dk_at dkB02decX1_12 15 rfl
theorem dX9_layDate_59 : decode cX9_layDate 59 = .ok (.invokestatic 118, 3) := dk_at dkB02decX1_12 16 rfl
theorem dX9_layDate_62 : decode cX9_layDate 62 = .ok (.iastore, 1) := dk_at dkB02decX1_12 17 rfl
theorem dX9_layDate_63 : decode cX9_layDate 63 = .ok (.return_, 1) := dk_at dkB02decX1_12 18 rfl
theorem dX9_goForward_0 : decode cX9_goForward 0 = .ok (.aload_n 0, 1) := dk_at dkB02decX1_12 19 rfl
theorem dX9_goForward_1 : decode cX9_goForward 1 = .ok (.lconst 0, 1) := dk_at dkB02decX1_12 20 rfl
theorem dX9_goForward_2 : decode cX9_goForward 2 = .ok (.putfield 121, 3) := dk_at dkB02decX1_12 21 rfl
theorem dX9_goForward_5 : decode cX9_goForward 5 = .ok (.aload_n 0, 1) := dk_at dkB02decX1_12 22 rfl
theorem dX9_goForward_6 : decode cX9_goForward 6 = .ok (.getfield 81, 3) := dk_at dkB02decX1_12 23 rfl
theorem dX9_goForward_9 : decode cX9_goForward 9 = .ok (.ifCond .ne 4, 3) := dk_at dkB02decX1_12 24 rfl
theorem dX9_goForward_12 : decode cX9_goForward 12 = .ok (.return_, 1) := dk_at dkB02decX1_12 25 rfl
theorem dX9_goForward_13 : decode cX9_goForward 13 = .ok (.aload_n 0, 1) := dk_at dkB02decX1_12 26 rfl
theorem dX9_goForward_14 : decode cX9_goForward 14 = .ok (.getfield 35, 3) := dk_at dkB02decX1_12 27 rfl
theorem dX9_goForward_17 : decode cX9_goForward 17 = .ok (.iconst 0, 1) := dk_at dkB02decX1_12 28 rfl
theorem dX9_goForward_18 : decode cX9_goForward 18 = .ok (.aaload, 1) := dk_at dkB02decX1_12 29 rfl
theorem dX9_goForward_19 : decode cX9_goForward 19 = .ok (.lconst 0, 1) := dk_at dkB02decX1_12 30 rfl
theorem dX9_goForward_20 : decode cX9_goForward 20 = .ok (.invokestatic 125, 3) := dk_at dkB02decX1_12 31 rfl
theorem dX9_goForward_23 : decode cX9_goForward 23 = .ok (.aload_n 0, 1) := dk_at dkB02decX1_12 32 rfl
theorem dX9_goForward_24 : decode cX9_goForward 24 = .ok (.aload_n 0, 1) := dk_at dkB02decX1_12 33 rfl
theorem dX9_goForward_25 : decode cX9_goForward 25 = .ok (.getfield 35, 3) := dk_at dkB02decX1_12 34 rfl
theorem dX9_goForward_28 : decode cX9_goForward 28 = .ok (.iconst 0, 1) := dk_at dkB02decX1_12 35 rfl
theorem dX9_goForward_29 : decode cX9_goForward 29 = .ok (.aaload, 1) := dk_at dkB02decX1_12 36 rfl
theorem dX9_goForward_30 : decode cX9_goForward 30 = .ok (.aload_n 0, 1) := dk_at dkB02decX1_12 37 rfl
theorem dX9_goForward_31 : decode cX9_goForward 31 = .ok (.getfield 45, 3) := dk_at dkB02decX1_12 38 rfl
theorem dX9_goForward_34 : decode cX9_goForward 34 = .ok (.invokevirtual 131, 3) := dk_at dkB02decX1_12 39 rfl
theorem dX9_goForward_37 : decode cX9_goForward 37 = .ok (.iconst 1, 1) := dk_at dkB02decX1_12 40 rfl
theorem dX9_goForward_38 : decode cX9_goForward 38 = .ok (.istore_n 1, 1) := dk_at dkB02decX1_12 41 rfl
theorem dX9_goForward_39 : decode cX9_goForward 39 = .ok (.iload_n 1, 1) := dk_at dkB02decX1_12 42 rfl
theorem dX9_goForward_40 : decode cX9_goForward 40 = .ok (.aload_n 0, 1) := dk_at dkB02decX1_12 43 rfl
theorem dX9_goForward_41 : decode cX9_goForward 41 = .ok (.getfield 81, 3) := dk_at dkB02decX1_12 44 rfl
theorem dX9_goForward_44 : decode cX9_goForward 44 = .ok (.if_icmp .ge 42, 3) := dk_at dkB02decX1_12 45 rfl
theorem dX9_goForward_47 : decode cX9_goForward 47 = .ok (.aload_n 0, 1) := dk_at dkB02decX1_12 46 rfl
theorem dX9_goForward_48 : decode cX9_goForward 48 = .ok (.getfield 35, 3) := dk_at dkB02decX1_12 47 rfl
theorem dX9_goForward_51 : decode cX9_goForward 51 = .ok (.iload_n 1, 1) := dk_at dkB02decX1_12 48 rfl
theorem dX9_goForward_52 : decode cX9_goForward 52 = .ok (.aaload, 1) := dk_at dkB02decX1_12 49 rfl
theorem dX9_goForward_53 : decode cX9_goForward 53 = .ok (.lconst 0, 1) := dk_at dkB02decX1_12 50 rfl
theorem dX9_goForward_54 : decode cX9_goForward 54 = .ok (.invokestatic 125, 3) := dk_at dkB02decX1_12 51 rfl
theorem dX9_goForward_57 : decode cX9_goForward 57 = .ok (.aload_n 0, 1) := dk_at dkB02decX1_12 52 rfl
theorem dX9_goForward_58 : decode cX9_goForward 58 = .ok (.aload_n 0, 1) := dk_at dkB02decX1_12 53 rfl
theorem dX9_goForward_59 : decode cX9_goForward 59 = .ok (.getfield 35, 3) := dk_at dkB02decX1_12 54 rfl
theorem dX9_goForward_62 : decode cX9_goForward 62 = .ok (.iload_n 1, 1) := dk_at dkB02decX1_12 55 rfl
theorem dX9_goForward_63 : decode cX9_goForward 63 = .ok (.iconst 1, 1) := dk_at dkB02decX1_12 56 rfl
theorem dX9_goForward_64 : decode cX9_goForward 64 = .ok (.isub, 1) := dk_at dkB02decX1_12 57 rfl
theorem dX9_goForward_65 : decode cX9_goForward 65 = .ok (.aaload, 1) := dk_at dkB02decX1_12 58 rfl
theorem dX9_goForward_66 : decode cX9_goForward 66 = .ok (.aload_n 0, 1) := dk_at dkB02decX1_12 59 rfl
noncomputable def dkL02decX1_13 : List (ByteArray × Nat × Instr × Nat) := [(cX9_goForward, 67, (.getfield 35, 3)), (cX9_goForward, 70, (.iload_n 1, 1)), (cX9_goForward, 71, (.aaload, 1)), (cX9_goForward, 72, (.iload_n 1, 1)), (cX9_goForward, 73, (.aload_n 0, 1)), (cX9_goForward, 74, (.getfield 45, 3)), (cX9_goForward, 77, (.invokevirtual 135, 3)), (cX9_goForward, 80, (.iinc 1 1, 3)), (cX9_goForward, 83, (.goto (-44), 3)), (cX9_goForward, 86, (.iconst 0, 1)), (cX9_goForward, 87, (.istore_n 1, 1)), (cX9_goForward, 88, (.iload_n 1, 1)), (cX9_goForward, 89, (.bipush 96, 2)), (cX9_goForward, 91, (.if_icmp .ge 31, 3)), (cX9_goForward, 94, (.aload_n 0, 1)), (cX9_goForward, 95, (.dup, 1)), (cX9_goForward, 96, (.getfield 121, 3)), (cX9_goForward, 99, (.aload_n 0, 1)), (cX9_goForward, 100, (.getfield 35, 3)), (cX9_goForward, 103, (.aload_n 0, 1)), (cX9_goForward, 104, (.getfield 81, 3)), (cX9_goForward, 107, (.iconst 1, 1)), (cX9_goForward, 108, (.isub, 1)), (cX9_goForward, 109, (.aaload, 1)), (cX9_goForward, 110, (.iload_n 1, 1)), (cX9_goForward, 111, (.laload, 1)), (cX9_goForward, 112, (.ladd, 1)), (cX9_goForward, 113, (.putfield 121, 3)), (cX9_goForward, 116, (.iinc 1 1, 3)), (cX9_goForward, 119, (.goto (-31), 3)), (cX9_goForward, 122, (.return_, 1)), (cX9_start, 0, (.aload_n 0, 1)), (cX9_start, 1, (.getfield 18, 3)), (cX9_start, 4, (.iconst 0, 1)), (cX9_start, 5, (.iaload, 1)), (cX9_start, 6, (.istore_n 3, 1)), (cX9_start, 7, (.iload_n 3, 1)), (cX9_start, 8, (.aload_n 0, 1)), (cX9_start, 9, (.getfield 21, 3)), (cX9_start, 12, (.iconst 0, 1)), (cX9_start, 13, (.iaload, 1)), (cX9_start, 14, (.if_icmp .gt 22, 3)), (cX9_start, 17, (.aload_n 1, 1)), (cX9_start, 18, (.aload_n 2, 1)), (cX9_start, 19, (.iload_n 3, 1)), (cX9_start, 20, (.iaload, 1)), (cX9_start, 21, (.bipush 96, 2)), (cX9_start, 23, (.imul, 1)), (cX9_start, 24, (.iload_n 3, 1)), (cX9_start, 25, (.iconst 4, 1)), (cX9_start, 26, (.imul, 1)), (cX9_start, 27, (.iadd, 1)), (cX9_start, 28, (.lconst 1, 1)), (cX9_start, 29, (.lastore, 1)), (cX9_start, 30, (.iinc 3 1, 3)), (cX9_start, 33, (.goto (-26), 3)), (cX9_start, 36, (.return_, 1)), (cX9_advance, 0, (.iconst 1, 1)), (cX9_advance, 1, (.aload_n 0, 1)), (cX9_advance, 2, (.getfield 24, 3))]
theorem dkB02decX1_13 : dkL02decX1_13.all (fun q => decide (decode q.1 q.2.1 = .ok q.2.2)) = true := by decide +kernel
theorem dX9_goForward_67 : decode cX9_goForward 67 = .ok (.getfield 35, 3) := dk_at dkB02decX1_13 0 rfl
theorem dX9_goForward_70 : decode cX9_goForward 70 = .ok (.iload_n 1, 1) := dk_at dkB02decX1_13 1 rfl
theorem dX9_goForward_71 : decode cX9_goForward 71 = .ok (.aaload, 1) := dk_at dkB02decX1_13 2 rfl
theorem dX9_goForward_72 : decode cX9_goForward 72 = .ok (.iload_n 1, 1) := dk_at dkB02decX1_13 3 rfl
theorem dX9_goForward_73 : decode cX9_goForward 73 = .ok (.aload_n 0, 1) := dk_at dkB02decX1_13 4 rfl
theorem dX9_goForward_74 : decode cX9_goForward 74 = .ok (.getfield 45, 3) := dk_at dkB02decX1_13 5 rfl
theorem dX9_goForward_77 : decode cX9_goForward 77 = .ok (.invokevirtual 135, 3) := dk_at dkB02decX1_13 6 rfl
theorem dX9_goForward_80 : decode cX9_goForward 80 = .ok (.iinc 1 1, 3) := dk_at dkB02decX1_13 7 rfl
theorem dX9_goForward_83 : decode cX9_goForward 83 = .ok (.goto (-44), 3) := dk_at dkB02decX1_13 8 rfl
theorem dX9_goForward_86 : decode cX9_goForward 86 = .ok (.iconst 0, 1) := dk_at dkB02decX1_13 9 rfl
theorem dX9_goForward_87 : decode cX9_goForward 87 = .ok (.istore_n 1, 1) := dk_at dkB02decX1_13 10 rfl
theorem dX9_goForward_88 : decode cX9_goForward 88 = .ok (.iload_n 1, 1) := dk_at dkB02decX1_13 11 rfl
theorem dX9_goForward_89 : decode cX9_goForward 89 = .ok (.bipush 96, 2) := dk_at dkB02decX1_13 12 rfl
theorem dX9_goForward_91 : decode cX9_goForward 91 = .ok (.if_icmp .ge 31, 3) := dk_at dkB02decX1_13 13 rfl
theorem dX9_goForward_94 : decode cX9_goForward 94 = .ok (.aload_n 0, 1) := dk_at dkB02decX1_13 14 rfl
theorem dX9_goForward_95 : decode cX9_goForward 95 = .ok (.dup, 1) := dk_at dkB02decX1_13 15 rfl
theorem dX9_goForward_96 : decode cX9_goForward 96 = .ok (.getfield 121, 3) := dk_at dkB02decX1_13 16 rfl
theorem dX9_goForward_99 : decode cX9_goForward 99 = .ok (.aload_n 0, 1) := dk_at dkB02decX1_13 17 rfl
theorem dX9_goForward_100 : decode cX9_goForward 100 = .ok (.getfield 35, 3) := dk_at dkB02decX1_13 18 rfl
theorem dX9_goForward_103 : decode cX9_goForward 103 = .ok (.aload_n 0, 1) := dk_at dkB02decX1_13 19 rfl
theorem dX9_goForward_104 : decode cX9_goForward 104 = .ok (.getfield 81, 3) := dk_at dkB02decX1_13 20 rfl
theorem dX9_goForward_107 : decode cX9_goForward 107 = .ok (.iconst 1, 1) := dk_at dkB02decX1_13 21 rfl
theorem dX9_goForward_108 : decode cX9_goForward 108 = .ok (.isub, 1) := dk_at dkB02decX1_13 22 rfl
theorem dX9_goForward_109 : decode cX9_goForward 109 = .ok (.aaload, 1) := dk_at dkB02decX1_13 23 rfl
theorem dX9_goForward_110 : decode cX9_goForward 110 = .ok (.iload_n 1, 1) := dk_at dkB02decX1_13 24 rfl
theorem dX9_goForward_111 : decode cX9_goForward 111 = .ok (.laload, 1) := dk_at dkB02decX1_13 25 rfl
theorem dX9_goForward_112 : decode cX9_goForward 112 = .ok (.ladd, 1) := dk_at dkB02decX1_13 26 rfl
theorem dX9_goForward_113 : decode cX9_goForward 113 = .ok (.putfield 121, 3) := dk_at dkB02decX1_13 27 rfl
theorem dX9_goForward_116 : decode cX9_goForward 116 = .ok (.iinc 1 1, 3) := dk_at dkB02decX1_13 28 rfl
theorem dX9_goForward_119 : decode cX9_goForward 119 = .ok (.goto (-31), 3) := dk_at dkB02decX1_13 29 rfl
theorem dX9_goForward_122 : decode cX9_goForward 122 = .ok (.return_, 1) := dk_at dkB02decX1_13 30 rfl
theorem dX9_start_0 : decode cX9_start 0 = .ok (.aload_n 0, 1) := dk_at dkB02decX1_13 31 rfl
theorem dX9_start_1 : decode cX9_start 1 = .ok (.getfield 18, 3) := dk_at dkB02decX1_13 32 rfl
theorem dX9_start_4 : decode cX9_start 4 = .ok (.iconst 0, 1) := dk_at dkB02decX1_13 33 rfl
theorem dX9_start_5 : decode cX9_start 5 = .ok (.iaload, 1) := dk_at dkB02decX1_13 34 rfl
theorem dX9_start_6 : decode cX9_start 6 = .ok (.istore_n 3, 1) := dk_at dkB02decX1_13 35 rfl
theorem dX9_start_7 : decode cX9_start 7 = .ok (.iload_n 3, 1) := dk_at dkB02decX1_13 36 rfl
theorem dX9_start_8 : decode cX9_start 8 = .ok (.aload_n 0, 1) := dk_at dkB02decX1_13 37 rfl
theorem dX9_start_9 : decode cX9_start 9 = .ok (.getfield 21, 3) := dk_at dkB02decX1_13 38 rfl
theorem dX9_start_12 : decode cX9_start 12 = .ok (.iconst 0, 1) := dk_at dkB02decX1_13 39 rfl
theorem dX9_start_13 : decode cX9_start 13 = .ok (.iaload, 1) := dk_at dkB02decX1_13 40 rfl
theorem dX9_start_14 : decode cX9_start 14 = .ok (.if_icmp .gt 22, 3) := dk_at dkB02decX1_13 41 rfl
theorem dX9_start_17 : decode cX9_start 17 = .ok (.aload_n 1, 1) := dk_at dkB02decX1_13 42 rfl
theorem dX9_start_18 : decode cX9_start 18 = .ok (.aload_n 2, 1) := dk_at dkB02decX1_13 43 rfl
theorem dX9_start_19 : decode cX9_start 19 = .ok (.iload_n 3, 1) := dk_at dkB02decX1_13 44 rfl
theorem dX9_start_20 : decode cX9_start 20 = .ok (.iaload, 1) := dk_at dkB02decX1_13 45 rfl
theorem dX9_start_21 : decode cX9_start 21 = .ok (.bipush 96, 2) := dk_at dkB02decX1_13 46 rfl
theorem dX9_start_23 : decode cX9_start 23 = .ok (.imul, 1) := dk_at dkB02decX1_13 47 rfl
theorem dX9_start_24 : decode cX9_start 24 = .ok (.iload_n 3, 1) := dk_at dkB02decX1_13 48 rfl
theorem dX9_start_25 : decode cX9_start 25 = .ok (.iconst 4, 1) := dk_at dkB02decX1_13 49 rfl
theorem dX9_start_26 : decode cX9_start 26 = .ok (.imul, 1) := dk_at dkB02decX1_13 50 rfl
theorem dX9_start_27 : decode cX9_start 27 = .ok (.iadd, 1) := dk_at dkB02decX1_13 51 rfl
theorem dX9_start_28 : decode cX9_start 28 = .ok (.lconst 1, 1) := dk_at dkB02decX1_13 52 rfl
theorem dX9_start_29 : decode cX9_start 29 = .ok (.lastore, 1) := dk_at dkB02decX1_13 53 rfl
theorem dX9_start_30 : decode cX9_start 30 = .ok (.iinc 3 1, 3) := dk_at dkB02decX1_13 54 rfl
theorem dX9_start_33 : decode cX9_start 33 = .ok (.goto (-26), 3) := dk_at dkB02decX1_13 55 rfl
theorem dX9_start_36 : decode cX9_start 36 = .ok (.return_, 1) := dk_at dkB02decX1_13 56 rfl
theorem dX9_advance_0 : decode cX9_advance 0 = .ok (.iconst 1, 1) := dk_at dkB02decX1_13 57 rfl
theorem dX9_advance_1 : decode cX9_advance 1 = .ok (.aload_n 0, 1) := dk_at dkB02decX1_13 58 rfl
theorem dX9_advance_2 : decode cX9_advance 2 = .ok (.getfield 24, 3) := dk_at dkB02decX1_13 59 rfl
noncomputable def dkL02decX1_14 : List (ByteArray × Nat × Instr × Nat) := [(cX9_advance, 5, (.iload_n 3, 1)), (cX9_advance, 6, (.iaload, 1)), (cX9_advance, 7, (.invokestatic 102, 3)), (cX9_advance, 10, (.istore 5, 2)), (cX9_advance, 12, (.iload 5, 2)), (cX9_advance, 14, (.aload_n 0, 1)), (cX9_advance, 15, (.getfield 27, 3)), (cX9_advance, 18, (.iload_n 3, 1)), (cX9_advance, 19, (.iaload, 1)), (cX9_advance, 20, (.if_icmp .gt 7, 3)), (cX9_advance, 23, (.iconst 1, 1)), (cX9_advance, 24, (.goto 4, 3)), (cX9_advance, 27, (.iconst 0, 1)), (cX9_advance, 28, (.istore 6, 2)), (cX9_advance, 30, (.lconst 0, 1)), (cX9_advance, 31, (.lstore 7, 2)), (cX9_advance, 33, (.aload_n 1, 1)), (cX9_advance, 34, (.invokestatic 139, 3)), (cX9_advance, 37, (.istore 9, 2)), (cX9_advance, 39, (.iload 9, 2)), (cX9_advance, 41, (.aload_n 0, 1)), (cX9_advance, 42, (.getfield 21, 3)), (cX9_advance, 45, (.iload_n 3, 1)), (cX9_advance, 46, (.iaload, 1)), (cX9_advance, 47, (.if_icmp .gt 131, 3)), (cX9_advance, 50, (.iload 6, 2)), (cX9_advance, 52, (.ifCond .eq 37, 3)), (cX9_advance, 55, (.lload 7, 2)), (cX9_advance, 57, (.aload_n 0, 1)), (cX9_advance, 58, (.aload_n 1, 1)), (cX9_advance, 59, (.iload 9, 2)), (cX9_advance, 61, (.iload 5, 2)), (cX9_advance, 63, (.isub, 1)), (cX9_advance, 64, (.iload_n 3, 1)), (cX9_advance, 65, (.invokevirtual 143, 3)), (cX9_advance, 68, (.aload_n 0, 1)), (cX9_advance, 69, (.aload_n 1, 1)), (cX9_advance, 70, (.iload 9, 2)), (cX9_advance, 72, (.aload_n 0, 1)), (cX9_advance, 73, (.getfield 27, 3)), (cX9_advance, 76, (.iload_n 3, 1)), (cX9_advance, 77, (.iaload, 1)), (cX9_advance, 78, (.isub, 1)), (cX9_advance, 79, (.iconst 1, 1)), (cX9_advance, 80, (.isub, 1)), (cX9_advance, 81, (.iload_n 3, 1)), (cX9_advance, 82, (.invokevirtual 143, 3)), (cX9_advance, 85, (.lsub, 1)), (cX9_advance, 86, (.ladd, 1)), (cX9_advance, 87, (.lstore 7, 2)), (cX9_advance, 89, (.iload 9, 2)), (cX9_advance, 91, (.aload_n 0, 1)), (cX9_advance, 92, (.getfield 18, 3)), (cX9_advance, 95, (.iload_n 3, 1)), (cX9_advance, 96, (.iaload, 1)), (cX9_advance, 97, (.if_icmp .lt 75, 3)), (cX9_advance, 100, (.aload 4, 2)), (cX9_advance, 102, (.iload 9, 2)), (cX9_advance, 104, (.iaload, 1)), (cX9_advance, 105, (.bipush 96, 2))]
theorem dkB02decX1_14 : dkL02decX1_14.all (fun q => decide (decode q.1 q.2.1 = .ok q.2.2)) = true := by decide +kernel
theorem dX9_advance_5 : decode cX9_advance 5 = .ok (.iload_n 3, 1) := dk_at dkB02decX1_14 0 rfl
theorem dX9_advance_6 : decode cX9_advance 6 = .ok (.iaload, 1) := dk_at dkB02decX1_14 1 rfl
theorem dX9_advance_7 : decode cX9_advance 7 = .ok (.invokestatic 102, 3) := dk_at dkB02decX1_14 2 rfl
theorem dX9_advance_10 : decode cX9_advance 10 = .ok (.istore 5, 2) := dk_at dkB02decX1_14 3 rfl
theorem dX9_advance_12 : decode cX9_advance 12 = .ok (.iload 5, 2) := dk_at dkB02decX1_14 4 rfl
theorem dX9_advance_14 : decode cX9_advance 14 = .ok (.aload_n 0, 1) := dk_at dkB02decX1_14 5 rfl
theorem dX9_advance_15 : decode cX9_advance 15 = .ok (.getfield 27, 3) := dk_at dkB02decX1_14 6 rfl
theorem dX9_advance_18 : decode cX9_advance 18 = .ok (.iload_n 3, 1) := dk_at dkB02decX1_14 7 rfl
theorem dX9_advance_19 : decode cX9_advance 19 = .ok (.iaload, 1) := dk_at dkB02decX1_14 8 rfl
theorem dX9_advance_20 : decode cX9_advance 20 = .ok (.if_icmp .gt 7, 3) := dk_at dkB02decX1_14 9 rfl
theorem dX9_advance_23 : decode cX9_advance 23 = .ok (.iconst 1, 1) := dk_at dkB02decX1_14 10 rfl
theorem dX9_advance_24 : decode cX9_advance 24 = .ok (.goto 4, 3) := dk_at dkB02decX1_14 11 rfl
theorem dX9_advance_27 : decode cX9_advance 27 = .ok (.iconst 0, 1) := dk_at dkB02decX1_14 12 rfl
theorem dX9_advance_28 : decode cX9_advance 28 = .ok (.istore 6, 2) := dk_at dkB02decX1_14 13 rfl
theorem dX9_advance_30 : decode cX9_advance 30 = .ok (.lconst 0, 1) := dk_at dkB02decX1_14 14 rfl
theorem dX9_advance_31 : decode cX9_advance 31 = .ok (.lstore 7, 2) := dk_at dkB02decX1_14 15 rfl
theorem dX9_advance_33 : decode cX9_advance 33 = .ok (.aload_n 1, 1) := dk_at dkB02decX1_14 16 rfl
theorem dX9_advance_34 : decode cX9_advance 34 = .ok (.invokestatic 139, 3) := dk_at dkB02decX1_14 17 rfl
theorem dX9_advance_37 : decode cX9_advance 37 = .ok (.istore 9, 2) := dk_at dkB02decX1_14 18 rfl
theorem dX9_advance_39 : decode cX9_advance 39 = .ok (.iload 9, 2) := dk_at dkB02decX1_14 19 rfl
theorem dX9_advance_41 : decode cX9_advance 41 = .ok (.aload_n 0, 1) := dk_at dkB02decX1_14 20 rfl
theorem dX9_advance_42 : decode cX9_advance 42 = .ok (.getfield 21, 3) := dk_at dkB02decX1_14 21 rfl
theorem dX9_advance_45 : decode cX9_advance 45 = .ok (.iload_n 3, 1) := dk_at dkB02decX1_14 22 rfl
theorem dX9_advance_46 : decode cX9_advance 46 = .ok (.iaload, 1) := dk_at dkB02decX1_14 23 rfl
theorem dX9_advance_47 : decode cX9_advance 47 = .ok (.if_icmp .gt 131, 3) := dk_at dkB02decX1_14 24 rfl
theorem dX9_advance_50 : decode cX9_advance 50 = .ok (.iload 6, 2) := dk_at dkB02decX1_14 25 rfl
theorem dX9_advance_52 : decode cX9_advance 52 = .ok (.ifCond .eq 37, 3) := dk_at dkB02decX1_14 26 rfl
theorem dX9_advance_55 : decode cX9_advance 55 = .ok (.lload 7, 2) := dk_at dkB02decX1_14 27 rfl
theorem dX9_advance_57 : decode cX9_advance 57 = .ok (.aload_n 0, 1) := dk_at dkB02decX1_14 28 rfl
theorem dX9_advance_58 : decode cX9_advance 58 = .ok (.aload_n 1, 1) := dk_at dkB02decX1_14 29 rfl
theorem dX9_advance_59 : decode cX9_advance 59 = .ok (.iload 9, 2) := dk_at dkB02decX1_14 30 rfl
theorem dX9_advance_61 : decode cX9_advance 61 = .ok (.iload 5, 2) := dk_at dkB02decX1_14 31 rfl
theorem dX9_advance_63 : decode cX9_advance 63 = .ok (.isub, 1) := dk_at dkB02decX1_14 32 rfl
theorem dX9_advance_64 : decode cX9_advance 64 = .ok (.iload_n 3, 1) := dk_at dkB02decX1_14 33 rfl
theorem dX9_advance_65 : decode cX9_advance 65 = .ok (.invokevirtual 143, 3) := dk_at dkB02decX1_14 34 rfl
theorem dX9_advance_68 : decode cX9_advance 68 = .ok (.aload_n 0, 1) := dk_at dkB02decX1_14 35 rfl
theorem dX9_advance_69 : decode cX9_advance 69 = .ok (.aload_n 1, 1) := dk_at dkB02decX1_14 36 rfl
theorem dX9_advance_70 : decode cX9_advance 70 = .ok (.iload 9, 2) := dk_at dkB02decX1_14 37 rfl
theorem dX9_advance_72 : decode cX9_advance 72 = .ok (.aload_n 0, 1) := dk_at dkB02decX1_14 38 rfl
theorem dX9_advance_73 : decode cX9_advance 73 = .ok (.getfield 27, 3) := dk_at dkB02decX1_14 39 rfl
theorem dX9_advance_76 : decode cX9_advance 76 = .ok (.iload_n 3, 1) := dk_at dkB02decX1_14 40 rfl
theorem dX9_advance_77 : decode cX9_advance 77 = .ok (.iaload, 1) := dk_at dkB02decX1_14 41 rfl
theorem dX9_advance_78 : decode cX9_advance 78 = .ok (.isub, 1) := dk_at dkB02decX1_14 42 rfl
theorem dX9_advance_79 : decode cX9_advance 79 = .ok (.iconst 1, 1) := dk_at dkB02decX1_14 43 rfl
theorem dX9_advance_80 : decode cX9_advance 80 = .ok (.isub, 1) := dk_at dkB02decX1_14 44 rfl
theorem dX9_advance_81 : decode cX9_advance 81 = .ok (.iload_n 3, 1) := dk_at dkB02decX1_14 45 rfl
theorem dX9_advance_82 : decode cX9_advance 82 = .ok (.invokevirtual 143, 3) := dk_at dkB02decX1_14 46 rfl
theorem dX9_advance_85 : decode cX9_advance 85 = .ok (.lsub, 1) := dk_at dkB02decX1_14 47 rfl
theorem dX9_advance_86 : decode cX9_advance 86 = .ok (.ladd, 1) := dk_at dkB02decX1_14 48 rfl
theorem dX9_advance_87 : decode cX9_advance 87 = .ok (.lstore 7, 2) := dk_at dkB02decX1_14 49 rfl
theorem dX9_advance_89 : decode cX9_advance 89 = .ok (.iload 9, 2) := dk_at dkB02decX1_14 50 rfl
theorem dX9_advance_91 : decode cX9_advance 91 = .ok (.aload_n 0, 1) := dk_at dkB02decX1_14 51 rfl
theorem dX9_advance_92 : decode cX9_advance 92 = .ok (.getfield 18, 3) := dk_at dkB02decX1_14 52 rfl
theorem dX9_advance_95 : decode cX9_advance 95 = .ok (.iload_n 3, 1) := dk_at dkB02decX1_14 53 rfl
theorem dX9_advance_96 : decode cX9_advance 96 = .ok (.iaload, 1) := dk_at dkB02decX1_14 54 rfl
theorem dX9_advance_97 : decode cX9_advance 97 = .ok (.if_icmp .lt 75, 3) := dk_at dkB02decX1_14 55 rfl
theorem dX9_advance_100 : decode cX9_advance 100 = .ok (.aload 4, 2) := dk_at dkB02decX1_14 56 rfl
theorem dX9_advance_102 : decode cX9_advance 102 = .ok (.iload 9, 2) := dk_at dkB02decX1_14 57 rfl
theorem dX9_advance_104 : decode cX9_advance 104 = .ok (.iaload, 1) := dk_at dkB02decX1_14 58 rfl
theorem dX9_advance_105 : decode cX9_advance 105 = .ok (.bipush 96, 2) := dk_at dkB02decX1_14 59 rfl
noncomputable def dkL02decX1_15 : List (ByteArray × Nat × Instr × Nat) := [(cX9_advance, 107, (.imul, 1)), (cX9_advance, 108, (.iload 9, 2)), (cX9_advance, 110, (.iconst 4, 1)), (cX9_advance, 111, (.imul, 1)), (cX9_advance, 112, (.iadd, 1)), (cX9_advance, 113, (.istore 10, 2)), (cX9_advance, 115, (.aload_n 2, 1)), (cX9_advance, 116, (.iload 10, 2)), (cX9_advance, 118, (.dup2, 1)), (cX9_advance, 119, (.laload, 1)), (cX9_advance, 120, (.lload 7, 2)), (cX9_advance, 122, (.ladd, 1)), (cX9_advance, 123, (.lastore, 1)), (cX9_advance, 124, (.iconst 1, 1)), (cX9_advance, 125, (.istore 11, 2)), (cX9_advance, 127, (.iload 11, 2)), (cX9_advance, 129, (.aload_n 0, 1)), (cX9_advance, 130, (.getfield 60, 3)), (cX9_advance, 133, (.if_icmp .ge 39, 3)), (cX9_advance, 136, (.aload_n 0, 1)), (cX9_advance, 137, (.getfield 24, 3)), (cX9_advance, 140, (.iload_n 3, 1)), (cX9_advance, 141, (.iaload, 1)), (cX9_advance, 142, (.ifCond .ne 30, 3)), (cX9_advance, 145, (.aload_n 2, 1)), (cX9_advance, 146, (.iload 10, 2)), (cX9_advance, 148, (.iload 11, 2)), (cX9_advance, 150, (.iadd, 1)), (cX9_advance, 151, (.dup2, 1)), (cX9_advance, 152, (.laload, 1)), (cX9_advance, 153, (.aload_n 1, 1)), (cX9_advance, 154, (.iload 9, 2)), (cX9_advance, 156, (.iconst 4, 1)), (cX9_advance, 157, (.imul, 1)), (cX9_advance, 158, (.iload 11, 2)), (cX9_advance, 160, (.iadd, 1)), (cX9_advance, 161, (.iconst 1, 1)), (cX9_advance, 162, (.isub, 1)), (cX9_advance, 163, (.laload, 1)), (cX9_advance, 164, (.ladd, 1)), (cX9_advance, 165, (.lastore, 1)), (cX9_advance, 166, (.iinc 11 1, 3)), (cX9_advance, 169, (.goto (-42), 3)), (cX9_advance, 172, (.iinc 9 1, 3)), (cX9_advance, 175, (.goto (-136), 3)), (cX9_advance, 178, (.return_, 1)), (cX9_firstYear, 0, (.iconst 0, 1)), (cX9_firstYear, 1, (.istore_n 1, 1)), (cX9_firstYear, 2, (.iload_n 1, 1)), (cX9_firstYear, 3, (.bipush 96, 2)), (cX9_firstYear, 5, (.if_icmp .ge 17, 3)), (cX9_firstYear, 8, (.aload_n 0, 1)), (cX9_firstYear, 9, (.iload_n 1, 1)), (cX9_firstYear, 10, (.laload, 1)), (cX9_firstYear, 11, (.lconst 0, 1)), (cX9_firstYear, 12, (.lcmp, 1)), (cX9_firstYear, 13, (.ifCond .ne 9, 3)), (cX9_firstYear, 16, (.iinc 1 1, 3)), (cX9_firstYear, 19, (.goto (-17), 3)), (cX9_firstYear, 22, (.iload_n 1, 1))]
theorem dkB02decX1_15 : dkL02decX1_15.all (fun q => decide (decode q.1 q.2.1 = .ok q.2.2)) = true := by decide +kernel
theorem dX9_advance_107 : decode cX9_advance 107 = .ok (.imul, 1) := dk_at dkB02decX1_15 0 rfl
theorem dX9_advance_108 : decode cX9_advance 108 = .ok (.iload 9, 2) := dk_at dkB02decX1_15 1 rfl
theorem dX9_advance_110 : decode cX9_advance 110 = .ok (.iconst 4, 1) := dk_at dkB02decX1_15 2 rfl
theorem dX9_advance_111 : decode cX9_advance 111 = .ok (.imul, 1) := dk_at dkB02decX1_15 3 rfl
theorem dX9_advance_112 : decode cX9_advance 112 = .ok (.iadd, 1) := dk_at dkB02decX1_15 4 rfl
theorem dX9_advance_113 : decode cX9_advance 113 = .ok (.istore 10, 2) := dk_at dkB02decX1_15 5 rfl
theorem dX9_advance_115 : decode cX9_advance 115 = .ok (.aload_n 2, 1) := dk_at dkB02decX1_15 6 rfl
theorem dX9_advance_116 : decode cX9_advance 116 = .ok (.iload 10, 2) := dk_at dkB02decX1_15 7 rfl
theorem dX9_advance_118 : decode cX9_advance 118 = .ok (.dup2, 1) := dk_at dkB02decX1_15 8 rfl
theorem dX9_advance_119 : decode cX9_advance 119 = .ok (.laload, 1) := dk_at dkB02decX1_15 9 rfl
theorem dX9_advance_120 : decode cX9_advance 120 = .ok (.lload 7, 2) := dk_at dkB02decX1_15 10 rfl
theorem dX9_advance_122 : decode cX9_advance 122 = .ok (.ladd, 1) := dk_at dkB02decX1_15 11 rfl
theorem dX9_advance_123 : decode cX9_advance 123 = .ok (.lastore, 1) := dk_at dkB02decX1_15 12 rfl
theorem dX9_advance_124 : decode cX9_advance 124 = .ok (.iconst 1, 1) := dk_at dkB02decX1_15 13 rfl
theorem dX9_advance_125 : decode cX9_advance 125 = .ok (.istore 11, 2) := dk_at dkB02decX1_15 14 rfl
theorem dX9_advance_127 : decode cX9_advance 127 = .ok (.iload 11, 2) := dk_at dkB02decX1_15 15 rfl
theorem dX9_advance_129 : decode cX9_advance 129 = .ok (.aload_n 0, 1) := dk_at dkB02decX1_15 16 rfl
theorem dX9_advance_130 : decode cX9_advance 130 = .ok (.getfield 60, 3) := dk_at dkB02decX1_15 17 rfl
theorem dX9_advance_133 : decode cX9_advance 133 = .ok (.if_icmp .ge 39, 3) := dk_at dkB02decX1_15 18 rfl
theorem dX9_advance_136 : decode cX9_advance 136 = .ok (.aload_n 0, 1) := dk_at dkB02decX1_15 19 rfl
theorem dX9_advance_137 : decode cX9_advance 137 = .ok (.getfield 24, 3) := dk_at dkB02decX1_15 20 rfl
theorem dX9_advance_140 : decode cX9_advance 140 = .ok (.iload_n 3, 1) := dk_at dkB02decX1_15 21 rfl
theorem dX9_advance_141 : decode cX9_advance 141 = .ok (.iaload, 1) := dk_at dkB02decX1_15 22 rfl
theorem dX9_advance_142 : decode cX9_advance 142 = .ok (.ifCond .ne 30, 3) := dk_at dkB02decX1_15 23 rfl
theorem dX9_advance_145 : decode cX9_advance 145 = .ok (.aload_n 2, 1) := dk_at dkB02decX1_15 24 rfl
theorem dX9_advance_146 : decode cX9_advance 146 = .ok (.iload 10, 2) := dk_at dkB02decX1_15 25 rfl
theorem dX9_advance_148 : decode cX9_advance 148 = .ok (.iload 11, 2) := dk_at dkB02decX1_15 26 rfl
theorem dX9_advance_150 : decode cX9_advance 150 = .ok (.iadd, 1) := dk_at dkB02decX1_15 27 rfl
theorem dX9_advance_151 : decode cX9_advance 151 = .ok (.dup2, 1) := dk_at dkB02decX1_15 28 rfl
theorem dX9_advance_152 : decode cX9_advance 152 = .ok (.laload, 1) := dk_at dkB02decX1_15 29 rfl
theorem dX9_advance_153 : decode cX9_advance 153 = .ok (.aload_n 1, 1) := dk_at dkB02decX1_15 30 rfl
theorem dX9_advance_154 : decode cX9_advance 154 = .ok (.iload 9, 2) := dk_at dkB02decX1_15 31 rfl
theorem dX9_advance_156 : decode cX9_advance 156 = .ok (.iconst 4, 1) := dk_at dkB02decX1_15 32 rfl
theorem dX9_advance_157 : decode cX9_advance 157 = .ok (.imul, 1) := dk_at dkB02decX1_15 33 rfl
theorem dX9_advance_158 : decode cX9_advance 158 = .ok (.iload 11, 2) := dk_at dkB02decX1_15 34 rfl
theorem dX9_advance_160 : decode cX9_advance 160 = .ok (.iadd, 1) := dk_at dkB02decX1_15 35 rfl
theorem dX9_advance_161 : decode cX9_advance 161 = .ok (.iconst 1, 1) := dk_at dkB02decX1_15 36 rfl
theorem dX9_advance_162 : decode cX9_advance 162 = .ok (.isub, 1) := dk_at dkB02decX1_15 37 rfl
theorem dX9_advance_163 : decode cX9_advance 163 = .ok (.laload, 1) := dk_at dkB02decX1_15 38 rfl
theorem dX9_advance_164 : decode cX9_advance 164 = .ok (.ladd, 1) := dk_at dkB02decX1_15 39 rfl
theorem dX9_advance_165 : decode cX9_advance 165 = .ok (.lastore, 1) := dk_at dkB02decX1_15 40 rfl
theorem dX9_advance_166 : decode cX9_advance 166 = .ok (.iinc 11 1, 3) := dk_at dkB02decX1_15 41 rfl
theorem dX9_advance_169 : decode cX9_advance 169 = .ok (.goto (-42), 3) := dk_at dkB02decX1_15 42 rfl
theorem dX9_advance_172 : decode cX9_advance 172 = .ok (.iinc 9 1, 3) := dk_at dkB02decX1_15 43 rfl
theorem dX9_advance_175 : decode cX9_advance 175 = .ok (.goto (-136), 3) := dk_at dkB02decX1_15 44 rfl
theorem dX9_advance_178 : decode cX9_advance 178 = .ok (.return_, 1) := dk_at dkB02decX1_15 45 rfl
theorem dX9_firstYear_0 : decode cX9_firstYear 0 = .ok (.iconst 0, 1) := dk_at dkB02decX1_15 46 rfl
theorem dX9_firstYear_1 : decode cX9_firstYear 1 = .ok (.istore_n 1, 1) := dk_at dkB02decX1_15 47 rfl
theorem dX9_firstYear_2 : decode cX9_firstYear 2 = .ok (.iload_n 1, 1) := dk_at dkB02decX1_15 48 rfl
theorem dX9_firstYear_3 : decode cX9_firstYear 3 = .ok (.bipush 96, 2) := dk_at dkB02decX1_15 49 rfl
theorem dX9_firstYear_5 : decode cX9_firstYear 5 = .ok (.if_icmp .ge 17, 3) := dk_at dkB02decX1_15 50 rfl
theorem dX9_firstYear_8 : decode cX9_firstYear 8 = .ok (.aload_n 0, 1) := dk_at dkB02decX1_15 51 rfl
theorem dX9_firstYear_9 : decode cX9_firstYear 9 = .ok (.iload_n 1, 1) := dk_at dkB02decX1_15 52 rfl
theorem dX9_firstYear_10 : decode cX9_firstYear 10 = .ok (.laload, 1) := dk_at dkB02decX1_15 53 rfl
theorem dX9_firstYear_11 : decode cX9_firstYear 11 = .ok (.lconst 0, 1) := dk_at dkB02decX1_15 54 rfl
theorem dX9_firstYear_12 : decode cX9_firstYear 12 = .ok (.lcmp, 1) := dk_at dkB02decX1_15 55 rfl
theorem dX9_firstYear_13 : decode cX9_firstYear 13 = .ok (.ifCond .ne 9, 3) := dk_at dkB02decX1_15 56 rfl
theorem dX9_firstYear_16 : decode cX9_firstYear 16 = .ok (.iinc 1 1, 3) := dk_at dkB02decX1_15 57 rfl
theorem dX9_firstYear_19 : decode cX9_firstYear 19 = .ok (.goto (-17), 3) := dk_at dkB02decX1_15 58 rfl
theorem dX9_firstYear_22 : decode cX9_firstYear 22 = .ok (.iload_n 1, 1) := dk_at dkB02decX1_15 59 rfl
noncomputable def dkL02decX1_16 : List (ByteArray × Nat × Instr × Nat) := [(cX9_firstYear, 23, (.iconst 4, 1)), (cX9_firstYear, 24, (.idiv, 1)), (cX9_firstYear, 25, (.ireturn, 1)), (cX9_leaving, 0, (.lconst 0, 1)), (cX9_leaving, 1, (.lstore 4, 2)), (cX9_leaving, 3, (.iload_n 2, 1)), (cX9_leaving, 4, (.ifCond .lt 41, 3)), (cX9_leaving, 7, (.aload_n 0, 1)), (cX9_leaving, 8, (.getfield 30, 3)), (cX9_leaving, 11, (.iload_n 3, 1)), (cX9_leaving, 12, (.iaload, 1)), (cX9_leaving, 13, (.iconst 1, 1)), (cX9_leaving, 14, (.isub, 1)), (cX9_leaving, 15, (.istore 6, 2)), (cX9_leaving, 17, (.iload 6, 2)), (cX9_leaving, 19, (.aload_n 0, 1)), (cX9_leaving, 20, (.getfield 60, 3)), (cX9_leaving, 23, (.if_icmp .ge 22, 3)), (cX9_leaving, 26, (.lload 4, 2)), (cX9_leaving, 28, (.aload_n 1, 1)), (cX9_leaving, 29, (.iload_n 2, 1)), (cX9_leaving, 30, (.iconst 4, 1)), (cX9_leaving, 31, (.imul, 1)), (cX9_leaving, 32, (.iload 6, 2)), (cX9_leaving, 34, (.iadd, 1)), (cX9_leaving, 35, (.laload, 1)), (cX9_leaving, 36, (.ladd, 1)), (cX9_leaving, 37, (.lstore 4, 2)), (cX9_leaving, 39, (.iinc 6 1, 3)), (cX9_leaving, 42, (.goto (-25), 3)), (cX9_leaving, 45, (.lload 4, 2)), (cX9_leaving, 47, (.lreturn, 1)), (cX9_goBack, 0, (.aload_n 0, 1)), (cX9_goBack, 1, (.getfield 81, 3)), (cX9_goBack, 4, (.ifCond .le 18, 3)), (cX9_goBack, 7, (.aload_n 0, 1)), (cX9_goBack, 8, (.getfield 38, 3)), (cX9_goBack, 11, (.aload_n 0, 1)), (cX9_goBack, 12, (.getfield 81, 3)), (cX9_goBack, 15, (.iconst 1, 1)), (cX9_goBack, 16, (.isub, 1)), (cX9_goBack, 17, (.aaload, 1)), (cX9_goBack, 18, (.lconst 1, 1)), (cX9_goBack, 19, (.invokestatic 125, 3)), (cX9_goBack, 22, (.aload_n 0, 1)), (cX9_goBack, 23, (.getfield 81, 3)), (cX9_goBack, 26, (.iconst 1, 1)), (cX9_goBack, 27, (.isub, 1)), (cX9_goBack, 28, (.istore_n 1, 1)), (cX9_goBack, 29, (.iload_n 1, 1)), (cX9_goBack, 30, (.ifCond .le 28, 3)), (cX9_goBack, 33, (.aload_n 0, 1)), (cX9_goBack, 34, (.aload_n 0, 1)), (cX9_goBack, 35, (.getfield 38, 3)), (cX9_goBack, 38, (.iload_n 1, 1)), (cX9_goBack, 39, (.aaload, 1)), (cX9_goBack, 40, (.aload_n 0, 1)), (cX9_goBack, 41, (.getfield 38, 3)), (cX9_goBack, 44, (.iload_n 1, 1)), (cX9_goBack, 45, (.iconst 1, 1))]
theorem dkB02decX1_16 : dkL02decX1_16.all (fun q => decide (decode q.1 q.2.1 = .ok q.2.2)) = true := by decide +kernel
theorem dX9_firstYear_23 : decode cX9_firstYear 23 = .ok (.iconst 4, 1) := dk_at dkB02decX1_16 0 rfl
theorem dX9_firstYear_24 : decode cX9_firstYear 24 = .ok (.idiv, 1) := dk_at dkB02decX1_16 1 rfl
theorem dX9_firstYear_25 : decode cX9_firstYear 25 = .ok (.ireturn, 1) := dk_at dkB02decX1_16 2 rfl
theorem dX9_leaving_0 : decode cX9_leaving 0 = .ok (.lconst 0, 1) := dk_at dkB02decX1_16 3 rfl
theorem dX9_leaving_1 : decode cX9_leaving 1 = .ok (.lstore 4, 2) := dk_at dkB02decX1_16 4 rfl
theorem dX9_leaving_3 : decode cX9_leaving 3 = .ok (.iload_n 2, 1) := dk_at dkB02decX1_16 5 rfl
theorem dX9_leaving_4 : decode cX9_leaving 4 = .ok (.ifCond .lt 41, 3) := dk_at dkB02decX1_16 6 rfl
theorem dX9_leaving_7 : decode cX9_leaving 7 = .ok (.aload_n 0, 1) := dk_at dkB02decX1_16 7 rfl
theorem dX9_leaving_8 : decode cX9_leaving 8 = .ok (.getfield 30, 3) := dk_at dkB02decX1_16 8 rfl
theorem dX9_leaving_11 : decode cX9_leaving 11 = .ok (.iload_n 3, 1) := dk_at dkB02decX1_16 9 rfl
theorem dX9_leaving_12 : decode cX9_leaving 12 = .ok (.iaload, 1) := dk_at dkB02decX1_16 10 rfl
theorem dX9_leaving_13 : decode cX9_leaving 13 = .ok (.iconst 1, 1) := dk_at dkB02decX1_16 11 rfl
theorem dX9_leaving_14 : decode cX9_leaving 14 = .ok (.isub, 1) := dk_at dkB02decX1_16 12 rfl
theorem dX9_leaving_15 : decode cX9_leaving 15 = .ok (.istore 6, 2) := dk_at dkB02decX1_16 13 rfl
theorem dX9_leaving_17 : decode cX9_leaving 17 = .ok (.iload 6, 2) := dk_at dkB02decX1_16 14 rfl
theorem dX9_leaving_19 : decode cX9_leaving 19 = .ok (.aload_n 0, 1) := dk_at dkB02decX1_16 15 rfl
theorem dX9_leaving_20 : decode cX9_leaving 20 = .ok (.getfield 60, 3) := dk_at dkB02decX1_16 16 rfl
theorem dX9_leaving_23 : decode cX9_leaving 23 = .ok (.if_icmp .ge 22, 3) := dk_at dkB02decX1_16 17 rfl
theorem dX9_leaving_26 : decode cX9_leaving 26 = .ok (.lload 4, 2) := dk_at dkB02decX1_16 18 rfl
theorem dX9_leaving_28 : decode cX9_leaving 28 = .ok (.aload_n 1, 1) := dk_at dkB02decX1_16 19 rfl
theorem dX9_leaving_29 : decode cX9_leaving 29 = .ok (.iload_n 2, 1) := dk_at dkB02decX1_16 20 rfl
theorem dX9_leaving_30 : decode cX9_leaving 30 = .ok (.iconst 4, 1) := dk_at dkB02decX1_16 21 rfl
theorem dX9_leaving_31 : decode cX9_leaving 31 = .ok (.imul, 1) := dk_at dkB02decX1_16 22 rfl
theorem dX9_leaving_32 : decode cX9_leaving 32 = .ok (.iload 6, 2) := dk_at dkB02decX1_16 23 rfl
theorem dX9_leaving_34 : decode cX9_leaving 34 = .ok (.iadd, 1) := dk_at dkB02decX1_16 24 rfl
theorem dX9_leaving_35 : decode cX9_leaving 35 = .ok (.laload, 1) := dk_at dkB02decX1_16 25 rfl
theorem dX9_leaving_36 : decode cX9_leaving 36 = .ok (.ladd, 1) := dk_at dkB02decX1_16 26 rfl
theorem dX9_leaving_37 : decode cX9_leaving 37 = .ok (.lstore 4, 2) := dk_at dkB02decX1_16 27 rfl
theorem dX9_leaving_39 : decode cX9_leaving 39 = .ok (.iinc 6 1, 3) := dk_at dkB02decX1_16 28 rfl
theorem dX9_leaving_42 : decode cX9_leaving 42 = .ok (.goto (-25), 3) := dk_at dkB02decX1_16 29 rfl
theorem dX9_leaving_45 : decode cX9_leaving 45 = .ok (.lload 4, 2) := dk_at dkB02decX1_16 30 rfl
theorem dX9_leaving_47 : decode cX9_leaving 47 = .ok (.lreturn, 1) := dk_at dkB02decX1_16 31 rfl
theorem dX9_goBack_0 : decode cX9_goBack 0 = .ok (.aload_n 0, 1) := dk_at dkB02decX1_16 32 rfl
theorem dX9_goBack_1 : decode cX9_goBack 1 = .ok (.getfield 81, 3) := dk_at dkB02decX1_16 33 rfl
theorem dX9_goBack_4 : decode cX9_goBack 4 = .ok (.ifCond .le 18, 3) := dk_at dkB02decX1_16 34 rfl
theorem dX9_goBack_7 : decode cX9_goBack 7 = .ok (.aload_n 0, 1) := dk_at dkB02decX1_16 35 rfl
theorem dX9_goBack_8 : decode cX9_goBack 8 = .ok (.getfield 38, 3) := dk_at dkB02decX1_16 36 rfl
theorem dX9_goBack_11 : decode cX9_goBack 11 = .ok (.aload_n 0, 1) := dk_at dkB02decX1_16 37 rfl
theorem dX9_goBack_12 : decode cX9_goBack 12 = .ok (.getfield 81, 3) := dk_at dkB02decX1_16 38 rfl
theorem dX9_goBack_15 : decode cX9_goBack 15 = .ok (.iconst 1, 1) := dk_at dkB02decX1_16 39 rfl
theorem dX9_goBack_16 : decode cX9_goBack 16 = .ok (.isub, 1) := dk_at dkB02decX1_16 40 rfl
theorem dX9_goBack_17 : decode cX9_goBack 17 = .ok (.aaload, 1) := dk_at dkB02decX1_16 41 rfl
theorem dX9_goBack_18 : decode cX9_goBack 18 = .ok (.lconst 1, 1) := dk_at dkB02decX1_16 42 rfl
theorem dX9_goBack_19 : decode cX9_goBack 19 = .ok (.invokestatic 125, 3) := dk_at dkB02decX1_16 43 rfl
theorem dX9_goBack_22 : decode cX9_goBack 22 = .ok (.aload_n 0, 1) := dk_at dkB02decX1_16 44 rfl
theorem dX9_goBack_23 : decode cX9_goBack 23 = .ok (.getfield 81, 3) := dk_at dkB02decX1_16 45 rfl
theorem dX9_goBack_26 : decode cX9_goBack 26 = .ok (.iconst 1, 1) := dk_at dkB02decX1_16 46 rfl
theorem dX9_goBack_27 : decode cX9_goBack 27 = .ok (.isub, 1) := dk_at dkB02decX1_16 47 rfl
theorem dX9_goBack_28 : decode cX9_goBack 28 = .ok (.istore_n 1, 1) := dk_at dkB02decX1_16 48 rfl
theorem dX9_goBack_29 : decode cX9_goBack 29 = .ok (.iload_n 1, 1) := dk_at dkB02decX1_16 49 rfl
theorem dX9_goBack_30 : decode cX9_goBack 30 = .ok (.ifCond .le 28, 3) := dk_at dkB02decX1_16 50 rfl
theorem dX9_goBack_33 : decode cX9_goBack 33 = .ok (.aload_n 0, 1) := dk_at dkB02decX1_16 51 rfl
theorem dX9_goBack_34 : decode cX9_goBack 34 = .ok (.aload_n 0, 1) := dk_at dkB02decX1_16 52 rfl
theorem dX9_goBack_35 : decode cX9_goBack 35 = .ok (.getfield 38, 3) := dk_at dkB02decX1_16 53 rfl
theorem dX9_goBack_38 : decode cX9_goBack 38 = .ok (.iload_n 1, 1) := dk_at dkB02decX1_16 54 rfl
theorem dX9_goBack_39 : decode cX9_goBack 39 = .ok (.aaload, 1) := dk_at dkB02decX1_16 55 rfl
theorem dX9_goBack_40 : decode cX9_goBack 40 = .ok (.aload_n 0, 1) := dk_at dkB02decX1_16 56 rfl
theorem dX9_goBack_41 : decode cX9_goBack 41 = .ok (.getfield 38, 3) := dk_at dkB02decX1_16 57 rfl
theorem dX9_goBack_44 : decode cX9_goBack 44 = .ok (.iload_n 1, 1) := dk_at dkB02decX1_16 58 rfl
theorem dX9_goBack_45 : decode cX9_goBack 45 = .ok (.iconst 1, 1) := dk_at dkB02decX1_16 59 rfl
noncomputable def dkL02decX1_17 : List (ByteArray × Nat × Instr × Nat) := [(cX9_goBack, 46, (.isub, 1)), (cX9_goBack, 47, (.aaload, 1)), (cX9_goBack, 48, (.iload_n 1, 1)), (cX9_goBack, 49, (.invokevirtual 147, 3)), (cX9_goBack, 52, (.iinc 1 (-1), 3)), (cX9_goBack, 55, (.goto (-26), 3)), (cX9_goBack, 58, (.return_, 1)), (cX9_retreat, 0, (.iconst 1, 1)), (cX9_retreat, 1, (.aload_n 0, 1)), (cX9_retreat, 2, (.getfield 24, 3)), (cX9_retreat, 5, (.iload_n 3, 1)), (cX9_retreat, 6, (.iaload, 1)), (cX9_retreat, 7, (.invokestatic 102, 3)), (cX9_retreat, 10, (.istore 4, 2)), (cX9_retreat, 12, (.iload 4, 2)), (cX9_retreat, 14, (.aload_n 0, 1)), (cX9_retreat, 15, (.getfield 27, 3)), (cX9_retreat, 18, (.iload_n 3, 1)), (cX9_retreat, 19, (.iaload, 1)), (cX9_retreat, 20, (.if_icmp .gt 7, 3)), (cX9_retreat, 23, (.iconst 1, 1)), (cX9_retreat, 24, (.goto 4, 3)), (cX9_retreat, 27, (.iconst 0, 1)), (cX9_retreat, 28, (.istore 5, 2)), (cX9_retreat, 30, (.lconst 0, 1)), (cX9_retreat, 31, (.lstore 6, 2)), (cX9_retreat, 33, (.bipush 23, 2)), (cX9_retreat, 35, (.istore 8, 2)), (cX9_retreat, 37, (.iload 8, 2)), (cX9_retreat, 39, (.ifCond .lt 166, 3)), (cX9_retreat, 42, (.iload 5, 2)), (cX9_retreat, 44, (.ifCond .eq 37, 3)), (cX9_retreat, 47, (.lload 6, 2)), (cX9_retreat, 49, (.aload_n 0, 1)), (cX9_retreat, 50, (.aload_n 1, 1)), (cX9_retreat, 51, (.iload 8, 2)), (cX9_retreat, 53, (.iload 4, 2)), (cX9_retreat, 55, (.iadd, 1)), (cX9_retreat, 56, (.iload_n 3, 1)), (cX9_retreat, 57, (.invokevirtual 151, 3)), (cX9_retreat, 60, (.aload_n 0, 1)), (cX9_retreat, 61, (.aload_n 1, 1)), (cX9_retreat, 62, (.iload 8, 2)), (cX9_retreat, 64, (.aload_n 0, 1)), (cX9_retreat, 65, (.getfield 27, 3)), (cX9_retreat, 68, (.iload_n 3, 1)), (cX9_retreat, 69, (.iaload, 1)), (cX9_retreat, 70, (.iadd, 1)), (cX9_retreat, 71, (.iconst 1, 1)), (cX9_retreat, 72, (.iadd, 1)), (cX9_retreat, 73, (.iload_n 3, 1)), (cX9_retreat, 74, (.invokevirtual 151, 3)), (cX9_retreat, 77, (.lsub, 1)), (cX9_retreat, 78, (.ladd, 1)), (cX9_retreat, 79, (.lstore 6, 2)), (cX9_retreat, 81, (.aload_n 0, 1)), (cX9_retreat, 82, (.getfield 24, 3)), (cX9_retreat, 85, (.iload_n 3, 1)), (cX9_retreat, 86, (.iaload, 1)), (cX9_retreat, 87, (.ifCond .ne 27, 3))]
theorem dkB02decX1_17 : dkL02decX1_17.all (fun q => decide (decode q.1 q.2.1 = .ok q.2.2)) = true := by decide +kernel
theorem dX9_goBack_46 : decode cX9_goBack 46 = .ok (.isub, 1) := dk_at dkB02decX1_17 0 rfl
theorem dX9_goBack_47 : decode cX9_goBack 47 = .ok (.aaload, 1) := dk_at dkB02decX1_17 1 rfl
theorem dX9_goBack_48 : decode cX9_goBack 48 = .ok (.iload_n 1, 1) := dk_at dkB02decX1_17 2 rfl
theorem dX9_goBack_49 : decode cX9_goBack 49 = .ok (.invokevirtual 147, 3) := dk_at dkB02decX1_17 3 rfl
theorem dX9_goBack_52 : decode cX9_goBack 52 = .ok (.iinc 1 (-1), 3) := dk_at dkB02decX1_17 4 rfl
theorem dX9_goBack_55 : decode cX9_goBack 55 = .ok (.goto (-26), 3) := dk_at dkB02decX1_17 5 rfl
theorem dX9_goBack_58 : decode cX9_goBack 58 = .ok (.return_, 1) := dk_at dkB02decX1_17 6 rfl
theorem dX9_retreat_0 : decode cX9_retreat 0 = .ok (.iconst 1, 1) := dk_at dkB02decX1_17 7 rfl
theorem dX9_retreat_1 : decode cX9_retreat 1 = .ok (.aload_n 0, 1) := dk_at dkB02decX1_17 8 rfl
theorem dX9_retreat_2 : decode cX9_retreat 2 = .ok (.getfield 24, 3) := dk_at dkB02decX1_17 9 rfl
theorem dX9_retreat_5 : decode cX9_retreat 5 = .ok (.iload_n 3, 1) := dk_at dkB02decX1_17 10 rfl
theorem dX9_retreat_6 : decode cX9_retreat 6 = .ok (.iaload, 1) := dk_at dkB02decX1_17 11 rfl
theorem dX9_retreat_7 : decode cX9_retreat 7 = .ok (.invokestatic 102, 3) := dk_at dkB02decX1_17 12 rfl
theorem dX9_retreat_10 : decode cX9_retreat 10 = .ok (.istore 4, 2) := dk_at dkB02decX1_17 13 rfl
theorem dX9_retreat_12 : decode cX9_retreat 12 = .ok (.iload 4, 2) := dk_at dkB02decX1_17 14 rfl
theorem dX9_retreat_14 : decode cX9_retreat 14 = .ok (.aload_n 0, 1) := dk_at dkB02decX1_17 15 rfl
theorem dX9_retreat_15 : decode cX9_retreat 15 = .ok (.getfield 27, 3) := dk_at dkB02decX1_17 16 rfl
theorem dX9_retreat_18 : decode cX9_retreat 18 = .ok (.iload_n 3, 1) := dk_at dkB02decX1_17 17 rfl
theorem dX9_retreat_19 : decode cX9_retreat 19 = .ok (.iaload, 1) := dk_at dkB02decX1_17 18 rfl
theorem dX9_retreat_20 : decode cX9_retreat 20 = .ok (.if_icmp .gt 7, 3) := dk_at dkB02decX1_17 19 rfl
theorem dX9_retreat_23 : decode cX9_retreat 23 = .ok (.iconst 1, 1) := dk_at dkB02decX1_17 20 rfl
theorem dX9_retreat_24 : decode cX9_retreat 24 = .ok (.goto 4, 3) := dk_at dkB02decX1_17 21 rfl
theorem dX9_retreat_27 : decode cX9_retreat 27 = .ok (.iconst 0, 1) := dk_at dkB02decX1_17 22 rfl
theorem dX9_retreat_28 : decode cX9_retreat 28 = .ok (.istore 5, 2) := dk_at dkB02decX1_17 23 rfl
theorem dX9_retreat_30 : decode cX9_retreat 30 = .ok (.lconst 0, 1) := dk_at dkB02decX1_17 24 rfl
theorem dX9_retreat_31 : decode cX9_retreat 31 = .ok (.lstore 6, 2) := dk_at dkB02decX1_17 25 rfl
theorem dX9_retreat_33 : decode cX9_retreat 33 = .ok (.bipush 23, 2) := dk_at dkB02decX1_17 26 rfl
theorem dX9_retreat_35 : decode cX9_retreat 35 = .ok (.istore 8, 2) := dk_at dkB02decX1_17 27 rfl
theorem dX9_retreat_37 : decode cX9_retreat 37 = .ok (.iload 8, 2) := dk_at dkB02decX1_17 28 rfl
theorem dX9_retreat_39 : decode cX9_retreat 39 = .ok (.ifCond .lt 166, 3) := dk_at dkB02decX1_17 29 rfl
theorem dX9_retreat_42 : decode cX9_retreat 42 = .ok (.iload 5, 2) := dk_at dkB02decX1_17 30 rfl
theorem dX9_retreat_44 : decode cX9_retreat 44 = .ok (.ifCond .eq 37, 3) := dk_at dkB02decX1_17 31 rfl
theorem dX9_retreat_47 : decode cX9_retreat 47 = .ok (.lload 6, 2) := dk_at dkB02decX1_17 32 rfl
theorem dX9_retreat_49 : decode cX9_retreat 49 = .ok (.aload_n 0, 1) := dk_at dkB02decX1_17 33 rfl
theorem dX9_retreat_50 : decode cX9_retreat 50 = .ok (.aload_n 1, 1) := dk_at dkB02decX1_17 34 rfl
theorem dX9_retreat_51 : decode cX9_retreat 51 = .ok (.iload 8, 2) := dk_at dkB02decX1_17 35 rfl
theorem dX9_retreat_53 : decode cX9_retreat 53 = .ok (.iload 4, 2) := dk_at dkB02decX1_17 36 rfl
theorem dX9_retreat_55 : decode cX9_retreat 55 = .ok (.iadd, 1) := dk_at dkB02decX1_17 37 rfl
theorem dX9_retreat_56 : decode cX9_retreat 56 = .ok (.iload_n 3, 1) := dk_at dkB02decX1_17 38 rfl
theorem dX9_retreat_57 : decode cX9_retreat 57 = .ok (.invokevirtual 151, 3) := dk_at dkB02decX1_17 39 rfl
theorem dX9_retreat_60 : decode cX9_retreat 60 = .ok (.aload_n 0, 1) := dk_at dkB02decX1_17 40 rfl
theorem dX9_retreat_61 : decode cX9_retreat 61 = .ok (.aload_n 1, 1) := dk_at dkB02decX1_17 41 rfl
theorem dX9_retreat_62 : decode cX9_retreat 62 = .ok (.iload 8, 2) := dk_at dkB02decX1_17 42 rfl
theorem dX9_retreat_64 : decode cX9_retreat 64 = .ok (.aload_n 0, 1) := dk_at dkB02decX1_17 43 rfl
theorem dX9_retreat_65 : decode cX9_retreat 65 = .ok (.getfield 27, 3) := dk_at dkB02decX1_17 44 rfl
theorem dX9_retreat_68 : decode cX9_retreat 68 = .ok (.iload_n 3, 1) := dk_at dkB02decX1_17 45 rfl
theorem dX9_retreat_69 : decode cX9_retreat 69 = .ok (.iaload, 1) := dk_at dkB02decX1_17 46 rfl
theorem dX9_retreat_70 : decode cX9_retreat 70 = .ok (.iadd, 1) := dk_at dkB02decX1_17 47 rfl
theorem dX9_retreat_71 : decode cX9_retreat 71 = .ok (.iconst 1, 1) := dk_at dkB02decX1_17 48 rfl
theorem dX9_retreat_72 : decode cX9_retreat 72 = .ok (.iadd, 1) := dk_at dkB02decX1_17 49 rfl
theorem dX9_retreat_73 : decode cX9_retreat 73 = .ok (.iload_n 3, 1) := dk_at dkB02decX1_17 50 rfl
theorem dX9_retreat_74 : decode cX9_retreat 74 = .ok (.invokevirtual 151, 3) := dk_at dkB02decX1_17 51 rfl
theorem dX9_retreat_77 : decode cX9_retreat 77 = .ok (.lsub, 1) := dk_at dkB02decX1_17 52 rfl
theorem dX9_retreat_78 : decode cX9_retreat 78 = .ok (.ladd, 1) := dk_at dkB02decX1_17 53 rfl
theorem dX9_retreat_79 : decode cX9_retreat 79 = .ok (.lstore 6, 2) := dk_at dkB02decX1_17 54 rfl
theorem dX9_retreat_81 : decode cX9_retreat 81 = .ok (.aload_n 0, 1) := dk_at dkB02decX1_17 55 rfl
theorem dX9_retreat_82 : decode cX9_retreat 82 = .ok (.getfield 24, 3) := dk_at dkB02decX1_17 56 rfl
theorem dX9_retreat_85 : decode cX9_retreat 85 = .ok (.iload_n 3, 1) := dk_at dkB02decX1_17 57 rfl
theorem dX9_retreat_86 : decode cX9_retreat 86 = .ok (.iaload, 1) := dk_at dkB02decX1_17 58 rfl
theorem dX9_retreat_87 : decode cX9_retreat 87 = .ok (.ifCond .ne 27, 3) := dk_at dkB02decX1_17 59 rfl
noncomputable def dkL02decX1_18 : List (ByteArray × Nat × Instr × Nat) := [(cX9_retreat, 90, (.iload 8, 2)), (cX9_retreat, 92, (.aload_n 0, 1)), (cX9_retreat, 93, (.getfield 18, 3)), (cX9_retreat, 96, (.iload_n 3, 1)), (cX9_retreat, 97, (.iaload, 1)), (cX9_retreat, 98, (.aload_n 0, 1)), (cX9_retreat, 99, (.getfield 21, 3)), (cX9_retreat, 102, (.iload_n 3, 1)), (cX9_retreat, 103, (.iaload, 1)), (cX9_retreat, 104, (.invokestatic 154, 3)), (cX9_retreat, 107, (.ifCond .eq 7, 3)), (cX9_retreat, 110, (.iconst 1, 1)), (cX9_retreat, 111, (.goto 4, 3)), (cX9_retreat, 114, (.iconst 0, 1)), (cX9_retreat, 115, (.istore 9, 2)), (cX9_retreat, 117, (.iconst 0, 1)), (cX9_retreat, 118, (.istore 10, 2)), (cX9_retreat, 120, (.iload 10, 2)), (cX9_retreat, 122, (.aload_n 0, 1)), (cX9_retreat, 123, (.getfield 60, 3)), (cX9_retreat, 126, (.if_icmp .ge 73, 3)), (cX9_retreat, 129, (.iload 8, 2)), (cX9_retreat, 131, (.iconst 4, 1)), (cX9_retreat, 132, (.imul, 1)), (cX9_retreat, 133, (.iload 10, 2)), (cX9_retreat, 135, (.iadd, 1)), (cX9_retreat, 136, (.istore 11, 2)), (cX9_retreat, 138, (.iload 10, 2)), (cX9_retreat, 140, (.iconst 1, 1)), (cX9_retreat, 141, (.iadd, 1)), (cX9_retreat, 142, (.aload_n 0, 1)), (cX9_retreat, 143, (.getfield 30, 3)), (cX9_retreat, 146, (.iload_n 3, 1)), (cX9_retreat, 147, (.iaload, 1)), (cX9_retreat, 148, (.if_icmp .lt 8, 3)), (cX9_retreat, 151, (.lload 6, 2)), (cX9_retreat, 153, (.goto 4, 3)), (cX9_retreat, 156, (.lconst 0, 1)), (cX9_retreat, 157, (.lstore 12, 2)), (cX9_retreat, 159, (.aload_n 2, 1)), (cX9_retreat, 160, (.iload 11, 2)), (cX9_retreat, 162, (.iload 9, 2)), (cX9_retreat, 164, (.ifCond .eq 26, 3)), (cX9_retreat, 167, (.iload 10, 2)), (cX9_retreat, 169, (.iconst 1, 1)), (cX9_retreat, 170, (.iadd, 1)), (cX9_retreat, 171, (.aload_n 0, 1)), (cX9_retreat, 172, (.getfield 60, 3)), (cX9_retreat, 175, (.if_icmp .ge 15, 3)), (cX9_retreat, 178, (.lload 12, 2)), (cX9_retreat, 180, (.aload_n 1, 1)), (cX9_retreat, 181, (.iload 11, 2)), (cX9_retreat, 183, (.iconst 1, 1)), (cX9_retreat, 184, (.iadd, 1)), (cX9_retreat, 185, (.laload, 1)), (cX9_retreat, 186, (.ladd, 1)), (cX9_retreat, 187, (.goto 5, 3)), (cX9_retreat, 190, (.lload 12, 2)), (cX9_retreat, 192, (.lastore, 1)), (cX9_retreat, 193, (.iinc 10 1, 3))]
theorem dkB02decX1_18 : dkL02decX1_18.all (fun q => decide (decode q.1 q.2.1 = .ok q.2.2)) = true := by decide +kernel
theorem dX9_retreat_90 : decode cX9_retreat 90 = .ok (.iload 8, 2) := dk_at dkB02decX1_18 0 rfl
theorem dX9_retreat_92 : decode cX9_retreat 92 = .ok (.aload_n 0, 1) := dk_at dkB02decX1_18 1 rfl
theorem dX9_retreat_93 : decode cX9_retreat 93 = .ok (.getfield 18, 3) := dk_at dkB02decX1_18 2 rfl
theorem dX9_retreat_96 : decode cX9_retreat 96 = .ok (.iload_n 3, 1) := dk_at dkB02decX1_18 3 rfl
theorem dX9_retreat_97 : decode cX9_retreat 97 = .ok (.iaload, 1) := dk_at dkB02decX1_18 4 rfl
theorem dX9_retreat_98 : decode cX9_retreat 98 = .ok (.aload_n 0, 1) := dk_at dkB02decX1_18 5 rfl
theorem dX9_retreat_99 : decode cX9_retreat 99 = .ok (.getfield 21, 3) := dk_at dkB02decX1_18 6 rfl
theorem dX9_retreat_102 : decode cX9_retreat 102 = .ok (.iload_n 3, 1) := dk_at dkB02decX1_18 7 rfl
theorem dX9_retreat_103 : decode cX9_retreat 103 = .ok (.iaload, 1) := dk_at dkB02decX1_18 8 rfl
theorem dX9_retreat_104 : decode cX9_retreat 104 = .ok (.invokestatic 154, 3) := dk_at dkB02decX1_18 9 rfl
theorem dX9_retreat_107 : decode cX9_retreat 107 = .ok (.ifCond .eq 7, 3) := dk_at dkB02decX1_18 10 rfl
theorem dX9_retreat_110 : decode cX9_retreat 110 = .ok (.iconst 1, 1) := dk_at dkB02decX1_18 11 rfl
theorem dX9_retreat_111 : decode cX9_retreat 111 = .ok (.goto 4, 3) := dk_at dkB02decX1_18 12 rfl
theorem dX9_retreat_114 : decode cX9_retreat 114 = .ok (.iconst 0, 1) := dk_at dkB02decX1_18 13 rfl
theorem dX9_retreat_115 : decode cX9_retreat 115 = .ok (.istore 9, 2) := dk_at dkB02decX1_18 14 rfl
theorem dX9_retreat_117 : decode cX9_retreat 117 = .ok (.iconst 0, 1) := dk_at dkB02decX1_18 15 rfl
theorem dX9_retreat_118 : decode cX9_retreat 118 = .ok (.istore 10, 2) := dk_at dkB02decX1_18 16 rfl
theorem dX9_retreat_120 : decode cX9_retreat 120 = .ok (.iload 10, 2) := dk_at dkB02decX1_18 17 rfl
theorem dX9_retreat_122 : decode cX9_retreat 122 = .ok (.aload_n 0, 1) := dk_at dkB02decX1_18 18 rfl
theorem dX9_retreat_123 : decode cX9_retreat 123 = .ok (.getfield 60, 3) := dk_at dkB02decX1_18 19 rfl
theorem dX9_retreat_126 : decode cX9_retreat 126 = .ok (.if_icmp .ge 73, 3) := dk_at dkB02decX1_18 20 rfl
theorem dX9_retreat_129 : decode cX9_retreat 129 = .ok (.iload 8, 2) := dk_at dkB02decX1_18 21 rfl
theorem dX9_retreat_131 : decode cX9_retreat 131 = .ok (.iconst 4, 1) := dk_at dkB02decX1_18 22 rfl
theorem dX9_retreat_132 : decode cX9_retreat 132 = .ok (.imul, 1) := dk_at dkB02decX1_18 23 rfl
theorem dX9_retreat_133 : decode cX9_retreat 133 = .ok (.iload 10, 2) := dk_at dkB02decX1_18 24 rfl
theorem dX9_retreat_135 : decode cX9_retreat 135 = .ok (.iadd, 1) := dk_at dkB02decX1_18 25 rfl
theorem dX9_retreat_136 : decode cX9_retreat 136 = .ok (.istore 11, 2) := dk_at dkB02decX1_18 26 rfl
theorem dX9_retreat_138 : decode cX9_retreat 138 = .ok (.iload 10, 2) := dk_at dkB02decX1_18 27 rfl
theorem dX9_retreat_140 : decode cX9_retreat 140 = .ok (.iconst 1, 1) := dk_at dkB02decX1_18 28 rfl
theorem dX9_retreat_141 : decode cX9_retreat 141 = .ok (.iadd, 1) := dk_at dkB02decX1_18 29 rfl
theorem dX9_retreat_142 : decode cX9_retreat 142 = .ok (.aload_n 0, 1) := dk_at dkB02decX1_18 30 rfl
theorem dX9_retreat_143 : decode cX9_retreat 143 = .ok (.getfield 30, 3) := dk_at dkB02decX1_18 31 rfl
theorem dX9_retreat_146 : decode cX9_retreat 146 = .ok (.iload_n 3, 1) := dk_at dkB02decX1_18 32 rfl
theorem dX9_retreat_147 : decode cX9_retreat 147 = .ok (.iaload, 1) := dk_at dkB02decX1_18 33 rfl
theorem dX9_retreat_148 : decode cX9_retreat 148 = .ok (.if_icmp .lt 8, 3) := dk_at dkB02decX1_18 34 rfl
theorem dX9_retreat_151 : decode cX9_retreat 151 = .ok (.lload 6, 2) := dk_at dkB02decX1_18 35 rfl
theorem dX9_retreat_153 : decode cX9_retreat 153 = .ok (.goto 4, 3) := dk_at dkB02decX1_18 36 rfl
theorem dX9_retreat_156 : decode cX9_retreat 156 = .ok (.lconst 0, 1) := dk_at dkB02decX1_18 37 rfl
theorem dX9_retreat_157 : decode cX9_retreat 157 = .ok (.lstore 12, 2) := dk_at dkB02decX1_18 38 rfl
theorem dX9_retreat_159 : decode cX9_retreat 159 = .ok (.aload_n 2, 1) := dk_at dkB02decX1_18 39 rfl
theorem dX9_retreat_160 : decode cX9_retreat 160 = .ok (.iload 11, 2) := dk_at dkB02decX1_18 40 rfl
theorem dX9_retreat_162 : decode cX9_retreat 162 = .ok (.iload 9, 2) := dk_at dkB02decX1_18 41 rfl
theorem dX9_retreat_164 : decode cX9_retreat 164 = .ok (.ifCond .eq 26, 3) := dk_at dkB02decX1_18 42 rfl
theorem dX9_retreat_167 : decode cX9_retreat 167 = .ok (.iload 10, 2) := dk_at dkB02decX1_18 43 rfl
theorem dX9_retreat_169 : decode cX9_retreat 169 = .ok (.iconst 1, 1) := dk_at dkB02decX1_18 44 rfl
theorem dX9_retreat_170 : decode cX9_retreat 170 = .ok (.iadd, 1) := dk_at dkB02decX1_18 45 rfl
theorem dX9_retreat_171 : decode cX9_retreat 171 = .ok (.aload_n 0, 1) := dk_at dkB02decX1_18 46 rfl
theorem dX9_retreat_172 : decode cX9_retreat 172 = .ok (.getfield 60, 3) := dk_at dkB02decX1_18 47 rfl
theorem dX9_retreat_175 : decode cX9_retreat 175 = .ok (.if_icmp .ge 15, 3) := dk_at dkB02decX1_18 48 rfl
theorem dX9_retreat_178 : decode cX9_retreat 178 = .ok (.lload 12, 2) := dk_at dkB02decX1_18 49 rfl
theorem dX9_retreat_180 : decode cX9_retreat 180 = .ok (.aload_n 1, 1) := dk_at dkB02decX1_18 50 rfl
theorem dX9_retreat_181 : decode cX9_retreat 181 = .ok (.iload 11, 2) := dk_at dkB02decX1_18 51 rfl
theorem dX9_retreat_183 : decode cX9_retreat 183 = .ok (.iconst 1, 1) := dk_at dkB02decX1_18 52 rfl
theorem dX9_retreat_184 : decode cX9_retreat 184 = .ok (.iadd, 1) := dk_at dkB02decX1_18 53 rfl
theorem dX9_retreat_185 : decode cX9_retreat 185 = .ok (.laload, 1) := dk_at dkB02decX1_18 54 rfl
theorem dX9_retreat_186 : decode cX9_retreat 186 = .ok (.ladd, 1) := dk_at dkB02decX1_18 55 rfl
theorem dX9_retreat_187 : decode cX9_retreat 187 = .ok (.goto 5, 3) := dk_at dkB02decX1_18 56 rfl
theorem dX9_retreat_190 : decode cX9_retreat 190 = .ok (.lload 12, 2) := dk_at dkB02decX1_18 57 rfl
theorem dX9_retreat_192 : decode cX9_retreat 192 = .ok (.lastore, 1) := dk_at dkB02decX1_18 58 rfl
theorem dX9_retreat_193 : decode cX9_retreat 193 = .ok (.iinc 10 1, 3) := dk_at dkB02decX1_18 59 rfl
noncomputable def dkL02decX1_19 : List (ByteArray × Nat × Instr × Nat) := [(cX9_retreat, 196, (.goto (-76), 3)), (cX9_retreat, 199, (.iinc 8 (-1), 3)), (cX9_retreat, 202, (.goto (-165), 3)), (cX9_retreat, 205, (.return_, 1)), (cX9_arriving, 0, (.iload_n 2, 1)), (cX9_arriving, 1, (.aload_n 0, 1)), (cX9_arriving, 2, (.getfield 18, 3)), (cX9_arriving, 5, (.iload_n 3, 1)), (cX9_arriving, 6, (.iaload, 1)), (cX9_arriving, 7, (.aload_n 0, 1)), (cX9_arriving, 8, (.getfield 21, 3)), (cX9_arriving, 11, (.iload_n 3, 1)), (cX9_arriving, 12, (.iaload, 1)), (cX9_arriving, 13, (.invokestatic 154, 3)), (cX9_arriving, 16, (.ifCond .eq 11, 3)), (cX9_arriving, 19, (.aload_n 1, 1)), (cX9_arriving, 20, (.iload_n 2, 1)), (cX9_arriving, 21, (.iconst 4, 1)), (cX9_arriving, 22, (.imul, 1)), (cX9_arriving, 23, (.laload, 1)), (cX9_arriving, 24, (.goto 4, 3)), (cX9_arriving, 27, (.lconst 0, 1)), (cX9_arriving, 28, (.lreturn, 1)), (cX9_tally, 0, (.aload_n 0, 1)), (cX9_tally, 1, (.aload_n 0, 1)), (cX9_tally, 2, (.getfield 35, 3)), (cX9_tally, 5, (.iload_n 1, 1)), (cX9_tally, 6, (.aaload, 1)), (cX9_tally, 7, (.iload_n 1, 1)), (cX9_tally, 8, (.iload_n 2, 1)), (cX9_tally, 9, (.invokevirtual 158, 3)), (cX9_tally, 12, (.lreturn, 1)), (cX9_meeting, 0, (.lconst 0, 1)), (cX9_meeting, 1, (.lstore 4, 2)), (cX9_meeting, 3, (.iconst 0, 1)), (cX9_meeting, 4, (.istore 6, 2)), (cX9_meeting, 6, (.iload 6, 2)), (cX9_meeting, 8, (.aload_n 0, 1)), (cX9_meeting, 9, (.getfield 60, 3)), (cX9_meeting, 12, (.if_icmp .ge 36, 3)), (cX9_meeting, 15, (.lload 4, 2)), (cX9_meeting, 17, (.aload_n 1, 1)), (cX9_meeting, 18, (.iload_n 3, 1)), (cX9_meeting, 19, (.iconst 4, 1)), (cX9_meeting, 20, (.imul, 1)), (cX9_meeting, 21, (.iload 6, 2)), (cX9_meeting, 23, (.iadd, 1)), (cX9_meeting, 24, (.laload, 1)), (cX9_meeting, 25, (.aload_n 0, 1)), (cX9_meeting, 26, (.getfield 38, 3)), (cX9_meeting, 29, (.iload_n 2, 1)), (cX9_meeting, 30, (.aaload, 1)), (cX9_meeting, 31, (.iload_n 3, 1)), (cX9_meeting, 32, (.iconst 4, 1)), (cX9_meeting, 33, (.imul, 1)), (cX9_meeting, 34, (.iload 6, 2)), (cX9_meeting, 36, (.iadd, 1)), (cX9_meeting, 37, (.laload, 1)), (cX9_meeting, 38, (.lmul, 1)), (cX9_meeting, 39, (.ladd, 1))]
theorem dkB02decX1_19 : dkL02decX1_19.all (fun q => decide (decode q.1 q.2.1 = .ok q.2.2)) = true := by decide +kernel
theorem dX9_retreat_196 : decode cX9_retreat 196 = .ok (.goto (-76), 3) := dk_at dkB02decX1_19 0 rfl
theorem dX9_retreat_199 : decode cX9_retreat 199 = .ok (.iinc 8 (-1), 3) := dk_at dkB02decX1_19 1 rfl
theorem dX9_retreat_202 : decode cX9_retreat 202 = .ok (.goto (-165), 3) := dk_at dkB02decX1_19 2 rfl
theorem dX9_retreat_205 : decode cX9_retreat 205 = .ok (.return_, 1) := dk_at dkB02decX1_19 3 rfl
theorem dX9_arriving_0 : decode cX9_arriving 0 = .ok (.iload_n 2, 1) := dk_at dkB02decX1_19 4 rfl
theorem dX9_arriving_1 : decode cX9_arriving 1 = .ok (.aload_n 0, 1) := dk_at dkB02decX1_19 5 rfl
theorem dX9_arriving_2 : decode cX9_arriving 2 = .ok (.getfield 18, 3) := dk_at dkB02decX1_19 6 rfl
theorem dX9_arriving_5 : decode cX9_arriving 5 = .ok (.iload_n 3, 1) := dk_at dkB02decX1_19 7 rfl
theorem dX9_arriving_6 : decode cX9_arriving 6 = .ok (.iaload, 1) := dk_at dkB02decX1_19 8 rfl
theorem dX9_arriving_7 : decode cX9_arriving 7 = .ok (.aload_n 0, 1) := dk_at dkB02decX1_19 9 rfl
theorem dX9_arriving_8 : decode cX9_arriving 8 = .ok (.getfield 21, 3) := dk_at dkB02decX1_19 10 rfl
theorem dX9_arriving_11 : decode cX9_arriving 11 = .ok (.iload_n 3, 1) := dk_at dkB02decX1_19 11 rfl
theorem dX9_arriving_12 : decode cX9_arriving 12 = .ok (.iaload, 1) := dk_at dkB02decX1_19 12 rfl
theorem dX9_arriving_13 : decode cX9_arriving 13 = .ok (.invokestatic 154, 3) := dk_at dkB02decX1_19 13 rfl
theorem dX9_arriving_16 : decode cX9_arriving 16 = .ok (.ifCond .eq 11, 3) := dk_at dkB02decX1_19 14 rfl
theorem dX9_arriving_19 : decode cX9_arriving 19 = .ok (.aload_n 1, 1) := dk_at dkB02decX1_19 15 rfl
theorem dX9_arriving_20 : decode cX9_arriving 20 = .ok (.iload_n 2, 1) := dk_at dkB02decX1_19 16 rfl
theorem dX9_arriving_21 : decode cX9_arriving 21 = .ok (.iconst 4, 1) := dk_at dkB02decX1_19 17 rfl
theorem dX9_arriving_22 : decode cX9_arriving 22 = .ok (.imul, 1) := dk_at dkB02decX1_19 18 rfl
theorem dX9_arriving_23 : decode cX9_arriving 23 = .ok (.laload, 1) := dk_at dkB02decX1_19 19 rfl
theorem dX9_arriving_24 : decode cX9_arriving 24 = .ok (.goto 4, 3) := dk_at dkB02decX1_19 20 rfl
theorem dX9_arriving_27 : decode cX9_arriving 27 = .ok (.lconst 0, 1) := dk_at dkB02decX1_19 21 rfl
theorem dX9_arriving_28 : decode cX9_arriving 28 = .ok (.lreturn, 1) := dk_at dkB02decX1_19 22 rfl
theorem dX9_tally_0 : decode cX9_tally 0 = .ok (.aload_n 0, 1) := dk_at dkB02decX1_19 23 rfl
theorem dX9_tally_1 : decode cX9_tally 1 = .ok (.aload_n 0, 1) := dk_at dkB02decX1_19 24 rfl
theorem dX9_tally_2 : decode cX9_tally 2 = .ok (.getfield 35, 3) := dk_at dkB02decX1_19 25 rfl
theorem dX9_tally_5 : decode cX9_tally 5 = .ok (.iload_n 1, 1) := dk_at dkB02decX1_19 26 rfl
theorem dX9_tally_6 : decode cX9_tally 6 = .ok (.aaload, 1) := dk_at dkB02decX1_19 27 rfl
theorem dX9_tally_7 : decode cX9_tally 7 = .ok (.iload_n 1, 1) := dk_at dkB02decX1_19 28 rfl
theorem dX9_tally_8 : decode cX9_tally 8 = .ok (.iload_n 2, 1) := dk_at dkB02decX1_19 29 rfl
theorem dX9_tally_9 : decode cX9_tally 9 = .ok (.invokevirtual 158, 3) := dk_at dkB02decX1_19 30 rfl
theorem dX9_tally_12 : decode cX9_tally 12 = .ok (.lreturn, 1) := dk_at dkB02decX1_19 31 rfl
theorem dX9_meeting_0 : decode cX9_meeting 0 = .ok (.lconst 0, 1) := dk_at dkB02decX1_19 32 rfl
theorem dX9_meeting_1 : decode cX9_meeting 1 = .ok (.lstore 4, 2) := dk_at dkB02decX1_19 33 rfl
theorem dX9_meeting_3 : decode cX9_meeting 3 = .ok (.iconst 0, 1) := dk_at dkB02decX1_19 34 rfl
theorem dX9_meeting_4 : decode cX9_meeting 4 = .ok (.istore 6, 2) := dk_at dkB02decX1_19 35 rfl
theorem dX9_meeting_6 : decode cX9_meeting 6 = .ok (.iload 6, 2) := dk_at dkB02decX1_19 36 rfl
theorem dX9_meeting_8 : decode cX9_meeting 8 = .ok (.aload_n 0, 1) := dk_at dkB02decX1_19 37 rfl
theorem dX9_meeting_9 : decode cX9_meeting 9 = .ok (.getfield 60, 3) := dk_at dkB02decX1_19 38 rfl
theorem dX9_meeting_12 : decode cX9_meeting 12 = .ok (.if_icmp .ge 36, 3) := dk_at dkB02decX1_19 39 rfl
theorem dX9_meeting_15 : decode cX9_meeting 15 = .ok (.lload 4, 2) := dk_at dkB02decX1_19 40 rfl
theorem dX9_meeting_17 : decode cX9_meeting 17 = .ok (.aload_n 1, 1) := dk_at dkB02decX1_19 41 rfl
theorem dX9_meeting_18 : decode cX9_meeting 18 = .ok (.iload_n 3, 1) := dk_at dkB02decX1_19 42 rfl
theorem dX9_meeting_19 : decode cX9_meeting 19 = .ok (.iconst 4, 1) := dk_at dkB02decX1_19 43 rfl
theorem dX9_meeting_20 : decode cX9_meeting 20 = .ok (.imul, 1) := dk_at dkB02decX1_19 44 rfl
theorem dX9_meeting_21 : decode cX9_meeting 21 = .ok (.iload 6, 2) := dk_at dkB02decX1_19 45 rfl
theorem dX9_meeting_23 : decode cX9_meeting 23 = .ok (.iadd, 1) := dk_at dkB02decX1_19 46 rfl
theorem dX9_meeting_24 : decode cX9_meeting 24 = .ok (.laload, 1) := dk_at dkB02decX1_19 47 rfl
theorem dX9_meeting_25 : decode cX9_meeting 25 = .ok (.aload_n 0, 1) := dk_at dkB02decX1_19 48 rfl
theorem dX9_meeting_26 : decode cX9_meeting 26 = .ok (.getfield 38, 3) := dk_at dkB02decX1_19 49 rfl
theorem dX9_meeting_29 : decode cX9_meeting 29 = .ok (.iload_n 2, 1) := dk_at dkB02decX1_19 50 rfl
theorem dX9_meeting_30 : decode cX9_meeting 30 = .ok (.aaload, 1) := dk_at dkB02decX1_19 51 rfl
theorem dX9_meeting_31 : decode cX9_meeting 31 = .ok (.iload_n 3, 1) := dk_at dkB02decX1_19 52 rfl
theorem dX9_meeting_32 : decode cX9_meeting 32 = .ok (.iconst 4, 1) := dk_at dkB02decX1_19 53 rfl
theorem dX9_meeting_33 : decode cX9_meeting 33 = .ok (.imul, 1) := dk_at dkB02decX1_19 54 rfl
theorem dX9_meeting_34 : decode cX9_meeting 34 = .ok (.iload 6, 2) := dk_at dkB02decX1_19 55 rfl
theorem dX9_meeting_36 : decode cX9_meeting 36 = .ok (.iadd, 1) := dk_at dkB02decX1_19 56 rfl
theorem dX9_meeting_37 : decode cX9_meeting 37 = .ok (.laload, 1) := dk_at dkB02decX1_19 57 rfl
theorem dX9_meeting_38 : decode cX9_meeting 38 = .ok (.lmul, 1) := dk_at dkB02decX1_19 58 rfl
theorem dX9_meeting_39 : decode cX9_meeting 39 = .ok (.ladd, 1) := dk_at dkB02decX1_19 59 rfl
noncomputable def dkL02decX1_20 : List (ByteArray × Nat × Instr × Nat) := [(cX9_meeting, 40, (.lstore 4, 2)), (cX9_meeting, 42, (.iinc 6 1, 3)), (cX9_meeting, 45, (.goto (-39), 3)), (cX9_meeting, 48, (.lload 4, 2)), (cX9_meeting, 50, (.lreturn, 1)), (cX9_worst, 0, (.lconst 0, 1)), (cX9_worst, 1, (.lstore_n 2, 1)), (cX9_worst, 2, (.iconst 0, 1)), (cX9_worst, 3, (.istore 4, 2)), (cX9_worst, 5, (.iload 4, 2)), (cX9_worst, 7, (.bipush 24, 2)), (cX9_worst, 9, (.if_icmp .ge 21, 3)), (cX9_worst, 12, (.lload_n 2, 1)), (cX9_worst, 13, (.aload_n 0, 1)), (cX9_worst, 14, (.iload_n 1, 1)), (cX9_worst, 15, (.iload 4, 2)), (cX9_worst, 17, (.invokevirtual 161, 3)), (cX9_worst, 20, (.invokestatic 165, 3)), (cX9_worst, 23, (.lstore_n 2, 1)), (cX9_worst, 24, (.iinc 4 1, 3)), (cX9_worst, 27, (.goto (-22), 3)), (cX9_worst, 30, (.lload_n 2, 1)), (cX9_worst, 31, (.lreturn, 1)), (cX9_endOf, 0, (.iconst 0, 1)), (cX9_endOf, 1, (.istore_n 3, 1)), (cX9_endOf, 2, (.iconst 0, 1)), (cX9_endOf, 3, (.istore 4, 2)), (cX9_endOf, 5, (.iload 4, 2)), (cX9_endOf, 7, (.bipush 24, 2)), (cX9_endOf, 9, (.if_icmp .ge 40, 3)), (cX9_endOf, 12, (.iload_n 2, 1)), (cX9_endOf, 13, (.ifCond .ne 11, 3)), (cX9_endOf, 16, (.bipush 23, 2)), (cX9_endOf, 18, (.iload 4, 2)), (cX9_endOf, 20, (.isub, 1)), (cX9_endOf, 21, (.goto 5, 3)), (cX9_endOf, 24, (.iload 4, 2)), (cX9_endOf, 26, (.istore 5, 2)), (cX9_endOf, 28, (.aload_n 0, 1)), (cX9_endOf, 29, (.iload_n 1, 1)), (cX9_endOf, 30, (.iload 5, 2)), (cX9_endOf, 32, (.invokevirtual 161, 3)), (cX9_endOf, 35, (.lconst 0, 1)), (cX9_endOf, 36, (.lcmp, 1)), (cX9_endOf, 37, (.ifCond .le 6, 3)), (cX9_endOf, 40, (.iload 5, 2)), (cX9_endOf, 42, (.istore_n 3, 1)), (cX9_endOf, 43, (.iinc 4 1, 3)), (cX9_endOf, 46, (.goto (-41), 3)), (cX9_endOf, 49, (.iload_n 3, 1)), (cX9_endOf, 50, (.ireturn, 1)), (cX9_measure, 0, (.aload_n 0, 1)), (cX9_measure, 1, (.getfield 41, 3)), (cX9_measure, 4, (.lconst 0, 1)), (cX9_measure, 5, (.invokestatic 125, 3)), (cX9_measure, 8, (.aload_n 0, 1)), (cX9_measure, 9, (.getfield 18, 3)), (cX9_measure, 12, (.iload_n 1, 1)), (cX9_measure, 13, (.iaload, 1)), (cX9_measure, 14, (.istore_n 3, 1))]
theorem dkB02decX1_20 : dkL02decX1_20.all (fun q => decide (decode q.1 q.2.1 = .ok q.2.2)) = true := by decide +kernel
theorem dX9_meeting_40 : decode cX9_meeting 40 = .ok (.lstore 4, 2) := dk_at dkB02decX1_20 0 rfl
theorem dX9_meeting_42 : decode cX9_meeting 42 = .ok (.iinc 6 1, 3) := dk_at dkB02decX1_20 1 rfl
theorem dX9_meeting_45 : decode cX9_meeting 45 = .ok (.goto (-39), 3) := dk_at dkB02decX1_20 2 rfl
theorem dX9_meeting_48 : decode cX9_meeting 48 = .ok (.lload 4, 2) := dk_at dkB02decX1_20 3 rfl
theorem dX9_meeting_50 : decode cX9_meeting 50 = .ok (.lreturn, 1) := dk_at dkB02decX1_20 4 rfl
theorem dX9_worst_0 : decode cX9_worst 0 = .ok (.lconst 0, 1) := dk_at dkB02decX1_20 5 rfl
theorem dX9_worst_1 : decode cX9_worst 1 = .ok (.lstore_n 2, 1) := dk_at dkB02decX1_20 6 rfl
theorem dX9_worst_2 : decode cX9_worst 2 = .ok (.iconst 0, 1) := dk_at dkB02decX1_20 7 rfl
theorem dX9_worst_3 : decode cX9_worst 3 = .ok (.istore 4, 2) := dk_at dkB02decX1_20 8 rfl
theorem dX9_worst_5 : decode cX9_worst 5 = .ok (.iload 4, 2) := dk_at dkB02decX1_20 9 rfl
theorem dX9_worst_7 : decode cX9_worst 7 = .ok (.bipush 24, 2) := dk_at dkB02decX1_20 10 rfl
theorem dX9_worst_9 : decode cX9_worst 9 = .ok (.if_icmp .ge 21, 3) := dk_at dkB02decX1_20 11 rfl
theorem dX9_worst_12 : decode cX9_worst 12 = .ok (.lload_n 2, 1) := dk_at dkB02decX1_20 12 rfl
theorem dX9_worst_13 : decode cX9_worst 13 = .ok (.aload_n 0, 1) := dk_at dkB02decX1_20 13 rfl
theorem dX9_worst_14 : decode cX9_worst 14 = .ok (.iload_n 1, 1) := dk_at dkB02decX1_20 14 rfl
theorem dX9_worst_15 : decode cX9_worst 15 = .ok (.iload 4, 2) := dk_at dkB02decX1_20 15 rfl
theorem dX9_worst_17 : decode cX9_worst 17 = .ok (.invokevirtual 161, 3) := dk_at dkB02decX1_20 16 rfl
theorem dX9_worst_20 : decode cX9_worst 20 = .ok (.invokestatic 165, 3) := dk_at dkB02decX1_20 17 rfl
theorem dX9_worst_23 : decode cX9_worst 23 = .ok (.lstore_n 2, 1) := dk_at dkB02decX1_20 18 rfl
theorem dX9_worst_24 : decode cX9_worst 24 = .ok (.iinc 4 1, 3) := dk_at dkB02decX1_20 19 rfl
theorem dX9_worst_27 : decode cX9_worst 27 = .ok (.goto (-22), 3) := dk_at dkB02decX1_20 20 rfl
theorem dX9_worst_30 : decode cX9_worst 30 = .ok (.lload_n 2, 1) := dk_at dkB02decX1_20 21 rfl
theorem dX9_worst_31 : decode cX9_worst 31 = .ok (.lreturn, 1) := dk_at dkB02decX1_20 22 rfl
theorem dX9_endOf_0 : decode cX9_endOf 0 = .ok (.iconst 0, 1) := dk_at dkB02decX1_20 23 rfl
theorem dX9_endOf_1 : decode cX9_endOf 1 = .ok (.istore_n 3, 1) := dk_at dkB02decX1_20 24 rfl
theorem dX9_endOf_2 : decode cX9_endOf 2 = .ok (.iconst 0, 1) := dk_at dkB02decX1_20 25 rfl
theorem dX9_endOf_3 : decode cX9_endOf 3 = .ok (.istore 4, 2) := dk_at dkB02decX1_20 26 rfl
theorem dX9_endOf_5 : decode cX9_endOf 5 = .ok (.iload 4, 2) := dk_at dkB02decX1_20 27 rfl
theorem dX9_endOf_7 : decode cX9_endOf 7 = .ok (.bipush 24, 2) := dk_at dkB02decX1_20 28 rfl
theorem dX9_endOf_9 : decode cX9_endOf 9 = .ok (.if_icmp .ge 40, 3) := dk_at dkB02decX1_20 29 rfl
theorem dX9_endOf_12 : decode cX9_endOf 12 = .ok (.iload_n 2, 1) := dk_at dkB02decX1_20 30 rfl
theorem dX9_endOf_13 : decode cX9_endOf 13 = .ok (.ifCond .ne 11, 3) := dk_at dkB02decX1_20 31 rfl
theorem dX9_endOf_16 : decode cX9_endOf 16 = .ok (.bipush 23, 2) := dk_at dkB02decX1_20 32 rfl
theorem dX9_endOf_18 : decode cX9_endOf 18 = .ok (.iload 4, 2) := dk_at dkB02decX1_20 33 rfl
theorem dX9_endOf_20 : decode cX9_endOf 20 = .ok (.isub, 1) := dk_at dkB02decX1_20 34 rfl
theorem dX9_endOf_21 : decode cX9_endOf 21 = .ok (.goto 5, 3) := dk_at dkB02decX1_20 35 rfl
theorem dX9_endOf_24 : decode cX9_endOf 24 = .ok (.iload 4, 2) := dk_at dkB02decX1_20 36 rfl
theorem dX9_endOf_26 : decode cX9_endOf 26 = .ok (.istore 5, 2) := dk_at dkB02decX1_20 37 rfl
theorem dX9_endOf_28 : decode cX9_endOf 28 = .ok (.aload_n 0, 1) := dk_at dkB02decX1_20 38 rfl
theorem dX9_endOf_29 : decode cX9_endOf 29 = .ok (.iload_n 1, 1) := dk_at dkB02decX1_20 39 rfl
theorem dX9_endOf_30 : decode cX9_endOf 30 = .ok (.iload 5, 2) := dk_at dkB02decX1_20 40 rfl
theorem dX9_endOf_32 : decode cX9_endOf 32 = .ok (.invokevirtual 161, 3) := dk_at dkB02decX1_20 41 rfl
theorem dX9_endOf_35 : decode cX9_endOf 35 = .ok (.lconst 0, 1) := dk_at dkB02decX1_20 42 rfl
theorem dX9_endOf_36 : decode cX9_endOf 36 = .ok (.lcmp, 1) := dk_at dkB02decX1_20 43 rfl
theorem dX9_endOf_37 : decode cX9_endOf 37 = .ok (.ifCond .le 6, 3) := dk_at dkB02decX1_20 44 rfl
theorem dX9_endOf_40 : decode cX9_endOf 40 = .ok (.iload 5, 2) := dk_at dkB02decX1_20 45 rfl
theorem dX9_endOf_42 : decode cX9_endOf 42 = .ok (.istore_n 3, 1) := dk_at dkB02decX1_20 46 rfl
theorem dX9_endOf_43 : decode cX9_endOf 43 = .ok (.iinc 4 1, 3) := dk_at dkB02decX1_20 47 rfl
theorem dX9_endOf_46 : decode cX9_endOf 46 = .ok (.goto (-41), 3) := dk_at dkB02decX1_20 48 rfl
theorem dX9_endOf_49 : decode cX9_endOf 49 = .ok (.iload_n 3, 1) := dk_at dkB02decX1_20 49 rfl
theorem dX9_endOf_50 : decode cX9_endOf 50 = .ok (.ireturn, 1) := dk_at dkB02decX1_20 50 rfl
theorem dX9_measure_0 : decode cX9_measure 0 = .ok (.aload_n 0, 1) := dk_at dkB02decX1_20 51 rfl
theorem dX9_measure_1 : decode cX9_measure 1 = .ok (.getfield 41, 3) := dk_at dkB02decX1_20 52 rfl
theorem dX9_measure_4 : decode cX9_measure 4 = .ok (.lconst 0, 1) := dk_at dkB02decX1_20 53 rfl
theorem dX9_measure_5 : decode cX9_measure 5 = .ok (.invokestatic 125, 3) := dk_at dkB02decX1_20 54 rfl
theorem dX9_measure_8 : decode cX9_measure 8 = .ok (.aload_n 0, 1) := dk_at dkB02decX1_20 55 rfl
theorem dX9_measure_9 : decode cX9_measure 9 = .ok (.getfield 18, 3) := dk_at dkB02decX1_20 56 rfl
theorem dX9_measure_12 : decode cX9_measure 12 = .ok (.iload_n 1, 1) := dk_at dkB02decX1_20 57 rfl
theorem dX9_measure_13 : decode cX9_measure 13 = .ok (.iaload, 1) := dk_at dkB02decX1_20 58 rfl
theorem dX9_measure_14 : decode cX9_measure 14 = .ok (.istore_n 3, 1) := dk_at dkB02decX1_20 59 rfl
noncomputable def dkL02decX1_21 : List (ByteArray × Nat × Instr × Nat) := [(cX9_measure, 15, (.iload_n 3, 1)), (cX9_measure, 16, (.aload_n 0, 1)), (cX9_measure, 17, (.getfield 21, 3)), (cX9_measure, 20, (.iload_n 1, 1)), (cX9_measure, 21, (.iaload, 1)), (cX9_measure, 22, (.if_icmp .gt 16, 3)), (cX9_measure, 25, (.aload_n 0, 1)), (cX9_measure, 26, (.iload_n 1, 1)), (cX9_measure, 27, (.iload_n 2, 1)), (cX9_measure, 28, (.iload_n 3, 1)), (cX9_measure, 29, (.invokevirtual 168, 3)), (cX9_measure, 32, (.iinc 3 1, 3)), (cX9_measure, 35, (.goto (-20), 3)), (cX9_measure, 38, (.return_, 1)), (cX9_measureFrom, 0, (.aload_n 0, 1)), (cX9_measureFrom, 1, (.getfield 48, 3)), (cX9_measureFrom, 4, (.astore 4, 2)), (cX9_measureFrom, 6, (.aload_n 0, 1)), (cX9_measureFrom, 7, (.getfield 51, 3)), (cX9_measureFrom, 10, (.astore 5, 2)), (cX9_measureFrom, 12, (.aload 4, 2)), (cX9_measureFrom, 14, (.lconst 0, 1)), (cX9_measureFrom, 15, (.invokestatic 125, 3)), (cX9_measureFrom, 18, (.iconst 0, 1)), (cX9_measureFrom, 19, (.istore 6, 2)), (cX9_measureFrom, 21, (.iload 6, 2)), (cX9_measureFrom, 23, (.aload_n 0, 1)), (cX9_measureFrom, 24, (.getfield 60, 3)), (cX9_measureFrom, 27, (.if_icmp .ge 31, 3)), (cX9_measureFrom, 30, (.aload 4, 2)), (cX9_measureFrom, 32, (.iload_n 3, 1)), (cX9_measureFrom, 33, (.iconst 4, 1)), (cX9_measureFrom, 34, (.imul, 1)), (cX9_measureFrom, 35, (.iload 6, 2)), (cX9_measureFrom, 37, (.iadd, 1)), (cX9_measureFrom, 38, (.aload_n 0, 1)), (cX9_measureFrom, 39, (.getfield 35, 3)), (cX9_measureFrom, 42, (.iload_n 1, 1)), (cX9_measureFrom, 43, (.aaload, 1)), (cX9_measureFrom, 44, (.iload_n 3, 1)), (cX9_measureFrom, 45, (.iconst 4, 1)), (cX9_measureFrom, 46, (.imul, 1)), (cX9_measureFrom, 47, (.iload 6, 2)), (cX9_measureFrom, 49, (.iadd, 1)), (cX9_measureFrom, 50, (.laload, 1)), (cX9_measureFrom, 51, (.lastore, 1)), (cX9_measureFrom, 52, (.iinc 6 1, 3)), (cX9_measureFrom, 55, (.goto (-34), 3)), (cX9_measureFrom, 58, (.iload_n 1, 1)), (cX9_measureFrom, 59, (.iconst 1, 1)), (cX9_measureFrom, 60, (.iadd, 1)), (cX9_measureFrom, 61, (.istore 6, 2)), (cX9_measureFrom, 63, (.iload 6, 2)), (cX9_measureFrom, 65, (.iload_n 2, 1)), (cX9_measureFrom, 66, (.if_icmp .gt 41, 3)), (cX9_measureFrom, 69, (.aload 5, 2)), (cX9_measureFrom, 71, (.lconst 0, 1)), (cX9_measureFrom, 72, (.invokestatic 125, 3)), (cX9_measureFrom, 75, (.aload_n 0, 1)), (cX9_measureFrom, 76, (.aload 4, 2))]
theorem dkB02decX1_21 : dkL02decX1_21.all (fun q => decide (decode q.1 q.2.1 = .ok q.2.2)) = true := by decide +kernel
theorem dX9_measure_15 : decode cX9_measure 15 = .ok (.iload_n 3, 1) := dk_at dkB02decX1_21 0 rfl
theorem dX9_measure_16 : decode cX9_measure 16 = .ok (.aload_n 0, 1) := dk_at dkB02decX1_21 1 rfl
theorem dX9_measure_17 : decode cX9_measure 17 = .ok (.getfield 21, 3) := dk_at dkB02decX1_21 2 rfl
theorem dX9_measure_20 : decode cX9_measure 20 = .ok (.iload_n 1, 1) := dk_at dkB02decX1_21 3 rfl
theorem dX9_measure_21 : decode cX9_measure 21 = .ok (.iaload, 1) := dk_at dkB02decX1_21 4 rfl
theorem dX9_measure_22 : decode cX9_measure 22 = .ok (.if_icmp .gt 16, 3) := dk_at dkB02decX1_21 5 rfl
theorem dX9_measure_25 : decode cX9_measure 25 = .ok (.aload_n 0, 1) := dk_at dkB02decX1_21 6 rfl
theorem dX9_measure_26 : decode cX9_measure 26 = .ok (.iload_n 1, 1) := dk_at dkB02decX1_21 7 rfl
theorem dX9_measure_27 : decode cX9_measure 27 = .ok (.iload_n 2, 1) := dk_at dkB02decX1_21 8 rfl
theorem dX9_measure_28 : decode cX9_measure 28 = .ok (.iload_n 3, 1) := dk_at dkB02decX1_21 9 rfl
theorem dX9_measure_29 : decode cX9_measure 29 = .ok (.invokevirtual 168, 3) := dk_at dkB02decX1_21 10 rfl
theorem dX9_measure_32 : decode cX9_measure 32 = .ok (.iinc 3 1, 3) := dk_at dkB02decX1_21 11 rfl
theorem dX9_measure_35 : decode cX9_measure 35 = .ok (.goto (-20), 3) := dk_at dkB02decX1_21 12 rfl
theorem dX9_measure_38 : decode cX9_measure 38 = .ok (.return_, 1) := dk_at dkB02decX1_21 13 rfl
theorem dX9_measureFrom_0 : decode cX9_measureFrom 0 = .ok (.aload_n 0, 1) := dk_at dkB02decX1_21 14 rfl
theorem dX9_measureFrom_1 : decode cX9_measureFrom 1 = .ok (.getfield 48, 3) := dk_at dkB02decX1_21 15 rfl
theorem dX9_measureFrom_4 : decode cX9_measureFrom 4 = .ok (.astore 4, 2) := dk_at dkB02decX1_21 16 rfl
theorem dX9_measureFrom_6 : decode cX9_measureFrom 6 = .ok (.aload_n 0, 1) := dk_at dkB02decX1_21 17 rfl
theorem dX9_measureFrom_7 : decode cX9_measureFrom 7 = .ok (.getfield 51, 3) := dk_at dkB02decX1_21 18 rfl
theorem dX9_measureFrom_10 : decode cX9_measureFrom 10 = .ok (.astore 5, 2) := dk_at dkB02decX1_21 19 rfl
theorem dX9_measureFrom_12 : decode cX9_measureFrom 12 = .ok (.aload 4, 2) := dk_at dkB02decX1_21 20 rfl
theorem dX9_measureFrom_14 : decode cX9_measureFrom 14 = .ok (.lconst 0, 1) := dk_at dkB02decX1_21 21 rfl
theorem dX9_measureFrom_15 : decode cX9_measureFrom 15 = .ok (.invokestatic 125, 3) := dk_at dkB02decX1_21 22 rfl
theorem dX9_measureFrom_18 : decode cX9_measureFrom 18 = .ok (.iconst 0, 1) := dk_at dkB02decX1_21 23 rfl
theorem dX9_measureFrom_19 : decode cX9_measureFrom 19 = .ok (.istore 6, 2) := dk_at dkB02decX1_21 24 rfl
theorem dX9_measureFrom_21 : decode cX9_measureFrom 21 = .ok (.iload 6, 2) := dk_at dkB02decX1_21 25 rfl
theorem dX9_measureFrom_23 : decode cX9_measureFrom 23 = .ok (.aload_n 0, 1) := dk_at dkB02decX1_21 26 rfl
theorem dX9_measureFrom_24 : decode cX9_measureFrom 24 = .ok (.getfield 60, 3) := dk_at dkB02decX1_21 27 rfl
theorem dX9_measureFrom_27 : decode cX9_measureFrom 27 = .ok (.if_icmp .ge 31, 3) := dk_at dkB02decX1_21 28 rfl
theorem dX9_measureFrom_30 : decode cX9_measureFrom 30 = .ok (.aload 4, 2) := dk_at dkB02decX1_21 29 rfl
theorem dX9_measureFrom_32 : decode cX9_measureFrom 32 = .ok (.iload_n 3, 1) := dk_at dkB02decX1_21 30 rfl
theorem dX9_measureFrom_33 : decode cX9_measureFrom 33 = .ok (.iconst 4, 1) := dk_at dkB02decX1_21 31 rfl
theorem dX9_measureFrom_34 : decode cX9_measureFrom 34 = .ok (.imul, 1) := dk_at dkB02decX1_21 32 rfl
theorem dX9_measureFrom_35 : decode cX9_measureFrom 35 = .ok (.iload 6, 2) := dk_at dkB02decX1_21 33 rfl
theorem dX9_measureFrom_37 : decode cX9_measureFrom 37 = .ok (.iadd, 1) := dk_at dkB02decX1_21 34 rfl
theorem dX9_measureFrom_38 : decode cX9_measureFrom 38 = .ok (.aload_n 0, 1) := dk_at dkB02decX1_21 35 rfl
theorem dX9_measureFrom_39 : decode cX9_measureFrom 39 = .ok (.getfield 35, 3) := dk_at dkB02decX1_21 36 rfl
theorem dX9_measureFrom_42 : decode cX9_measureFrom 42 = .ok (.iload_n 1, 1) := dk_at dkB02decX1_21 37 rfl
theorem dX9_measureFrom_43 : decode cX9_measureFrom 43 = .ok (.aaload, 1) := dk_at dkB02decX1_21 38 rfl
theorem dX9_measureFrom_44 : decode cX9_measureFrom 44 = .ok (.iload_n 3, 1) := dk_at dkB02decX1_21 39 rfl
theorem dX9_measureFrom_45 : decode cX9_measureFrom 45 = .ok (.iconst 4, 1) := dk_at dkB02decX1_21 40 rfl
theorem dX9_measureFrom_46 : decode cX9_measureFrom 46 = .ok (.imul, 1) := dk_at dkB02decX1_21 41 rfl
theorem dX9_measureFrom_47 : decode cX9_measureFrom 47 = .ok (.iload 6, 2) := dk_at dkB02decX1_21 42 rfl
theorem dX9_measureFrom_49 : decode cX9_measureFrom 49 = .ok (.iadd, 1) := dk_at dkB02decX1_21 43 rfl
theorem dX9_measureFrom_50 : decode cX9_measureFrom 50 = .ok (.laload, 1) := dk_at dkB02decX1_21 44 rfl
theorem dX9_measureFrom_51 : decode cX9_measureFrom 51 = .ok (.lastore, 1) := dk_at dkB02decX1_21 45 rfl
theorem dX9_measureFrom_52 : decode cX9_measureFrom 52 = .ok (.iinc 6 1, 3) := dk_at dkB02decX1_21 46 rfl
theorem dX9_measureFrom_55 : decode cX9_measureFrom 55 = .ok (.goto (-34), 3) := dk_at dkB02decX1_21 47 rfl
theorem dX9_measureFrom_58 : decode cX9_measureFrom 58 = .ok (.iload_n 1, 1) := dk_at dkB02decX1_21 48 rfl
theorem dX9_measureFrom_59 : decode cX9_measureFrom 59 = .ok (.iconst 1, 1) := dk_at dkB02decX1_21 49 rfl
theorem dX9_measureFrom_60 : decode cX9_measureFrom 60 = .ok (.iadd, 1) := dk_at dkB02decX1_21 50 rfl
theorem dX9_measureFrom_61 : decode cX9_measureFrom 61 = .ok (.istore 6, 2) := dk_at dkB02decX1_21 51 rfl
theorem dX9_measureFrom_63 : decode cX9_measureFrom 63 = .ok (.iload 6, 2) := dk_at dkB02decX1_21 52 rfl
theorem dX9_measureFrom_65 : decode cX9_measureFrom 65 = .ok (.iload_n 2, 1) := dk_at dkB02decX1_21 53 rfl
theorem dX9_measureFrom_66 : decode cX9_measureFrom 66 = .ok (.if_icmp .gt 41, 3) := dk_at dkB02decX1_21 54 rfl
theorem dX9_measureFrom_69 : decode cX9_measureFrom 69 = .ok (.aload 5, 2) := dk_at dkB02decX1_21 55 rfl
theorem dX9_measureFrom_71 : decode cX9_measureFrom 71 = .ok (.lconst 0, 1) := dk_at dkB02decX1_21 56 rfl
theorem dX9_measureFrom_72 : decode cX9_measureFrom 72 = .ok (.invokestatic 125, 3) := dk_at dkB02decX1_21 57 rfl
theorem dX9_measureFrom_75 : decode cX9_measureFrom 75 = .ok (.aload_n 0, 1) := dk_at dkB02decX1_21 58 rfl
theorem dX9_measureFrom_76 : decode cX9_measureFrom 76 = .ok (.aload 4, 2) := dk_at dkB02decX1_21 59 rfl
noncomputable def dkL02decX1_22 : List (ByteArray × Nat × Instr × Nat) := [(cX9_measureFrom, 78, (.aload 5, 2)), (cX9_measureFrom, 80, (.iload 6, 2)), (cX9_measureFrom, 82, (.aload_n 0, 1)), (cX9_measureFrom, 83, (.getfield 45, 3)), (cX9_measureFrom, 86, (.invokevirtual 135, 3)), (cX9_measureFrom, 89, (.aload 4, 2)), (cX9_measureFrom, 91, (.astore 7, 2)), (cX9_measureFrom, 93, (.aload 5, 2)), (cX9_measureFrom, 95, (.astore 4, 2)), (cX9_measureFrom, 97, (.aload 7, 2)), (cX9_measureFrom, 99, (.astore 5, 2)), (cX9_measureFrom, 101, (.iinc 6 1, 3)), (cX9_measureFrom, 104, (.goto (-41), 3)), (cX9_measureFrom, 107, (.iload_n 3, 1)), (cX9_measureFrom, 108, (.istore 6, 2)), (cX9_measureFrom, 110, (.iload 6, 2)), (cX9_measureFrom, 112, (.bipush 24, 2)), (cX9_measureFrom, 114, (.if_icmp .ge 30, 3)), (cX9_measureFrom, 117, (.aload_n 0, 1)), (cX9_measureFrom, 118, (.getfield 41, 3)), (cX9_measureFrom, 121, (.iload 6, 2)), (cX9_measureFrom, 123, (.iload_n 3, 1)), (cX9_measureFrom, 124, (.isub, 1)), (cX9_measureFrom, 125, (.dup2, 1)), (cX9_measureFrom, 126, (.laload, 1)), (cX9_measureFrom, 127, (.aload_n 0, 1)), (cX9_measureFrom, 128, (.aload 4, 2)), (cX9_measureFrom, 130, (.iload_n 2, 1)), (cX9_measureFrom, 131, (.iload 6, 2)), (cX9_measureFrom, 133, (.invokevirtual 158, 3)), (cX9_measureFrom, 136, (.ladd, 1)), (cX9_measureFrom, 137, (.lastore, 1)), (cX9_measureFrom, 138, (.iinc 6 1, 3)), (cX9_measureFrom, 141, (.goto (-31), 3)), (cX9_measureFrom, 144, (.return_, 1)), (cX9_distanceEnd, 0, (.iconst 0, 1)), (cX9_distanceEnd, 1, (.istore_n 2, 1)), (cX9_distanceEnd, 2, (.iconst 0, 1)), (cX9_distanceEnd, 3, (.istore_n 3, 1)), (cX9_distanceEnd, 4, (.iload_n 3, 1)), (cX9_distanceEnd, 5, (.bipush 24, 2)), (cX9_distanceEnd, 7, (.if_icmp .ge 38, 3)), (cX9_distanceEnd, 10, (.iload_n 1, 1)), (cX9_distanceEnd, 11, (.ifCond .ne 10, 3)), (cX9_distanceEnd, 14, (.bipush 23, 2)), (cX9_distanceEnd, 16, (.iload_n 3, 1)), (cX9_distanceEnd, 17, (.isub, 1)), (cX9_distanceEnd, 18, (.goto 4, 3)), (cX9_distanceEnd, 21, (.iload_n 3, 1)), (cX9_distanceEnd, 22, (.istore 4, 2)), (cX9_distanceEnd, 24, (.aload_n 0, 1)), (cX9_distanceEnd, 25, (.getfield 41, 3)), (cX9_distanceEnd, 28, (.iload 4, 2)), (cX9_distanceEnd, 30, (.laload, 1)), (cX9_distanceEnd, 31, (.lconst 0, 1)), (cX9_distanceEnd, 32, (.lcmp, 1)), (cX9_distanceEnd, 33, (.ifCond .le 6, 3)), (cX9_distanceEnd, 36, (.iload 4, 2)), (cX9_distanceEnd, 38, (.istore_n 2, 1)), (cX9_distanceEnd, 39, (.iinc 3 1, 3))]
theorem dkB02decX1_22 : dkL02decX1_22.all (fun q => decide (decode q.1 q.2.1 = .ok q.2.2)) = true := by decide +kernel
theorem dX9_measureFrom_78 : decode cX9_measureFrom 78 = .ok (.aload 5, 2) := dk_at dkB02decX1_22 0 rfl
theorem dX9_measureFrom_80 : decode cX9_measureFrom 80 = .ok (.iload 6, 2) := dk_at dkB02decX1_22 1 rfl
theorem dX9_measureFrom_82 : decode cX9_measureFrom 82 = .ok (.aload_n 0, 1) := dk_at dkB02decX1_22 2 rfl
theorem dX9_measureFrom_83 : decode cX9_measureFrom 83 = .ok (.getfield 45, 3) := dk_at dkB02decX1_22 3 rfl
theorem dX9_measureFrom_86 : decode cX9_measureFrom 86 = .ok (.invokevirtual 135, 3) := dk_at dkB02decX1_22 4 rfl
theorem dX9_measureFrom_89 : decode cX9_measureFrom 89 = .ok (.aload 4, 2) := dk_at dkB02decX1_22 5 rfl
theorem dX9_measureFrom_91 : decode cX9_measureFrom 91 = .ok (.astore 7, 2) := dk_at dkB02decX1_22 6 rfl
theorem dX9_measureFrom_93 : decode cX9_measureFrom 93 = .ok (.aload 5, 2) := dk_at dkB02decX1_22 7 rfl
theorem dX9_measureFrom_95 : decode cX9_measureFrom 95 = .ok (.astore 4, 2) := dk_at dkB02decX1_22 8 rfl
theorem dX9_measureFrom_97 : decode cX9_measureFrom 97 = .ok (.aload 7, 2) := dk_at dkB02decX1_22 9 rfl
theorem dX9_measureFrom_99 : decode cX9_measureFrom 99 = .ok (.astore 5, 2) := dk_at dkB02decX1_22 10 rfl
theorem dX9_measureFrom_101 : decode cX9_measureFrom 101 = .ok (.iinc 6 1, 3) := dk_at dkB02decX1_22 11 rfl
theorem dX9_measureFrom_104 : decode cX9_measureFrom 104 = .ok (.goto (-41), 3) := dk_at dkB02decX1_22 12 rfl
theorem dX9_measureFrom_107 : decode cX9_measureFrom 107 = .ok (.iload_n 3, 1) := dk_at dkB02decX1_22 13 rfl
theorem dX9_measureFrom_108 : decode cX9_measureFrom 108 = .ok (.istore 6, 2) := dk_at dkB02decX1_22 14 rfl
theorem dX9_measureFrom_110 : decode cX9_measureFrom 110 = .ok (.iload 6, 2) := dk_at dkB02decX1_22 15 rfl
theorem dX9_measureFrom_112 : decode cX9_measureFrom 112 = .ok (.bipush 24, 2) := dk_at dkB02decX1_22 16 rfl
theorem dX9_measureFrom_114 : decode cX9_measureFrom 114 = .ok (.if_icmp .ge 30, 3) := dk_at dkB02decX1_22 17 rfl
theorem dX9_measureFrom_117 : decode cX9_measureFrom 117 = .ok (.aload_n 0, 1) := dk_at dkB02decX1_22 18 rfl
theorem dX9_measureFrom_118 : decode cX9_measureFrom 118 = .ok (.getfield 41, 3) := dk_at dkB02decX1_22 19 rfl
theorem dX9_measureFrom_121 : decode cX9_measureFrom 121 = .ok (.iload 6, 2) := dk_at dkB02decX1_22 20 rfl
theorem dX9_measureFrom_123 : decode cX9_measureFrom 123 = .ok (.iload_n 3, 1) := dk_at dkB02decX1_22 21 rfl
theorem dX9_measureFrom_124 : decode cX9_measureFrom 124 = .ok (.isub, 1) := dk_at dkB02decX1_22 22 rfl
theorem dX9_measureFrom_125 : decode cX9_measureFrom 125 = .ok (.dup2, 1) := dk_at dkB02decX1_22 23 rfl
theorem dX9_measureFrom_126 : decode cX9_measureFrom 126 = .ok (.laload, 1) := dk_at dkB02decX1_22 24 rfl
theorem dX9_measureFrom_127 : decode cX9_measureFrom 127 = .ok (.aload_n 0, 1) := dk_at dkB02decX1_22 25 rfl
theorem dX9_measureFrom_128 : decode cX9_measureFrom 128 = .ok (.aload 4, 2) := dk_at dkB02decX1_22 26 rfl
theorem dX9_measureFrom_130 : decode cX9_measureFrom 130 = .ok (.iload_n 2, 1) := dk_at dkB02decX1_22 27 rfl
theorem dX9_measureFrom_131 : decode cX9_measureFrom 131 = .ok (.iload 6, 2) := dk_at dkB02decX1_22 28 rfl
theorem dX9_measureFrom_133 : decode cX9_measureFrom 133 = .ok (.invokevirtual 158, 3) := dk_at dkB02decX1_22 29 rfl
theorem dX9_measureFrom_136 : decode cX9_measureFrom 136 = .ok (.ladd, 1) := dk_at dkB02decX1_22 30 rfl
theorem dX9_measureFrom_137 : decode cX9_measureFrom 137 = .ok (.lastore, 1) := dk_at dkB02decX1_22 31 rfl
theorem dX9_measureFrom_138 : decode cX9_measureFrom 138 = .ok (.iinc 6 1, 3) := dk_at dkB02decX1_22 32 rfl
theorem dX9_measureFrom_141 : decode cX9_measureFrom 141 = .ok (.goto (-31), 3) := dk_at dkB02decX1_22 33 rfl
theorem dX9_measureFrom_144 : decode cX9_measureFrom 144 = .ok (.return_, 1) := dk_at dkB02decX1_22 34 rfl
theorem dX9_distanceEnd_0 : decode cX9_distanceEnd 0 = .ok (.iconst 0, 1) := dk_at dkB02decX1_22 35 rfl
theorem dX9_distanceEnd_1 : decode cX9_distanceEnd 1 = .ok (.istore_n 2, 1) := dk_at dkB02decX1_22 36 rfl
theorem dX9_distanceEnd_2 : decode cX9_distanceEnd 2 = .ok (.iconst 0, 1) := dk_at dkB02decX1_22 37 rfl
theorem dX9_distanceEnd_3 : decode cX9_distanceEnd 3 = .ok (.istore_n 3, 1) := dk_at dkB02decX1_22 38 rfl
theorem dX9_distanceEnd_4 : decode cX9_distanceEnd 4 = .ok (.iload_n 3, 1) := dk_at dkB02decX1_22 39 rfl
theorem dX9_distanceEnd_5 : decode cX9_distanceEnd 5 = .ok (.bipush 24, 2) := dk_at dkB02decX1_22 40 rfl
theorem dX9_distanceEnd_7 : decode cX9_distanceEnd 7 = .ok (.if_icmp .ge 38, 3) := dk_at dkB02decX1_22 41 rfl
theorem dX9_distanceEnd_10 : decode cX9_distanceEnd 10 = .ok (.iload_n 1, 1) := dk_at dkB02decX1_22 42 rfl
theorem dX9_distanceEnd_11 : decode cX9_distanceEnd 11 = .ok (.ifCond .ne 10, 3) := dk_at dkB02decX1_22 43 rfl
theorem dX9_distanceEnd_14 : decode cX9_distanceEnd 14 = .ok (.bipush 23, 2) := dk_at dkB02decX1_22 44 rfl
theorem dX9_distanceEnd_16 : decode cX9_distanceEnd 16 = .ok (.iload_n 3, 1) := dk_at dkB02decX1_22 45 rfl
theorem dX9_distanceEnd_17 : decode cX9_distanceEnd 17 = .ok (.isub, 1) := dk_at dkB02decX1_22 46 rfl
theorem dX9_distanceEnd_18 : decode cX9_distanceEnd 18 = .ok (.goto 4, 3) := dk_at dkB02decX1_22 47 rfl
theorem dX9_distanceEnd_21 : decode cX9_distanceEnd 21 = .ok (.iload_n 3, 1) := dk_at dkB02decX1_22 48 rfl
theorem dX9_distanceEnd_22 : decode cX9_distanceEnd 22 = .ok (.istore 4, 2) := dk_at dkB02decX1_22 49 rfl
theorem dX9_distanceEnd_24 : decode cX9_distanceEnd 24 = .ok (.aload_n 0, 1) := dk_at dkB02decX1_22 50 rfl
theorem dX9_distanceEnd_25 : decode cX9_distanceEnd 25 = .ok (.getfield 41, 3) := dk_at dkB02decX1_22 51 rfl
theorem dX9_distanceEnd_28 : decode cX9_distanceEnd 28 = .ok (.iload 4, 2) := dk_at dkB02decX1_22 52 rfl
theorem dX9_distanceEnd_30 : decode cX9_distanceEnd 30 = .ok (.laload, 1) := dk_at dkB02decX1_22 53 rfl
theorem dX9_distanceEnd_31 : decode cX9_distanceEnd 31 = .ok (.lconst 0, 1) := dk_at dkB02decX1_22 54 rfl
theorem dX9_distanceEnd_32 : decode cX9_distanceEnd 32 = .ok (.lcmp, 1) := dk_at dkB02decX1_22 55 rfl
theorem dX9_distanceEnd_33 : decode cX9_distanceEnd 33 = .ok (.ifCond .le 6, 3) := dk_at dkB02decX1_22 56 rfl
theorem dX9_distanceEnd_36 : decode cX9_distanceEnd 36 = .ok (.iload 4, 2) := dk_at dkB02decX1_22 57 rfl
theorem dX9_distanceEnd_38 : decode cX9_distanceEnd 38 = .ok (.istore_n 2, 1) := dk_at dkB02decX1_22 58 rfl
theorem dX9_distanceEnd_39 : decode cX9_distanceEnd 39 = .ok (.iinc 3 1, 3) := dk_at dkB02decX1_22 59 rfl
noncomputable def dkL02decX1_23 : List (ByteArray × Nat × Instr × Nat) := [(cX9_distanceEnd, 42, (.goto (-38), 3)), (cX9_distanceEnd, 45, (.iload_n 2, 1)), (cX9_distanceEnd, 46, (.ireturn, 1)), (cX9_firstWrong, 0, (.iconst 0, 1)), (cX9_firstWrong, 1, (.istore_n 3, 1)), (cX9_firstWrong, 2, (.iconst 0, 1)), (cX9_firstWrong, 3, (.istore 4, 2)), (cX9_firstWrong, 5, (.iload 4, 2)), (cX9_firstWrong, 7, (.aload_n 0, 1)), (cX9_firstWrong, 8, (.getfield 81, 3)), (cX9_firstWrong, 11, (.if_icmp .ge 96, 3)), (cX9_firstWrong, 14, (.aload_n 1, 1)), (cX9_firstWrong, 15, (.iload_n 2, 1)), (cX9_firstWrong, 16, (.iload 4, 2)), (cX9_firstWrong, 18, (.iadd, 1)), (cX9_firstWrong, 19, (.iaload, 1)), (cX9_firstWrong, 20, (.istore 5, 2)), (cX9_firstWrong, 22, (.iload 5, 2)), (cX9_firstWrong, 24, (.aload_n 0, 1)), (cX9_firstWrong, 25, (.getfield 18, 3)), (cX9_firstWrong, 28, (.iload 4, 2)), (cX9_firstWrong, 30, (.iaload, 1)), (cX9_firstWrong, 31, (.aload_n 0, 1)), (cX9_firstWrong, 32, (.getfield 21, 3)), (cX9_firstWrong, 35, (.iload 4, 2)), (cX9_firstWrong, 37, (.iaload, 1)), (cX9_firstWrong, 38, (.invokestatic 154, 3)), (cX9_firstWrong, 41, (.ifCond .ne 6, 3)), (cX9_firstWrong, 44, (.iload 4, 2)), (cX9_firstWrong, 46, (.ireturn, 1)), (cX9_firstWrong, 47, (.iload 4, 2)), (cX9_firstWrong, 49, (.ifCond .le 26, 3)), (cX9_firstWrong, 52, (.aload_n 0, 1)), (cX9_firstWrong, 53, (.aload_n 1, 1)), (cX9_firstWrong, 54, (.iload_n 2, 1)), (cX9_firstWrong, 55, (.iload 4, 2)), (cX9_firstWrong, 57, (.iadd, 1)), (cX9_firstWrong, 58, (.iconst 1, 1)), (cX9_firstWrong, 59, (.isub, 1)), (cX9_firstWrong, 60, (.iaload, 1)), (cX9_firstWrong, 61, (.iload_n 3, 1)), (cX9_firstWrong, 62, (.iload 5, 2)), (cX9_firstWrong, 64, (.iload 4, 2)), (cX9_firstWrong, 66, (.invokevirtual 172, 3)), (cX9_firstWrong, 69, (.ifCond .ne 6, 3)), (cX9_firstWrong, 72, (.iload 4, 2)), (cX9_firstWrong, 74, (.ireturn, 1)), (cX9_firstWrong, 75, (.iload 4, 2)), (cX9_firstWrong, 77, (.ifCond .le 22, 3)), (cX9_firstWrong, 80, (.aload_n 1, 1)), (cX9_firstWrong, 81, (.iload_n 2, 1)), (cX9_firstWrong, 82, (.iload 4, 2)), (cX9_firstWrong, 84, (.iadd, 1)), (cX9_firstWrong, 85, (.iconst 1, 1)), (cX9_firstWrong, 86, (.isub, 1)), (cX9_firstWrong, 87, (.iaload, 1)), (cX9_firstWrong, 88, (.iload 5, 2)), (cX9_firstWrong, 90, (.if_icmp .ne 9, 3)), (cX9_firstWrong, 93, (.iload_n 3, 1)), (cX9_firstWrong, 94, (.iconst 1, 1))]
theorem dkB02decX1_23 : dkL02decX1_23.all (fun q => decide (decode q.1 q.2.1 = .ok q.2.2)) = true := by decide +kernel
theorem dX9_distanceEnd_42 : decode cX9_distanceEnd 42 = .ok (.goto (-38), 3) := dk_at dkB02decX1_23 0 rfl
theorem dX9_distanceEnd_45 : decode cX9_distanceEnd 45 = .ok (.iload_n 2, 1) := dk_at dkB02decX1_23 1 rfl
theorem dX9_distanceEnd_46 : decode cX9_distanceEnd 46 = .ok (.ireturn, 1) := dk_at dkB02decX1_23 2 rfl
theorem dX9_firstWrong_0 : decode cX9_firstWrong 0 = .ok (.iconst 0, 1) := dk_at dkB02decX1_23 3 rfl
theorem dX9_firstWrong_1 : decode cX9_firstWrong 1 = .ok (.istore_n 3, 1) := dk_at dkB02decX1_23 4 rfl
theorem dX9_firstWrong_2 : decode cX9_firstWrong 2 = .ok (.iconst 0, 1) := dk_at dkB02decX1_23 5 rfl
theorem dX9_firstWrong_3 : decode cX9_firstWrong 3 = .ok (.istore 4, 2) := dk_at dkB02decX1_23 6 rfl
theorem dX9_firstWrong_5 : decode cX9_firstWrong 5 = .ok (.iload 4, 2) := dk_at dkB02decX1_23 7 rfl
theorem dX9_firstWrong_7 : decode cX9_firstWrong 7 = .ok (.aload_n 0, 1) := dk_at dkB02decX1_23 8 rfl
theorem dX9_firstWrong_8 : decode cX9_firstWrong 8 = .ok (.getfield 81, 3) := dk_at dkB02decX1_23 9 rfl
theorem dX9_firstWrong_11 : decode cX9_firstWrong 11 = .ok (.if_icmp .ge 96, 3) := dk_at dkB02decX1_23 10 rfl
theorem dX9_firstWrong_14 : decode cX9_firstWrong 14 = .ok (.aload_n 1, 1) := dk_at dkB02decX1_23 11 rfl
theorem dX9_firstWrong_15 : decode cX9_firstWrong 15 = .ok (.iload_n 2, 1) := dk_at dkB02decX1_23 12 rfl
theorem dX9_firstWrong_16 : decode cX9_firstWrong 16 = .ok (.iload 4, 2) := dk_at dkB02decX1_23 13 rfl
theorem dX9_firstWrong_18 : decode cX9_firstWrong 18 = .ok (.iadd, 1) := dk_at dkB02decX1_23 14 rfl
theorem dX9_firstWrong_19 : decode cX9_firstWrong 19 = .ok (.iaload, 1) := dk_at dkB02decX1_23 15 rfl
theorem dX9_firstWrong_20 : decode cX9_firstWrong 20 = .ok (.istore 5, 2) := dk_at dkB02decX1_23 16 rfl
theorem dX9_firstWrong_22 : decode cX9_firstWrong 22 = .ok (.iload 5, 2) := dk_at dkB02decX1_23 17 rfl
theorem dX9_firstWrong_24 : decode cX9_firstWrong 24 = .ok (.aload_n 0, 1) := dk_at dkB02decX1_23 18 rfl
theorem dX9_firstWrong_25 : decode cX9_firstWrong 25 = .ok (.getfield 18, 3) := dk_at dkB02decX1_23 19 rfl
theorem dX9_firstWrong_28 : decode cX9_firstWrong 28 = .ok (.iload 4, 2) := dk_at dkB02decX1_23 20 rfl
theorem dX9_firstWrong_30 : decode cX9_firstWrong 30 = .ok (.iaload, 1) := dk_at dkB02decX1_23 21 rfl
theorem dX9_firstWrong_31 : decode cX9_firstWrong 31 = .ok (.aload_n 0, 1) := dk_at dkB02decX1_23 22 rfl
theorem dX9_firstWrong_32 : decode cX9_firstWrong 32 = .ok (.getfield 21, 3) := dk_at dkB02decX1_23 23 rfl
theorem dX9_firstWrong_35 : decode cX9_firstWrong 35 = .ok (.iload 4, 2) := dk_at dkB02decX1_23 24 rfl
theorem dX9_firstWrong_37 : decode cX9_firstWrong 37 = .ok (.iaload, 1) := dk_at dkB02decX1_23 25 rfl
theorem dX9_firstWrong_38 : decode cX9_firstWrong 38 = .ok (.invokestatic 154, 3) := dk_at dkB02decX1_23 26 rfl
theorem dX9_firstWrong_41 : decode cX9_firstWrong 41 = .ok (.ifCond .ne 6, 3) := dk_at dkB02decX1_23 27 rfl
theorem dX9_firstWrong_44 : decode cX9_firstWrong 44 = .ok (.iload 4, 2) := dk_at dkB02decX1_23 28 rfl
theorem dX9_firstWrong_46 : decode cX9_firstWrong 46 = .ok (.ireturn, 1) := dk_at dkB02decX1_23 29 rfl
theorem dX9_firstWrong_47 : decode cX9_firstWrong 47 = .ok (.iload 4, 2) := dk_at dkB02decX1_23 30 rfl
theorem dX9_firstWrong_49 : decode cX9_firstWrong 49 = .ok (.ifCond .le 26, 3) := dk_at dkB02decX1_23 31 rfl
theorem dX9_firstWrong_52 : decode cX9_firstWrong 52 = .ok (.aload_n 0, 1) := dk_at dkB02decX1_23 32 rfl
theorem dX9_firstWrong_53 : decode cX9_firstWrong 53 = .ok (.aload_n 1, 1) := dk_at dkB02decX1_23 33 rfl
theorem dX9_firstWrong_54 : decode cX9_firstWrong 54 = .ok (.iload_n 2, 1) := dk_at dkB02decX1_23 34 rfl
theorem dX9_firstWrong_55 : decode cX9_firstWrong 55 = .ok (.iload 4, 2) := dk_at dkB02decX1_23 35 rfl
theorem dX9_firstWrong_57 : decode cX9_firstWrong 57 = .ok (.iadd, 1) := dk_at dkB02decX1_23 36 rfl
theorem dX9_firstWrong_58 : decode cX9_firstWrong 58 = .ok (.iconst 1, 1) := dk_at dkB02decX1_23 37 rfl
theorem dX9_firstWrong_59 : decode cX9_firstWrong 59 = .ok (.isub, 1) := dk_at dkB02decX1_23 38 rfl
theorem dX9_firstWrong_60 : decode cX9_firstWrong 60 = .ok (.iaload, 1) := dk_at dkB02decX1_23 39 rfl
theorem dX9_firstWrong_61 : decode cX9_firstWrong 61 = .ok (.iload_n 3, 1) := dk_at dkB02decX1_23 40 rfl
theorem dX9_firstWrong_62 : decode cX9_firstWrong 62 = .ok (.iload 5, 2) := dk_at dkB02decX1_23 41 rfl
theorem dX9_firstWrong_64 : decode cX9_firstWrong 64 = .ok (.iload 4, 2) := dk_at dkB02decX1_23 42 rfl
theorem dX9_firstWrong_66 : decode cX9_firstWrong 66 = .ok (.invokevirtual 172, 3) := dk_at dkB02decX1_23 43 rfl
theorem dX9_firstWrong_69 : decode cX9_firstWrong 69 = .ok (.ifCond .ne 6, 3) := dk_at dkB02decX1_23 44 rfl
theorem dX9_firstWrong_72 : decode cX9_firstWrong 72 = .ok (.iload 4, 2) := dk_at dkB02decX1_23 45 rfl
theorem dX9_firstWrong_74 : decode cX9_firstWrong 74 = .ok (.ireturn, 1) := dk_at dkB02decX1_23 46 rfl
theorem dX9_firstWrong_75 : decode cX9_firstWrong 75 = .ok (.iload 4, 2) := dk_at dkB02decX1_23 47 rfl
theorem dX9_firstWrong_77 : decode cX9_firstWrong 77 = .ok (.ifCond .le 22, 3) := dk_at dkB02decX1_23 48 rfl
theorem dX9_firstWrong_80 : decode cX9_firstWrong 80 = .ok (.aload_n 1, 1) := dk_at dkB02decX1_23 49 rfl
theorem dX9_firstWrong_81 : decode cX9_firstWrong 81 = .ok (.iload_n 2, 1) := dk_at dkB02decX1_23 50 rfl
theorem dX9_firstWrong_82 : decode cX9_firstWrong 82 = .ok (.iload 4, 2) := dk_at dkB02decX1_23 51 rfl
theorem dX9_firstWrong_84 : decode cX9_firstWrong 84 = .ok (.iadd, 1) := dk_at dkB02decX1_23 52 rfl
theorem dX9_firstWrong_85 : decode cX9_firstWrong 85 = .ok (.iconst 1, 1) := dk_at dkB02decX1_23 53 rfl
theorem dX9_firstWrong_86 : decode cX9_firstWrong 86 = .ok (.isub, 1) := dk_at dkB02decX1_23 54 rfl
theorem dX9_firstWrong_87 : decode cX9_firstWrong 87 = .ok (.iaload, 1) := dk_at dkB02decX1_23 55 rfl
theorem dX9_firstWrong_88 : decode cX9_firstWrong 88 = .ok (.iload 5, 2) := dk_at dkB02decX1_23 56 rfl
theorem dX9_firstWrong_90 : decode cX9_firstWrong 90 = .ok (.if_icmp .ne 9, 3) := dk_at dkB02decX1_23 57 rfl
theorem dX9_firstWrong_93 : decode cX9_firstWrong 93 = .ok (.iload_n 3, 1) := dk_at dkB02decX1_23 58 rfl
theorem dX9_firstWrong_94 : decode cX9_firstWrong 94 = .ok (.iconst 1, 1) := dk_at dkB02decX1_23 59 rfl
noncomputable def dkL02decX1_24 : List (ByteArray × Nat × Instr × Nat) := [(cX9_firstWrong, 95, (.iadd, 1)), (cX9_firstWrong, 96, (.goto 4, 3)), (cX9_firstWrong, 99, (.iconst 1, 1)), (cX9_firstWrong, 100, (.istore_n 3, 1)), (cX9_firstWrong, 101, (.iinc 4 1, 3)), (cX9_firstWrong, 104, (.goto (-99), 3)), (cX9_firstWrong, 107, (.iconst (-1), 1)), (cX9_firstWrong, 108, (.ireturn, 1)), (cX9_follows, 0, (.iload_n 3, 1)), (cX9_follows, 1, (.iload_n 1, 1)), (cX9_follows, 2, (.if_icmp .ne 27, 3)), (cX9_follows, 5, (.aload_n 0, 1)), (cX9_follows, 6, (.getfield 24, 3)), (cX9_follows, 9, (.iload 4, 2)), (cX9_follows, 11, (.iaload, 1)), (cX9_follows, 12, (.ifCond .ne 15, 3)), (cX9_follows, 15, (.iload_n 2, 1)), (cX9_follows, 16, (.aload_n 0, 1)), (cX9_follows, 17, (.getfield 60, 3)), (cX9_follows, 20, (.if_icmp .ge 7, 3)), (cX9_follows, 23, (.iconst 1, 1)), (cX9_follows, 24, (.goto 4, 3)), (cX9_follows, 27, (.iconst 0, 1)), (cX9_follows, 28, (.ireturn, 1)), (cX9_follows, 29, (.iload_n 3, 1)), (cX9_follows, 30, (.iload_n 1, 1)), (cX9_follows, 31, (.isub, 1)), (cX9_follows, 32, (.iconst 1, 1)), (cX9_follows, 33, (.aload_n 0, 1)), (cX9_follows, 34, (.getfield 24, 3)), (cX9_follows, 37, (.iload 4, 2)), (cX9_follows, 39, (.iaload, 1)), (cX9_follows, 40, (.invokestatic 102, 3)), (cX9_follows, 43, (.aload_n 0, 1)), (cX9_follows, 44, (.getfield 27, 3)), (cX9_follows, 47, (.iload 4, 2)), (cX9_follows, 49, (.iaload, 1)), (cX9_follows, 50, (.invokestatic 154, 3)), (cX9_follows, 53, (.ifCond .eq 18, 3)), (cX9_follows, 56, (.iload_n 2, 1)), (cX9_follows, 57, (.aload_n 0, 1)), (cX9_follows, 58, (.getfield 30, 3)), (cX9_follows, 61, (.iload 4, 2)), (cX9_follows, 63, (.iaload, 1)), (cX9_follows, 64, (.if_icmp .lt 7, 3)), (cX9_follows, 67, (.iconst 1, 1)), (cX9_follows, 68, (.goto 4, 3)), (cX9_follows, 71, (.iconst 0, 1)), (cX9_follows, 72, (.ireturn, 1)), (cX10_init, 0, (.aload_n 0, 1)), (cX10_init, 1, (.invokespecial 3, 3)), (cX10_init, 4, (.aload_n 0, 1)), (cX10_init, 5, (.new 9, 3)), (cX10_init, 8, (.dup, 1)), (cX10_init, 9, (.invokespecial 11, 3)), (cX10_init, 12, (.putfield 12, 3)), (cX10_init, 15, (.aload_n 0, 1)), (cX10_init, 16, (.new 9, 3)), (cX10_init, 19, (.dup, 1)), (cX10_init, 20, (.invokespecial 11, 3))]
theorem dkB02decX1_24 : dkL02decX1_24.all (fun q => decide (decode q.1 q.2.1 = .ok q.2.2)) = true := by decide +kernel
theorem dX9_firstWrong_95 : decode cX9_firstWrong 95 = .ok (.iadd, 1) := dk_at dkB02decX1_24 0 rfl
theorem dX9_firstWrong_96 : decode cX9_firstWrong 96 = .ok (.goto 4, 3) := dk_at dkB02decX1_24 1 rfl
theorem dX9_firstWrong_99 : decode cX9_firstWrong 99 = .ok (.iconst 1, 1) := dk_at dkB02decX1_24 2 rfl
theorem dX9_firstWrong_100 : decode cX9_firstWrong 100 = .ok (.istore_n 3, 1) := dk_at dkB02decX1_24 3 rfl
theorem dX9_firstWrong_101 : decode cX9_firstWrong 101 = .ok (.iinc 4 1, 3) := dk_at dkB02decX1_24 4 rfl
theorem dX9_firstWrong_104 : decode cX9_firstWrong 104 = .ok (.goto (-99), 3) := dk_at dkB02decX1_24 5 rfl
theorem dX9_firstWrong_107 : decode cX9_firstWrong 107 = .ok (.iconst (-1), 1) := dk_at dkB02decX1_24 6 rfl
theorem dX9_firstWrong_108 : decode cX9_firstWrong 108 = .ok (.ireturn, 1) := dk_at dkB02decX1_24 7 rfl
theorem dX9_follows_0 : decode cX9_follows 0 = .ok (.iload_n 3, 1) := dk_at dkB02decX1_24 8 rfl
theorem dX9_follows_1 : decode cX9_follows 1 = .ok (.iload_n 1, 1) := dk_at dkB02decX1_24 9 rfl
theorem dX9_follows_2 : decode cX9_follows 2 = .ok (.if_icmp .ne 27, 3) := dk_at dkB02decX1_24 10 rfl
theorem dX9_follows_5 : decode cX9_follows 5 = .ok (.aload_n 0, 1) := dk_at dkB02decX1_24 11 rfl
theorem dX9_follows_6 : decode cX9_follows 6 = .ok (.getfield 24, 3) := dk_at dkB02decX1_24 12 rfl
theorem dX9_follows_9 : decode cX9_follows 9 = .ok (.iload 4, 2) := dk_at dkB02decX1_24 13 rfl
theorem dX9_follows_11 : decode cX9_follows 11 = .ok (.iaload, 1) := dk_at dkB02decX1_24 14 rfl
theorem dX9_follows_12 : decode cX9_follows 12 = .ok (.ifCond .ne 15, 3) := dk_at dkB02decX1_24 15 rfl
theorem dX9_follows_15 : decode cX9_follows 15 = .ok (.iload_n 2, 1) := dk_at dkB02decX1_24 16 rfl
theorem dX9_follows_16 : decode cX9_follows 16 = .ok (.aload_n 0, 1) := dk_at dkB02decX1_24 17 rfl
theorem dX9_follows_17 : decode cX9_follows 17 = .ok (.getfield 60, 3) := dk_at dkB02decX1_24 18 rfl
theorem dX9_follows_20 : decode cX9_follows 20 = .ok (.if_icmp .ge 7, 3) := dk_at dkB02decX1_24 19 rfl
theorem dX9_follows_23 : decode cX9_follows 23 = .ok (.iconst 1, 1) := dk_at dkB02decX1_24 20 rfl
theorem dX9_follows_24 : decode cX9_follows 24 = .ok (.goto 4, 3) := dk_at dkB02decX1_24 21 rfl
theorem dX9_follows_27 : decode cX9_follows 27 = .ok (.iconst 0, 1) := dk_at dkB02decX1_24 22 rfl
theorem dX9_follows_28 : decode cX9_follows 28 = .ok (.ireturn, 1) := dk_at dkB02decX1_24 23 rfl
theorem dX9_follows_29 : decode cX9_follows 29 = .ok (.iload_n 3, 1) := dk_at dkB02decX1_24 24 rfl
theorem dX9_follows_30 : decode cX9_follows 30 = .ok (.iload_n 1, 1) := dk_at dkB02decX1_24 25 rfl
theorem dX9_follows_31 : decode cX9_follows 31 = .ok (.isub, 1) := dk_at dkB02decX1_24 26 rfl
theorem dX9_follows_32 : decode cX9_follows 32 = .ok (.iconst 1, 1) := dk_at dkB02decX1_24 27 rfl
theorem dX9_follows_33 : decode cX9_follows 33 = .ok (.aload_n 0, 1) := dk_at dkB02decX1_24 28 rfl
theorem dX9_follows_34 : decode cX9_follows 34 = .ok (.getfield 24, 3) := dk_at dkB02decX1_24 29 rfl
theorem dX9_follows_37 : decode cX9_follows 37 = .ok (.iload 4, 2) := dk_at dkB02decX1_24 30 rfl
theorem dX9_follows_39 : decode cX9_follows 39 = .ok (.iaload, 1) := dk_at dkB02decX1_24 31 rfl
theorem dX9_follows_40 : decode cX9_follows 40 = .ok (.invokestatic 102, 3) := dk_at dkB02decX1_24 32 rfl
theorem dX9_follows_43 : decode cX9_follows 43 = .ok (.aload_n 0, 1) := dk_at dkB02decX1_24 33 rfl
theorem dX9_follows_44 : decode cX9_follows 44 = .ok (.getfield 27, 3) := dk_at dkB02decX1_24 34 rfl
theorem dX9_follows_47 : decode cX9_follows 47 = .ok (.iload 4, 2) := dk_at dkB02decX1_24 35 rfl
theorem dX9_follows_49 : decode cX9_follows 49 = .ok (.iaload, 1) := dk_at dkB02decX1_24 36 rfl
theorem dX9_follows_50 : decode cX9_follows 50 = .ok (.invokestatic 154, 3) := dk_at dkB02decX1_24 37 rfl
theorem dX9_follows_53 : decode cX9_follows 53 = .ok (.ifCond .eq 18, 3) := dk_at dkB02decX1_24 38 rfl
theorem dX9_follows_56 : decode cX9_follows 56 = .ok (.iload_n 2, 1) := dk_at dkB02decX1_24 39 rfl
theorem dX9_follows_57 : decode cX9_follows 57 = .ok (.aload_n 0, 1) := dk_at dkB02decX1_24 40 rfl
theorem dX9_follows_58 : decode cX9_follows 58 = .ok (.getfield 30, 3) := dk_at dkB02decX1_24 41 rfl
theorem dX9_follows_61 : decode cX9_follows 61 = .ok (.iload 4, 2) := dk_at dkB02decX1_24 42 rfl
theorem dX9_follows_63 : decode cX9_follows 63 = .ok (.iaload, 1) := dk_at dkB02decX1_24 43 rfl
theorem dX9_follows_64 : decode cX9_follows 64 = .ok (.if_icmp .lt 7, 3) := dk_at dkB02decX1_24 44 rfl
theorem dX9_follows_67 : decode cX9_follows 67 = .ok (.iconst 1, 1) := dk_at dkB02decX1_24 45 rfl
theorem dX9_follows_68 : decode cX9_follows 68 = .ok (.goto 4, 3) := dk_at dkB02decX1_24 46 rfl
theorem dX9_follows_71 : decode cX9_follows 71 = .ok (.iconst 0, 1) := dk_at dkB02decX1_24 47 rfl
theorem dX9_follows_72 : decode cX9_follows 72 = .ok (.ireturn, 1) := dk_at dkB02decX1_24 48 rfl
theorem dX10_init_0 : decode cX10_init 0 = .ok (.aload_n 0, 1) := dk_at dkB02decX1_24 49 rfl
theorem dX10_init_1 : decode cX10_init 1 = .ok (.invokespecial 3, 3) := dk_at dkB02decX1_24 50 rfl
theorem dX10_init_4 : decode cX10_init 4 = .ok (.aload_n 0, 1) := dk_at dkB02decX1_24 51 rfl
theorem dX10_init_5 : decode cX10_init 5 = .ok (.new 9, 3) := dk_at dkB02decX1_24 52 rfl
theorem dX10_init_8 : decode cX10_init 8 = .ok (.dup, 1) := dk_at dkB02decX1_24 53 rfl
theorem dX10_init_9 : decode cX10_init 9 = .ok (.invokespecial 11, 3) := dk_at dkB02decX1_24 54 rfl
theorem dX10_init_12 : decode cX10_init 12 = .ok (.putfield 12, 3) := dk_at dkB02decX1_24 55 rfl
theorem dX10_init_15 : decode cX10_init 15 = .ok (.aload_n 0, 1) := dk_at dkB02decX1_24 56 rfl
theorem dX10_init_16 : decode cX10_init 16 = .ok (.new 9, 3) := dk_at dkB02decX1_24 57 rfl
theorem dX10_init_19 : decode cX10_init 19 = .ok (.dup, 1) := dk_at dkB02decX1_24 58 rfl
theorem dX10_init_20 : decode cX10_init 20 = .ok (.invokespecial 11, 3) := dk_at dkB02decX1_24 59 rfl
noncomputable def dkL02decX1_25 : List (ByteArray × Nat × Instr × Nat) := [(cX10_init, 23, (.putfield 16, 3)), (cX10_init, 26, (.aload_n 0, 1)), (cX10_init, 27, (.new 19, 3)), (cX10_init, 30, (.dup, 1)), (cX10_init, 31, (.invokespecial 21, 3)), (cX10_init, 34, (.putfield 22, 3)), (cX10_init, 37, (.aload_n 0, 1)), (cX10_init, 38, (.new 26, 3)), (cX10_init, 41, (.dup, 1)), (cX10_init, 42, (.invokespecial 28, 3)), (cX10_init, 45, (.putfield 29, 3)), (cX10_init, 48, (.aload_n 0, 1)), (cX10_init, 49, (.new 33, 3)), (cX10_init, 52, (.dup, 1)), (cX10_init, 53, (.invokespecial 35, 3)), (cX10_init, 56, (.putfield 36, 3)), (cX10_init, 59, (.aload_n 0, 1)), (cX10_init, 60, (.iconst 4, 1)), (cX10_init, 61, (.anewarray 40, 3)), (cX10_init, 64, (.dup, 1)), (cX10_init, 65, (.iconst 0, 1)), (cX10_init, 66, (.new 40, 3)), (cX10_init, 69, (.dup, 1)), (cX10_init, 70, (.invokespecial 42, 3)), (cX10_init, 73, (.aastore, 1)), (cX10_init, 74, (.dup, 1)), (cX10_init, 75, (.iconst 1, 1)), (cX10_init, 76, (.new 40, 3)), (cX10_init, 79, (.dup, 1)), (cX10_init, 80, (.invokespecial 42, 3)), (cX10_init, 83, (.aastore, 1)), (cX10_init, 84, (.dup, 1)), (cX10_init, 85, (.iconst 2, 1)), (cX10_init, 86, (.new 40, 3)), (cX10_init, 89, (.dup, 1)), (cX10_init, 90, (.invokespecial 42, 3)), (cX10_init, 93, (.aastore, 1)), (cX10_init, 94, (.dup, 1)), (cX10_init, 95, (.iconst 3, 1)), (cX10_init, 96, (.new 40, 3)), (cX10_init, 99, (.dup, 1)), (cX10_init, 100, (.invokespecial 42, 3)), (cX10_init, 103, (.aastore, 1)), (cX10_init, 104, (.putfield 43, 3)), (cX10_init, 107, (.aload_n 0, 1)), (cX10_init, 108, (.iconst 2, 1)), (cX10_init, 109, (.anewarray 47, 3)), (cX10_init, 112, (.dup, 1)), (cX10_init, 113, (.iconst 0, 1)), (cX10_init, 114, (.new 47, 3)), (cX10_init, 117, (.dup, 1)), (cX10_init, 118, (.invokespecial 49, 3)), (cX10_init, 121, (.aastore, 1)), (cX10_init, 122, (.dup, 1)), (cX10_init, 123, (.iconst 1, 1)), (cX10_init, 124, (.new 47, 3)), (cX10_init, 127, (.dup, 1)), (cX10_init, 128, (.invokespecial 49, 3)), (cX10_init, 131, (.aastore, 1)), (cX10_init, 132, (.putfield 50, 3))]
theorem dkB02decX1_25 : dkL02decX1_25.all (fun q => decide (decode q.1 q.2.1 = .ok q.2.2)) = true := by decide +kernel
theorem dX10_init_23 : decode cX10_init 23 = .ok (.putfield 16, 3) := dk_at dkB02decX1_25 0 rfl
theorem dX10_init_26 : decode cX10_init 26 = .ok (.aload_n 0, 1) := dk_at dkB02decX1_25 1 rfl
theorem dX10_init_27 : decode cX10_init 27 = .ok (.new 19, 3) := dk_at dkB02decX1_25 2 rfl
theorem dX10_init_30 : decode cX10_init 30 = .ok (.dup, 1) := dk_at dkB02decX1_25 3 rfl
theorem dX10_init_31 : decode cX10_init 31 = .ok (.invokespecial 21, 3) := dk_at dkB02decX1_25 4 rfl
theorem dX10_init_34 : decode cX10_init 34 = .ok (.putfield 22, 3) := dk_at dkB02decX1_25 5 rfl
theorem dX10_init_37 : decode cX10_init 37 = .ok (.aload_n 0, 1) := dk_at dkB02decX1_25 6 rfl
theorem dX10_init_38 : decode cX10_init 38 = .ok (.new 26, 3) := dk_at dkB02decX1_25 7 rfl
theorem dX10_init_41 : decode cX10_init 41 = .ok (.dup, 1) := dk_at dkB02decX1_25 8 rfl
theorem dX10_init_42 : decode cX10_init 42 = .ok (.invokespecial 28, 3) := dk_at dkB02decX1_25 9 rfl
theorem dX10_init_45 : decode cX10_init 45 = .ok (.putfield 29, 3) := dk_at dkB02decX1_25 10 rfl
theorem dX10_init_48 : decode cX10_init 48 = .ok (.aload_n 0, 1) := dk_at dkB02decX1_25 11 rfl
theorem dX10_init_49 : decode cX10_init 49 = .ok (.new 33, 3) := dk_at dkB02decX1_25 12 rfl
theorem dX10_init_52 : decode cX10_init 52 = .ok (.dup, 1) := dk_at dkB02decX1_25 13 rfl
theorem dX10_init_53 : decode cX10_init 53 = .ok (.invokespecial 35, 3) := dk_at dkB02decX1_25 14 rfl
theorem dX10_init_56 : decode cX10_init 56 = .ok (.putfield 36, 3) := dk_at dkB02decX1_25 15 rfl
theorem dX10_init_59 : decode cX10_init 59 = .ok (.aload_n 0, 1) := dk_at dkB02decX1_25 16 rfl
theorem dX10_init_60 : decode cX10_init 60 = .ok (.iconst 4, 1) := dk_at dkB02decX1_25 17 rfl
theorem dX10_init_61 : decode cX10_init 61 = .ok (.anewarray 40, 3) := dk_at dkB02decX1_25 18 rfl
theorem dX10_init_64 : decode cX10_init 64 = .ok (.dup, 1) := dk_at dkB02decX1_25 19 rfl
theorem dX10_init_65 : decode cX10_init 65 = .ok (.iconst 0, 1) := dk_at dkB02decX1_25 20 rfl
theorem dX10_init_66 : decode cX10_init 66 = .ok (.new 40, 3) := dk_at dkB02decX1_25 21 rfl
theorem dX10_init_69 : decode cX10_init 69 = .ok (.dup, 1) := dk_at dkB02decX1_25 22 rfl
theorem dX10_init_70 : decode cX10_init 70 = .ok (.invokespecial 42, 3) := dk_at dkB02decX1_25 23 rfl
theorem dX10_init_73 : decode cX10_init 73 = .ok (.aastore, 1) := dk_at dkB02decX1_25 24 rfl
theorem dX10_init_74 : decode cX10_init 74 = .ok (.dup, 1) := dk_at dkB02decX1_25 25 rfl
theorem dX10_init_75 : decode cX10_init 75 = .ok (.iconst 1, 1) := dk_at dkB02decX1_25 26 rfl
theorem dX10_init_76 : decode cX10_init 76 = .ok (.new 40, 3) := dk_at dkB02decX1_25 27 rfl
theorem dX10_init_79 : decode cX10_init 79 = .ok (.dup, 1) := dk_at dkB02decX1_25 28 rfl
theorem dX10_init_80 : decode cX10_init 80 = .ok (.invokespecial 42, 3) := dk_at dkB02decX1_25 29 rfl
theorem dX10_init_83 : decode cX10_init 83 = .ok (.aastore, 1) := dk_at dkB02decX1_25 30 rfl
theorem dX10_init_84 : decode cX10_init 84 = .ok (.dup, 1) := dk_at dkB02decX1_25 31 rfl
theorem dX10_init_85 : decode cX10_init 85 = .ok (.iconst 2, 1) := dk_at dkB02decX1_25 32 rfl
theorem dX10_init_86 : decode cX10_init 86 = .ok (.new 40, 3) := dk_at dkB02decX1_25 33 rfl
theorem dX10_init_89 : decode cX10_init 89 = .ok (.dup, 1) := dk_at dkB02decX1_25 34 rfl
theorem dX10_init_90 : decode cX10_init 90 = .ok (.invokespecial 42, 3) := dk_at dkB02decX1_25 35 rfl
theorem dX10_init_93 : decode cX10_init 93 = .ok (.aastore, 1) := dk_at dkB02decX1_25 36 rfl
theorem dX10_init_94 : decode cX10_init 94 = .ok (.dup, 1) := dk_at dkB02decX1_25 37 rfl
theorem dX10_init_95 : decode cX10_init 95 = .ok (.iconst 3, 1) := dk_at dkB02decX1_25 38 rfl
theorem dX10_init_96 : decode cX10_init 96 = .ok (.new 40, 3) := dk_at dkB02decX1_25 39 rfl
theorem dX10_init_99 : decode cX10_init 99 = .ok (.dup, 1) := dk_at dkB02decX1_25 40 rfl
theorem dX10_init_100 : decode cX10_init 100 = .ok (.invokespecial 42, 3) := dk_at dkB02decX1_25 41 rfl
theorem dX10_init_103 : decode cX10_init 103 = .ok (.aastore, 1) := dk_at dkB02decX1_25 42 rfl
theorem dX10_init_104 : decode cX10_init 104 = .ok (.putfield 43, 3) := dk_at dkB02decX1_25 43 rfl
theorem dX10_init_107 : decode cX10_init 107 = .ok (.aload_n 0, 1) := dk_at dkB02decX1_25 44 rfl
theorem dX10_init_108 : decode cX10_init 108 = .ok (.iconst 2, 1) := dk_at dkB02decX1_25 45 rfl
theorem dX10_init_109 : decode cX10_init 109 = .ok (.anewarray 47, 3) := dk_at dkB02decX1_25 46 rfl
theorem dX10_init_112 : decode cX10_init 112 = .ok (.dup, 1) := dk_at dkB02decX1_25 47 rfl
theorem dX10_init_113 : decode cX10_init 113 = .ok (.iconst 0, 1) := dk_at dkB02decX1_25 48 rfl
theorem dX10_init_114 : decode cX10_init 114 = .ok (.new 47, 3) := dk_at dkB02decX1_25 49 rfl
theorem dX10_init_117 : decode cX10_init 117 = .ok (.dup, 1) := dk_at dkB02decX1_25 50 rfl
theorem dX10_init_118 : decode cX10_init 118 = .ok (.invokespecial 49, 3) := dk_at dkB02decX1_25 51 rfl
theorem dX10_init_121 : decode cX10_init 121 = .ok (.aastore, 1) := dk_at dkB02decX1_25 52 rfl
theorem dX10_init_122 : decode cX10_init 122 = .ok (.dup, 1) := dk_at dkB02decX1_25 53 rfl
theorem dX10_init_123 : decode cX10_init 123 = .ok (.iconst 1, 1) := dk_at dkB02decX1_25 54 rfl
theorem dX10_init_124 : decode cX10_init 124 = .ok (.new 47, 3) := dk_at dkB02decX1_25 55 rfl
theorem dX10_init_127 : decode cX10_init 127 = .ok (.dup, 1) := dk_at dkB02decX1_25 56 rfl
theorem dX10_init_128 : decode cX10_init 128 = .ok (.invokespecial 49, 3) := dk_at dkB02decX1_25 57 rfl
theorem dX10_init_131 : decode cX10_init 131 = .ok (.aastore, 1) := dk_at dkB02decX1_25 58 rfl
theorem dX10_init_132 : decode cX10_init 132 = .ok (.putfield 50, 3) := dk_at dkB02decX1_25 59 rfl
noncomputable def dkL02decX1_26 : List (ByteArray × Nat × Instr × Nat) := [(cX10_init, 135, (.aload_n 0, 1)), (cX10_init, 136, (.iconst 2, 1)), (cX10_init, 137, (.newarray .boolean, 2)), (cX10_init, 139, (.putfield 54, 3)), (cX10_init, 142, (.aload_n 0, 1)), (cX10_init, 143, (.new 58, 3)), (cX10_init, 146, (.dup, 1)), (cX10_init, 147, (.invokespecial 60, 3)), (cX10_init, 150, (.putfield 61, 3)), (cX10_init, 153, (.return_, 1)), (cX10_rain, 0, (.iload_n 1, 1)), (cX10_rain, 1, (.invokestatic 65, 3)), (cX10_rain, 4, (.ifCond .eq 20, 3)), (cX10_rain, 7, (.iload_n 2, 1)), (cX10_rain, 8, (.iconst 0, 1)), (cX10_rain, 9, (.iconst 2, 1)), (cX10_rain, 10, (.invokestatic 69, 3)), (cX10_rain, 13, (.ifCond .eq 11, 3)), (cX10_rain, 16, (.iload_n 2, 1)), (cX10_rain, 17, (.iload_n 3, 1)), (cX10_rain, 18, (.invokestatic 73, 3)), (cX10_rain, 21, (.ifCond .ne 7, 3)), (cX10_rain, 24, (.sipush (-1001), 3)), (cX10_rain, 27, (.ireturn, 1)), (cX10_rain, 28, (.aload_n 0, 1)), (cX10_rain, 29, (.getfield 12, 3)), (cX10_rain, 32, (.getfield 79, 3)), (cX10_rain, 35, (.getfield 83, 3)), (cX10_rain, 38, (.iload_n 2, 1)), (cX10_rain, 39, (.aaload, 1)), (cX10_rain, 40, (.iload_n 1, 1)), (cX10_rain, 41, (.iaload, 1)), (cX10_rain, 42, (.istore 4, 2)), (cX10_rain, 44, (.aload_n 0, 1)), (cX10_rain, 45, (.getfield 12, 3)), (cX10_rain, 48, (.getfield 79, 3)), (cX10_rain, 51, (.getfield 83, 3)), (cX10_rain, 54, (.iload_n 2, 1)), (cX10_rain, 55, (.aaload, 1)), (cX10_rain, 56, (.iload_n 1, 1)), (cX10_rain, 57, (.iload_n 3, 1)), (cX10_rain, 58, (.iastore, 1)), (cX10_rain, 59, (.iload 4, 2)), (cX10_rain, 61, (.ireturn, 1)), (cX10_rains, 0, (.iload_n 1, 1)), (cX10_rains, 1, (.iconst 0, 1)), (cX10_rains, 2, (.iconst 2, 1)), (cX10_rains, 3, (.invokestatic 69, 3)), (cX10_rains, 6, (.ifCond .eq 22, 3)), (cX10_rains, 9, (.iload_n 2, 1)), (cX10_rains, 10, (.iload_n 3, 1)), (cX10_rains, 11, (.invokestatic 87, 3)), (cX10_rains, 14, (.ifCond .eq 14, 3)), (cX10_rains, 17, (.iload 5, 2)), (cX10_rains, 19, (.iconst 1, 1)), (cX10_rains, 20, (.bipush 24, 2)), (cX10_rains, 22, (.invokestatic 69, 3)), (cX10_rains, 25, (.ifCond .ne 5, 3)), (cX10_rains, 28, (.iconst (-1), 1)), (cX10_rains, 29, (.ireturn, 1))]
theorem dkB02decX1_26 : dkL02decX1_26.all (fun q => decide (decode q.1 q.2.1 = .ok q.2.2)) = true := by decide +kernel
theorem dX10_init_135 : decode cX10_init 135 = .ok (.aload_n 0, 1) := dk_at dkB02decX1_26 0 rfl
theorem dX10_init_136 : decode cX10_init 136 = .ok (.iconst 2, 1) := dk_at dkB02decX1_26 1 rfl
theorem dX10_init_137 : decode cX10_init 137 = .ok (.newarray .boolean, 2) := dk_at dkB02decX1_26 2 rfl
theorem dX10_init_139 : decode cX10_init 139 = .ok (.putfield 54, 3) := dk_at dkB02decX1_26 3 rfl
theorem dX10_init_142 : decode cX10_init 142 = .ok (.aload_n 0, 1) := dk_at dkB02decX1_26 4 rfl
theorem dX10_init_143 : decode cX10_init 143 = .ok (.new 58, 3) := dk_at dkB02decX1_26 5 rfl
theorem dX10_init_146 : decode cX10_init 146 = .ok (.dup, 1) := dk_at dkB02decX1_26 6 rfl
theorem dX10_init_147 : decode cX10_init 147 = .ok (.invokespecial 60, 3) := dk_at dkB02decX1_26 7 rfl
theorem dX10_init_150 : decode cX10_init 150 = .ok (.putfield 61, 3) := dk_at dkB02decX1_26 8 rfl
theorem dX10_init_153 : decode cX10_init 153 = .ok (.return_, 1) := dk_at dkB02decX1_26 9 rfl
theorem dX10_rain_0 : decode cX10_rain 0 = .ok (.iload_n 1, 1) := dk_at dkB02decX1_26 10 rfl
theorem dX10_rain_1 : decode cX10_rain 1 = .ok (.invokestatic 65, 3) := dk_at dkB02decX1_26 11 rfl
theorem dX10_rain_4 : decode cX10_rain 4 = .ok (.ifCond .eq 20, 3) := dk_at dkB02decX1_26 12 rfl
theorem dX10_rain_7 : decode cX10_rain 7 = .ok (.iload_n 2, 1) := dk_at dkB02decX1_26 13 rfl
theorem dX10_rain_8 : decode cX10_rain 8 = .ok (.iconst 0, 1) := dk_at dkB02decX1_26 14 rfl
theorem dX10_rain_9 : decode cX10_rain 9 = .ok (.iconst 2, 1) := dk_at dkB02decX1_26 15 rfl
theorem dX10_rain_10 : decode cX10_rain 10 = .ok (.invokestatic 69, 3) := dk_at dkB02decX1_26 16 rfl
theorem dX10_rain_13 : decode cX10_rain 13 = .ok (.ifCond .eq 11, 3) := dk_at dkB02decX1_26 17 rfl
theorem dX10_rain_16 : decode cX10_rain 16 = .ok (.iload_n 2, 1) := dk_at dkB02decX1_26 18 rfl
theorem dX10_rain_17 : decode cX10_rain 17 = .ok (.iload_n 3, 1) := dk_at dkB02decX1_26 19 rfl
theorem dX10_rain_18 : decode cX10_rain 18 = .ok (.invokestatic 73, 3) := dk_at dkB02decX1_26 20 rfl
theorem dX10_rain_21 : decode cX10_rain 21 = .ok (.ifCond .ne 7, 3) := dk_at dkB02decX1_26 21 rfl
theorem dX10_rain_24 : decode cX10_rain 24 = .ok (.sipush (-1001), 3) := dk_at dkB02decX1_26 22 rfl
theorem dX10_rain_27 : decode cX10_rain 27 = .ok (.ireturn, 1) := dk_at dkB02decX1_26 23 rfl
theorem dX10_rain_28 : decode cX10_rain 28 = .ok (.aload_n 0, 1) := dk_at dkB02decX1_26 24 rfl
theorem dX10_rain_29 : decode cX10_rain 29 = .ok (.getfield 12, 3) := dk_at dkB02decX1_26 25 rfl
theorem dX10_rain_32 : decode cX10_rain 32 = .ok (.getfield 79, 3) := dk_at dkB02decX1_26 26 rfl
theorem dX10_rain_35 : decode cX10_rain 35 = .ok (.getfield 83, 3) := dk_at dkB02decX1_26 27 rfl
theorem dX10_rain_38 : decode cX10_rain 38 = .ok (.iload_n 2, 1) := dk_at dkB02decX1_26 28 rfl
theorem dX10_rain_39 : decode cX10_rain 39 = .ok (.aaload, 1) := dk_at dkB02decX1_26 29 rfl
theorem dX10_rain_40 : decode cX10_rain 40 = .ok (.iload_n 1, 1) := dk_at dkB02decX1_26 30 rfl
theorem dX10_rain_41 : decode cX10_rain 41 = .ok (.iaload, 1) := dk_at dkB02decX1_26 31 rfl
theorem dX10_rain_42 : decode cX10_rain 42 = .ok (.istore 4, 2) := dk_at dkB02decX1_26 32 rfl
theorem dX10_rain_44 : decode cX10_rain 44 = .ok (.aload_n 0, 1) := dk_at dkB02decX1_26 33 rfl
theorem dX10_rain_45 : decode cX10_rain 45 = .ok (.getfield 12, 3) := dk_at dkB02decX1_26 34 rfl
theorem dX10_rain_48 : decode cX10_rain 48 = .ok (.getfield 79, 3) := dk_at dkB02decX1_26 35 rfl
theorem dX10_rain_51 : decode cX10_rain 51 = .ok (.getfield 83, 3) := dk_at dkB02decX1_26 36 rfl
theorem dX10_rain_54 : decode cX10_rain 54 = .ok (.iload_n 2, 1) := dk_at dkB02decX1_26 37 rfl
theorem dX10_rain_55 : decode cX10_rain 55 = .ok (.aaload, 1) := dk_at dkB02decX1_26 38 rfl
theorem dX10_rain_56 : decode cX10_rain 56 = .ok (.iload_n 1, 1) := dk_at dkB02decX1_26 39 rfl
theorem dX10_rain_57 : decode cX10_rain 57 = .ok (.iload_n 3, 1) := dk_at dkB02decX1_26 40 rfl
theorem dX10_rain_58 : decode cX10_rain 58 = .ok (.iastore, 1) := dk_at dkB02decX1_26 41 rfl
theorem dX10_rain_59 : decode cX10_rain 59 = .ok (.iload 4, 2) := dk_at dkB02decX1_26 42 rfl
theorem dX10_rain_61 : decode cX10_rain 61 = .ok (.ireturn, 1) := dk_at dkB02decX1_26 43 rfl
theorem dX10_rains_0 : decode cX10_rains 0 = .ok (.iload_n 1, 1) := dk_at dkB02decX1_26 44 rfl
theorem dX10_rains_1 : decode cX10_rains 1 = .ok (.iconst 0, 1) := dk_at dkB02decX1_26 45 rfl
theorem dX10_rains_2 : decode cX10_rains 2 = .ok (.iconst 2, 1) := dk_at dkB02decX1_26 46 rfl
theorem dX10_rains_3 : decode cX10_rains 3 = .ok (.invokestatic 69, 3) := dk_at dkB02decX1_26 47 rfl
theorem dX10_rains_6 : decode cX10_rains 6 = .ok (.ifCond .eq 22, 3) := dk_at dkB02decX1_26 48 rfl
theorem dX10_rains_9 : decode cX10_rains 9 = .ok (.iload_n 2, 1) := dk_at dkB02decX1_26 49 rfl
theorem dX10_rains_10 : decode cX10_rains 10 = .ok (.iload_n 3, 1) := dk_at dkB02decX1_26 50 rfl
theorem dX10_rains_11 : decode cX10_rains 11 = .ok (.invokestatic 87, 3) := dk_at dkB02decX1_26 51 rfl
theorem dX10_rains_14 : decode cX10_rains 14 = .ok (.ifCond .eq 14, 3) := dk_at dkB02decX1_26 52 rfl
theorem dX10_rains_17 : decode cX10_rains 17 = .ok (.iload 5, 2) := dk_at dkB02decX1_26 53 rfl
theorem dX10_rains_19 : decode cX10_rains 19 = .ok (.iconst 1, 1) := dk_at dkB02decX1_26 54 rfl
theorem dX10_rains_20 : decode cX10_rains 20 = .ok (.bipush 24, 2) := dk_at dkB02decX1_26 55 rfl
theorem dX10_rains_22 : decode cX10_rains 22 = .ok (.invokestatic 69, 3) := dk_at dkB02decX1_26 56 rfl
theorem dX10_rains_25 : decode cX10_rains 25 = .ok (.ifCond .ne 5, 3) := dk_at dkB02decX1_26 57 rfl
theorem dX10_rains_28 : decode cX10_rains 28 = .ok (.iconst (-1), 1) := dk_at dkB02decX1_26 58 rfl
theorem dX10_rains_29 : decode cX10_rains 29 = .ok (.ireturn, 1) := dk_at dkB02decX1_26 59 rfl
noncomputable def dkL02decX1_27 : List (ByteArray × Nat × Instr × Nat) := [(cX10_rains, 30, (.aload_n 0, 1)), (cX10_rains, 31, (.getfield 43, 3)), (cX10_rains, 34, (.iload_n 2, 1)), (cX10_rains, 35, (.aaload, 1)), (cX10_rains, 36, (.astore 6, 2)), (cX10_rains, 38, (.aload 6, 2)), (cX10_rains, 40, (.iload_n 3, 1)), (cX10_rains, 41, (.iload 4, 2)), (cX10_rains, 43, (.iload 5, 2)), (cX10_rains, 45, (.invokevirtual 90, 3)), (cX10_rains, 48, (.istore 7, 2)), (cX10_rains, 50, (.iload 7, 2)), (cX10_rains, 52, (.ifCond .eq 6, 3)), (cX10_rains, 55, (.iload 7, 2)), (cX10_rains, 57, (.ireturn, 1)), (cX10_rains, 58, (.iconst 0, 1)), (cX10_rains, 59, (.istore 8, 2)), (cX10_rains, 61, (.iload 8, 2)), (cX10_rains, 63, (.iload 5, 2)), (cX10_rains, 65, (.if_icmp .ge 30, 3)), (cX10_rains, 68, (.iload_n 1, 1)), (cX10_rains, 69, (.aload 6, 2)), (cX10_rains, 71, (.getfield 94, 3)), (cX10_rains, 74, (.iload 4, 2)), (cX10_rains, 76, (.iload 8, 2)), (cX10_rains, 78, (.iadd, 1)), (cX10_rains, 79, (.iaload, 1)), (cX10_rains, 80, (.invokestatic 73, 3)), (cX10_rains, 83, (.ifCond .ne 6, 3)), (cX10_rains, 86, (.bipush (-2), 2)), (cX10_rains, 88, (.ireturn, 1)), (cX10_rains, 89, (.iinc 8 1, 3)), (cX10_rains, 92, (.goto (-31), 3)), (cX10_rains, 95, (.iconst 0, 1)), (cX10_rains, 96, (.istore 8, 2)), (cX10_rains, 98, (.iload 8, 2)), (cX10_rains, 100, (.iload 5, 2)), (cX10_rains, 102, (.if_icmp .ge 35, 3)), (cX10_rains, 105, (.aload_n 0, 1)), (cX10_rains, 106, (.getfield 12, 3)), (cX10_rains, 109, (.getfield 79, 3)), (cX10_rains, 112, (.getfield 83, 3)), (cX10_rains, 115, (.iload_n 1, 1)), (cX10_rains, 116, (.aaload, 1)), (cX10_rains, 117, (.iload 8, 2)), (cX10_rains, 119, (.aload 6, 2)), (cX10_rains, 121, (.getfield 94, 3)), (cX10_rains, 124, (.iload 4, 2)), (cX10_rains, 126, (.iload 8, 2)), (cX10_rains, 128, (.iadd, 1)), (cX10_rains, 129, (.iaload, 1)), (cX10_rains, 130, (.iastore, 1)), (cX10_rains, 131, (.iinc 8 1, 3)), (cX10_rains, 134, (.goto (-36), 3)), (cX10_rains, 137, (.iload 5, 2)), (cX10_rains, 139, (.ireturn, 1)), (cX10_set, 0, (.iload_n 1, 1)), (cX10_set, 1, (.iconst 0, 1)), (cX10_set, 2, (.iconst 1, 1)), (cX10_set, 3, (.invokestatic 69, 3))]
theorem dkB02decX1_27 : dkL02decX1_27.all (fun q => decide (decode q.1 q.2.1 = .ok q.2.2)) = true := by decide +kernel
theorem dX10_rains_30 : decode cX10_rains 30 = .ok (.aload_n 0, 1) := dk_at dkB02decX1_27 0 rfl
theorem dX10_rains_31 : decode cX10_rains 31 = .ok (.getfield 43, 3) := dk_at dkB02decX1_27 1 rfl
theorem dX10_rains_34 : decode cX10_rains 34 = .ok (.iload_n 2, 1) := dk_at dkB02decX1_27 2 rfl
theorem dX10_rains_35 : decode cX10_rains 35 = .ok (.aaload, 1) := dk_at dkB02decX1_27 3 rfl
theorem dX10_rains_36 : decode cX10_rains 36 = .ok (.astore 6, 2) := dk_at dkB02decX1_27 4 rfl
theorem dX10_rains_38 : decode cX10_rains 38 = .ok (.aload 6, 2) := dk_at dkB02decX1_27 5 rfl
theorem dX10_rains_40 : decode cX10_rains 40 = .ok (.iload_n 3, 1) := dk_at dkB02decX1_27 6 rfl
theorem dX10_rains_41 : decode cX10_rains 41 = .ok (.iload 4, 2) := dk_at dkB02decX1_27 7 rfl
theorem dX10_rains_43 : decode cX10_rains 43 = .ok (.iload 5, 2) := dk_at dkB02decX1_27 8 rfl
theorem dX10_rains_45 : decode cX10_rains 45 = .ok (.invokevirtual 90, 3) := dk_at dkB02decX1_27 9 rfl
theorem dX10_rains_48 : decode cX10_rains 48 = .ok (.istore 7, 2) := dk_at dkB02decX1_27 10 rfl
theorem dX10_rains_50 : decode cX10_rains 50 = .ok (.iload 7, 2) := dk_at dkB02decX1_27 11 rfl
theorem dX10_rains_52 : decode cX10_rains 52 = .ok (.ifCond .eq 6, 3) := dk_at dkB02decX1_27 12 rfl
theorem dX10_rains_55 : decode cX10_rains 55 = .ok (.iload 7, 2) := dk_at dkB02decX1_27 13 rfl
theorem dX10_rains_57 : decode cX10_rains 57 = .ok (.ireturn, 1) := dk_at dkB02decX1_27 14 rfl
theorem dX10_rains_58 : decode cX10_rains 58 = .ok (.iconst 0, 1) := dk_at dkB02decX1_27 15 rfl
theorem dX10_rains_59 : decode cX10_rains 59 = .ok (.istore 8, 2) := dk_at dkB02decX1_27 16 rfl
theorem dX10_rains_61 : decode cX10_rains 61 = .ok (.iload 8, 2) := dk_at dkB02decX1_27 17 rfl
theorem dX10_rains_63 : decode cX10_rains 63 = .ok (.iload 5, 2) := dk_at dkB02decX1_27 18 rfl
theorem dX10_rains_65 : decode cX10_rains 65 = .ok (.if_icmp .ge 30, 3) := dk_at dkB02decX1_27 19 rfl
theorem dX10_rains_68 : decode cX10_rains 68 = .ok (.iload_n 1, 1) := dk_at dkB02decX1_27 20 rfl
theorem dX10_rains_69 : decode cX10_rains 69 = .ok (.aload 6, 2) := dk_at dkB02decX1_27 21 rfl
theorem dX10_rains_71 : decode cX10_rains 71 = .ok (.getfield 94, 3) := dk_at dkB02decX1_27 22 rfl
theorem dX10_rains_74 : decode cX10_rains 74 = .ok (.iload 4, 2) := dk_at dkB02decX1_27 23 rfl
theorem dX10_rains_76 : decode cX10_rains 76 = .ok (.iload 8, 2) := dk_at dkB02decX1_27 24 rfl
theorem dX10_rains_78 : decode cX10_rains 78 = .ok (.iadd, 1) := dk_at dkB02decX1_27 25 rfl
theorem dX10_rains_79 : decode cX10_rains 79 = .ok (.iaload, 1) := dk_at dkB02decX1_27 26 rfl
theorem dX10_rains_80 : decode cX10_rains 80 = .ok (.invokestatic 73, 3) := dk_at dkB02decX1_27 27 rfl
theorem dX10_rains_83 : decode cX10_rains 83 = .ok (.ifCond .ne 6, 3) := dk_at dkB02decX1_27 28 rfl
theorem dX10_rains_86 : decode cX10_rains 86 = .ok (.bipush (-2), 2) := dk_at dkB02decX1_27 29 rfl
theorem dX10_rains_88 : decode cX10_rains 88 = .ok (.ireturn, 1) := dk_at dkB02decX1_27 30 rfl
theorem dX10_rains_89 : decode cX10_rains 89 = .ok (.iinc 8 1, 3) := dk_at dkB02decX1_27 31 rfl
theorem dX10_rains_92 : decode cX10_rains 92 = .ok (.goto (-31), 3) := dk_at dkB02decX1_27 32 rfl
theorem dX10_rains_95 : decode cX10_rains 95 = .ok (.iconst 0, 1) := dk_at dkB02decX1_27 33 rfl
theorem dX10_rains_96 : decode cX10_rains 96 = .ok (.istore 8, 2) := dk_at dkB02decX1_27 34 rfl
theorem dX10_rains_98 : decode cX10_rains 98 = .ok (.iload 8, 2) := dk_at dkB02decX1_27 35 rfl
theorem dX10_rains_100 : decode cX10_rains 100 = .ok (.iload 5, 2) := dk_at dkB02decX1_27 36 rfl
theorem dX10_rains_102 : decode cX10_rains 102 = .ok (.if_icmp .ge 35, 3) := dk_at dkB02decX1_27 37 rfl
theorem dX10_rains_105 : decode cX10_rains 105 = .ok (.aload_n 0, 1) := dk_at dkB02decX1_27 38 rfl
theorem dX10_rains_106 : decode cX10_rains 106 = .ok (.getfield 12, 3) := dk_at dkB02decX1_27 39 rfl
theorem dX10_rains_109 : decode cX10_rains 109 = .ok (.getfield 79, 3) := dk_at dkB02decX1_27 40 rfl
theorem dX10_rains_112 : decode cX10_rains 112 = .ok (.getfield 83, 3) := dk_at dkB02decX1_27 41 rfl
theorem dX10_rains_115 : decode cX10_rains 115 = .ok (.iload_n 1, 1) := dk_at dkB02decX1_27 42 rfl
theorem dX10_rains_116 : decode cX10_rains 116 = .ok (.aaload, 1) := dk_at dkB02decX1_27 43 rfl
theorem dX10_rains_117 : decode cX10_rains 117 = .ok (.iload 8, 2) := dk_at dkB02decX1_27 44 rfl
theorem dX10_rains_119 : decode cX10_rains 119 = .ok (.aload 6, 2) := dk_at dkB02decX1_27 45 rfl
theorem dX10_rains_121 : decode cX10_rains 121 = .ok (.getfield 94, 3) := dk_at dkB02decX1_27 46 rfl
theorem dX10_rains_124 : decode cX10_rains 124 = .ok (.iload 4, 2) := dk_at dkB02decX1_27 47 rfl
theorem dX10_rains_126 : decode cX10_rains 126 = .ok (.iload 8, 2) := dk_at dkB02decX1_27 48 rfl
theorem dX10_rains_128 : decode cX10_rains 128 = .ok (.iadd, 1) := dk_at dkB02decX1_27 49 rfl
theorem dX10_rains_129 : decode cX10_rains 129 = .ok (.iaload, 1) := dk_at dkB02decX1_27 50 rfl
theorem dX10_rains_130 : decode cX10_rains 130 = .ok (.iastore, 1) := dk_at dkB02decX1_27 51 rfl
theorem dX10_rains_131 : decode cX10_rains 131 = .ok (.iinc 8 1, 3) := dk_at dkB02decX1_27 52 rfl
theorem dX10_rains_134 : decode cX10_rains 134 = .ok (.goto (-36), 3) := dk_at dkB02decX1_27 53 rfl
theorem dX10_rains_137 : decode cX10_rains 137 = .ok (.iload 5, 2) := dk_at dkB02decX1_27 54 rfl
theorem dX10_rains_139 : decode cX10_rains 139 = .ok (.ireturn, 1) := dk_at dkB02decX1_27 55 rfl
theorem dX10_set_0 : decode cX10_set 0 = .ok (.iload_n 1, 1) := dk_at dkB02decX1_27 56 rfl
theorem dX10_set_1 : decode cX10_set 1 = .ok (.iconst 0, 1) := dk_at dkB02decX1_27 57 rfl
theorem dX10_set_2 : decode cX10_set 2 = .ok (.iconst 1, 1) := dk_at dkB02decX1_27 58 rfl
theorem dX10_set_3 : decode cX10_set 3 = .ok (.invokestatic 69, 3) := dk_at dkB02decX1_27 59 rfl
noncomputable def dkL02decX1_28 : List (ByteArray × Nat × Instr × Nat) := [(cX10_set, 6, (.ifCond .eq 21, 3)), (cX10_set, 9, (.iload_n 2, 1)), (cX10_set, 10, (.iconst 1, 1)), (cX10_set, 11, (.iload_n 1, 1)), (cX10_set, 12, (.ifCond .ne 7, 3)), (cX10_set, 15, (.iconst 5, 1)), (cX10_set, 16, (.goto 5, 3)), (cX10_set, 19, (.bipush 9, 2)), (cX10_set, 21, (.invokestatic 69, 3)), (cX10_set, 24, (.ifCond .ne 5, 3)), (cX10_set, 27, (.iconst (-1), 1)), (cX10_set, 28, (.ireturn, 1)), (cX10_set, 29, (.aload_n 0, 1)), (cX10_set, 30, (.getfield 12, 3)), (cX10_set, 33, (.getfield 79, 3)), (cX10_set, 36, (.astore_n 3, 1)), (cX10_set, 37, (.iload_n 1, 1)), (cX10_set, 38, (.ifCond .ne 10, 3)), (cX10_set, 41, (.aload_n 3, 1)), (cX10_set, 42, (.getfield 98, 3)), (cX10_set, 45, (.goto 7, 3)), (cX10_set, 48, (.aload_n 3, 1)), (cX10_set, 49, (.getfield 102, 3)), (cX10_set, 52, (.istore 4, 2)), (cX10_set, 54, (.iload_n 1, 1)), (cX10_set, 55, (.ifCond .ne 11, 3)), (cX10_set, 58, (.aload_n 3, 1)), (cX10_set, 59, (.iload_n 2, 1)), (cX10_set, 60, (.putfield 98, 3)), (cX10_set, 63, (.goto 8, 3)), (cX10_set, 66, (.aload_n 3, 1)), (cX10_set, 67, (.iload_n 2, 1)), (cX10_set, 68, (.putfield 102, 3)), (cX10_set, 71, (.iload 4, 2)), (cX10_set, 73, (.ireturn, 1)), (cX10_wet, 0, (.iload_n 1, 1)), (cX10_wet, 1, (.invokestatic 65, 3)), (cX10_wet, 4, (.ifCond .eq 27, 3)), (cX10_wet, 7, (.aload_n 0, 1)), (cX10_wet, 8, (.getfield 12, 3)), (cX10_wet, 11, (.getfield 79, 3)), (cX10_wet, 14, (.iload_n 1, 1)), (cX10_wet, 15, (.aload_n 0, 1)), (cX10_wet, 16, (.getfield 12, 3)), (cX10_wet, 19, (.getfield 79, 3)), (cX10_wet, 22, (.getfield 98, 3)), (cX10_wet, 25, (.invokevirtual 105, 3)), (cX10_wet, 28, (.goto 4, 3)), (cX10_wet, 31, (.iconst (-1), 1)), (cX10_wet, 32, (.ireturn, 1)), (cX10_water, 0, (.iload_n 1, 1)), (cX10_water, 1, (.invokestatic 65, 3)), (cX10_water, 4, (.ifCond .eq 27, 3)), (cX10_water, 7, (.aload_n 0, 1)), (cX10_water, 8, (.getfield 12, 3)), (cX10_water, 11, (.getfield 79, 3)), (cX10_water, 14, (.iload_n 1, 1)), (cX10_water, 15, (.aload_n 0, 1)), (cX10_water, 16, (.getfield 12, 3)), (cX10_water, 19, (.getfield 79, 3))]
theorem dkB02decX1_28 : dkL02decX1_28.all (fun q => decide (decode q.1 q.2.1 = .ok q.2.2)) = true := by decide +kernel
theorem dX10_set_6 : decode cX10_set 6 = .ok (.ifCond .eq 21, 3) := dk_at dkB02decX1_28 0 rfl
theorem dX10_set_9 : decode cX10_set 9 = .ok (.iload_n 2, 1) := dk_at dkB02decX1_28 1 rfl
theorem dX10_set_10 : decode cX10_set 10 = .ok (.iconst 1, 1) := dk_at dkB02decX1_28 2 rfl
theorem dX10_set_11 : decode cX10_set 11 = .ok (.iload_n 1, 1) := dk_at dkB02decX1_28 3 rfl
theorem dX10_set_12 : decode cX10_set 12 = .ok (.ifCond .ne 7, 3) := dk_at dkB02decX1_28 4 rfl
theorem dX10_set_15 : decode cX10_set 15 = .ok (.iconst 5, 1) := dk_at dkB02decX1_28 5 rfl
theorem dX10_set_16 : decode cX10_set 16 = .ok (.goto 5, 3) := dk_at dkB02decX1_28 6 rfl
theorem dX10_set_19 : decode cX10_set 19 = .ok (.bipush 9, 2) := dk_at dkB02decX1_28 7 rfl
theorem dX10_set_21 : decode cX10_set 21 = .ok (.invokestatic 69, 3) := dk_at dkB02decX1_28 8 rfl
theorem dX10_set_24 : decode cX10_set 24 = .ok (.ifCond .ne 5, 3) := dk_at dkB02decX1_28 9 rfl
theorem dX10_set_27 : decode cX10_set 27 = .ok (.iconst (-1), 1) := dk_at dkB02decX1_28 10 rfl
theorem dX10_set_28 : decode cX10_set 28 = .ok (.ireturn, 1) := dk_at dkB02decX1_28 11 rfl
theorem dX10_set_29 : decode cX10_set 29 = .ok (.aload_n 0, 1) := dk_at dkB02decX1_28 12 rfl
theorem dX10_set_30 : decode cX10_set 30 = .ok (.getfield 12, 3) := dk_at dkB02decX1_28 13 rfl
theorem dX10_set_33 : decode cX10_set 33 = .ok (.getfield 79, 3) := dk_at dkB02decX1_28 14 rfl
theorem dX10_set_36 : decode cX10_set 36 = .ok (.astore_n 3, 1) := dk_at dkB02decX1_28 15 rfl
theorem dX10_set_37 : decode cX10_set 37 = .ok (.iload_n 1, 1) := dk_at dkB02decX1_28 16 rfl
theorem dX10_set_38 : decode cX10_set 38 = .ok (.ifCond .ne 10, 3) := dk_at dkB02decX1_28 17 rfl
theorem dX10_set_41 : decode cX10_set 41 = .ok (.aload_n 3, 1) := dk_at dkB02decX1_28 18 rfl
theorem dX10_set_42 : decode cX10_set 42 = .ok (.getfield 98, 3) := dk_at dkB02decX1_28 19 rfl
theorem dX10_set_45 : decode cX10_set 45 = .ok (.goto 7, 3) := dk_at dkB02decX1_28 20 rfl
theorem dX10_set_48 : decode cX10_set 48 = .ok (.aload_n 3, 1) := dk_at dkB02decX1_28 21 rfl
theorem dX10_set_49 : decode cX10_set 49 = .ok (.getfield 102, 3) := dk_at dkB02decX1_28 22 rfl
theorem dX10_set_52 : decode cX10_set 52 = .ok (.istore 4, 2) := dk_at dkB02decX1_28 23 rfl
theorem dX10_set_54 : decode cX10_set 54 = .ok (.iload_n 1, 1) := dk_at dkB02decX1_28 24 rfl
theorem dX10_set_55 : decode cX10_set 55 = .ok (.ifCond .ne 11, 3) := dk_at dkB02decX1_28 25 rfl
theorem dX10_set_58 : decode cX10_set 58 = .ok (.aload_n 3, 1) := dk_at dkB02decX1_28 26 rfl
theorem dX10_set_59 : decode cX10_set 59 = .ok (.iload_n 2, 1) := dk_at dkB02decX1_28 27 rfl
theorem dX10_set_60 : decode cX10_set 60 = .ok (.putfield 98, 3) := dk_at dkB02decX1_28 28 rfl
theorem dX10_set_63 : decode cX10_set 63 = .ok (.goto 8, 3) := dk_at dkB02decX1_28 29 rfl
theorem dX10_set_66 : decode cX10_set 66 = .ok (.aload_n 3, 1) := dk_at dkB02decX1_28 30 rfl
theorem dX10_set_67 : decode cX10_set 67 = .ok (.iload_n 2, 1) := dk_at dkB02decX1_28 31 rfl
theorem dX10_set_68 : decode cX10_set 68 = .ok (.putfield 102, 3) := dk_at dkB02decX1_28 32 rfl
theorem dX10_set_71 : decode cX10_set 71 = .ok (.iload 4, 2) := dk_at dkB02decX1_28 33 rfl
theorem dX10_set_73 : decode cX10_set 73 = .ok (.ireturn, 1) := dk_at dkB02decX1_28 34 rfl
theorem dX10_wet_0 : decode cX10_wet 0 = .ok (.iload_n 1, 1) := dk_at dkB02decX1_28 35 rfl
theorem dX10_wet_1 : decode cX10_wet 1 = .ok (.invokestatic 65, 3) := dk_at dkB02decX1_28 36 rfl
theorem dX10_wet_4 : decode cX10_wet 4 = .ok (.ifCond .eq 27, 3) := dk_at dkB02decX1_28 37 rfl
theorem dX10_wet_7 : decode cX10_wet 7 = .ok (.aload_n 0, 1) := dk_at dkB02decX1_28 38 rfl
theorem dX10_wet_8 : decode cX10_wet 8 = .ok (.getfield 12, 3) := dk_at dkB02decX1_28 39 rfl
theorem dX10_wet_11 : decode cX10_wet 11 = .ok (.getfield 79, 3) := dk_at dkB02decX1_28 40 rfl
theorem dX10_wet_14 : decode cX10_wet 14 = .ok (.iload_n 1, 1) := dk_at dkB02decX1_28 41 rfl
theorem dX10_wet_15 : decode cX10_wet 15 = .ok (.aload_n 0, 1) := dk_at dkB02decX1_28 42 rfl
theorem dX10_wet_16 : decode cX10_wet 16 = .ok (.getfield 12, 3) := dk_at dkB02decX1_28 43 rfl
theorem dX10_wet_19 : decode cX10_wet 19 = .ok (.getfield 79, 3) := dk_at dkB02decX1_28 44 rfl
theorem dX10_wet_22 : decode cX10_wet 22 = .ok (.getfield 98, 3) := dk_at dkB02decX1_28 45 rfl
theorem dX10_wet_25 : decode cX10_wet 25 = .ok (.invokevirtual 105, 3) := dk_at dkB02decX1_28 46 rfl
theorem dX10_wet_28 : decode cX10_wet 28 = .ok (.goto 4, 3) := dk_at dkB02decX1_28 47 rfl
theorem dX10_wet_31 : decode cX10_wet 31 = .ok (.iconst (-1), 1) := dk_at dkB02decX1_28 48 rfl
theorem dX10_wet_32 : decode cX10_wet 32 = .ok (.ireturn, 1) := dk_at dkB02decX1_28 49 rfl
theorem dX10_water_0 : decode cX10_water 0 = .ok (.iload_n 1, 1) := dk_at dkB02decX1_28 50 rfl
theorem dX10_water_1 : decode cX10_water 1 = .ok (.invokestatic 65, 3) := dk_at dkB02decX1_28 51 rfl
theorem dX10_water_4 : decode cX10_water 4 = .ok (.ifCond .eq 27, 3) := dk_at dkB02decX1_28 52 rfl
theorem dX10_water_7 : decode cX10_water 7 = .ok (.aload_n 0, 1) := dk_at dkB02decX1_28 53 rfl
theorem dX10_water_8 : decode cX10_water 8 = .ok (.getfield 12, 3) := dk_at dkB02decX1_28 54 rfl
theorem dX10_water_11 : decode cX10_water 11 = .ok (.getfield 79, 3) := dk_at dkB02decX1_28 55 rfl
theorem dX10_water_14 : decode cX10_water 14 = .ok (.iload_n 1, 1) := dk_at dkB02decX1_28 56 rfl
theorem dX10_water_15 : decode cX10_water 15 = .ok (.aload_n 0, 1) := dk_at dkB02decX1_28 57 rfl
theorem dX10_water_16 : decode cX10_water 16 = .ok (.getfield 12, 3) := dk_at dkB02decX1_28 58 rfl
theorem dX10_water_19 : decode cX10_water 19 = .ok (.getfield 79, 3) := dk_at dkB02decX1_28 59 rfl
noncomputable def dkL02decX1_29 : List (ByteArray × Nat × Instr × Nat) := [(cX10_water, 22, (.getfield 98, 3)), (cX10_water, 25, (.invokevirtual 109, 3)), (cX10_water, 28, (.goto 6, 3)), (cX10_water, 31, (.sipush (-1001), 3)), (cX10_water, 34, (.ireturn, 1)), (cX10_type, 0, (.iload_n 3, 1)), (cX10_type, 1, (.iconst 1, 1)), (cX10_type, 2, (.bipush 8, 2)), (cX10_type, 4, (.invokestatic 69, 3)), (cX10_type, 7, (.ifCond .ne 5, 3)), (cX10_type, 10, (.iconst (-1), 1)), (cX10_type, 11, (.ireturn, 1)), (cX10_type, 12, (.iconst 0, 1)), (cX10_type, 13, (.istore 4, 2)), (cX10_type, 15, (.iload 4, 2)), (cX10_type, 17, (.iload_n 3, 1)), (cX10_type, 18, (.if_icmp .ge 27, 3)), (cX10_type, 21, (.lload_n 1, 1)), (cX10_type, 22, (.iload 4, 2)), (cX10_type, 24, (.invokestatic 112, 3)), (cX10_type, 27, (.bipush 32, 2)), (cX10_type, 29, (.bipush 126, 2)), (cX10_type, 31, (.invokestatic 69, 3)), (cX10_type, 34, (.ifCond .ne 5, 3)), (cX10_type, 37, (.iconst (-1), 1)), (cX10_type, 38, (.ireturn, 1)), (cX10_type, 39, (.iinc 4 1, 3)), (cX10_type, 42, (.goto (-27), 3)), (cX10_type, 45, (.aload_n 0, 1)), (cX10_type, 46, (.getfield 22, 3)), (cX10_type, 49, (.getfield 116, 3)), (cX10_type, 52, (.iload_n 3, 1)), (cX10_type, 53, (.iadd, 1)), (cX10_type, 54, (.bipush 80, 2)), (cX10_type, 56, (.if_icmp .le 6, 3)), (cX10_type, 59, (.bipush (-3), 2)), (cX10_type, 61, (.ireturn, 1)), (cX10_type, 62, (.iload_n 3, 1)), (cX10_type, 63, (.iconst 1, 1)), (cX10_type, 64, (.isub, 1)), (cX10_type, 65, (.istore 4, 2)), (cX10_type, 67, (.iload 4, 2)), (cX10_type, 69, (.ifCond .lt 43, 3)), (cX10_type, 72, (.aload_n 0, 1)), (cX10_type, 73, (.getfield 22, 3)), (cX10_type, 76, (.getfield 119, 3)), (cX10_type, 79, (.aload_n 0, 1)), (cX10_type, 80, (.getfield 22, 3)), (cX10_type, 83, (.getfield 116, 3)), (cX10_type, 86, (.lload_n 1, 1)), (cX10_type, 87, (.iload 4, 2)), (cX10_type, 89, (.invokestatic 112, 3)), (cX10_type, 92, (.iastore, 1)), (cX10_type, 93, (.aload_n 0, 1)), (cX10_type, 94, (.getfield 22, 3)), (cX10_type, 97, (.dup, 1)), (cX10_type, 98, (.getfield 116, 3)), (cX10_type, 101, (.iconst 1, 1)), (cX10_type, 102, (.iadd, 1)), (cX10_type, 103, (.putfield 116, 3))]
theorem dkB02decX1_29 : dkL02decX1_29.all (fun q => decide (decode q.1 q.2.1 = .ok q.2.2)) = true := by decide +kernel
theorem dX10_water_22 : decode cX10_water 22 = .ok (.getfield 98, 3) := dk_at dkB02decX1_29 0 rfl
theorem dX10_water_25 : decode cX10_water 25 = .ok (.invokevirtual 109, 3) := dk_at dkB02decX1_29 1 rfl
theorem dX10_water_28 : decode cX10_water 28 = .ok (.goto 6, 3) := dk_at dkB02decX1_29 2 rfl
theorem dX10_water_31 : decode cX10_water 31 = .ok (.sipush (-1001), 3) := dk_at dkB02decX1_29 3 rfl
theorem dX10_water_34 : decode cX10_water 34 = .ok (.ireturn, 1) := dk_at dkB02decX1_29 4 rfl
theorem dX10_type_0 : decode cX10_type 0 = .ok (.iload_n 3, 1) := dk_at dkB02decX1_29 5 rfl
theorem dX10_type_1 : decode cX10_type 1 = .ok (.iconst 1, 1) := dk_at dkB02decX1_29 6 rfl
theorem dX10_type_2 : decode cX10_type 2 = .ok (.bipush 8, 2) := dk_at dkB02decX1_29 7 rfl
theorem dX10_type_4 : decode cX10_type 4 = .ok (.invokestatic 69, 3) := dk_at dkB02decX1_29 8 rfl
theorem dX10_type_7 : decode cX10_type 7 = .ok (.ifCond .ne 5, 3) := dk_at dkB02decX1_29 9 rfl
theorem dX10_type_10 : decode cX10_type 10 = .ok (.iconst (-1), 1) := dk_at dkB02decX1_29 10 rfl
theorem dX10_type_11 : decode cX10_type 11 = .ok (.ireturn, 1) := dk_at dkB02decX1_29 11 rfl
theorem dX10_type_12 : decode cX10_type 12 = .ok (.iconst 0, 1) := dk_at dkB02decX1_29 12 rfl
theorem dX10_type_13 : decode cX10_type 13 = .ok (.istore 4, 2) := dk_at dkB02decX1_29 13 rfl
theorem dX10_type_15 : decode cX10_type 15 = .ok (.iload 4, 2) := dk_at dkB02decX1_29 14 rfl
theorem dX10_type_17 : decode cX10_type 17 = .ok (.iload_n 3, 1) := dk_at dkB02decX1_29 15 rfl
theorem dX10_type_18 : decode cX10_type 18 = .ok (.if_icmp .ge 27, 3) := dk_at dkB02decX1_29 16 rfl
theorem dX10_type_21 : decode cX10_type 21 = .ok (.lload_n 1, 1) := dk_at dkB02decX1_29 17 rfl
theorem dX10_type_22 : decode cX10_type 22 = .ok (.iload 4, 2) := dk_at dkB02decX1_29 18 rfl
theorem dX10_type_24 : decode cX10_type 24 = .ok (.invokestatic 112, 3) := dk_at dkB02decX1_29 19 rfl
theorem dX10_type_27 : decode cX10_type 27 = .ok (.bipush 32, 2) := dk_at dkB02decX1_29 20 rfl
theorem dX10_type_29 : decode cX10_type 29 = .ok (.bipush 126, 2) := dk_at dkB02decX1_29 21 rfl
theorem dX10_type_31 : decode cX10_type 31 = .ok (.invokestatic 69, 3) := dk_at dkB02decX1_29 22 rfl
theorem dX10_type_34 : decode cX10_type 34 = .ok (.ifCond .ne 5, 3) := dk_at dkB02decX1_29 23 rfl
theorem dX10_type_37 : decode cX10_type 37 = .ok (.iconst (-1), 1) := dk_at dkB02decX1_29 24 rfl
theorem dX10_type_38 : decode cX10_type 38 = .ok (.ireturn, 1) := dk_at dkB02decX1_29 25 rfl
theorem dX10_type_39 : decode cX10_type 39 = .ok (.iinc 4 1, 3) := dk_at dkB02decX1_29 26 rfl
theorem dX10_type_42 : decode cX10_type 42 = .ok (.goto (-27), 3) := dk_at dkB02decX1_29 27 rfl
theorem dX10_type_45 : decode cX10_type 45 = .ok (.aload_n 0, 1) := dk_at dkB02decX1_29 28 rfl
theorem dX10_type_46 : decode cX10_type 46 = .ok (.getfield 22, 3) := dk_at dkB02decX1_29 29 rfl
theorem dX10_type_49 : decode cX10_type 49 = .ok (.getfield 116, 3) := dk_at dkB02decX1_29 30 rfl
theorem dX10_type_52 : decode cX10_type 52 = .ok (.iload_n 3, 1) := dk_at dkB02decX1_29 31 rfl
theorem dX10_type_53 : decode cX10_type 53 = .ok (.iadd, 1) := dk_at dkB02decX1_29 32 rfl
theorem dX10_type_54 : decode cX10_type 54 = .ok (.bipush 80, 2) := dk_at dkB02decX1_29 33 rfl
theorem dX10_type_56 : decode cX10_type 56 = .ok (.if_icmp .le 6, 3) := dk_at dkB02decX1_29 34 rfl
theorem dX10_type_59 : decode cX10_type 59 = .ok (.bipush (-3), 2) := dk_at dkB02decX1_29 35 rfl
theorem dX10_type_61 : decode cX10_type 61 = .ok (.ireturn, 1) := dk_at dkB02decX1_29 36 rfl
theorem dX10_type_62 : decode cX10_type 62 = .ok (.iload_n 3, 1) := dk_at dkB02decX1_29 37 rfl
theorem dX10_type_63 : decode cX10_type 63 = .ok (.iconst 1, 1) := dk_at dkB02decX1_29 38 rfl
theorem dX10_type_64 : decode cX10_type 64 = .ok (.isub, 1) := dk_at dkB02decX1_29 39 rfl
theorem dX10_type_65 : decode cX10_type 65 = .ok (.istore 4, 2) := dk_at dkB02decX1_29 40 rfl
theorem dX10_type_67 : decode cX10_type 67 = .ok (.iload 4, 2) := dk_at dkB02decX1_29 41 rfl
theorem dX10_type_69 : decode cX10_type 69 = .ok (.ifCond .lt 43, 3) := dk_at dkB02decX1_29 42 rfl
theorem dX10_type_72 : decode cX10_type 72 = .ok (.aload_n 0, 1) := dk_at dkB02decX1_29 43 rfl
theorem dX10_type_73 : decode cX10_type 73 = .ok (.getfield 22, 3) := dk_at dkB02decX1_29 44 rfl
theorem dX10_type_76 : decode cX10_type 76 = .ok (.getfield 119, 3) := dk_at dkB02decX1_29 45 rfl
theorem dX10_type_79 : decode cX10_type 79 = .ok (.aload_n 0, 1) := dk_at dkB02decX1_29 46 rfl
theorem dX10_type_80 : decode cX10_type 80 = .ok (.getfield 22, 3) := dk_at dkB02decX1_29 47 rfl
theorem dX10_type_83 : decode cX10_type 83 = .ok (.getfield 116, 3) := dk_at dkB02decX1_29 48 rfl
theorem dX10_type_86 : decode cX10_type 86 = .ok (.lload_n 1, 1) := dk_at dkB02decX1_29 49 rfl
theorem dX10_type_87 : decode cX10_type 87 = .ok (.iload 4, 2) := dk_at dkB02decX1_29 50 rfl
theorem dX10_type_89 : decode cX10_type 89 = .ok (.invokestatic 112, 3) := dk_at dkB02decX1_29 51 rfl
theorem dX10_type_92 : decode cX10_type 92 = .ok (.iastore, 1) := dk_at dkB02decX1_29 52 rfl
theorem dX10_type_93 : decode cX10_type 93 = .ok (.aload_n 0, 1) := dk_at dkB02decX1_29 53 rfl
theorem dX10_type_94 : decode cX10_type 94 = .ok (.getfield 22, 3) := dk_at dkB02decX1_29 54 rfl
theorem dX10_type_97 : decode cX10_type 97 = .ok (.dup, 1) := dk_at dkB02decX1_29 55 rfl
theorem dX10_type_98 : decode cX10_type 98 = .ok (.getfield 116, 3) := dk_at dkB02decX1_29 56 rfl
theorem dX10_type_101 : decode cX10_type 101 = .ok (.iconst 1, 1) := dk_at dkB02decX1_29 57 rfl
theorem dX10_type_102 : decode cX10_type 102 = .ok (.iadd, 1) := dk_at dkB02decX1_29 58 rfl
theorem dX10_type_103 : decode cX10_type 103 = .ok (.putfield 116, 3) := dk_at dkB02decX1_29 59 rfl
