noncomputable def dkL02decM1_0 : List (ByteArray × Nat × Instr × Nat) := [(cX11_stretch, 47, (.iload_n 2, 1)), (cX11_stretch, 48, (.ifCond .ne 7, 3)), (cX11_stretch, 51, (.lconst 0, 1)), (cX11_stretch, 52, (.goto 4, 3)), (cX11_stretch, 55, (.lconst 1, 1)), (cX11_stretch, 56, (.iload_n 2, 1)), (cX11_stretch, 57, (.ifCond .ne 7, 3)), (cX11_stretch, 60, (.lconst 0, 1)), (cX11_stretch, 61, (.goto 17, 3)), (cX11_stretch, 64, (.iload_n 2, 1)), (cX11_stretch, 65, (.iconst 1, 1)), (cX11_stretch, 66, (.if_icmp .ne 9, 3)), (cX11_stretch, 69, (.ldc2_w 136, 3)), (cX11_stretch, 72, (.goto 6, 3)), (cX11_stretch, 75, (.ldc2_w 78, 3)), (cX11_stretch, 78, (.invokestatic 70, 3)), (cX11_stretch, 81, (.ifCond .ne 5, 3)), (cX11_stretch, 84, (.iconst (-1), 1)), (cX11_stretch, 85, (.ireturn, 1)), (cX11_stretch, 86, (.aload_n 0, 1)), (cX11_stretch, 87, (.iload_n 1, 1)), (cX11_stretch, 88, (.iload_n 3, 1)), (cX11_stretch, 89, (.invokevirtual 177, 3)), (cX11_stretch, 92, (.iconst 2, 1)), (cX11_stretch, 93, (.if_icmp .eq 14, 3)), (cX11_stretch, 96, (.aload_n 0, 1)), (cX11_stretch, 97, (.iload_n 1, 1)), (cX11_stretch, 98, (.iload 4, 2)), (cX11_stretch, 100, (.invokevirtual 177, 3)), (cX11_stretch, 103, (.iconst 2, 1)), (cX11_stretch, 104, (.if_icmp .ne 6, 3)), (cX11_stretch, 107, (.bipush (-12), 2)), (cX11_stretch, 109, (.ireturn, 1)), (cX11_stretch, 110, (.aload_n 0, 1)), (cX11_stretch, 111, (.getfield 7, 3)), (cX11_stretch, 114, (.bipush 9, 2)), (cX11_stretch, 116, (.iload_n 1, 1)), (cX11_stretch, 117, (.iadd, 1)), (cX11_stretch, 118, (.iaload, 1)), (cX11_stretch, 119, (.bipush 6, 2)), (cX11_stretch, 121, (.if_icmp .ne 6, 3)), (cX11_stretch, 124, (.bipush (-3), 2)), (cX11_stretch, 126, (.ireturn, 1)), (cX11_stretch, 127, (.aload_n 0, 1)), (cX11_stretch, 128, (.iload_n 1, 1)), (cX11_stretch, 129, (.aload_n 0, 1)), (cX11_stretch, 130, (.getfield 7, 3)), (cX11_stretch, 133, (.bipush 9, 2)), (cX11_stretch, 135, (.iload_n 1, 1)), (cX11_stretch, 136, (.iadd, 1)), (cX11_stretch, 137, (.iaload, 1)), (cX11_stretch, 138, (.invokevirtual 157, 3)), (cX11_stretch, 141, (.istore 6, 2)), (cX11_stretch, 143, (.aload_n 0, 1)), (cX11_stretch, 144, (.getfield 7, 3)), (cX11_stretch, 147, (.iload 6, 2)), (cX11_stretch, 149, (.iload_n 2, 1)), (cX11_stretch, 150, (.iastore, 1)), (cX11_stretch, 151, (.aload_n 0, 1)), (cX11_stretch, 152, (.getfield 7, 3))]
theorem dkB02decM1_0 : dkL02decM1_0.all (fun q => decide (decode q.1 q.2.1 = .ok q.2.2)) = true := by decide +kernel
theorem dX11_stretch_47 : decode cX11_stretch 47 = .ok (.iload_n 2, 1) := dk_at dkB02decM1_0 0 rfl
theorem dX11_stretch_48 : decode cX11_stretch 48 = .ok (.ifCond .ne 7, 3) := dk_at dkB02decM1_0 1 rfl
theorem dX11_stretch_51 : decode cX11_stretch 51 = .ok (.lconst 0, 1) := dk_at dkB02decM1_0 2 rfl
theorem dX11_stretch_52 : decode cX11_stretch 52 = .ok (.goto 4, 3) := dk_at dkB02decM1_0 3 rfl
theorem dX11_stretch_55 : decode cX11_stretch 55 = .ok (.lconst 1, 1) := dk_at dkB02decM1_0 4 rfl
theorem dX11_stretch_56 : decode cX11_stretch 56 = .ok (.iload_n 2, 1) := dk_at dkB02decM1_0 5 rfl
theorem dX11_stretch_57 : decode cX11_stretch 57 = .ok (.ifCond .ne 7, 3) := dk_at dkB02decM1_0 6 rfl
theorem dX11_stretch_60 : decode cX11_stretch 60 = .ok (.lconst 0, 1) := dk_at dkB02decM1_0 7 rfl
theorem dX11_stretch_61 : decode cX11_stretch 61 = .ok (.goto 17, 3) := dk_at dkB02decM1_0 8 rfl
theorem dX11_stretch_64 : decode cX11_stretch 64 = .ok (.iload_n 2, 1) := dk_at dkB02decM1_0 9 rfl
theorem dX11_stretch_65 : decode cX11_stretch 65 = .ok (.iconst 1, 1) := dk_at dkB02decM1_0 10 rfl
theorem dX11_stretch_66 : decode cX11_stretch 66 = .ok (.if_icmp .ne 9, 3) := dk_at dkB02decM1_0 11 rfl
theorem dX11_stretch_69 : decode cX11_stretch 69 = .ok (.ldc2_w 136, 3) := dk_at dkB02decM1_0 12 rfl
theorem dX11_stretch_72 : decode cX11_stretch 72 = .ok (.goto 6, 3) := dk_at dkB02decM1_0 13 rfl
theorem dX11_stretch_75 : decode cX11_stretch 75 = .ok (.ldc2_w 78, 3) := dk_at dkB02decM1_0 14 rfl
theorem dX11_stretch_78 : decode cX11_stretch 78 = .ok (.invokestatic 70, 3) := dk_at dkB02decM1_0 15 rfl
theorem dX11_stretch_81 : decode cX11_stretch 81 = .ok (.ifCond .ne 5, 3) := dk_at dkB02decM1_0 16 rfl
theorem dX11_stretch_84 : decode cX11_stretch 84 = .ok (.iconst (-1), 1) := dk_at dkB02decM1_0 17 rfl
theorem dX11_stretch_85 : decode cX11_stretch 85 = .ok (.ireturn, 1) := dk_at dkB02decM1_0 18 rfl
theorem dX11_stretch_86 : decode cX11_stretch 86 = .ok (.aload_n 0, 1) := dk_at dkB02decM1_0 19 rfl
theorem dX11_stretch_87 : decode cX11_stretch 87 = .ok (.iload_n 1, 1) := dk_at dkB02decM1_0 20 rfl
theorem dX11_stretch_88 : decode cX11_stretch 88 = .ok (.iload_n 3, 1) := dk_at dkB02decM1_0 21 rfl
theorem dX11_stretch_89 : decode cX11_stretch 89 = .ok (.invokevirtual 177, 3) := dk_at dkB02decM1_0 22 rfl
theorem dX11_stretch_92 : decode cX11_stretch 92 = .ok (.iconst 2, 1) := dk_at dkB02decM1_0 23 rfl
theorem dX11_stretch_93 : decode cX11_stretch 93 = .ok (.if_icmp .eq 14, 3) := dk_at dkB02decM1_0 24 rfl
theorem dX11_stretch_96 : decode cX11_stretch 96 = .ok (.aload_n 0, 1) := dk_at dkB02decM1_0 25 rfl
theorem dX11_stretch_97 : decode cX11_stretch 97 = .ok (.iload_n 1, 1) := dk_at dkB02decM1_0 26 rfl
theorem dX11_stretch_98 : decode cX11_stretch 98 = .ok (.iload 4, 2) := dk_at dkB02decM1_0 27 rfl
theorem dX11_stretch_100 : decode cX11_stretch 100 = .ok (.invokevirtual 177, 3) := dk_at dkB02decM1_0 28 rfl
theorem dX11_stretch_103 : decode cX11_stretch 103 = .ok (.iconst 2, 1) := dk_at dkB02decM1_0 29 rfl
theorem dX11_stretch_104 : decode cX11_stretch 104 = .ok (.if_icmp .ne 6, 3) := dk_at dkB02decM1_0 30 rfl
theorem dX11_stretch_107 : decode cX11_stretch 107 = .ok (.bipush (-12), 2) := dk_at dkB02decM1_0 31 rfl
theorem dX11_stretch_109 : decode cX11_stretch 109 = .ok (.ireturn, 1) := dk_at dkB02decM1_0 32 rfl
theorem dX11_stretch_110 : decode cX11_stretch 110 = .ok (.aload_n 0, 1) := dk_at dkB02decM1_0 33 rfl
theorem dX11_stretch_111 : decode cX11_stretch 111 = .ok (.getfield 7, 3) := dk_at dkB02decM1_0 34 rfl
theorem dX11_stretch_114 : decode cX11_stretch 114 = .ok (.bipush 9, 2) := dk_at dkB02decM1_0 35 rfl
theorem dX11_stretch_116 : decode cX11_stretch 116 = .ok (.iload_n 1, 1) := dk_at dkB02decM1_0 36 rfl
theorem dX11_stretch_117 : decode cX11_stretch 117 = .ok (.iadd, 1) := dk_at dkB02decM1_0 37 rfl
theorem dX11_stretch_118 : decode cX11_stretch 118 = .ok (.iaload, 1) := dk_at dkB02decM1_0 38 rfl
theorem dX11_stretch_119 : decode cX11_stretch 119 = .ok (.bipush 6, 2) := dk_at dkB02decM1_0 39 rfl
theorem dX11_stretch_121 : decode cX11_stretch 121 = .ok (.if_icmp .ne 6, 3) := dk_at dkB02decM1_0 40 rfl
theorem dX11_stretch_124 : decode cX11_stretch 124 = .ok (.bipush (-3), 2) := dk_at dkB02decM1_0 41 rfl
theorem dX11_stretch_126 : decode cX11_stretch 126 = .ok (.ireturn, 1) := dk_at dkB02decM1_0 42 rfl
theorem dX11_stretch_127 : decode cX11_stretch 127 = .ok (.aload_n 0, 1) := dk_at dkB02decM1_0 43 rfl
theorem dX11_stretch_128 : decode cX11_stretch 128 = .ok (.iload_n 1, 1) := dk_at dkB02decM1_0 44 rfl
theorem dX11_stretch_129 : decode cX11_stretch 129 = .ok (.aload_n 0, 1) := dk_at dkB02decM1_0 45 rfl
theorem dX11_stretch_130 : decode cX11_stretch 130 = .ok (.getfield 7, 3) := dk_at dkB02decM1_0 46 rfl
theorem dX11_stretch_133 : decode cX11_stretch 133 = .ok (.bipush 9, 2) := dk_at dkB02decM1_0 47 rfl
theorem dX11_stretch_135 : decode cX11_stretch 135 = .ok (.iload_n 1, 1) := dk_at dkB02decM1_0 48 rfl
theorem dX11_stretch_136 : decode cX11_stretch 136 = .ok (.iadd, 1) := dk_at dkB02decM1_0 49 rfl
theorem dX11_stretch_137 : decode cX11_stretch 137 = .ok (.iaload, 1) := dk_at dkB02decM1_0 50 rfl
theorem dX11_stretch_138 : decode cX11_stretch 138 = .ok (.invokevirtual 157, 3) := dk_at dkB02decM1_0 51 rfl
theorem dX11_stretch_141 : decode cX11_stretch 141 = .ok (.istore 6, 2) := dk_at dkB02decM1_0 52 rfl
theorem dX11_stretch_143 : decode cX11_stretch 143 = .ok (.aload_n 0, 1) := dk_at dkB02decM1_0 53 rfl
theorem dX11_stretch_144 : decode cX11_stretch 144 = .ok (.getfield 7, 3) := dk_at dkB02decM1_0 54 rfl
theorem dX11_stretch_147 : decode cX11_stretch 147 = .ok (.iload 6, 2) := dk_at dkB02decM1_0 55 rfl
theorem dX11_stretch_149 : decode cX11_stretch 149 = .ok (.iload_n 2, 1) := dk_at dkB02decM1_0 56 rfl
theorem dX11_stretch_150 : decode cX11_stretch 150 = .ok (.iastore, 1) := dk_at dkB02decM1_0 57 rfl
theorem dX11_stretch_151 : decode cX11_stretch 151 = .ok (.aload_n 0, 1) := dk_at dkB02decM1_0 58 rfl
theorem dX11_stretch_152 : decode cX11_stretch 152 = .ok (.getfield 7, 3) := dk_at dkB02decM1_0 59 rfl
noncomputable def dkL02decM1_1 : List (ByteArray × Nat × Instr × Nat) := [(cX11_stretch, 155, (.iload 6, 2)), (cX11_stretch, 157, (.iconst 1, 1)), (cX11_stretch, 158, (.iadd, 1)), (cX11_stretch, 159, (.iload_n 3, 1)), (cX11_stretch, 160, (.iastore, 1)), (cX11_stretch, 161, (.aload_n 0, 1)), (cX11_stretch, 162, (.getfield 7, 3)), (cX11_stretch, 165, (.iload 6, 2)), (cX11_stretch, 167, (.iconst 2, 1)), (cX11_stretch, 168, (.iadd, 1)), (cX11_stretch, 169, (.iload 4, 2)), (cX11_stretch, 171, (.iastore, 1)), (cX11_stretch, 172, (.aload_n 0, 1)), (cX11_stretch, 173, (.getfield 7, 3)), (cX11_stretch, 176, (.iload 6, 2)), (cX11_stretch, 178, (.iconst 3, 1)), (cX11_stretch, 179, (.iadd, 1)), (cX11_stretch, 180, (.iload 5, 2)), (cX11_stretch, 182, (.iastore, 1)), (cX11_stretch, 183, (.aload_n 0, 1)), (cX11_stretch, 184, (.getfield 7, 3)), (cX11_stretch, 187, (.bipush 9, 2)), (cX11_stretch, 189, (.iload_n 1, 1)), (cX11_stretch, 190, (.iadd, 1)), (cX11_stretch, 191, (.dup2, 1)), (cX11_stretch, 192, (.iaload, 1)), (cX11_stretch, 193, (.iconst 1, 1)), (cX11_stretch, 194, (.iadd, 1)), (cX11_stretch, 195, (.iastore, 1)), (cX11_stretch, 196, (.aload_n 0, 1)), (cX11_stretch, 197, (.getfield 7, 3)), (cX11_stretch, 200, (.bipush 9, 2)), (cX11_stretch, 202, (.iload_n 1, 1)), (cX11_stretch, 203, (.iadd, 1)), (cX11_stretch, 204, (.iaload, 1)), (cX11_stretch, 205, (.ireturn, 1)), (cX11_date, 0, (.iload_n 1, 1)), (cX11_date, 1, (.invokestatic 160, 3)), (cX11_date, 4, (.ifCond .eq 44, 3)), (cX11_date, 7, (.aload_n 0, 1)), (cX11_date, 8, (.iload_n 1, 1)), (cX11_date, 9, (.iload_n 2, 1)), (cX11_date, 10, (.invokevirtual 174, 3)), (cX11_date, 13, (.ifCond .eq 35, 3)), (cX11_date, 16, (.iload_n 3, 1)), (cX11_date, 17, (.invokestatic 80, 3)), (cX11_date, 20, (.ifCond .eq 28, 3)), (cX11_date, 23, (.iload 4, 2)), (cX11_date, 25, (.invokestatic 80, 3)), (cX11_date, 28, (.ifCond .eq 20, 3)), (cX11_date, 31, (.iload_n 3, 1)), (cX11_date, 32, (.iload 4, 2)), (cX11_date, 34, (.if_icmp .gt 14, 3)), (cX11_date, 37, (.iload 5, 2)), (cX11_date, 39, (.i2l, 1)), (cX11_date, 40, (.lconst 0, 1)), (cX11_date, 41, (.lconst 1, 1)), (cX11_date, 42, (.invokestatic 70, 3)), (cX11_date, 45, (.ifCond .ne 5, 3)), (cX11_date, 48, (.iconst (-1), 1))]
theorem dkB02decM1_1 : dkL02decM1_1.all (fun q => decide (decode q.1 q.2.1 = .ok q.2.2)) = true := by decide +kernel
theorem dX11_stretch_155 : decode cX11_stretch 155 = .ok (.iload 6, 2) := dk_at dkB02decM1_1 0 rfl
theorem dX11_stretch_157 : decode cX11_stretch 157 = .ok (.iconst 1, 1) := dk_at dkB02decM1_1 1 rfl
theorem dX11_stretch_158 : decode cX11_stretch 158 = .ok (.iadd, 1) := dk_at dkB02decM1_1 2 rfl
theorem dX11_stretch_159 : decode cX11_stretch 159 = .ok (.iload_n 3, 1) := dk_at dkB02decM1_1 3 rfl
theorem dX11_stretch_160 : decode cX11_stretch 160 = .ok (.iastore, 1) := dk_at dkB02decM1_1 4 rfl
theorem dX11_stretch_161 : decode cX11_stretch 161 = .ok (.aload_n 0, 1) := dk_at dkB02decM1_1 5 rfl
theorem dX11_stretch_162 : decode cX11_stretch 162 = .ok (.getfield 7, 3) := dk_at dkB02decM1_1 6 rfl
theorem dX11_stretch_165 : decode cX11_stretch 165 = .ok (.iload 6, 2) := dk_at dkB02decM1_1 7 rfl
theorem dX11_stretch_167 : decode cX11_stretch 167 = .ok (.iconst 2, 1) := dk_at dkB02decM1_1 8 rfl
theorem dX11_stretch_168 : decode cX11_stretch 168 = .ok (.iadd, 1) := dk_at dkB02decM1_1 9 rfl
theorem dX11_stretch_169 : decode cX11_stretch 169 = .ok (.iload 4, 2) := dk_at dkB02decM1_1 10 rfl
theorem dX11_stretch_171 : decode cX11_stretch 171 = .ok (.iastore, 1) := dk_at dkB02decM1_1 11 rfl
theorem dX11_stretch_172 : decode cX11_stretch 172 = .ok (.aload_n 0, 1) := dk_at dkB02decM1_1 12 rfl
theorem dX11_stretch_173 : decode cX11_stretch 173 = .ok (.getfield 7, 3) := dk_at dkB02decM1_1 13 rfl
theorem dX11_stretch_176 : decode cX11_stretch 176 = .ok (.iload 6, 2) := dk_at dkB02decM1_1 14 rfl
theorem dX11_stretch_178 : decode cX11_stretch 178 = .ok (.iconst 3, 1) := dk_at dkB02decM1_1 15 rfl
theorem dX11_stretch_179 : decode cX11_stretch 179 = .ok (.iadd, 1) := dk_at dkB02decM1_1 16 rfl
theorem dX11_stretch_180 : decode cX11_stretch 180 = .ok (.iload 5, 2) := dk_at dkB02decM1_1 17 rfl
theorem dX11_stretch_182 : decode cX11_stretch 182 = .ok (.iastore, 1) := dk_at dkB02decM1_1 18 rfl
theorem dX11_stretch_183 : decode cX11_stretch 183 = .ok (.aload_n 0, 1) := dk_at dkB02decM1_1 19 rfl
theorem dX11_stretch_184 : decode cX11_stretch 184 = .ok (.getfield 7, 3) := dk_at dkB02decM1_1 20 rfl
theorem dX11_stretch_187 : decode cX11_stretch 187 = .ok (.bipush 9, 2) := dk_at dkB02decM1_1 21 rfl
theorem dX11_stretch_189 : decode cX11_stretch 189 = .ok (.iload_n 1, 1) := dk_at dkB02decM1_1 22 rfl
theorem dX11_stretch_190 : decode cX11_stretch 190 = .ok (.iadd, 1) := dk_at dkB02decM1_1 23 rfl
theorem dX11_stretch_191 : decode cX11_stretch 191 = .ok (.dup2, 1) := dk_at dkB02decM1_1 24 rfl
theorem dX11_stretch_192 : decode cX11_stretch 192 = .ok (.iaload, 1) := dk_at dkB02decM1_1 25 rfl
theorem dX11_stretch_193 : decode cX11_stretch 193 = .ok (.iconst 1, 1) := dk_at dkB02decM1_1 26 rfl
theorem dX11_stretch_194 : decode cX11_stretch 194 = .ok (.iadd, 1) := dk_at dkB02decM1_1 27 rfl
theorem dX11_stretch_195 : decode cX11_stretch 195 = .ok (.iastore, 1) := dk_at dkB02decM1_1 28 rfl
theorem dX11_stretch_196 : decode cX11_stretch 196 = .ok (.aload_n 0, 1) := dk_at dkB02decM1_1 29 rfl
theorem dX11_stretch_197 : decode cX11_stretch 197 = .ok (.getfield 7, 3) := dk_at dkB02decM1_1 30 rfl
theorem dX11_stretch_200 : decode cX11_stretch 200 = .ok (.bipush 9, 2) := dk_at dkB02decM1_1 31 rfl
theorem dX11_stretch_202 : decode cX11_stretch 202 = .ok (.iload_n 1, 1) := dk_at dkB02decM1_1 32 rfl
theorem dX11_stretch_203 : decode cX11_stretch 203 = .ok (.iadd, 1) := dk_at dkB02decM1_1 33 rfl
theorem dX11_stretch_204 : decode cX11_stretch 204 = .ok (.iaload, 1) := dk_at dkB02decM1_1 34 rfl
theorem dX11_stretch_205 : decode cX11_stretch 205 = .ok (.ireturn, 1) := dk_at dkB02decM1_1 35 rfl
theorem dX11_date_0 : decode cX11_date 0 = .ok (.iload_n 1, 1) := dk_at dkB02decM1_1 36 rfl
theorem dX11_date_1 : decode cX11_date 1 = .ok (.invokestatic 160, 3) := dk_at dkB02decM1_1 37 rfl
theorem dX11_date_4 : decode cX11_date 4 = .ok (.ifCond .eq 44, 3) := dk_at dkB02decM1_1 38 rfl
theorem dX11_date_7 : decode cX11_date 7 = .ok (.aload_n 0, 1) := dk_at dkB02decM1_1 39 rfl
theorem dX11_date_8 : decode cX11_date 8 = .ok (.iload_n 1, 1) := dk_at dkB02decM1_1 40 rfl
theorem dX11_date_9 : decode cX11_date 9 = .ok (.iload_n 2, 1) := dk_at dkB02decM1_1 41 rfl
theorem dX11_date_10 : decode cX11_date 10 = .ok (.invokevirtual 174, 3) := dk_at dkB02decM1_1 42 rfl
theorem dX11_date_13 : decode cX11_date 13 = .ok (.ifCond .eq 35, 3) := dk_at dkB02decM1_1 43 rfl
theorem dX11_date_16 : decode cX11_date 16 = .ok (.iload_n 3, 1) := dk_at dkB02decM1_1 44 rfl
theorem dX11_date_17 : decode cX11_date 17 = .ok (.invokestatic 80, 3) := dk_at dkB02decM1_1 45 rfl
theorem dX11_date_20 : decode cX11_date 20 = .ok (.ifCond .eq 28, 3) := dk_at dkB02decM1_1 46 rfl
theorem dX11_date_23 : decode cX11_date 23 = .ok (.iload 4, 2) := dk_at dkB02decM1_1 47 rfl
theorem dX11_date_25 : decode cX11_date 25 = .ok (.invokestatic 80, 3) := dk_at dkB02decM1_1 48 rfl
theorem dX11_date_28 : decode cX11_date 28 = .ok (.ifCond .eq 20, 3) := dk_at dkB02decM1_1 49 rfl
theorem dX11_date_31 : decode cX11_date 31 = .ok (.iload_n 3, 1) := dk_at dkB02decM1_1 50 rfl
theorem dX11_date_32 : decode cX11_date 32 = .ok (.iload 4, 2) := dk_at dkB02decM1_1 51 rfl
theorem dX11_date_34 : decode cX11_date 34 = .ok (.if_icmp .gt 14, 3) := dk_at dkB02decM1_1 52 rfl
theorem dX11_date_37 : decode cX11_date 37 = .ok (.iload 5, 2) := dk_at dkB02decM1_1 53 rfl
theorem dX11_date_39 : decode cX11_date 39 = .ok (.i2l, 1) := dk_at dkB02decM1_1 54 rfl
theorem dX11_date_40 : decode cX11_date 40 = .ok (.lconst 0, 1) := dk_at dkB02decM1_1 55 rfl
theorem dX11_date_41 : decode cX11_date 41 = .ok (.lconst 1, 1) := dk_at dkB02decM1_1 56 rfl
theorem dX11_date_42 : decode cX11_date 42 = .ok (.invokestatic 70, 3) := dk_at dkB02decM1_1 57 rfl
theorem dX11_date_45 : decode cX11_date 45 = .ok (.ifCond .ne 5, 3) := dk_at dkB02decM1_1 58 rfl
theorem dX11_date_48 : decode cX11_date 48 = .ok (.iconst (-1), 1) := dk_at dkB02decM1_1 59 rfl
noncomputable def dkL02decM1_2 : List (ByteArray × Nat × Instr × Nat) := [(cX11_date, 49, (.ireturn, 1)), (cX11_date, 50, (.aload_n 0, 1)), (cX11_date, 51, (.iload_n 1, 1)), (cX11_date, 52, (.iload_n 2, 1)), (cX11_date, 53, (.invokevirtual 177, 3)), (cX11_date, 56, (.iconst 2, 1)), (cX11_date, 57, (.if_icmp .ne 6, 3)), (cX11_date, 60, (.bipush (-12), 2)), (cX11_date, 62, (.ireturn, 1)), (cX11_date, 63, (.aload_n 0, 1)), (cX11_date, 64, (.getfield 7, 3)), (cX11_date, 67, (.bipush 11, 2)), (cX11_date, 69, (.iaload, 1)), (cX11_date, 70, (.bipush 8, 2)), (cX11_date, 72, (.if_icmp .ne 6, 3)), (cX11_date, 75, (.bipush (-3), 2)), (cX11_date, 77, (.ireturn, 1)), (cX11_date, 78, (.aload_n 0, 1)), (cX11_date, 79, (.aload_n 0, 1)), (cX11_date, 80, (.getfield 7, 3)), (cX11_date, 83, (.bipush 11, 2)), (cX11_date, 85, (.iaload, 1)), (cX11_date, 86, (.invokevirtual 154, 3)), (cX11_date, 89, (.istore 6, 2)), (cX11_date, 91, (.aload_n 0, 1)), (cX11_date, 92, (.getfield 7, 3)), (cX11_date, 95, (.iload 6, 2)), (cX11_date, 97, (.iload_n 1, 1)), (cX11_date, 98, (.iastore, 1)), (cX11_date, 99, (.aload_n 0, 1)), (cX11_date, 100, (.getfield 7, 3)), (cX11_date, 103, (.iload 6, 2)), (cX11_date, 105, (.iconst 1, 1)), (cX11_date, 106, (.iadd, 1)), (cX11_date, 107, (.iload_n 2, 1)), (cX11_date, 108, (.iastore, 1)), (cX11_date, 109, (.aload_n 0, 1)), (cX11_date, 110, (.getfield 7, 3)), (cX11_date, 113, (.iload 6, 2)), (cX11_date, 115, (.iconst 2, 1)), (cX11_date, 116, (.iadd, 1)), (cX11_date, 117, (.iload_n 3, 1)), (cX11_date, 118, (.iastore, 1)), (cX11_date, 119, (.aload_n 0, 1)), (cX11_date, 120, (.getfield 7, 3)), (cX11_date, 123, (.iload 6, 2)), (cX11_date, 125, (.iconst 3, 1)), (cX11_date, 126, (.iadd, 1)), (cX11_date, 127, (.iload 4, 2)), (cX11_date, 129, (.iastore, 1)), (cX11_date, 130, (.aload_n 0, 1)), (cX11_date, 131, (.getfield 7, 3)), (cX11_date, 134, (.iload 6, 2)), (cX11_date, 136, (.iconst 4, 1)), (cX11_date, 137, (.iadd, 1)), (cX11_date, 138, (.iload 5, 2)), (cX11_date, 140, (.iastore, 1)), (cX11_date, 141, (.aload_n 0, 1)), (cX11_date, 142, (.getfield 7, 3)), (cX11_date, 145, (.iload 6, 2))]
theorem dkB02decM1_2 : dkL02decM1_2.all (fun q => decide (decode q.1 q.2.1 = .ok q.2.2)) = true := by decide +kernel
theorem dX11_date_49 : decode cX11_date 49 = .ok (.ireturn, 1) := dk_at dkB02decM1_2 0 rfl
theorem dX11_date_50 : decode cX11_date 50 = .ok (.aload_n 0, 1) := dk_at dkB02decM1_2 1 rfl
theorem dX11_date_51 : decode cX11_date 51 = .ok (.iload_n 1, 1) := dk_at dkB02decM1_2 2 rfl
theorem dX11_date_52 : decode cX11_date 52 = .ok (.iload_n 2, 1) := dk_at dkB02decM1_2 3 rfl
theorem dX11_date_53 : decode cX11_date 53 = .ok (.invokevirtual 177, 3) := dk_at dkB02decM1_2 4 rfl
theorem dX11_date_56 : decode cX11_date 56 = .ok (.iconst 2, 1) := dk_at dkB02decM1_2 5 rfl
theorem dX11_date_57 : decode cX11_date 57 = .ok (.if_icmp .ne 6, 3) := dk_at dkB02decM1_2 6 rfl
theorem dX11_date_60 : decode cX11_date 60 = .ok (.bipush (-12), 2) := dk_at dkB02decM1_2 7 rfl
theorem dX11_date_62 : decode cX11_date 62 = .ok (.ireturn, 1) := dk_at dkB02decM1_2 8 rfl
theorem dX11_date_63 : decode cX11_date 63 = .ok (.aload_n 0, 1) := dk_at dkB02decM1_2 9 rfl
theorem dX11_date_64 : decode cX11_date 64 = .ok (.getfield 7, 3) := dk_at dkB02decM1_2 10 rfl
theorem dX11_date_67 : decode cX11_date 67 = .ok (.bipush 11, 2) := dk_at dkB02decM1_2 11 rfl
theorem dX11_date_69 : decode cX11_date 69 = .ok (.iaload, 1) := dk_at dkB02decM1_2 12 rfl
theorem dX11_date_70 : decode cX11_date 70 = .ok (.bipush 8, 2) := dk_at dkB02decM1_2 13 rfl
theorem dX11_date_72 : decode cX11_date 72 = .ok (.if_icmp .ne 6, 3) := dk_at dkB02decM1_2 14 rfl
theorem dX11_date_75 : decode cX11_date 75 = .ok (.bipush (-3), 2) := dk_at dkB02decM1_2 15 rfl
theorem dX11_date_77 : decode cX11_date 77 = .ok (.ireturn, 1) := dk_at dkB02decM1_2 16 rfl
theorem dX11_date_78 : decode cX11_date 78 = .ok (.aload_n 0, 1) := dk_at dkB02decM1_2 17 rfl
theorem dX11_date_79 : decode cX11_date 79 = .ok (.aload_n 0, 1) := dk_at dkB02decM1_2 18 rfl
theorem dX11_date_80 : decode cX11_date 80 = .ok (.getfield 7, 3) := dk_at dkB02decM1_2 19 rfl
theorem dX11_date_83 : decode cX11_date 83 = .ok (.bipush 11, 2) := dk_at dkB02decM1_2 20 rfl
theorem dX11_date_85 : decode cX11_date 85 = .ok (.iaload, 1) := dk_at dkB02decM1_2 21 rfl
theorem dX11_date_86 : decode cX11_date 86 = .ok (.invokevirtual 154, 3) := dk_at dkB02decM1_2 22 rfl
theorem dX11_date_89 : decode cX11_date 89 = .ok (.istore 6, 2) := dk_at dkB02decM1_2 23 rfl
theorem dX11_date_91 : decode cX11_date 91 = .ok (.aload_n 0, 1) := dk_at dkB02decM1_2 24 rfl
theorem dX11_date_92 : decode cX11_date 92 = .ok (.getfield 7, 3) := dk_at dkB02decM1_2 25 rfl
theorem dX11_date_95 : decode cX11_date 95 = .ok (.iload 6, 2) := dk_at dkB02decM1_2 26 rfl
theorem dX11_date_97 : decode cX11_date 97 = .ok (.iload_n 1, 1) := dk_at dkB02decM1_2 27 rfl
theorem dX11_date_98 : decode cX11_date 98 = .ok (.iastore, 1) := dk_at dkB02decM1_2 28 rfl
theorem dX11_date_99 : decode cX11_date 99 = .ok (.aload_n 0, 1) := dk_at dkB02decM1_2 29 rfl
theorem dX11_date_100 : decode cX11_date 100 = .ok (.getfield 7, 3) := dk_at dkB02decM1_2 30 rfl
theorem dX11_date_103 : decode cX11_date 103 = .ok (.iload 6, 2) := dk_at dkB02decM1_2 31 rfl
theorem dX11_date_105 : decode cX11_date 105 = .ok (.iconst 1, 1) := dk_at dkB02decM1_2 32 rfl
theorem dX11_date_106 : decode cX11_date 106 = .ok (.iadd, 1) := dk_at dkB02decM1_2 33 rfl
theorem dX11_date_107 : decode cX11_date 107 = .ok (.iload_n 2, 1) := dk_at dkB02decM1_2 34 rfl
theorem dX11_date_108 : decode cX11_date 108 = .ok (.iastore, 1) := dk_at dkB02decM1_2 35 rfl
theorem dX11_date_109 : decode cX11_date 109 = .ok (.aload_n 0, 1) := dk_at dkB02decM1_2 36 rfl
theorem dX11_date_110 : decode cX11_date 110 = .ok (.getfield 7, 3) := dk_at dkB02decM1_2 37 rfl
theorem dX11_date_113 : decode cX11_date 113 = .ok (.iload 6, 2) := dk_at dkB02decM1_2 38 rfl
theorem dX11_date_115 : decode cX11_date 115 = .ok (.iconst 2, 1) := dk_at dkB02decM1_2 39 rfl
theorem dX11_date_116 : decode cX11_date 116 = .ok (.iadd, 1) := dk_at dkB02decM1_2 40 rfl
theorem dX11_date_117 : decode cX11_date 117 = .ok (.iload_n 3, 1) := dk_at dkB02decM1_2 41 rfl
theorem dX11_date_118 : decode cX11_date 118 = .ok (.iastore, 1) := dk_at dkB02decM1_2 42 rfl
theorem dX11_date_119 : decode cX11_date 119 = .ok (.aload_n 0, 1) := dk_at dkB02decM1_2 43 rfl
theorem dX11_date_120 : decode cX11_date 120 = .ok (.getfield 7, 3) := dk_at dkB02decM1_2 44 rfl
theorem dX11_date_123 : decode cX11_date 123 = .ok (.iload 6, 2) := dk_at dkB02decM1_2 45 rfl
theorem dX11_date_125 : decode cX11_date 125 = .ok (.iconst 3, 1) := dk_at dkB02decM1_2 46 rfl
theorem dX11_date_126 : decode cX11_date 126 = .ok (.iadd, 1) := dk_at dkB02decM1_2 47 rfl
theorem dX11_date_127 : decode cX11_date 127 = .ok (.iload 4, 2) := dk_at dkB02decM1_2 48 rfl
theorem dX11_date_129 : decode cX11_date 129 = .ok (.iastore, 1) := dk_at dkB02decM1_2 49 rfl
theorem dX11_date_130 : decode cX11_date 130 = .ok (.aload_n 0, 1) := dk_at dkB02decM1_2 50 rfl
theorem dX11_date_131 : decode cX11_date 131 = .ok (.getfield 7, 3) := dk_at dkB02decM1_2 51 rfl
theorem dX11_date_134 : decode cX11_date 134 = .ok (.iload 6, 2) := dk_at dkB02decM1_2 52 rfl
theorem dX11_date_136 : decode cX11_date 136 = .ok (.iconst 4, 1) := dk_at dkB02decM1_2 53 rfl
theorem dX11_date_137 : decode cX11_date 137 = .ok (.iadd, 1) := dk_at dkB02decM1_2 54 rfl
theorem dX11_date_138 : decode cX11_date 138 = .ok (.iload 5, 2) := dk_at dkB02decM1_2 55 rfl
theorem dX11_date_140 : decode cX11_date 140 = .ok (.iastore, 1) := dk_at dkB02decM1_2 56 rfl
theorem dX11_date_141 : decode cX11_date 141 = .ok (.aload_n 0, 1) := dk_at dkB02decM1_2 57 rfl
theorem dX11_date_142 : decode cX11_date 142 = .ok (.getfield 7, 3) := dk_at dkB02decM1_2 58 rfl
theorem dX11_date_145 : decode cX11_date 145 = .ok (.iload 6, 2) := dk_at dkB02decM1_2 59 rfl
noncomputable def dkL02decM1_3 : List (ByteArray × Nat × Instr × Nat) := [(cX11_date, 147, (.iconst 5, 1)), (cX11_date, 148, (.iadd, 1)), (cX11_date, 149, (.iconst 0, 1)), (cX11_date, 150, (.iastore, 1)), (cX11_date, 151, (.aload_n 0, 1)), (cX11_date, 152, (.getfield 7, 3)), (cX11_date, 155, (.bipush 11, 2)), (cX11_date, 157, (.dup2, 1)), (cX11_date, 158, (.iaload, 1)), (cX11_date, 159, (.iconst 1, 1)), (cX11_date, 160, (.iadd, 1)), (cX11_date, 161, (.iastore, 1)), (cX11_date, 162, (.aload_n 0, 1)), (cX11_date, 163, (.getfield 7, 3)), (cX11_date, 166, (.bipush 11, 2)), (cX11_date, 168, (.iaload, 1)), (cX11_date, 169, (.iconst 1, 1)), (cX11_date, 170, (.isub, 1)), (cX11_date, 171, (.ireturn, 1)), (cX11_throwOut, 0, (.iload_n 1, 1)), (cX11_throwOut, 1, (.i2l, 1)), (cX11_throwOut, 2, (.lconst 0, 1)), (cX11_throwOut, 3, (.aload_n 0, 1)), (cX11_throwOut, 4, (.getfield 7, 3)), (cX11_throwOut, 7, (.bipush 11, 2)), (cX11_throwOut, 9, (.iaload, 1)), (cX11_throwOut, 10, (.iconst 1, 1)), (cX11_throwOut, 11, (.isub, 1)), (cX11_throwOut, 12, (.i2l, 1)), (cX11_throwOut, 13, (.invokestatic 70, 3)), (cX11_throwOut, 16, (.ifCond .eq 15, 3)), (cX11_throwOut, 19, (.iload_n 2, 1)), (cX11_throwOut, 20, (.i2l, 1)), (cX11_throwOut, 21, (.lconst 0, 1)), (cX11_throwOut, 22, (.ldc2_w 74, 3)), (cX11_throwOut, 25, (.invokestatic 70, 3)), (cX11_throwOut, 28, (.ifCond .ne 5, 3)), (cX11_throwOut, 31, (.iconst (-1), 1)), (cX11_throwOut, 32, (.ireturn, 1)), (cX11_throwOut, 33, (.aload_n 0, 1)), (cX11_throwOut, 34, (.getfield 7, 3)), (cX11_throwOut, 37, (.aload_n 0, 1)), (cX11_throwOut, 38, (.iload_n 1, 1)), (cX11_throwOut, 39, (.invokevirtual 154, 3)), (cX11_throwOut, 42, (.iconst 5, 1)), (cX11_throwOut, 43, (.iadd, 1)), (cX11_throwOut, 44, (.iaload, 1)), (cX11_throwOut, 45, (.istore_n 3, 1)), (cX11_throwOut, 46, (.aload_n 0, 1)), (cX11_throwOut, 47, (.getfield 7, 3)), (cX11_throwOut, 50, (.aload_n 0, 1)), (cX11_throwOut, 51, (.iload_n 1, 1)), (cX11_throwOut, 52, (.invokevirtual 154, 3)), (cX11_throwOut, 55, (.iconst 5, 1)), (cX11_throwOut, 56, (.iadd, 1)), (cX11_throwOut, 57, (.iload_n 2, 1)), (cX11_throwOut, 58, (.iastore, 1)), (cX11_throwOut, 59, (.iload_n 3, 1)), (cX11_throwOut, 60, (.ireturn, 1)), (cX11_placesOf, 0, (.iconst 0, 1))]
theorem dkB02decM1_3 : dkL02decM1_3.all (fun q => decide (decode q.1 q.2.1 = .ok q.2.2)) = true := by decide +kernel
theorem dX11_date_147 : decode cX11_date 147 = .ok (.iconst 5, 1) := dk_at dkB02decM1_3 0 rfl
theorem dX11_date_148 : decode cX11_date 148 = .ok (.iadd, 1) := dk_at dkB02decM1_3 1 rfl
theorem dX11_date_149 : decode cX11_date 149 = .ok (.iconst 0, 1) := dk_at dkB02decM1_3 2 rfl
theorem dX11_date_150 : decode cX11_date 150 = .ok (.iastore, 1) := dk_at dkB02decM1_3 3 rfl
theorem dX11_date_151 : decode cX11_date 151 = .ok (.aload_n 0, 1) := dk_at dkB02decM1_3 4 rfl
theorem dX11_date_152 : decode cX11_date 152 = .ok (.getfield 7, 3) := dk_at dkB02decM1_3 5 rfl
theorem dX11_date_155 : decode cX11_date 155 = .ok (.bipush 11, 2) := dk_at dkB02decM1_3 6 rfl
theorem dX11_date_157 : decode cX11_date 157 = .ok (.dup2, 1) := dk_at dkB02decM1_3 7 rfl
theorem dX11_date_158 : decode cX11_date 158 = .ok (.iaload, 1) := dk_at dkB02decM1_3 8 rfl
theorem dX11_date_159 : decode cX11_date 159 = .ok (.iconst 1, 1) := dk_at dkB02decM1_3 9 rfl
theorem dX11_date_160 : decode cX11_date 160 = .ok (.iadd, 1) := dk_at dkB02decM1_3 10 rfl
theorem dX11_date_161 : decode cX11_date 161 = .ok (.iastore, 1) := dk_at dkB02decM1_3 11 rfl
theorem dX11_date_162 : decode cX11_date 162 = .ok (.aload_n 0, 1) := dk_at dkB02decM1_3 12 rfl
theorem dX11_date_163 : decode cX11_date 163 = .ok (.getfield 7, 3) := dk_at dkB02decM1_3 13 rfl
theorem dX11_date_166 : decode cX11_date 166 = .ok (.bipush 11, 2) := dk_at dkB02decM1_3 14 rfl
theorem dX11_date_168 : decode cX11_date 168 = .ok (.iaload, 1) := dk_at dkB02decM1_3 15 rfl
theorem dX11_date_169 : decode cX11_date 169 = .ok (.iconst 1, 1) := dk_at dkB02decM1_3 16 rfl
theorem dX11_date_170 : decode cX11_date 170 = .ok (.isub, 1) := dk_at dkB02decM1_3 17 rfl
theorem dX11_date_171 : decode cX11_date 171 = .ok (.ireturn, 1) := dk_at dkB02decM1_3 18 rfl
theorem dX11_throwOut_0 : decode cX11_throwOut 0 = .ok (.iload_n 1, 1) := dk_at dkB02decM1_3 19 rfl
theorem dX11_throwOut_1 : decode cX11_throwOut 1 = .ok (.i2l, 1) := dk_at dkB02decM1_3 20 rfl
theorem dX11_throwOut_2 : decode cX11_throwOut 2 = .ok (.lconst 0, 1) := dk_at dkB02decM1_3 21 rfl
theorem dX11_throwOut_3 : decode cX11_throwOut 3 = .ok (.aload_n 0, 1) := dk_at dkB02decM1_3 22 rfl
theorem dX11_throwOut_4 : decode cX11_throwOut 4 = .ok (.getfield 7, 3) := dk_at dkB02decM1_3 23 rfl
theorem dX11_throwOut_7 : decode cX11_throwOut 7 = .ok (.bipush 11, 2) := dk_at dkB02decM1_3 24 rfl
theorem dX11_throwOut_9 : decode cX11_throwOut 9 = .ok (.iaload, 1) := dk_at dkB02decM1_3 25 rfl
theorem dX11_throwOut_10 : decode cX11_throwOut 10 = .ok (.iconst 1, 1) := dk_at dkB02decM1_3 26 rfl
theorem dX11_throwOut_11 : decode cX11_throwOut 11 = .ok (.isub, 1) := dk_at dkB02decM1_3 27 rfl
theorem dX11_throwOut_12 : decode cX11_throwOut 12 = .ok (.i2l, 1) := dk_at dkB02decM1_3 28 rfl
theorem dX11_throwOut_13 : decode cX11_throwOut 13 = .ok (.invokestatic 70, 3) := dk_at dkB02decM1_3 29 rfl
theorem dX11_throwOut_16 : decode cX11_throwOut 16 = .ok (.ifCond .eq 15, 3) := dk_at dkB02decM1_3 30 rfl
theorem dX11_throwOut_19 : decode cX11_throwOut 19 = .ok (.iload_n 2, 1) := dk_at dkB02decM1_3 31 rfl
theorem dX11_throwOut_20 : decode cX11_throwOut 20 = .ok (.i2l, 1) := dk_at dkB02decM1_3 32 rfl
theorem dX11_throwOut_21 : decode cX11_throwOut 21 = .ok (.lconst 0, 1) := dk_at dkB02decM1_3 33 rfl
theorem dX11_throwOut_22 : decode cX11_throwOut 22 = .ok (.ldc2_w 74, 3) := dk_at dkB02decM1_3 34 rfl
theorem dX11_throwOut_25 : decode cX11_throwOut 25 = .ok (.invokestatic 70, 3) := dk_at dkB02decM1_3 35 rfl
theorem dX11_throwOut_28 : decode cX11_throwOut 28 = .ok (.ifCond .ne 5, 3) := dk_at dkB02decM1_3 36 rfl
theorem dX11_throwOut_31 : decode cX11_throwOut 31 = .ok (.iconst (-1), 1) := dk_at dkB02decM1_3 37 rfl
theorem dX11_throwOut_32 : decode cX11_throwOut 32 = .ok (.ireturn, 1) := dk_at dkB02decM1_3 38 rfl
theorem dX11_throwOut_33 : decode cX11_throwOut 33 = .ok (.aload_n 0, 1) := dk_at dkB02decM1_3 39 rfl
theorem dX11_throwOut_34 : decode cX11_throwOut 34 = .ok (.getfield 7, 3) := dk_at dkB02decM1_3 40 rfl
theorem dX11_throwOut_37 : decode cX11_throwOut 37 = .ok (.aload_n 0, 1) := dk_at dkB02decM1_3 41 rfl
theorem dX11_throwOut_38 : decode cX11_throwOut 38 = .ok (.iload_n 1, 1) := dk_at dkB02decM1_3 42 rfl
theorem dX11_throwOut_39 : decode cX11_throwOut 39 = .ok (.invokevirtual 154, 3) := dk_at dkB02decM1_3 43 rfl
theorem dX11_throwOut_42 : decode cX11_throwOut 42 = .ok (.iconst 5, 1) := dk_at dkB02decM1_3 44 rfl
theorem dX11_throwOut_43 : decode cX11_throwOut 43 = .ok (.iadd, 1) := dk_at dkB02decM1_3 45 rfl
theorem dX11_throwOut_44 : decode cX11_throwOut 44 = .ok (.iaload, 1) := dk_at dkB02decM1_3 46 rfl
theorem dX11_throwOut_45 : decode cX11_throwOut 45 = .ok (.istore_n 3, 1) := dk_at dkB02decM1_3 47 rfl
theorem dX11_throwOut_46 : decode cX11_throwOut 46 = .ok (.aload_n 0, 1) := dk_at dkB02decM1_3 48 rfl
theorem dX11_throwOut_47 : decode cX11_throwOut 47 = .ok (.getfield 7, 3) := dk_at dkB02decM1_3 49 rfl
theorem dX11_throwOut_50 : decode cX11_throwOut 50 = .ok (.aload_n 0, 1) := dk_at dkB02decM1_3 50 rfl
theorem dX11_throwOut_51 : decode cX11_throwOut 51 = .ok (.iload_n 1, 1) := dk_at dkB02decM1_3 51 rfl
theorem dX11_throwOut_52 : decode cX11_throwOut 52 = .ok (.invokevirtual 154, 3) := dk_at dkB02decM1_3 52 rfl
theorem dX11_throwOut_55 : decode cX11_throwOut 55 = .ok (.iconst 5, 1) := dk_at dkB02decM1_3 53 rfl
theorem dX11_throwOut_56 : decode cX11_throwOut 56 = .ok (.iadd, 1) := dk_at dkB02decM1_3 54 rfl
theorem dX11_throwOut_57 : decode cX11_throwOut 57 = .ok (.iload_n 2, 1) := dk_at dkB02decM1_3 55 rfl
theorem dX11_throwOut_58 : decode cX11_throwOut 58 = .ok (.iastore, 1) := dk_at dkB02decM1_3 56 rfl
theorem dX11_throwOut_59 : decode cX11_throwOut 59 = .ok (.iload_n 3, 1) := dk_at dkB02decM1_3 57 rfl
theorem dX11_throwOut_60 : decode cX11_throwOut 60 = .ok (.ireturn, 1) := dk_at dkB02decM1_3 58 rfl
theorem dX11_placesOf_0 : decode cX11_placesOf 0 = .ok (.iconst 0, 1) := dk_at dkB02decM1_3 59 rfl
noncomputable def dkL02decM1_4 : List (ByteArray × Nat × Instr × Nat) := [(cX11_placesOf, 1, (.istore_n 2, 1)), (cX11_placesOf, 2, (.iconst 0, 1)), (cX11_placesOf, 3, (.istore_n 3, 1)), (cX11_placesOf, 4, (.iload_n 3, 1)), (cX11_placesOf, 5, (.aload_n 0, 1)), (cX11_placesOf, 6, (.getfield 7, 3)), (cX11_placesOf, 9, (.iconst 5, 1)), (cX11_placesOf, 10, (.iload_n 1, 1)), (cX11_placesOf, 11, (.iadd, 1)), (cX11_placesOf, 12, (.iaload, 1)), (cX11_placesOf, 13, (.if_icmp .ge 27, 3)), (cX11_placesOf, 16, (.iload_n 2, 1)), (cX11_placesOf, 17, (.aload_n 0, 1)), (cX11_placesOf, 18, (.iload_n 1, 1)), (cX11_placesOf, 19, (.iload_n 3, 1)), (cX11_placesOf, 20, (.invokevirtual 177, 3)), (cX11_placesOf, 23, (.iconst 2, 1)), (cX11_placesOf, 24, (.if_icmp .ne 7, 3)), (cX11_placesOf, 27, (.iconst 0, 1)), (cX11_placesOf, 28, (.goto 4, 3)), (cX11_placesOf, 31, (.iconst 1, 1)), (cX11_placesOf, 32, (.iadd, 1)), (cX11_placesOf, 33, (.istore_n 2, 1)), (cX11_placesOf, 34, (.iinc 3 1, 3)), (cX11_placesOf, 37, (.goto (-33), 3)), (cX11_placesOf, 40, (.iload_n 2, 1)), (cX11_placesOf, 41, (.ireturn, 1)), (cX11_count, 0, (.iload_n 1, 1)), (cX11_count, 1, (.tableswitch 137 0 7 #[47, 55, 101, 109, 117, 117, 128, 128], 47)), (cX11_count, 48, (.aload_n 0, 1)), (cX11_count, 49, (.getfield 7, 3)), (cX11_count, 52, (.bipush 11, 2)), (cX11_count, 54, (.iaload, 1)), (cX11_count, 55, (.ireturn, 1)), (cX11_count, 56, (.iconst 0, 1)), (cX11_count, 57, (.istore_n 2, 1)), (cX11_count, 58, (.iconst 0, 1)), (cX11_count, 59, (.istore_n 3, 1)), (cX11_count, 60, (.iload_n 3, 1)), (cX11_count, 61, (.aload_n 0, 1)), (cX11_count, 62, (.getfield 7, 3)), (cX11_count, 65, (.bipush 11, 2)), (cX11_count, 67, (.iaload, 1)), (cX11_count, 68, (.if_icmp .ge 32, 3)), (cX11_count, 71, (.iload_n 2, 1)), (cX11_count, 72, (.aload_n 0, 1)), (cX11_count, 73, (.getfield 7, 3)), (cX11_count, 76, (.aload_n 0, 1)), (cX11_count, 77, (.iload_n 3, 1)), (cX11_count, 78, (.invokevirtual 154, 3)), (cX11_count, 81, (.iconst 5, 1)), (cX11_count, 82, (.iadd, 1)), (cX11_count, 83, (.iaload, 1)), (cX11_count, 84, (.ifCond .le 7, 3)), (cX11_count, 87, (.iconst 1, 1)), (cX11_count, 88, (.goto 4, 3)), (cX11_count, 91, (.iconst 0, 1)), (cX11_count, 92, (.iadd, 1)), (cX11_count, 93, (.istore_n 2, 1)), (cX11_count, 94, (.iinc 3 1, 3))]
theorem dkB02decM1_4 : dkL02decM1_4.all (fun q => decide (decode q.1 q.2.1 = .ok q.2.2)) = true := by decide +kernel
theorem dX11_placesOf_1 : decode cX11_placesOf 1 = .ok (.istore_n 2, 1) := dk_at dkB02decM1_4 0 rfl
theorem dX11_placesOf_2 : decode cX11_placesOf 2 = .ok (.iconst 0, 1) := dk_at dkB02decM1_4 1 rfl
theorem dX11_placesOf_3 : decode cX11_placesOf 3 = .ok (.istore_n 3, 1) := dk_at dkB02decM1_4 2 rfl
theorem dX11_placesOf_4 : decode cX11_placesOf 4 = .ok (.iload_n 3, 1) := dk_at dkB02decM1_4 3 rfl
theorem dX11_placesOf_5 : decode cX11_placesOf 5 = .ok (.aload_n 0, 1) := dk_at dkB02decM1_4 4 rfl
theorem dX11_placesOf_6 : decode cX11_placesOf 6 = .ok (.getfield 7, 3) := dk_at dkB02decM1_4 5 rfl
theorem dX11_placesOf_9 : decode cX11_placesOf 9 = .ok (.iconst 5, 1) := dk_at dkB02decM1_4 6 rfl
theorem dX11_placesOf_10 : decode cX11_placesOf 10 = .ok (.iload_n 1, 1) := dk_at dkB02decM1_4 7 rfl
theorem dX11_placesOf_11 : decode cX11_placesOf 11 = .ok (.iadd, 1) := dk_at dkB02decM1_4 8 rfl
theorem dX11_placesOf_12 : decode cX11_placesOf 12 = .ok (.iaload, 1) := dk_at dkB02decM1_4 9 rfl
theorem dX11_placesOf_13 : decode cX11_placesOf 13 = .ok (.if_icmp .ge 27, 3) := dk_at dkB02decM1_4 10 rfl
theorem dX11_placesOf_16 : decode cX11_placesOf 16 = .ok (.iload_n 2, 1) := dk_at dkB02decM1_4 11 rfl
theorem dX11_placesOf_17 : decode cX11_placesOf 17 = .ok (.aload_n 0, 1) := dk_at dkB02decM1_4 12 rfl
theorem dX11_placesOf_18 : decode cX11_placesOf 18 = .ok (.iload_n 1, 1) := dk_at dkB02decM1_4 13 rfl
theorem dX11_placesOf_19 : decode cX11_placesOf 19 = .ok (.iload_n 3, 1) := dk_at dkB02decM1_4 14 rfl
theorem dX11_placesOf_20 : decode cX11_placesOf 20 = .ok (.invokevirtual 177, 3) := dk_at dkB02decM1_4 15 rfl
theorem dX11_placesOf_23 : decode cX11_placesOf 23 = .ok (.iconst 2, 1) := dk_at dkB02decM1_4 16 rfl
theorem dX11_placesOf_24 : decode cX11_placesOf 24 = .ok (.if_icmp .ne 7, 3) := dk_at dkB02decM1_4 17 rfl
theorem dX11_placesOf_27 : decode cX11_placesOf 27 = .ok (.iconst 0, 1) := dk_at dkB02decM1_4 18 rfl
theorem dX11_placesOf_28 : decode cX11_placesOf 28 = .ok (.goto 4, 3) := dk_at dkB02decM1_4 19 rfl
theorem dX11_placesOf_31 : decode cX11_placesOf 31 = .ok (.iconst 1, 1) := dk_at dkB02decM1_4 20 rfl
theorem dX11_placesOf_32 : decode cX11_placesOf 32 = .ok (.iadd, 1) := dk_at dkB02decM1_4 21 rfl
theorem dX11_placesOf_33 : decode cX11_placesOf 33 = .ok (.istore_n 2, 1) := dk_at dkB02decM1_4 22 rfl
theorem dX11_placesOf_34 : decode cX11_placesOf 34 = .ok (.iinc 3 1, 3) := dk_at dkB02decM1_4 23 rfl
theorem dX11_placesOf_37 : decode cX11_placesOf 37 = .ok (.goto (-33), 3) := dk_at dkB02decM1_4 24 rfl
theorem dX11_placesOf_40 : decode cX11_placesOf 40 = .ok (.iload_n 2, 1) := dk_at dkB02decM1_4 25 rfl
theorem dX11_placesOf_41 : decode cX11_placesOf 41 = .ok (.ireturn, 1) := dk_at dkB02decM1_4 26 rfl
theorem dX11_count_0 : decode cX11_count 0 = .ok (.iload_n 1, 1) := dk_at dkB02decM1_4 27 rfl
theorem dX11_count_1 : decode cX11_count 1 = .ok (.tableswitch 137 0 7 #[47, 55, 101, 109, 117, 117, 128, 128], 47) := dk_at dkB02decM1_4 28 rfl
theorem dX11_count_48 : decode cX11_count 48 = .ok (.aload_n 0, 1) := dk_at dkB02decM1_4 29 rfl
theorem dX11_count_49 : decode cX11_count 49 = .ok (.getfield 7, 3) := dk_at dkB02decM1_4 30 rfl
theorem dX11_count_52 : decode cX11_count 52 = .ok (.bipush 11, 2) := dk_at dkB02decM1_4 31 rfl
theorem dX11_count_54 : decode cX11_count 54 = .ok (.iaload, 1) := dk_at dkB02decM1_4 32 rfl
theorem dX11_count_55 : decode cX11_count 55 = .ok (.ireturn, 1) := dk_at dkB02decM1_4 33 rfl
theorem dX11_count_56 : decode cX11_count 56 = .ok (.iconst 0, 1) := dk_at dkB02decM1_4 34 rfl
theorem dX11_count_57 : decode cX11_count 57 = .ok (.istore_n 2, 1) := dk_at dkB02decM1_4 35 rfl
theorem dX11_count_58 : decode cX11_count 58 = .ok (.iconst 0, 1) := dk_at dkB02decM1_4 36 rfl
theorem dX11_count_59 : decode cX11_count 59 = .ok (.istore_n 3, 1) := dk_at dkB02decM1_4 37 rfl
theorem dX11_count_60 : decode cX11_count 60 = .ok (.iload_n 3, 1) := dk_at dkB02decM1_4 38 rfl
theorem dX11_count_61 : decode cX11_count 61 = .ok (.aload_n 0, 1) := dk_at dkB02decM1_4 39 rfl
theorem dX11_count_62 : decode cX11_count 62 = .ok (.getfield 7, 3) := dk_at dkB02decM1_4 40 rfl
theorem dX11_count_65 : decode cX11_count 65 = .ok (.bipush 11, 2) := dk_at dkB02decM1_4 41 rfl
theorem dX11_count_67 : decode cX11_count 67 = .ok (.iaload, 1) := dk_at dkB02decM1_4 42 rfl
theorem dX11_count_68 : decode cX11_count 68 = .ok (.if_icmp .ge 32, 3) := dk_at dkB02decM1_4 43 rfl
theorem dX11_count_71 : decode cX11_count 71 = .ok (.iload_n 2, 1) := dk_at dkB02decM1_4 44 rfl
theorem dX11_count_72 : decode cX11_count 72 = .ok (.aload_n 0, 1) := dk_at dkB02decM1_4 45 rfl
theorem dX11_count_73 : decode cX11_count 73 = .ok (.getfield 7, 3) := dk_at dkB02decM1_4 46 rfl
theorem dX11_count_76 : decode cX11_count 76 = .ok (.aload_n 0, 1) := dk_at dkB02decM1_4 47 rfl
theorem dX11_count_77 : decode cX11_count 77 = .ok (.iload_n 3, 1) := dk_at dkB02decM1_4 48 rfl
theorem dX11_count_78 : decode cX11_count 78 = .ok (.invokevirtual 154, 3) := dk_at dkB02decM1_4 49 rfl
theorem dX11_count_81 : decode cX11_count 81 = .ok (.iconst 5, 1) := dk_at dkB02decM1_4 50 rfl
theorem dX11_count_82 : decode cX11_count 82 = .ok (.iadd, 1) := dk_at dkB02decM1_4 51 rfl
theorem dX11_count_83 : decode cX11_count 83 = .ok (.iaload, 1) := dk_at dkB02decM1_4 52 rfl
theorem dX11_count_84 : decode cX11_count 84 = .ok (.ifCond .le 7, 3) := dk_at dkB02decM1_4 53 rfl
theorem dX11_count_87 : decode cX11_count 87 = .ok (.iconst 1, 1) := dk_at dkB02decM1_4 54 rfl
theorem dX11_count_88 : decode cX11_count 88 = .ok (.goto 4, 3) := dk_at dkB02decM1_4 55 rfl
theorem dX11_count_91 : decode cX11_count 91 = .ok (.iconst 0, 1) := dk_at dkB02decM1_4 56 rfl
theorem dX11_count_92 : decode cX11_count 92 = .ok (.iadd, 1) := dk_at dkB02decM1_4 57 rfl
theorem dX11_count_93 : decode cX11_count 93 = .ok (.istore_n 2, 1) := dk_at dkB02decM1_4 58 rfl
theorem dX11_count_94 : decode cX11_count 94 = .ok (.iinc 3 1, 3) := dk_at dkB02decM1_4 59 rfl
noncomputable def dkL02decM1_5 : List (ByteArray × Nat × Instr × Nat) := [(cX11_count, 97, (.goto (-37), 3)), (cX11_count, 100, (.iload_n 2, 1)), (cX11_count, 101, (.ireturn, 1)), (cX11_count, 102, (.aload_n 0, 1)), (cX11_count, 103, (.getfield 7, 3)), (cX11_count, 106, (.bipush 12, 2)), (cX11_count, 108, (.iaload, 1)), (cX11_count, 109, (.ireturn, 1)), (cX11_count, 110, (.aload_n 0, 1)), (cX11_count, 111, (.getfield 7, 3)), (cX11_count, 114, (.bipush 13, 2)), (cX11_count, 116, (.iaload, 1)), (cX11_count, 117, (.ireturn, 1)), (cX11_count, 118, (.aload_n 0, 1)), (cX11_count, 119, (.getfield 7, 3)), (cX11_count, 122, (.iconst 5, 1)), (cX11_count, 123, (.iload_n 1, 1)), (cX11_count, 124, (.iadd, 1)), (cX11_count, 125, (.iconst 4, 1)), (cX11_count, 126, (.isub, 1)), (cX11_count, 127, (.iaload, 1)), (cX11_count, 128, (.ireturn, 1)), (cX11_count, 129, (.aload_n 0, 1)), (cX11_count, 130, (.iload_n 1, 1)), (cX11_count, 131, (.bipush 6, 2)), (cX11_count, 133, (.isub, 1)), (cX11_count, 134, (.invokevirtual 189, 3)), (cX11_count, 137, (.ireturn, 1)), (cX11_count, 138, (.iconst (-1), 1)), (cX11_count, 139, (.ireturn, 1)), (cX11_placeOf, 0, (.bipush (-4), 2)), (cX11_placeOf, 2, (.istore_n 2, 1)), (cX11_placeOf, 3, (.iconst 0, 1)), (cX11_placeOf, 4, (.istore_n 3, 1)), (cX11_placeOf, 5, (.iload_n 3, 1)), (cX11_placeOf, 6, (.aload_n 0, 1)), (cX11_placeOf, 7, (.getfield 192, 3)), (cX11_placeOf, 10, (.if_icmp .ge 25, 3)), (cX11_placeOf, 13, (.aload_n 0, 1)), (cX11_placeOf, 14, (.getfield 19, 3)), (cX11_placeOf, 17, (.iload_n 3, 1)), (cX11_placeOf, 18, (.iaload, 1)), (cX11_placeOf, 19, (.iload_n 1, 1)), (cX11_placeOf, 20, (.if_icmp .ne 7, 3)), (cX11_placeOf, 23, (.iload_n 3, 1)), (cX11_placeOf, 24, (.goto 4, 3)), (cX11_placeOf, 27, (.iload_n 2, 1)), (cX11_placeOf, 28, (.istore_n 2, 1)), (cX11_placeOf, 29, (.iinc 3 1, 3)), (cX11_placeOf, 32, (.goto (-27), 3)), (cX11_placeOf, 35, (.iload_n 2, 1)), (cX11_placeOf, 36, (.ireturn, 1)), (cX11_binding, 0, (.iconst 0, 1)), (cX11_binding, 1, (.istore_n 2, 1)), (cX11_binding, 2, (.iconst 0, 1)), (cX11_binding, 3, (.istore_n 3, 1)), (cX11_binding, 4, (.iload_n 3, 1)), (cX11_binding, 5, (.aload_n 0, 1)), (cX11_binding, 6, (.getfield 7, 3)), (cX11_binding, 9, (.bipush 11, 2))]
theorem dkB02decM1_5 : dkL02decM1_5.all (fun q => decide (decode q.1 q.2.1 = .ok q.2.2)) = true := by decide +kernel
theorem dX11_count_97 : decode cX11_count 97 = .ok (.goto (-37), 3) := dk_at dkB02decM1_5 0 rfl
theorem dX11_count_100 : decode cX11_count 100 = .ok (.iload_n 2, 1) := dk_at dkB02decM1_5 1 rfl
theorem dX11_count_101 : decode cX11_count 101 = .ok (.ireturn, 1) := dk_at dkB02decM1_5 2 rfl
theorem dX11_count_102 : decode cX11_count 102 = .ok (.aload_n 0, 1) := dk_at dkB02decM1_5 3 rfl
theorem dX11_count_103 : decode cX11_count 103 = .ok (.getfield 7, 3) := dk_at dkB02decM1_5 4 rfl
theorem dX11_count_106 : decode cX11_count 106 = .ok (.bipush 12, 2) := dk_at dkB02decM1_5 5 rfl
theorem dX11_count_108 : decode cX11_count 108 = .ok (.iaload, 1) := dk_at dkB02decM1_5 6 rfl
theorem dX11_count_109 : decode cX11_count 109 = .ok (.ireturn, 1) := dk_at dkB02decM1_5 7 rfl
theorem dX11_count_110 : decode cX11_count 110 = .ok (.aload_n 0, 1) := dk_at dkB02decM1_5 8 rfl
theorem dX11_count_111 : decode cX11_count 111 = .ok (.getfield 7, 3) := dk_at dkB02decM1_5 9 rfl
theorem dX11_count_114 : decode cX11_count 114 = .ok (.bipush 13, 2) := dk_at dkB02decM1_5 10 rfl
theorem dX11_count_116 : decode cX11_count 116 = .ok (.iaload, 1) := dk_at dkB02decM1_5 11 rfl
theorem dX11_count_117 : decode cX11_count 117 = .ok (.ireturn, 1) := dk_at dkB02decM1_5 12 rfl
theorem dX11_count_118 : decode cX11_count 118 = .ok (.aload_n 0, 1) := dk_at dkB02decM1_5 13 rfl
theorem dX11_count_119 : decode cX11_count 119 = .ok (.getfield 7, 3) := dk_at dkB02decM1_5 14 rfl
theorem dX11_count_122 : decode cX11_count 122 = .ok (.iconst 5, 1) := dk_at dkB02decM1_5 15 rfl
theorem dX11_count_123 : decode cX11_count 123 = .ok (.iload_n 1, 1) := dk_at dkB02decM1_5 16 rfl
theorem dX11_count_124 : decode cX11_count 124 = .ok (.iadd, 1) := dk_at dkB02decM1_5 17 rfl
theorem dX11_count_125 : decode cX11_count 125 = .ok (.iconst 4, 1) := dk_at dkB02decM1_5 18 rfl
theorem dX11_count_126 : decode cX11_count 126 = .ok (.isub, 1) := dk_at dkB02decM1_5 19 rfl
theorem dX11_count_127 : decode cX11_count 127 = .ok (.iaload, 1) := dk_at dkB02decM1_5 20 rfl
theorem dX11_count_128 : decode cX11_count 128 = .ok (.ireturn, 1) := dk_at dkB02decM1_5 21 rfl
theorem dX11_count_129 : decode cX11_count 129 = .ok (.aload_n 0, 1) := dk_at dkB02decM1_5 22 rfl
theorem dX11_count_130 : decode cX11_count 130 = .ok (.iload_n 1, 1) := dk_at dkB02decM1_5 23 rfl
theorem dX11_count_131 : decode cX11_count 131 = .ok (.bipush 6, 2) := dk_at dkB02decM1_5 24 rfl
theorem dX11_count_133 : decode cX11_count 133 = .ok (.isub, 1) := dk_at dkB02decM1_5 25 rfl
theorem dX11_count_134 : decode cX11_count 134 = .ok (.invokevirtual 189, 3) := dk_at dkB02decM1_5 26 rfl
theorem dX11_count_137 : decode cX11_count 137 = .ok (.ireturn, 1) := dk_at dkB02decM1_5 27 rfl
theorem dX11_count_138 : decode cX11_count 138 = .ok (.iconst (-1), 1) := dk_at dkB02decM1_5 28 rfl
theorem dX11_count_139 : decode cX11_count 139 = .ok (.ireturn, 1) := dk_at dkB02decM1_5 29 rfl
theorem dX11_placeOf_0 : decode cX11_placeOf 0 = .ok (.bipush (-4), 2) := dk_at dkB02decM1_5 30 rfl
theorem dX11_placeOf_2 : decode cX11_placeOf 2 = .ok (.istore_n 2, 1) := dk_at dkB02decM1_5 31 rfl
theorem dX11_placeOf_3 : decode cX11_placeOf 3 = .ok (.iconst 0, 1) := dk_at dkB02decM1_5 32 rfl
theorem dX11_placeOf_4 : decode cX11_placeOf 4 = .ok (.istore_n 3, 1) := dk_at dkB02decM1_5 33 rfl
theorem dX11_placeOf_5 : decode cX11_placeOf 5 = .ok (.iload_n 3, 1) := dk_at dkB02decM1_5 34 rfl
theorem dX11_placeOf_6 : decode cX11_placeOf 6 = .ok (.aload_n 0, 1) := dk_at dkB02decM1_5 35 rfl
theorem dX11_placeOf_7 : decode cX11_placeOf 7 = .ok (.getfield 192, 3) := dk_at dkB02decM1_5 36 rfl
theorem dX11_placeOf_10 : decode cX11_placeOf 10 = .ok (.if_icmp .ge 25, 3) := dk_at dkB02decM1_5 37 rfl
theorem dX11_placeOf_13 : decode cX11_placeOf 13 = .ok (.aload_n 0, 1) := dk_at dkB02decM1_5 38 rfl
theorem dX11_placeOf_14 : decode cX11_placeOf 14 = .ok (.getfield 19, 3) := dk_at dkB02decM1_5 39 rfl
theorem dX11_placeOf_17 : decode cX11_placeOf 17 = .ok (.iload_n 3, 1) := dk_at dkB02decM1_5 40 rfl
theorem dX11_placeOf_18 : decode cX11_placeOf 18 = .ok (.iaload, 1) := dk_at dkB02decM1_5 41 rfl
theorem dX11_placeOf_19 : decode cX11_placeOf 19 = .ok (.iload_n 1, 1) := dk_at dkB02decM1_5 42 rfl
theorem dX11_placeOf_20 : decode cX11_placeOf 20 = .ok (.if_icmp .ne 7, 3) := dk_at dkB02decM1_5 43 rfl
theorem dX11_placeOf_23 : decode cX11_placeOf 23 = .ok (.iload_n 3, 1) := dk_at dkB02decM1_5 44 rfl
theorem dX11_placeOf_24 : decode cX11_placeOf 24 = .ok (.goto 4, 3) := dk_at dkB02decM1_5 45 rfl
theorem dX11_placeOf_27 : decode cX11_placeOf 27 = .ok (.iload_n 2, 1) := dk_at dkB02decM1_5 46 rfl
theorem dX11_placeOf_28 : decode cX11_placeOf 28 = .ok (.istore_n 2, 1) := dk_at dkB02decM1_5 47 rfl
theorem dX11_placeOf_29 : decode cX11_placeOf 29 = .ok (.iinc 3 1, 3) := dk_at dkB02decM1_5 48 rfl
theorem dX11_placeOf_32 : decode cX11_placeOf 32 = .ok (.goto (-27), 3) := dk_at dkB02decM1_5 49 rfl
theorem dX11_placeOf_35 : decode cX11_placeOf 35 = .ok (.iload_n 2, 1) := dk_at dkB02decM1_5 50 rfl
theorem dX11_placeOf_36 : decode cX11_placeOf 36 = .ok (.ireturn, 1) := dk_at dkB02decM1_5 51 rfl
theorem dX11_binding_0 : decode cX11_binding 0 = .ok (.iconst 0, 1) := dk_at dkB02decM1_5 52 rfl
theorem dX11_binding_1 : decode cX11_binding 1 = .ok (.istore_n 2, 1) := dk_at dkB02decM1_5 53 rfl
theorem dX11_binding_2 : decode cX11_binding 2 = .ok (.iconst 0, 1) := dk_at dkB02decM1_5 54 rfl
theorem dX11_binding_3 : decode cX11_binding 3 = .ok (.istore_n 3, 1) := dk_at dkB02decM1_5 55 rfl
theorem dX11_binding_4 : decode cX11_binding 4 = .ok (.iload_n 3, 1) := dk_at dkB02decM1_5 56 rfl
theorem dX11_binding_5 : decode cX11_binding 5 = .ok (.aload_n 0, 1) := dk_at dkB02decM1_5 57 rfl
theorem dX11_binding_6 : decode cX11_binding 6 = .ok (.getfield 7, 3) := dk_at dkB02decM1_5 58 rfl
theorem dX11_binding_9 : decode cX11_binding 9 = .ok (.bipush 11, 2) := dk_at dkB02decM1_5 59 rfl
noncomputable def dkL02decM1_6 : List (ByteArray × Nat × Instr × Nat) := [(cX11_binding, 11, (.iaload, 1)), (cX11_binding, 12, (.if_icmp .ge 48, 3)), (cX11_binding, 15, (.iload_n 2, 1)), (cX11_binding, 16, (.aload_n 0, 1)), (cX11_binding, 17, (.getfield 7, 3)), (cX11_binding, 20, (.aload_n 0, 1)), (cX11_binding, 21, (.iload_n 3, 1)), (cX11_binding, 22, (.invokevirtual 154, 3)), (cX11_binding, 25, (.iaload, 1)), (cX11_binding, 26, (.iload_n 1, 1)), (cX11_binding, 27, (.if_icmp .ne 24, 3)), (cX11_binding, 30, (.aload_n 0, 1)), (cX11_binding, 31, (.getfield 7, 3)), (cX11_binding, 34, (.aload_n 0, 1)), (cX11_binding, 35, (.iload_n 3, 1)), (cX11_binding, 36, (.invokevirtual 154, 3)), (cX11_binding, 39, (.iconst 5, 1)), (cX11_binding, 40, (.iadd, 1)), (cX11_binding, 41, (.iaload, 1)), (cX11_binding, 42, (.ifCond .ne 9, 3)), (cX11_binding, 45, (.iconst 1, 1)), (cX11_binding, 46, (.iload_n 3, 1)), (cX11_binding, 47, (.ishl, 1)), (cX11_binding, 48, (.goto 4, 3)), (cX11_binding, 51, (.iconst 0, 1)), (cX11_binding, 52, (.ior, 1)), (cX11_binding, 53, (.istore_n 2, 1)), (cX11_binding, 54, (.iinc 3 1, 3)), (cX11_binding, 57, (.goto (-53), 3)), (cX11_binding, 60, (.iload_n 2, 1)), (cX11_binding, 61, (.ireturn, 1)), (cX11_lay, 0, (.aload_n 0, 1)), (cX11_lay, 1, (.iconst 0, 1)), (cX11_lay, 2, (.putfield 192, 3)), (cX11_lay, 5, (.aload_n 0, 1)), (cX11_lay, 6, (.aload_n 0, 1)), (cX11_lay, 7, (.getfield 7, 3)), (cX11_lay, 10, (.iconst 3, 1)), (cX11_lay, 11, (.iload_n 1, 1)), (cX11_lay, 12, (.iadd, 1)), (cX11_lay, 13, (.iaload, 1)), (cX11_lay, 14, (.putfield 195, 3)), (cX11_lay, 17, (.iconst 0, 1)), (cX11_lay, 18, (.istore_n 3, 1)), (cX11_lay, 19, (.iconst 0, 1)), (cX11_lay, 20, (.istore 4, 2)), (cX11_lay, 22, (.iload 4, 2)), (cX11_lay, 24, (.aload_n 0, 1)), (cX11_lay, 25, (.getfield 7, 3)), (cX11_lay, 28, (.iconst 5, 1)), (cX11_lay, 29, (.iload_n 1, 1)), (cX11_lay, 30, (.iadd, 1)), (cX11_lay, 31, (.iaload, 1)), (cX11_lay, 32, (.if_icmp .ge 98, 3)), (cX11_lay, 35, (.aload_n 0, 1)), (cX11_lay, 36, (.iload_n 1, 1)), (cX11_lay, 37, (.iload 4, 2)), (cX11_lay, 39, (.invokevirtual 177, 3)), (cX11_lay, 42, (.iconst 2, 1)), (cX11_lay, 43, (.if_icmp .ne 8, 3))]
theorem dkB02decM1_6 : dkL02decM1_6.all (fun q => decide (decode q.1 q.2.1 = .ok q.2.2)) = true := by decide +kernel
theorem dX11_binding_11 : decode cX11_binding 11 = .ok (.iaload, 1) := dk_at dkB02decM1_6 0 rfl
theorem dX11_binding_12 : decode cX11_binding 12 = .ok (.if_icmp .ge 48, 3) := dk_at dkB02decM1_6 1 rfl
theorem dX11_binding_15 : decode cX11_binding 15 = .ok (.iload_n 2, 1) := dk_at dkB02decM1_6 2 rfl
theorem dX11_binding_16 : decode cX11_binding 16 = .ok (.aload_n 0, 1) := dk_at dkB02decM1_6 3 rfl
theorem dX11_binding_17 : decode cX11_binding 17 = .ok (.getfield 7, 3) := dk_at dkB02decM1_6 4 rfl
theorem dX11_binding_20 : decode cX11_binding 20 = .ok (.aload_n 0, 1) := dk_at dkB02decM1_6 5 rfl
theorem dX11_binding_21 : decode cX11_binding 21 = .ok (.iload_n 3, 1) := dk_at dkB02decM1_6 6 rfl
theorem dX11_binding_22 : decode cX11_binding 22 = .ok (.invokevirtual 154, 3) := dk_at dkB02decM1_6 7 rfl
theorem dX11_binding_25 : decode cX11_binding 25 = .ok (.iaload, 1) := dk_at dkB02decM1_6 8 rfl
theorem dX11_binding_26 : decode cX11_binding 26 = .ok (.iload_n 1, 1) := dk_at dkB02decM1_6 9 rfl
theorem dX11_binding_27 : decode cX11_binding 27 = .ok (.if_icmp .ne 24, 3) := dk_at dkB02decM1_6 10 rfl
theorem dX11_binding_30 : decode cX11_binding 30 = .ok (.aload_n 0, 1) := dk_at dkB02decM1_6 11 rfl
theorem dX11_binding_31 : decode cX11_binding 31 = .ok (.getfield 7, 3) := dk_at dkB02decM1_6 12 rfl
theorem dX11_binding_34 : decode cX11_binding 34 = .ok (.aload_n 0, 1) := dk_at dkB02decM1_6 13 rfl
theorem dX11_binding_35 : decode cX11_binding 35 = .ok (.iload_n 3, 1) := dk_at dkB02decM1_6 14 rfl
theorem dX11_binding_36 : decode cX11_binding 36 = .ok (.invokevirtual 154, 3) := dk_at dkB02decM1_6 15 rfl
theorem dX11_binding_39 : decode cX11_binding 39 = .ok (.iconst 5, 1) := dk_at dkB02decM1_6 16 rfl
theorem dX11_binding_40 : decode cX11_binding 40 = .ok (.iadd, 1) := dk_at dkB02decM1_6 17 rfl
theorem dX11_binding_41 : decode cX11_binding 41 = .ok (.iaload, 1) := dk_at dkB02decM1_6 18 rfl
theorem dX11_binding_42 : decode cX11_binding 42 = .ok (.ifCond .ne 9, 3) := dk_at dkB02decM1_6 19 rfl
theorem dX11_binding_45 : decode cX11_binding 45 = .ok (.iconst 1, 1) := dk_at dkB02decM1_6 20 rfl
theorem dX11_binding_46 : decode cX11_binding 46 = .ok (.iload_n 3, 1) := dk_at dkB02decM1_6 21 rfl
theorem dX11_binding_47 : decode cX11_binding 47 = .ok (.ishl, 1) := dk_at dkB02decM1_6 22 rfl
theorem dX11_binding_48 : decode cX11_binding 48 = .ok (.goto 4, 3) := dk_at dkB02decM1_6 23 rfl
theorem dX11_binding_51 : decode cX11_binding 51 = .ok (.iconst 0, 1) := dk_at dkB02decM1_6 24 rfl
theorem dX11_binding_52 : decode cX11_binding 52 = .ok (.ior, 1) := dk_at dkB02decM1_6 25 rfl
theorem dX11_binding_53 : decode cX11_binding 53 = .ok (.istore_n 2, 1) := dk_at dkB02decM1_6 26 rfl
theorem dX11_binding_54 : decode cX11_binding 54 = .ok (.iinc 3 1, 3) := dk_at dkB02decM1_6 27 rfl
theorem dX11_binding_57 : decode cX11_binding 57 = .ok (.goto (-53), 3) := dk_at dkB02decM1_6 28 rfl
theorem dX11_binding_60 : decode cX11_binding 60 = .ok (.iload_n 2, 1) := dk_at dkB02decM1_6 29 rfl
theorem dX11_binding_61 : decode cX11_binding 61 = .ok (.ireturn, 1) := dk_at dkB02decM1_6 30 rfl
theorem dX11_lay_0 : decode cX11_lay 0 = .ok (.aload_n 0, 1) := dk_at dkB02decM1_6 31 rfl
theorem dX11_lay_1 : decode cX11_lay 1 = .ok (.iconst 0, 1) := dk_at dkB02decM1_6 32 rfl
theorem dX11_lay_2 : decode cX11_lay 2 = .ok (.putfield 192, 3) := dk_at dkB02decM1_6 33 rfl
theorem dX11_lay_5 : decode cX11_lay 5 = .ok (.aload_n 0, 1) := dk_at dkB02decM1_6 34 rfl
theorem dX11_lay_6 : decode cX11_lay 6 = .ok (.aload_n 0, 1) := dk_at dkB02decM1_6 35 rfl
theorem dX11_lay_7 : decode cX11_lay 7 = .ok (.getfield 7, 3) := dk_at dkB02decM1_6 36 rfl
theorem dX11_lay_10 : decode cX11_lay 10 = .ok (.iconst 3, 1) := dk_at dkB02decM1_6 37 rfl
theorem dX11_lay_11 : decode cX11_lay 11 = .ok (.iload_n 1, 1) := dk_at dkB02decM1_6 38 rfl
theorem dX11_lay_12 : decode cX11_lay 12 = .ok (.iadd, 1) := dk_at dkB02decM1_6 39 rfl
theorem dX11_lay_13 : decode cX11_lay 13 = .ok (.iaload, 1) := dk_at dkB02decM1_6 40 rfl
theorem dX11_lay_14 : decode cX11_lay 14 = .ok (.putfield 195, 3) := dk_at dkB02decM1_6 41 rfl
theorem dX11_lay_17 : decode cX11_lay 17 = .ok (.iconst 0, 1) := dk_at dkB02decM1_6 42 rfl
theorem dX11_lay_18 : decode cX11_lay 18 = .ok (.istore_n 3, 1) := dk_at dkB02decM1_6 43 rfl
theorem dX11_lay_19 : decode cX11_lay 19 = .ok (.iconst 0, 1) := dk_at dkB02decM1_6 44 rfl
theorem dX11_lay_20 : decode cX11_lay 20 = .ok (.istore 4, 2) := dk_at dkB02decM1_6 45 rfl
theorem dX11_lay_22 : decode cX11_lay 22 = .ok (.iload 4, 2) := dk_at dkB02decM1_6 46 rfl
theorem dX11_lay_24 : decode cX11_lay 24 = .ok (.aload_n 0, 1) := dk_at dkB02decM1_6 47 rfl
theorem dX11_lay_25 : decode cX11_lay 25 = .ok (.getfield 7, 3) := dk_at dkB02decM1_6 48 rfl
theorem dX11_lay_28 : decode cX11_lay 28 = .ok (.iconst 5, 1) := dk_at dkB02decM1_6 49 rfl
theorem dX11_lay_29 : decode cX11_lay 29 = .ok (.iload_n 1, 1) := dk_at dkB02decM1_6 50 rfl
theorem dX11_lay_30 : decode cX11_lay 30 = .ok (.iadd, 1) := dk_at dkB02decM1_6 51 rfl
theorem dX11_lay_31 : decode cX11_lay 31 = .ok (.iaload, 1) := dk_at dkB02decM1_6 52 rfl
theorem dX11_lay_32 : decode cX11_lay 32 = .ok (.if_icmp .ge 98, 3) := dk_at dkB02decM1_6 53 rfl
theorem dX11_lay_35 : decode cX11_lay 35 = .ok (.aload_n 0, 1) := dk_at dkB02decM1_6 54 rfl
theorem dX11_lay_36 : decode cX11_lay 36 = .ok (.iload_n 1, 1) := dk_at dkB02decM1_6 55 rfl
theorem dX11_lay_37 : decode cX11_lay 37 = .ok (.iload 4, 2) := dk_at dkB02decM1_6 56 rfl
theorem dX11_lay_39 : decode cX11_lay 39 = .ok (.invokevirtual 177, 3) := dk_at dkB02decM1_6 57 rfl
theorem dX11_lay_42 : decode cX11_lay 42 = .ok (.iconst 2, 1) := dk_at dkB02decM1_6 58 rfl
theorem dX11_lay_43 : decode cX11_lay 43 = .ok (.if_icmp .ne 8, 3) := dk_at dkB02decM1_6 59 rfl
noncomputable def dkL02decM1_7 : List (ByteArray × Nat × Instr × Nat) := [(cX11_lay, 46, (.iconst 1, 1)), (cX11_lay, 47, (.istore_n 3, 1)), (cX11_lay, 48, (.goto 76, 3)), (cX11_lay, 51, (.aload_n 0, 1)), (cX11_lay, 52, (.getfield 19, 3)), (cX11_lay, 55, (.aload_n 0, 1)), (cX11_lay, 56, (.getfield 192, 3)), (cX11_lay, 59, (.iload 4, 2)), (cX11_lay, 61, (.iastore, 1)), (cX11_lay, 62, (.aload_n 0, 1)), (cX11_lay, 63, (.getfield 22, 3)), (cX11_lay, 66, (.aload_n 0, 1)), (cX11_lay, 67, (.getfield 192, 3)), (cX11_lay, 70, (.ldc 198, 2)), (cX11_lay, 72, (.iastore, 1)), (cX11_lay, 73, (.aload_n 0, 1)), (cX11_lay, 74, (.getfield 25, 3)), (cX11_lay, 77, (.aload_n 0, 1)), (cX11_lay, 78, (.getfield 192, 3)), (cX11_lay, 81, (.iload_n 3, 1)), (cX11_lay, 82, (.ifCond .eq 7, 3)), (cX11_lay, 85, (.iconst 2, 1)), (cX11_lay, 86, (.goto 4, 3)), (cX11_lay, 89, (.iconst 0, 1)), (cX11_lay, 90, (.iastore, 1)), (cX11_lay, 91, (.aload_n 0, 1)), (cX11_lay, 92, (.getfield 28, 3)), (cX11_lay, 95, (.aload_n 0, 1)), (cX11_lay, 96, (.getfield 192, 3)), (cX11_lay, 99, (.bipush 24, 2)), (cX11_lay, 101, (.iastore, 1)), (cX11_lay, 102, (.aload_n 0, 1)), (cX11_lay, 103, (.getfield 31, 3)), (cX11_lay, 106, (.aload_n 0, 1)), (cX11_lay, 107, (.getfield 192, 3)), (cX11_lay, 110, (.iconst 0, 1)), (cX11_lay, 111, (.iastore, 1)), (cX11_lay, 112, (.aload_n 0, 1)), (cX11_lay, 113, (.dup, 1)), (cX11_lay, 114, (.getfield 192, 3)), (cX11_lay, 117, (.iconst 1, 1)), (cX11_lay, 118, (.iadd, 1)), (cX11_lay, 119, (.putfield 192, 3)), (cX11_lay, 122, (.iconst 0, 1)), (cX11_lay, 123, (.istore_n 3, 1)), (cX11_lay, 124, (.iinc 4 1, 3)), (cX11_lay, 127, (.goto (-105), 3)), (cX11_lay, 130, (.iconst 0, 1)), (cX11_lay, 131, (.istore 4, 2)), (cX11_lay, 133, (.iload 4, 2)), (cX11_lay, 135, (.aload_n 0, 1)), (cX11_lay, 136, (.getfield 7, 3)), (cX11_lay, 139, (.bipush 9, 2)), (cX11_lay, 141, (.iload_n 1, 1)), (cX11_lay, 142, (.iadd, 1)), (cX11_lay, 143, (.iaload, 1)), (cX11_lay, 144, (.if_icmp .ge 20, 3)), (cX11_lay, 147, (.aload_n 0, 1)), (cX11_lay, 148, (.aload_n 0, 1)), (cX11_lay, 149, (.iload_n 1, 1))]
theorem dkB02decM1_7 : dkL02decM1_7.all (fun q => decide (decode q.1 q.2.1 = .ok q.2.2)) = true := by decide +kernel
theorem dX11_lay_46 : decode cX11_lay 46 = .ok (.iconst 1, 1) := dk_at dkB02decM1_7 0 rfl
theorem dX11_lay_47 : decode cX11_lay 47 = .ok (.istore_n 3, 1) := dk_at dkB02decM1_7 1 rfl
theorem dX11_lay_48 : decode cX11_lay 48 = .ok (.goto 76, 3) := dk_at dkB02decM1_7 2 rfl
theorem dX11_lay_51 : decode cX11_lay 51 = .ok (.aload_n 0, 1) := dk_at dkB02decM1_7 3 rfl
theorem dX11_lay_52 : decode cX11_lay 52 = .ok (.getfield 19, 3) := dk_at dkB02decM1_7 4 rfl
theorem dX11_lay_55 : decode cX11_lay 55 = .ok (.aload_n 0, 1) := dk_at dkB02decM1_7 5 rfl
theorem dX11_lay_56 : decode cX11_lay 56 = .ok (.getfield 192, 3) := dk_at dkB02decM1_7 6 rfl
theorem dX11_lay_59 : decode cX11_lay 59 = .ok (.iload 4, 2) := dk_at dkB02decM1_7 7 rfl
theorem dX11_lay_61 : decode cX11_lay 61 = .ok (.iastore, 1) := dk_at dkB02decM1_7 8 rfl
theorem dX11_lay_62 : decode cX11_lay 62 = .ok (.aload_n 0, 1) := dk_at dkB02decM1_7 9 rfl
theorem dX11_lay_63 : decode cX11_lay 63 = .ok (.getfield 22, 3) := dk_at dkB02decM1_7 10 rfl
theorem dX11_lay_66 : decode cX11_lay 66 = .ok (.aload_n 0, 1) := dk_at dkB02decM1_7 11 rfl
theorem dX11_lay_67 : decode cX11_lay 67 = .ok (.getfield 192, 3) := dk_at dkB02decM1_7 12 rfl
theorem dX11_lay_70 : decode cX11_lay 70 = .ok (.ldc 198, 2) := dk_at dkB02decM1_7 13 rfl
theorem dX11_lay_72 : decode cX11_lay 72 = .ok (.iastore, 1) := dk_at dkB02decM1_7 14 rfl
theorem dX11_lay_73 : decode cX11_lay 73 = .ok (.aload_n 0, 1) := dk_at dkB02decM1_7 15 rfl
theorem dX11_lay_74 : decode cX11_lay 74 = .ok (.getfield 25, 3) := dk_at dkB02decM1_7 16 rfl
theorem dX11_lay_77 : decode cX11_lay 77 = .ok (.aload_n 0, 1) := dk_at dkB02decM1_7 17 rfl
theorem dX11_lay_78 : decode cX11_lay 78 = .ok (.getfield 192, 3) := dk_at dkB02decM1_7 18 rfl
theorem dX11_lay_81 : decode cX11_lay 81 = .ok (.iload_n 3, 1) := dk_at dkB02decM1_7 19 rfl
theorem dX11_lay_82 : decode cX11_lay 82 = .ok (.ifCond .eq 7, 3) := dk_at dkB02decM1_7 20 rfl
theorem dX11_lay_85 : decode cX11_lay 85 = .ok (.iconst 2, 1) := dk_at dkB02decM1_7 21 rfl
theorem dX11_lay_86 : decode cX11_lay 86 = .ok (.goto 4, 3) := dk_at dkB02decM1_7 22 rfl
theorem dX11_lay_89 : decode cX11_lay 89 = .ok (.iconst 0, 1) := dk_at dkB02decM1_7 23 rfl
theorem dX11_lay_90 : decode cX11_lay 90 = .ok (.iastore, 1) := dk_at dkB02decM1_7 24 rfl
theorem dX11_lay_91 : decode cX11_lay 91 = .ok (.aload_n 0, 1) := dk_at dkB02decM1_7 25 rfl
theorem dX11_lay_92 : decode cX11_lay 92 = .ok (.getfield 28, 3) := dk_at dkB02decM1_7 26 rfl
theorem dX11_lay_95 : decode cX11_lay 95 = .ok (.aload_n 0, 1) := dk_at dkB02decM1_7 27 rfl
theorem dX11_lay_96 : decode cX11_lay 96 = .ok (.getfield 192, 3) := dk_at dkB02decM1_7 28 rfl
theorem dX11_lay_99 : decode cX11_lay 99 = .ok (.bipush 24, 2) := dk_at dkB02decM1_7 29 rfl
theorem dX11_lay_101 : decode cX11_lay 101 = .ok (.iastore, 1) := dk_at dkB02decM1_7 30 rfl
theorem dX11_lay_102 : decode cX11_lay 102 = .ok (.aload_n 0, 1) := dk_at dkB02decM1_7 31 rfl
theorem dX11_lay_103 : decode cX11_lay 103 = .ok (.getfield 31, 3) := dk_at dkB02decM1_7 32 rfl
theorem dX11_lay_106 : decode cX11_lay 106 = .ok (.aload_n 0, 1) := dk_at dkB02decM1_7 33 rfl
theorem dX11_lay_107 : decode cX11_lay 107 = .ok (.getfield 192, 3) := dk_at dkB02decM1_7 34 rfl
theorem dX11_lay_110 : decode cX11_lay 110 = .ok (.iconst 0, 1) := dk_at dkB02decM1_7 35 rfl
theorem dX11_lay_111 : decode cX11_lay 111 = .ok (.iastore, 1) := dk_at dkB02decM1_7 36 rfl
theorem dX11_lay_112 : decode cX11_lay 112 = .ok (.aload_n 0, 1) := dk_at dkB02decM1_7 37 rfl
theorem dX11_lay_113 : decode cX11_lay 113 = .ok (.dup, 1) := dk_at dkB02decM1_7 38 rfl
theorem dX11_lay_114 : decode cX11_lay 114 = .ok (.getfield 192, 3) := dk_at dkB02decM1_7 39 rfl
theorem dX11_lay_117 : decode cX11_lay 117 = .ok (.iconst 1, 1) := dk_at dkB02decM1_7 40 rfl
theorem dX11_lay_118 : decode cX11_lay 118 = .ok (.iadd, 1) := dk_at dkB02decM1_7 41 rfl
theorem dX11_lay_119 : decode cX11_lay 119 = .ok (.putfield 192, 3) := dk_at dkB02decM1_7 42 rfl
theorem dX11_lay_122 : decode cX11_lay 122 = .ok (.iconst 0, 1) := dk_at dkB02decM1_7 43 rfl
theorem dX11_lay_123 : decode cX11_lay 123 = .ok (.istore_n 3, 1) := dk_at dkB02decM1_7 44 rfl
theorem dX11_lay_124 : decode cX11_lay 124 = .ok (.iinc 4 1, 3) := dk_at dkB02decM1_7 45 rfl
theorem dX11_lay_127 : decode cX11_lay 127 = .ok (.goto (-105), 3) := dk_at dkB02decM1_7 46 rfl
theorem dX11_lay_130 : decode cX11_lay 130 = .ok (.iconst 0, 1) := dk_at dkB02decM1_7 47 rfl
theorem dX11_lay_131 : decode cX11_lay 131 = .ok (.istore 4, 2) := dk_at dkB02decM1_7 48 rfl
theorem dX11_lay_133 : decode cX11_lay 133 = .ok (.iload 4, 2) := dk_at dkB02decM1_7 49 rfl
theorem dX11_lay_135 : decode cX11_lay 135 = .ok (.aload_n 0, 1) := dk_at dkB02decM1_7 50 rfl
theorem dX11_lay_136 : decode cX11_lay 136 = .ok (.getfield 7, 3) := dk_at dkB02decM1_7 51 rfl
theorem dX11_lay_139 : decode cX11_lay 139 = .ok (.bipush 9, 2) := dk_at dkB02decM1_7 52 rfl
theorem dX11_lay_141 : decode cX11_lay 141 = .ok (.iload_n 1, 1) := dk_at dkB02decM1_7 53 rfl
theorem dX11_lay_142 : decode cX11_lay 142 = .ok (.iadd, 1) := dk_at dkB02decM1_7 54 rfl
theorem dX11_lay_143 : decode cX11_lay 143 = .ok (.iaload, 1) := dk_at dkB02decM1_7 55 rfl
theorem dX11_lay_144 : decode cX11_lay 144 = .ok (.if_icmp .ge 20, 3) := dk_at dkB02decM1_7 56 rfl
theorem dX11_lay_147 : decode cX11_lay 147 = .ok (.aload_n 0, 1) := dk_at dkB02decM1_7 57 rfl
theorem dX11_lay_148 : decode cX11_lay 148 = .ok (.aload_n 0, 1) := dk_at dkB02decM1_7 58 rfl
theorem dX11_lay_149 : decode cX11_lay 149 = .ok (.iload_n 1, 1) := dk_at dkB02decM1_7 59 rfl
noncomputable def dkL02decM1_8 : List (ByteArray × Nat × Instr × Nat) := [(cX11_lay, 150, (.iload 4, 2)), (cX11_lay, 152, (.invokevirtual 157, 3)), (cX11_lay, 155, (.invokevirtual 199, 3)), (cX11_lay, 158, (.iinc 4 1, 3)), (cX11_lay, 161, (.goto (-28), 3)), (cX11_lay, 164, (.iconst 0, 1)), (cX11_lay, 165, (.istore 4, 2)), (cX11_lay, 167, (.iload 4, 2)), (cX11_lay, 169, (.aload_n 0, 1)), (cX11_lay, 170, (.getfield 7, 3)), (cX11_lay, 173, (.bipush 11, 2)), (cX11_lay, 175, (.iaload, 1)), (cX11_lay, 176, (.if_icmp .ge 29, 3)), (cX11_lay, 179, (.iload_n 2, 1)), (cX11_lay, 180, (.iload 4, 2)), (cX11_lay, 182, (.ishr, 1)), (cX11_lay, 183, (.iconst 1, 1)), (cX11_lay, 184, (.iand, 1)), (cX11_lay, 185, (.iconst 1, 1)), (cX11_lay, 186, (.if_icmp .ne 13, 3)), (cX11_lay, 189, (.aload_n 0, 1)), (cX11_lay, 190, (.aload_n 0, 1)), (cX11_lay, 191, (.iload 4, 2)), (cX11_lay, 193, (.invokevirtual 154, 3)), (cX11_lay, 196, (.invokevirtual 203, 3)), (cX11_lay, 199, (.iinc 4 1, 3)), (cX11_lay, 202, (.goto (-35), 3)), (cX11_lay, 205, (.return_, 1)), (cX11_layStretch, 0, (.iconst 1, 1)), (cX11_layStretch, 1, (.istore_n 2, 1)), (cX11_layStretch, 2, (.iload_n 2, 1)), (cX11_layStretch, 3, (.aload_n 0, 1)), (cX11_layStretch, 4, (.getfield 192, 3)), (cX11_layStretch, 7, (.if_icmp .ge 155, 3)), (cX11_layStretch, 10, (.aload_n 0, 1)), (cX11_layStretch, 11, (.getfield 19, 3)), (cX11_layStretch, 14, (.iload_n 2, 1)), (cX11_layStretch, 15, (.iconst 1, 1)), (cX11_layStretch, 16, (.isub, 1)), (cX11_layStretch, 17, (.iaload, 1)), (cX11_layStretch, 18, (.aload_n 0, 1)), (cX11_layStretch, 19, (.getfield 7, 3)), (cX11_layStretch, 22, (.iload_n 1, 1)), (cX11_layStretch, 23, (.iconst 1, 1)), (cX11_layStretch, 24, (.iadd, 1)), (cX11_layStretch, 25, (.iaload, 1)), (cX11_layStretch, 26, (.if_icmp .lt 130, 3)), (cX11_layStretch, 29, (.aload_n 0, 1)), (cX11_layStretch, 30, (.getfield 19, 3)), (cX11_layStretch, 33, (.iload_n 2, 1)), (cX11_layStretch, 34, (.iaload, 1)), (cX11_layStretch, 35, (.aload_n 0, 1)), (cX11_layStretch, 36, (.getfield 7, 3)), (cX11_layStretch, 39, (.iload_n 1, 1)), (cX11_layStretch, 40, (.iconst 2, 1)), (cX11_layStretch, 41, (.iadd, 1)), (cX11_layStretch, 42, (.iaload, 1)), (cX11_layStretch, 43, (.if_icmp .gt 113, 3)), (cX11_layStretch, 46, (.aload_n 0, 1)), (cX11_layStretch, 47, (.getfield 7, 3))]
theorem dkB02decM1_8 : dkL02decM1_8.all (fun q => decide (decode q.1 q.2.1 = .ok q.2.2)) = true := by decide +kernel
theorem dX11_lay_150 : decode cX11_lay 150 = .ok (.iload 4, 2) := dk_at dkB02decM1_8 0 rfl
theorem dX11_lay_152 : decode cX11_lay 152 = .ok (.invokevirtual 157, 3) := dk_at dkB02decM1_8 1 rfl
theorem dX11_lay_155 : decode cX11_lay 155 = .ok (.invokevirtual 199, 3) := dk_at dkB02decM1_8 2 rfl
theorem dX11_lay_158 : decode cX11_lay 158 = .ok (.iinc 4 1, 3) := dk_at dkB02decM1_8 3 rfl
theorem dX11_lay_161 : decode cX11_lay 161 = .ok (.goto (-28), 3) := dk_at dkB02decM1_8 4 rfl
theorem dX11_lay_164 : decode cX11_lay 164 = .ok (.iconst 0, 1) := dk_at dkB02decM1_8 5 rfl
theorem dX11_lay_165 : decode cX11_lay 165 = .ok (.istore 4, 2) := dk_at dkB02decM1_8 6 rfl
theorem dX11_lay_167 : decode cX11_lay 167 = .ok (.iload 4, 2) := dk_at dkB02decM1_8 7 rfl
theorem dX11_lay_169 : decode cX11_lay 169 = .ok (.aload_n 0, 1) := dk_at dkB02decM1_8 8 rfl
theorem dX11_lay_170 : decode cX11_lay 170 = .ok (.getfield 7, 3) := dk_at dkB02decM1_8 9 rfl
theorem dX11_lay_173 : decode cX11_lay 173 = .ok (.bipush 11, 2) := dk_at dkB02decM1_8 10 rfl
theorem dX11_lay_175 : decode cX11_lay 175 = .ok (.iaload, 1) := dk_at dkB02decM1_8 11 rfl
theorem dX11_lay_176 : decode cX11_lay 176 = .ok (.if_icmp .ge 29, 3) := dk_at dkB02decM1_8 12 rfl
theorem dX11_lay_179 : decode cX11_lay 179 = .ok (.iload_n 2, 1) := dk_at dkB02decM1_8 13 rfl
theorem dX11_lay_180 : decode cX11_lay 180 = .ok (.iload 4, 2) := dk_at dkB02decM1_8 14 rfl
theorem dX11_lay_182 : decode cX11_lay 182 = .ok (.ishr, 1) := dk_at dkB02decM1_8 15 rfl
theorem dX11_lay_183 : decode cX11_lay 183 = .ok (.iconst 1, 1) := dk_at dkB02decM1_8 16 rfl
theorem dX11_lay_184 : decode cX11_lay 184 = .ok (.iand, 1) := dk_at dkB02decM1_8 17 rfl
theorem dX11_lay_185 : decode cX11_lay 185 = .ok (.iconst 1, 1) := dk_at dkB02decM1_8 18 rfl
theorem dX11_lay_186 : decode cX11_lay 186 = .ok (.if_icmp .ne 13, 3) := dk_at dkB02decM1_8 19 rfl
theorem dX11_lay_189 : decode cX11_lay 189 = .ok (.aload_n 0, 1) := dk_at dkB02decM1_8 20 rfl
theorem dX11_lay_190 : decode cX11_lay 190 = .ok (.aload_n 0, 1) := dk_at dkB02decM1_8 21 rfl
theorem dX11_lay_191 : decode cX11_lay 191 = .ok (.iload 4, 2) := dk_at dkB02decM1_8 22 rfl
theorem dX11_lay_193 : decode cX11_lay 193 = .ok (.invokevirtual 154, 3) := dk_at dkB02decM1_8 23 rfl
theorem dX11_lay_196 : decode cX11_lay 196 = .ok (.invokevirtual 203, 3) := dk_at dkB02decM1_8 24 rfl
theorem dX11_lay_199 : decode cX11_lay 199 = .ok (.iinc 4 1, 3) := dk_at dkB02decM1_8 25 rfl
theorem dX11_lay_202 : decode cX11_lay 202 = .ok (.goto (-35), 3) := dk_at dkB02decM1_8 26 rfl
theorem dX11_lay_205 : decode cX11_lay 205 = .ok (.return_, 1) := dk_at dkB02decM1_8 27 rfl
theorem dX11_layStretch_0 : decode cX11_layStretch 0 = .ok (.iconst 1, 1) := dk_at dkB02decM1_8 28 rfl
theorem dX11_layStretch_1 : decode cX11_layStretch 1 = .ok (.istore_n 2, 1) := dk_at dkB02decM1_8 29 rfl
theorem dX11_layStretch_2 : decode cX11_layStretch 2 = .ok (.iload_n 2, 1) := dk_at dkB02decM1_8 30 rfl
theorem dX11_layStretch_3 : decode cX11_layStretch 3 = .ok (.aload_n 0, 1) := dk_at dkB02decM1_8 31 rfl
theorem dX11_layStretch_4 : decode cX11_layStretch 4 = .ok (.getfield 192, 3) := dk_at dkB02decM1_8 32 rfl
theorem dX11_layStretch_7 : decode cX11_layStretch 7 = .ok (.if_icmp .ge 155, 3) := dk_at dkB02decM1_8 33 rfl
theorem dX11_layStretch_10 : decode cX11_layStretch 10 = .ok (.aload_n 0, 1) := dk_at dkB02decM1_8 34 rfl
theorem dX11_layStretch_11 : decode cX11_layStretch 11 = .ok (.getfield 19, 3) := dk_at dkB02decM1_8 35 rfl
theorem dX11_layStretch_14 : decode cX11_layStretch 14 = .ok (.iload_n 2, 1) := dk_at dkB02decM1_8 36 rfl
theorem dX11_layStretch_15 : decode cX11_layStretch 15 = .ok (.iconst 1, 1) := dk_at dkB02decM1_8 37 rfl
theorem dX11_layStretch_16 : decode cX11_layStretch 16 = .ok (.isub, 1) := dk_at dkB02decM1_8 38 rfl
theorem dX11_layStretch_17 : decode cX11_layStretch 17 = .ok (.iaload, 1) := dk_at dkB02decM1_8 39 rfl
theorem dX11_layStretch_18 : decode cX11_layStretch 18 = .ok (.aload_n 0, 1) := dk_at dkB02decM1_8 40 rfl
theorem dX11_layStretch_19 : decode cX11_layStretch 19 = .ok (.getfield 7, 3) := dk_at dkB02decM1_8 41 rfl
theorem dX11_layStretch_22 : decode cX11_layStretch 22 = .ok (.iload_n 1, 1) := dk_at dkB02decM1_8 42 rfl
theorem dX11_layStretch_23 : decode cX11_layStretch 23 = .ok (.iconst 1, 1) := dk_at dkB02decM1_8 43 rfl
theorem dX11_layStretch_24 : decode cX11_layStretch 24 = .ok (.iadd, 1) := dk_at dkB02decM1_8 44 rfl
theorem dX11_layStretch_25 : decode cX11_layStretch 25 = .ok (.iaload, 1) := dk_at dkB02decM1_8 45 rfl
theorem dX11_layStretch_26 : decode cX11_layStretch 26 = .ok (.if_icmp .lt 130, 3) := dk_at dkB02decM1_8 46 rfl
theorem dX11_layStretch_29 : decode cX11_layStretch 29 = .ok (.aload_n 0, 1) := dk_at dkB02decM1_8 47 rfl
theorem dX11_layStretch_30 : decode cX11_layStretch 30 = .ok (.getfield 19, 3) := dk_at dkB02decM1_8 48 rfl
theorem dX11_layStretch_33 : decode cX11_layStretch 33 = .ok (.iload_n 2, 1) := dk_at dkB02decM1_8 49 rfl
theorem dX11_layStretch_34 : decode cX11_layStretch 34 = .ok (.iaload, 1) := dk_at dkB02decM1_8 50 rfl
theorem dX11_layStretch_35 : decode cX11_layStretch 35 = .ok (.aload_n 0, 1) := dk_at dkB02decM1_8 51 rfl
theorem dX11_layStretch_36 : decode cX11_layStretch 36 = .ok (.getfield 7, 3) := dk_at dkB02decM1_8 52 rfl
theorem dX11_layStretch_39 : decode cX11_layStretch 39 = .ok (.iload_n 1, 1) := dk_at dkB02decM1_8 53 rfl
theorem dX11_layStretch_40 : decode cX11_layStretch 40 = .ok (.iconst 2, 1) := dk_at dkB02decM1_8 54 rfl
theorem dX11_layStretch_41 : decode cX11_layStretch 41 = .ok (.iadd, 1) := dk_at dkB02decM1_8 55 rfl
theorem dX11_layStretch_42 : decode cX11_layStretch 42 = .ok (.iaload, 1) := dk_at dkB02decM1_8 56 rfl
theorem dX11_layStretch_43 : decode cX11_layStretch 43 = .ok (.if_icmp .gt 113, 3) := dk_at dkB02decM1_8 57 rfl
theorem dX11_layStretch_46 : decode cX11_layStretch 46 = .ok (.aload_n 0, 1) := dk_at dkB02decM1_8 58 rfl
theorem dX11_layStretch_47 : decode cX11_layStretch 47 = .ok (.getfield 7, 3) := dk_at dkB02decM1_8 59 rfl
noncomputable def dkL02decM1_9 : List (ByteArray × Nat × Instr × Nat) := [(cX11_layStretch, 50, (.iload_n 1, 1)), (cX11_layStretch, 51, (.iaload, 1)), (cX11_layStretch, 52, (.iconst 2, 1)), (cX11_layStretch, 53, (.if_icmp .ne 46, 3)), (cX11_layStretch, 56, (.aload_n 0, 1)), (cX11_layStretch, 57, (.getfield 25, 3)), (cX11_layStretch, 60, (.iload_n 2, 1)), (cX11_layStretch, 61, (.aload_n 0, 1)), (cX11_layStretch, 62, (.getfield 25, 3)), (cX11_layStretch, 65, (.iload_n 2, 1)), (cX11_layStretch, 66, (.iaload, 1)), (cX11_layStretch, 67, (.aload_n 0, 1)), (cX11_layStretch, 68, (.getfield 7, 3)), (cX11_layStretch, 71, (.iload_n 1, 1)), (cX11_layStretch, 72, (.iconst 3, 1)), (cX11_layStretch, 73, (.iadd, 1)), (cX11_layStretch, 74, (.iaload, 1)), (cX11_layStretch, 75, (.if_icmp .le 12, 3)), (cX11_layStretch, 78, (.aload_n 0, 1)), (cX11_layStretch, 79, (.getfield 25, 3)), (cX11_layStretch, 82, (.iload_n 2, 1)), (cX11_layStretch, 83, (.iaload, 1)), (cX11_layStretch, 84, (.goto 11, 3)), (cX11_layStretch, 87, (.aload_n 0, 1)), (cX11_layStretch, 88, (.getfield 7, 3)), (cX11_layStretch, 91, (.iload_n 1, 1)), (cX11_layStretch, 92, (.iconst 3, 1)), (cX11_layStretch, 93, (.iadd, 1)), (cX11_layStretch, 94, (.iaload, 1)), (cX11_layStretch, 95, (.iastore, 1)), (cX11_layStretch, 96, (.goto 60, 3)), (cX11_layStretch, 99, (.aload_n 0, 1)), (cX11_layStretch, 100, (.getfield 28, 3)), (cX11_layStretch, 103, (.iload_n 2, 1)), (cX11_layStretch, 104, (.iconst 1, 1)), (cX11_layStretch, 105, (.iastore, 1)), (cX11_layStretch, 106, (.aload_n 0, 1)), (cX11_layStretch, 107, (.getfield 31, 3)), (cX11_layStretch, 110, (.iload_n 2, 1)), (cX11_layStretch, 111, (.aload_n 0, 1)), (cX11_layStretch, 112, (.getfield 7, 3)), (cX11_layStretch, 115, (.iload_n 1, 1)), (cX11_layStretch, 116, (.iaload, 1)), (cX11_layStretch, 117, (.iconst 1, 1)), (cX11_layStretch, 118, (.if_icmp .ne 31, 3)), (cX11_layStretch, 121, (.aload_n 0, 1)), (cX11_layStretch, 122, (.getfield 7, 3)), (cX11_layStretch, 125, (.iload_n 1, 1)), (cX11_layStretch, 126, (.iconst 3, 1)), (cX11_layStretch, 127, (.iadd, 1)), (cX11_layStretch, 128, (.iaload, 1)), (cX11_layStretch, 129, (.aload_n 0, 1)), (cX11_layStretch, 130, (.getfield 31, 3)), (cX11_layStretch, 133, (.iload_n 2, 1)), (cX11_layStretch, 134, (.iaload, 1)), (cX11_layStretch, 135, (.if_icmp .le 14, 3)), (cX11_layStretch, 138, (.aload_n 0, 1)), (cX11_layStretch, 139, (.getfield 7, 3)), (cX11_layStretch, 142, (.iload_n 1, 1)), (cX11_layStretch, 143, (.iconst 3, 1))]
theorem dkB02decM1_9 : dkL02decM1_9.all (fun q => decide (decode q.1 q.2.1 = .ok q.2.2)) = true := by decide +kernel
theorem dX11_layStretch_50 : decode cX11_layStretch 50 = .ok (.iload_n 1, 1) := dk_at dkB02decM1_9 0 rfl
theorem dX11_layStretch_51 : decode cX11_layStretch 51 = .ok (.iaload, 1) := dk_at dkB02decM1_9 1 rfl
theorem dX11_layStretch_52 : decode cX11_layStretch 52 = .ok (.iconst 2, 1) := dk_at dkB02decM1_9 2 rfl
theorem dX11_layStretch_53 : decode cX11_layStretch 53 = .ok (.if_icmp .ne 46, 3) := dk_at dkB02decM1_9 3 rfl
theorem dX11_layStretch_56 : decode cX11_layStretch 56 = .ok (.aload_n 0, 1) := dk_at dkB02decM1_9 4 rfl
theorem dX11_layStretch_57 : decode cX11_layStretch 57 = .ok (.getfield 25, 3) := dk_at dkB02decM1_9 5 rfl
theorem dX11_layStretch_60 : decode cX11_layStretch 60 = .ok (.iload_n 2, 1) := dk_at dkB02decM1_9 6 rfl
theorem dX11_layStretch_61 : decode cX11_layStretch 61 = .ok (.aload_n 0, 1) := dk_at dkB02decM1_9 7 rfl
theorem dX11_layStretch_62 : decode cX11_layStretch 62 = .ok (.getfield 25, 3) := dk_at dkB02decM1_9 8 rfl
theorem dX11_layStretch_65 : decode cX11_layStretch 65 = .ok (.iload_n 2, 1) := dk_at dkB02decM1_9 9 rfl
theorem dX11_layStretch_66 : decode cX11_layStretch 66 = .ok (.iaload, 1) := dk_at dkB02decM1_9 10 rfl
theorem dX11_layStretch_67 : decode cX11_layStretch 67 = .ok (.aload_n 0, 1) := dk_at dkB02decM1_9 11 rfl
theorem dX11_layStretch_68 : decode cX11_layStretch 68 = .ok (.getfield 7, 3) := dk_at dkB02decM1_9 12 rfl
theorem dX11_layStretch_71 : decode cX11_layStretch 71 = .ok (.iload_n 1, 1) := dk_at dkB02decM1_9 13 rfl
theorem dX11_layStretch_72 : decode cX11_layStretch 72 = .ok (.iconst 3, 1) := dk_at dkB02decM1_9 14 rfl
theorem dX11_layStretch_73 : decode cX11_layStretch 73 = .ok (.iadd, 1) := dk_at dkB02decM1_9 15 rfl
theorem dX11_layStretch_74 : decode cX11_layStretch 74 = .ok (.iaload, 1) := dk_at dkB02decM1_9 16 rfl
theorem dX11_layStretch_75 : decode cX11_layStretch 75 = .ok (.if_icmp .le 12, 3) := dk_at dkB02decM1_9 17 rfl
theorem dX11_layStretch_78 : decode cX11_layStretch 78 = .ok (.aload_n 0, 1) := dk_at dkB02decM1_9 18 rfl
theorem dX11_layStretch_79 : decode cX11_layStretch 79 = .ok (.getfield 25, 3) := dk_at dkB02decM1_9 19 rfl
theorem dX11_layStretch_82 : decode cX11_layStretch 82 = .ok (.iload_n 2, 1) := dk_at dkB02decM1_9 20 rfl
theorem dX11_layStretch_83 : decode cX11_layStretch 83 = .ok (.iaload, 1) := dk_at dkB02decM1_9 21 rfl
theorem dX11_layStretch_84 : decode cX11_layStretch 84 = .ok (.goto 11, 3) := dk_at dkB02decM1_9 22 rfl
theorem dX11_layStretch_87 : decode cX11_layStretch 87 = .ok (.aload_n 0, 1) := dk_at dkB02decM1_9 23 rfl
theorem dX11_layStretch_88 : decode cX11_layStretch 88 = .ok (.getfield 7, 3) := dk_at dkB02decM1_9 24 rfl
theorem dX11_layStretch_91 : decode cX11_layStretch 91 = .ok (.iload_n 1, 1) := dk_at dkB02decM1_9 25 rfl
theorem dX11_layStretch_92 : decode cX11_layStretch 92 = .ok (.iconst 3, 1) := dk_at dkB02decM1_9 26 rfl
theorem dX11_layStretch_93 : decode cX11_layStretch 93 = .ok (.iadd, 1) := dk_at dkB02decM1_9 27 rfl
theorem dX11_layStretch_94 : decode cX11_layStretch 94 = .ok (.iaload, 1) := dk_at dkB02decM1_9 28 rfl
theorem dX11_layStretch_95 : decode cX11_layStretch 95 = .ok (.iastore, 1) := dk_at dkB02decM1_9 29 rfl
theorem dX11_layStretch_96 : decode cX11_layStretch 96 = .ok (.goto 60, 3) := dk_at dkB02decM1_9 30 rfl
theorem dX11_layStretch_99 : decode cX11_layStretch 99 = .ok (.aload_n 0, 1) := dk_at dkB02decM1_9 31 rfl
theorem dX11_layStretch_100 : decode cX11_layStretch 100 = .ok (.getfield 28, 3) := dk_at dkB02decM1_9 32 rfl
theorem dX11_layStretch_103 : decode cX11_layStretch 103 = .ok (.iload_n 2, 1) := dk_at dkB02decM1_9 33 rfl
theorem dX11_layStretch_104 : decode cX11_layStretch 104 = .ok (.iconst 1, 1) := dk_at dkB02decM1_9 34 rfl
theorem dX11_layStretch_105 : decode cX11_layStretch 105 = .ok (.iastore, 1) := dk_at dkB02decM1_9 35 rfl
theorem dX11_layStretch_106 : decode cX11_layStretch 106 = .ok (.aload_n 0, 1) := dk_at dkB02decM1_9 36 rfl
theorem dX11_layStretch_107 : decode cX11_layStretch 107 = .ok (.getfield 31, 3) := dk_at dkB02decM1_9 37 rfl
theorem dX11_layStretch_110 : decode cX11_layStretch 110 = .ok (.iload_n 2, 1) := dk_at dkB02decM1_9 38 rfl
theorem dX11_layStretch_111 : decode cX11_layStretch 111 = .ok (.aload_n 0, 1) := dk_at dkB02decM1_9 39 rfl
theorem dX11_layStretch_112 : decode cX11_layStretch 112 = .ok (.getfield 7, 3) := dk_at dkB02decM1_9 40 rfl
theorem dX11_layStretch_115 : decode cX11_layStretch 115 = .ok (.iload_n 1, 1) := dk_at dkB02decM1_9 41 rfl
theorem dX11_layStretch_116 : decode cX11_layStretch 116 = .ok (.iaload, 1) := dk_at dkB02decM1_9 42 rfl
theorem dX11_layStretch_117 : decode cX11_layStretch 117 = .ok (.iconst 1, 1) := dk_at dkB02decM1_9 43 rfl
theorem dX11_layStretch_118 : decode cX11_layStretch 118 = .ok (.if_icmp .ne 31, 3) := dk_at dkB02decM1_9 44 rfl
theorem dX11_layStretch_121 : decode cX11_layStretch 121 = .ok (.aload_n 0, 1) := dk_at dkB02decM1_9 45 rfl
theorem dX11_layStretch_122 : decode cX11_layStretch 122 = .ok (.getfield 7, 3) := dk_at dkB02decM1_9 46 rfl
theorem dX11_layStretch_125 : decode cX11_layStretch 125 = .ok (.iload_n 1, 1) := dk_at dkB02decM1_9 47 rfl
theorem dX11_layStretch_126 : decode cX11_layStretch 126 = .ok (.iconst 3, 1) := dk_at dkB02decM1_9 48 rfl
theorem dX11_layStretch_127 : decode cX11_layStretch 127 = .ok (.iadd, 1) := dk_at dkB02decM1_9 49 rfl
theorem dX11_layStretch_128 : decode cX11_layStretch 128 = .ok (.iaload, 1) := dk_at dkB02decM1_9 50 rfl
theorem dX11_layStretch_129 : decode cX11_layStretch 129 = .ok (.aload_n 0, 1) := dk_at dkB02decM1_9 51 rfl
theorem dX11_layStretch_130 : decode cX11_layStretch 130 = .ok (.getfield 31, 3) := dk_at dkB02decM1_9 52 rfl
theorem dX11_layStretch_133 : decode cX11_layStretch 133 = .ok (.iload_n 2, 1) := dk_at dkB02decM1_9 53 rfl
theorem dX11_layStretch_134 : decode cX11_layStretch 134 = .ok (.iaload, 1) := dk_at dkB02decM1_9 54 rfl
theorem dX11_layStretch_135 : decode cX11_layStretch 135 = .ok (.if_icmp .le 14, 3) := dk_at dkB02decM1_9 55 rfl
theorem dX11_layStretch_138 : decode cX11_layStretch 138 = .ok (.aload_n 0, 1) := dk_at dkB02decM1_9 56 rfl
theorem dX11_layStretch_139 : decode cX11_layStretch 139 = .ok (.getfield 7, 3) := dk_at dkB02decM1_9 57 rfl
theorem dX11_layStretch_142 : decode cX11_layStretch 142 = .ok (.iload_n 1, 1) := dk_at dkB02decM1_9 58 rfl
theorem dX11_layStretch_143 : decode cX11_layStretch 143 = .ok (.iconst 3, 1) := dk_at dkB02decM1_9 59 rfl
noncomputable def dkL02decM1_10 : List (ByteArray × Nat × Instr × Nat) := [(cX11_layStretch, 144, (.iadd, 1)), (cX11_layStretch, 145, (.iaload, 1)), (cX11_layStretch, 146, (.goto 9, 3)), (cX11_layStretch, 149, (.aload_n 0, 1)), (cX11_layStretch, 150, (.getfield 31, 3)), (cX11_layStretch, 153, (.iload_n 2, 1)), (cX11_layStretch, 154, (.iaload, 1)), (cX11_layStretch, 155, (.iastore, 1)), (cX11_layStretch, 156, (.iinc 2 1, 3)), (cX11_layStretch, 159, (.goto (-157), 3)), (cX11_layStretch, 162, (.return_, 1)), (cX11_layDate, 0, (.aload_n 0, 1)), (cX11_layDate, 1, (.aload_n 0, 1)), (cX11_layDate, 2, (.getfield 7, 3)), (cX11_layDate, 5, (.iload_n 1, 1)), (cX11_layDate, 6, (.iconst 1, 1)), (cX11_layDate, 7, (.iadd, 1)), (cX11_layDate, 8, (.iaload, 1)), (cX11_layDate, 9, (.invokevirtual 206, 3)), (cX11_layDate, 12, (.istore_n 2, 1)), (cX11_layDate, 13, (.aload_n 0, 1)), (cX11_layDate, 14, (.getfield 7, 3)), (cX11_layDate, 17, (.iload_n 1, 1)), (cX11_layDate, 18, (.iconst 4, 1)), (cX11_layDate, 19, (.iadd, 1)), (cX11_layDate, 20, (.iaload, 1)), (cX11_layDate, 21, (.iconst 1, 1)), (cX11_layDate, 22, (.if_icmp .ne 8, 3)), (cX11_layDate, 25, (.bipush 23, 2)), (cX11_layDate, 27, (.goto 11, 3)), (cX11_layDate, 30, (.aload_n 0, 1)), (cX11_layDate, 31, (.getfield 7, 3)), (cX11_layDate, 34, (.iload_n 1, 1)), (cX11_layDate, 35, (.iconst 3, 1)), (cX11_layDate, 36, (.iadd, 1)), (cX11_layDate, 37, (.iaload, 1)), (cX11_layDate, 38, (.istore_n 3, 1)), (cX11_layDate, 39, (.iconst 0, 1)), (cX11_layDate, 40, (.istore 4, 2)), (cX11_layDate, 42, (.iload 4, 2)), (cX11_layDate, 44, (.bipush 24, 2)), (cX11_layDate, 46, (.if_icmp .ge 43, 3)), (cX11_layDate, 49, (.iload 4, 2)), (cX11_layDate, 51, (.aload_n 0, 1)), (cX11_layDate, 52, (.getfield 7, 3)), (cX11_layDate, 55, (.iload_n 1, 1)), (cX11_layDate, 56, (.iconst 2, 1)), (cX11_layDate, 57, (.iadd, 1)), (cX11_layDate, 58, (.iaload, 1)), (cX11_layDate, 59, (.if_icmp .lt 9, 3)), (cX11_layDate, 62, (.iload 4, 2)), (cX11_layDate, 64, (.iload_n 3, 1)), (cX11_layDate, 65, (.if_icmp .le 18, 3)), (cX11_layDate, 68, (.aload_n 0, 1)), (cX11_layDate, 69, (.getfield 22, 3)), (cX11_layDate, 72, (.iload_n 2, 1)), (cX11_layDate, 73, (.dup2, 1)), (cX11_layDate, 74, (.iaload, 1)), (cX11_layDate, 75, (.iconst 1, 1)), (cX11_layDate, 76, (.iload 4, 2))]
theorem dkB02decM1_10 : dkL02decM1_10.all (fun q => decide (decode q.1 q.2.1 = .ok q.2.2)) = true := by decide +kernel
theorem dX11_layStretch_144 : decode cX11_layStretch 144 = .ok (.iadd, 1) := dk_at dkB02decM1_10 0 rfl
theorem dX11_layStretch_145 : decode cX11_layStretch 145 = .ok (.iaload, 1) := dk_at dkB02decM1_10 1 rfl
theorem dX11_layStretch_146 : decode cX11_layStretch 146 = .ok (.goto 9, 3) := dk_at dkB02decM1_10 2 rfl
theorem dX11_layStretch_149 : decode cX11_layStretch 149 = .ok (.aload_n 0, 1) := dk_at dkB02decM1_10 3 rfl
theorem dX11_layStretch_150 : decode cX11_layStretch 150 = .ok (.getfield 31, 3) := dk_at dkB02decM1_10 4 rfl
theorem dX11_layStretch_153 : decode cX11_layStretch 153 = .ok (.iload_n 2, 1) := dk_at dkB02decM1_10 5 rfl
theorem dX11_layStretch_154 : decode cX11_layStretch 154 = .ok (.iaload, 1) := dk_at dkB02decM1_10 6 rfl
theorem dX11_layStretch_155 : decode cX11_layStretch 155 = .ok (.iastore, 1) := dk_at dkB02decM1_10 7 rfl
theorem dX11_layStretch_156 : decode cX11_layStretch 156 = .ok (.iinc 2 1, 3) := dk_at dkB02decM1_10 8 rfl
theorem dX11_layStretch_159 : decode cX11_layStretch 159 = .ok (.goto (-157), 3) := dk_at dkB02decM1_10 9 rfl
theorem dX11_layStretch_162 : decode cX11_layStretch 162 = .ok (.return_, 1) := dk_at dkB02decM1_10 10 rfl
theorem dX11_layDate_0 : decode cX11_layDate 0 = .ok (.aload_n 0, 1) := dk_at dkB02decM1_10 11 rfl
theorem dX11_layDate_1 : decode cX11_layDate 1 = .ok (.aload_n 0, 1) := dk_at dkB02decM1_10 12 rfl
theorem dX11_layDate_2 : decode cX11_layDate 2 = .ok (.getfield 7, 3) := dk_at dkB02decM1_10 13 rfl
theorem dX11_layDate_5 : decode cX11_layDate 5 = .ok (.iload_n 1, 1) := dk_at dkB02decM1_10 14 rfl
theorem dX11_layDate_6 : decode cX11_layDate 6 = .ok (.iconst 1, 1) := dk_at dkB02decM1_10 15 rfl
theorem dX11_layDate_7 : decode cX11_layDate 7 = .ok (.iadd, 1) := dk_at dkB02decM1_10 16 rfl
theorem dX11_layDate_8 : decode cX11_layDate 8 = .ok (.iaload, 1) := dk_at dkB02decM1_10 17 rfl
theorem dX11_layDate_9 : decode cX11_layDate 9 = .ok (.invokevirtual 206, 3) := dk_at dkB02decM1_10 18 rfl
theorem dX11_layDate_12 : decode cX11_layDate 12 = .ok (.istore_n 2, 1) := dk_at dkB02decM1_10 19 rfl
theorem dX11_layDate_13 : decode cX11_layDate 13 = .ok (.aload_n 0, 1) := dk_at dkB02decM1_10 20 rfl
theorem dX11_layDate_14 : decode cX11_layDate 14 = .ok (.getfield 7, 3) := dk_at dkB02decM1_10 21 rfl
theorem dX11_layDate_17 : decode cX11_layDate 17 = .ok (.iload_n 1, 1) := dk_at dkB02decM1_10 22 rfl
theorem dX11_layDate_18 : decode cX11_layDate 18 = .ok (.iconst 4, 1) := dk_at dkB02decM1_10 23 rfl
theorem dX11_layDate_19 : decode cX11_layDate 19 = .ok (.iadd, 1) := dk_at dkB02decM1_10 24 rfl
theorem dX11_layDate_20 : decode cX11_layDate 20 = .ok (.iaload, 1) := dk_at dkB02decM1_10 25 rfl
theorem dX11_layDate_21 : decode cX11_layDate 21 = .ok (.iconst 1, 1) := dk_at dkB02decM1_10 26 rfl
theorem dX11_layDate_22 : decode cX11_layDate 22 = .ok (.if_icmp .ne 8, 3) := dk_at dkB02decM1_10 27 rfl
theorem dX11_layDate_25 : decode cX11_layDate 25 = .ok (.bipush 23, 2) := dk_at dkB02decM1_10 28 rfl
theorem dX11_layDate_27 : decode cX11_layDate 27 = .ok (.goto 11, 3) := dk_at dkB02decM1_10 29 rfl
theorem dX11_layDate_30 : decode cX11_layDate 30 = .ok (.aload_n 0, 1) := dk_at dkB02decM1_10 30 rfl
theorem dX11_layDate_31 : decode cX11_layDate 31 = .ok (.getfield 7, 3) := dk_at dkB02decM1_10 31 rfl
theorem dX11_layDate_34 : decode cX11_layDate 34 = .ok (.iload_n 1, 1) := dk_at dkB02decM1_10 32 rfl
theorem dX11_layDate_35 : decode cX11_layDate 35 = .ok (.iconst 3, 1) := dk_at dkB02decM1_10 33 rfl
theorem dX11_layDate_36 : decode cX11_layDate 36 = .ok (.iadd, 1) := dk_at dkB02decM1_10 34 rfl
theorem dX11_layDate_37 : decode cX11_layDate 37 = .ok (.iaload, 1) := dk_at dkB02decM1_10 35 rfl
theorem dX11_layDate_38 : decode cX11_layDate 38 = .ok (.istore_n 3, 1) := dk_at dkB02decM1_10 36 rfl
theorem dX11_layDate_39 : decode cX11_layDate 39 = .ok (.iconst 0, 1) := dk_at dkB02decM1_10 37 rfl
theorem dX11_layDate_40 : decode cX11_layDate 40 = .ok (.istore 4, 2) := dk_at dkB02decM1_10 38 rfl
theorem dX11_layDate_42 : decode cX11_layDate 42 = .ok (.iload 4, 2) := dk_at dkB02decM1_10 39 rfl
theorem dX11_layDate_44 : decode cX11_layDate 44 = .ok (.bipush 24, 2) := dk_at dkB02decM1_10 40 rfl
theorem dX11_layDate_46 : decode cX11_layDate 46 = .ok (.if_icmp .ge 43, 3) := dk_at dkB02decM1_10 41 rfl
theorem dX11_layDate_49 : decode cX11_layDate 49 = .ok (.iload 4, 2) := dk_at dkB02decM1_10 42 rfl
theorem dX11_layDate_51 : decode cX11_layDate 51 = .ok (.aload_n 0, 1) := dk_at dkB02decM1_10 43 rfl
theorem dX11_layDate_52 : decode cX11_layDate 52 = .ok (.getfield 7, 3) := dk_at dkB02decM1_10 44 rfl
theorem dX11_layDate_55 : decode cX11_layDate 55 = .ok (.iload_n 1, 1) := dk_at dkB02decM1_10 45 rfl
theorem dX11_layDate_56 : decode cX11_layDate 56 = .ok (.iconst 2, 1) := dk_at dkB02decM1_10 46 rfl
theorem dX11_layDate_57 : decode cX11_layDate 57 = .ok (.iadd, 1) := dk_at dkB02decM1_10 47 rfl
theorem dX11_layDate_58 : decode cX11_layDate 58 = .ok (.iaload, 1) := dk_at dkB02decM1_10 48 rfl
theorem dX11_layDate_59 : decode cX11_layDate 59 = .ok (.if_icmp .lt 9, 3) := dk_at dkB02decM1_10 49 rfl
theorem dX11_layDate_62 : decode cX11_layDate 62 = .ok (.iload 4, 2) := dk_at dkB02decM1_10 50 rfl
theorem dX11_layDate_64 : decode cX11_layDate 64 = .ok (.iload_n 3, 1) := dk_at dkB02decM1_10 51 rfl
theorem dX11_layDate_65 : decode cX11_layDate 65 = .ok (.if_icmp .le 18, 3) := dk_at dkB02decM1_10 52 rfl
theorem dX11_layDate_68 : decode cX11_layDate 68 = .ok (.aload_n 0, 1) := dk_at dkB02decM1_10 53 rfl
theorem dX11_layDate_69 : decode cX11_layDate 69 = .ok (.getfield 22, 3) := dk_at dkB02decM1_10 54 rfl
theorem dX11_layDate_72 : decode cX11_layDate 72 = .ok (.iload_n 2, 1) := dk_at dkB02decM1_10 55 rfl
theorem dX11_layDate_73 : decode cX11_layDate 73 = .ok (.dup2, 1) := dk_at dkB02decM1_10 56 rfl
theorem dX11_layDate_74 : decode cX11_layDate 74 = .ok (.iaload, 1) := dk_at dkB02decM1_10 57 rfl
theorem dX11_layDate_75 : decode cX11_layDate 75 = .ok (.iconst 1, 1) := dk_at dkB02decM1_10 58 rfl
theorem dX11_layDate_76 : decode cX11_layDate 76 = .ok (.iload 4, 2) := dk_at dkB02decM1_10 59 rfl
noncomputable def dkL02decM1_11 : List (ByteArray × Nat × Instr × Nat) := [(cX11_layDate, 78, (.ishl, 1)), (cX11_layDate, 79, (.iconst (-1), 1)), (cX11_layDate, 80, (.ixor, 1)), (cX11_layDate, 81, (.iand, 1)), (cX11_layDate, 82, (.iastore, 1)), (cX11_layDate, 83, (.iinc 4 1, 3)), (cX11_layDate, 86, (.goto (-44), 3)), (cX11_layDate, 89, (.return_, 1)), (cX11_cellOf, 0, (.bipush 24, 2)), (cX11_cellOf, 2, (.iload_n 0, 1)), (cX11_cellOf, 3, (.imul, 1)), (cX11_cellOf, 4, (.iload_n 1, 1)), (cX11_cellOf, 5, (.iadd, 1)), (cX11_cellOf, 6, (.iconst 5, 1)), (cX11_cellOf, 7, (.imul, 1)), (cX11_cellOf, 8, (.iload_n 2, 1)), (cX11_cellOf, 9, (.iadd, 1)), (cX11_cellOf, 10, (.ireturn, 1)), (cX11_runBehind, 0, (.iload 4, 2)), (cX11_runBehind, 2, (.iload_n 2, 1)), (cX11_runBehind, 3, (.isub, 1)), (cX11_runBehind, 4, (.istore 5, 2)), (cX11_runBehind, 6, (.iload 5, 2)), (cX11_runBehind, 8, (.aload_n 0, 1)), (cX11_runBehind, 9, (.getfield 25, 3)), (cX11_runBehind, 12, (.iload_n 1, 1)), (cX11_runBehind, 13, (.iaload, 1)), (cX11_runBehind, 14, (.if_icmp .lt 28, 3)), (cX11_runBehind, 17, (.iload 5, 2)), (cX11_runBehind, 19, (.aload_n 0, 1)), (cX11_runBehind, 20, (.getfield 28, 3)), (cX11_runBehind, 23, (.iload_n 1, 1)), (cX11_runBehind, 24, (.iaload, 1)), (cX11_runBehind, 25, (.if_icmp .gt 17, 3)), (cX11_runBehind, 28, (.aload_n 0, 1)), (cX11_runBehind, 29, (.getfield 22, 3)), (cX11_runBehind, 32, (.iload_n 1, 1)), (cX11_runBehind, 33, (.iaload, 1)), (cX11_runBehind, 34, (.iload 4, 2)), (cX11_runBehind, 36, (.ishr, 1)), (cX11_runBehind, 37, (.iconst 1, 1)), (cX11_runBehind, 38, (.iand, 1)), (cX11_runBehind, 39, (.ifCond .ne 5, 3)), (cX11_runBehind, 42, (.iconst 0, 1)), (cX11_runBehind, 43, (.ireturn, 1)), (cX11_runBehind, 44, (.iload 5, 2)), (cX11_runBehind, 46, (.ifCond .ne 19, 3)), (cX11_runBehind, 49, (.iload_n 3, 1)), (cX11_runBehind, 50, (.aload_n 0, 1)), (cX11_runBehind, 51, (.getfield 195, 3)), (cX11_runBehind, 54, (.if_icmp .ge 9, 3)), (cX11_runBehind, 57, (.iload_n 3, 1)), (cX11_runBehind, 58, (.iconst 1, 1)), (cX11_runBehind, 59, (.iadd, 1)), (cX11_runBehind, 60, (.goto 4, 3)), (cX11_runBehind, 63, (.iconst 0, 1)), (cX11_runBehind, 64, (.ireturn, 1)), (cX11_runBehind, 65, (.iload_n 3, 1)), (cX11_runBehind, 66, (.aload_n 0, 1)), (cX11_runBehind, 67, (.getfield 31, 3))]
theorem dkB02decM1_11 : dkL02decM1_11.all (fun q => decide (decode q.1 q.2.1 = .ok q.2.2)) = true := by decide +kernel
theorem dX11_layDate_78 : decode cX11_layDate 78 = .ok (.ishl, 1) := dk_at dkB02decM1_11 0 rfl
theorem dX11_layDate_79 : decode cX11_layDate 79 = .ok (.iconst (-1), 1) := dk_at dkB02decM1_11 1 rfl
theorem dX11_layDate_80 : decode cX11_layDate 80 = .ok (.ixor, 1) := dk_at dkB02decM1_11 2 rfl
theorem dX11_layDate_81 : decode cX11_layDate 81 = .ok (.iand, 1) := dk_at dkB02decM1_11 3 rfl
theorem dX11_layDate_82 : decode cX11_layDate 82 = .ok (.iastore, 1) := dk_at dkB02decM1_11 4 rfl
theorem dX11_layDate_83 : decode cX11_layDate 83 = .ok (.iinc 4 1, 3) := dk_at dkB02decM1_11 5 rfl
theorem dX11_layDate_86 : decode cX11_layDate 86 = .ok (.goto (-44), 3) := dk_at dkB02decM1_11 6 rfl
theorem dX11_layDate_89 : decode cX11_layDate 89 = .ok (.return_, 1) := dk_at dkB02decM1_11 7 rfl
theorem dX11_cellOf_0 : decode cX11_cellOf 0 = .ok (.bipush 24, 2) := dk_at dkB02decM1_11 8 rfl
theorem dX11_cellOf_2 : decode cX11_cellOf 2 = .ok (.iload_n 0, 1) := dk_at dkB02decM1_11 9 rfl
theorem dX11_cellOf_3 : decode cX11_cellOf 3 = .ok (.imul, 1) := dk_at dkB02decM1_11 10 rfl
theorem dX11_cellOf_4 : decode cX11_cellOf 4 = .ok (.iload_n 1, 1) := dk_at dkB02decM1_11 11 rfl
theorem dX11_cellOf_5 : decode cX11_cellOf 5 = .ok (.iadd, 1) := dk_at dkB02decM1_11 12 rfl
theorem dX11_cellOf_6 : decode cX11_cellOf 6 = .ok (.iconst 5, 1) := dk_at dkB02decM1_11 13 rfl
theorem dX11_cellOf_7 : decode cX11_cellOf 7 = .ok (.imul, 1) := dk_at dkB02decM1_11 14 rfl
theorem dX11_cellOf_8 : decode cX11_cellOf 8 = .ok (.iload_n 2, 1) := dk_at dkB02decM1_11 15 rfl
theorem dX11_cellOf_9 : decode cX11_cellOf 9 = .ok (.iadd, 1) := dk_at dkB02decM1_11 16 rfl
theorem dX11_cellOf_10 : decode cX11_cellOf 10 = .ok (.ireturn, 1) := dk_at dkB02decM1_11 17 rfl
theorem dX11_runBehind_0 : decode cX11_runBehind 0 = .ok (.iload 4, 2) := dk_at dkB02decM1_11 18 rfl
theorem dX11_runBehind_2 : decode cX11_runBehind 2 = .ok (.iload_n 2, 1) := dk_at dkB02decM1_11 19 rfl
theorem dX11_runBehind_3 : decode cX11_runBehind 3 = .ok (.isub, 1) := dk_at dkB02decM1_11 20 rfl
theorem dX11_runBehind_4 : decode cX11_runBehind 4 = .ok (.istore 5, 2) := dk_at dkB02decM1_11 21 rfl
theorem dX11_runBehind_6 : decode cX11_runBehind 6 = .ok (.iload 5, 2) := dk_at dkB02decM1_11 22 rfl
theorem dX11_runBehind_8 : decode cX11_runBehind 8 = .ok (.aload_n 0, 1) := dk_at dkB02decM1_11 23 rfl
theorem dX11_runBehind_9 : decode cX11_runBehind 9 = .ok (.getfield 25, 3) := dk_at dkB02decM1_11 24 rfl
theorem dX11_runBehind_12 : decode cX11_runBehind 12 = .ok (.iload_n 1, 1) := dk_at dkB02decM1_11 25 rfl
theorem dX11_runBehind_13 : decode cX11_runBehind 13 = .ok (.iaload, 1) := dk_at dkB02decM1_11 26 rfl
theorem dX11_runBehind_14 : decode cX11_runBehind 14 = .ok (.if_icmp .lt 28, 3) := dk_at dkB02decM1_11 27 rfl
theorem dX11_runBehind_17 : decode cX11_runBehind 17 = .ok (.iload 5, 2) := dk_at dkB02decM1_11 28 rfl
theorem dX11_runBehind_19 : decode cX11_runBehind 19 = .ok (.aload_n 0, 1) := dk_at dkB02decM1_11 29 rfl
theorem dX11_runBehind_20 : decode cX11_runBehind 20 = .ok (.getfield 28, 3) := dk_at dkB02decM1_11 30 rfl
theorem dX11_runBehind_23 : decode cX11_runBehind 23 = .ok (.iload_n 1, 1) := dk_at dkB02decM1_11 31 rfl
theorem dX11_runBehind_24 : decode cX11_runBehind 24 = .ok (.iaload, 1) := dk_at dkB02decM1_11 32 rfl
theorem dX11_runBehind_25 : decode cX11_runBehind 25 = .ok (.if_icmp .gt 17, 3) := dk_at dkB02decM1_11 33 rfl
theorem dX11_runBehind_28 : decode cX11_runBehind 28 = .ok (.aload_n 0, 1) := dk_at dkB02decM1_11 34 rfl
theorem dX11_runBehind_29 : decode cX11_runBehind 29 = .ok (.getfield 22, 3) := dk_at dkB02decM1_11 35 rfl
theorem dX11_runBehind_32 : decode cX11_runBehind 32 = .ok (.iload_n 1, 1) := dk_at dkB02decM1_11 36 rfl
theorem dX11_runBehind_33 : decode cX11_runBehind 33 = .ok (.iaload, 1) := dk_at dkB02decM1_11 37 rfl
theorem dX11_runBehind_34 : decode cX11_runBehind 34 = .ok (.iload 4, 2) := dk_at dkB02decM1_11 38 rfl
theorem dX11_runBehind_36 : decode cX11_runBehind 36 = .ok (.ishr, 1) := dk_at dkB02decM1_11 39 rfl
theorem dX11_runBehind_37 : decode cX11_runBehind 37 = .ok (.iconst 1, 1) := dk_at dkB02decM1_11 40 rfl
theorem dX11_runBehind_38 : decode cX11_runBehind 38 = .ok (.iand, 1) := dk_at dkB02decM1_11 41 rfl
theorem dX11_runBehind_39 : decode cX11_runBehind 39 = .ok (.ifCond .ne 5, 3) := dk_at dkB02decM1_11 42 rfl
theorem dX11_runBehind_42 : decode cX11_runBehind 42 = .ok (.iconst 0, 1) := dk_at dkB02decM1_11 43 rfl
theorem dX11_runBehind_43 : decode cX11_runBehind 43 = .ok (.ireturn, 1) := dk_at dkB02decM1_11 44 rfl
theorem dX11_runBehind_44 : decode cX11_runBehind 44 = .ok (.iload 5, 2) := dk_at dkB02decM1_11 45 rfl
theorem dX11_runBehind_46 : decode cX11_runBehind 46 = .ok (.ifCond .ne 19, 3) := dk_at dkB02decM1_11 46 rfl
theorem dX11_runBehind_49 : decode cX11_runBehind 49 = .ok (.iload_n 3, 1) := dk_at dkB02decM1_11 47 rfl
theorem dX11_runBehind_50 : decode cX11_runBehind 50 = .ok (.aload_n 0, 1) := dk_at dkB02decM1_11 48 rfl
theorem dX11_runBehind_51 : decode cX11_runBehind 51 = .ok (.getfield 195, 3) := dk_at dkB02decM1_11 49 rfl
theorem dX11_runBehind_54 : decode cX11_runBehind 54 = .ok (.if_icmp .ge 9, 3) := dk_at dkB02decM1_11 50 rfl
theorem dX11_runBehind_57 : decode cX11_runBehind 57 = .ok (.iload_n 3, 1) := dk_at dkB02decM1_11 51 rfl
theorem dX11_runBehind_58 : decode cX11_runBehind 58 = .ok (.iconst 1, 1) := dk_at dkB02decM1_11 52 rfl
theorem dX11_runBehind_59 : decode cX11_runBehind 59 = .ok (.iadd, 1) := dk_at dkB02decM1_11 53 rfl
theorem dX11_runBehind_60 : decode cX11_runBehind 60 = .ok (.goto 4, 3) := dk_at dkB02decM1_11 54 rfl
theorem dX11_runBehind_63 : decode cX11_runBehind 63 = .ok (.iconst 0, 1) := dk_at dkB02decM1_11 55 rfl
theorem dX11_runBehind_64 : decode cX11_runBehind 64 = .ok (.ireturn, 1) := dk_at dkB02decM1_11 56 rfl
theorem dX11_runBehind_65 : decode cX11_runBehind 65 = .ok (.iload_n 3, 1) := dk_at dkB02decM1_11 57 rfl
theorem dX11_runBehind_66 : decode cX11_runBehind 66 = .ok (.aload_n 0, 1) := dk_at dkB02decM1_11 58 rfl
theorem dX11_runBehind_67 : decode cX11_runBehind 67 = .ok (.getfield 31, 3) := dk_at dkB02decM1_11 59 rfl
noncomputable def dkL02decM1_12 : List (ByteArray × Nat × Instr × Nat) := [(cX11_runBehind, 70, (.iload_n 1, 1)), (cX11_runBehind, 71, (.iaload, 1)), (cX11_runBehind, 72, (.if_icmp .lt 7, 3)), (cX11_runBehind, 75, (.iconst 1, 1)), (cX11_runBehind, 76, (.goto 4, 3)), (cX11_runBehind, 79, (.iconst 0, 1)), (cX11_runBehind, 80, (.ireturn, 1)), (cX11_countFront, 0, (.iconst 0, 1)), (cX11_countFront, 1, (.istore_n 1, 1)), (cX11_countFront, 2, (.iload_n 1, 1)), (cX11_countFront, 3, (.sipush 1440, 3)), (cX11_countFront, 6, (.if_icmp .ge 16, 3)), (cX11_countFront, 9, (.aload_n 0, 1)), (cX11_countFront, 10, (.getfield 34, 3)), (cX11_countFront, 13, (.iload_n 1, 1)), (cX11_countFront, 14, (.lconst 0, 1)), (cX11_countFront, 15, (.lastore, 1)), (cX11_countFront, 16, (.iinc 1 1, 3)), (cX11_countFront, 19, (.goto (-17), 3)), (cX11_countFront, 22, (.iconst 0, 1)), (cX11_countFront, 23, (.istore_n 1, 1)), (cX11_countFront, 24, (.iload_n 1, 1)), (cX11_countFront, 25, (.bipush 24, 2)), (cX11_countFront, 27, (.if_icmp .ge 38, 3)), (cX11_countFront, 30, (.aload_n 0, 1)), (cX11_countFront, 31, (.getfield 192, 3)), (cX11_countFront, 34, (.ifCond .le 31, 3)), (cX11_countFront, 37, (.aload_n 0, 1)), (cX11_countFront, 38, (.getfield 34, 3)), (cX11_countFront, 41, (.iconst 0, 1)), (cX11_countFront, 42, (.iload_n 1, 1)), (cX11_countFront, 43, (.iconst 1, 1)), (cX11_countFront, 44, (.invokestatic 209, 3)), (cX11_countFront, 47, (.aload_n 0, 1)), (cX11_countFront, 48, (.getfield 22, 3)), (cX11_countFront, 51, (.iconst 0, 1)), (cX11_countFront, 52, (.iaload, 1)), (cX11_countFront, 53, (.iload_n 1, 1)), (cX11_countFront, 54, (.ishr, 1)), (cX11_countFront, 55, (.iconst 1, 1)), (cX11_countFront, 56, (.iand, 1)), (cX11_countFront, 57, (.i2l, 1)), (cX11_countFront, 58, (.lastore, 1)), (cX11_countFront, 59, (.iinc 1 1, 3)), (cX11_countFront, 62, (.goto (-38), 3)), (cX11_countFront, 65, (.iconst 1, 1)), (cX11_countFront, 66, (.istore_n 1, 1)), (cX11_countFront, 67, (.iload_n 1, 1)), (cX11_countFront, 68, (.aload_n 0, 1)), (cX11_countFront, 69, (.getfield 192, 3)), (cX11_countFront, 72, (.if_icmp .ge 108, 3)), (cX11_countFront, 75, (.iconst 0, 1)), (cX11_countFront, 76, (.istore_n 2, 1)), (cX11_countFront, 77, (.iload_n 2, 1)), (cX11_countFront, 78, (.bipush 24, 2)), (cX11_countFront, 80, (.if_icmp .ge 94, 3)), (cX11_countFront, 83, (.iconst 1, 1)), (cX11_countFront, 84, (.istore_n 3, 1)), (cX11_countFront, 85, (.iload_n 3, 1)), (cX11_countFront, 86, (.iconst 5, 1))]
theorem dkB02decM1_12 : dkL02decM1_12.all (fun q => decide (decode q.1 q.2.1 = .ok q.2.2)) = true := by decide +kernel
theorem dX11_runBehind_70 : decode cX11_runBehind 70 = .ok (.iload_n 1, 1) := dk_at dkB02decM1_12 0 rfl
theorem dX11_runBehind_71 : decode cX11_runBehind 71 = .ok (.iaload, 1) := dk_at dkB02decM1_12 1 rfl
theorem dX11_runBehind_72 : decode cX11_runBehind 72 = .ok (.if_icmp .lt 7, 3) := dk_at dkB02decM1_12 2 rfl
theorem dX11_runBehind_75 : decode cX11_runBehind 75 = .ok (.iconst 1, 1) := dk_at dkB02decM1_12 3 rfl
theorem dX11_runBehind_76 : decode cX11_runBehind 76 = .ok (.goto 4, 3) := dk_at dkB02decM1_12 4 rfl
theorem dX11_runBehind_79 : decode cX11_runBehind 79 = .ok (.iconst 0, 1) := dk_at dkB02decM1_12 5 rfl
theorem dX11_runBehind_80 : decode cX11_runBehind 80 = .ok (.ireturn, 1) := dk_at dkB02decM1_12 6 rfl
theorem dX11_countFront_0 : decode cX11_countFront 0 = .ok (.iconst 0, 1) := dk_at dkB02decM1_12 7 rfl
theorem dX11_countFront_1 : decode cX11_countFront 1 = .ok (.istore_n 1, 1) := dk_at dkB02decM1_12 8 rfl
theorem dX11_countFront_2 : decode cX11_countFront 2 = .ok (.iload_n 1, 1) := dk_at dkB02decM1_12 9 rfl
theorem dX11_countFront_3 : decode cX11_countFront 3 = .ok (.sipush 1440, 3) := dk_at dkB02decM1_12 10 rfl
theorem dX11_countFront_6 : decode cX11_countFront 6 = .ok (.if_icmp .ge 16, 3) := dk_at dkB02decM1_12 11 rfl
theorem dX11_countFront_9 : decode cX11_countFront 9 = .ok (.aload_n 0, 1) := dk_at dkB02decM1_12 12 rfl
theorem dX11_countFront_10 : decode cX11_countFront 10 = .ok (.getfield 34, 3) := dk_at dkB02decM1_12 13 rfl
theorem dX11_countFront_13 : decode cX11_countFront 13 = .ok (.iload_n 1, 1) := dk_at dkB02decM1_12 14 rfl
theorem dX11_countFront_14 : decode cX11_countFront 14 = .ok (.lconst 0, 1) := dk_at dkB02decM1_12 15 rfl
theorem dX11_countFront_15 : decode cX11_countFront 15 = .ok (.lastore, 1) := dk_at dkB02decM1_12 16 rfl
theorem dX11_countFront_16 : decode cX11_countFront 16 = .ok (.iinc 1 1, 3) := dk_at dkB02decM1_12 17 rfl
theorem dX11_countFront_19 : decode cX11_countFront 19 = .ok (.goto (-17), 3) := dk_at dkB02decM1_12 18 rfl
theorem dX11_countFront_22 : decode cX11_countFront 22 = .ok (.iconst 0, 1) := dk_at dkB02decM1_12 19 rfl
theorem dX11_countFront_23 : decode cX11_countFront 23 = .ok (.istore_n 1, 1) := dk_at dkB02decM1_12 20 rfl
theorem dX11_countFront_24 : decode cX11_countFront 24 = .ok (.iload_n 1, 1) := dk_at dkB02decM1_12 21 rfl
theorem dX11_countFront_25 : decode cX11_countFront 25 = .ok (.bipush 24, 2) := dk_at dkB02decM1_12 22 rfl
theorem dX11_countFront_27 : decode cX11_countFront 27 = .ok (.if_icmp .ge 38, 3) := dk_at dkB02decM1_12 23 rfl
theorem dX11_countFront_30 : decode cX11_countFront 30 = .ok (.aload_n 0, 1) := dk_at dkB02decM1_12 24 rfl
theorem dX11_countFront_31 : decode cX11_countFront 31 = .ok (.getfield 192, 3) := dk_at dkB02decM1_12 25 rfl
theorem dX11_countFront_34 : decode cX11_countFront 34 = .ok (.ifCond .le 31, 3) := dk_at dkB02decM1_12 26 rfl
theorem dX11_countFront_37 : decode cX11_countFront 37 = .ok (.aload_n 0, 1) := dk_at dkB02decM1_12 27 rfl
theorem dX11_countFront_38 : decode cX11_countFront 38 = .ok (.getfield 34, 3) := dk_at dkB02decM1_12 28 rfl
theorem dX11_countFront_41 : decode cX11_countFront 41 = .ok (.iconst 0, 1) := dk_at dkB02decM1_12 29 rfl
theorem dX11_countFront_42 : decode cX11_countFront 42 = .ok (.iload_n 1, 1) := dk_at dkB02decM1_12 30 rfl
theorem dX11_countFront_43 : decode cX11_countFront 43 = .ok (.iconst 1, 1) := dk_at dkB02decM1_12 31 rfl
theorem dX11_countFront_44 : decode cX11_countFront 44 = .ok (.invokestatic 209, 3) := dk_at dkB02decM1_12 32 rfl
theorem dX11_countFront_47 : decode cX11_countFront 47 = .ok (.aload_n 0, 1) := dk_at dkB02decM1_12 33 rfl
theorem dX11_countFront_48 : decode cX11_countFront 48 = .ok (.getfield 22, 3) := dk_at dkB02decM1_12 34 rfl
theorem dX11_countFront_51 : decode cX11_countFront 51 = .ok (.iconst 0, 1) := dk_at dkB02decM1_12 35 rfl
theorem dX11_countFront_52 : decode cX11_countFront 52 = .ok (.iaload, 1) := dk_at dkB02decM1_12 36 rfl
theorem dX11_countFront_53 : decode cX11_countFront 53 = .ok (.iload_n 1, 1) := dk_at dkB02decM1_12 37 rfl
theorem dX11_countFront_54 : decode cX11_countFront 54 = .ok (.ishr, 1) := dk_at dkB02decM1_12 38 rfl
theorem dX11_countFront_55 : decode cX11_countFront 55 = .ok (.iconst 1, 1) := dk_at dkB02decM1_12 39 rfl
theorem dX11_countFront_56 : decode cX11_countFront 56 = .ok (.iand, 1) := dk_at dkB02decM1_12 40 rfl
theorem dX11_countFront_57 : decode cX11_countFront 57 = .ok (.i2l, 1) := dk_at dkB02decM1_12 41 rfl
theorem dX11_countFront_58 : decode cX11_countFront 58 = .ok (.lastore, 1) := dk_at dkB02decM1_12 42 rfl
theorem dX11_countFront_59 : decode cX11_countFront 59 = .ok (.iinc 1 1, 3) := dk_at dkB02decM1_12 43 rfl
theorem dX11_countFront_62 : decode cX11_countFront 62 = .ok (.goto (-38), 3) := dk_at dkB02decM1_12 44 rfl
theorem dX11_countFront_65 : decode cX11_countFront 65 = .ok (.iconst 1, 1) := dk_at dkB02decM1_12 45 rfl
theorem dX11_countFront_66 : decode cX11_countFront 66 = .ok (.istore_n 1, 1) := dk_at dkB02decM1_12 46 rfl
theorem dX11_countFront_67 : decode cX11_countFront 67 = .ok (.iload_n 1, 1) := dk_at dkB02decM1_12 47 rfl
theorem dX11_countFront_68 : decode cX11_countFront 68 = .ok (.aload_n 0, 1) := dk_at dkB02decM1_12 48 rfl
theorem dX11_countFront_69 : decode cX11_countFront 69 = .ok (.getfield 192, 3) := dk_at dkB02decM1_12 49 rfl
theorem dX11_countFront_72 : decode cX11_countFront 72 = .ok (.if_icmp .ge 108, 3) := dk_at dkB02decM1_12 50 rfl
theorem dX11_countFront_75 : decode cX11_countFront 75 = .ok (.iconst 0, 1) := dk_at dkB02decM1_12 51 rfl
theorem dX11_countFront_76 : decode cX11_countFront 76 = .ok (.istore_n 2, 1) := dk_at dkB02decM1_12 52 rfl
theorem dX11_countFront_77 : decode cX11_countFront 77 = .ok (.iload_n 2, 1) := dk_at dkB02decM1_12 53 rfl
theorem dX11_countFront_78 : decode cX11_countFront 78 = .ok (.bipush 24, 2) := dk_at dkB02decM1_12 54 rfl
theorem dX11_countFront_80 : decode cX11_countFront 80 = .ok (.if_icmp .ge 94, 3) := dk_at dkB02decM1_12 55 rfl
theorem dX11_countFront_83 : decode cX11_countFront 83 = .ok (.iconst 1, 1) := dk_at dkB02decM1_12 56 rfl
theorem dX11_countFront_84 : decode cX11_countFront 84 = .ok (.istore_n 3, 1) := dk_at dkB02decM1_12 57 rfl
theorem dX11_countFront_85 : decode cX11_countFront 85 = .ok (.iload_n 3, 1) := dk_at dkB02decM1_12 58 rfl
theorem dX11_countFront_86 : decode cX11_countFront 86 = .ok (.iconst 5, 1) := dk_at dkB02decM1_12 59 rfl
noncomputable def dkL02decM1_13 : List (ByteArray × Nat × Instr × Nat) := [(cX11_countFront, 87, (.if_icmp .ge 81, 3)), (cX11_countFront, 90, (.aload_n 0, 1)), (cX11_countFront, 91, (.getfield 34, 3)), (cX11_countFront, 94, (.iload_n 1, 1)), (cX11_countFront, 95, (.iconst 1, 1)), (cX11_countFront, 96, (.isub, 1)), (cX11_countFront, 97, (.iload_n 2, 1)), (cX11_countFront, 98, (.iload_n 3, 1)), (cX11_countFront, 99, (.invokestatic 209, 3)), (cX11_countFront, 102, (.laload, 1)), (cX11_countFront, 103, (.lstore 4, 2)), (cX11_countFront, 105, (.iload_n 2, 1)), (cX11_countFront, 106, (.istore 6, 2)), (cX11_countFront, 108, (.iload 6, 2)), (cX11_countFront, 110, (.bipush 24, 2)), (cX11_countFront, 112, (.if_icmp .ge 50, 3)), (cX11_countFront, 115, (.lload 4, 2)), (cX11_countFront, 117, (.lconst 0, 1)), (cX11_countFront, 118, (.lcmp, 1)), (cX11_countFront, 119, (.ifCond .le 43, 3)), (cX11_countFront, 122, (.aload_n 0, 1)), (cX11_countFront, 123, (.iload_n 1, 1)), (cX11_countFront, 124, (.iload_n 2, 1)), (cX11_countFront, 125, (.iload_n 3, 1)), (cX11_countFront, 126, (.iload 6, 2)), (cX11_countFront, 128, (.invokevirtual 213, 3)), (cX11_countFront, 131, (.istore 7, 2)), (cX11_countFront, 133, (.iload 7, 2)), (cX11_countFront, 135, (.ifCond .le 21, 3)), (cX11_countFront, 138, (.aload_n 0, 1)), (cX11_countFront, 139, (.getfield 34, 3)), (cX11_countFront, 142, (.iload_n 1, 1)), (cX11_countFront, 143, (.iload 6, 2)), (cX11_countFront, 145, (.iload 7, 2)), (cX11_countFront, 147, (.invokestatic 209, 3)), (cX11_countFront, 150, (.dup2, 1)), (cX11_countFront, 151, (.laload, 1)), (cX11_countFront, 152, (.lload 4, 2)), (cX11_countFront, 154, (.ladd, 1)), (cX11_countFront, 155, (.lastore, 1)), (cX11_countFront, 156, (.iinc 6 1, 3)), (cX11_countFront, 159, (.goto (-51), 3)), (cX11_countFront, 162, (.iinc 3 1, 3)), (cX11_countFront, 165, (.goto (-80), 3)), (cX11_countFront, 168, (.iinc 2 1, 3)), (cX11_countFront, 171, (.goto (-94), 3)), (cX11_countFront, 174, (.iinc 1 1, 3)), (cX11_countFront, 177, (.goto (-110), 3)), (cX11_countFront, 180, (.aload_n 0, 1)), (cX11_countFront, 181, (.lconst 0, 1)), (cX11_countFront, 182, (.putfield 217, 3)), (cX11_countFront, 185, (.iconst 0, 1)), (cX11_countFront, 186, (.istore_n 1, 1)), (cX11_countFront, 187, (.iload_n 1, 1)), (cX11_countFront, 188, (.bipush 24, 2)), (cX11_countFront, 190, (.if_icmp .ge 54, 3)), (cX11_countFront, 193, (.aload_n 0, 1)), (cX11_countFront, 194, (.getfield 192, 3)), (cX11_countFront, 197, (.ifCond .le 47, 3)), (cX11_countFront, 200, (.iconst 1, 1))]
theorem dkB02decM1_13 : dkL02decM1_13.all (fun q => decide (decode q.1 q.2.1 = .ok q.2.2)) = true := by decide +kernel
theorem dX11_countFront_87 : decode cX11_countFront 87 = .ok (.if_icmp .ge 81, 3) := dk_at dkB02decM1_13 0 rfl
theorem dX11_countFront_90 : decode cX11_countFront 90 = .ok (.aload_n 0, 1) := dk_at dkB02decM1_13 1 rfl
theorem dX11_countFront_91 : decode cX11_countFront 91 = .ok (.getfield 34, 3) := dk_at dkB02decM1_13 2 rfl
theorem dX11_countFront_94 : decode cX11_countFront 94 = .ok (.iload_n 1, 1) := dk_at dkB02decM1_13 3 rfl
theorem dX11_countFront_95 : decode cX11_countFront 95 = .ok (.iconst 1, 1) := dk_at dkB02decM1_13 4 rfl
theorem dX11_countFront_96 : decode cX11_countFront 96 = .ok (.isub, 1) := dk_at dkB02decM1_13 5 rfl
theorem dX11_countFront_97 : decode cX11_countFront 97 = .ok (.iload_n 2, 1) := dk_at dkB02decM1_13 6 rfl
theorem dX11_countFront_98 : decode cX11_countFront 98 = .ok (.iload_n 3, 1) := dk_at dkB02decM1_13 7 rfl
theorem dX11_countFront_99 : decode cX11_countFront 99 = .ok (.invokestatic 209, 3) := dk_at dkB02decM1_13 8 rfl
theorem dX11_countFront_102 : decode cX11_countFront 102 = .ok (.laload, 1) := dk_at dkB02decM1_13 9 rfl
theorem dX11_countFront_103 : decode cX11_countFront 103 = .ok (.lstore 4, 2) := dk_at dkB02decM1_13 10 rfl
theorem dX11_countFront_105 : decode cX11_countFront 105 = .ok (.iload_n 2, 1) := dk_at dkB02decM1_13 11 rfl
theorem dX11_countFront_106 : decode cX11_countFront 106 = .ok (.istore 6, 2) := dk_at dkB02decM1_13 12 rfl
theorem dX11_countFront_108 : decode cX11_countFront 108 = .ok (.iload 6, 2) := dk_at dkB02decM1_13 13 rfl
theorem dX11_countFront_110 : decode cX11_countFront 110 = .ok (.bipush 24, 2) := dk_at dkB02decM1_13 14 rfl
theorem dX11_countFront_112 : decode cX11_countFront 112 = .ok (.if_icmp .ge 50, 3) := dk_at dkB02decM1_13 15 rfl
theorem dX11_countFront_115 : decode cX11_countFront 115 = .ok (.lload 4, 2) := dk_at dkB02decM1_13 16 rfl
theorem dX11_countFront_117 : decode cX11_countFront 117 = .ok (.lconst 0, 1) := dk_at dkB02decM1_13 17 rfl
theorem dX11_countFront_118 : decode cX11_countFront 118 = .ok (.lcmp, 1) := dk_at dkB02decM1_13 18 rfl
theorem dX11_countFront_119 : decode cX11_countFront 119 = .ok (.ifCond .le 43, 3) := dk_at dkB02decM1_13 19 rfl
theorem dX11_countFront_122 : decode cX11_countFront 122 = .ok (.aload_n 0, 1) := dk_at dkB02decM1_13 20 rfl
theorem dX11_countFront_123 : decode cX11_countFront 123 = .ok (.iload_n 1, 1) := dk_at dkB02decM1_13 21 rfl
theorem dX11_countFront_124 : decode cX11_countFront 124 = .ok (.iload_n 2, 1) := dk_at dkB02decM1_13 22 rfl
theorem dX11_countFront_125 : decode cX11_countFront 125 = .ok (.iload_n 3, 1) := dk_at dkB02decM1_13 23 rfl
theorem dX11_countFront_126 : decode cX11_countFront 126 = .ok (.iload 6, 2) := dk_at dkB02decM1_13 24 rfl
theorem dX11_countFront_128 : decode cX11_countFront 128 = .ok (.invokevirtual 213, 3) := dk_at dkB02decM1_13 25 rfl
theorem dX11_countFront_131 : decode cX11_countFront 131 = .ok (.istore 7, 2) := dk_at dkB02decM1_13 26 rfl
theorem dX11_countFront_133 : decode cX11_countFront 133 = .ok (.iload 7, 2) := dk_at dkB02decM1_13 27 rfl
theorem dX11_countFront_135 : decode cX11_countFront 135 = .ok (.ifCond .le 21, 3) := dk_at dkB02decM1_13 28 rfl
theorem dX11_countFront_138 : decode cX11_countFront 138 = .ok (.aload_n 0, 1) := dk_at dkB02decM1_13 29 rfl
theorem dX11_countFront_139 : decode cX11_countFront 139 = .ok (.getfield 34, 3) := dk_at dkB02decM1_13 30 rfl
theorem dX11_countFront_142 : decode cX11_countFront 142 = .ok (.iload_n 1, 1) := dk_at dkB02decM1_13 31 rfl
theorem dX11_countFront_143 : decode cX11_countFront 143 = .ok (.iload 6, 2) := dk_at dkB02decM1_13 32 rfl
theorem dX11_countFront_145 : decode cX11_countFront 145 = .ok (.iload 7, 2) := dk_at dkB02decM1_13 33 rfl
theorem dX11_countFront_147 : decode cX11_countFront 147 = .ok (.invokestatic 209, 3) := dk_at dkB02decM1_13 34 rfl
theorem dX11_countFront_150 : decode cX11_countFront 150 = .ok (.dup2, 1) := dk_at dkB02decM1_13 35 rfl
theorem dX11_countFront_151 : decode cX11_countFront 151 = .ok (.laload, 1) := dk_at dkB02decM1_13 36 rfl
theorem dX11_countFront_152 : decode cX11_countFront 152 = .ok (.lload 4, 2) := dk_at dkB02decM1_13 37 rfl
theorem dX11_countFront_154 : decode cX11_countFront 154 = .ok (.ladd, 1) := dk_at dkB02decM1_13 38 rfl
theorem dX11_countFront_155 : decode cX11_countFront 155 = .ok (.lastore, 1) := dk_at dkB02decM1_13 39 rfl
theorem dX11_countFront_156 : decode cX11_countFront 156 = .ok (.iinc 6 1, 3) := dk_at dkB02decM1_13 40 rfl
theorem dX11_countFront_159 : decode cX11_countFront 159 = .ok (.goto (-51), 3) := dk_at dkB02decM1_13 41 rfl
theorem dX11_countFront_162 : decode cX11_countFront 162 = .ok (.iinc 3 1, 3) := dk_at dkB02decM1_13 42 rfl
theorem dX11_countFront_165 : decode cX11_countFront 165 = .ok (.goto (-80), 3) := dk_at dkB02decM1_13 43 rfl
theorem dX11_countFront_168 : decode cX11_countFront 168 = .ok (.iinc 2 1, 3) := dk_at dkB02decM1_13 44 rfl
theorem dX11_countFront_171 : decode cX11_countFront 171 = .ok (.goto (-94), 3) := dk_at dkB02decM1_13 45 rfl
theorem dX11_countFront_174 : decode cX11_countFront 174 = .ok (.iinc 1 1, 3) := dk_at dkB02decM1_13 46 rfl
theorem dX11_countFront_177 : decode cX11_countFront 177 = .ok (.goto (-110), 3) := dk_at dkB02decM1_13 47 rfl
theorem dX11_countFront_180 : decode cX11_countFront 180 = .ok (.aload_n 0, 1) := dk_at dkB02decM1_13 48 rfl
theorem dX11_countFront_181 : decode cX11_countFront 181 = .ok (.lconst 0, 1) := dk_at dkB02decM1_13 49 rfl
theorem dX11_countFront_182 : decode cX11_countFront 182 = .ok (.putfield 217, 3) := dk_at dkB02decM1_13 50 rfl
theorem dX11_countFront_185 : decode cX11_countFront 185 = .ok (.iconst 0, 1) := dk_at dkB02decM1_13 51 rfl
theorem dX11_countFront_186 : decode cX11_countFront 186 = .ok (.istore_n 1, 1) := dk_at dkB02decM1_13 52 rfl
theorem dX11_countFront_187 : decode cX11_countFront 187 = .ok (.iload_n 1, 1) := dk_at dkB02decM1_13 53 rfl
theorem dX11_countFront_188 : decode cX11_countFront 188 = .ok (.bipush 24, 2) := dk_at dkB02decM1_13 54 rfl
theorem dX11_countFront_190 : decode cX11_countFront 190 = .ok (.if_icmp .ge 54, 3) := dk_at dkB02decM1_13 55 rfl
theorem dX11_countFront_193 : decode cX11_countFront 193 = .ok (.aload_n 0, 1) := dk_at dkB02decM1_13 56 rfl
theorem dX11_countFront_194 : decode cX11_countFront 194 = .ok (.getfield 192, 3) := dk_at dkB02decM1_13 57 rfl
theorem dX11_countFront_197 : decode cX11_countFront 197 = .ok (.ifCond .le 47, 3) := dk_at dkB02decM1_13 58 rfl
theorem dX11_countFront_200 : decode cX11_countFront 200 = .ok (.iconst 1, 1) := dk_at dkB02decM1_13 59 rfl
noncomputable def dkL02decM1_14 : List (ByteArray × Nat × Instr × Nat) := [(cX11_countFront, 201, (.istore_n 2, 1)), (cX11_countFront, 202, (.iload_n 2, 1)), (cX11_countFront, 203, (.iconst 5, 1)), (cX11_countFront, 204, (.if_icmp .ge 34, 3)), (cX11_countFront, 207, (.aload_n 0, 1)), (cX11_countFront, 208, (.dup, 1)), (cX11_countFront, 209, (.getfield 217, 3)), (cX11_countFront, 212, (.aload_n 0, 1)), (cX11_countFront, 213, (.getfield 34, 3)), (cX11_countFront, 216, (.aload_n 0, 1)), (cX11_countFront, 217, (.getfield 192, 3)), (cX11_countFront, 220, (.iconst 1, 1)), (cX11_countFront, 221, (.isub, 1)), (cX11_countFront, 222, (.iload_n 1, 1)), (cX11_countFront, 223, (.iload_n 2, 1)), (cX11_countFront, 224, (.invokestatic 209, 3)), (cX11_countFront, 227, (.laload, 1)), (cX11_countFront, 228, (.ladd, 1)), (cX11_countFront, 229, (.putfield 217, 3)), (cX11_countFront, 232, (.iinc 2 1, 3)), (cX11_countFront, 235, (.goto (-33), 3)), (cX11_countFront, 238, (.iinc 1 1, 3)), (cX11_countFront, 241, (.goto (-54), 3)), (cX11_countFront, 244, (.return_, 1)), (cX11_countBack, 0, (.iconst 0, 1)), (cX11_countBack, 1, (.istore_n 1, 1)), (cX11_countBack, 2, (.iload_n 1, 1)), (cX11_countBack, 3, (.sipush 1440, 3)), (cX11_countBack, 6, (.if_icmp .ge 16, 3)), (cX11_countBack, 9, (.aload_n 0, 1)), (cX11_countBack, 10, (.getfield 38, 3)), (cX11_countBack, 13, (.iload_n 1, 1)), (cX11_countBack, 14, (.lconst 0, 1)), (cX11_countBack, 15, (.lastore, 1)), (cX11_countBack, 16, (.iinc 1 1, 3)), (cX11_countBack, 19, (.goto (-17), 3)), (cX11_countBack, 22, (.iconst 0, 1)), (cX11_countBack, 23, (.istore_n 1, 1)), (cX11_countBack, 24, (.iload_n 1, 1)), (cX11_countBack, 25, (.bipush 24, 2)), (cX11_countBack, 27, (.if_icmp .ge 46, 3)), (cX11_countBack, 30, (.aload_n 0, 1)), (cX11_countBack, 31, (.getfield 192, 3)), (cX11_countBack, 34, (.ifCond .le 39, 3)), (cX11_countBack, 37, (.iconst 1, 1)), (cX11_countBack, 38, (.istore_n 2, 1)), (cX11_countBack, 39, (.iload_n 2, 1)), (cX11_countBack, 40, (.iconst 5, 1)), (cX11_countBack, 41, (.if_icmp .ge 26, 3)), (cX11_countBack, 44, (.aload_n 0, 1)), (cX11_countBack, 45, (.getfield 38, 3)), (cX11_countBack, 48, (.aload_n 0, 1)), (cX11_countBack, 49, (.getfield 192, 3)), (cX11_countBack, 52, (.iconst 1, 1)), (cX11_countBack, 53, (.isub, 1)), (cX11_countBack, 54, (.iload_n 1, 1)), (cX11_countBack, 55, (.iload_n 2, 1)), (cX11_countBack, 56, (.invokestatic 209, 3)), (cX11_countBack, 59, (.lconst 1, 1)), (cX11_countBack, 60, (.lastore, 1))]
theorem dkB02decM1_14 : dkL02decM1_14.all (fun q => decide (decode q.1 q.2.1 = .ok q.2.2)) = true := by decide +kernel
theorem dX11_countFront_201 : decode cX11_countFront 201 = .ok (.istore_n 2, 1) := dk_at dkB02decM1_14 0 rfl
theorem dX11_countFront_202 : decode cX11_countFront 202 = .ok (.iload_n 2, 1) := dk_at dkB02decM1_14 1 rfl
theorem dX11_countFront_203 : decode cX11_countFront 203 = .ok (.iconst 5, 1) := dk_at dkB02decM1_14 2 rfl
theorem dX11_countFront_204 : decode cX11_countFront 204 = .ok (.if_icmp .ge 34, 3) := dk_at dkB02decM1_14 3 rfl
theorem dX11_countFront_207 : decode cX11_countFront 207 = .ok (.aload_n 0, 1) := dk_at dkB02decM1_14 4 rfl
theorem dX11_countFront_208 : decode cX11_countFront 208 = .ok (.dup, 1) := dk_at dkB02decM1_14 5 rfl
theorem dX11_countFront_209 : decode cX11_countFront 209 = .ok (.getfield 217, 3) := dk_at dkB02decM1_14 6 rfl
theorem dX11_countFront_212 : decode cX11_countFront 212 = .ok (.aload_n 0, 1) := dk_at dkB02decM1_14 7 rfl
theorem dX11_countFront_213 : decode cX11_countFront 213 = .ok (.getfield 34, 3) := dk_at dkB02decM1_14 8 rfl
theorem dX11_countFront_216 : decode cX11_countFront 216 = .ok (.aload_n 0, 1) := dk_at dkB02decM1_14 9 rfl
theorem dX11_countFront_217 : decode cX11_countFront 217 = .ok (.getfield 192, 3) := dk_at dkB02decM1_14 10 rfl
theorem dX11_countFront_220 : decode cX11_countFront 220 = .ok (.iconst 1, 1) := dk_at dkB02decM1_14 11 rfl
theorem dX11_countFront_221 : decode cX11_countFront 221 = .ok (.isub, 1) := dk_at dkB02decM1_14 12 rfl
theorem dX11_countFront_222 : decode cX11_countFront 222 = .ok (.iload_n 1, 1) := dk_at dkB02decM1_14 13 rfl
theorem dX11_countFront_223 : decode cX11_countFront 223 = .ok (.iload_n 2, 1) := dk_at dkB02decM1_14 14 rfl
theorem dX11_countFront_224 : decode cX11_countFront 224 = .ok (.invokestatic 209, 3) := dk_at dkB02decM1_14 15 rfl
theorem dX11_countFront_227 : decode cX11_countFront 227 = .ok (.laload, 1) := dk_at dkB02decM1_14 16 rfl
theorem dX11_countFront_228 : decode cX11_countFront 228 = .ok (.ladd, 1) := dk_at dkB02decM1_14 17 rfl
theorem dX11_countFront_229 : decode cX11_countFront 229 = .ok (.putfield 217, 3) := dk_at dkB02decM1_14 18 rfl
theorem dX11_countFront_232 : decode cX11_countFront 232 = .ok (.iinc 2 1, 3) := dk_at dkB02decM1_14 19 rfl
theorem dX11_countFront_235 : decode cX11_countFront 235 = .ok (.goto (-33), 3) := dk_at dkB02decM1_14 20 rfl
theorem dX11_countFront_238 : decode cX11_countFront 238 = .ok (.iinc 1 1, 3) := dk_at dkB02decM1_14 21 rfl
theorem dX11_countFront_241 : decode cX11_countFront 241 = .ok (.goto (-54), 3) := dk_at dkB02decM1_14 22 rfl
theorem dX11_countFront_244 : decode cX11_countFront 244 = .ok (.return_, 1) := dk_at dkB02decM1_14 23 rfl
theorem dX11_countBack_0 : decode cX11_countBack 0 = .ok (.iconst 0, 1) := dk_at dkB02decM1_14 24 rfl
theorem dX11_countBack_1 : decode cX11_countBack 1 = .ok (.istore_n 1, 1) := dk_at dkB02decM1_14 25 rfl
theorem dX11_countBack_2 : decode cX11_countBack 2 = .ok (.iload_n 1, 1) := dk_at dkB02decM1_14 26 rfl
theorem dX11_countBack_3 : decode cX11_countBack 3 = .ok (.sipush 1440, 3) := dk_at dkB02decM1_14 27 rfl
theorem dX11_countBack_6 : decode cX11_countBack 6 = .ok (.if_icmp .ge 16, 3) := dk_at dkB02decM1_14 28 rfl
theorem dX11_countBack_9 : decode cX11_countBack 9 = .ok (.aload_n 0, 1) := dk_at dkB02decM1_14 29 rfl
theorem dX11_countBack_10 : decode cX11_countBack 10 = .ok (.getfield 38, 3) := dk_at dkB02decM1_14 30 rfl
theorem dX11_countBack_13 : decode cX11_countBack 13 = .ok (.iload_n 1, 1) := dk_at dkB02decM1_14 31 rfl
theorem dX11_countBack_14 : decode cX11_countBack 14 = .ok (.lconst 0, 1) := dk_at dkB02decM1_14 32 rfl
theorem dX11_countBack_15 : decode cX11_countBack 15 = .ok (.lastore, 1) := dk_at dkB02decM1_14 33 rfl
theorem dX11_countBack_16 : decode cX11_countBack 16 = .ok (.iinc 1 1, 3) := dk_at dkB02decM1_14 34 rfl
theorem dX11_countBack_19 : decode cX11_countBack 19 = .ok (.goto (-17), 3) := dk_at dkB02decM1_14 35 rfl
theorem dX11_countBack_22 : decode cX11_countBack 22 = .ok (.iconst 0, 1) := dk_at dkB02decM1_14 36 rfl
theorem dX11_countBack_23 : decode cX11_countBack 23 = .ok (.istore_n 1, 1) := dk_at dkB02decM1_14 37 rfl
theorem dX11_countBack_24 : decode cX11_countBack 24 = .ok (.iload_n 1, 1) := dk_at dkB02decM1_14 38 rfl
theorem dX11_countBack_25 : decode cX11_countBack 25 = .ok (.bipush 24, 2) := dk_at dkB02decM1_14 39 rfl
theorem dX11_countBack_27 : decode cX11_countBack 27 = .ok (.if_icmp .ge 46, 3) := dk_at dkB02decM1_14 40 rfl
theorem dX11_countBack_30 : decode cX11_countBack 30 = .ok (.aload_n 0, 1) := dk_at dkB02decM1_14 41 rfl
theorem dX11_countBack_31 : decode cX11_countBack 31 = .ok (.getfield 192, 3) := dk_at dkB02decM1_14 42 rfl
theorem dX11_countBack_34 : decode cX11_countBack 34 = .ok (.ifCond .le 39, 3) := dk_at dkB02decM1_14 43 rfl
theorem dX11_countBack_37 : decode cX11_countBack 37 = .ok (.iconst 1, 1) := dk_at dkB02decM1_14 44 rfl
theorem dX11_countBack_38 : decode cX11_countBack 38 = .ok (.istore_n 2, 1) := dk_at dkB02decM1_14 45 rfl
theorem dX11_countBack_39 : decode cX11_countBack 39 = .ok (.iload_n 2, 1) := dk_at dkB02decM1_14 46 rfl
theorem dX11_countBack_40 : decode cX11_countBack 40 = .ok (.iconst 5, 1) := dk_at dkB02decM1_14 47 rfl
theorem dX11_countBack_41 : decode cX11_countBack 41 = .ok (.if_icmp .ge 26, 3) := dk_at dkB02decM1_14 48 rfl
theorem dX11_countBack_44 : decode cX11_countBack 44 = .ok (.aload_n 0, 1) := dk_at dkB02decM1_14 49 rfl
theorem dX11_countBack_45 : decode cX11_countBack 45 = .ok (.getfield 38, 3) := dk_at dkB02decM1_14 50 rfl
theorem dX11_countBack_48 : decode cX11_countBack 48 = .ok (.aload_n 0, 1) := dk_at dkB02decM1_14 51 rfl
theorem dX11_countBack_49 : decode cX11_countBack 49 = .ok (.getfield 192, 3) := dk_at dkB02decM1_14 52 rfl
theorem dX11_countBack_52 : decode cX11_countBack 52 = .ok (.iconst 1, 1) := dk_at dkB02decM1_14 53 rfl
theorem dX11_countBack_53 : decode cX11_countBack 53 = .ok (.isub, 1) := dk_at dkB02decM1_14 54 rfl
theorem dX11_countBack_54 : decode cX11_countBack 54 = .ok (.iload_n 1, 1) := dk_at dkB02decM1_14 55 rfl
theorem dX11_countBack_55 : decode cX11_countBack 55 = .ok (.iload_n 2, 1) := dk_at dkB02decM1_14 56 rfl
theorem dX11_countBack_56 : decode cX11_countBack 56 = .ok (.invokestatic 209, 3) := dk_at dkB02decM1_14 57 rfl
theorem dX11_countBack_59 : decode cX11_countBack 59 = .ok (.lconst 1, 1) := dk_at dkB02decM1_14 58 rfl
theorem dX11_countBack_60 : decode cX11_countBack 60 = .ok (.lastore, 1) := dk_at dkB02decM1_14 59 rfl
noncomputable def dkL02decM1_15 : List (ByteArray × Nat × Instr × Nat) := [(cX11_countBack, 61, (.iinc 2 1, 3)), (cX11_countBack, 64, (.goto (-25), 3)), (cX11_countBack, 67, (.iinc 1 1, 3)), (cX11_countBack, 70, (.goto (-46), 3)), (cX11_countBack, 73, (.aload_n 0, 1)), (cX11_countBack, 74, (.getfield 192, 3)), (cX11_countBack, 77, (.iconst 2, 1)), (cX11_countBack, 78, (.isub, 1)), (cX11_countBack, 79, (.istore_n 1, 1)), (cX11_countBack, 80, (.iload_n 1, 1)), (cX11_countBack, 81, (.ifCond .lt 110, 3)), (cX11_countBack, 84, (.iconst 0, 1)), (cX11_countBack, 85, (.istore_n 2, 1)), (cX11_countBack, 86, (.iload_n 2, 1)), (cX11_countBack, 87, (.bipush 24, 2)), (cX11_countBack, 89, (.if_icmp .ge 96, 3)), (cX11_countBack, 92, (.iconst 1, 1)), (cX11_countBack, 93, (.istore_n 3, 1)), (cX11_countBack, 94, (.iload_n 3, 1)), (cX11_countBack, 95, (.iconst 5, 1)), (cX11_countBack, 96, (.if_icmp .ge 83, 3)), (cX11_countBack, 99, (.lconst 0, 1)), (cX11_countBack, 100, (.lstore 4, 2)), (cX11_countBack, 102, (.iload_n 2, 1)), (cX11_countBack, 103, (.istore 6, 2)), (cX11_countBack, 105, (.iload 6, 2)), (cX11_countBack, 107, (.bipush 24, 2)), (cX11_countBack, 109, (.if_icmp .ge 51, 3)), (cX11_countBack, 112, (.aload_n 0, 1)), (cX11_countBack, 113, (.iload_n 1, 1)), (cX11_countBack, 114, (.iconst 1, 1)), (cX11_countBack, 115, (.iadd, 1)), (cX11_countBack, 116, (.iload_n 2, 1)), (cX11_countBack, 117, (.iload_n 3, 1)), (cX11_countBack, 118, (.iload 6, 2)), (cX11_countBack, 120, (.invokevirtual 213, 3)), (cX11_countBack, 123, (.istore 7, 2)), (cX11_countBack, 125, (.lload 4, 2)), (cX11_countBack, 127, (.iload 7, 2)), (cX11_countBack, 129, (.ifCond .le 21, 3)), (cX11_countBack, 132, (.aload_n 0, 1)), (cX11_countBack, 133, (.getfield 38, 3)), (cX11_countBack, 136, (.iload_n 1, 1)), (cX11_countBack, 137, (.iconst 1, 1)), (cX11_countBack, 138, (.iadd, 1)), (cX11_countBack, 139, (.iload 6, 2)), (cX11_countBack, 141, (.iload 7, 2)), (cX11_countBack, 143, (.invokestatic 209, 3)), (cX11_countBack, 146, (.laload, 1)), (cX11_countBack, 147, (.goto 4, 3)), (cX11_countBack, 150, (.lconst 0, 1)), (cX11_countBack, 151, (.ladd, 1)), (cX11_countBack, 152, (.lstore 4, 2)), (cX11_countBack, 154, (.iinc 6 1, 3)), (cX11_countBack, 157, (.goto (-52), 3)), (cX11_countBack, 160, (.aload_n 0, 1)), (cX11_countBack, 161, (.getfield 38, 3)), (cX11_countBack, 164, (.iload_n 1, 1)), (cX11_countBack, 165, (.iload_n 2, 1)), (cX11_countBack, 166, (.iload_n 3, 1))]
theorem dkB02decM1_15 : dkL02decM1_15.all (fun q => decide (decode q.1 q.2.1 = .ok q.2.2)) = true := by decide +kernel
theorem dX11_countBack_61 : decode cX11_countBack 61 = .ok (.iinc 2 1, 3) := dk_at dkB02decM1_15 0 rfl
theorem dX11_countBack_64 : decode cX11_countBack 64 = .ok (.goto (-25), 3) := dk_at dkB02decM1_15 1 rfl
theorem dX11_countBack_67 : decode cX11_countBack 67 = .ok (.iinc 1 1, 3) := dk_at dkB02decM1_15 2 rfl
theorem dX11_countBack_70 : decode cX11_countBack 70 = .ok (.goto (-46), 3) := dk_at dkB02decM1_15 3 rfl
theorem dX11_countBack_73 : decode cX11_countBack 73 = .ok (.aload_n 0, 1) := dk_at dkB02decM1_15 4 rfl
theorem dX11_countBack_74 : decode cX11_countBack 74 = .ok (.getfield 192, 3) := dk_at dkB02decM1_15 5 rfl
theorem dX11_countBack_77 : decode cX11_countBack 77 = .ok (.iconst 2, 1) := dk_at dkB02decM1_15 6 rfl
theorem dX11_countBack_78 : decode cX11_countBack 78 = .ok (.isub, 1) := dk_at dkB02decM1_15 7 rfl
theorem dX11_countBack_79 : decode cX11_countBack 79 = .ok (.istore_n 1, 1) := dk_at dkB02decM1_15 8 rfl
theorem dX11_countBack_80 : decode cX11_countBack 80 = .ok (.iload_n 1, 1) := dk_at dkB02decM1_15 9 rfl
theorem dX11_countBack_81 : decode cX11_countBack 81 = .ok (.ifCond .lt 110, 3) := dk_at dkB02decM1_15 10 rfl
theorem dX11_countBack_84 : decode cX11_countBack 84 = .ok (.iconst 0, 1) := dk_at dkB02decM1_15 11 rfl
theorem dX11_countBack_85 : decode cX11_countBack 85 = .ok (.istore_n 2, 1) := dk_at dkB02decM1_15 12 rfl
theorem dX11_countBack_86 : decode cX11_countBack 86 = .ok (.iload_n 2, 1) := dk_at dkB02decM1_15 13 rfl
theorem dX11_countBack_87 : decode cX11_countBack 87 = .ok (.bipush 24, 2) := dk_at dkB02decM1_15 14 rfl
theorem dX11_countBack_89 : decode cX11_countBack 89 = .ok (.if_icmp .ge 96, 3) := dk_at dkB02decM1_15 15 rfl
theorem dX11_countBack_92 : decode cX11_countBack 92 = .ok (.iconst 1, 1) := dk_at dkB02decM1_15 16 rfl
theorem dX11_countBack_93 : decode cX11_countBack 93 = .ok (.istore_n 3, 1) := dk_at dkB02decM1_15 17 rfl
theorem dX11_countBack_94 : decode cX11_countBack 94 = .ok (.iload_n 3, 1) := dk_at dkB02decM1_15 18 rfl
theorem dX11_countBack_95 : decode cX11_countBack 95 = .ok (.iconst 5, 1) := dk_at dkB02decM1_15 19 rfl
theorem dX11_countBack_96 : decode cX11_countBack 96 = .ok (.if_icmp .ge 83, 3) := dk_at dkB02decM1_15 20 rfl
theorem dX11_countBack_99 : decode cX11_countBack 99 = .ok (.lconst 0, 1) := dk_at dkB02decM1_15 21 rfl
theorem dX11_countBack_100 : decode cX11_countBack 100 = .ok (.lstore 4, 2) := dk_at dkB02decM1_15 22 rfl
theorem dX11_countBack_102 : decode cX11_countBack 102 = .ok (.iload_n 2, 1) := dk_at dkB02decM1_15 23 rfl
theorem dX11_countBack_103 : decode cX11_countBack 103 = .ok (.istore 6, 2) := dk_at dkB02decM1_15 24 rfl
theorem dX11_countBack_105 : decode cX11_countBack 105 = .ok (.iload 6, 2) := dk_at dkB02decM1_15 25 rfl
theorem dX11_countBack_107 : decode cX11_countBack 107 = .ok (.bipush 24, 2) := dk_at dkB02decM1_15 26 rfl
theorem dX11_countBack_109 : decode cX11_countBack 109 = .ok (.if_icmp .ge 51, 3) := dk_at dkB02decM1_15 27 rfl
theorem dX11_countBack_112 : decode cX11_countBack 112 = .ok (.aload_n 0, 1) := dk_at dkB02decM1_15 28 rfl
theorem dX11_countBack_113 : decode cX11_countBack 113 = .ok (.iload_n 1, 1) := dk_at dkB02decM1_15 29 rfl
theorem dX11_countBack_114 : decode cX11_countBack 114 = .ok (.iconst 1, 1) := dk_at dkB02decM1_15 30 rfl
theorem dX11_countBack_115 : decode cX11_countBack 115 = .ok (.iadd, 1) := dk_at dkB02decM1_15 31 rfl
theorem dX11_countBack_116 : decode cX11_countBack 116 = .ok (.iload_n 2, 1) := dk_at dkB02decM1_15 32 rfl
theorem dX11_countBack_117 : decode cX11_countBack 117 = .ok (.iload_n 3, 1) := dk_at dkB02decM1_15 33 rfl
theorem dX11_countBack_118 : decode cX11_countBack 118 = .ok (.iload 6, 2) := dk_at dkB02decM1_15 34 rfl
theorem dX11_countBack_120 : decode cX11_countBack 120 = .ok (.invokevirtual 213, 3) := dk_at dkB02decM1_15 35 rfl
theorem dX11_countBack_123 : decode cX11_countBack 123 = .ok (.istore 7, 2) := dk_at dkB02decM1_15 36 rfl
theorem dX11_countBack_125 : decode cX11_countBack 125 = .ok (.lload 4, 2) := dk_at dkB02decM1_15 37 rfl
theorem dX11_countBack_127 : decode cX11_countBack 127 = .ok (.iload 7, 2) := dk_at dkB02decM1_15 38 rfl
theorem dX11_countBack_129 : decode cX11_countBack 129 = .ok (.ifCond .le 21, 3) := dk_at dkB02decM1_15 39 rfl
theorem dX11_countBack_132 : decode cX11_countBack 132 = .ok (.aload_n 0, 1) := dk_at dkB02decM1_15 40 rfl
theorem dX11_countBack_133 : decode cX11_countBack 133 = .ok (.getfield 38, 3) := dk_at dkB02decM1_15 41 rfl
theorem dX11_countBack_136 : decode cX11_countBack 136 = .ok (.iload_n 1, 1) := dk_at dkB02decM1_15 42 rfl
theorem dX11_countBack_137 : decode cX11_countBack 137 = .ok (.iconst 1, 1) := dk_at dkB02decM1_15 43 rfl
theorem dX11_countBack_138 : decode cX11_countBack 138 = .ok (.iadd, 1) := dk_at dkB02decM1_15 44 rfl
theorem dX11_countBack_139 : decode cX11_countBack 139 = .ok (.iload 6, 2) := dk_at dkB02decM1_15 45 rfl
theorem dX11_countBack_141 : decode cX11_countBack 141 = .ok (.iload 7, 2) := dk_at dkB02decM1_15 46 rfl
theorem dX11_countBack_143 : decode cX11_countBack 143 = .ok (.invokestatic 209, 3) := dk_at dkB02decM1_15 47 rfl
theorem dX11_countBack_146 : decode cX11_countBack 146 = .ok (.laload, 1) := dk_at dkB02decM1_15 48 rfl
theorem dX11_countBack_147 : decode cX11_countBack 147 = .ok (.goto 4, 3) := dk_at dkB02decM1_15 49 rfl
theorem dX11_countBack_150 : decode cX11_countBack 150 = .ok (.lconst 0, 1) := dk_at dkB02decM1_15 50 rfl
theorem dX11_countBack_151 : decode cX11_countBack 151 = .ok (.ladd, 1) := dk_at dkB02decM1_15 51 rfl
theorem dX11_countBack_152 : decode cX11_countBack 152 = .ok (.lstore 4, 2) := dk_at dkB02decM1_15 52 rfl
theorem dX11_countBack_154 : decode cX11_countBack 154 = .ok (.iinc 6 1, 3) := dk_at dkB02decM1_15 53 rfl
theorem dX11_countBack_157 : decode cX11_countBack 157 = .ok (.goto (-52), 3) := dk_at dkB02decM1_15 54 rfl
theorem dX11_countBack_160 : decode cX11_countBack 160 = .ok (.aload_n 0, 1) := dk_at dkB02decM1_15 55 rfl
theorem dX11_countBack_161 : decode cX11_countBack 161 = .ok (.getfield 38, 3) := dk_at dkB02decM1_15 56 rfl
theorem dX11_countBack_164 : decode cX11_countBack 164 = .ok (.iload_n 1, 1) := dk_at dkB02decM1_15 57 rfl
theorem dX11_countBack_165 : decode cX11_countBack 165 = .ok (.iload_n 2, 1) := dk_at dkB02decM1_15 58 rfl
theorem dX11_countBack_166 : decode cX11_countBack 166 = .ok (.iload_n 3, 1) := dk_at dkB02decM1_15 59 rfl
noncomputable def dkL02decM1_16 : List (ByteArray × Nat × Instr × Nat) := [(cX11_countBack, 167, (.invokestatic 209, 3)), (cX11_countBack, 170, (.lload 4, 2)), (cX11_countBack, 172, (.lastore, 1)), (cX11_countBack, 173, (.iinc 3 1, 3)), (cX11_countBack, 176, (.goto (-82), 3)), (cX11_countBack, 179, (.iinc 2 1, 3)), (cX11_countBack, 182, (.goto (-96), 3)), (cX11_countBack, 185, (.iinc 1 (-1), 3)), (cX11_countBack, 188, (.goto (-108), 3)), (cX11_countBack, 191, (.return_, 1)), (cX11_waysAt, 0, (.lconst 0, 1)), (cX11_waysAt, 1, (.lstore_n 3, 1)), (cX11_waysAt, 2, (.iconst 1, 1)), (cX11_waysAt, 3, (.istore 5, 2)), (cX11_waysAt, 5, (.iload 5, 2)), (cX11_waysAt, 7, (.iconst 5, 1)), (cX11_waysAt, 8, (.if_icmp .ge 37, 3)), (cX11_waysAt, 11, (.lload_n 3, 1)), (cX11_waysAt, 12, (.aload_n 0, 1)), (cX11_waysAt, 13, (.getfield 34, 3)), (cX11_waysAt, 16, (.iload_n 1, 1)), (cX11_waysAt, 17, (.iload_n 2, 1)), (cX11_waysAt, 18, (.iload 5, 2)), (cX11_waysAt, 20, (.invokestatic 209, 3)), (cX11_waysAt, 23, (.laload, 1)), (cX11_waysAt, 24, (.aload_n 0, 1)), (cX11_waysAt, 25, (.getfield 38, 3)), (cX11_waysAt, 28, (.iload_n 1, 1)), (cX11_waysAt, 29, (.iload_n 2, 1)), (cX11_waysAt, 30, (.iload 5, 2)), (cX11_waysAt, 32, (.invokestatic 209, 3)), (cX11_waysAt, 35, (.laload, 1)), (cX11_waysAt, 36, (.lmul, 1)), (cX11_waysAt, 37, (.ladd, 1)), (cX11_waysAt, 38, (.lstore_n 3, 1)), (cX11_waysAt, 39, (.iinc 5 1, 3)), (cX11_waysAt, 42, (.goto (-37), 3)), (cX11_waysAt, 45, (.lload_n 3, 1)), (cX11_waysAt, 46, (.lreturn, 1)), (cX11_countAll, 0, (.aload_n 0, 1)), (cX11_countAll, 1, (.iload_n 1, 1)), (cX11_countAll, 2, (.iload_n 2, 1)), (cX11_countAll, 3, (.invokevirtual 221, 3)), (cX11_countAll, 6, (.aload_n 0, 1)), (cX11_countAll, 7, (.invokevirtual 224, 3)), (cX11_countAll, 10, (.aload_n 0, 1)), (cX11_countAll, 11, (.invokevirtual 227, 3)), (cX11_countAll, 14, (.return_, 1)), (cX11_countNow, 0, (.aload_n 0, 1)), (cX11_countNow, 1, (.iload_n 1, 1)), (cX11_countNow, 2, (.aload_n 0, 1)), (cX11_countNow, 3, (.iload_n 1, 1)), (cX11_countNow, 4, (.invokevirtual 230, 3)), (cX11_countNow, 7, (.invokevirtual 233, 3)), (cX11_countNow, 10, (.return_, 1)), (cX11_ways, 0, (.iload_n 1, 1)), (cX11_ways, 1, (.invokestatic 160, 3)), (cX11_ways, 4, (.ifCond .ne 7, 3)), (cX11_ways, 7, (.ldc2_w 236, 3)), (cX11_ways, 10, (.lreturn, 1))]
theorem dkB02decM1_16 : dkL02decM1_16.all (fun q => decide (decode q.1 q.2.1 = .ok q.2.2)) = true := by decide +kernel
theorem dX11_countBack_167 : decode cX11_countBack 167 = .ok (.invokestatic 209, 3) := dk_at dkB02decM1_16 0 rfl
theorem dX11_countBack_170 : decode cX11_countBack 170 = .ok (.lload 4, 2) := dk_at dkB02decM1_16 1 rfl
theorem dX11_countBack_172 : decode cX11_countBack 172 = .ok (.lastore, 1) := dk_at dkB02decM1_16 2 rfl
theorem dX11_countBack_173 : decode cX11_countBack 173 = .ok (.iinc 3 1, 3) := dk_at dkB02decM1_16 3 rfl
theorem dX11_countBack_176 : decode cX11_countBack 176 = .ok (.goto (-82), 3) := dk_at dkB02decM1_16 4 rfl
theorem dX11_countBack_179 : decode cX11_countBack 179 = .ok (.iinc 2 1, 3) := dk_at dkB02decM1_16 5 rfl
theorem dX11_countBack_182 : decode cX11_countBack 182 = .ok (.goto (-96), 3) := dk_at dkB02decM1_16 6 rfl
theorem dX11_countBack_185 : decode cX11_countBack 185 = .ok (.iinc 1 (-1), 3) := dk_at dkB02decM1_16 7 rfl
theorem dX11_countBack_188 : decode cX11_countBack 188 = .ok (.goto (-108), 3) := dk_at dkB02decM1_16 8 rfl
theorem dX11_countBack_191 : decode cX11_countBack 191 = .ok (.return_, 1) := dk_at dkB02decM1_16 9 rfl
theorem dX11_waysAt_0 : decode cX11_waysAt 0 = .ok (.lconst 0, 1) := dk_at dkB02decM1_16 10 rfl
theorem dX11_waysAt_1 : decode cX11_waysAt 1 = .ok (.lstore_n 3, 1) := dk_at dkB02decM1_16 11 rfl
theorem dX11_waysAt_2 : decode cX11_waysAt 2 = .ok (.iconst 1, 1) := dk_at dkB02decM1_16 12 rfl
theorem dX11_waysAt_3 : decode cX11_waysAt 3 = .ok (.istore 5, 2) := dk_at dkB02decM1_16 13 rfl
theorem dX11_waysAt_5 : decode cX11_waysAt 5 = .ok (.iload 5, 2) := dk_at dkB02decM1_16 14 rfl
theorem dX11_waysAt_7 : decode cX11_waysAt 7 = .ok (.iconst 5, 1) := dk_at dkB02decM1_16 15 rfl
theorem dX11_waysAt_8 : decode cX11_waysAt 8 = .ok (.if_icmp .ge 37, 3) := dk_at dkB02decM1_16 16 rfl
theorem dX11_waysAt_11 : decode cX11_waysAt 11 = .ok (.lload_n 3, 1) := dk_at dkB02decM1_16 17 rfl
theorem dX11_waysAt_12 : decode cX11_waysAt 12 = .ok (.aload_n 0, 1) := dk_at dkB02decM1_16 18 rfl
theorem dX11_waysAt_13 : decode cX11_waysAt 13 = .ok (.getfield 34, 3) := dk_at dkB02decM1_16 19 rfl
theorem dX11_waysAt_16 : decode cX11_waysAt 16 = .ok (.iload_n 1, 1) := dk_at dkB02decM1_16 20 rfl
theorem dX11_waysAt_17 : decode cX11_waysAt 17 = .ok (.iload_n 2, 1) := dk_at dkB02decM1_16 21 rfl
theorem dX11_waysAt_18 : decode cX11_waysAt 18 = .ok (.iload 5, 2) := dk_at dkB02decM1_16 22 rfl
theorem dX11_waysAt_20 : decode cX11_waysAt 20 = .ok (.invokestatic 209, 3) := dk_at dkB02decM1_16 23 rfl
theorem dX11_waysAt_23 : decode cX11_waysAt 23 = .ok (.laload, 1) := dk_at dkB02decM1_16 24 rfl
theorem dX11_waysAt_24 : decode cX11_waysAt 24 = .ok (.aload_n 0, 1) := dk_at dkB02decM1_16 25 rfl
theorem dX11_waysAt_25 : decode cX11_waysAt 25 = .ok (.getfield 38, 3) := dk_at dkB02decM1_16 26 rfl
theorem dX11_waysAt_28 : decode cX11_waysAt 28 = .ok (.iload_n 1, 1) := dk_at dkB02decM1_16 27 rfl
theorem dX11_waysAt_29 : decode cX11_waysAt 29 = .ok (.iload_n 2, 1) := dk_at dkB02decM1_16 28 rfl
theorem dX11_waysAt_30 : decode cX11_waysAt 30 = .ok (.iload 5, 2) := dk_at dkB02decM1_16 29 rfl
theorem dX11_waysAt_32 : decode cX11_waysAt 32 = .ok (.invokestatic 209, 3) := dk_at dkB02decM1_16 30 rfl
theorem dX11_waysAt_35 : decode cX11_waysAt 35 = .ok (.laload, 1) := dk_at dkB02decM1_16 31 rfl
theorem dX11_waysAt_36 : decode cX11_waysAt 36 = .ok (.lmul, 1) := dk_at dkB02decM1_16 32 rfl
theorem dX11_waysAt_37 : decode cX11_waysAt 37 = .ok (.ladd, 1) := dk_at dkB02decM1_16 33 rfl
theorem dX11_waysAt_38 : decode cX11_waysAt 38 = .ok (.lstore_n 3, 1) := dk_at dkB02decM1_16 34 rfl
theorem dX11_waysAt_39 : decode cX11_waysAt 39 = .ok (.iinc 5 1, 3) := dk_at dkB02decM1_16 35 rfl
theorem dX11_waysAt_42 : decode cX11_waysAt 42 = .ok (.goto (-37), 3) := dk_at dkB02decM1_16 36 rfl
theorem dX11_waysAt_45 : decode cX11_waysAt 45 = .ok (.lload_n 3, 1) := dk_at dkB02decM1_16 37 rfl
theorem dX11_waysAt_46 : decode cX11_waysAt 46 = .ok (.lreturn, 1) := dk_at dkB02decM1_16 38 rfl
theorem dX11_countAll_0 : decode cX11_countAll 0 = .ok (.aload_n 0, 1) := dk_at dkB02decM1_16 39 rfl
theorem dX11_countAll_1 : decode cX11_countAll 1 = .ok (.iload_n 1, 1) := dk_at dkB02decM1_16 40 rfl
theorem dX11_countAll_2 : decode cX11_countAll 2 = .ok (.iload_n 2, 1) := dk_at dkB02decM1_16 41 rfl
theorem dX11_countAll_3 : decode cX11_countAll 3 = .ok (.invokevirtual 221, 3) := dk_at dkB02decM1_16 42 rfl
theorem dX11_countAll_6 : decode cX11_countAll 6 = .ok (.aload_n 0, 1) := dk_at dkB02decM1_16 43 rfl
theorem dX11_countAll_7 : decode cX11_countAll 7 = .ok (.invokevirtual 224, 3) := dk_at dkB02decM1_16 44 rfl
theorem dX11_countAll_10 : decode cX11_countAll 10 = .ok (.aload_n 0, 1) := dk_at dkB02decM1_16 45 rfl
theorem dX11_countAll_11 : decode cX11_countAll 11 = .ok (.invokevirtual 227, 3) := dk_at dkB02decM1_16 46 rfl
theorem dX11_countAll_14 : decode cX11_countAll 14 = .ok (.return_, 1) := dk_at dkB02decM1_16 47 rfl
theorem dX11_countNow_0 : decode cX11_countNow 0 = .ok (.aload_n 0, 1) := dk_at dkB02decM1_16 48 rfl
theorem dX11_countNow_1 : decode cX11_countNow 1 = .ok (.iload_n 1, 1) := dk_at dkB02decM1_16 49 rfl
theorem dX11_countNow_2 : decode cX11_countNow 2 = .ok (.aload_n 0, 1) := dk_at dkB02decM1_16 50 rfl
theorem dX11_countNow_3 : decode cX11_countNow 3 = .ok (.iload_n 1, 1) := dk_at dkB02decM1_16 51 rfl
theorem dX11_countNow_4 : decode cX11_countNow 4 = .ok (.invokevirtual 230, 3) := dk_at dkB02decM1_16 52 rfl
theorem dX11_countNow_7 : decode cX11_countNow 7 = .ok (.invokevirtual 233, 3) := dk_at dkB02decM1_16 53 rfl
theorem dX11_countNow_10 : decode cX11_countNow 10 = .ok (.return_, 1) := dk_at dkB02decM1_16 54 rfl
theorem dX11_ways_0 : decode cX11_ways 0 = .ok (.iload_n 1, 1) := dk_at dkB02decM1_16 55 rfl
theorem dX11_ways_1 : decode cX11_ways 1 = .ok (.invokestatic 160, 3) := dk_at dkB02decM1_16 56 rfl
theorem dX11_ways_4 : decode cX11_ways 4 = .ok (.ifCond .ne 7, 3) := dk_at dkB02decM1_16 57 rfl
theorem dX11_ways_7 : decode cX11_ways 7 = .ok (.ldc2_w 236, 3) := dk_at dkB02decM1_16 58 rfl
theorem dX11_ways_10 : decode cX11_ways 10 = .ok (.lreturn, 1) := dk_at dkB02decM1_16 59 rfl
noncomputable def dkL02decM1_17 : List (ByteArray × Nat × Instr × Nat) := [(cX11_ways, 11, (.aload_n 0, 1)), (cX11_ways, 12, (.iload_n 1, 1)), (cX11_ways, 13, (.invokevirtual 189, 3)), (cX11_ways, 16, (.ifCond .ne 7, 3)), (cX11_ways, 19, (.ldc2_w 238, 3)), (cX11_ways, 22, (.lreturn, 1)), (cX11_ways, 23, (.aload_n 0, 1)), (cX11_ways, 24, (.iload_n 1, 1)), (cX11_ways, 25, (.invokevirtual 240, 3)), (cX11_ways, 28, (.aload_n 0, 1)), (cX11_ways, 29, (.getfield 217, 3)), (cX11_ways, 32, (.lreturn, 1)), (cX11_lacksWays, 0, (.iload_n 1, 1)), (cX11_lacksWays, 1, (.invokestatic 160, 3)), (cX11_lacksWays, 4, (.ifCond .eq 12, 3)), (cX11_lacksWays, 7, (.aload_n 0, 1)), (cX11_lacksWays, 8, (.iload_n 1, 1)), (cX11_lacksWays, 9, (.iload_n 2, 1)), (cX11_lacksWays, 10, (.invokevirtual 174, 3)), (cX11_lacksWays, 13, (.ifCond .ne 5, 3)), (cX11_lacksWays, 16, (.iconst (-1), 1)), (cX11_lacksWays, 17, (.ireturn, 1)), (cX11_lacksWays, 18, (.aload_n 0, 1)), (cX11_lacksWays, 19, (.iload_n 1, 1)), (cX11_lacksWays, 20, (.iload_n 2, 1)), (cX11_lacksWays, 21, (.invokevirtual 177, 3)), (cX11_lacksWays, 24, (.iconst 2, 1)), (cX11_lacksWays, 25, (.if_icmp .ne 6, 3)), (cX11_lacksWays, 28, (.bipush (-12), 2)), (cX11_lacksWays, 30, (.ireturn, 1)), (cX11_lacksWays, 31, (.aload_n 0, 1)), (cX11_lacksWays, 32, (.iload_n 1, 1)), (cX11_lacksWays, 33, (.invokevirtual 240, 3)), (cX11_lacksWays, 36, (.aload_n 0, 1)), (cX11_lacksWays, 37, (.getfield 217, 3)), (cX11_lacksWays, 40, (.lconst 0, 1)), (cX11_lacksWays, 41, (.lcmp, 1)), (cX11_lacksWays, 42, (.ifCond .ne 8, 3)), (cX11_lacksWays, 45, (.bipush (-4), 2)), (cX11_lacksWays, 47, (.goto 4, 3)), (cX11_lacksWays, 50, (.iconst 0, 1)), (cX11_lacksWays, 51, (.ireturn, 1)), (cX11_endOf, 0, (.bipush (-4), 2)), (cX11_endOf, 2, (.istore_n 3, 1)), (cX11_endOf, 3, (.iconst 0, 1)), (cX11_endOf, 4, (.istore 4, 2)), (cX11_endOf, 6, (.iload 4, 2)), (cX11_endOf, 8, (.bipush 24, 2)), (cX11_endOf, 10, (.if_icmp .ge 44, 3)), (cX11_endOf, 13, (.iload_n 2, 1)), (cX11_endOf, 14, (.ifCond .ne 11, 3)), (cX11_endOf, 17, (.bipush 23, 2)), (cX11_endOf, 19, (.iload 4, 2)), (cX11_endOf, 21, (.isub, 1)), (cX11_endOf, 22, (.goto 5, 3)), (cX11_endOf, 25, (.iload 4, 2)), (cX11_endOf, 27, (.istore 5, 2)), (cX11_endOf, 29, (.aload_n 0, 1)), (cX11_endOf, 30, (.iload_n 1, 1)), (cX11_endOf, 31, (.iload 5, 2))]
theorem dkB02decM1_17 : dkL02decM1_17.all (fun q => decide (decode q.1 q.2.1 = .ok q.2.2)) = true := by decide +kernel
theorem dX11_ways_11 : decode cX11_ways 11 = .ok (.aload_n 0, 1) := dk_at dkB02decM1_17 0 rfl
theorem dX11_ways_12 : decode cX11_ways 12 = .ok (.iload_n 1, 1) := dk_at dkB02decM1_17 1 rfl
theorem dX11_ways_13 : decode cX11_ways 13 = .ok (.invokevirtual 189, 3) := dk_at dkB02decM1_17 2 rfl
theorem dX11_ways_16 : decode cX11_ways 16 = .ok (.ifCond .ne 7, 3) := dk_at dkB02decM1_17 3 rfl
theorem dX11_ways_19 : decode cX11_ways 19 = .ok (.ldc2_w 238, 3) := dk_at dkB02decM1_17 4 rfl
theorem dX11_ways_22 : decode cX11_ways 22 = .ok (.lreturn, 1) := dk_at dkB02decM1_17 5 rfl
theorem dX11_ways_23 : decode cX11_ways 23 = .ok (.aload_n 0, 1) := dk_at dkB02decM1_17 6 rfl
theorem dX11_ways_24 : decode cX11_ways 24 = .ok (.iload_n 1, 1) := dk_at dkB02decM1_17 7 rfl
theorem dX11_ways_25 : decode cX11_ways 25 = .ok (.invokevirtual 240, 3) := dk_at dkB02decM1_17 8 rfl
theorem dX11_ways_28 : decode cX11_ways 28 = .ok (.aload_n 0, 1) := dk_at dkB02decM1_17 9 rfl
theorem dX11_ways_29 : decode cX11_ways 29 = .ok (.getfield 217, 3) := dk_at dkB02decM1_17 10 rfl
theorem dX11_ways_32 : decode cX11_ways 32 = .ok (.lreturn, 1) := dk_at dkB02decM1_17 11 rfl
theorem dX11_lacksWays_0 : decode cX11_lacksWays 0 = .ok (.iload_n 1, 1) := dk_at dkB02decM1_17 12 rfl
theorem dX11_lacksWays_1 : decode cX11_lacksWays 1 = .ok (.invokestatic 160, 3) := dk_at dkB02decM1_17 13 rfl
theorem dX11_lacksWays_4 : decode cX11_lacksWays 4 = .ok (.ifCond .eq 12, 3) := dk_at dkB02decM1_17 14 rfl
theorem dX11_lacksWays_7 : decode cX11_lacksWays 7 = .ok (.aload_n 0, 1) := dk_at dkB02decM1_17 15 rfl
theorem dX11_lacksWays_8 : decode cX11_lacksWays 8 = .ok (.iload_n 1, 1) := dk_at dkB02decM1_17 16 rfl
theorem dX11_lacksWays_9 : decode cX11_lacksWays 9 = .ok (.iload_n 2, 1) := dk_at dkB02decM1_17 17 rfl
theorem dX11_lacksWays_10 : decode cX11_lacksWays 10 = .ok (.invokevirtual 174, 3) := dk_at dkB02decM1_17 18 rfl
theorem dX11_lacksWays_13 : decode cX11_lacksWays 13 = .ok (.ifCond .ne 5, 3) := dk_at dkB02decM1_17 19 rfl
theorem dX11_lacksWays_16 : decode cX11_lacksWays 16 = .ok (.iconst (-1), 1) := dk_at dkB02decM1_17 20 rfl
theorem dX11_lacksWays_17 : decode cX11_lacksWays 17 = .ok (.ireturn, 1) := dk_at dkB02decM1_17 21 rfl
theorem dX11_lacksWays_18 : decode cX11_lacksWays 18 = .ok (.aload_n 0, 1) := dk_at dkB02decM1_17 22 rfl
theorem dX11_lacksWays_19 : decode cX11_lacksWays 19 = .ok (.iload_n 1, 1) := dk_at dkB02decM1_17 23 rfl
theorem dX11_lacksWays_20 : decode cX11_lacksWays 20 = .ok (.iload_n 2, 1) := dk_at dkB02decM1_17 24 rfl
theorem dX11_lacksWays_21 : decode cX11_lacksWays 21 = .ok (.invokevirtual 177, 3) := dk_at dkB02decM1_17 25 rfl
theorem dX11_lacksWays_24 : decode cX11_lacksWays 24 = .ok (.iconst 2, 1) := dk_at dkB02decM1_17 26 rfl
theorem dX11_lacksWays_25 : decode cX11_lacksWays 25 = .ok (.if_icmp .ne 6, 3) := dk_at dkB02decM1_17 27 rfl
theorem dX11_lacksWays_28 : decode cX11_lacksWays 28 = .ok (.bipush (-12), 2) := dk_at dkB02decM1_17 28 rfl
theorem dX11_lacksWays_30 : decode cX11_lacksWays 30 = .ok (.ireturn, 1) := dk_at dkB02decM1_17 29 rfl
theorem dX11_lacksWays_31 : decode cX11_lacksWays 31 = .ok (.aload_n 0, 1) := dk_at dkB02decM1_17 30 rfl
theorem dX11_lacksWays_32 : decode cX11_lacksWays 32 = .ok (.iload_n 1, 1) := dk_at dkB02decM1_17 31 rfl
theorem dX11_lacksWays_33 : decode cX11_lacksWays 33 = .ok (.invokevirtual 240, 3) := dk_at dkB02decM1_17 32 rfl
theorem dX11_lacksWays_36 : decode cX11_lacksWays 36 = .ok (.aload_n 0, 1) := dk_at dkB02decM1_17 33 rfl
theorem dX11_lacksWays_37 : decode cX11_lacksWays 37 = .ok (.getfield 217, 3) := dk_at dkB02decM1_17 34 rfl
theorem dX11_lacksWays_40 : decode cX11_lacksWays 40 = .ok (.lconst 0, 1) := dk_at dkB02decM1_17 35 rfl
theorem dX11_lacksWays_41 : decode cX11_lacksWays 41 = .ok (.lcmp, 1) := dk_at dkB02decM1_17 36 rfl
theorem dX11_lacksWays_42 : decode cX11_lacksWays 42 = .ok (.ifCond .ne 8, 3) := dk_at dkB02decM1_17 37 rfl
theorem dX11_lacksWays_45 : decode cX11_lacksWays 45 = .ok (.bipush (-4), 2) := dk_at dkB02decM1_17 38 rfl
theorem dX11_lacksWays_47 : decode cX11_lacksWays 47 = .ok (.goto 4, 3) := dk_at dkB02decM1_17 39 rfl
theorem dX11_lacksWays_50 : decode cX11_lacksWays 50 = .ok (.iconst 0, 1) := dk_at dkB02decM1_17 40 rfl
theorem dX11_lacksWays_51 : decode cX11_lacksWays 51 = .ok (.ireturn, 1) := dk_at dkB02decM1_17 41 rfl
theorem dX11_endOf_0 : decode cX11_endOf 0 = .ok (.bipush (-4), 2) := dk_at dkB02decM1_17 42 rfl
theorem dX11_endOf_2 : decode cX11_endOf 2 = .ok (.istore_n 3, 1) := dk_at dkB02decM1_17 43 rfl
theorem dX11_endOf_3 : decode cX11_endOf 3 = .ok (.iconst 0, 1) := dk_at dkB02decM1_17 44 rfl
theorem dX11_endOf_4 : decode cX11_endOf 4 = .ok (.istore 4, 2) := dk_at dkB02decM1_17 45 rfl
theorem dX11_endOf_6 : decode cX11_endOf 6 = .ok (.iload 4, 2) := dk_at dkB02decM1_17 46 rfl
theorem dX11_endOf_8 : decode cX11_endOf 8 = .ok (.bipush 24, 2) := dk_at dkB02decM1_17 47 rfl
theorem dX11_endOf_10 : decode cX11_endOf 10 = .ok (.if_icmp .ge 44, 3) := dk_at dkB02decM1_17 48 rfl
theorem dX11_endOf_13 : decode cX11_endOf 13 = .ok (.iload_n 2, 1) := dk_at dkB02decM1_17 49 rfl
theorem dX11_endOf_14 : decode cX11_endOf 14 = .ok (.ifCond .ne 11, 3) := dk_at dkB02decM1_17 50 rfl
theorem dX11_endOf_17 : decode cX11_endOf 17 = .ok (.bipush 23, 2) := dk_at dkB02decM1_17 51 rfl
theorem dX11_endOf_19 : decode cX11_endOf 19 = .ok (.iload 4, 2) := dk_at dkB02decM1_17 52 rfl
theorem dX11_endOf_21 : decode cX11_endOf 21 = .ok (.isub, 1) := dk_at dkB02decM1_17 53 rfl
theorem dX11_endOf_22 : decode cX11_endOf 22 = .ok (.goto 5, 3) := dk_at dkB02decM1_17 54 rfl
theorem dX11_endOf_25 : decode cX11_endOf 25 = .ok (.iload 4, 2) := dk_at dkB02decM1_17 55 rfl
theorem dX11_endOf_27 : decode cX11_endOf 27 = .ok (.istore 5, 2) := dk_at dkB02decM1_17 56 rfl
theorem dX11_endOf_29 : decode cX11_endOf 29 = .ok (.aload_n 0, 1) := dk_at dkB02decM1_17 57 rfl
theorem dX11_endOf_30 : decode cX11_endOf 30 = .ok (.iload_n 1, 1) := dk_at dkB02decM1_17 58 rfl
theorem dX11_endOf_31 : decode cX11_endOf 31 = .ok (.iload 5, 2) := dk_at dkB02decM1_17 59 rfl
noncomputable def dkL02decM1_18 : List (ByteArray × Nat × Instr × Nat) := [(cX11_endOf, 33, (.invokevirtual 243, 3)), (cX11_endOf, 36, (.lconst 0, 1)), (cX11_endOf, 37, (.lcmp, 1)), (cX11_endOf, 38, (.ifCond .le 8, 3)), (cX11_endOf, 41, (.iload 5, 2)), (cX11_endOf, 43, (.goto 4, 3)), (cX11_endOf, 46, (.iload_n 3, 1)), (cX11_endOf, 47, (.istore_n 3, 1)), (cX11_endOf, 48, (.iinc 4 1, 3)), (cX11_endOf, 51, (.goto (-45), 3)), (cX11_endOf, 54, (.iload_n 3, 1)), (cX11_endOf, 55, (.ireturn, 1)), (cX11_ends, 0, (.iload_n 3, 1)), (cX11_ends, 1, (.i2l, 1)), (cX11_ends, 2, (.lconst 0, 1)), (cX11_ends, 3, (.lconst 1, 1)), (cX11_ends, 4, (.invokestatic 70, 3)), (cX11_ends, 7, (.ifCond .ne 5, 3)), (cX11_ends, 10, (.iconst (-1), 1)), (cX11_ends, 11, (.ireturn, 1)), (cX11_ends, 12, (.aload_n 0, 1)), (cX11_ends, 13, (.iload_n 1, 1)), (cX11_ends, 14, (.iload_n 2, 1)), (cX11_ends, 15, (.invokevirtual 247, 3)), (cX11_ends, 18, (.istore 4, 2)), (cX11_ends, 20, (.iload 4, 2)), (cX11_ends, 22, (.ifCond .ge 8, 3)), (cX11_ends, 25, (.iload 4, 2)), (cX11_ends, 27, (.goto 13, 3)), (cX11_ends, 30, (.aload_n 0, 1)), (cX11_ends, 31, (.aload_n 0, 1)), (cX11_ends, 32, (.iload_n 2, 1)), (cX11_ends, 33, (.invokevirtual 206, 3)), (cX11_ends, 36, (.iload_n 3, 1)), (cX11_ends, 37, (.invokevirtual 250, 3)), (cX11_ends, 40, (.ireturn, 1)), (cX11_common, 0, (.lload_n 0, 1)), (cX11_common, 1, (.lstore 4, 2)), (cX11_common, 3, (.lload_n 2, 1)), (cX11_common, 4, (.lstore 6, 2)), (cX11_common, 6, (.lload 6, 2)), (cX11_common, 8, (.lconst 0, 1)), (cX11_common, 9, (.lcmp, 1)), (cX11_common, 10, (.ifCond .eq 21, 3)), (cX11_common, 13, (.lload 4, 2)), (cX11_common, 15, (.lload 6, 2)), (cX11_common, 17, (.lrem, 1)), (cX11_common, 18, (.lstore 8, 2)), (cX11_common, 20, (.lload 6, 2)), (cX11_common, 22, (.lstore 4, 2)), (cX11_common, 24, (.lload 8, 2)), (cX11_common, 26, (.lstore 6, 2)), (cX11_common, 28, (.goto (-22), 3)), (cX11_common, 31, (.lload 4, 2)), (cX11_common, 33, (.lreturn, 1)), (cX11_part, 0, (.lload_n 0, 1)), (cX11_part, 1, (.lload_n 2, 1)), (cX11_part, 2, (.invokestatic 253, 3)), (cX11_part, 5, (.lstore 5, 2)), (cX11_part, 7, (.iload 4, 2))]
theorem dkB02decM1_18 : dkL02decM1_18.all (fun q => decide (decode q.1 q.2.1 = .ok q.2.2)) = true := by decide +kernel
theorem dX11_endOf_33 : decode cX11_endOf 33 = .ok (.invokevirtual 243, 3) := dk_at dkB02decM1_18 0 rfl
theorem dX11_endOf_36 : decode cX11_endOf 36 = .ok (.lconst 0, 1) := dk_at dkB02decM1_18 1 rfl
theorem dX11_endOf_37 : decode cX11_endOf 37 = .ok (.lcmp, 1) := dk_at dkB02decM1_18 2 rfl
theorem dX11_endOf_38 : decode cX11_endOf 38 = .ok (.ifCond .le 8, 3) := dk_at dkB02decM1_18 3 rfl
theorem dX11_endOf_41 : decode cX11_endOf 41 = .ok (.iload 5, 2) := dk_at dkB02decM1_18 4 rfl
theorem dX11_endOf_43 : decode cX11_endOf 43 = .ok (.goto 4, 3) := dk_at dkB02decM1_18 5 rfl
theorem dX11_endOf_46 : decode cX11_endOf 46 = .ok (.iload_n 3, 1) := dk_at dkB02decM1_18 6 rfl
theorem dX11_endOf_47 : decode cX11_endOf 47 = .ok (.istore_n 3, 1) := dk_at dkB02decM1_18 7 rfl
theorem dX11_endOf_48 : decode cX11_endOf 48 = .ok (.iinc 4 1, 3) := dk_at dkB02decM1_18 8 rfl
theorem dX11_endOf_51 : decode cX11_endOf 51 = .ok (.goto (-45), 3) := dk_at dkB02decM1_18 9 rfl
theorem dX11_endOf_54 : decode cX11_endOf 54 = .ok (.iload_n 3, 1) := dk_at dkB02decM1_18 10 rfl
theorem dX11_endOf_55 : decode cX11_endOf 55 = .ok (.ireturn, 1) := dk_at dkB02decM1_18 11 rfl
theorem dX11_ends_0 : decode cX11_ends 0 = .ok (.iload_n 3, 1) := dk_at dkB02decM1_18 12 rfl
theorem dX11_ends_1 : decode cX11_ends 1 = .ok (.i2l, 1) := dk_at dkB02decM1_18 13 rfl
theorem dX11_ends_2 : decode cX11_ends 2 = .ok (.lconst 0, 1) := dk_at dkB02decM1_18 14 rfl
theorem dX11_ends_3 : decode cX11_ends 3 = .ok (.lconst 1, 1) := dk_at dkB02decM1_18 15 rfl
theorem dX11_ends_4 : decode cX11_ends 4 = .ok (.invokestatic 70, 3) := dk_at dkB02decM1_18 16 rfl
theorem dX11_ends_7 : decode cX11_ends 7 = .ok (.ifCond .ne 5, 3) := dk_at dkB02decM1_18 17 rfl
theorem dX11_ends_10 : decode cX11_ends 10 = .ok (.iconst (-1), 1) := dk_at dkB02decM1_18 18 rfl
theorem dX11_ends_11 : decode cX11_ends 11 = .ok (.ireturn, 1) := dk_at dkB02decM1_18 19 rfl
theorem dX11_ends_12 : decode cX11_ends 12 = .ok (.aload_n 0, 1) := dk_at dkB02decM1_18 20 rfl
theorem dX11_ends_13 : decode cX11_ends 13 = .ok (.iload_n 1, 1) := dk_at dkB02decM1_18 21 rfl
theorem dX11_ends_14 : decode cX11_ends 14 = .ok (.iload_n 2, 1) := dk_at dkB02decM1_18 22 rfl
theorem dX11_ends_15 : decode cX11_ends 15 = .ok (.invokevirtual 247, 3) := dk_at dkB02decM1_18 23 rfl
theorem dX11_ends_18 : decode cX11_ends 18 = .ok (.istore 4, 2) := dk_at dkB02decM1_18 24 rfl
theorem dX11_ends_20 : decode cX11_ends 20 = .ok (.iload 4, 2) := dk_at dkB02decM1_18 25 rfl
theorem dX11_ends_22 : decode cX11_ends 22 = .ok (.ifCond .ge 8, 3) := dk_at dkB02decM1_18 26 rfl
theorem dX11_ends_25 : decode cX11_ends 25 = .ok (.iload 4, 2) := dk_at dkB02decM1_18 27 rfl
theorem dX11_ends_27 : decode cX11_ends 27 = .ok (.goto 13, 3) := dk_at dkB02decM1_18 28 rfl
theorem dX11_ends_30 : decode cX11_ends 30 = .ok (.aload_n 0, 1) := dk_at dkB02decM1_18 29 rfl
theorem dX11_ends_31 : decode cX11_ends 31 = .ok (.aload_n 0, 1) := dk_at dkB02decM1_18 30 rfl
theorem dX11_ends_32 : decode cX11_ends 32 = .ok (.iload_n 2, 1) := dk_at dkB02decM1_18 31 rfl
theorem dX11_ends_33 : decode cX11_ends 33 = .ok (.invokevirtual 206, 3) := dk_at dkB02decM1_18 32 rfl
theorem dX11_ends_36 : decode cX11_ends 36 = .ok (.iload_n 3, 1) := dk_at dkB02decM1_18 33 rfl
theorem dX11_ends_37 : decode cX11_ends 37 = .ok (.invokevirtual 250, 3) := dk_at dkB02decM1_18 34 rfl
theorem dX11_ends_40 : decode cX11_ends 40 = .ok (.ireturn, 1) := dk_at dkB02decM1_18 35 rfl
theorem dX11_common_0 : decode cX11_common 0 = .ok (.lload_n 0, 1) := dk_at dkB02decM1_18 36 rfl
theorem dX11_common_1 : decode cX11_common 1 = .ok (.lstore 4, 2) := dk_at dkB02decM1_18 37 rfl
theorem dX11_common_3 : decode cX11_common 3 = .ok (.lload_n 2, 1) := dk_at dkB02decM1_18 38 rfl
theorem dX11_common_4 : decode cX11_common 4 = .ok (.lstore 6, 2) := dk_at dkB02decM1_18 39 rfl
theorem dX11_common_6 : decode cX11_common 6 = .ok (.lload 6, 2) := dk_at dkB02decM1_18 40 rfl
theorem dX11_common_8 : decode cX11_common 8 = .ok (.lconst 0, 1) := dk_at dkB02decM1_18 41 rfl
theorem dX11_common_9 : decode cX11_common 9 = .ok (.lcmp, 1) := dk_at dkB02decM1_18 42 rfl
theorem dX11_common_10 : decode cX11_common 10 = .ok (.ifCond .eq 21, 3) := dk_at dkB02decM1_18 43 rfl
theorem dX11_common_13 : decode cX11_common 13 = .ok (.lload 4, 2) := dk_at dkB02decM1_18 44 rfl
theorem dX11_common_15 : decode cX11_common 15 = .ok (.lload 6, 2) := dk_at dkB02decM1_18 45 rfl
theorem dX11_common_17 : decode cX11_common 17 = .ok (.lrem, 1) := dk_at dkB02decM1_18 46 rfl
theorem dX11_common_18 : decode cX11_common 18 = .ok (.lstore 8, 2) := dk_at dkB02decM1_18 47 rfl
theorem dX11_common_20 : decode cX11_common 20 = .ok (.lload 6, 2) := dk_at dkB02decM1_18 48 rfl
theorem dX11_common_22 : decode cX11_common 22 = .ok (.lstore 4, 2) := dk_at dkB02decM1_18 49 rfl
theorem dX11_common_24 : decode cX11_common 24 = .ok (.lload 8, 2) := dk_at dkB02decM1_18 50 rfl
theorem dX11_common_26 : decode cX11_common 26 = .ok (.lstore 6, 2) := dk_at dkB02decM1_18 51 rfl
theorem dX11_common_28 : decode cX11_common 28 = .ok (.goto (-22), 3) := dk_at dkB02decM1_18 52 rfl
theorem dX11_common_31 : decode cX11_common 31 = .ok (.lload 4, 2) := dk_at dkB02decM1_18 53 rfl
theorem dX11_common_33 : decode cX11_common 33 = .ok (.lreturn, 1) := dk_at dkB02decM1_18 54 rfl
theorem dX11_part_0 : decode cX11_part 0 = .ok (.lload_n 0, 1) := dk_at dkB02decM1_18 55 rfl
theorem dX11_part_1 : decode cX11_part 1 = .ok (.lload_n 2, 1) := dk_at dkB02decM1_18 56 rfl
theorem dX11_part_2 : decode cX11_part 2 = .ok (.invokestatic 253, 3) := dk_at dkB02decM1_18 57 rfl
theorem dX11_part_5 : decode cX11_part 5 = .ok (.lstore 5, 2) := dk_at dkB02decM1_18 58 rfl
theorem dX11_part_7 : decode cX11_part 7 = .ok (.iload 4, 2) := dk_at dkB02decM1_18 59 rfl
noncomputable def dkL02decM1_19 : List (ByteArray × Nat × Instr × Nat) := [(cX11_part, 9, (.ifCond .ne 10, 3)), (cX11_part, 12, (.lload_n 0, 1)), (cX11_part, 13, (.lload 5, 2)), (cX11_part, 15, (.ldiv, 1)), (cX11_part, 16, (.goto 7, 3)), (cX11_part, 19, (.lload_n 2, 1)), (cX11_part, 20, (.lload 5, 2)), (cX11_part, 22, (.ldiv, 1)), (cX11_part, 23, (.lreturn, 1)), (cX11_odds, 0, (.iload_n 3, 1)), (cX11_odds, 1, (.invokestatic 80, 3)), (cX11_odds, 4, (.ifCond .eq 14, 3)), (cX11_odds, 7, (.iload 4, 2)), (cX11_odds, 9, (.i2l, 1)), (cX11_odds, 10, (.lconst 0, 1)), (cX11_odds, 11, (.lconst 1, 1)), (cX11_odds, 12, (.invokestatic 70, 3)), (cX11_odds, 15, (.ifCond .ne 7, 3)), (cX11_odds, 18, (.ldc2_w 236, 3)), (cX11_odds, 21, (.lreturn, 1)), (cX11_odds, 22, (.aload_n 0, 1)), (cX11_odds, 23, (.iload_n 1, 1)), (cX11_odds, 24, (.iload_n 2, 1)), (cX11_odds, 25, (.invokevirtual 247, 3)), (cX11_odds, 28, (.istore 5, 2)), (cX11_odds, 30, (.iload 5, 2)), (cX11_odds, 32, (.ifCond .ge 9, 3)), (cX11_odds, 35, (.iload 5, 2)), (cX11_odds, 37, (.i2l, 1)), (cX11_odds, 38, (.goto 22, 3)), (cX11_odds, 41, (.aload_n 0, 1)), (cX11_odds, 42, (.aload_n 0, 1)), (cX11_odds, 43, (.iload_n 2, 1)), (cX11_odds, 44, (.invokevirtual 206, 3)), (cX11_odds, 47, (.iload_n 3, 1)), (cX11_odds, 48, (.invokevirtual 243, 3)), (cX11_odds, 51, (.aload_n 0, 1)), (cX11_odds, 52, (.getfield 217, 3)), (cX11_odds, 55, (.iload 4, 2)), (cX11_odds, 57, (.invokestatic 257, 3)), (cX11_odds, 60, (.lreturn, 1)), (cX11_findAparts, 0, (.aload_n 0, 1)), (cX11_findAparts, 1, (.getfield 22, 3)), (cX11_findAparts, 4, (.iload_n 1, 1)), (cX11_findAparts, 5, (.iaload, 1)), (cX11_findAparts, 6, (.istore_n 3, 1)), (cX11_findAparts, 7, (.iconst 0, 1)), (cX11_findAparts, 8, (.istore 4, 2)), (cX11_findAparts, 10, (.iload 4, 2)), (cX11_findAparts, 12, (.bipush 24, 2)), (cX11_findAparts, 14, (.if_icmp .ge 17, 3)), (cX11_findAparts, 17, (.aload_n 0, 1)), (cX11_findAparts, 18, (.getfield 41, 3)), (cX11_findAparts, 21, (.iload 4, 2)), (cX11_findAparts, 23, (.lconst 0, 1)), (cX11_findAparts, 24, (.lastore, 1)), (cX11_findAparts, 25, (.iinc 4 1, 3)), (cX11_findAparts, 28, (.goto (-18), 3)), (cX11_findAparts, 31, (.iconst 0, 1)), (cX11_findAparts, 32, (.istore 4, 2))]
theorem dkB02decM1_19 : dkL02decM1_19.all (fun q => decide (decode q.1 q.2.1 = .ok q.2.2)) = true := by decide +kernel
theorem dX11_part_9 : decode cX11_part 9 = .ok (.ifCond .ne 10, 3) := dk_at dkB02decM1_19 0 rfl
theorem dX11_part_12 : decode cX11_part 12 = .ok (.lload_n 0, 1) := dk_at dkB02decM1_19 1 rfl
theorem dX11_part_13 : decode cX11_part 13 = .ok (.lload 5, 2) := dk_at dkB02decM1_19 2 rfl
theorem dX11_part_15 : decode cX11_part 15 = .ok (.ldiv, 1) := dk_at dkB02decM1_19 3 rfl
theorem dX11_part_16 : decode cX11_part 16 = .ok (.goto 7, 3) := dk_at dkB02decM1_19 4 rfl
theorem dX11_part_19 : decode cX11_part 19 = .ok (.lload_n 2, 1) := dk_at dkB02decM1_19 5 rfl
theorem dX11_part_20 : decode cX11_part 20 = .ok (.lload 5, 2) := dk_at dkB02decM1_19 6 rfl
theorem dX11_part_22 : decode cX11_part 22 = .ok (.ldiv, 1) := dk_at dkB02decM1_19 7 rfl
theorem dX11_part_23 : decode cX11_part 23 = .ok (.lreturn, 1) := dk_at dkB02decM1_19 8 rfl
theorem dX11_odds_0 : decode cX11_odds 0 = .ok (.iload_n 3, 1) := dk_at dkB02decM1_19 9 rfl
theorem dX11_odds_1 : decode cX11_odds 1 = .ok (.invokestatic 80, 3) := dk_at dkB02decM1_19 10 rfl
theorem dX11_odds_4 : decode cX11_odds 4 = .ok (.ifCond .eq 14, 3) := dk_at dkB02decM1_19 11 rfl
theorem dX11_odds_7 : decode cX11_odds 7 = .ok (.iload 4, 2) := dk_at dkB02decM1_19 12 rfl
theorem dX11_odds_9 : decode cX11_odds 9 = .ok (.i2l, 1) := dk_at dkB02decM1_19 13 rfl
theorem dX11_odds_10 : decode cX11_odds 10 = .ok (.lconst 0, 1) := dk_at dkB02decM1_19 14 rfl
theorem dX11_odds_11 : decode cX11_odds 11 = .ok (.lconst 1, 1) := dk_at dkB02decM1_19 15 rfl
theorem dX11_odds_12 : decode cX11_odds 12 = .ok (.invokestatic 70, 3) := dk_at dkB02decM1_19 16 rfl
theorem dX11_odds_15 : decode cX11_odds 15 = .ok (.ifCond .ne 7, 3) := dk_at dkB02decM1_19 17 rfl
theorem dX11_odds_18 : decode cX11_odds 18 = .ok (.ldc2_w 236, 3) := dk_at dkB02decM1_19 18 rfl
theorem dX11_odds_21 : decode cX11_odds 21 = .ok (.lreturn, 1) := dk_at dkB02decM1_19 19 rfl
theorem dX11_odds_22 : decode cX11_odds 22 = .ok (.aload_n 0, 1) := dk_at dkB02decM1_19 20 rfl
theorem dX11_odds_23 : decode cX11_odds 23 = .ok (.iload_n 1, 1) := dk_at dkB02decM1_19 21 rfl
theorem dX11_odds_24 : decode cX11_odds 24 = .ok (.iload_n 2, 1) := dk_at dkB02decM1_19 22 rfl
theorem dX11_odds_25 : decode cX11_odds 25 = .ok (.invokevirtual 247, 3) := dk_at dkB02decM1_19 23 rfl
theorem dX11_odds_28 : decode cX11_odds 28 = .ok (.istore 5, 2) := dk_at dkB02decM1_19 24 rfl
theorem dX11_odds_30 : decode cX11_odds 30 = .ok (.iload 5, 2) := dk_at dkB02decM1_19 25 rfl
theorem dX11_odds_32 : decode cX11_odds 32 = .ok (.ifCond .ge 9, 3) := dk_at dkB02decM1_19 26 rfl
theorem dX11_odds_35 : decode cX11_odds 35 = .ok (.iload 5, 2) := dk_at dkB02decM1_19 27 rfl
theorem dX11_odds_37 : decode cX11_odds 37 = .ok (.i2l, 1) := dk_at dkB02decM1_19 28 rfl
theorem dX11_odds_38 : decode cX11_odds 38 = .ok (.goto 22, 3) := dk_at dkB02decM1_19 29 rfl
theorem dX11_odds_41 : decode cX11_odds 41 = .ok (.aload_n 0, 1) := dk_at dkB02decM1_19 30 rfl
theorem dX11_odds_42 : decode cX11_odds 42 = .ok (.aload_n 0, 1) := dk_at dkB02decM1_19 31 rfl
theorem dX11_odds_43 : decode cX11_odds 43 = .ok (.iload_n 2, 1) := dk_at dkB02decM1_19 32 rfl
theorem dX11_odds_44 : decode cX11_odds 44 = .ok (.invokevirtual 206, 3) := dk_at dkB02decM1_19 33 rfl
theorem dX11_odds_47 : decode cX11_odds 47 = .ok (.iload_n 3, 1) := dk_at dkB02decM1_19 34 rfl
theorem dX11_odds_48 : decode cX11_odds 48 = .ok (.invokevirtual 243, 3) := dk_at dkB02decM1_19 35 rfl
theorem dX11_odds_51 : decode cX11_odds 51 = .ok (.aload_n 0, 1) := dk_at dkB02decM1_19 36 rfl
theorem dX11_odds_52 : decode cX11_odds 52 = .ok (.getfield 217, 3) := dk_at dkB02decM1_19 37 rfl
theorem dX11_odds_55 : decode cX11_odds 55 = .ok (.iload 4, 2) := dk_at dkB02decM1_19 38 rfl
theorem dX11_odds_57 : decode cX11_odds 57 = .ok (.invokestatic 257, 3) := dk_at dkB02decM1_19 39 rfl
theorem dX11_odds_60 : decode cX11_odds 60 = .ok (.lreturn, 1) := dk_at dkB02decM1_19 40 rfl
theorem dX11_findAparts_0 : decode cX11_findAparts 0 = .ok (.aload_n 0, 1) := dk_at dkB02decM1_19 41 rfl
theorem dX11_findAparts_1 : decode cX11_findAparts 1 = .ok (.getfield 22, 3) := dk_at dkB02decM1_19 42 rfl
theorem dX11_findAparts_4 : decode cX11_findAparts 4 = .ok (.iload_n 1, 1) := dk_at dkB02decM1_19 43 rfl
theorem dX11_findAparts_5 : decode cX11_findAparts 5 = .ok (.iaload, 1) := dk_at dkB02decM1_19 44 rfl
theorem dX11_findAparts_6 : decode cX11_findAparts 6 = .ok (.istore_n 3, 1) := dk_at dkB02decM1_19 45 rfl
theorem dX11_findAparts_7 : decode cX11_findAparts 7 = .ok (.iconst 0, 1) := dk_at dkB02decM1_19 46 rfl
theorem dX11_findAparts_8 : decode cX11_findAparts 8 = .ok (.istore 4, 2) := dk_at dkB02decM1_19 47 rfl
theorem dX11_findAparts_10 : decode cX11_findAparts 10 = .ok (.iload 4, 2) := dk_at dkB02decM1_19 48 rfl
theorem dX11_findAparts_12 : decode cX11_findAparts 12 = .ok (.bipush 24, 2) := dk_at dkB02decM1_19 49 rfl
theorem dX11_findAparts_14 : decode cX11_findAparts 14 = .ok (.if_icmp .ge 17, 3) := dk_at dkB02decM1_19 50 rfl
theorem dX11_findAparts_17 : decode cX11_findAparts 17 = .ok (.aload_n 0, 1) := dk_at dkB02decM1_19 51 rfl
theorem dX11_findAparts_18 : decode cX11_findAparts 18 = .ok (.getfield 41, 3) := dk_at dkB02decM1_19 52 rfl
theorem dX11_findAparts_21 : decode cX11_findAparts 21 = .ok (.iload 4, 2) := dk_at dkB02decM1_19 53 rfl
theorem dX11_findAparts_23 : decode cX11_findAparts 23 = .ok (.lconst 0, 1) := dk_at dkB02decM1_19 54 rfl
theorem dX11_findAparts_24 : decode cX11_findAparts 24 = .ok (.lastore, 1) := dk_at dkB02decM1_19 55 rfl
theorem dX11_findAparts_25 : decode cX11_findAparts 25 = .ok (.iinc 4 1, 3) := dk_at dkB02decM1_19 56 rfl
theorem dX11_findAparts_28 : decode cX11_findAparts 28 = .ok (.goto (-18), 3) := dk_at dkB02decM1_19 57 rfl
theorem dX11_findAparts_31 : decode cX11_findAparts 31 = .ok (.iconst 0, 1) := dk_at dkB02decM1_19 58 rfl
theorem dX11_findAparts_32 : decode cX11_findAparts 32 = .ok (.istore 4, 2) := dk_at dkB02decM1_19 59 rfl
noncomputable def dkL02decM1_20 : List (ByteArray × Nat × Instr × Nat) := [(cX11_findAparts, 34, (.iload 4, 2)), (cX11_findAparts, 36, (.bipush 24, 2)), (cX11_findAparts, 38, (.if_icmp .ge 71, 3)), (cX11_findAparts, 41, (.aload_n 0, 1)), (cX11_findAparts, 42, (.getfield 22, 3)), (cX11_findAparts, 45, (.iload_n 1, 1)), (cX11_findAparts, 46, (.iload_n 3, 1)), (cX11_findAparts, 47, (.iconst 1, 1)), (cX11_findAparts, 48, (.iload 4, 2)), (cX11_findAparts, 50, (.ishl, 1)), (cX11_findAparts, 51, (.iand, 1)), (cX11_findAparts, 52, (.iastore, 1)), (cX11_findAparts, 53, (.aload_n 0, 1)), (cX11_findAparts, 54, (.getfield 22, 3)), (cX11_findAparts, 57, (.iload_n 1, 1)), (cX11_findAparts, 58, (.iaload, 1)), (cX11_findAparts, 59, (.ifCond .eq 44, 3)), (cX11_findAparts, 62, (.aload_n 0, 1)), (cX11_findAparts, 63, (.invokevirtual 224, 3)), (cX11_findAparts, 66, (.iload 4, 2)), (cX11_findAparts, 68, (.istore 5, 2)), (cX11_findAparts, 70, (.iload 5, 2)), (cX11_findAparts, 72, (.bipush 24, 2)), (cX11_findAparts, 74, (.if_icmp .ge 29, 3)), (cX11_findAparts, 77, (.aload_n 0, 1)), (cX11_findAparts, 78, (.getfield 41, 3)), (cX11_findAparts, 81, (.iload 5, 2)), (cX11_findAparts, 83, (.iload 4, 2)), (cX11_findAparts, 85, (.isub, 1)), (cX11_findAparts, 86, (.dup2, 1)), (cX11_findAparts, 87, (.laload, 1)), (cX11_findAparts, 88, (.aload_n 0, 1)), (cX11_findAparts, 89, (.iload_n 2, 1)), (cX11_findAparts, 90, (.iload 5, 2)), (cX11_findAparts, 92, (.invokevirtual 243, 3)), (cX11_findAparts, 95, (.ladd, 1)), (cX11_findAparts, 96, (.lastore, 1)), (cX11_findAparts, 97, (.iinc 5 1, 3)), (cX11_findAparts, 100, (.goto (-30), 3)), (cX11_findAparts, 103, (.iinc 4 1, 3)), (cX11_findAparts, 106, (.goto (-72), 3)), (cX11_findAparts, 109, (.aload_n 0, 1)), (cX11_findAparts, 110, (.getfield 22, 3)), (cX11_findAparts, 113, (.iload_n 1, 1)), (cX11_findAparts, 114, (.iload_n 3, 1)), (cX11_findAparts, 115, (.iastore, 1)), (cX11_findAparts, 116, (.aload_n 0, 1)), (cX11_findAparts, 117, (.invokevirtual 224, 3)), (cX11_findAparts, 120, (.return_, 1)), (cX11_lacksTwo, 0, (.iload_n 1, 1)), (cX11_lacksTwo, 1, (.invokestatic 160, 3)), (cX11_lacksTwo, 4, (.ifCond .eq 26, 3)), (cX11_lacksTwo, 7, (.aload_n 0, 1)), (cX11_lacksTwo, 8, (.iload_n 1, 1)), (cX11_lacksTwo, 9, (.iload_n 2, 1)), (cX11_lacksTwo, 10, (.invokevirtual 174, 3)), (cX11_lacksTwo, 13, (.ifCond .eq 17, 3)), (cX11_lacksTwo, 16, (.aload_n 0, 1)), (cX11_lacksTwo, 17, (.iload_n 1, 1)), (cX11_lacksTwo, 18, (.iload_n 3, 1))]
theorem dkB02decM1_20 : dkL02decM1_20.all (fun q => decide (decode q.1 q.2.1 = .ok q.2.2)) = true := by decide +kernel
theorem dX11_findAparts_34 : decode cX11_findAparts 34 = .ok (.iload 4, 2) := dk_at dkB02decM1_20 0 rfl
theorem dX11_findAparts_36 : decode cX11_findAparts 36 = .ok (.bipush 24, 2) := dk_at dkB02decM1_20 1 rfl
theorem dX11_findAparts_38 : decode cX11_findAparts 38 = .ok (.if_icmp .ge 71, 3) := dk_at dkB02decM1_20 2 rfl
theorem dX11_findAparts_41 : decode cX11_findAparts 41 = .ok (.aload_n 0, 1) := dk_at dkB02decM1_20 3 rfl
theorem dX11_findAparts_42 : decode cX11_findAparts 42 = .ok (.getfield 22, 3) := dk_at dkB02decM1_20 4 rfl
theorem dX11_findAparts_45 : decode cX11_findAparts 45 = .ok (.iload_n 1, 1) := dk_at dkB02decM1_20 5 rfl
theorem dX11_findAparts_46 : decode cX11_findAparts 46 = .ok (.iload_n 3, 1) := dk_at dkB02decM1_20 6 rfl
theorem dX11_findAparts_47 : decode cX11_findAparts 47 = .ok (.iconst 1, 1) := dk_at dkB02decM1_20 7 rfl
theorem dX11_findAparts_48 : decode cX11_findAparts 48 = .ok (.iload 4, 2) := dk_at dkB02decM1_20 8 rfl
theorem dX11_findAparts_50 : decode cX11_findAparts 50 = .ok (.ishl, 1) := dk_at dkB02decM1_20 9 rfl
theorem dX11_findAparts_51 : decode cX11_findAparts 51 = .ok (.iand, 1) := dk_at dkB02decM1_20 10 rfl
theorem dX11_findAparts_52 : decode cX11_findAparts 52 = .ok (.iastore, 1) := dk_at dkB02decM1_20 11 rfl
theorem dX11_findAparts_53 : decode cX11_findAparts 53 = .ok (.aload_n 0, 1) := dk_at dkB02decM1_20 12 rfl
theorem dX11_findAparts_54 : decode cX11_findAparts 54 = .ok (.getfield 22, 3) := dk_at dkB02decM1_20 13 rfl
theorem dX11_findAparts_57 : decode cX11_findAparts 57 = .ok (.iload_n 1, 1) := dk_at dkB02decM1_20 14 rfl
theorem dX11_findAparts_58 : decode cX11_findAparts 58 = .ok (.iaload, 1) := dk_at dkB02decM1_20 15 rfl
theorem dX11_findAparts_59 : decode cX11_findAparts 59 = .ok (.ifCond .eq 44, 3) := dk_at dkB02decM1_20 16 rfl
theorem dX11_findAparts_62 : decode cX11_findAparts 62 = .ok (.aload_n 0, 1) := dk_at dkB02decM1_20 17 rfl
theorem dX11_findAparts_63 : decode cX11_findAparts 63 = .ok (.invokevirtual 224, 3) := dk_at dkB02decM1_20 18 rfl
theorem dX11_findAparts_66 : decode cX11_findAparts 66 = .ok (.iload 4, 2) := dk_at dkB02decM1_20 19 rfl
theorem dX11_findAparts_68 : decode cX11_findAparts 68 = .ok (.istore 5, 2) := dk_at dkB02decM1_20 20 rfl
theorem dX11_findAparts_70 : decode cX11_findAparts 70 = .ok (.iload 5, 2) := dk_at dkB02decM1_20 21 rfl
theorem dX11_findAparts_72 : decode cX11_findAparts 72 = .ok (.bipush 24, 2) := dk_at dkB02decM1_20 22 rfl
theorem dX11_findAparts_74 : decode cX11_findAparts 74 = .ok (.if_icmp .ge 29, 3) := dk_at dkB02decM1_20 23 rfl
theorem dX11_findAparts_77 : decode cX11_findAparts 77 = .ok (.aload_n 0, 1) := dk_at dkB02decM1_20 24 rfl
theorem dX11_findAparts_78 : decode cX11_findAparts 78 = .ok (.getfield 41, 3) := dk_at dkB02decM1_20 25 rfl
theorem dX11_findAparts_81 : decode cX11_findAparts 81 = .ok (.iload 5, 2) := dk_at dkB02decM1_20 26 rfl
theorem dX11_findAparts_83 : decode cX11_findAparts 83 = .ok (.iload 4, 2) := dk_at dkB02decM1_20 27 rfl
theorem dX11_findAparts_85 : decode cX11_findAparts 85 = .ok (.isub, 1) := dk_at dkB02decM1_20 28 rfl
theorem dX11_findAparts_86 : decode cX11_findAparts 86 = .ok (.dup2, 1) := dk_at dkB02decM1_20 29 rfl
theorem dX11_findAparts_87 : decode cX11_findAparts 87 = .ok (.laload, 1) := dk_at dkB02decM1_20 30 rfl
theorem dX11_findAparts_88 : decode cX11_findAparts 88 = .ok (.aload_n 0, 1) := dk_at dkB02decM1_20 31 rfl
theorem dX11_findAparts_89 : decode cX11_findAparts 89 = .ok (.iload_n 2, 1) := dk_at dkB02decM1_20 32 rfl
theorem dX11_findAparts_90 : decode cX11_findAparts 90 = .ok (.iload 5, 2) := dk_at dkB02decM1_20 33 rfl
theorem dX11_findAparts_92 : decode cX11_findAparts 92 = .ok (.invokevirtual 243, 3) := dk_at dkB02decM1_20 34 rfl
theorem dX11_findAparts_95 : decode cX11_findAparts 95 = .ok (.ladd, 1) := dk_at dkB02decM1_20 35 rfl
theorem dX11_findAparts_96 : decode cX11_findAparts 96 = .ok (.lastore, 1) := dk_at dkB02decM1_20 36 rfl
theorem dX11_findAparts_97 : decode cX11_findAparts 97 = .ok (.iinc 5 1, 3) := dk_at dkB02decM1_20 37 rfl
theorem dX11_findAparts_100 : decode cX11_findAparts 100 = .ok (.goto (-30), 3) := dk_at dkB02decM1_20 38 rfl
theorem dX11_findAparts_103 : decode cX11_findAparts 103 = .ok (.iinc 4 1, 3) := dk_at dkB02decM1_20 39 rfl
theorem dX11_findAparts_106 : decode cX11_findAparts 106 = .ok (.goto (-72), 3) := dk_at dkB02decM1_20 40 rfl
theorem dX11_findAparts_109 : decode cX11_findAparts 109 = .ok (.aload_n 0, 1) := dk_at dkB02decM1_20 41 rfl
theorem dX11_findAparts_110 : decode cX11_findAparts 110 = .ok (.getfield 22, 3) := dk_at dkB02decM1_20 42 rfl
theorem dX11_findAparts_113 : decode cX11_findAparts 113 = .ok (.iload_n 1, 1) := dk_at dkB02decM1_20 43 rfl
theorem dX11_findAparts_114 : decode cX11_findAparts 114 = .ok (.iload_n 3, 1) := dk_at dkB02decM1_20 44 rfl
theorem dX11_findAparts_115 : decode cX11_findAparts 115 = .ok (.iastore, 1) := dk_at dkB02decM1_20 45 rfl
theorem dX11_findAparts_116 : decode cX11_findAparts 116 = .ok (.aload_n 0, 1) := dk_at dkB02decM1_20 46 rfl
theorem dX11_findAparts_117 : decode cX11_findAparts 117 = .ok (.invokevirtual 224, 3) := dk_at dkB02decM1_20 47 rfl
theorem dX11_findAparts_120 : decode cX11_findAparts 120 = .ok (.return_, 1) := dk_at dkB02decM1_20 48 rfl
theorem dX11_lacksTwo_0 : decode cX11_lacksTwo 0 = .ok (.iload_n 1, 1) := dk_at dkB02decM1_20 49 rfl
theorem dX11_lacksTwo_1 : decode cX11_lacksTwo 1 = .ok (.invokestatic 160, 3) := dk_at dkB02decM1_20 50 rfl
theorem dX11_lacksTwo_4 : decode cX11_lacksTwo 4 = .ok (.ifCond .eq 26, 3) := dk_at dkB02decM1_20 51 rfl
theorem dX11_lacksTwo_7 : decode cX11_lacksTwo 7 = .ok (.aload_n 0, 1) := dk_at dkB02decM1_20 52 rfl
theorem dX11_lacksTwo_8 : decode cX11_lacksTwo 8 = .ok (.iload_n 1, 1) := dk_at dkB02decM1_20 53 rfl
theorem dX11_lacksTwo_9 : decode cX11_lacksTwo 9 = .ok (.iload_n 2, 1) := dk_at dkB02decM1_20 54 rfl
theorem dX11_lacksTwo_10 : decode cX11_lacksTwo 10 = .ok (.invokevirtual 174, 3) := dk_at dkB02decM1_20 55 rfl
theorem dX11_lacksTwo_13 : decode cX11_lacksTwo 13 = .ok (.ifCond .eq 17, 3) := dk_at dkB02decM1_20 56 rfl
theorem dX11_lacksTwo_16 : decode cX11_lacksTwo 16 = .ok (.aload_n 0, 1) := dk_at dkB02decM1_20 57 rfl
theorem dX11_lacksTwo_17 : decode cX11_lacksTwo 17 = .ok (.iload_n 1, 1) := dk_at dkB02decM1_20 58 rfl
theorem dX11_lacksTwo_18 : decode cX11_lacksTwo 18 = .ok (.iload_n 3, 1) := dk_at dkB02decM1_20 59 rfl
noncomputable def dkL02decM1_21 : List (ByteArray × Nat × Instr × Nat) := [(cX11_lacksTwo, 19, (.invokevirtual 174, 3)), (cX11_lacksTwo, 22, (.ifCond .eq 8, 3)), (cX11_lacksTwo, 25, (.iload_n 3, 1)), (cX11_lacksTwo, 26, (.iload_n 2, 1)), (cX11_lacksTwo, 27, (.if_icmp .gt 5, 3)), (cX11_lacksTwo, 30, (.iconst (-1), 1)), (cX11_lacksTwo, 31, (.ireturn, 1)), (cX11_lacksTwo, 32, (.aload_n 0, 1)), (cX11_lacksTwo, 33, (.iload_n 1, 1)), (cX11_lacksTwo, 34, (.iload_n 2, 1)), (cX11_lacksTwo, 35, (.invokevirtual 177, 3)), (cX11_lacksTwo, 38, (.iconst 2, 1)), (cX11_lacksTwo, 39, (.if_icmp .eq 13, 3)), (cX11_lacksTwo, 42, (.aload_n 0, 1)), (cX11_lacksTwo, 43, (.iload_n 1, 1)), (cX11_lacksTwo, 44, (.iload_n 3, 1)), (cX11_lacksTwo, 45, (.invokevirtual 177, 3)), (cX11_lacksTwo, 48, (.iconst 2, 1)), (cX11_lacksTwo, 49, (.if_icmp .ne 6, 3)), (cX11_lacksTwo, 52, (.bipush (-12), 2)), (cX11_lacksTwo, 54, (.ireturn, 1)), (cX11_lacksTwo, 55, (.aload_n 0, 1)), (cX11_lacksTwo, 56, (.iload_n 1, 1)), (cX11_lacksTwo, 57, (.invokevirtual 240, 3)), (cX11_lacksTwo, 60, (.aload_n 0, 1)), (cX11_lacksTwo, 61, (.getfield 217, 3)), (cX11_lacksTwo, 64, (.lconst 0, 1)), (cX11_lacksTwo, 65, (.lcmp, 1)), (cX11_lacksTwo, 66, (.ifCond .ne 8, 3)), (cX11_lacksTwo, 69, (.bipush (-4), 2)), (cX11_lacksTwo, 71, (.goto 4, 3)), (cX11_lacksTwo, 74, (.iconst 0, 1)), (cX11_lacksTwo, 75, (.ireturn, 1)), (cX11_span, 0, (.iload 4, 2)), (cX11_span, 2, (.i2l, 1)), (cX11_span, 3, (.lconst 0, 1)), (cX11_span, 4, (.lconst 1, 1)), (cX11_span, 5, (.invokestatic 70, 3)), (cX11_span, 8, (.ifCond .ne 5, 3)), (cX11_span, 11, (.iconst (-1), 1)), (cX11_span, 12, (.ireturn, 1)), (cX11_span, 13, (.aload_n 0, 1)), (cX11_span, 14, (.iload_n 1, 1)), (cX11_span, 15, (.iload_n 2, 1)), (cX11_span, 16, (.iload_n 3, 1)), (cX11_span, 17, (.invokevirtual 261, 3)), (cX11_span, 20, (.istore 5, 2)), (cX11_span, 22, (.iload 5, 2)), (cX11_span, 24, (.ifCond .ge 6, 3)), (cX11_span, 27, (.iload 5, 2)), (cX11_span, 29, (.ireturn, 1)), (cX11_span, 30, (.aload_n 0, 1)), (cX11_span, 31, (.aload_n 0, 1)), (cX11_span, 32, (.iload_n 2, 1)), (cX11_span, 33, (.invokevirtual 206, 3)), (cX11_span, 36, (.aload_n 0, 1)), (cX11_span, 37, (.iload_n 3, 1)), (cX11_span, 38, (.invokevirtual 206, 3)), (cX11_span, 41, (.invokevirtual 264, 3)), (cX11_span, 44, (.bipush (-4), 2))]
theorem dkB02decM1_21 : dkL02decM1_21.all (fun q => decide (decode q.1 q.2.1 = .ok q.2.2)) = true := by decide +kernel
theorem dX11_lacksTwo_19 : decode cX11_lacksTwo 19 = .ok (.invokevirtual 174, 3) := dk_at dkB02decM1_21 0 rfl
theorem dX11_lacksTwo_22 : decode cX11_lacksTwo 22 = .ok (.ifCond .eq 8, 3) := dk_at dkB02decM1_21 1 rfl
theorem dX11_lacksTwo_25 : decode cX11_lacksTwo 25 = .ok (.iload_n 3, 1) := dk_at dkB02decM1_21 2 rfl
theorem dX11_lacksTwo_26 : decode cX11_lacksTwo 26 = .ok (.iload_n 2, 1) := dk_at dkB02decM1_21 3 rfl
theorem dX11_lacksTwo_27 : decode cX11_lacksTwo 27 = .ok (.if_icmp .gt 5, 3) := dk_at dkB02decM1_21 4 rfl
theorem dX11_lacksTwo_30 : decode cX11_lacksTwo 30 = .ok (.iconst (-1), 1) := dk_at dkB02decM1_21 5 rfl
theorem dX11_lacksTwo_31 : decode cX11_lacksTwo 31 = .ok (.ireturn, 1) := dk_at dkB02decM1_21 6 rfl
theorem dX11_lacksTwo_32 : decode cX11_lacksTwo 32 = .ok (.aload_n 0, 1) := dk_at dkB02decM1_21 7 rfl
theorem dX11_lacksTwo_33 : decode cX11_lacksTwo 33 = .ok (.iload_n 1, 1) := dk_at dkB02decM1_21 8 rfl
theorem dX11_lacksTwo_34 : decode cX11_lacksTwo 34 = .ok (.iload_n 2, 1) := dk_at dkB02decM1_21 9 rfl
theorem dX11_lacksTwo_35 : decode cX11_lacksTwo 35 = .ok (.invokevirtual 177, 3) := dk_at dkB02decM1_21 10 rfl
theorem dX11_lacksTwo_38 : decode cX11_lacksTwo 38 = .ok (.iconst 2, 1) := dk_at dkB02decM1_21 11 rfl
theorem dX11_lacksTwo_39 : decode cX11_lacksTwo 39 = .ok (.if_icmp .eq 13, 3) := dk_at dkB02decM1_21 12 rfl
theorem dX11_lacksTwo_42 : decode cX11_lacksTwo 42 = .ok (.aload_n 0, 1) := dk_at dkB02decM1_21 13 rfl
theorem dX11_lacksTwo_43 : decode cX11_lacksTwo 43 = .ok (.iload_n 1, 1) := dk_at dkB02decM1_21 14 rfl
theorem dX11_lacksTwo_44 : decode cX11_lacksTwo 44 = .ok (.iload_n 3, 1) := dk_at dkB02decM1_21 15 rfl
theorem dX11_lacksTwo_45 : decode cX11_lacksTwo 45 = .ok (.invokevirtual 177, 3) := dk_at dkB02decM1_21 16 rfl
theorem dX11_lacksTwo_48 : decode cX11_lacksTwo 48 = .ok (.iconst 2, 1) := dk_at dkB02decM1_21 17 rfl
theorem dX11_lacksTwo_49 : decode cX11_lacksTwo 49 = .ok (.if_icmp .ne 6, 3) := dk_at dkB02decM1_21 18 rfl
theorem dX11_lacksTwo_52 : decode cX11_lacksTwo 52 = .ok (.bipush (-12), 2) := dk_at dkB02decM1_21 19 rfl
theorem dX11_lacksTwo_54 : decode cX11_lacksTwo 54 = .ok (.ireturn, 1) := dk_at dkB02decM1_21 20 rfl
theorem dX11_lacksTwo_55 : decode cX11_lacksTwo 55 = .ok (.aload_n 0, 1) := dk_at dkB02decM1_21 21 rfl
theorem dX11_lacksTwo_56 : decode cX11_lacksTwo 56 = .ok (.iload_n 1, 1) := dk_at dkB02decM1_21 22 rfl
theorem dX11_lacksTwo_57 : decode cX11_lacksTwo 57 = .ok (.invokevirtual 240, 3) := dk_at dkB02decM1_21 23 rfl
theorem dX11_lacksTwo_60 : decode cX11_lacksTwo 60 = .ok (.aload_n 0, 1) := dk_at dkB02decM1_21 24 rfl
theorem dX11_lacksTwo_61 : decode cX11_lacksTwo 61 = .ok (.getfield 217, 3) := dk_at dkB02decM1_21 25 rfl
theorem dX11_lacksTwo_64 : decode cX11_lacksTwo 64 = .ok (.lconst 0, 1) := dk_at dkB02decM1_21 26 rfl
theorem dX11_lacksTwo_65 : decode cX11_lacksTwo 65 = .ok (.lcmp, 1) := dk_at dkB02decM1_21 27 rfl
theorem dX11_lacksTwo_66 : decode cX11_lacksTwo 66 = .ok (.ifCond .ne 8, 3) := dk_at dkB02decM1_21 28 rfl
theorem dX11_lacksTwo_69 : decode cX11_lacksTwo 69 = .ok (.bipush (-4), 2) := dk_at dkB02decM1_21 29 rfl
theorem dX11_lacksTwo_71 : decode cX11_lacksTwo 71 = .ok (.goto 4, 3) := dk_at dkB02decM1_21 30 rfl
theorem dX11_lacksTwo_74 : decode cX11_lacksTwo 74 = .ok (.iconst 0, 1) := dk_at dkB02decM1_21 31 rfl
theorem dX11_lacksTwo_75 : decode cX11_lacksTwo 75 = .ok (.ireturn, 1) := dk_at dkB02decM1_21 32 rfl
theorem dX11_span_0 : decode cX11_span 0 = .ok (.iload 4, 2) := dk_at dkB02decM1_21 33 rfl
theorem dX11_span_2 : decode cX11_span 2 = .ok (.i2l, 1) := dk_at dkB02decM1_21 34 rfl
theorem dX11_span_3 : decode cX11_span 3 = .ok (.lconst 0, 1) := dk_at dkB02decM1_21 35 rfl
theorem dX11_span_4 : decode cX11_span 4 = .ok (.lconst 1, 1) := dk_at dkB02decM1_21 36 rfl
theorem dX11_span_5 : decode cX11_span 5 = .ok (.invokestatic 70, 3) := dk_at dkB02decM1_21 37 rfl
theorem dX11_span_8 : decode cX11_span 8 = .ok (.ifCond .ne 5, 3) := dk_at dkB02decM1_21 38 rfl
theorem dX11_span_11 : decode cX11_span 11 = .ok (.iconst (-1), 1) := dk_at dkB02decM1_21 39 rfl
theorem dX11_span_12 : decode cX11_span 12 = .ok (.ireturn, 1) := dk_at dkB02decM1_21 40 rfl
theorem dX11_span_13 : decode cX11_span 13 = .ok (.aload_n 0, 1) := dk_at dkB02decM1_21 41 rfl
theorem dX11_span_14 : decode cX11_span 14 = .ok (.iload_n 1, 1) := dk_at dkB02decM1_21 42 rfl
theorem dX11_span_15 : decode cX11_span 15 = .ok (.iload_n 2, 1) := dk_at dkB02decM1_21 43 rfl
theorem dX11_span_16 : decode cX11_span 16 = .ok (.iload_n 3, 1) := dk_at dkB02decM1_21 44 rfl
theorem dX11_span_17 : decode cX11_span 17 = .ok (.invokevirtual 261, 3) := dk_at dkB02decM1_21 45 rfl
theorem dX11_span_20 : decode cX11_span 20 = .ok (.istore 5, 2) := dk_at dkB02decM1_21 46 rfl
theorem dX11_span_22 : decode cX11_span 22 = .ok (.iload 5, 2) := dk_at dkB02decM1_21 47 rfl
theorem dX11_span_24 : decode cX11_span 24 = .ok (.ifCond .ge 6, 3) := dk_at dkB02decM1_21 48 rfl
theorem dX11_span_27 : decode cX11_span 27 = .ok (.iload 5, 2) := dk_at dkB02decM1_21 49 rfl
theorem dX11_span_29 : decode cX11_span 29 = .ok (.ireturn, 1) := dk_at dkB02decM1_21 50 rfl
theorem dX11_span_30 : decode cX11_span 30 = .ok (.aload_n 0, 1) := dk_at dkB02decM1_21 51 rfl
theorem dX11_span_31 : decode cX11_span 31 = .ok (.aload_n 0, 1) := dk_at dkB02decM1_21 52 rfl
theorem dX11_span_32 : decode cX11_span 32 = .ok (.iload_n 2, 1) := dk_at dkB02decM1_21 53 rfl
theorem dX11_span_33 : decode cX11_span 33 = .ok (.invokevirtual 206, 3) := dk_at dkB02decM1_21 54 rfl
theorem dX11_span_36 : decode cX11_span 36 = .ok (.aload_n 0, 1) := dk_at dkB02decM1_21 55 rfl
theorem dX11_span_37 : decode cX11_span 37 = .ok (.iload_n 3, 1) := dk_at dkB02decM1_21 56 rfl
theorem dX11_span_38 : decode cX11_span 38 = .ok (.invokevirtual 206, 3) := dk_at dkB02decM1_21 57 rfl
theorem dX11_span_41 : decode cX11_span 41 = .ok (.invokevirtual 264, 3) := dk_at dkB02decM1_21 58 rfl
theorem dX11_span_44 : decode cX11_span 44 = .ok (.bipush (-4), 2) := dk_at dkB02decM1_21 59 rfl
noncomputable def dkL02decM1_22 : List (ByteArray × Nat × Instr × Nat) := [(cX11_span, 46, (.istore 6, 2)), (cX11_span, 48, (.iconst 0, 1)), (cX11_span, 49, (.istore 7, 2)), (cX11_span, 51, (.iload 7, 2)), (cX11_span, 53, (.bipush 24, 2)), (cX11_span, 55, (.if_icmp .ge 47, 3)), (cX11_span, 58, (.iload 4, 2)), (cX11_span, 60, (.ifCond .ne 11, 3)), (cX11_span, 63, (.bipush 23, 2)), (cX11_span, 65, (.iload 7, 2)), (cX11_span, 67, (.isub, 1)), (cX11_span, 68, (.goto 5, 3)), (cX11_span, 71, (.iload 7, 2)), (cX11_span, 73, (.istore 8, 2)), (cX11_span, 75, (.aload_n 0, 1)), (cX11_span, 76, (.getfield 41, 3)), (cX11_span, 79, (.iload 8, 2)), (cX11_span, 81, (.laload, 1)), (cX11_span, 82, (.lconst 0, 1)), (cX11_span, 83, (.lcmp, 1)), (cX11_span, 84, (.ifCond .le 8, 3)), (cX11_span, 87, (.iload 8, 2)), (cX11_span, 89, (.goto 5, 3)), (cX11_span, 92, (.iload 6, 2)), (cX11_span, 94, (.istore 6, 2)), (cX11_span, 96, (.iinc 7 1, 3)), (cX11_span, 99, (.goto (-48), 3)), (cX11_span, 102, (.iload 6, 2)), (cX11_span, 104, (.ireturn, 1)), (cX11_apart, 0, (.iload 4, 2)), (cX11_apart, 2, (.invokestatic 80, 3)), (cX11_apart, 5, (.ifCond .eq 14, 3)), (cX11_apart, 8, (.iload 5, 2)), (cX11_apart, 10, (.i2l, 1)), (cX11_apart, 11, (.lconst 0, 1)), (cX11_apart, 12, (.lconst 1, 1)), (cX11_apart, 13, (.invokestatic 70, 3)), (cX11_apart, 16, (.ifCond .ne 7, 3)), (cX11_apart, 19, (.ldc2_w 236, 3)), (cX11_apart, 22, (.lreturn, 1)), (cX11_apart, 23, (.aload_n 0, 1)), (cX11_apart, 24, (.iload_n 1, 1)), (cX11_apart, 25, (.iload_n 2, 1)), (cX11_apart, 26, (.iload_n 3, 1)), (cX11_apart, 27, (.invokevirtual 261, 3)), (cX11_apart, 30, (.istore 6, 2)), (cX11_apart, 32, (.iload 6, 2)), (cX11_apart, 34, (.ifCond .ge 7, 3)), (cX11_apart, 37, (.iload 6, 2)), (cX11_apart, 39, (.i2l, 1)), (cX11_apart, 40, (.lreturn, 1)), (cX11_apart, 41, (.aload_n 0, 1)), (cX11_apart, 42, (.aload_n 0, 1)), (cX11_apart, 43, (.iload_n 2, 1)), (cX11_apart, 44, (.invokevirtual 206, 3)), (cX11_apart, 47, (.aload_n 0, 1)), (cX11_apart, 48, (.iload_n 3, 1)), (cX11_apart, 49, (.invokevirtual 206, 3)), (cX11_apart, 52, (.invokevirtual 264, 3)), (cX11_apart, 55, (.lconst 0, 1))]
theorem dkB02decM1_22 : dkL02decM1_22.all (fun q => decide (decode q.1 q.2.1 = .ok q.2.2)) = true := by decide +kernel
theorem dX11_span_46 : decode cX11_span 46 = .ok (.istore 6, 2) := dk_at dkB02decM1_22 0 rfl
theorem dX11_span_48 : decode cX11_span 48 = .ok (.iconst 0, 1) := dk_at dkB02decM1_22 1 rfl
theorem dX11_span_49 : decode cX11_span 49 = .ok (.istore 7, 2) := dk_at dkB02decM1_22 2 rfl
theorem dX11_span_51 : decode cX11_span 51 = .ok (.iload 7, 2) := dk_at dkB02decM1_22 3 rfl
theorem dX11_span_53 : decode cX11_span 53 = .ok (.bipush 24, 2) := dk_at dkB02decM1_22 4 rfl
theorem dX11_span_55 : decode cX11_span 55 = .ok (.if_icmp .ge 47, 3) := dk_at dkB02decM1_22 5 rfl
theorem dX11_span_58 : decode cX11_span 58 = .ok (.iload 4, 2) := dk_at dkB02decM1_22 6 rfl
theorem dX11_span_60 : decode cX11_span 60 = .ok (.ifCond .ne 11, 3) := dk_at dkB02decM1_22 7 rfl
theorem dX11_span_63 : decode cX11_span 63 = .ok (.bipush 23, 2) := dk_at dkB02decM1_22 8 rfl
theorem dX11_span_65 : decode cX11_span 65 = .ok (.iload 7, 2) := dk_at dkB02decM1_22 9 rfl
theorem dX11_span_67 : decode cX11_span 67 = .ok (.isub, 1) := dk_at dkB02decM1_22 10 rfl
theorem dX11_span_68 : decode cX11_span 68 = .ok (.goto 5, 3) := dk_at dkB02decM1_22 11 rfl
theorem dX11_span_71 : decode cX11_span 71 = .ok (.iload 7, 2) := dk_at dkB02decM1_22 12 rfl
theorem dX11_span_73 : decode cX11_span 73 = .ok (.istore 8, 2) := dk_at dkB02decM1_22 13 rfl
theorem dX11_span_75 : decode cX11_span 75 = .ok (.aload_n 0, 1) := dk_at dkB02decM1_22 14 rfl
theorem dX11_span_76 : decode cX11_span 76 = .ok (.getfield 41, 3) := dk_at dkB02decM1_22 15 rfl
theorem dX11_span_79 : decode cX11_span 79 = .ok (.iload 8, 2) := dk_at dkB02decM1_22 16 rfl
theorem dX11_span_81 : decode cX11_span 81 = .ok (.laload, 1) := dk_at dkB02decM1_22 17 rfl
theorem dX11_span_82 : decode cX11_span 82 = .ok (.lconst 0, 1) := dk_at dkB02decM1_22 18 rfl
theorem dX11_span_83 : decode cX11_span 83 = .ok (.lcmp, 1) := dk_at dkB02decM1_22 19 rfl
theorem dX11_span_84 : decode cX11_span 84 = .ok (.ifCond .le 8, 3) := dk_at dkB02decM1_22 20 rfl
theorem dX11_span_87 : decode cX11_span 87 = .ok (.iload 8, 2) := dk_at dkB02decM1_22 21 rfl
theorem dX11_span_89 : decode cX11_span 89 = .ok (.goto 5, 3) := dk_at dkB02decM1_22 22 rfl
theorem dX11_span_92 : decode cX11_span 92 = .ok (.iload 6, 2) := dk_at dkB02decM1_22 23 rfl
theorem dX11_span_94 : decode cX11_span 94 = .ok (.istore 6, 2) := dk_at dkB02decM1_22 24 rfl
theorem dX11_span_96 : decode cX11_span 96 = .ok (.iinc 7 1, 3) := dk_at dkB02decM1_22 25 rfl
theorem dX11_span_99 : decode cX11_span 99 = .ok (.goto (-48), 3) := dk_at dkB02decM1_22 26 rfl
theorem dX11_span_102 : decode cX11_span 102 = .ok (.iload 6, 2) := dk_at dkB02decM1_22 27 rfl
theorem dX11_span_104 : decode cX11_span 104 = .ok (.ireturn, 1) := dk_at dkB02decM1_22 28 rfl
theorem dX11_apart_0 : decode cX11_apart 0 = .ok (.iload 4, 2) := dk_at dkB02decM1_22 29 rfl
theorem dX11_apart_2 : decode cX11_apart 2 = .ok (.invokestatic 80, 3) := dk_at dkB02decM1_22 30 rfl
theorem dX11_apart_5 : decode cX11_apart 5 = .ok (.ifCond .eq 14, 3) := dk_at dkB02decM1_22 31 rfl
theorem dX11_apart_8 : decode cX11_apart 8 = .ok (.iload 5, 2) := dk_at dkB02decM1_22 32 rfl
theorem dX11_apart_10 : decode cX11_apart 10 = .ok (.i2l, 1) := dk_at dkB02decM1_22 33 rfl
theorem dX11_apart_11 : decode cX11_apart 11 = .ok (.lconst 0, 1) := dk_at dkB02decM1_22 34 rfl
theorem dX11_apart_12 : decode cX11_apart 12 = .ok (.lconst 1, 1) := dk_at dkB02decM1_22 35 rfl
theorem dX11_apart_13 : decode cX11_apart 13 = .ok (.invokestatic 70, 3) := dk_at dkB02decM1_22 36 rfl
theorem dX11_apart_16 : decode cX11_apart 16 = .ok (.ifCond .ne 7, 3) := dk_at dkB02decM1_22 37 rfl
theorem dX11_apart_19 : decode cX11_apart 19 = .ok (.ldc2_w 236, 3) := dk_at dkB02decM1_22 38 rfl
theorem dX11_apart_22 : decode cX11_apart 22 = .ok (.lreturn, 1) := dk_at dkB02decM1_22 39 rfl
theorem dX11_apart_23 : decode cX11_apart 23 = .ok (.aload_n 0, 1) := dk_at dkB02decM1_22 40 rfl
theorem dX11_apart_24 : decode cX11_apart 24 = .ok (.iload_n 1, 1) := dk_at dkB02decM1_22 41 rfl
theorem dX11_apart_25 : decode cX11_apart 25 = .ok (.iload_n 2, 1) := dk_at dkB02decM1_22 42 rfl
theorem dX11_apart_26 : decode cX11_apart 26 = .ok (.iload_n 3, 1) := dk_at dkB02decM1_22 43 rfl
theorem dX11_apart_27 : decode cX11_apart 27 = .ok (.invokevirtual 261, 3) := dk_at dkB02decM1_22 44 rfl
theorem dX11_apart_30 : decode cX11_apart 30 = .ok (.istore 6, 2) := dk_at dkB02decM1_22 45 rfl
theorem dX11_apart_32 : decode cX11_apart 32 = .ok (.iload 6, 2) := dk_at dkB02decM1_22 46 rfl
theorem dX11_apart_34 : decode cX11_apart 34 = .ok (.ifCond .ge 7, 3) := dk_at dkB02decM1_22 47 rfl
theorem dX11_apart_37 : decode cX11_apart 37 = .ok (.iload 6, 2) := dk_at dkB02decM1_22 48 rfl
theorem dX11_apart_39 : decode cX11_apart 39 = .ok (.i2l, 1) := dk_at dkB02decM1_22 49 rfl
theorem dX11_apart_40 : decode cX11_apart 40 = .ok (.lreturn, 1) := dk_at dkB02decM1_22 50 rfl
theorem dX11_apart_41 : decode cX11_apart 41 = .ok (.aload_n 0, 1) := dk_at dkB02decM1_22 51 rfl
theorem dX11_apart_42 : decode cX11_apart 42 = .ok (.aload_n 0, 1) := dk_at dkB02decM1_22 52 rfl
theorem dX11_apart_43 : decode cX11_apart 43 = .ok (.iload_n 2, 1) := dk_at dkB02decM1_22 53 rfl
theorem dX11_apart_44 : decode cX11_apart 44 = .ok (.invokevirtual 206, 3) := dk_at dkB02decM1_22 54 rfl
theorem dX11_apart_47 : decode cX11_apart 47 = .ok (.aload_n 0, 1) := dk_at dkB02decM1_22 55 rfl
theorem dX11_apart_48 : decode cX11_apart 48 = .ok (.iload_n 3, 1) := dk_at dkB02decM1_22 56 rfl
theorem dX11_apart_49 : decode cX11_apart 49 = .ok (.invokevirtual 206, 3) := dk_at dkB02decM1_22 57 rfl
theorem dX11_apart_52 : decode cX11_apart 52 = .ok (.invokevirtual 264, 3) := dk_at dkB02decM1_22 58 rfl
theorem dX11_apart_55 : decode cX11_apart 55 = .ok (.lconst 0, 1) := dk_at dkB02decM1_22 59 rfl
noncomputable def dkL02decM1_23 : List (ByteArray × Nat × Instr × Nat) := [(cX11_apart, 56, (.lstore 7, 2)), (cX11_apart, 58, (.iload 4, 2)), (cX11_apart, 60, (.istore 9, 2)), (cX11_apart, 62, (.iload 9, 2)), (cX11_apart, 64, (.bipush 24, 2)), (cX11_apart, 66, (.if_icmp .ge 21, 3)), (cX11_apart, 69, (.lload 7, 2)), (cX11_apart, 71, (.aload_n 0, 1)), (cX11_apart, 72, (.getfield 41, 3)), (cX11_apart, 75, (.iload 9, 2)), (cX11_apart, 77, (.laload, 1)), (cX11_apart, 78, (.ladd, 1)), (cX11_apart, 79, (.lstore 7, 2)), (cX11_apart, 81, (.iinc 9 1, 3)), (cX11_apart, 84, (.goto (-22), 3)), (cX11_apart, 87, (.lload 7, 2)), (cX11_apart, 89, (.aload_n 0, 1)), (cX11_apart, 90, (.getfield 217, 3)), (cX11_apart, 93, (.iload 5, 2)), (cX11_apart, 95, (.invokestatic 257, 3)), (cX11_apart, 98, (.lreturn, 1)), (cX11_lacksAny, 0, (.aload_n 0, 1)), (cX11_lacksAny, 1, (.iload_n 1, 1)), (cX11_lacksAny, 2, (.invokevirtual 189, 3)), (cX11_lacksAny, 5, (.ifCond .ne 6, 3)), (cX11_lacksAny, 8, (.bipush (-2), 2)), (cX11_lacksAny, 10, (.ireturn, 1)), (cX11_lacksAny, 11, (.aload_n 0, 1)), (cX11_lacksAny, 12, (.iload_n 1, 1)), (cX11_lacksAny, 13, (.invokevirtual 240, 3)), (cX11_lacksAny, 16, (.aload_n 0, 1)), (cX11_lacksAny, 17, (.getfield 217, 3)), (cX11_lacksAny, 20, (.lconst 0, 1)), (cX11_lacksAny, 21, (.lcmp, 1)), (cX11_lacksAny, 22, (.ifCond .ne 8, 3)), (cX11_lacksAny, 25, (.bipush (-4), 2)), (cX11_lacksAny, 27, (.goto 4, 3)), (cX11_lacksAny, 30, (.iconst 0, 1)), (cX11_lacksAny, 31, (.ireturn, 1)), (cX11_next, 0, (.iload_n 1, 1)), (cX11_next, 1, (.invokestatic 160, 3)), (cX11_next, 4, (.ifCond .eq 13, 3)), (cX11_next, 7, (.iload_n 2, 1)), (cX11_next, 8, (.i2l, 1)), (cX11_next, 9, (.lconst 0, 1)), (cX11_next, 10, (.lconst 1, 1)), (cX11_next, 11, (.invokestatic 70, 3)), (cX11_next, 14, (.ifCond .ne 7, 3)), (cX11_next, 17, (.ldc2_w 236, 3)), (cX11_next, 20, (.lreturn, 1)), (cX11_next, 21, (.aload_n 0, 1)), (cX11_next, 22, (.iload_n 1, 1)), (cX11_next, 23, (.invokevirtual 267, 3)), (cX11_next, 26, (.istore_n 3, 1)), (cX11_next, 27, (.iload_n 3, 1)), (cX11_next, 28, (.ifCond .ge 6, 3)), (cX11_next, 31, (.iload_n 3, 1)), (cX11_next, 32, (.i2l, 1)), (cX11_next, 33, (.lreturn, 1)), (cX11_next, 34, (.iconst 0, 1))]
theorem dkB02decM1_23 : dkL02decM1_23.all (fun q => decide (decode q.1 q.2.1 = .ok q.2.2)) = true := by decide +kernel
theorem dX11_apart_56 : decode cX11_apart 56 = .ok (.lstore 7, 2) := dk_at dkB02decM1_23 0 rfl
theorem dX11_apart_58 : decode cX11_apart 58 = .ok (.iload 4, 2) := dk_at dkB02decM1_23 1 rfl
theorem dX11_apart_60 : decode cX11_apart 60 = .ok (.istore 9, 2) := dk_at dkB02decM1_23 2 rfl
theorem dX11_apart_62 : decode cX11_apart 62 = .ok (.iload 9, 2) := dk_at dkB02decM1_23 3 rfl
theorem dX11_apart_64 : decode cX11_apart 64 = .ok (.bipush 24, 2) := dk_at dkB02decM1_23 4 rfl
theorem dX11_apart_66 : decode cX11_apart 66 = .ok (.if_icmp .ge 21, 3) := dk_at dkB02decM1_23 5 rfl
theorem dX11_apart_69 : decode cX11_apart 69 = .ok (.lload 7, 2) := dk_at dkB02decM1_23 6 rfl
theorem dX11_apart_71 : decode cX11_apart 71 = .ok (.aload_n 0, 1) := dk_at dkB02decM1_23 7 rfl
theorem dX11_apart_72 : decode cX11_apart 72 = .ok (.getfield 41, 3) := dk_at dkB02decM1_23 8 rfl
theorem dX11_apart_75 : decode cX11_apart 75 = .ok (.iload 9, 2) := dk_at dkB02decM1_23 9 rfl
theorem dX11_apart_77 : decode cX11_apart 77 = .ok (.laload, 1) := dk_at dkB02decM1_23 10 rfl
theorem dX11_apart_78 : decode cX11_apart 78 = .ok (.ladd, 1) := dk_at dkB02decM1_23 11 rfl
theorem dX11_apart_79 : decode cX11_apart 79 = .ok (.lstore 7, 2) := dk_at dkB02decM1_23 12 rfl
theorem dX11_apart_81 : decode cX11_apart 81 = .ok (.iinc 9 1, 3) := dk_at dkB02decM1_23 13 rfl
theorem dX11_apart_84 : decode cX11_apart 84 = .ok (.goto (-22), 3) := dk_at dkB02decM1_23 14 rfl
theorem dX11_apart_87 : decode cX11_apart 87 = .ok (.lload 7, 2) := dk_at dkB02decM1_23 15 rfl
theorem dX11_apart_89 : decode cX11_apart 89 = .ok (.aload_n 0, 1) := dk_at dkB02decM1_23 16 rfl
theorem dX11_apart_90 : decode cX11_apart 90 = .ok (.getfield 217, 3) := dk_at dkB02decM1_23 17 rfl
theorem dX11_apart_93 : decode cX11_apart 93 = .ok (.iload 5, 2) := dk_at dkB02decM1_23 18 rfl
theorem dX11_apart_95 : decode cX11_apart 95 = .ok (.invokestatic 257, 3) := dk_at dkB02decM1_23 19 rfl
theorem dX11_apart_98 : decode cX11_apart 98 = .ok (.lreturn, 1) := dk_at dkB02decM1_23 20 rfl
theorem dX11_lacksAny_0 : decode cX11_lacksAny 0 = .ok (.aload_n 0, 1) := dk_at dkB02decM1_23 21 rfl
theorem dX11_lacksAny_1 : decode cX11_lacksAny 1 = .ok (.iload_n 1, 1) := dk_at dkB02decM1_23 22 rfl
theorem dX11_lacksAny_2 : decode cX11_lacksAny 2 = .ok (.invokevirtual 189, 3) := dk_at dkB02decM1_23 23 rfl
theorem dX11_lacksAny_5 : decode cX11_lacksAny 5 = .ok (.ifCond .ne 6, 3) := dk_at dkB02decM1_23 24 rfl
theorem dX11_lacksAny_8 : decode cX11_lacksAny 8 = .ok (.bipush (-2), 2) := dk_at dkB02decM1_23 25 rfl
theorem dX11_lacksAny_10 : decode cX11_lacksAny 10 = .ok (.ireturn, 1) := dk_at dkB02decM1_23 26 rfl
theorem dX11_lacksAny_11 : decode cX11_lacksAny 11 = .ok (.aload_n 0, 1) := dk_at dkB02decM1_23 27 rfl
theorem dX11_lacksAny_12 : decode cX11_lacksAny 12 = .ok (.iload_n 1, 1) := dk_at dkB02decM1_23 28 rfl
theorem dX11_lacksAny_13 : decode cX11_lacksAny 13 = .ok (.invokevirtual 240, 3) := dk_at dkB02decM1_23 29 rfl
theorem dX11_lacksAny_16 : decode cX11_lacksAny 16 = .ok (.aload_n 0, 1) := dk_at dkB02decM1_23 30 rfl
theorem dX11_lacksAny_17 : decode cX11_lacksAny 17 = .ok (.getfield 217, 3) := dk_at dkB02decM1_23 31 rfl
theorem dX11_lacksAny_20 : decode cX11_lacksAny 20 = .ok (.lconst 0, 1) := dk_at dkB02decM1_23 32 rfl
theorem dX11_lacksAny_21 : decode cX11_lacksAny 21 = .ok (.lcmp, 1) := dk_at dkB02decM1_23 33 rfl
theorem dX11_lacksAny_22 : decode cX11_lacksAny 22 = .ok (.ifCond .ne 8, 3) := dk_at dkB02decM1_23 34 rfl
theorem dX11_lacksAny_25 : decode cX11_lacksAny 25 = .ok (.bipush (-4), 2) := dk_at dkB02decM1_23 35 rfl
theorem dX11_lacksAny_27 : decode cX11_lacksAny 27 = .ok (.goto 4, 3) := dk_at dkB02decM1_23 36 rfl
theorem dX11_lacksAny_30 : decode cX11_lacksAny 30 = .ok (.iconst 0, 1) := dk_at dkB02decM1_23 37 rfl
theorem dX11_lacksAny_31 : decode cX11_lacksAny 31 = .ok (.ireturn, 1) := dk_at dkB02decM1_23 38 rfl
theorem dX11_next_0 : decode cX11_next 0 = .ok (.iload_n 1, 1) := dk_at dkB02decM1_23 39 rfl
theorem dX11_next_1 : decode cX11_next 1 = .ok (.invokestatic 160, 3) := dk_at dkB02decM1_23 40 rfl
theorem dX11_next_4 : decode cX11_next 4 = .ok (.ifCond .eq 13, 3) := dk_at dkB02decM1_23 41 rfl
theorem dX11_next_7 : decode cX11_next 7 = .ok (.iload_n 2, 1) := dk_at dkB02decM1_23 42 rfl
theorem dX11_next_8 : decode cX11_next 8 = .ok (.i2l, 1) := dk_at dkB02decM1_23 43 rfl
theorem dX11_next_9 : decode cX11_next 9 = .ok (.lconst 0, 1) := dk_at dkB02decM1_23 44 rfl
theorem dX11_next_10 : decode cX11_next 10 = .ok (.lconst 1, 1) := dk_at dkB02decM1_23 45 rfl
theorem dX11_next_11 : decode cX11_next 11 = .ok (.invokestatic 70, 3) := dk_at dkB02decM1_23 46 rfl
theorem dX11_next_14 : decode cX11_next 14 = .ok (.ifCond .ne 7, 3) := dk_at dkB02decM1_23 47 rfl
theorem dX11_next_17 : decode cX11_next 17 = .ok (.ldc2_w 236, 3) := dk_at dkB02decM1_23 48 rfl
theorem dX11_next_20 : decode cX11_next 20 = .ok (.lreturn, 1) := dk_at dkB02decM1_23 49 rfl
theorem dX11_next_21 : decode cX11_next 21 = .ok (.aload_n 0, 1) := dk_at dkB02decM1_23 50 rfl
theorem dX11_next_22 : decode cX11_next 22 = .ok (.iload_n 1, 1) := dk_at dkB02decM1_23 51 rfl
theorem dX11_next_23 : decode cX11_next 23 = .ok (.invokevirtual 267, 3) := dk_at dkB02decM1_23 52 rfl
theorem dX11_next_26 : decode cX11_next 26 = .ok (.istore_n 3, 1) := dk_at dkB02decM1_23 53 rfl
theorem dX11_next_27 : decode cX11_next 27 = .ok (.iload_n 3, 1) := dk_at dkB02decM1_23 54 rfl
theorem dX11_next_28 : decode cX11_next 28 = .ok (.ifCond .ge 6, 3) := dk_at dkB02decM1_23 55 rfl
theorem dX11_next_31 : decode cX11_next 31 = .ok (.iload_n 3, 1) := dk_at dkB02decM1_23 56 rfl
theorem dX11_next_32 : decode cX11_next 32 = .ok (.i2l, 1) := dk_at dkB02decM1_23 57 rfl
theorem dX11_next_33 : decode cX11_next 33 = .ok (.lreturn, 1) := dk_at dkB02decM1_23 58 rfl
theorem dX11_next_34 : decode cX11_next 34 = .ok (.iconst 0, 1) := dk_at dkB02decM1_23 59 rfl
noncomputable def dkL02decM1_24 : List (ByteArray × Nat × Instr × Nat) := [(cX11_next, 35, (.istore 4, 2)), (cX11_next, 37, (.lconst 0, 1)), (cX11_next, 38, (.lstore 5, 2)), (cX11_next, 40, (.iconst 0, 1)), (cX11_next, 41, (.istore 7, 2)), (cX11_next, 43, (.iload 7, 2)), (cX11_next, 45, (.aload_n 0, 1)), (cX11_next, 46, (.getfield 192, 3)), (cX11_next, 49, (.if_icmp .ge 78, 3)), (cX11_next, 52, (.lconst 0, 1)), (cX11_next, 53, (.lstore 8, 2)), (cX11_next, 55, (.iconst 0, 1)), (cX11_next, 56, (.istore 10, 2)), (cX11_next, 58, (.iload 10, 2)), (cX11_next, 60, (.bipush 24, 2)), (cX11_next, 62, (.if_icmp .ge 38, 3)), (cX11_next, 65, (.aload_n 0, 1)), (cX11_next, 66, (.iload 7, 2)), (cX11_next, 68, (.iload 10, 2)), (cX11_next, 70, (.invokevirtual 243, 3)), (cX11_next, 73, (.lload 8, 2)), (cX11_next, 75, (.lcmp, 1)), (cX11_next, 76, (.ifCond .le 14, 3)), (cX11_next, 79, (.aload_n 0, 1)), (cX11_next, 80, (.iload 7, 2)), (cX11_next, 82, (.iload 10, 2)), (cX11_next, 84, (.invokevirtual 243, 3)), (cX11_next, 87, (.goto 5, 3)), (cX11_next, 90, (.lload 8, 2)), (cX11_next, 92, (.lstore 8, 2)), (cX11_next, 94, (.iinc 10 1, 3)), (cX11_next, 97, (.goto (-39), 3)), (cX11_next, 100, (.iload 7, 2)), (cX11_next, 102, (.ifCond .eq 11, 3)), (cX11_next, 105, (.lload 8, 2)), (cX11_next, 107, (.lload 5, 2)), (cX11_next, 109, (.lcmp, 1)), (cX11_next, 110, (.ifCond .ge 11, 3)), (cX11_next, 113, (.iload 7, 2)), (cX11_next, 115, (.istore 4, 2)), (cX11_next, 117, (.lload 8, 2)), (cX11_next, 119, (.lstore 5, 2)), (cX11_next, 121, (.iinc 7 1, 3)), (cX11_next, 124, (.goto (-81), 3)), (cX11_next, 127, (.iload_n 2, 1)), (cX11_next, 128, (.ifCond .ne 14, 3)), (cX11_next, 131, (.aload_n 0, 1)), (cX11_next, 132, (.getfield 19, 3)), (cX11_next, 135, (.iload 4, 2)), (cX11_next, 137, (.iaload, 1)), (cX11_next, 138, (.i2l, 1)), (cX11_next, 139, (.goto 5, 3)), (cX11_next, 142, (.lload 5, 2)), (cX11_next, 144, (.lreturn, 1)), (cX11_ones, 0, (.iconst 0, 1)), (cX11_ones, 1, (.istore_n 1, 1)), (cX11_ones, 2, (.iload_n 0, 1)), (cX11_ones, 3, (.istore_n 2, 1)), (cX11_ones, 4, (.iload_n 2, 1)), (cX11_ones, 5, (.ifCond .eq 15, 3))]
theorem dkB02decM1_24 : dkL02decM1_24.all (fun q => decide (decode q.1 q.2.1 = .ok q.2.2)) = true := by decide +kernel
theorem dX11_next_35 : decode cX11_next 35 = .ok (.istore 4, 2) := dk_at dkB02decM1_24 0 rfl
theorem dX11_next_37 : decode cX11_next 37 = .ok (.lconst 0, 1) := dk_at dkB02decM1_24 1 rfl
theorem dX11_next_38 : decode cX11_next 38 = .ok (.lstore 5, 2) := dk_at dkB02decM1_24 2 rfl
theorem dX11_next_40 : decode cX11_next 40 = .ok (.iconst 0, 1) := dk_at dkB02decM1_24 3 rfl
theorem dX11_next_41 : decode cX11_next 41 = .ok (.istore 7, 2) := dk_at dkB02decM1_24 4 rfl
theorem dX11_next_43 : decode cX11_next 43 = .ok (.iload 7, 2) := dk_at dkB02decM1_24 5 rfl
theorem dX11_next_45 : decode cX11_next 45 = .ok (.aload_n 0, 1) := dk_at dkB02decM1_24 6 rfl
theorem dX11_next_46 : decode cX11_next 46 = .ok (.getfield 192, 3) := dk_at dkB02decM1_24 7 rfl
theorem dX11_next_49 : decode cX11_next 49 = .ok (.if_icmp .ge 78, 3) := dk_at dkB02decM1_24 8 rfl
theorem dX11_next_52 : decode cX11_next 52 = .ok (.lconst 0, 1) := dk_at dkB02decM1_24 9 rfl
theorem dX11_next_53 : decode cX11_next 53 = .ok (.lstore 8, 2) := dk_at dkB02decM1_24 10 rfl
theorem dX11_next_55 : decode cX11_next 55 = .ok (.iconst 0, 1) := dk_at dkB02decM1_24 11 rfl
theorem dX11_next_56 : decode cX11_next 56 = .ok (.istore 10, 2) := dk_at dkB02decM1_24 12 rfl
theorem dX11_next_58 : decode cX11_next 58 = .ok (.iload 10, 2) := dk_at dkB02decM1_24 13 rfl
theorem dX11_next_60 : decode cX11_next 60 = .ok (.bipush 24, 2) := dk_at dkB02decM1_24 14 rfl
theorem dX11_next_62 : decode cX11_next 62 = .ok (.if_icmp .ge 38, 3) := dk_at dkB02decM1_24 15 rfl
theorem dX11_next_65 : decode cX11_next 65 = .ok (.aload_n 0, 1) := dk_at dkB02decM1_24 16 rfl
theorem dX11_next_66 : decode cX11_next 66 = .ok (.iload 7, 2) := dk_at dkB02decM1_24 17 rfl
theorem dX11_next_68 : decode cX11_next 68 = .ok (.iload 10, 2) := dk_at dkB02decM1_24 18 rfl
theorem dX11_next_70 : decode cX11_next 70 = .ok (.invokevirtual 243, 3) := dk_at dkB02decM1_24 19 rfl
theorem dX11_next_73 : decode cX11_next 73 = .ok (.lload 8, 2) := dk_at dkB02decM1_24 20 rfl
theorem dX11_next_75 : decode cX11_next 75 = .ok (.lcmp, 1) := dk_at dkB02decM1_24 21 rfl
theorem dX11_next_76 : decode cX11_next 76 = .ok (.ifCond .le 14, 3) := dk_at dkB02decM1_24 22 rfl
theorem dX11_next_79 : decode cX11_next 79 = .ok (.aload_n 0, 1) := dk_at dkB02decM1_24 23 rfl
theorem dX11_next_80 : decode cX11_next 80 = .ok (.iload 7, 2) := dk_at dkB02decM1_24 24 rfl
theorem dX11_next_82 : decode cX11_next 82 = .ok (.iload 10, 2) := dk_at dkB02decM1_24 25 rfl
theorem dX11_next_84 : decode cX11_next 84 = .ok (.invokevirtual 243, 3) := dk_at dkB02decM1_24 26 rfl
theorem dX11_next_87 : decode cX11_next 87 = .ok (.goto 5, 3) := dk_at dkB02decM1_24 27 rfl
theorem dX11_next_90 : decode cX11_next 90 = .ok (.lload 8, 2) := dk_at dkB02decM1_24 28 rfl
theorem dX11_next_92 : decode cX11_next 92 = .ok (.lstore 8, 2) := dk_at dkB02decM1_24 29 rfl
theorem dX11_next_94 : decode cX11_next 94 = .ok (.iinc 10 1, 3) := dk_at dkB02decM1_24 30 rfl
theorem dX11_next_97 : decode cX11_next 97 = .ok (.goto (-39), 3) := dk_at dkB02decM1_24 31 rfl
theorem dX11_next_100 : decode cX11_next 100 = .ok (.iload 7, 2) := dk_at dkB02decM1_24 32 rfl
theorem dX11_next_102 : decode cX11_next 102 = .ok (.ifCond .eq 11, 3) := dk_at dkB02decM1_24 33 rfl
theorem dX11_next_105 : decode cX11_next 105 = .ok (.lload 8, 2) := dk_at dkB02decM1_24 34 rfl
theorem dX11_next_107 : decode cX11_next 107 = .ok (.lload 5, 2) := dk_at dkB02decM1_24 35 rfl
theorem dX11_next_109 : decode cX11_next 109 = .ok (.lcmp, 1) := dk_at dkB02decM1_24 36 rfl
theorem dX11_next_110 : decode cX11_next 110 = .ok (.ifCond .ge 11, 3) := dk_at dkB02decM1_24 37 rfl
theorem dX11_next_113 : decode cX11_next 113 = .ok (.iload 7, 2) := dk_at dkB02decM1_24 38 rfl
theorem dX11_next_115 : decode cX11_next 115 = .ok (.istore 4, 2) := dk_at dkB02decM1_24 39 rfl
theorem dX11_next_117 : decode cX11_next 117 = .ok (.lload 8, 2) := dk_at dkB02decM1_24 40 rfl
theorem dX11_next_119 : decode cX11_next 119 = .ok (.lstore 5, 2) := dk_at dkB02decM1_24 41 rfl
theorem dX11_next_121 : decode cX11_next 121 = .ok (.iinc 7 1, 3) := dk_at dkB02decM1_24 42 rfl
theorem dX11_next_124 : decode cX11_next 124 = .ok (.goto (-81), 3) := dk_at dkB02decM1_24 43 rfl
theorem dX11_next_127 : decode cX11_next 127 = .ok (.iload_n 2, 1) := dk_at dkB02decM1_24 44 rfl
theorem dX11_next_128 : decode cX11_next 128 = .ok (.ifCond .ne 14, 3) := dk_at dkB02decM1_24 45 rfl
theorem dX11_next_131 : decode cX11_next 131 = .ok (.aload_n 0, 1) := dk_at dkB02decM1_24 46 rfl
theorem dX11_next_132 : decode cX11_next 132 = .ok (.getfield 19, 3) := dk_at dkB02decM1_24 47 rfl
theorem dX11_next_135 : decode cX11_next 135 = .ok (.iload 4, 2) := dk_at dkB02decM1_24 48 rfl
theorem dX11_next_137 : decode cX11_next 137 = .ok (.iaload, 1) := dk_at dkB02decM1_24 49 rfl
theorem dX11_next_138 : decode cX11_next 138 = .ok (.i2l, 1) := dk_at dkB02decM1_24 50 rfl
theorem dX11_next_139 : decode cX11_next 139 = .ok (.goto 5, 3) := dk_at dkB02decM1_24 51 rfl
theorem dX11_next_142 : decode cX11_next 142 = .ok (.lload 5, 2) := dk_at dkB02decM1_24 52 rfl
theorem dX11_next_144 : decode cX11_next 144 = .ok (.lreturn, 1) := dk_at dkB02decM1_24 53 rfl
theorem dX11_ones_0 : decode cX11_ones 0 = .ok (.iconst 0, 1) := dk_at dkB02decM1_24 54 rfl
theorem dX11_ones_1 : decode cX11_ones 1 = .ok (.istore_n 1, 1) := dk_at dkB02decM1_24 55 rfl
theorem dX11_ones_2 : decode cX11_ones 2 = .ok (.iload_n 0, 1) := dk_at dkB02decM1_24 56 rfl
theorem dX11_ones_3 : decode cX11_ones 3 = .ok (.istore_n 2, 1) := dk_at dkB02decM1_24 57 rfl
theorem dX11_ones_4 : decode cX11_ones 4 = .ok (.iload_n 2, 1) := dk_at dkB02decM1_24 58 rfl
theorem dX11_ones_5 : decode cX11_ones 5 = .ok (.ifCond .eq 15, 3) := dk_at dkB02decM1_24 59 rfl
noncomputable def dkL02decM1_25 : List (ByteArray × Nat × Instr × Nat) := [(cX11_ones, 8, (.iinc 1 1, 3)), (cX11_ones, 11, (.iload_n 2, 1)), (cX11_ones, 12, (.iload_n 2, 1)), (cX11_ones, 13, (.iconst 1, 1)), (cX11_ones, 14, (.isub, 1)), (cX11_ones, 15, (.iand, 1)), (cX11_ones, 16, (.istore_n 2, 1)), (cX11_ones, 17, (.goto (-13), 3)), (cX11_ones, 20, (.iload_n 1, 1)), (cX11_ones, 21, (.ireturn, 1)), (cX11_hasWay, 0, (.aload_n 0, 1)), (cX11_hasWay, 1, (.iload_n 1, 1)), (cX11_hasWay, 2, (.iload_n 2, 1)), (cX11_hasWay, 3, (.invokevirtual 221, 3)), (cX11_hasWay, 6, (.aload_n 0, 1)), (cX11_hasWay, 7, (.invokevirtual 224, 3)), (cX11_hasWay, 10, (.aload_n 0, 1)), (cX11_hasWay, 11, (.getfield 217, 3)), (cX11_hasWay, 14, (.lconst 0, 1)), (cX11_hasWay, 15, (.lcmp, 1)), (cX11_hasWay, 16, (.ifCond .le 7, 3)), (cX11_hasWay, 19, (.iconst 1, 1)), (cX11_hasWay, 20, (.goto 4, 3)), (cX11_hasWay, 23, (.iconst 0, 1)), (cX11_hasWay, 24, (.ireturn, 1)), (cX11_mustGo, 0, (.iload_n 1, 1)), (cX11_mustGo, 1, (.invokestatic 160, 3)), (cX11_mustGo, 4, (.ifCond .ne 5, 3)), (cX11_mustGo, 7, (.iconst (-1), 1)), (cX11_mustGo, 8, (.ireturn, 1)), (cX11_mustGo, 9, (.aload_n 0, 1)), (cX11_mustGo, 10, (.iload_n 1, 1)), (cX11_mustGo, 11, (.invokevirtual 189, 3)), (cX11_mustGo, 14, (.ifCond .ne 6, 3)), (cX11_mustGo, 17, (.bipush (-2), 2)), (cX11_mustGo, 19, (.ireturn, 1)), (cX11_mustGo, 20, (.aload_n 0, 1)), (cX11_mustGo, 21, (.iload_n 1, 1)), (cX11_mustGo, 22, (.invokevirtual 230, 3)), (cX11_mustGo, 25, (.istore_n 2, 1)), (cX11_mustGo, 26, (.bipush (-4), 2)), (cX11_mustGo, 28, (.istore_n 3, 1)), (cX11_mustGo, 29, (.iconst 0, 1)), (cX11_mustGo, 30, (.istore 4, 2)), (cX11_mustGo, 32, (.iload 4, 2)), (cX11_mustGo, 34, (.iload_n 2, 1)), (cX11_mustGo, 35, (.if_icmp .gt 63, 3)), (cX11_mustGo, 38, (.iload_n 3, 1)), (cX11_mustGo, 39, (.ifCond .lt 15, 3)), (cX11_mustGo, 42, (.iload 4, 2)), (cX11_mustGo, 44, (.invokestatic 270, 3)), (cX11_mustGo, 47, (.iload_n 3, 1)), (cX11_mustGo, 48, (.invokestatic 270, 3)), (cX11_mustGo, 51, (.if_icmp .ge 7, 3)), (cX11_mustGo, 54, (.iconst 1, 1)), (cX11_mustGo, 55, (.goto 4, 3)), (cX11_mustGo, 58, (.iconst 0, 1)), (cX11_mustGo, 59, (.istore 5, 2)), (cX11_mustGo, 61, (.iload 4, 2)), (cX11_mustGo, 63, (.iload_n 2, 1))]
theorem dkB02decM1_25 : dkL02decM1_25.all (fun q => decide (decode q.1 q.2.1 = .ok q.2.2)) = true := by decide +kernel
theorem dX11_ones_8 : decode cX11_ones 8 = .ok (.iinc 1 1, 3) := dk_at dkB02decM1_25 0 rfl
theorem dX11_ones_11 : decode cX11_ones 11 = .ok (.iload_n 2, 1) := dk_at dkB02decM1_25 1 rfl
theorem dX11_ones_12 : decode cX11_ones 12 = .ok (.iload_n 2, 1) := dk_at dkB02decM1_25 2 rfl
theorem dX11_ones_13 : decode cX11_ones 13 = .ok (.iconst 1, 1) := dk_at dkB02decM1_25 3 rfl
theorem dX11_ones_14 : decode cX11_ones 14 = .ok (.isub, 1) := dk_at dkB02decM1_25 4 rfl
theorem dX11_ones_15 : decode cX11_ones 15 = .ok (.iand, 1) := dk_at dkB02decM1_25 5 rfl
theorem dX11_ones_16 : decode cX11_ones 16 = .ok (.istore_n 2, 1) := dk_at dkB02decM1_25 6 rfl
theorem dX11_ones_17 : decode cX11_ones 17 = .ok (.goto (-13), 3) := dk_at dkB02decM1_25 7 rfl
theorem dX11_ones_20 : decode cX11_ones 20 = .ok (.iload_n 1, 1) := dk_at dkB02decM1_25 8 rfl
theorem dX11_ones_21 : decode cX11_ones 21 = .ok (.ireturn, 1) := dk_at dkB02decM1_25 9 rfl
theorem dX11_hasWay_0 : decode cX11_hasWay 0 = .ok (.aload_n 0, 1) := dk_at dkB02decM1_25 10 rfl
theorem dX11_hasWay_1 : decode cX11_hasWay 1 = .ok (.iload_n 1, 1) := dk_at dkB02decM1_25 11 rfl
theorem dX11_hasWay_2 : decode cX11_hasWay 2 = .ok (.iload_n 2, 1) := dk_at dkB02decM1_25 12 rfl
theorem dX11_hasWay_3 : decode cX11_hasWay 3 = .ok (.invokevirtual 221, 3) := dk_at dkB02decM1_25 13 rfl
theorem dX11_hasWay_6 : decode cX11_hasWay 6 = .ok (.aload_n 0, 1) := dk_at dkB02decM1_25 14 rfl
theorem dX11_hasWay_7 : decode cX11_hasWay 7 = .ok (.invokevirtual 224, 3) := dk_at dkB02decM1_25 15 rfl
theorem dX11_hasWay_10 : decode cX11_hasWay 10 = .ok (.aload_n 0, 1) := dk_at dkB02decM1_25 16 rfl
theorem dX11_hasWay_11 : decode cX11_hasWay 11 = .ok (.getfield 217, 3) := dk_at dkB02decM1_25 17 rfl
theorem dX11_hasWay_14 : decode cX11_hasWay 14 = .ok (.lconst 0, 1) := dk_at dkB02decM1_25 18 rfl
theorem dX11_hasWay_15 : decode cX11_hasWay 15 = .ok (.lcmp, 1) := dk_at dkB02decM1_25 19 rfl
theorem dX11_hasWay_16 : decode cX11_hasWay 16 = .ok (.ifCond .le 7, 3) := dk_at dkB02decM1_25 20 rfl
theorem dX11_hasWay_19 : decode cX11_hasWay 19 = .ok (.iconst 1, 1) := dk_at dkB02decM1_25 21 rfl
theorem dX11_hasWay_20 : decode cX11_hasWay 20 = .ok (.goto 4, 3) := dk_at dkB02decM1_25 22 rfl
theorem dX11_hasWay_23 : decode cX11_hasWay 23 = .ok (.iconst 0, 1) := dk_at dkB02decM1_25 23 rfl
theorem dX11_hasWay_24 : decode cX11_hasWay 24 = .ok (.ireturn, 1) := dk_at dkB02decM1_25 24 rfl
theorem dX11_mustGo_0 : decode cX11_mustGo 0 = .ok (.iload_n 1, 1) := dk_at dkB02decM1_25 25 rfl
theorem dX11_mustGo_1 : decode cX11_mustGo 1 = .ok (.invokestatic 160, 3) := dk_at dkB02decM1_25 26 rfl
theorem dX11_mustGo_4 : decode cX11_mustGo 4 = .ok (.ifCond .ne 5, 3) := dk_at dkB02decM1_25 27 rfl
theorem dX11_mustGo_7 : decode cX11_mustGo 7 = .ok (.iconst (-1), 1) := dk_at dkB02decM1_25 28 rfl
theorem dX11_mustGo_8 : decode cX11_mustGo 8 = .ok (.ireturn, 1) := dk_at dkB02decM1_25 29 rfl
theorem dX11_mustGo_9 : decode cX11_mustGo 9 = .ok (.aload_n 0, 1) := dk_at dkB02decM1_25 30 rfl
theorem dX11_mustGo_10 : decode cX11_mustGo 10 = .ok (.iload_n 1, 1) := dk_at dkB02decM1_25 31 rfl
theorem dX11_mustGo_11 : decode cX11_mustGo 11 = .ok (.invokevirtual 189, 3) := dk_at dkB02decM1_25 32 rfl
theorem dX11_mustGo_14 : decode cX11_mustGo 14 = .ok (.ifCond .ne 6, 3) := dk_at dkB02decM1_25 33 rfl
theorem dX11_mustGo_17 : decode cX11_mustGo 17 = .ok (.bipush (-2), 2) := dk_at dkB02decM1_25 34 rfl
theorem dX11_mustGo_19 : decode cX11_mustGo 19 = .ok (.ireturn, 1) := dk_at dkB02decM1_25 35 rfl
theorem dX11_mustGo_20 : decode cX11_mustGo 20 = .ok (.aload_n 0, 1) := dk_at dkB02decM1_25 36 rfl
theorem dX11_mustGo_21 : decode cX11_mustGo 21 = .ok (.iload_n 1, 1) := dk_at dkB02decM1_25 37 rfl
theorem dX11_mustGo_22 : decode cX11_mustGo 22 = .ok (.invokevirtual 230, 3) := dk_at dkB02decM1_25 38 rfl
theorem dX11_mustGo_25 : decode cX11_mustGo 25 = .ok (.istore_n 2, 1) := dk_at dkB02decM1_25 39 rfl
theorem dX11_mustGo_26 : decode cX11_mustGo 26 = .ok (.bipush (-4), 2) := dk_at dkB02decM1_25 40 rfl
theorem dX11_mustGo_28 : decode cX11_mustGo 28 = .ok (.istore_n 3, 1) := dk_at dkB02decM1_25 41 rfl
theorem dX11_mustGo_29 : decode cX11_mustGo 29 = .ok (.iconst 0, 1) := dk_at dkB02decM1_25 42 rfl
theorem dX11_mustGo_30 : decode cX11_mustGo 30 = .ok (.istore 4, 2) := dk_at dkB02decM1_25 43 rfl
theorem dX11_mustGo_32 : decode cX11_mustGo 32 = .ok (.iload 4, 2) := dk_at dkB02decM1_25 44 rfl
theorem dX11_mustGo_34 : decode cX11_mustGo 34 = .ok (.iload_n 2, 1) := dk_at dkB02decM1_25 45 rfl
theorem dX11_mustGo_35 : decode cX11_mustGo 35 = .ok (.if_icmp .gt 63, 3) := dk_at dkB02decM1_25 46 rfl
theorem dX11_mustGo_38 : decode cX11_mustGo 38 = .ok (.iload_n 3, 1) := dk_at dkB02decM1_25 47 rfl
theorem dX11_mustGo_39 : decode cX11_mustGo 39 = .ok (.ifCond .lt 15, 3) := dk_at dkB02decM1_25 48 rfl
theorem dX11_mustGo_42 : decode cX11_mustGo 42 = .ok (.iload 4, 2) := dk_at dkB02decM1_25 49 rfl
theorem dX11_mustGo_44 : decode cX11_mustGo 44 = .ok (.invokestatic 270, 3) := dk_at dkB02decM1_25 50 rfl
theorem dX11_mustGo_47 : decode cX11_mustGo 47 = .ok (.iload_n 3, 1) := dk_at dkB02decM1_25 51 rfl
theorem dX11_mustGo_48 : decode cX11_mustGo 48 = .ok (.invokestatic 270, 3) := dk_at dkB02decM1_25 52 rfl
theorem dX11_mustGo_51 : decode cX11_mustGo 51 = .ok (.if_icmp .ge 7, 3) := dk_at dkB02decM1_25 53 rfl
theorem dX11_mustGo_54 : decode cX11_mustGo 54 = .ok (.iconst 1, 1) := dk_at dkB02decM1_25 54 rfl
theorem dX11_mustGo_55 : decode cX11_mustGo 55 = .ok (.goto 4, 3) := dk_at dkB02decM1_25 55 rfl
theorem dX11_mustGo_58 : decode cX11_mustGo 58 = .ok (.iconst 0, 1) := dk_at dkB02decM1_25 56 rfl
theorem dX11_mustGo_59 : decode cX11_mustGo 59 = .ok (.istore 5, 2) := dk_at dkB02decM1_25 57 rfl
theorem dX11_mustGo_61 : decode cX11_mustGo 61 = .ok (.iload 4, 2) := dk_at dkB02decM1_25 58 rfl
theorem dX11_mustGo_63 : decode cX11_mustGo 63 = .ok (.iload_n 2, 1) := dk_at dkB02decM1_25 59 rfl
noncomputable def dkL02decM1_26 : List (ByteArray × Nat × Instr × Nat) := [(cX11_mustGo, 64, (.iconst (-1), 1)), (cX11_mustGo, 65, (.ixor, 1)), (cX11_mustGo, 66, (.iand, 1)), (cX11_mustGo, 67, (.ifCond .ne 25, 3)), (cX11_mustGo, 70, (.iload 5, 2)), (cX11_mustGo, 72, (.ifCond .eq 20, 3)), (cX11_mustGo, 75, (.aload_n 0, 1)), (cX11_mustGo, 76, (.iload_n 1, 1)), (cX11_mustGo, 77, (.iload_n 2, 1)), (cX11_mustGo, 78, (.iload 4, 2)), (cX11_mustGo, 80, (.iconst (-1), 1)), (cX11_mustGo, 81, (.ixor, 1)), (cX11_mustGo, 82, (.iand, 1)), (cX11_mustGo, 83, (.invokevirtual 273, 3)), (cX11_mustGo, 86, (.ifCond .eq 6, 3)), (cX11_mustGo, 89, (.iload 4, 2)), (cX11_mustGo, 91, (.istore_n 3, 1)), (cX11_mustGo, 92, (.iinc 4 1, 3)), (cX11_mustGo, 95, (.goto (-63), 3)), (cX11_mustGo, 98, (.iload_n 3, 1)), (cX11_mustGo, 99, (.ireturn, 1)), (cX11_leans, 0, (.iload_n 1, 1)), (cX11_leans, 1, (.i2l, 1)), (cX11_leans, 2, (.lconst 0, 1)), (cX11_leans, 3, (.aload_n 0, 1)), (cX11_leans, 4, (.getfield 7, 3)), (cX11_leans, 7, (.bipush 11, 2)), (cX11_leans, 9, (.iaload, 1)), (cX11_leans, 10, (.iconst 1, 1)), (cX11_leans, 11, (.isub, 1)), (cX11_leans, 12, (.i2l, 1)), (cX11_leans, 13, (.invokestatic 70, 3)), (cX11_leans, 16, (.ifCond .eq 31, 3)), (cX11_leans, 19, (.iload_n 3, 1)), (cX11_leans, 20, (.i2l, 1)), (cX11_leans, 21, (.lconst 0, 1)), (cX11_leans, 22, (.lconst 1, 1)), (cX11_leans, 23, (.invokestatic 70, 3)), (cX11_leans, 26, (.ifCond .eq 21, 3)), (cX11_leans, 29, (.aload_n 0, 1)), (cX11_leans, 30, (.aload_n 0, 1)), (cX11_leans, 31, (.getfield 7, 3)), (cX11_leans, 34, (.aload_n 0, 1)), (cX11_leans, 35, (.iload_n 1, 1)), (cX11_leans, 36, (.invokevirtual 154, 3)), (cX11_leans, 39, (.iaload, 1)), (cX11_leans, 40, (.iload_n 2, 1)), (cX11_leans, 41, (.invokevirtual 174, 3)), (cX11_leans, 44, (.ifCond .ne 7, 3)), (cX11_leans, 47, (.sipush (-1001), 3)), (cX11_leans, 50, (.ireturn, 1)), (cX11_leans, 51, (.aload_n 0, 1)), (cX11_leans, 52, (.getfield 7, 3)), (cX11_leans, 55, (.aload_n 0, 1)), (cX11_leans, 56, (.iload_n 1, 1)), (cX11_leans, 57, (.invokevirtual 154, 3)), (cX11_leans, 60, (.iaload, 1)), (cX11_leans, 61, (.istore 4, 2)), (cX11_leans, 63, (.aload_n 0, 1)), (cX11_leans, 64, (.iload 4, 2))]
theorem dkB02decM1_26 : dkL02decM1_26.all (fun q => decide (decode q.1 q.2.1 = .ok q.2.2)) = true := by decide +kernel
theorem dX11_mustGo_64 : decode cX11_mustGo 64 = .ok (.iconst (-1), 1) := dk_at dkB02decM1_26 0 rfl
theorem dX11_mustGo_65 : decode cX11_mustGo 65 = .ok (.ixor, 1) := dk_at dkB02decM1_26 1 rfl
theorem dX11_mustGo_66 : decode cX11_mustGo 66 = .ok (.iand, 1) := dk_at dkB02decM1_26 2 rfl
theorem dX11_mustGo_67 : decode cX11_mustGo 67 = .ok (.ifCond .ne 25, 3) := dk_at dkB02decM1_26 3 rfl
theorem dX11_mustGo_70 : decode cX11_mustGo 70 = .ok (.iload 5, 2) := dk_at dkB02decM1_26 4 rfl
theorem dX11_mustGo_72 : decode cX11_mustGo 72 = .ok (.ifCond .eq 20, 3) := dk_at dkB02decM1_26 5 rfl
theorem dX11_mustGo_75 : decode cX11_mustGo 75 = .ok (.aload_n 0, 1) := dk_at dkB02decM1_26 6 rfl
theorem dX11_mustGo_76 : decode cX11_mustGo 76 = .ok (.iload_n 1, 1) := dk_at dkB02decM1_26 7 rfl
theorem dX11_mustGo_77 : decode cX11_mustGo 77 = .ok (.iload_n 2, 1) := dk_at dkB02decM1_26 8 rfl
theorem dX11_mustGo_78 : decode cX11_mustGo 78 = .ok (.iload 4, 2) := dk_at dkB02decM1_26 9 rfl
theorem dX11_mustGo_80 : decode cX11_mustGo 80 = .ok (.iconst (-1), 1) := dk_at dkB02decM1_26 10 rfl
theorem dX11_mustGo_81 : decode cX11_mustGo 81 = .ok (.ixor, 1) := dk_at dkB02decM1_26 11 rfl
theorem dX11_mustGo_82 : decode cX11_mustGo 82 = .ok (.iand, 1) := dk_at dkB02decM1_26 12 rfl
theorem dX11_mustGo_83 : decode cX11_mustGo 83 = .ok (.invokevirtual 273, 3) := dk_at dkB02decM1_26 13 rfl
theorem dX11_mustGo_86 : decode cX11_mustGo 86 = .ok (.ifCond .eq 6, 3) := dk_at dkB02decM1_26 14 rfl
theorem dX11_mustGo_89 : decode cX11_mustGo 89 = .ok (.iload 4, 2) := dk_at dkB02decM1_26 15 rfl
theorem dX11_mustGo_91 : decode cX11_mustGo 91 = .ok (.istore_n 3, 1) := dk_at dkB02decM1_26 16 rfl
theorem dX11_mustGo_92 : decode cX11_mustGo 92 = .ok (.iinc 4 1, 3) := dk_at dkB02decM1_26 17 rfl
theorem dX11_mustGo_95 : decode cX11_mustGo 95 = .ok (.goto (-63), 3) := dk_at dkB02decM1_26 18 rfl
theorem dX11_mustGo_98 : decode cX11_mustGo 98 = .ok (.iload_n 3, 1) := dk_at dkB02decM1_26 19 rfl
theorem dX11_mustGo_99 : decode cX11_mustGo 99 = .ok (.ireturn, 1) := dk_at dkB02decM1_26 20 rfl
theorem dX11_leans_0 : decode cX11_leans 0 = .ok (.iload_n 1, 1) := dk_at dkB02decM1_26 21 rfl
theorem dX11_leans_1 : decode cX11_leans 1 = .ok (.i2l, 1) := dk_at dkB02decM1_26 22 rfl
theorem dX11_leans_2 : decode cX11_leans 2 = .ok (.lconst 0, 1) := dk_at dkB02decM1_26 23 rfl
theorem dX11_leans_3 : decode cX11_leans 3 = .ok (.aload_n 0, 1) := dk_at dkB02decM1_26 24 rfl
theorem dX11_leans_4 : decode cX11_leans 4 = .ok (.getfield 7, 3) := dk_at dkB02decM1_26 25 rfl
theorem dX11_leans_7 : decode cX11_leans 7 = .ok (.bipush 11, 2) := dk_at dkB02decM1_26 26 rfl
theorem dX11_leans_9 : decode cX11_leans 9 = .ok (.iaload, 1) := dk_at dkB02decM1_26 27 rfl
theorem dX11_leans_10 : decode cX11_leans 10 = .ok (.iconst 1, 1) := dk_at dkB02decM1_26 28 rfl
theorem dX11_leans_11 : decode cX11_leans 11 = .ok (.isub, 1) := dk_at dkB02decM1_26 29 rfl
theorem dX11_leans_12 : decode cX11_leans 12 = .ok (.i2l, 1) := dk_at dkB02decM1_26 30 rfl
theorem dX11_leans_13 : decode cX11_leans 13 = .ok (.invokestatic 70, 3) := dk_at dkB02decM1_26 31 rfl
theorem dX11_leans_16 : decode cX11_leans 16 = .ok (.ifCond .eq 31, 3) := dk_at dkB02decM1_26 32 rfl
theorem dX11_leans_19 : decode cX11_leans 19 = .ok (.iload_n 3, 1) := dk_at dkB02decM1_26 33 rfl
theorem dX11_leans_20 : decode cX11_leans 20 = .ok (.i2l, 1) := dk_at dkB02decM1_26 34 rfl
theorem dX11_leans_21 : decode cX11_leans 21 = .ok (.lconst 0, 1) := dk_at dkB02decM1_26 35 rfl
theorem dX11_leans_22 : decode cX11_leans 22 = .ok (.lconst 1, 1) := dk_at dkB02decM1_26 36 rfl
theorem dX11_leans_23 : decode cX11_leans 23 = .ok (.invokestatic 70, 3) := dk_at dkB02decM1_26 37 rfl
theorem dX11_leans_26 : decode cX11_leans 26 = .ok (.ifCond .eq 21, 3) := dk_at dkB02decM1_26 38 rfl
theorem dX11_leans_29 : decode cX11_leans 29 = .ok (.aload_n 0, 1) := dk_at dkB02decM1_26 39 rfl
theorem dX11_leans_30 : decode cX11_leans 30 = .ok (.aload_n 0, 1) := dk_at dkB02decM1_26 40 rfl
theorem dX11_leans_31 : decode cX11_leans 31 = .ok (.getfield 7, 3) := dk_at dkB02decM1_26 41 rfl
theorem dX11_leans_34 : decode cX11_leans 34 = .ok (.aload_n 0, 1) := dk_at dkB02decM1_26 42 rfl
theorem dX11_leans_35 : decode cX11_leans 35 = .ok (.iload_n 1, 1) := dk_at dkB02decM1_26 43 rfl
theorem dX11_leans_36 : decode cX11_leans 36 = .ok (.invokevirtual 154, 3) := dk_at dkB02decM1_26 44 rfl
theorem dX11_leans_39 : decode cX11_leans 39 = .ok (.iaload, 1) := dk_at dkB02decM1_26 45 rfl
theorem dX11_leans_40 : decode cX11_leans 40 = .ok (.iload_n 2, 1) := dk_at dkB02decM1_26 46 rfl
theorem dX11_leans_41 : decode cX11_leans 41 = .ok (.invokevirtual 174, 3) := dk_at dkB02decM1_26 47 rfl
theorem dX11_leans_44 : decode cX11_leans 44 = .ok (.ifCond .ne 7, 3) := dk_at dkB02decM1_26 48 rfl
theorem dX11_leans_47 : decode cX11_leans 47 = .ok (.sipush (-1001), 3) := dk_at dkB02decM1_26 49 rfl
theorem dX11_leans_50 : decode cX11_leans 50 = .ok (.ireturn, 1) := dk_at dkB02decM1_26 50 rfl
theorem dX11_leans_51 : decode cX11_leans 51 = .ok (.aload_n 0, 1) := dk_at dkB02decM1_26 51 rfl
theorem dX11_leans_52 : decode cX11_leans 52 = .ok (.getfield 7, 3) := dk_at dkB02decM1_26 52 rfl
theorem dX11_leans_55 : decode cX11_leans 55 = .ok (.aload_n 0, 1) := dk_at dkB02decM1_26 53 rfl
theorem dX11_leans_56 : decode cX11_leans 56 = .ok (.iload_n 1, 1) := dk_at dkB02decM1_26 54 rfl
theorem dX11_leans_57 : decode cX11_leans 57 = .ok (.invokevirtual 154, 3) := dk_at dkB02decM1_26 55 rfl
theorem dX11_leans_60 : decode cX11_leans 60 = .ok (.iaload, 1) := dk_at dkB02decM1_26 56 rfl
theorem dX11_leans_61 : decode cX11_leans 61 = .ok (.istore 4, 2) := dk_at dkB02decM1_26 57 rfl
theorem dX11_leans_63 : decode cX11_leans 63 = .ok (.aload_n 0, 1) := dk_at dkB02decM1_26 58 rfl
theorem dX11_leans_64 : decode cX11_leans 64 = .ok (.iload 4, 2) := dk_at dkB02decM1_26 59 rfl
noncomputable def dkL02decM1_27 : List (ByteArray × Nat × Instr × Nat) := [(cX11_leans, 66, (.iload_n 2, 1)), (cX11_leans, 67, (.invokevirtual 177, 3)), (cX11_leans, 70, (.iconst 2, 1)), (cX11_leans, 71, (.if_icmp .ne 7, 3)), (cX11_leans, 74, (.sipush (-1012), 3)), (cX11_leans, 77, (.ireturn, 1)), (cX11_leans, 78, (.aload_n 0, 1)), (cX11_leans, 79, (.iload 4, 2)), (cX11_leans, 81, (.invokevirtual 230, 3)), (cX11_leans, 84, (.iconst 1, 1)), (cX11_leans, 85, (.iload_n 1, 1)), (cX11_leans, 86, (.ishl, 1)), (cX11_leans, 87, (.iconst (-1), 1)), (cX11_leans, 88, (.ixor, 1)), (cX11_leans, 89, (.iand, 1)), (cX11_leans, 90, (.istore 5, 2)), (cX11_leans, 92, (.aload_n 0, 1)), (cX11_leans, 93, (.iload 4, 2)), (cX11_leans, 95, (.iload 5, 2)), (cX11_leans, 97, (.iconst 1, 1)), (cX11_leans, 98, (.iload_n 1, 1)), (cX11_leans, 99, (.ishl, 1)), (cX11_leans, 100, (.ior, 1)), (cX11_leans, 101, (.invokevirtual 233, 3)), (cX11_leans, 104, (.aload_n 0, 1)), (cX11_leans, 105, (.aload_n 0, 1)), (cX11_leans, 106, (.iload_n 2, 1)), (cX11_leans, 107, (.invokevirtual 206, 3)), (cX11_leans, 110, (.iload_n 3, 1)), (cX11_leans, 111, (.invokevirtual 250, 3)), (cX11_leans, 114, (.istore 6, 2)), (cX11_leans, 116, (.aload_n 0, 1)), (cX11_leans, 117, (.iload 4, 2)), (cX11_leans, 119, (.iload 5, 2)), (cX11_leans, 121, (.invokevirtual 233, 3)), (cX11_leans, 124, (.aload_n 0, 1)), (cX11_leans, 125, (.aload_n 0, 1)), (cX11_leans, 126, (.iload_n 2, 1)), (cX11_leans, 127, (.invokevirtual 206, 3)), (cX11_leans, 130, (.iload_n 3, 1)), (cX11_leans, 131, (.invokevirtual 250, 3)), (cX11_leans, 134, (.istore 7, 2)), (cX11_leans, 136, (.iload 6, 2)), (cX11_leans, 138, (.ifCond .lt 8, 3)), (cX11_leans, 141, (.iload 7, 2)), (cX11_leans, 143, (.ifCond .ge 9, 3)), (cX11_leans, 146, (.sipush (-1004), 3)), (cX11_leans, 149, (.goto 8, 3)), (cX11_leans, 152, (.iload 7, 2)), (cX11_leans, 154, (.iload 6, 2)), (cX11_leans, 156, (.isub, 1)), (cX11_leans, 157, (.ireturn, 1)), (cX11_judge, 0, (.iload_n 1, 1)), (cX11_judge, 1, (.invokestatic 160, 3)), (cX11_judge, 4, (.ifCond .eq 11, 3)), (cX11_judge, 7, (.iload_n 2, 1)), (cX11_judge, 8, (.iload_n 3, 1)), (cX11_judge, 9, (.invokestatic 276, 3)), (cX11_judge, 12, (.ifCond .ne 5, 3)), (cX11_judge, 15, (.iconst (-1), 1))]
theorem dkB02decM1_27 : dkL02decM1_27.all (fun q => decide (decode q.1 q.2.1 = .ok q.2.2)) = true := by decide +kernel
theorem dX11_leans_66 : decode cX11_leans 66 = .ok (.iload_n 2, 1) := dk_at dkB02decM1_27 0 rfl
theorem dX11_leans_67 : decode cX11_leans 67 = .ok (.invokevirtual 177, 3) := dk_at dkB02decM1_27 1 rfl
theorem dX11_leans_70 : decode cX11_leans 70 = .ok (.iconst 2, 1) := dk_at dkB02decM1_27 2 rfl
theorem dX11_leans_71 : decode cX11_leans 71 = .ok (.if_icmp .ne 7, 3) := dk_at dkB02decM1_27 3 rfl
theorem dX11_leans_74 : decode cX11_leans 74 = .ok (.sipush (-1012), 3) := dk_at dkB02decM1_27 4 rfl
theorem dX11_leans_77 : decode cX11_leans 77 = .ok (.ireturn, 1) := dk_at dkB02decM1_27 5 rfl
theorem dX11_leans_78 : decode cX11_leans 78 = .ok (.aload_n 0, 1) := dk_at dkB02decM1_27 6 rfl
theorem dX11_leans_79 : decode cX11_leans 79 = .ok (.iload 4, 2) := dk_at dkB02decM1_27 7 rfl
theorem dX11_leans_81 : decode cX11_leans 81 = .ok (.invokevirtual 230, 3) := dk_at dkB02decM1_27 8 rfl
theorem dX11_leans_84 : decode cX11_leans 84 = .ok (.iconst 1, 1) := dk_at dkB02decM1_27 9 rfl
theorem dX11_leans_85 : decode cX11_leans 85 = .ok (.iload_n 1, 1) := dk_at dkB02decM1_27 10 rfl
theorem dX11_leans_86 : decode cX11_leans 86 = .ok (.ishl, 1) := dk_at dkB02decM1_27 11 rfl
theorem dX11_leans_87 : decode cX11_leans 87 = .ok (.iconst (-1), 1) := dk_at dkB02decM1_27 12 rfl
theorem dX11_leans_88 : decode cX11_leans 88 = .ok (.ixor, 1) := dk_at dkB02decM1_27 13 rfl
theorem dX11_leans_89 : decode cX11_leans 89 = .ok (.iand, 1) := dk_at dkB02decM1_27 14 rfl
theorem dX11_leans_90 : decode cX11_leans 90 = .ok (.istore 5, 2) := dk_at dkB02decM1_27 15 rfl
theorem dX11_leans_92 : decode cX11_leans 92 = .ok (.aload_n 0, 1) := dk_at dkB02decM1_27 16 rfl
theorem dX11_leans_93 : decode cX11_leans 93 = .ok (.iload 4, 2) := dk_at dkB02decM1_27 17 rfl
theorem dX11_leans_95 : decode cX11_leans 95 = .ok (.iload 5, 2) := dk_at dkB02decM1_27 18 rfl
theorem dX11_leans_97 : decode cX11_leans 97 = .ok (.iconst 1, 1) := dk_at dkB02decM1_27 19 rfl
theorem dX11_leans_98 : decode cX11_leans 98 = .ok (.iload_n 1, 1) := dk_at dkB02decM1_27 20 rfl
theorem dX11_leans_99 : decode cX11_leans 99 = .ok (.ishl, 1) := dk_at dkB02decM1_27 21 rfl
theorem dX11_leans_100 : decode cX11_leans 100 = .ok (.ior, 1) := dk_at dkB02decM1_27 22 rfl
theorem dX11_leans_101 : decode cX11_leans 101 = .ok (.invokevirtual 233, 3) := dk_at dkB02decM1_27 23 rfl
theorem dX11_leans_104 : decode cX11_leans 104 = .ok (.aload_n 0, 1) := dk_at dkB02decM1_27 24 rfl
theorem dX11_leans_105 : decode cX11_leans 105 = .ok (.aload_n 0, 1) := dk_at dkB02decM1_27 25 rfl
theorem dX11_leans_106 : decode cX11_leans 106 = .ok (.iload_n 2, 1) := dk_at dkB02decM1_27 26 rfl
theorem dX11_leans_107 : decode cX11_leans 107 = .ok (.invokevirtual 206, 3) := dk_at dkB02decM1_27 27 rfl
theorem dX11_leans_110 : decode cX11_leans 110 = .ok (.iload_n 3, 1) := dk_at dkB02decM1_27 28 rfl
theorem dX11_leans_111 : decode cX11_leans 111 = .ok (.invokevirtual 250, 3) := dk_at dkB02decM1_27 29 rfl
theorem dX11_leans_114 : decode cX11_leans 114 = .ok (.istore 6, 2) := dk_at dkB02decM1_27 30 rfl
theorem dX11_leans_116 : decode cX11_leans 116 = .ok (.aload_n 0, 1) := dk_at dkB02decM1_27 31 rfl
theorem dX11_leans_117 : decode cX11_leans 117 = .ok (.iload 4, 2) := dk_at dkB02decM1_27 32 rfl
theorem dX11_leans_119 : decode cX11_leans 119 = .ok (.iload 5, 2) := dk_at dkB02decM1_27 33 rfl
theorem dX11_leans_121 : decode cX11_leans 121 = .ok (.invokevirtual 233, 3) := dk_at dkB02decM1_27 34 rfl
theorem dX11_leans_124 : decode cX11_leans 124 = .ok (.aload_n 0, 1) := dk_at dkB02decM1_27 35 rfl
theorem dX11_leans_125 : decode cX11_leans 125 = .ok (.aload_n 0, 1) := dk_at dkB02decM1_27 36 rfl
theorem dX11_leans_126 : decode cX11_leans 126 = .ok (.iload_n 2, 1) := dk_at dkB02decM1_27 37 rfl
theorem dX11_leans_127 : decode cX11_leans 127 = .ok (.invokevirtual 206, 3) := dk_at dkB02decM1_27 38 rfl
theorem dX11_leans_130 : decode cX11_leans 130 = .ok (.iload_n 3, 1) := dk_at dkB02decM1_27 39 rfl
theorem dX11_leans_131 : decode cX11_leans 131 = .ok (.invokevirtual 250, 3) := dk_at dkB02decM1_27 40 rfl
theorem dX11_leans_134 : decode cX11_leans 134 = .ok (.istore 7, 2) := dk_at dkB02decM1_27 41 rfl
theorem dX11_leans_136 : decode cX11_leans 136 = .ok (.iload 6, 2) := dk_at dkB02decM1_27 42 rfl
theorem dX11_leans_138 : decode cX11_leans 138 = .ok (.ifCond .lt 8, 3) := dk_at dkB02decM1_27 43 rfl
theorem dX11_leans_141 : decode cX11_leans 141 = .ok (.iload 7, 2) := dk_at dkB02decM1_27 44 rfl
theorem dX11_leans_143 : decode cX11_leans 143 = .ok (.ifCond .ge 9, 3) := dk_at dkB02decM1_27 45 rfl
theorem dX11_leans_146 : decode cX11_leans 146 = .ok (.sipush (-1004), 3) := dk_at dkB02decM1_27 46 rfl
theorem dX11_leans_149 : decode cX11_leans 149 = .ok (.goto 8, 3) := dk_at dkB02decM1_27 47 rfl
theorem dX11_leans_152 : decode cX11_leans 152 = .ok (.iload 7, 2) := dk_at dkB02decM1_27 48 rfl
theorem dX11_leans_154 : decode cX11_leans 154 = .ok (.iload 6, 2) := dk_at dkB02decM1_27 49 rfl
theorem dX11_leans_156 : decode cX11_leans 156 = .ok (.isub, 1) := dk_at dkB02decM1_27 50 rfl
theorem dX11_leans_157 : decode cX11_leans 157 = .ok (.ireturn, 1) := dk_at dkB02decM1_27 51 rfl
theorem dX11_judge_0 : decode cX11_judge 0 = .ok (.iload_n 1, 1) := dk_at dkB02decM1_27 52 rfl
theorem dX11_judge_1 : decode cX11_judge 1 = .ok (.invokestatic 160, 3) := dk_at dkB02decM1_27 53 rfl
theorem dX11_judge_4 : decode cX11_judge 4 = .ok (.ifCond .eq 11, 3) := dk_at dkB02decM1_27 54 rfl
theorem dX11_judge_7 : decode cX11_judge 7 = .ok (.iload_n 2, 1) := dk_at dkB02decM1_27 55 rfl
theorem dX11_judge_8 : decode cX11_judge 8 = .ok (.iload_n 3, 1) := dk_at dkB02decM1_27 56 rfl
theorem dX11_judge_9 : decode cX11_judge 9 = .ok (.invokestatic 276, 3) := dk_at dkB02decM1_27 57 rfl
theorem dX11_judge_12 : decode cX11_judge 12 = .ok (.ifCond .ne 5, 3) := dk_at dkB02decM1_27 58 rfl
theorem dX11_judge_15 : decode cX11_judge 15 = .ok (.iconst (-1), 1) := dk_at dkB02decM1_27 59 rfl
noncomputable def dkL02decM1_28 : List (ByteArray × Nat × Instr × Nat) := [(cX11_judge, 16, (.ireturn, 1)), (cX11_judge, 17, (.aload_n 0, 1)), (cX11_judge, 18, (.iload_n 1, 1)), (cX11_judge, 19, (.invokevirtual 189, 3)), (cX11_judge, 22, (.ifCond .ne 6, 3)), (cX11_judge, 25, (.bipush (-2), 2)), (cX11_judge, 27, (.ireturn, 1)), (cX11_judge, 28, (.aload_n 0, 1)), (cX11_judge, 29, (.iload_n 2, 1)), (cX11_judge, 30, (.iload_n 3, 1)), (cX11_judge, 31, (.iload 4, 2)), (cX11_judge, 33, (.aload_n 0, 1)), (cX11_judge, 34, (.iload_n 1, 1)), (cX11_judge, 35, (.invokevirtual 189, 3)), (cX11_judge, 38, (.invokevirtual 279, 3)), (cX11_judge, 41, (.istore 5, 2)), (cX11_judge, 43, (.iload 5, 2)), (cX11_judge, 45, (.ifCond .ge 6, 3)), (cX11_judge, 48, (.iload 5, 2)), (cX11_judge, 50, (.ireturn, 1)), (cX11_judge, 51, (.aload_n 0, 1)), (cX11_judge, 52, (.iload_n 1, 1)), (cX11_judge, 53, (.aload_n 0, 1)), (cX11_judge, 54, (.iload_n 1, 1)), (cX11_judge, 55, (.invokevirtual 230, 3)), (cX11_judge, 58, (.invokevirtual 221, 3)), (cX11_judge, 61, (.iconst 1, 1)), (cX11_judge, 62, (.istore 6, 2)), (cX11_judge, 64, (.iconst 0, 1)), (cX11_judge, 65, (.istore 7, 2)), (cX11_judge, 67, (.iload 7, 2)), (cX11_judge, 69, (.aload_n 0, 1)), (cX11_judge, 70, (.getfield 192, 3)), (cX11_judge, 73, (.if_icmp .ge 121, 3)), (cX11_judge, 76, (.aload_n 0, 1)), (cX11_judge, 77, (.getfield 65, 3)), (cX11_judge, 80, (.bipush 24, 2)), (cX11_judge, 82, (.iload_n 2, 1)), (cX11_judge, 83, (.imul, 1)), (cX11_judge, 84, (.iload 4, 2)), (cX11_judge, 86, (.iadd, 1)), (cX11_judge, 87, (.iload 7, 2)), (cX11_judge, 89, (.iadd, 1)), (cX11_judge, 90, (.iaload, 1)), (cX11_judge, 91, (.istore 8, 2)), (cX11_judge, 93, (.iload 8, 2)), (cX11_judge, 95, (.invokestatic 80, 3)), (cX11_judge, 98, (.ifCond .eq 23, 3)), (cX11_judge, 101, (.aload_n 0, 1)), (cX11_judge, 102, (.getfield 22, 3)), (cX11_judge, 105, (.iload 7, 2)), (cX11_judge, 107, (.iaload, 1)), (cX11_judge, 108, (.iload 8, 2)), (cX11_judge, 110, (.ishr, 1)), (cX11_judge, 111, (.iconst 1, 1)), (cX11_judge, 112, (.iand, 1)), (cX11_judge, 113, (.iconst 1, 1)), (cX11_judge, 114, (.if_icmp .ne 7, 3)), (cX11_judge, 117, (.iconst 1, 1)), (cX11_judge, 118, (.goto 4, 3))]
theorem dkB02decM1_28 : dkL02decM1_28.all (fun q => decide (decode q.1 q.2.1 = .ok q.2.2)) = true := by decide +kernel
theorem dX11_judge_16 : decode cX11_judge 16 = .ok (.ireturn, 1) := dk_at dkB02decM1_28 0 rfl
theorem dX11_judge_17 : decode cX11_judge 17 = .ok (.aload_n 0, 1) := dk_at dkB02decM1_28 1 rfl
theorem dX11_judge_18 : decode cX11_judge 18 = .ok (.iload_n 1, 1) := dk_at dkB02decM1_28 2 rfl
theorem dX11_judge_19 : decode cX11_judge 19 = .ok (.invokevirtual 189, 3) := dk_at dkB02decM1_28 3 rfl
theorem dX11_judge_22 : decode cX11_judge 22 = .ok (.ifCond .ne 6, 3) := dk_at dkB02decM1_28 4 rfl
theorem dX11_judge_25 : decode cX11_judge 25 = .ok (.bipush (-2), 2) := dk_at dkB02decM1_28 5 rfl
theorem dX11_judge_27 : decode cX11_judge 27 = .ok (.ireturn, 1) := dk_at dkB02decM1_28 6 rfl
theorem dX11_judge_28 : decode cX11_judge 28 = .ok (.aload_n 0, 1) := dk_at dkB02decM1_28 7 rfl
theorem dX11_judge_29 : decode cX11_judge 29 = .ok (.iload_n 2, 1) := dk_at dkB02decM1_28 8 rfl
theorem dX11_judge_30 : decode cX11_judge 30 = .ok (.iload_n 3, 1) := dk_at dkB02decM1_28 9 rfl
theorem dX11_judge_31 : decode cX11_judge 31 = .ok (.iload 4, 2) := dk_at dkB02decM1_28 10 rfl
theorem dX11_judge_33 : decode cX11_judge 33 = .ok (.aload_n 0, 1) := dk_at dkB02decM1_28 11 rfl
theorem dX11_judge_34 : decode cX11_judge 34 = .ok (.iload_n 1, 1) := dk_at dkB02decM1_28 12 rfl
theorem dX11_judge_35 : decode cX11_judge 35 = .ok (.invokevirtual 189, 3) := dk_at dkB02decM1_28 13 rfl
theorem dX11_judge_38 : decode cX11_judge 38 = .ok (.invokevirtual 279, 3) := dk_at dkB02decM1_28 14 rfl
theorem dX11_judge_41 : decode cX11_judge 41 = .ok (.istore 5, 2) := dk_at dkB02decM1_28 15 rfl
theorem dX11_judge_43 : decode cX11_judge 43 = .ok (.iload 5, 2) := dk_at dkB02decM1_28 16 rfl
theorem dX11_judge_45 : decode cX11_judge 45 = .ok (.ifCond .ge 6, 3) := dk_at dkB02decM1_28 17 rfl
theorem dX11_judge_48 : decode cX11_judge 48 = .ok (.iload 5, 2) := dk_at dkB02decM1_28 18 rfl
theorem dX11_judge_50 : decode cX11_judge 50 = .ok (.ireturn, 1) := dk_at dkB02decM1_28 19 rfl
theorem dX11_judge_51 : decode cX11_judge 51 = .ok (.aload_n 0, 1) := dk_at dkB02decM1_28 20 rfl
theorem dX11_judge_52 : decode cX11_judge 52 = .ok (.iload_n 1, 1) := dk_at dkB02decM1_28 21 rfl
theorem dX11_judge_53 : decode cX11_judge 53 = .ok (.aload_n 0, 1) := dk_at dkB02decM1_28 22 rfl
theorem dX11_judge_54 : decode cX11_judge 54 = .ok (.iload_n 1, 1) := dk_at dkB02decM1_28 23 rfl
theorem dX11_judge_55 : decode cX11_judge 55 = .ok (.invokevirtual 230, 3) := dk_at dkB02decM1_28 24 rfl
theorem dX11_judge_58 : decode cX11_judge 58 = .ok (.invokevirtual 221, 3) := dk_at dkB02decM1_28 25 rfl
theorem dX11_judge_61 : decode cX11_judge 61 = .ok (.iconst 1, 1) := dk_at dkB02decM1_28 26 rfl
theorem dX11_judge_62 : decode cX11_judge 62 = .ok (.istore 6, 2) := dk_at dkB02decM1_28 27 rfl
theorem dX11_judge_64 : decode cX11_judge 64 = .ok (.iconst 0, 1) := dk_at dkB02decM1_28 28 rfl
theorem dX11_judge_65 : decode cX11_judge 65 = .ok (.istore 7, 2) := dk_at dkB02decM1_28 29 rfl
theorem dX11_judge_67 : decode cX11_judge 67 = .ok (.iload 7, 2) := dk_at dkB02decM1_28 30 rfl
theorem dX11_judge_69 : decode cX11_judge 69 = .ok (.aload_n 0, 1) := dk_at dkB02decM1_28 31 rfl
theorem dX11_judge_70 : decode cX11_judge 70 = .ok (.getfield 192, 3) := dk_at dkB02decM1_28 32 rfl
theorem dX11_judge_73 : decode cX11_judge 73 = .ok (.if_icmp .ge 121, 3) := dk_at dkB02decM1_28 33 rfl
theorem dX11_judge_76 : decode cX11_judge 76 = .ok (.aload_n 0, 1) := dk_at dkB02decM1_28 34 rfl
theorem dX11_judge_77 : decode cX11_judge 77 = .ok (.getfield 65, 3) := dk_at dkB02decM1_28 35 rfl
theorem dX11_judge_80 : decode cX11_judge 80 = .ok (.bipush 24, 2) := dk_at dkB02decM1_28 36 rfl
theorem dX11_judge_82 : decode cX11_judge 82 = .ok (.iload_n 2, 1) := dk_at dkB02decM1_28 37 rfl
theorem dX11_judge_83 : decode cX11_judge 83 = .ok (.imul, 1) := dk_at dkB02decM1_28 38 rfl
theorem dX11_judge_84 : decode cX11_judge 84 = .ok (.iload 4, 2) := dk_at dkB02decM1_28 39 rfl
theorem dX11_judge_86 : decode cX11_judge 86 = .ok (.iadd, 1) := dk_at dkB02decM1_28 40 rfl
theorem dX11_judge_87 : decode cX11_judge 87 = .ok (.iload 7, 2) := dk_at dkB02decM1_28 41 rfl
theorem dX11_judge_89 : decode cX11_judge 89 = .ok (.iadd, 1) := dk_at dkB02decM1_28 42 rfl
theorem dX11_judge_90 : decode cX11_judge 90 = .ok (.iaload, 1) := dk_at dkB02decM1_28 43 rfl
theorem dX11_judge_91 : decode cX11_judge 91 = .ok (.istore 8, 2) := dk_at dkB02decM1_28 44 rfl
theorem dX11_judge_93 : decode cX11_judge 93 = .ok (.iload 8, 2) := dk_at dkB02decM1_28 45 rfl
theorem dX11_judge_95 : decode cX11_judge 95 = .ok (.invokestatic 80, 3) := dk_at dkB02decM1_28 46 rfl
theorem dX11_judge_98 : decode cX11_judge 98 = .ok (.ifCond .eq 23, 3) := dk_at dkB02decM1_28 47 rfl
theorem dX11_judge_101 : decode cX11_judge 101 = .ok (.aload_n 0, 1) := dk_at dkB02decM1_28 48 rfl
theorem dX11_judge_102 : decode cX11_judge 102 = .ok (.getfield 22, 3) := dk_at dkB02decM1_28 49 rfl
theorem dX11_judge_105 : decode cX11_judge 105 = .ok (.iload 7, 2) := dk_at dkB02decM1_28 50 rfl
theorem dX11_judge_107 : decode cX11_judge 107 = .ok (.iaload, 1) := dk_at dkB02decM1_28 51 rfl
theorem dX11_judge_108 : decode cX11_judge 108 = .ok (.iload 8, 2) := dk_at dkB02decM1_28 52 rfl
theorem dX11_judge_110 : decode cX11_judge 110 = .ok (.ishr, 1) := dk_at dkB02decM1_28 53 rfl
theorem dX11_judge_111 : decode cX11_judge 111 = .ok (.iconst 1, 1) := dk_at dkB02decM1_28 54 rfl
theorem dX11_judge_112 : decode cX11_judge 112 = .ok (.iand, 1) := dk_at dkB02decM1_28 55 rfl
theorem dX11_judge_113 : decode cX11_judge 113 = .ok (.iconst 1, 1) := dk_at dkB02decM1_28 56 rfl
theorem dX11_judge_114 : decode cX11_judge 114 = .ok (.if_icmp .ne 7, 3) := dk_at dkB02decM1_28 57 rfl
theorem dX11_judge_117 : decode cX11_judge 117 = .ok (.iconst 1, 1) := dk_at dkB02decM1_28 58 rfl
theorem dX11_judge_118 : decode cX11_judge 118 = .ok (.goto 4, 3) := dk_at dkB02decM1_28 59 rfl
noncomputable def dkL02decM1_29 : List (ByteArray × Nat × Instr × Nat) := [(cX11_judge, 121, (.iconst 0, 1)), (cX11_judge, 122, (.istore 9, 2)), (cX11_judge, 124, (.iload 9, 2)), (cX11_judge, 126, (.ifCond .eq 49, 3)), (cX11_judge, 129, (.iload 7, 2)), (cX11_judge, 131, (.ifCond .le 44, 3)), (cX11_judge, 134, (.aload_n 0, 1)), (cX11_judge, 135, (.iload 7, 2)), (cX11_judge, 137, (.aload_n 0, 1)), (cX11_judge, 138, (.getfield 65, 3)), (cX11_judge, 141, (.bipush 24, 2)), (cX11_judge, 143, (.iload_n 2, 1)), (cX11_judge, 144, (.imul, 1)), (cX11_judge, 145, (.iload 4, 2)), (cX11_judge, 147, (.iadd, 1)), (cX11_judge, 148, (.iload 7, 2)), (cX11_judge, 150, (.iadd, 1)), (cX11_judge, 151, (.iconst 1, 1)), (cX11_judge, 152, (.isub, 1)), (cX11_judge, 153, (.iaload, 1)), (cX11_judge, 154, (.iload 6, 2)), (cX11_judge, 156, (.iload 8, 2)), (cX11_judge, 158, (.invokevirtual 213, 3)), (cX11_judge, 161, (.istore 6, 2)), (cX11_judge, 163, (.iload 6, 2)), (cX11_judge, 165, (.ifCond .le 7, 3)), (cX11_judge, 168, (.iconst 1, 1)), (cX11_judge, 169, (.goto 4, 3)), (cX11_judge, 172, (.iconst 0, 1)), (cX11_judge, 173, (.istore 9, 2)), (cX11_judge, 175, (.iload 9, 2)), (cX11_judge, 177, (.ifCond .ne 11, 3)), (cX11_judge, 180, (.aload_n 0, 1)), (cX11_judge, 181, (.getfield 19, 3)), (cX11_judge, 184, (.iload 7, 2)), (cX11_judge, 186, (.iaload, 1)), (cX11_judge, 187, (.ireturn, 1)), (cX11_judge, 188, (.iinc 7 1, 3)), (cX11_judge, 191, (.goto (-124), 3)), (cX11_judge, 194, (.bipush (-4), 2)), (cX11_judge, 196, (.ireturn, 1)), (cX11_keepFirst, 0, (.aload_n 0, 1)), (cX11_keepFirst, 1, (.iconst 0, 1)), (cX11_keepFirst, 2, (.invokevirtual 240, 3)), (cX11_keepFirst, 5, (.aload_n 0, 1)), (cX11_keepFirst, 6, (.aload_n 0, 1)), (cX11_keepFirst, 7, (.getfield 192, 3)), (cX11_keepFirst, 10, (.putfield 282, 3)), (cX11_keepFirst, 13, (.aload_n 0, 1)), (cX11_keepFirst, 14, (.aload_n 0, 1)), (cX11_keepFirst, 15, (.getfield 217, 3)), (cX11_keepFirst, 18, (.putfield 285, 3)), (cX11_keepFirst, 21, (.iconst 0, 1)), (cX11_keepFirst, 22, (.istore_n 1, 1)), (cX11_keepFirst, 23, (.iload_n 1, 1)), (cX11_keepFirst, 24, (.aload_n 0, 1)), (cX11_keepFirst, 25, (.getfield 192, 3)), (cX11_keepFirst, 28, (.if_icmp .ge 52, 3)), (cX11_keepFirst, 31, (.aload_n 0, 1)), (cX11_keepFirst, 32, (.getfield 47, 3))]
theorem dkB02decM1_29 : dkL02decM1_29.all (fun q => decide (decode q.1 q.2.1 = .ok q.2.2)) = true := by decide +kernel
theorem dX11_judge_121 : decode cX11_judge 121 = .ok (.iconst 0, 1) := dk_at dkB02decM1_29 0 rfl
theorem dX11_judge_122 : decode cX11_judge 122 = .ok (.istore 9, 2) := dk_at dkB02decM1_29 1 rfl
theorem dX11_judge_124 : decode cX11_judge 124 = .ok (.iload 9, 2) := dk_at dkB02decM1_29 2 rfl
theorem dX11_judge_126 : decode cX11_judge 126 = .ok (.ifCond .eq 49, 3) := dk_at dkB02decM1_29 3 rfl
theorem dX11_judge_129 : decode cX11_judge 129 = .ok (.iload 7, 2) := dk_at dkB02decM1_29 4 rfl
theorem dX11_judge_131 : decode cX11_judge 131 = .ok (.ifCond .le 44, 3) := dk_at dkB02decM1_29 5 rfl
theorem dX11_judge_134 : decode cX11_judge 134 = .ok (.aload_n 0, 1) := dk_at dkB02decM1_29 6 rfl
theorem dX11_judge_135 : decode cX11_judge 135 = .ok (.iload 7, 2) := dk_at dkB02decM1_29 7 rfl
theorem dX11_judge_137 : decode cX11_judge 137 = .ok (.aload_n 0, 1) := dk_at dkB02decM1_29 8 rfl
theorem dX11_judge_138 : decode cX11_judge 138 = .ok (.getfield 65, 3) := dk_at dkB02decM1_29 9 rfl
theorem dX11_judge_141 : decode cX11_judge 141 = .ok (.bipush 24, 2) := dk_at dkB02decM1_29 10 rfl
theorem dX11_judge_143 : decode cX11_judge 143 = .ok (.iload_n 2, 1) := dk_at dkB02decM1_29 11 rfl
theorem dX11_judge_144 : decode cX11_judge 144 = .ok (.imul, 1) := dk_at dkB02decM1_29 12 rfl
theorem dX11_judge_145 : decode cX11_judge 145 = .ok (.iload 4, 2) := dk_at dkB02decM1_29 13 rfl
theorem dX11_judge_147 : decode cX11_judge 147 = .ok (.iadd, 1) := dk_at dkB02decM1_29 14 rfl
theorem dX11_judge_148 : decode cX11_judge 148 = .ok (.iload 7, 2) := dk_at dkB02decM1_29 15 rfl
theorem dX11_judge_150 : decode cX11_judge 150 = .ok (.iadd, 1) := dk_at dkB02decM1_29 16 rfl
theorem dX11_judge_151 : decode cX11_judge 151 = .ok (.iconst 1, 1) := dk_at dkB02decM1_29 17 rfl
theorem dX11_judge_152 : decode cX11_judge 152 = .ok (.isub, 1) := dk_at dkB02decM1_29 18 rfl
theorem dX11_judge_153 : decode cX11_judge 153 = .ok (.iaload, 1) := dk_at dkB02decM1_29 19 rfl
theorem dX11_judge_154 : decode cX11_judge 154 = .ok (.iload 6, 2) := dk_at dkB02decM1_29 20 rfl
theorem dX11_judge_156 : decode cX11_judge 156 = .ok (.iload 8, 2) := dk_at dkB02decM1_29 21 rfl
theorem dX11_judge_158 : decode cX11_judge 158 = .ok (.invokevirtual 213, 3) := dk_at dkB02decM1_29 22 rfl
theorem dX11_judge_161 : decode cX11_judge 161 = .ok (.istore 6, 2) := dk_at dkB02decM1_29 23 rfl
theorem dX11_judge_163 : decode cX11_judge 163 = .ok (.iload 6, 2) := dk_at dkB02decM1_29 24 rfl
theorem dX11_judge_165 : decode cX11_judge 165 = .ok (.ifCond .le 7, 3) := dk_at dkB02decM1_29 25 rfl
theorem dX11_judge_168 : decode cX11_judge 168 = .ok (.iconst 1, 1) := dk_at dkB02decM1_29 26 rfl
theorem dX11_judge_169 : decode cX11_judge 169 = .ok (.goto 4, 3) := dk_at dkB02decM1_29 27 rfl
theorem dX11_judge_172 : decode cX11_judge 172 = .ok (.iconst 0, 1) := dk_at dkB02decM1_29 28 rfl
theorem dX11_judge_173 : decode cX11_judge 173 = .ok (.istore 9, 2) := dk_at dkB02decM1_29 29 rfl
theorem dX11_judge_175 : decode cX11_judge 175 = .ok (.iload 9, 2) := dk_at dkB02decM1_29 30 rfl
theorem dX11_judge_177 : decode cX11_judge 177 = .ok (.ifCond .ne 11, 3) := dk_at dkB02decM1_29 31 rfl
theorem dX11_judge_180 : decode cX11_judge 180 = .ok (.aload_n 0, 1) := dk_at dkB02decM1_29 32 rfl
theorem dX11_judge_181 : decode cX11_judge 181 = .ok (.getfield 19, 3) := dk_at dkB02decM1_29 33 rfl
theorem dX11_judge_184 : decode cX11_judge 184 = .ok (.iload 7, 2) := dk_at dkB02decM1_29 34 rfl
theorem dX11_judge_186 : decode cX11_judge 186 = .ok (.iaload, 1) := dk_at dkB02decM1_29 35 rfl
theorem dX11_judge_187 : decode cX11_judge 187 = .ok (.ireturn, 1) := dk_at dkB02decM1_29 36 rfl
theorem dX11_judge_188 : decode cX11_judge 188 = .ok (.iinc 7 1, 3) := dk_at dkB02decM1_29 37 rfl
theorem dX11_judge_191 : decode cX11_judge 191 = .ok (.goto (-124), 3) := dk_at dkB02decM1_29 38 rfl
theorem dX11_judge_194 : decode cX11_judge 194 = .ok (.bipush (-4), 2) := dk_at dkB02decM1_29 39 rfl
theorem dX11_judge_196 : decode cX11_judge 196 = .ok (.ireturn, 1) := dk_at dkB02decM1_29 40 rfl
theorem dX11_keepFirst_0 : decode cX11_keepFirst 0 = .ok (.aload_n 0, 1) := dk_at dkB02decM1_29 41 rfl
theorem dX11_keepFirst_1 : decode cX11_keepFirst 1 = .ok (.iconst 0, 1) := dk_at dkB02decM1_29 42 rfl
theorem dX11_keepFirst_2 : decode cX11_keepFirst 2 = .ok (.invokevirtual 240, 3) := dk_at dkB02decM1_29 43 rfl
theorem dX11_keepFirst_5 : decode cX11_keepFirst 5 = .ok (.aload_n 0, 1) := dk_at dkB02decM1_29 44 rfl
theorem dX11_keepFirst_6 : decode cX11_keepFirst 6 = .ok (.aload_n 0, 1) := dk_at dkB02decM1_29 45 rfl
theorem dX11_keepFirst_7 : decode cX11_keepFirst 7 = .ok (.getfield 192, 3) := dk_at dkB02decM1_29 46 rfl
theorem dX11_keepFirst_10 : decode cX11_keepFirst 10 = .ok (.putfield 282, 3) := dk_at dkB02decM1_29 47 rfl
theorem dX11_keepFirst_13 : decode cX11_keepFirst 13 = .ok (.aload_n 0, 1) := dk_at dkB02decM1_29 48 rfl
theorem dX11_keepFirst_14 : decode cX11_keepFirst 14 = .ok (.aload_n 0, 1) := dk_at dkB02decM1_29 49 rfl
theorem dX11_keepFirst_15 : decode cX11_keepFirst 15 = .ok (.getfield 217, 3) := dk_at dkB02decM1_29 50 rfl
theorem dX11_keepFirst_18 : decode cX11_keepFirst 18 = .ok (.putfield 285, 3) := dk_at dkB02decM1_29 51 rfl
theorem dX11_keepFirst_21 : decode cX11_keepFirst 21 = .ok (.iconst 0, 1) := dk_at dkB02decM1_29 52 rfl
theorem dX11_keepFirst_22 : decode cX11_keepFirst 22 = .ok (.istore_n 1, 1) := dk_at dkB02decM1_29 53 rfl
theorem dX11_keepFirst_23 : decode cX11_keepFirst 23 = .ok (.iload_n 1, 1) := dk_at dkB02decM1_29 54 rfl
theorem dX11_keepFirst_24 : decode cX11_keepFirst 24 = .ok (.aload_n 0, 1) := dk_at dkB02decM1_29 55 rfl
theorem dX11_keepFirst_25 : decode cX11_keepFirst 25 = .ok (.getfield 192, 3) := dk_at dkB02decM1_29 56 rfl
theorem dX11_keepFirst_28 : decode cX11_keepFirst 28 = .ok (.if_icmp .ge 52, 3) := dk_at dkB02decM1_29 57 rfl
theorem dX11_keepFirst_31 : decode cX11_keepFirst 31 = .ok (.aload_n 0, 1) := dk_at dkB02decM1_29 58 rfl
theorem dX11_keepFirst_32 : decode cX11_keepFirst 32 = .ok (.getfield 47, 3) := dk_at dkB02decM1_29 59 rfl
