noncomputable def dkL02decM0_0 : List (ByteArray × Nat × Instr × Nat) := [(cX11_in, 0, (.lload_n 0, 1)), (cX11_in, 1, (.lload_n 2, 1)), (cX11_in, 2, (.lcmp, 1)), (cX11_in, 3, (.ifCond .lt 14, 3)), (cX11_in, 6, (.lload_n 0, 1)), (cX11_in, 7, (.lload 4, 2)), (cX11_in, 9, (.lcmp, 1)), (cX11_in, 10, (.ifCond .gt 7, 3)), (cX11_in, 13, (.iconst 1, 1)), (cX11_in, 14, (.goto 4, 3)), (cX11_in, 17, (.iconst 0, 1)), (cX11_in, 18, (.ireturn, 1)), (cX11_init, 0, (.aload_n 0, 1)), (cX11_init, 1, (.invokespecial 1, 3)), (cX11_init, 4, (.aload_n 0, 1)), (cX11_init, 5, (.sipush 392, 3)), (cX11_init, 8, (.newarray .int, 2)), (cX11_init, 10, (.putfield 7, 3)), (cX11_init, 13, (.aload_n 0, 1)), (cX11_init, 14, (.bipush 80, 2)), (cX11_init, 16, (.newarray .int, 2)), (cX11_init, 18, (.putfield 13, 3)), (cX11_init, 21, (.aload_n 0, 1)), (cX11_init, 22, (.bipush 66, 2)), (cX11_init, 24, (.newarray .int, 2)), (cX11_init, 26, (.putfield 16, 3)), (cX11_init, 29, (.aload_n 0, 1)), (cX11_init, 30, (.bipush 12, 2)), (cX11_init, 32, (.newarray .int, 2)), (cX11_init, 34, (.putfield 19, 3)), (cX11_init, 37, (.aload_n 0, 1)), (cX11_init, 38, (.bipush 12, 2)), (cX11_init, 40, (.newarray .int, 2)), (cX11_init, 42, (.putfield 22, 3)), (cX11_init, 45, (.aload_n 0, 1)), (cX11_init, 46, (.bipush 12, 2)), (cX11_init, 48, (.newarray .int, 2)), (cX11_init, 50, (.putfield 25, 3)), (cX11_init, 53, (.aload_n 0, 1)), (cX11_init, 54, (.bipush 12, 2)), (cX11_init, 56, (.newarray .int, 2)), (cX11_init, 58, (.putfield 28, 3)), (cX11_init, 61, (.aload_n 0, 1)), (cX11_init, 62, (.bipush 12, 2)), (cX11_init, 64, (.newarray .int, 2)), (cX11_init, 66, (.putfield 31, 3)), (cX11_init, 69, (.aload_n 0, 1)), (cX11_init, 70, (.sipush 1440, 3)), (cX11_init, 73, (.newarray .long, 2)), (cX11_init, 75, (.putfield 34, 3)), (cX11_init, 78, (.aload_n 0, 1)), (cX11_init, 79, (.sipush 1440, 3)), (cX11_init, 82, (.newarray .long, 2)), (cX11_init, 84, (.putfield 38, 3)), (cX11_init, 87, (.aload_n 0, 1)), (cX11_init, 88, (.bipush 24, 2)), (cX11_init, 90, (.newarray .long, 2)), (cX11_init, 92, (.putfield 41, 3)), (cX11_init, 95, (.aload_n 0, 1)), (cX11_init, 96, (.sipush 288, 3))]
theorem dkB02decM0_0 : dkL02decM0_0.all (fun q => decide (decode q.1 q.2.1 = .ok q.2.2)) = true := by decide +kernel
theorem dX11_in_0 : decode cX11_in 0 = .ok (.lload_n 0, 1) := dk_at dkB02decM0_0 0 rfl
theorem dX11_in_1 : decode cX11_in 1 = .ok (.lload_n 2, 1) := dk_at dkB02decM0_0 1 rfl
theorem dX11_in_2 : decode cX11_in 2 = .ok (.lcmp, 1) := dk_at dkB02decM0_0 2 rfl
theorem dX11_in_3 : decode cX11_in 3 = .ok (.ifCond .lt 14, 3) := dk_at dkB02decM0_0 3 rfl
theorem dX11_in_6 : decode cX11_in 6 = .ok (.lload_n 0, 1) := dk_at dkB02decM0_0 4 rfl
theorem dX11_in_7 : decode cX11_in 7 = .ok (.lload 4, 2) := dk_at dkB02decM0_0 5 rfl
theorem dX11_in_9 : decode cX11_in 9 = .ok (.lcmp, 1) := dk_at dkB02decM0_0 6 rfl
theorem dX11_in_10 : decode cX11_in 10 = .ok (.ifCond .gt 7, 3) := dk_at dkB02decM0_0 7 rfl
theorem dX11_in_13 : decode cX11_in 13 = .ok (.iconst 1, 1) := dk_at dkB02decM0_0 8 rfl
theorem dX11_in_14 : decode cX11_in 14 = .ok (.goto 4, 3) := dk_at dkB02decM0_0 9 rfl
theorem dX11_in_17 : decode cX11_in 17 = .ok (.iconst 0, 1) := dk_at dkB02decM0_0 10 rfl
theorem dX11_in_18 : decode cX11_in 18 = .ok (.ireturn, 1) := dk_at dkB02decM0_0 11 rfl
theorem dX11_init_0 : decode cX11_init 0 = .ok (.aload_n 0, 1) := dk_at dkB02decM0_0 12 rfl
theorem dX11_init_1 : decode cX11_init 1 = .ok (.invokespecial 1, 3) := dk_at dkB02decM0_0 13 rfl
theorem dX11_init_4 : decode cX11_init 4 = .ok (.aload_n 0, 1) := dk_at dkB02decM0_0 14 rfl
theorem dX11_init_5 : decode cX11_init 5 = .ok (.sipush 392, 3) := dk_at dkB02decM0_0 15 rfl
theorem dX11_init_8 : decode cX11_init 8 = .ok (.newarray .int, 2) := dk_at dkB02decM0_0 16 rfl
theorem dX11_init_10 : decode cX11_init 10 = .ok (.putfield 7, 3) := dk_at dkB02decM0_0 17 rfl
theorem dX11_init_13 : decode cX11_init 13 = .ok (.aload_n 0, 1) := dk_at dkB02decM0_0 18 rfl
theorem dX11_init_14 : decode cX11_init 14 = .ok (.bipush 80, 2) := dk_at dkB02decM0_0 19 rfl
theorem dX11_init_16 : decode cX11_init 16 = .ok (.newarray .int, 2) := dk_at dkB02decM0_0 20 rfl
theorem dX11_init_18 : decode cX11_init 18 = .ok (.putfield 13, 3) := dk_at dkB02decM0_0 21 rfl
theorem dX11_init_21 : decode cX11_init 21 = .ok (.aload_n 0, 1) := dk_at dkB02decM0_0 22 rfl
theorem dX11_init_22 : decode cX11_init 22 = .ok (.bipush 66, 2) := dk_at dkB02decM0_0 23 rfl
theorem dX11_init_24 : decode cX11_init 24 = .ok (.newarray .int, 2) := dk_at dkB02decM0_0 24 rfl
theorem dX11_init_26 : decode cX11_init 26 = .ok (.putfield 16, 3) := dk_at dkB02decM0_0 25 rfl
theorem dX11_init_29 : decode cX11_init 29 = .ok (.aload_n 0, 1) := dk_at dkB02decM0_0 26 rfl
theorem dX11_init_30 : decode cX11_init 30 = .ok (.bipush 12, 2) := dk_at dkB02decM0_0 27 rfl
theorem dX11_init_32 : decode cX11_init 32 = .ok (.newarray .int, 2) := dk_at dkB02decM0_0 28 rfl
theorem dX11_init_34 : decode cX11_init 34 = .ok (.putfield 19, 3) := dk_at dkB02decM0_0 29 rfl
theorem dX11_init_37 : decode cX11_init 37 = .ok (.aload_n 0, 1) := dk_at dkB02decM0_0 30 rfl
theorem dX11_init_38 : decode cX11_init 38 = .ok (.bipush 12, 2) := dk_at dkB02decM0_0 31 rfl
theorem dX11_init_40 : decode cX11_init 40 = .ok (.newarray .int, 2) := dk_at dkB02decM0_0 32 rfl
theorem dX11_init_42 : decode cX11_init 42 = .ok (.putfield 22, 3) := dk_at dkB02decM0_0 33 rfl
theorem dX11_init_45 : decode cX11_init 45 = .ok (.aload_n 0, 1) := dk_at dkB02decM0_0 34 rfl
theorem dX11_init_46 : decode cX11_init 46 = .ok (.bipush 12, 2) := dk_at dkB02decM0_0 35 rfl
theorem dX11_init_48 : decode cX11_init 48 = .ok (.newarray .int, 2) := dk_at dkB02decM0_0 36 rfl
theorem dX11_init_50 : decode cX11_init 50 = .ok (.putfield 25, 3) := dk_at dkB02decM0_0 37 rfl
theorem dX11_init_53 : decode cX11_init 53 = .ok (.aload_n 0, 1) := dk_at dkB02decM0_0 38 rfl
theorem dX11_init_54 : decode cX11_init 54 = .ok (.bipush 12, 2) := dk_at dkB02decM0_0 39 rfl
theorem dX11_init_56 : decode cX11_init 56 = .ok (.newarray .int, 2) := dk_at dkB02decM0_0 40 rfl
theorem dX11_init_58 : decode cX11_init 58 = .ok (.putfield 28, 3) := dk_at dkB02decM0_0 41 rfl
theorem dX11_init_61 : decode cX11_init 61 = .ok (.aload_n 0, 1) := dk_at dkB02decM0_0 42 rfl
theorem dX11_init_62 : decode cX11_init 62 = .ok (.bipush 12, 2) := dk_at dkB02decM0_0 43 rfl
theorem dX11_init_64 : decode cX11_init 64 = .ok (.newarray .int, 2) := dk_at dkB02decM0_0 44 rfl
theorem dX11_init_66 : decode cX11_init 66 = .ok (.putfield 31, 3) := dk_at dkB02decM0_0 45 rfl
theorem dX11_init_69 : decode cX11_init 69 = .ok (.aload_n 0, 1) := dk_at dkB02decM0_0 46 rfl
theorem dX11_init_70 : decode cX11_init 70 = .ok (.sipush 1440, 3) := dk_at dkB02decM0_0 47 rfl
theorem dX11_init_73 : decode cX11_init 73 = .ok (.newarray .long, 2) := dk_at dkB02decM0_0 48 rfl
theorem dX11_init_75 : decode cX11_init 75 = .ok (.putfield 34, 3) := dk_at dkB02decM0_0 49 rfl
theorem dX11_init_78 : decode cX11_init 78 = .ok (.aload_n 0, 1) := dk_at dkB02decM0_0 50 rfl
theorem dX11_init_79 : decode cX11_init 79 = .ok (.sipush 1440, 3) := dk_at dkB02decM0_0 51 rfl
theorem dX11_init_82 : decode cX11_init 82 = .ok (.newarray .long, 2) := dk_at dkB02decM0_0 52 rfl
theorem dX11_init_84 : decode cX11_init 84 = .ok (.putfield 38, 3) := dk_at dkB02decM0_0 53 rfl
theorem dX11_init_87 : decode cX11_init 87 = .ok (.aload_n 0, 1) := dk_at dkB02decM0_0 54 rfl
theorem dX11_init_88 : decode cX11_init 88 = .ok (.bipush 24, 2) := dk_at dkB02decM0_0 55 rfl
theorem dX11_init_90 : decode cX11_init 90 = .ok (.newarray .long, 2) := dk_at dkB02decM0_0 56 rfl
theorem dX11_init_92 : decode cX11_init 92 = .ok (.putfield 41, 3) := dk_at dkB02decM0_0 57 rfl
theorem dX11_init_95 : decode cX11_init 95 = .ok (.aload_n 0, 1) := dk_at dkB02decM0_0 58 rfl
theorem dX11_init_96 : decode cX11_init 96 = .ok (.sipush 288, 3) := dk_at dkB02decM0_0 59 rfl
noncomputable def dkL02decM0_1 : List (ByteArray × Nat × Instr × Nat) := [(cX11_init, 99, (.newarray .long, 2)), (cX11_init, 101, (.putfield 44, 3)), (cX11_init, 104, (.aload_n 0, 1)), (cX11_init, 105, (.bipush 12, 2)), (cX11_init, 107, (.newarray .int, 2)), (cX11_init, 109, (.putfield 47, 3)), (cX11_init, 112, (.aload_n 0, 1)), (cX11_init, 113, (.sipush 20280, 3)), (cX11_init, 116, (.newarray .long, 2)), (cX11_init, 118, (.putfield 50, 3)), (cX11_init, 121, (.aload_n 0, 1)), (cX11_init, 122, (.sipush 20280, 3)), (cX11_init, 125, (.newarray .long, 2)), (cX11_init, 127, (.putfield 53, 3)), (cX11_init, 130, (.aload_n 0, 1)), (cX11_init, 131, (.sipush 392, 3)), (cX11_init, 134, (.newarray .int, 2)), (cX11_init, 136, (.putfield 56, 3)), (cX11_init, 139, (.aload_n 0, 1)), (cX11_init, 140, (.iconst 4, 1)), (cX11_init, 141, (.newarray .int, 2)), (cX11_init, 143, (.putfield 59, 3)), (cX11_init, 146, (.aload_n 0, 1)), (cX11_init, 147, (.iconst 4, 1)), (cX11_init, 148, (.newarray .int, 2)), (cX11_init, 150, (.putfield 62, 3)), (cX11_init, 153, (.aload_n 0, 1)), (cX11_init, 154, (.bipush 96, 2)), (cX11_init, 156, (.newarray .int, 2)), (cX11_init, 158, (.putfield 65, 3)), (cX11_init, 161, (.iconst 0, 1)), (cX11_init, 162, (.istore_n 1, 1)), (cX11_init, 163, (.iload_n 1, 1)), (cX11_init, 164, (.iconst 4, 1)), (cX11_init, 165, (.if_icmp .ge 16, 3)), (cX11_init, 168, (.aload_n 0, 1)), (cX11_init, 169, (.getfield 59, 3)), (cX11_init, 172, (.iload_n 1, 1)), (cX11_init, 173, (.iconst (-1), 1)), (cX11_init, 174, (.iastore, 1)), (cX11_init, 175, (.iinc 1 1, 3)), (cX11_init, 178, (.goto (-15), 3)), (cX11_init, 181, (.aload_n 0, 1)), (cX11_init, 182, (.getfield 7, 3)), (cX11_init, 185, (.iconst 0, 1)), (cX11_init, 186, (.iconst 1, 1)), (cX11_init, 187, (.iastore, 1)), (cX11_init, 188, (.aload_n 0, 1)), (cX11_init, 189, (.getfield 7, 3)), (cX11_init, 192, (.iconst 1, 1)), (cX11_init, 193, (.iconst 3, 1)), (cX11_init, 194, (.iastore, 1)), (cX11_init, 195, (.aload_n 0, 1)), (cX11_init, 196, (.getfield 7, 3)), (cX11_init, 199, (.iconst 3, 1)), (cX11_init, 200, (.iconst 2, 1)), (cX11_init, 201, (.iastore, 1)), (cX11_init, 202, (.aload_n 0, 1)), (cX11_init, 203, (.getfield 7, 3)), (cX11_init, 206, (.iconst 4, 1))]
theorem dkB02decM0_1 : dkL02decM0_1.all (fun q => decide (decode q.1 q.2.1 = .ok q.2.2)) = true := by decide +kernel
theorem dX11_init_99 : decode cX11_init 99 = .ok (.newarray .long, 2) := dk_at dkB02decM0_1 0 rfl
theorem dX11_init_101 : decode cX11_init 101 = .ok (.putfield 44, 3) := dk_at dkB02decM0_1 1 rfl
theorem dX11_init_104 : decode cX11_init 104 = .ok (.aload_n 0, 1) := dk_at dkB02decM0_1 2 rfl
theorem dX11_init_105 : decode cX11_init 105 = .ok (.bipush 12, 2) := dk_at dkB02decM0_1 3 rfl
theorem dX11_init_107 : decode cX11_init 107 = .ok (.newarray .int, 2) := dk_at dkB02decM0_1 4 rfl
theorem dX11_init_109 : decode cX11_init 109 = .ok (.putfield 47, 3) := dk_at dkB02decM0_1 5 rfl
theorem dX11_init_112 : decode cX11_init 112 = .ok (.aload_n 0, 1) := dk_at dkB02decM0_1 6 rfl
theorem dX11_init_113 : decode cX11_init 113 = .ok (.sipush 20280, 3) := dk_at dkB02decM0_1 7 rfl
theorem dX11_init_116 : decode cX11_init 116 = .ok (.newarray .long, 2) := dk_at dkB02decM0_1 8 rfl
theorem dX11_init_118 : decode cX11_init 118 = .ok (.putfield 50, 3) := dk_at dkB02decM0_1 9 rfl
theorem dX11_init_121 : decode cX11_init 121 = .ok (.aload_n 0, 1) := dk_at dkB02decM0_1 10 rfl
theorem dX11_init_122 : decode cX11_init 122 = .ok (.sipush 20280, 3) := dk_at dkB02decM0_1 11 rfl
theorem dX11_init_125 : decode cX11_init 125 = .ok (.newarray .long, 2) := dk_at dkB02decM0_1 12 rfl
theorem dX11_init_127 : decode cX11_init 127 = .ok (.putfield 53, 3) := dk_at dkB02decM0_1 13 rfl
theorem dX11_init_130 : decode cX11_init 130 = .ok (.aload_n 0, 1) := dk_at dkB02decM0_1 14 rfl
theorem dX11_init_131 : decode cX11_init 131 = .ok (.sipush 392, 3) := dk_at dkB02decM0_1 15 rfl
theorem dX11_init_134 : decode cX11_init 134 = .ok (.newarray .int, 2) := dk_at dkB02decM0_1 16 rfl
theorem dX11_init_136 : decode cX11_init 136 = .ok (.putfield 56, 3) := dk_at dkB02decM0_1 17 rfl
theorem dX11_init_139 : decode cX11_init 139 = .ok (.aload_n 0, 1) := dk_at dkB02decM0_1 18 rfl
theorem dX11_init_140 : decode cX11_init 140 = .ok (.iconst 4, 1) := dk_at dkB02decM0_1 19 rfl
theorem dX11_init_141 : decode cX11_init 141 = .ok (.newarray .int, 2) := dk_at dkB02decM0_1 20 rfl
theorem dX11_init_143 : decode cX11_init 143 = .ok (.putfield 59, 3) := dk_at dkB02decM0_1 21 rfl
theorem dX11_init_146 : decode cX11_init 146 = .ok (.aload_n 0, 1) := dk_at dkB02decM0_1 22 rfl
theorem dX11_init_147 : decode cX11_init 147 = .ok (.iconst 4, 1) := dk_at dkB02decM0_1 23 rfl
theorem dX11_init_148 : decode cX11_init 148 = .ok (.newarray .int, 2) := dk_at dkB02decM0_1 24 rfl
theorem dX11_init_150 : decode cX11_init 150 = .ok (.putfield 62, 3) := dk_at dkB02decM0_1 25 rfl
theorem dX11_init_153 : decode cX11_init 153 = .ok (.aload_n 0, 1) := dk_at dkB02decM0_1 26 rfl
theorem dX11_init_154 : decode cX11_init 154 = .ok (.bipush 96, 2) := dk_at dkB02decM0_1 27 rfl
theorem dX11_init_156 : decode cX11_init 156 = .ok (.newarray .int, 2) := dk_at dkB02decM0_1 28 rfl
theorem dX11_init_158 : decode cX11_init 158 = .ok (.putfield 65, 3) := dk_at dkB02decM0_1 29 rfl
theorem dX11_init_161 : decode cX11_init 161 = .ok (.iconst 0, 1) := dk_at dkB02decM0_1 30 rfl
theorem dX11_init_162 : decode cX11_init 162 = .ok (.istore_n 1, 1) := dk_at dkB02decM0_1 31 rfl
theorem dX11_init_163 : decode cX11_init 163 = .ok (.iload_n 1, 1) := dk_at dkB02decM0_1 32 rfl
theorem dX11_init_164 : decode cX11_init 164 = .ok (.iconst 4, 1) := dk_at dkB02decM0_1 33 rfl
theorem dX11_init_165 : decode cX11_init 165 = .ok (.if_icmp .ge 16, 3) := dk_at dkB02decM0_1 34 rfl
theorem dX11_init_168 : decode cX11_init 168 = .ok (.aload_n 0, 1) := dk_at dkB02decM0_1 35 rfl
theorem dX11_init_169 : decode cX11_init 169 = .ok (.getfield 59, 3) := dk_at dkB02decM0_1 36 rfl
theorem dX11_init_172 : decode cX11_init 172 = .ok (.iload_n 1, 1) := dk_at dkB02decM0_1 37 rfl
theorem dX11_init_173 : decode cX11_init 173 = .ok (.iconst (-1), 1) := dk_at dkB02decM0_1 38 rfl
theorem dX11_init_174 : decode cX11_init 174 = .ok (.iastore, 1) := dk_at dkB02decM0_1 39 rfl
theorem dX11_init_175 : decode cX11_init 175 = .ok (.iinc 1 1, 3) := dk_at dkB02decM0_1 40 rfl
theorem dX11_init_178 : decode cX11_init 178 = .ok (.goto (-15), 3) := dk_at dkB02decM0_1 41 rfl
theorem dX11_init_181 : decode cX11_init 181 = .ok (.aload_n 0, 1) := dk_at dkB02decM0_1 42 rfl
theorem dX11_init_182 : decode cX11_init 182 = .ok (.getfield 7, 3) := dk_at dkB02decM0_1 43 rfl
theorem dX11_init_185 : decode cX11_init 185 = .ok (.iconst 0, 1) := dk_at dkB02decM0_1 44 rfl
theorem dX11_init_186 : decode cX11_init 186 = .ok (.iconst 1, 1) := dk_at dkB02decM0_1 45 rfl
theorem dX11_init_187 : decode cX11_init 187 = .ok (.iastore, 1) := dk_at dkB02decM0_1 46 rfl
theorem dX11_init_188 : decode cX11_init 188 = .ok (.aload_n 0, 1) := dk_at dkB02decM0_1 47 rfl
theorem dX11_init_189 : decode cX11_init 189 = .ok (.getfield 7, 3) := dk_at dkB02decM0_1 48 rfl
theorem dX11_init_192 : decode cX11_init 192 = .ok (.iconst 1, 1) := dk_at dkB02decM0_1 49 rfl
theorem dX11_init_193 : decode cX11_init 193 = .ok (.iconst 3, 1) := dk_at dkB02decM0_1 50 rfl
theorem dX11_init_194 : decode cX11_init 194 = .ok (.iastore, 1) := dk_at dkB02decM0_1 51 rfl
theorem dX11_init_195 : decode cX11_init 195 = .ok (.aload_n 0, 1) := dk_at dkB02decM0_1 52 rfl
theorem dX11_init_196 : decode cX11_init 196 = .ok (.getfield 7, 3) := dk_at dkB02decM0_1 53 rfl
theorem dX11_init_199 : decode cX11_init 199 = .ok (.iconst 3, 1) := dk_at dkB02decM0_1 54 rfl
theorem dX11_init_200 : decode cX11_init 200 = .ok (.iconst 2, 1) := dk_at dkB02decM0_1 55 rfl
theorem dX11_init_201 : decode cX11_init 201 = .ok (.iastore, 1) := dk_at dkB02decM0_1 56 rfl
theorem dX11_init_202 : decode cX11_init 202 = .ok (.aload_n 0, 1) := dk_at dkB02decM0_1 57 rfl
theorem dX11_init_203 : decode cX11_init 203 = .ok (.getfield 7, 3) := dk_at dkB02decM0_1 58 rfl
theorem dX11_init_206 : decode cX11_init 206 = .ok (.iconst 4, 1) := dk_at dkB02decM0_1 59 rfl
noncomputable def dkL02decM0_2 : List (ByteArray × Nat × Instr × Nat) := [(cX11_init, 207, (.iconst 2, 1)), (cX11_init, 208, (.iastore, 1)), (cX11_init, 209, (.return_, 1)), (cX11_isYear, 0, (.iload_n 0, 1)), (cX11_isYear, 1, (.i2l, 1)), (cX11_isYear, 2, (.lconst 0, 1)), (cX11_isYear, 3, (.ldc2_w 68, 3)), (cX11_isYear, 6, (.invokestatic 70, 3)), (cX11_isYear, 9, (.ireturn, 1)), (cX11_isCandle, 0, (.iload_n 0, 1)), (cX11_isCandle, 1, (.i2l, 1)), (cX11_isCandle, 2, (.lconst 0, 1)), (cX11_isCandle, 3, (.lconst 1, 1)), (cX11_isCandle, 4, (.invokestatic 70, 3)), (cX11_isCandle, 7, (.ireturn, 1)), (cX11_isThing, 0, (.iload_n 2, 1)), (cX11_isThing, 1, (.i2l, 1)), (cX11_isThing, 2, (.lconst 0, 1)), (cX11_isThing, 3, (.aload_n 0, 1)), (cX11_isThing, 4, (.getfield 7, 3)), (cX11_isThing, 7, (.iconst 5, 1)), (cX11_isThing, 8, (.iload_n 1, 1)), (cX11_isThing, 9, (.iadd, 1)), (cX11_isThing, 10, (.iaload, 1)), (cX11_isThing, 11, (.iconst 1, 1)), (cX11_isThing, 12, (.isub, 1)), (cX11_isThing, 13, (.i2l, 1)), (cX11_isThing, 14, (.invokestatic 70, 3)), (cX11_isThing, 17, (.ireturn, 1)), (cX11_kindOf, 0, (.aload_n 0, 1)), (cX11_kindOf, 1, (.getfield 7, 3)), (cX11_kindOf, 4, (.sipush 158, 3)), (cX11_kindOf, 7, (.bipush 12, 2)), (cX11_kindOf, 9, (.iload_n 1, 1)), (cX11_kindOf, 10, (.imul, 1)), (cX11_kindOf, 11, (.iadd, 1)), (cX11_kindOf, 12, (.iload_n 2, 1)), (cX11_kindOf, 13, (.iadd, 1)), (cX11_kindOf, 14, (.iaload, 1)), (cX11_kindOf, 15, (.ireturn, 1)), (cX11_weightOf, 0, (.aload_n 0, 1)), (cX11_weightOf, 1, (.getfield 7, 3)), (cX11_weightOf, 4, (.sipush 182, 3)), (cX11_weightOf, 7, (.bipush 12, 2)), (cX11_weightOf, 9, (.iload_n 1, 1)), (cX11_weightOf, 10, (.imul, 1)), (cX11_weightOf, 11, (.iadd, 1)), (cX11_weightOf, 12, (.iload_n 2, 1)), (cX11_weightOf, 13, (.iadd, 1)), (cX11_weightOf, 14, (.iaload, 1)), (cX11_weightOf, 15, (.ireturn, 1)), (cX11_mayRain, 0, (.iload_n 0, 1)), (cX11_mayRain, 1, (.ifCond .eq 8, 3)), (cX11_mayRain, 4, (.iload_n 0, 1)), (cX11_mayRain, 5, (.iconst 2, 1)), (cX11_mayRain, 6, (.if_icmp .ne 15, 3)), (cX11_mayRain, 9, (.iload_n 1, 1)), (cX11_mayRain, 10, (.i2l, 1)), (cX11_mayRain, 11, (.lconst 0, 1)), (cX11_mayRain, 12, (.ldc2_w 74, 3))]
theorem dkB02decM0_2 : dkL02decM0_2.all (fun q => decide (decode q.1 q.2.1 = .ok q.2.2)) = true := by decide +kernel
theorem dX11_init_207 : decode cX11_init 207 = .ok (.iconst 2, 1) := dk_at dkB02decM0_2 0 rfl
theorem dX11_init_208 : decode cX11_init 208 = .ok (.iastore, 1) := dk_at dkB02decM0_2 1 rfl
theorem dX11_init_209 : decode cX11_init 209 = .ok (.return_, 1) := dk_at dkB02decM0_2 2 rfl
theorem dX11_isYear_0 : decode cX11_isYear 0 = .ok (.iload_n 0, 1) := dk_at dkB02decM0_2 3 rfl
theorem dX11_isYear_1 : decode cX11_isYear 1 = .ok (.i2l, 1) := dk_at dkB02decM0_2 4 rfl
theorem dX11_isYear_2 : decode cX11_isYear 2 = .ok (.lconst 0, 1) := dk_at dkB02decM0_2 5 rfl
theorem dX11_isYear_3 : decode cX11_isYear 3 = .ok (.ldc2_w 68, 3) := dk_at dkB02decM0_2 6 rfl
theorem dX11_isYear_6 : decode cX11_isYear 6 = .ok (.invokestatic 70, 3) := dk_at dkB02decM0_2 7 rfl
theorem dX11_isYear_9 : decode cX11_isYear 9 = .ok (.ireturn, 1) := dk_at dkB02decM0_2 8 rfl
theorem dX11_isCandle_0 : decode cX11_isCandle 0 = .ok (.iload_n 0, 1) := dk_at dkB02decM0_2 9 rfl
theorem dX11_isCandle_1 : decode cX11_isCandle 1 = .ok (.i2l, 1) := dk_at dkB02decM0_2 10 rfl
theorem dX11_isCandle_2 : decode cX11_isCandle 2 = .ok (.lconst 0, 1) := dk_at dkB02decM0_2 11 rfl
theorem dX11_isCandle_3 : decode cX11_isCandle 3 = .ok (.lconst 1, 1) := dk_at dkB02decM0_2 12 rfl
theorem dX11_isCandle_4 : decode cX11_isCandle 4 = .ok (.invokestatic 70, 3) := dk_at dkB02decM0_2 13 rfl
theorem dX11_isCandle_7 : decode cX11_isCandle 7 = .ok (.ireturn, 1) := dk_at dkB02decM0_2 14 rfl
theorem dX11_isThing_0 : decode cX11_isThing 0 = .ok (.iload_n 2, 1) := dk_at dkB02decM0_2 15 rfl
theorem dX11_isThing_1 : decode cX11_isThing 1 = .ok (.i2l, 1) := dk_at dkB02decM0_2 16 rfl
theorem dX11_isThing_2 : decode cX11_isThing 2 = .ok (.lconst 0, 1) := dk_at dkB02decM0_2 17 rfl
theorem dX11_isThing_3 : decode cX11_isThing 3 = .ok (.aload_n 0, 1) := dk_at dkB02decM0_2 18 rfl
theorem dX11_isThing_4 : decode cX11_isThing 4 = .ok (.getfield 7, 3) := dk_at dkB02decM0_2 19 rfl
theorem dX11_isThing_7 : decode cX11_isThing 7 = .ok (.iconst 5, 1) := dk_at dkB02decM0_2 20 rfl
theorem dX11_isThing_8 : decode cX11_isThing 8 = .ok (.iload_n 1, 1) := dk_at dkB02decM0_2 21 rfl
theorem dX11_isThing_9 : decode cX11_isThing 9 = .ok (.iadd, 1) := dk_at dkB02decM0_2 22 rfl
theorem dX11_isThing_10 : decode cX11_isThing 10 = .ok (.iaload, 1) := dk_at dkB02decM0_2 23 rfl
theorem dX11_isThing_11 : decode cX11_isThing 11 = .ok (.iconst 1, 1) := dk_at dkB02decM0_2 24 rfl
theorem dX11_isThing_12 : decode cX11_isThing 12 = .ok (.isub, 1) := dk_at dkB02decM0_2 25 rfl
theorem dX11_isThing_13 : decode cX11_isThing 13 = .ok (.i2l, 1) := dk_at dkB02decM0_2 26 rfl
theorem dX11_isThing_14 : decode cX11_isThing 14 = .ok (.invokestatic 70, 3) := dk_at dkB02decM0_2 27 rfl
theorem dX11_isThing_17 : decode cX11_isThing 17 = .ok (.ireturn, 1) := dk_at dkB02decM0_2 28 rfl
theorem dX11_kindOf_0 : decode cX11_kindOf 0 = .ok (.aload_n 0, 1) := dk_at dkB02decM0_2 29 rfl
theorem dX11_kindOf_1 : decode cX11_kindOf 1 = .ok (.getfield 7, 3) := dk_at dkB02decM0_2 30 rfl
theorem dX11_kindOf_4 : decode cX11_kindOf 4 = .ok (.sipush 158, 3) := dk_at dkB02decM0_2 31 rfl
theorem dX11_kindOf_7 : decode cX11_kindOf 7 = .ok (.bipush 12, 2) := dk_at dkB02decM0_2 32 rfl
theorem dX11_kindOf_9 : decode cX11_kindOf 9 = .ok (.iload_n 1, 1) := dk_at dkB02decM0_2 33 rfl
theorem dX11_kindOf_10 : decode cX11_kindOf 10 = .ok (.imul, 1) := dk_at dkB02decM0_2 34 rfl
theorem dX11_kindOf_11 : decode cX11_kindOf 11 = .ok (.iadd, 1) := dk_at dkB02decM0_2 35 rfl
theorem dX11_kindOf_12 : decode cX11_kindOf 12 = .ok (.iload_n 2, 1) := dk_at dkB02decM0_2 36 rfl
theorem dX11_kindOf_13 : decode cX11_kindOf 13 = .ok (.iadd, 1) := dk_at dkB02decM0_2 37 rfl
theorem dX11_kindOf_14 : decode cX11_kindOf 14 = .ok (.iaload, 1) := dk_at dkB02decM0_2 38 rfl
theorem dX11_kindOf_15 : decode cX11_kindOf 15 = .ok (.ireturn, 1) := dk_at dkB02decM0_2 39 rfl
theorem dX11_weightOf_0 : decode cX11_weightOf 0 = .ok (.aload_n 0, 1) := dk_at dkB02decM0_2 40 rfl
theorem dX11_weightOf_1 : decode cX11_weightOf 1 = .ok (.getfield 7, 3) := dk_at dkB02decM0_2 41 rfl
theorem dX11_weightOf_4 : decode cX11_weightOf 4 = .ok (.sipush 182, 3) := dk_at dkB02decM0_2 42 rfl
theorem dX11_weightOf_7 : decode cX11_weightOf 7 = .ok (.bipush 12, 2) := dk_at dkB02decM0_2 43 rfl
theorem dX11_weightOf_9 : decode cX11_weightOf 9 = .ok (.iload_n 1, 1) := dk_at dkB02decM0_2 44 rfl
theorem dX11_weightOf_10 : decode cX11_weightOf 10 = .ok (.imul, 1) := dk_at dkB02decM0_2 45 rfl
theorem dX11_weightOf_11 : decode cX11_weightOf 11 = .ok (.iadd, 1) := dk_at dkB02decM0_2 46 rfl
theorem dX11_weightOf_12 : decode cX11_weightOf 12 = .ok (.iload_n 2, 1) := dk_at dkB02decM0_2 47 rfl
theorem dX11_weightOf_13 : decode cX11_weightOf 13 = .ok (.iadd, 1) := dk_at dkB02decM0_2 48 rfl
theorem dX11_weightOf_14 : decode cX11_weightOf 14 = .ok (.iaload, 1) := dk_at dkB02decM0_2 49 rfl
theorem dX11_weightOf_15 : decode cX11_weightOf 15 = .ok (.ireturn, 1) := dk_at dkB02decM0_2 50 rfl
theorem dX11_mayRain_0 : decode cX11_mayRain 0 = .ok (.iload_n 0, 1) := dk_at dkB02decM0_2 51 rfl
theorem dX11_mayRain_1 : decode cX11_mayRain 1 = .ok (.ifCond .eq 8, 3) := dk_at dkB02decM0_2 52 rfl
theorem dX11_mayRain_4 : decode cX11_mayRain 4 = .ok (.iload_n 0, 1) := dk_at dkB02decM0_2 53 rfl
theorem dX11_mayRain_5 : decode cX11_mayRain 5 = .ok (.iconst 2, 1) := dk_at dkB02decM0_2 54 rfl
theorem dX11_mayRain_6 : decode cX11_mayRain 6 = .ok (.if_icmp .ne 15, 3) := dk_at dkB02decM0_2 55 rfl
theorem dX11_mayRain_9 : decode cX11_mayRain 9 = .ok (.iload_n 1, 1) := dk_at dkB02decM0_2 56 rfl
theorem dX11_mayRain_10 : decode cX11_mayRain 10 = .ok (.i2l, 1) := dk_at dkB02decM0_2 57 rfl
theorem dX11_mayRain_11 : decode cX11_mayRain 11 = .ok (.lconst 0, 1) := dk_at dkB02decM0_2 58 rfl
theorem dX11_mayRain_12 : decode cX11_mayRain 12 = .ok (.ldc2_w 74, 3) := dk_at dkB02decM0_2 59 rfl
noncomputable def dkL02decM0_3 : List (ByteArray × Nat × Instr × Nat) := [(cX11_mayRain, 15, (.invokestatic 70, 3)), (cX11_mayRain, 18, (.goto 27, 3)), (cX11_mayRain, 21, (.iload_n 0, 1)), (cX11_mayRain, 22, (.iconst 1, 1)), (cX11_mayRain, 23, (.if_icmp .ne 21, 3)), (cX11_mayRain, 26, (.iload_n 1, 1)), (cX11_mayRain, 27, (.i2l, 1)), (cX11_mayRain, 28, (.ldc2_w 76, 3)), (cX11_mayRain, 31, (.ldc2_w 78, 3)), (cX11_mayRain, 34, (.invokestatic 70, 3)), (cX11_mayRain, 37, (.ifCond .eq 7, 3)), (cX11_mayRain, 40, (.iconst 1, 1)), (cX11_mayRain, 41, (.goto 4, 3)), (cX11_mayRain, 44, (.iconst 0, 1)), (cX11_mayRain, 45, (.ireturn, 1)), (cX11_rain, 0, (.iload_n 1, 1)), (cX11_rain, 1, (.invokestatic 80, 3)), (cX11_rain, 4, (.ifCond .eq 11, 3)), (cX11_rain, 7, (.iload_n 2, 1)), (cX11_rain, 8, (.iload_n 3, 1)), (cX11_rain, 9, (.invokestatic 84, 3)), (cX11_rain, 12, (.ifCond .ne 7, 3)), (cX11_rain, 15, (.sipush (-1001), 3)), (cX11_rain, 18, (.ireturn, 1)), (cX11_rain, 19, (.aload_n 0, 1)), (cX11_rain, 20, (.getfield 7, 3)), (cX11_rain, 23, (.bipush 20, 2)), (cX11_rain, 25, (.iconst 3, 1)), (cX11_rain, 26, (.iload_n 1, 1)), (cX11_rain, 27, (.imul, 1)), (cX11_rain, 28, (.iadd, 1)), (cX11_rain, 29, (.iload_n 2, 1)), (cX11_rain, 30, (.iadd, 1)), (cX11_rain, 31, (.iaload, 1)), (cX11_rain, 32, (.istore 4, 2)), (cX11_rain, 34, (.aload_n 0, 1)), (cX11_rain, 35, (.getfield 7, 3)), (cX11_rain, 38, (.bipush 20, 2)), (cX11_rain, 40, (.iconst 3, 1)), (cX11_rain, 41, (.iload_n 1, 1)), (cX11_rain, 42, (.imul, 1)), (cX11_rain, 43, (.iadd, 1)), (cX11_rain, 44, (.iload_n 2, 1)), (cX11_rain, 45, (.iadd, 1)), (cX11_rain, 46, (.iload_n 3, 1)), (cX11_rain, 47, (.iastore, 1)), (cX11_rain, 48, (.iload 4, 2)), (cX11_rain, 50, (.ireturn, 1)), (cX11_set, 0, (.iload_n 1, 1)), (cX11_set, 1, (.ifCond .ne 18, 3)), (cX11_set, 4, (.iload_n 2, 1)), (cX11_set, 5, (.i2l, 1)), (cX11_set, 6, (.lconst 1, 1)), (cX11_set, 7, (.ldc2_w 88, 3)), (cX11_set, 10, (.invokestatic 70, 3)), (cX11_set, 13, (.ifCond .ne 25, 3)), (cX11_set, 16, (.goto 20, 3)), (cX11_set, 19, (.iload_n 1, 1)), (cX11_set, 20, (.iconst 1, 1)), (cX11_set, 21, (.if_icmp .ne 15, 3))]
theorem dkB02decM0_3 : dkL02decM0_3.all (fun q => decide (decode q.1 q.2.1 = .ok q.2.2)) = true := by decide +kernel
theorem dX11_mayRain_15 : decode cX11_mayRain 15 = .ok (.invokestatic 70, 3) := dk_at dkB02decM0_3 0 rfl
theorem dX11_mayRain_18 : decode cX11_mayRain 18 = .ok (.goto 27, 3) := dk_at dkB02decM0_3 1 rfl
theorem dX11_mayRain_21 : decode cX11_mayRain 21 = .ok (.iload_n 0, 1) := dk_at dkB02decM0_3 2 rfl
theorem dX11_mayRain_22 : decode cX11_mayRain 22 = .ok (.iconst 1, 1) := dk_at dkB02decM0_3 3 rfl
theorem dX11_mayRain_23 : decode cX11_mayRain 23 = .ok (.if_icmp .ne 21, 3) := dk_at dkB02decM0_3 4 rfl
theorem dX11_mayRain_26 : decode cX11_mayRain 26 = .ok (.iload_n 1, 1) := dk_at dkB02decM0_3 5 rfl
theorem dX11_mayRain_27 : decode cX11_mayRain 27 = .ok (.i2l, 1) := dk_at dkB02decM0_3 6 rfl
theorem dX11_mayRain_28 : decode cX11_mayRain 28 = .ok (.ldc2_w 76, 3) := dk_at dkB02decM0_3 7 rfl
theorem dX11_mayRain_31 : decode cX11_mayRain 31 = .ok (.ldc2_w 78, 3) := dk_at dkB02decM0_3 8 rfl
theorem dX11_mayRain_34 : decode cX11_mayRain 34 = .ok (.invokestatic 70, 3) := dk_at dkB02decM0_3 9 rfl
theorem dX11_mayRain_37 : decode cX11_mayRain 37 = .ok (.ifCond .eq 7, 3) := dk_at dkB02decM0_3 10 rfl
theorem dX11_mayRain_40 : decode cX11_mayRain 40 = .ok (.iconst 1, 1) := dk_at dkB02decM0_3 11 rfl
theorem dX11_mayRain_41 : decode cX11_mayRain 41 = .ok (.goto 4, 3) := dk_at dkB02decM0_3 12 rfl
theorem dX11_mayRain_44 : decode cX11_mayRain 44 = .ok (.iconst 0, 1) := dk_at dkB02decM0_3 13 rfl
theorem dX11_mayRain_45 : decode cX11_mayRain 45 = .ok (.ireturn, 1) := dk_at dkB02decM0_3 14 rfl
theorem dX11_rain_0 : decode cX11_rain 0 = .ok (.iload_n 1, 1) := dk_at dkB02decM0_3 15 rfl
theorem dX11_rain_1 : decode cX11_rain 1 = .ok (.invokestatic 80, 3) := dk_at dkB02decM0_3 16 rfl
theorem dX11_rain_4 : decode cX11_rain 4 = .ok (.ifCond .eq 11, 3) := dk_at dkB02decM0_3 17 rfl
theorem dX11_rain_7 : decode cX11_rain 7 = .ok (.iload_n 2, 1) := dk_at dkB02decM0_3 18 rfl
theorem dX11_rain_8 : decode cX11_rain 8 = .ok (.iload_n 3, 1) := dk_at dkB02decM0_3 19 rfl
theorem dX11_rain_9 : decode cX11_rain 9 = .ok (.invokestatic 84, 3) := dk_at dkB02decM0_3 20 rfl
theorem dX11_rain_12 : decode cX11_rain 12 = .ok (.ifCond .ne 7, 3) := dk_at dkB02decM0_3 21 rfl
theorem dX11_rain_15 : decode cX11_rain 15 = .ok (.sipush (-1001), 3) := dk_at dkB02decM0_3 22 rfl
theorem dX11_rain_18 : decode cX11_rain 18 = .ok (.ireturn, 1) := dk_at dkB02decM0_3 23 rfl
theorem dX11_rain_19 : decode cX11_rain 19 = .ok (.aload_n 0, 1) := dk_at dkB02decM0_3 24 rfl
theorem dX11_rain_20 : decode cX11_rain 20 = .ok (.getfield 7, 3) := dk_at dkB02decM0_3 25 rfl
theorem dX11_rain_23 : decode cX11_rain 23 = .ok (.bipush 20, 2) := dk_at dkB02decM0_3 26 rfl
theorem dX11_rain_25 : decode cX11_rain 25 = .ok (.iconst 3, 1) := dk_at dkB02decM0_3 27 rfl
theorem dX11_rain_26 : decode cX11_rain 26 = .ok (.iload_n 1, 1) := dk_at dkB02decM0_3 28 rfl
theorem dX11_rain_27 : decode cX11_rain 27 = .ok (.imul, 1) := dk_at dkB02decM0_3 29 rfl
theorem dX11_rain_28 : decode cX11_rain 28 = .ok (.iadd, 1) := dk_at dkB02decM0_3 30 rfl
theorem dX11_rain_29 : decode cX11_rain 29 = .ok (.iload_n 2, 1) := dk_at dkB02decM0_3 31 rfl
theorem dX11_rain_30 : decode cX11_rain 30 = .ok (.iadd, 1) := dk_at dkB02decM0_3 32 rfl
theorem dX11_rain_31 : decode cX11_rain 31 = .ok (.iaload, 1) := dk_at dkB02decM0_3 33 rfl
theorem dX11_rain_32 : decode cX11_rain 32 = .ok (.istore 4, 2) := dk_at dkB02decM0_3 34 rfl
theorem dX11_rain_34 : decode cX11_rain 34 = .ok (.aload_n 0, 1) := dk_at dkB02decM0_3 35 rfl
theorem dX11_rain_35 : decode cX11_rain 35 = .ok (.getfield 7, 3) := dk_at dkB02decM0_3 36 rfl
theorem dX11_rain_38 : decode cX11_rain 38 = .ok (.bipush 20, 2) := dk_at dkB02decM0_3 37 rfl
theorem dX11_rain_40 : decode cX11_rain 40 = .ok (.iconst 3, 1) := dk_at dkB02decM0_3 38 rfl
theorem dX11_rain_41 : decode cX11_rain 41 = .ok (.iload_n 1, 1) := dk_at dkB02decM0_3 39 rfl
theorem dX11_rain_42 : decode cX11_rain 42 = .ok (.imul, 1) := dk_at dkB02decM0_3 40 rfl
theorem dX11_rain_43 : decode cX11_rain 43 = .ok (.iadd, 1) := dk_at dkB02decM0_3 41 rfl
theorem dX11_rain_44 : decode cX11_rain 44 = .ok (.iload_n 2, 1) := dk_at dkB02decM0_3 42 rfl
theorem dX11_rain_45 : decode cX11_rain 45 = .ok (.iadd, 1) := dk_at dkB02decM0_3 43 rfl
theorem dX11_rain_46 : decode cX11_rain 46 = .ok (.iload_n 3, 1) := dk_at dkB02decM0_3 44 rfl
theorem dX11_rain_47 : decode cX11_rain 47 = .ok (.iastore, 1) := dk_at dkB02decM0_3 45 rfl
theorem dX11_rain_48 : decode cX11_rain 48 = .ok (.iload 4, 2) := dk_at dkB02decM0_3 46 rfl
theorem dX11_rain_50 : decode cX11_rain 50 = .ok (.ireturn, 1) := dk_at dkB02decM0_3 47 rfl
theorem dX11_set_0 : decode cX11_set 0 = .ok (.iload_n 1, 1) := dk_at dkB02decM0_3 48 rfl
theorem dX11_set_1 : decode cX11_set 1 = .ok (.ifCond .ne 18, 3) := dk_at dkB02decM0_3 49 rfl
theorem dX11_set_4 : decode cX11_set 4 = .ok (.iload_n 2, 1) := dk_at dkB02decM0_3 50 rfl
theorem dX11_set_5 : decode cX11_set 5 = .ok (.i2l, 1) := dk_at dkB02decM0_3 51 rfl
theorem dX11_set_6 : decode cX11_set 6 = .ok (.lconst 1, 1) := dk_at dkB02decM0_3 52 rfl
theorem dX11_set_7 : decode cX11_set 7 = .ok (.ldc2_w 88, 3) := dk_at dkB02decM0_3 53 rfl
theorem dX11_set_10 : decode cX11_set 10 = .ok (.invokestatic 70, 3) := dk_at dkB02decM0_3 54 rfl
theorem dX11_set_13 : decode cX11_set 13 = .ok (.ifCond .ne 25, 3) := dk_at dkB02decM0_3 55 rfl
theorem dX11_set_16 : decode cX11_set 16 = .ok (.goto 20, 3) := dk_at dkB02decM0_3 56 rfl
theorem dX11_set_19 : decode cX11_set 19 = .ok (.iload_n 1, 1) := dk_at dkB02decM0_3 57 rfl
theorem dX11_set_20 : decode cX11_set 20 = .ok (.iconst 1, 1) := dk_at dkB02decM0_3 58 rfl
theorem dX11_set_21 : decode cX11_set 21 = .ok (.if_icmp .ne 15, 3) := dk_at dkB02decM0_3 59 rfl
noncomputable def dkL02decM0_4 : List (ByteArray × Nat × Instr × Nat) := [(cX11_set, 24, (.iload_n 2, 1)), (cX11_set, 25, (.i2l, 1)), (cX11_set, 26, (.lconst 1, 1)), (cX11_set, 27, (.ldc2_w 74, 3)), (cX11_set, 30, (.invokestatic 70, 3)), (cX11_set, 33, (.ifCond .ne 5, 3)), (cX11_set, 36, (.iconst (-1), 1)), (cX11_set, 37, (.ireturn, 1)), (cX11_set, 38, (.aload_n 0, 1)), (cX11_set, 39, (.getfield 7, 3)), (cX11_set, 42, (.iconst 0, 1)), (cX11_set, 43, (.iload_n 1, 1)), (cX11_set, 44, (.iadd, 1)), (cX11_set, 45, (.iaload, 1)), (cX11_set, 46, (.istore_n 3, 1)), (cX11_set, 47, (.aload_n 0, 1)), (cX11_set, 48, (.getfield 7, 3)), (cX11_set, 51, (.iconst 0, 1)), (cX11_set, 52, (.iload_n 1, 1)), (cX11_set, 53, (.iadd, 1)), (cX11_set, 54, (.iload_n 2, 1)), (cX11_set, 55, (.iastore, 1)), (cX11_set, 56, (.iload_n 3, 1)), (cX11_set, 57, (.ireturn, 1)), (cX11_wetBy, 0, (.iconst 0, 1)), (cX11_wetBy, 1, (.istore_n 3, 1)), (cX11_wetBy, 2, (.iload_n 1, 1)), (cX11_wetBy, 3, (.istore 4, 2)), (cX11_wetBy, 5, (.iload 4, 2)), (cX11_wetBy, 7, (.iload_n 1, 1)), (cX11_wetBy, 8, (.iload_n 2, 1)), (cX11_wetBy, 9, (.isub, 1)), (cX11_wetBy, 10, (.if_icmp .le 29, 3)), (cX11_wetBy, 13, (.iload 4, 2)), (cX11_wetBy, 15, (.ifCond .lt 24, 3)), (cX11_wetBy, 18, (.iload_n 3, 1)), (cX11_wetBy, 19, (.aload_n 0, 1)), (cX11_wetBy, 20, (.getfield 7, 3)), (cX11_wetBy, 23, (.bipush 20, 2)), (cX11_wetBy, 25, (.iconst 3, 1)), (cX11_wetBy, 26, (.iload 4, 2)), (cX11_wetBy, 28, (.imul, 1)), (cX11_wetBy, 29, (.iadd, 1)), (cX11_wetBy, 30, (.iaload, 1)), (cX11_wetBy, 31, (.iadd, 1)), (cX11_wetBy, 32, (.istore_n 3, 1)), (cX11_wetBy, 33, (.iinc 4 (-1), 3)), (cX11_wetBy, 36, (.goto (-31), 3)), (cX11_wetBy, 39, (.iload_n 3, 1)), (cX11_wetBy, 40, (.ireturn, 1)), (cX11_waterBy, 0, (.iconst 0, 1)), (cX11_waterBy, 1, (.istore_n 3, 1)), (cX11_waterBy, 2, (.iload_n 1, 1)), (cX11_waterBy, 3, (.istore 4, 2)), (cX11_waterBy, 5, (.iload 4, 2)), (cX11_waterBy, 7, (.iload_n 1, 1)), (cX11_waterBy, 8, (.iload_n 2, 1)), (cX11_waterBy, 9, (.isub, 1)), (cX11_waterBy, 10, (.if_icmp .le 44, 3)), (cX11_waterBy, 13, (.iload 4, 2))]
theorem dkB02decM0_4 : dkL02decM0_4.all (fun q => decide (decode q.1 q.2.1 = .ok q.2.2)) = true := by decide +kernel
theorem dX11_set_24 : decode cX11_set 24 = .ok (.iload_n 2, 1) := dk_at dkB02decM0_4 0 rfl
theorem dX11_set_25 : decode cX11_set 25 = .ok (.i2l, 1) := dk_at dkB02decM0_4 1 rfl
theorem dX11_set_26 : decode cX11_set 26 = .ok (.lconst 1, 1) := dk_at dkB02decM0_4 2 rfl
theorem dX11_set_27 : decode cX11_set 27 = .ok (.ldc2_w 74, 3) := dk_at dkB02decM0_4 3 rfl
theorem dX11_set_30 : decode cX11_set 30 = .ok (.invokestatic 70, 3) := dk_at dkB02decM0_4 4 rfl
theorem dX11_set_33 : decode cX11_set 33 = .ok (.ifCond .ne 5, 3) := dk_at dkB02decM0_4 5 rfl
theorem dX11_set_36 : decode cX11_set 36 = .ok (.iconst (-1), 1) := dk_at dkB02decM0_4 6 rfl
theorem dX11_set_37 : decode cX11_set 37 = .ok (.ireturn, 1) := dk_at dkB02decM0_4 7 rfl
theorem dX11_set_38 : decode cX11_set 38 = .ok (.aload_n 0, 1) := dk_at dkB02decM0_4 8 rfl
theorem dX11_set_39 : decode cX11_set 39 = .ok (.getfield 7, 3) := dk_at dkB02decM0_4 9 rfl
theorem dX11_set_42 : decode cX11_set 42 = .ok (.iconst 0, 1) := dk_at dkB02decM0_4 10 rfl
theorem dX11_set_43 : decode cX11_set 43 = .ok (.iload_n 1, 1) := dk_at dkB02decM0_4 11 rfl
theorem dX11_set_44 : decode cX11_set 44 = .ok (.iadd, 1) := dk_at dkB02decM0_4 12 rfl
theorem dX11_set_45 : decode cX11_set 45 = .ok (.iaload, 1) := dk_at dkB02decM0_4 13 rfl
theorem dX11_set_46 : decode cX11_set 46 = .ok (.istore_n 3, 1) := dk_at dkB02decM0_4 14 rfl
theorem dX11_set_47 : decode cX11_set 47 = .ok (.aload_n 0, 1) := dk_at dkB02decM0_4 15 rfl
theorem dX11_set_48 : decode cX11_set 48 = .ok (.getfield 7, 3) := dk_at dkB02decM0_4 16 rfl
theorem dX11_set_51 : decode cX11_set 51 = .ok (.iconst 0, 1) := dk_at dkB02decM0_4 17 rfl
theorem dX11_set_52 : decode cX11_set 52 = .ok (.iload_n 1, 1) := dk_at dkB02decM0_4 18 rfl
theorem dX11_set_53 : decode cX11_set 53 = .ok (.iadd, 1) := dk_at dkB02decM0_4 19 rfl
theorem dX11_set_54 : decode cX11_set 54 = .ok (.iload_n 2, 1) := dk_at dkB02decM0_4 20 rfl
theorem dX11_set_55 : decode cX11_set 55 = .ok (.iastore, 1) := dk_at dkB02decM0_4 21 rfl
theorem dX11_set_56 : decode cX11_set 56 = .ok (.iload_n 3, 1) := dk_at dkB02decM0_4 22 rfl
theorem dX11_set_57 : decode cX11_set 57 = .ok (.ireturn, 1) := dk_at dkB02decM0_4 23 rfl
theorem dX11_wetBy_0 : decode cX11_wetBy 0 = .ok (.iconst 0, 1) := dk_at dkB02decM0_4 24 rfl
theorem dX11_wetBy_1 : decode cX11_wetBy 1 = .ok (.istore_n 3, 1) := dk_at dkB02decM0_4 25 rfl
theorem dX11_wetBy_2 : decode cX11_wetBy 2 = .ok (.iload_n 1, 1) := dk_at dkB02decM0_4 26 rfl
theorem dX11_wetBy_3 : decode cX11_wetBy 3 = .ok (.istore 4, 2) := dk_at dkB02decM0_4 27 rfl
theorem dX11_wetBy_5 : decode cX11_wetBy 5 = .ok (.iload 4, 2) := dk_at dkB02decM0_4 28 rfl
theorem dX11_wetBy_7 : decode cX11_wetBy 7 = .ok (.iload_n 1, 1) := dk_at dkB02decM0_4 29 rfl
theorem dX11_wetBy_8 : decode cX11_wetBy 8 = .ok (.iload_n 2, 1) := dk_at dkB02decM0_4 30 rfl
theorem dX11_wetBy_9 : decode cX11_wetBy 9 = .ok (.isub, 1) := dk_at dkB02decM0_4 31 rfl
theorem dX11_wetBy_10 : decode cX11_wetBy 10 = .ok (.if_icmp .le 29, 3) := dk_at dkB02decM0_4 32 rfl
theorem dX11_wetBy_13 : decode cX11_wetBy 13 = .ok (.iload 4, 2) := dk_at dkB02decM0_4 33 rfl
theorem dX11_wetBy_15 : decode cX11_wetBy 15 = .ok (.ifCond .lt 24, 3) := dk_at dkB02decM0_4 34 rfl
theorem dX11_wetBy_18 : decode cX11_wetBy 18 = .ok (.iload_n 3, 1) := dk_at dkB02decM0_4 35 rfl
theorem dX11_wetBy_19 : decode cX11_wetBy 19 = .ok (.aload_n 0, 1) := dk_at dkB02decM0_4 36 rfl
theorem dX11_wetBy_20 : decode cX11_wetBy 20 = .ok (.getfield 7, 3) := dk_at dkB02decM0_4 37 rfl
theorem dX11_wetBy_23 : decode cX11_wetBy 23 = .ok (.bipush 20, 2) := dk_at dkB02decM0_4 38 rfl
theorem dX11_wetBy_25 : decode cX11_wetBy 25 = .ok (.iconst 3, 1) := dk_at dkB02decM0_4 39 rfl
theorem dX11_wetBy_26 : decode cX11_wetBy 26 = .ok (.iload 4, 2) := dk_at dkB02decM0_4 40 rfl
theorem dX11_wetBy_28 : decode cX11_wetBy 28 = .ok (.imul, 1) := dk_at dkB02decM0_4 41 rfl
theorem dX11_wetBy_29 : decode cX11_wetBy 29 = .ok (.iadd, 1) := dk_at dkB02decM0_4 42 rfl
theorem dX11_wetBy_30 : decode cX11_wetBy 30 = .ok (.iaload, 1) := dk_at dkB02decM0_4 43 rfl
theorem dX11_wetBy_31 : decode cX11_wetBy 31 = .ok (.iadd, 1) := dk_at dkB02decM0_4 44 rfl
theorem dX11_wetBy_32 : decode cX11_wetBy 32 = .ok (.istore_n 3, 1) := dk_at dkB02decM0_4 45 rfl
theorem dX11_wetBy_33 : decode cX11_wetBy 33 = .ok (.iinc 4 (-1), 3) := dk_at dkB02decM0_4 46 rfl
theorem dX11_wetBy_36 : decode cX11_wetBy 36 = .ok (.goto (-31), 3) := dk_at dkB02decM0_4 47 rfl
theorem dX11_wetBy_39 : decode cX11_wetBy 39 = .ok (.iload_n 3, 1) := dk_at dkB02decM0_4 48 rfl
theorem dX11_wetBy_40 : decode cX11_wetBy 40 = .ok (.ireturn, 1) := dk_at dkB02decM0_4 49 rfl
theorem dX11_waterBy_0 : decode cX11_waterBy 0 = .ok (.iconst 0, 1) := dk_at dkB02decM0_4 50 rfl
theorem dX11_waterBy_1 : decode cX11_waterBy 1 = .ok (.istore_n 3, 1) := dk_at dkB02decM0_4 51 rfl
theorem dX11_waterBy_2 : decode cX11_waterBy 2 = .ok (.iload_n 1, 1) := dk_at dkB02decM0_4 52 rfl
theorem dX11_waterBy_3 : decode cX11_waterBy 3 = .ok (.istore 4, 2) := dk_at dkB02decM0_4 53 rfl
theorem dX11_waterBy_5 : decode cX11_waterBy 5 = .ok (.iload 4, 2) := dk_at dkB02decM0_4 54 rfl
theorem dX11_waterBy_7 : decode cX11_waterBy 7 = .ok (.iload_n 1, 1) := dk_at dkB02decM0_4 55 rfl
theorem dX11_waterBy_8 : decode cX11_waterBy 8 = .ok (.iload_n 2, 1) := dk_at dkB02decM0_4 56 rfl
theorem dX11_waterBy_9 : decode cX11_waterBy 9 = .ok (.isub, 1) := dk_at dkB02decM0_4 57 rfl
theorem dX11_waterBy_10 : decode cX11_waterBy 10 = .ok (.if_icmp .le 44, 3) := dk_at dkB02decM0_4 58 rfl
theorem dX11_waterBy_13 : decode cX11_waterBy 13 = .ok (.iload 4, 2) := dk_at dkB02decM0_4 59 rfl
noncomputable def dkL02decM0_5 : List (ByteArray × Nat × Instr × Nat) := [(cX11_waterBy, 15, (.ifCond .lt 39, 3)), (cX11_waterBy, 18, (.iload_n 3, 1)), (cX11_waterBy, 19, (.aload_n 0, 1)), (cX11_waterBy, 20, (.getfield 7, 3)), (cX11_waterBy, 23, (.bipush 20, 2)), (cX11_waterBy, 25, (.iconst 3, 1)), (cX11_waterBy, 26, (.iload 4, 2)), (cX11_waterBy, 28, (.imul, 1)), (cX11_waterBy, 29, (.iadd, 1)), (cX11_waterBy, 30, (.iaload, 1)), (cX11_waterBy, 31, (.aload_n 0, 1)), (cX11_waterBy, 32, (.getfield 7, 3)), (cX11_waterBy, 35, (.bipush 20, 2)), (cX11_waterBy, 37, (.iconst 3, 1)), (cX11_waterBy, 38, (.iload 4, 2)), (cX11_waterBy, 40, (.imul, 1)), (cX11_waterBy, 41, (.iadd, 1)), (cX11_waterBy, 42, (.iconst 1, 1)), (cX11_waterBy, 43, (.iadd, 1)), (cX11_waterBy, 44, (.iaload, 1)), (cX11_waterBy, 45, (.imul, 1)), (cX11_waterBy, 46, (.iadd, 1)), (cX11_waterBy, 47, (.istore_n 3, 1)), (cX11_waterBy, 48, (.iinc 4 (-1), 3)), (cX11_waterBy, 51, (.goto (-46), 3)), (cX11_waterBy, 54, (.iload_n 3, 1)), (cX11_waterBy, 55, (.aload_n 0, 1)), (cX11_waterBy, 56, (.iload_n 1, 1)), (cX11_waterBy, 57, (.iload_n 2, 1)), (cX11_waterBy, 58, (.invokevirtual 90, 3)), (cX11_waterBy, 61, (.idiv, 1)), (cX11_waterBy, 62, (.ireturn, 1)), (cX11_wet, 0, (.iload_n 1, 1)), (cX11_wet, 1, (.invokestatic 80, 3)), (cX11_wet, 4, (.ifCond .eq 17, 3)), (cX11_wet, 7, (.aload_n 0, 1)), (cX11_wet, 8, (.iload_n 1, 1)), (cX11_wet, 9, (.aload_n 0, 1)), (cX11_wet, 10, (.getfield 7, 3)), (cX11_wet, 13, (.iconst 0, 1)), (cX11_wet, 14, (.iaload, 1)), (cX11_wet, 15, (.invokevirtual 90, 3)), (cX11_wet, 18, (.goto 4, 3)), (cX11_wet, 21, (.iconst (-1), 1)), (cX11_wet, 22, (.ireturn, 1)), (cX11_water, 0, (.iload_n 1, 1)), (cX11_water, 1, (.invokestatic 80, 3)), (cX11_water, 4, (.ifCond .ne 7, 3)), (cX11_water, 7, (.sipush (-1001), 3)), (cX11_water, 10, (.ireturn, 1)), (cX11_water, 11, (.aload_n 0, 1)), (cX11_water, 12, (.iload_n 1, 1)), (cX11_water, 13, (.aload_n 0, 1)), (cX11_water, 14, (.getfield 7, 3)), (cX11_water, 17, (.iconst 0, 1)), (cX11_water, 18, (.iaload, 1)), (cX11_water, 19, (.invokevirtual 90, 3)), (cX11_water, 22, (.ifCond .ne 9, 3)), (cX11_water, 25, (.sipush (-1004), 3)), (cX11_water, 28, (.goto 14, 3))]
theorem dkB02decM0_5 : dkL02decM0_5.all (fun q => decide (decode q.1 q.2.1 = .ok q.2.2)) = true := by decide +kernel
theorem dX11_waterBy_15 : decode cX11_waterBy 15 = .ok (.ifCond .lt 39, 3) := dk_at dkB02decM0_5 0 rfl
theorem dX11_waterBy_18 : decode cX11_waterBy 18 = .ok (.iload_n 3, 1) := dk_at dkB02decM0_5 1 rfl
theorem dX11_waterBy_19 : decode cX11_waterBy 19 = .ok (.aload_n 0, 1) := dk_at dkB02decM0_5 2 rfl
theorem dX11_waterBy_20 : decode cX11_waterBy 20 = .ok (.getfield 7, 3) := dk_at dkB02decM0_5 3 rfl
theorem dX11_waterBy_23 : decode cX11_waterBy 23 = .ok (.bipush 20, 2) := dk_at dkB02decM0_5 4 rfl
theorem dX11_waterBy_25 : decode cX11_waterBy 25 = .ok (.iconst 3, 1) := dk_at dkB02decM0_5 5 rfl
theorem dX11_waterBy_26 : decode cX11_waterBy 26 = .ok (.iload 4, 2) := dk_at dkB02decM0_5 6 rfl
theorem dX11_waterBy_28 : decode cX11_waterBy 28 = .ok (.imul, 1) := dk_at dkB02decM0_5 7 rfl
theorem dX11_waterBy_29 : decode cX11_waterBy 29 = .ok (.iadd, 1) := dk_at dkB02decM0_5 8 rfl
theorem dX11_waterBy_30 : decode cX11_waterBy 30 = .ok (.iaload, 1) := dk_at dkB02decM0_5 9 rfl
theorem dX11_waterBy_31 : decode cX11_waterBy 31 = .ok (.aload_n 0, 1) := dk_at dkB02decM0_5 10 rfl
theorem dX11_waterBy_32 : decode cX11_waterBy 32 = .ok (.getfield 7, 3) := dk_at dkB02decM0_5 11 rfl
theorem dX11_waterBy_35 : decode cX11_waterBy 35 = .ok (.bipush 20, 2) := dk_at dkB02decM0_5 12 rfl
theorem dX11_waterBy_37 : decode cX11_waterBy 37 = .ok (.iconst 3, 1) := dk_at dkB02decM0_5 13 rfl
theorem dX11_waterBy_38 : decode cX11_waterBy 38 = .ok (.iload 4, 2) := dk_at dkB02decM0_5 14 rfl
theorem dX11_waterBy_40 : decode cX11_waterBy 40 = .ok (.imul, 1) := dk_at dkB02decM0_5 15 rfl
theorem dX11_waterBy_41 : decode cX11_waterBy 41 = .ok (.iadd, 1) := dk_at dkB02decM0_5 16 rfl
theorem dX11_waterBy_42 : decode cX11_waterBy 42 = .ok (.iconst 1, 1) := dk_at dkB02decM0_5 17 rfl
theorem dX11_waterBy_43 : decode cX11_waterBy 43 = .ok (.iadd, 1) := dk_at dkB02decM0_5 18 rfl
theorem dX11_waterBy_44 : decode cX11_waterBy 44 = .ok (.iaload, 1) := dk_at dkB02decM0_5 19 rfl
theorem dX11_waterBy_45 : decode cX11_waterBy 45 = .ok (.imul, 1) := dk_at dkB02decM0_5 20 rfl
theorem dX11_waterBy_46 : decode cX11_waterBy 46 = .ok (.iadd, 1) := dk_at dkB02decM0_5 21 rfl
theorem dX11_waterBy_47 : decode cX11_waterBy 47 = .ok (.istore_n 3, 1) := dk_at dkB02decM0_5 22 rfl
theorem dX11_waterBy_48 : decode cX11_waterBy 48 = .ok (.iinc 4 (-1), 3) := dk_at dkB02decM0_5 23 rfl
theorem dX11_waterBy_51 : decode cX11_waterBy 51 = .ok (.goto (-46), 3) := dk_at dkB02decM0_5 24 rfl
theorem dX11_waterBy_54 : decode cX11_waterBy 54 = .ok (.iload_n 3, 1) := dk_at dkB02decM0_5 25 rfl
theorem dX11_waterBy_55 : decode cX11_waterBy 55 = .ok (.aload_n 0, 1) := dk_at dkB02decM0_5 26 rfl
theorem dX11_waterBy_56 : decode cX11_waterBy 56 = .ok (.iload_n 1, 1) := dk_at dkB02decM0_5 27 rfl
theorem dX11_waterBy_57 : decode cX11_waterBy 57 = .ok (.iload_n 2, 1) := dk_at dkB02decM0_5 28 rfl
theorem dX11_waterBy_58 : decode cX11_waterBy 58 = .ok (.invokevirtual 90, 3) := dk_at dkB02decM0_5 29 rfl
theorem dX11_waterBy_61 : decode cX11_waterBy 61 = .ok (.idiv, 1) := dk_at dkB02decM0_5 30 rfl
theorem dX11_waterBy_62 : decode cX11_waterBy 62 = .ok (.ireturn, 1) := dk_at dkB02decM0_5 31 rfl
theorem dX11_wet_0 : decode cX11_wet 0 = .ok (.iload_n 1, 1) := dk_at dkB02decM0_5 32 rfl
theorem dX11_wet_1 : decode cX11_wet 1 = .ok (.invokestatic 80, 3) := dk_at dkB02decM0_5 33 rfl
theorem dX11_wet_4 : decode cX11_wet 4 = .ok (.ifCond .eq 17, 3) := dk_at dkB02decM0_5 34 rfl
theorem dX11_wet_7 : decode cX11_wet 7 = .ok (.aload_n 0, 1) := dk_at dkB02decM0_5 35 rfl
theorem dX11_wet_8 : decode cX11_wet 8 = .ok (.iload_n 1, 1) := dk_at dkB02decM0_5 36 rfl
theorem dX11_wet_9 : decode cX11_wet 9 = .ok (.aload_n 0, 1) := dk_at dkB02decM0_5 37 rfl
theorem dX11_wet_10 : decode cX11_wet 10 = .ok (.getfield 7, 3) := dk_at dkB02decM0_5 38 rfl
theorem dX11_wet_13 : decode cX11_wet 13 = .ok (.iconst 0, 1) := dk_at dkB02decM0_5 39 rfl
theorem dX11_wet_14 : decode cX11_wet 14 = .ok (.iaload, 1) := dk_at dkB02decM0_5 40 rfl
theorem dX11_wet_15 : decode cX11_wet 15 = .ok (.invokevirtual 90, 3) := dk_at dkB02decM0_5 41 rfl
theorem dX11_wet_18 : decode cX11_wet 18 = .ok (.goto 4, 3) := dk_at dkB02decM0_5 42 rfl
theorem dX11_wet_21 : decode cX11_wet 21 = .ok (.iconst (-1), 1) := dk_at dkB02decM0_5 43 rfl
theorem dX11_wet_22 : decode cX11_wet 22 = .ok (.ireturn, 1) := dk_at dkB02decM0_5 44 rfl
theorem dX11_water_0 : decode cX11_water 0 = .ok (.iload_n 1, 1) := dk_at dkB02decM0_5 45 rfl
theorem dX11_water_1 : decode cX11_water 1 = .ok (.invokestatic 80, 3) := dk_at dkB02decM0_5 46 rfl
theorem dX11_water_4 : decode cX11_water 4 = .ok (.ifCond .ne 7, 3) := dk_at dkB02decM0_5 47 rfl
theorem dX11_water_7 : decode cX11_water 7 = .ok (.sipush (-1001), 3) := dk_at dkB02decM0_5 48 rfl
theorem dX11_water_10 : decode cX11_water 10 = .ok (.ireturn, 1) := dk_at dkB02decM0_5 49 rfl
theorem dX11_water_11 : decode cX11_water 11 = .ok (.aload_n 0, 1) := dk_at dkB02decM0_5 50 rfl
theorem dX11_water_12 : decode cX11_water 12 = .ok (.iload_n 1, 1) := dk_at dkB02decM0_5 51 rfl
theorem dX11_water_13 : decode cX11_water 13 = .ok (.aload_n 0, 1) := dk_at dkB02decM0_5 52 rfl
theorem dX11_water_14 : decode cX11_water 14 = .ok (.getfield 7, 3) := dk_at dkB02decM0_5 53 rfl
theorem dX11_water_17 : decode cX11_water 17 = .ok (.iconst 0, 1) := dk_at dkB02decM0_5 54 rfl
theorem dX11_water_18 : decode cX11_water 18 = .ok (.iaload, 1) := dk_at dkB02decM0_5 55 rfl
theorem dX11_water_19 : decode cX11_water 19 = .ok (.invokevirtual 90, 3) := dk_at dkB02decM0_5 56 rfl
theorem dX11_water_22 : decode cX11_water 22 = .ok (.ifCond .ne 9, 3) := dk_at dkB02decM0_5 57 rfl
theorem dX11_water_25 : decode cX11_water 25 = .ok (.sipush (-1004), 3) := dk_at dkB02decM0_5 58 rfl
theorem dX11_water_28 : decode cX11_water 28 = .ok (.goto 14, 3) := dk_at dkB02decM0_5 59 rfl
noncomputable def dkL02decM0_6 : List (ByteArray × Nat × Instr × Nat) := [(cX11_water, 31, (.aload_n 0, 1)), (cX11_water, 32, (.iload_n 1, 1)), (cX11_water, 33, (.aload_n 0, 1)), (cX11_water, 34, (.getfield 7, 3)), (cX11_water, 37, (.iconst 0, 1)), (cX11_water, 38, (.iaload, 1)), (cX11_water, 39, (.invokevirtual 94, 3)), (cX11_water, 42, (.ireturn, 1)), (cX11_clauseHolds, 0, (.iconst 1, 1)), (cX11_clauseHolds, 1, (.istore_n 3, 1)), (cX11_clauseHolds, 2, (.iconst 0, 1)), (cX11_clauseHolds, 3, (.istore 4, 2)), (cX11_clauseHolds, 5, (.iload 4, 2)), (cX11_clauseHolds, 7, (.aload_n 0, 1)), (cX11_clauseHolds, 8, (.getfield 7, 3)), (cX11_clauseHolds, 11, (.iload_n 1, 1)), (cX11_clauseHolds, 12, (.iaload, 1)), (cX11_clauseHolds, 13, (.if_icmp .ge 162, 3)), (cX11_clauseHolds, 16, (.aload_n 0, 1)), (cX11_clauseHolds, 17, (.getfield 7, 3)), (cX11_clauseHolds, 20, (.iload_n 1, 1)), (cX11_clauseHolds, 21, (.iconst 2, 1)), (cX11_clauseHolds, 22, (.iadd, 1)), (cX11_clauseHolds, 23, (.iconst 3, 1)), (cX11_clauseHolds, 24, (.iload 4, 2)), (cX11_clauseHolds, 26, (.imul, 1)), (cX11_clauseHolds, 27, (.iadd, 1)), (cX11_clauseHolds, 28, (.iaload, 1)), (cX11_clauseHolds, 29, (.istore 5, 2)), (cX11_clauseHolds, 31, (.aload_n 0, 1)), (cX11_clauseHolds, 32, (.getfield 7, 3)), (cX11_clauseHolds, 35, (.iload_n 1, 1)), (cX11_clauseHolds, 36, (.iconst 3, 1)), (cX11_clauseHolds, 37, (.iadd, 1)), (cX11_clauseHolds, 38, (.iconst 3, 1)), (cX11_clauseHolds, 39, (.iload 4, 2)), (cX11_clauseHolds, 41, (.imul, 1)), (cX11_clauseHolds, 42, (.iadd, 1)), (cX11_clauseHolds, 43, (.iaload, 1)), (cX11_clauseHolds, 44, (.istore 6, 2)), (cX11_clauseHolds, 46, (.aload_n 0, 1)), (cX11_clauseHolds, 47, (.getfield 7, 3)), (cX11_clauseHolds, 50, (.iload_n 1, 1)), (cX11_clauseHolds, 51, (.iconst 4, 1)), (cX11_clauseHolds, 52, (.iadd, 1)), (cX11_clauseHolds, 53, (.iconst 3, 1)), (cX11_clauseHolds, 54, (.iload 4, 2)), (cX11_clauseHolds, 56, (.imul, 1)), (cX11_clauseHolds, 57, (.iadd, 1)), (cX11_clauseHolds, 58, (.iaload, 1)), (cX11_clauseHolds, 59, (.istore 7, 2)), (cX11_clauseHolds, 61, (.iload 5, 2)), (cX11_clauseHolds, 63, (.bipush 97, 2)), (cX11_clauseHolds, 65, (.if_icmp .ne 17, 3)), (cX11_clauseHolds, 68, (.aload_n 0, 1)), (cX11_clauseHolds, 69, (.getfield 7, 3)), (cX11_clauseHolds, 72, (.bipush 20, 2)), (cX11_clauseHolds, 74, (.iconst 3, 1)), (cX11_clauseHolds, 75, (.iload_n 2, 1)), (cX11_clauseHolds, 76, (.imul, 1))]
theorem dkB02decM0_6 : dkL02decM0_6.all (fun q => decide (decode q.1 q.2.1 = .ok q.2.2)) = true := by decide +kernel
theorem dX11_water_31 : decode cX11_water 31 = .ok (.aload_n 0, 1) := dk_at dkB02decM0_6 0 rfl
theorem dX11_water_32 : decode cX11_water 32 = .ok (.iload_n 1, 1) := dk_at dkB02decM0_6 1 rfl
theorem dX11_water_33 : decode cX11_water 33 = .ok (.aload_n 0, 1) := dk_at dkB02decM0_6 2 rfl
theorem dX11_water_34 : decode cX11_water 34 = .ok (.getfield 7, 3) := dk_at dkB02decM0_6 3 rfl
theorem dX11_water_37 : decode cX11_water 37 = .ok (.iconst 0, 1) := dk_at dkB02decM0_6 4 rfl
theorem dX11_water_38 : decode cX11_water 38 = .ok (.iaload, 1) := dk_at dkB02decM0_6 5 rfl
theorem dX11_water_39 : decode cX11_water 39 = .ok (.invokevirtual 94, 3) := dk_at dkB02decM0_6 6 rfl
theorem dX11_water_42 : decode cX11_water 42 = .ok (.ireturn, 1) := dk_at dkB02decM0_6 7 rfl
theorem dX11_clauseHolds_0 : decode cX11_clauseHolds 0 = .ok (.iconst 1, 1) := dk_at dkB02decM0_6 8 rfl
theorem dX11_clauseHolds_1 : decode cX11_clauseHolds 1 = .ok (.istore_n 3, 1) := dk_at dkB02decM0_6 9 rfl
theorem dX11_clauseHolds_2 : decode cX11_clauseHolds 2 = .ok (.iconst 0, 1) := dk_at dkB02decM0_6 10 rfl
theorem dX11_clauseHolds_3 : decode cX11_clauseHolds 3 = .ok (.istore 4, 2) := dk_at dkB02decM0_6 11 rfl
theorem dX11_clauseHolds_5 : decode cX11_clauseHolds 5 = .ok (.iload 4, 2) := dk_at dkB02decM0_6 12 rfl
theorem dX11_clauseHolds_7 : decode cX11_clauseHolds 7 = .ok (.aload_n 0, 1) := dk_at dkB02decM0_6 13 rfl
theorem dX11_clauseHolds_8 : decode cX11_clauseHolds 8 = .ok (.getfield 7, 3) := dk_at dkB02decM0_6 14 rfl
theorem dX11_clauseHolds_11 : decode cX11_clauseHolds 11 = .ok (.iload_n 1, 1) := dk_at dkB02decM0_6 15 rfl
theorem dX11_clauseHolds_12 : decode cX11_clauseHolds 12 = .ok (.iaload, 1) := dk_at dkB02decM0_6 16 rfl
theorem dX11_clauseHolds_13 : decode cX11_clauseHolds 13 = .ok (.if_icmp .ge 162, 3) := dk_at dkB02decM0_6 17 rfl
theorem dX11_clauseHolds_16 : decode cX11_clauseHolds 16 = .ok (.aload_n 0, 1) := dk_at dkB02decM0_6 18 rfl
theorem dX11_clauseHolds_17 : decode cX11_clauseHolds 17 = .ok (.getfield 7, 3) := dk_at dkB02decM0_6 19 rfl
theorem dX11_clauseHolds_20 : decode cX11_clauseHolds 20 = .ok (.iload_n 1, 1) := dk_at dkB02decM0_6 20 rfl
theorem dX11_clauseHolds_21 : decode cX11_clauseHolds 21 = .ok (.iconst 2, 1) := dk_at dkB02decM0_6 21 rfl
theorem dX11_clauseHolds_22 : decode cX11_clauseHolds 22 = .ok (.iadd, 1) := dk_at dkB02decM0_6 22 rfl
theorem dX11_clauseHolds_23 : decode cX11_clauseHolds 23 = .ok (.iconst 3, 1) := dk_at dkB02decM0_6 23 rfl
theorem dX11_clauseHolds_24 : decode cX11_clauseHolds 24 = .ok (.iload 4, 2) := dk_at dkB02decM0_6 24 rfl
theorem dX11_clauseHolds_26 : decode cX11_clauseHolds 26 = .ok (.imul, 1) := dk_at dkB02decM0_6 25 rfl
theorem dX11_clauseHolds_27 : decode cX11_clauseHolds 27 = .ok (.iadd, 1) := dk_at dkB02decM0_6 26 rfl
theorem dX11_clauseHolds_28 : decode cX11_clauseHolds 28 = .ok (.iaload, 1) := dk_at dkB02decM0_6 27 rfl
theorem dX11_clauseHolds_29 : decode cX11_clauseHolds 29 = .ok (.istore 5, 2) := dk_at dkB02decM0_6 28 rfl
theorem dX11_clauseHolds_31 : decode cX11_clauseHolds 31 = .ok (.aload_n 0, 1) := dk_at dkB02decM0_6 29 rfl
theorem dX11_clauseHolds_32 : decode cX11_clauseHolds 32 = .ok (.getfield 7, 3) := dk_at dkB02decM0_6 30 rfl
theorem dX11_clauseHolds_35 : decode cX11_clauseHolds 35 = .ok (.iload_n 1, 1) := dk_at dkB02decM0_6 31 rfl
theorem dX11_clauseHolds_36 : decode cX11_clauseHolds 36 = .ok (.iconst 3, 1) := dk_at dkB02decM0_6 32 rfl
theorem dX11_clauseHolds_37 : decode cX11_clauseHolds 37 = .ok (.iadd, 1) := dk_at dkB02decM0_6 33 rfl
theorem dX11_clauseHolds_38 : decode cX11_clauseHolds 38 = .ok (.iconst 3, 1) := dk_at dkB02decM0_6 34 rfl
theorem dX11_clauseHolds_39 : decode cX11_clauseHolds 39 = .ok (.iload 4, 2) := dk_at dkB02decM0_6 35 rfl
theorem dX11_clauseHolds_41 : decode cX11_clauseHolds 41 = .ok (.imul, 1) := dk_at dkB02decM0_6 36 rfl
theorem dX11_clauseHolds_42 : decode cX11_clauseHolds 42 = .ok (.iadd, 1) := dk_at dkB02decM0_6 37 rfl
theorem dX11_clauseHolds_43 : decode cX11_clauseHolds 43 = .ok (.iaload, 1) := dk_at dkB02decM0_6 38 rfl
theorem dX11_clauseHolds_44 : decode cX11_clauseHolds 44 = .ok (.istore 6, 2) := dk_at dkB02decM0_6 39 rfl
theorem dX11_clauseHolds_46 : decode cX11_clauseHolds 46 = .ok (.aload_n 0, 1) := dk_at dkB02decM0_6 40 rfl
theorem dX11_clauseHolds_47 : decode cX11_clauseHolds 47 = .ok (.getfield 7, 3) := dk_at dkB02decM0_6 41 rfl
theorem dX11_clauseHolds_50 : decode cX11_clauseHolds 50 = .ok (.iload_n 1, 1) := dk_at dkB02decM0_6 42 rfl
theorem dX11_clauseHolds_51 : decode cX11_clauseHolds 51 = .ok (.iconst 4, 1) := dk_at dkB02decM0_6 43 rfl
theorem dX11_clauseHolds_52 : decode cX11_clauseHolds 52 = .ok (.iadd, 1) := dk_at dkB02decM0_6 44 rfl
theorem dX11_clauseHolds_53 : decode cX11_clauseHolds 53 = .ok (.iconst 3, 1) := dk_at dkB02decM0_6 45 rfl
theorem dX11_clauseHolds_54 : decode cX11_clauseHolds 54 = .ok (.iload 4, 2) := dk_at dkB02decM0_6 46 rfl
theorem dX11_clauseHolds_56 : decode cX11_clauseHolds 56 = .ok (.imul, 1) := dk_at dkB02decM0_6 47 rfl
theorem dX11_clauseHolds_57 : decode cX11_clauseHolds 57 = .ok (.iadd, 1) := dk_at dkB02decM0_6 48 rfl
theorem dX11_clauseHolds_58 : decode cX11_clauseHolds 58 = .ok (.iaload, 1) := dk_at dkB02decM0_6 49 rfl
theorem dX11_clauseHolds_59 : decode cX11_clauseHolds 59 = .ok (.istore 7, 2) := dk_at dkB02decM0_6 50 rfl
theorem dX11_clauseHolds_61 : decode cX11_clauseHolds 61 = .ok (.iload 5, 2) := dk_at dkB02decM0_6 51 rfl
theorem dX11_clauseHolds_63 : decode cX11_clauseHolds 63 = .ok (.bipush 97, 2) := dk_at dkB02decM0_6 52 rfl
theorem dX11_clauseHolds_65 : decode cX11_clauseHolds 65 = .ok (.if_icmp .ne 17, 3) := dk_at dkB02decM0_6 53 rfl
theorem dX11_clauseHolds_68 : decode cX11_clauseHolds 68 = .ok (.aload_n 0, 1) := dk_at dkB02decM0_6 54 rfl
theorem dX11_clauseHolds_69 : decode cX11_clauseHolds 69 = .ok (.getfield 7, 3) := dk_at dkB02decM0_6 55 rfl
theorem dX11_clauseHolds_72 : decode cX11_clauseHolds 72 = .ok (.bipush 20, 2) := dk_at dkB02decM0_6 56 rfl
theorem dX11_clauseHolds_74 : decode cX11_clauseHolds 74 = .ok (.iconst 3, 1) := dk_at dkB02decM0_6 57 rfl
theorem dX11_clauseHolds_75 : decode cX11_clauseHolds 75 = .ok (.iload_n 2, 1) := dk_at dkB02decM0_6 58 rfl
theorem dX11_clauseHolds_76 : decode cX11_clauseHolds 76 = .ok (.imul, 1) := dk_at dkB02decM0_6 59 rfl
noncomputable def dkL02decM0_7 : List (ByteArray × Nat × Instr × Nat) := [(cX11_clauseHolds, 77, (.iadd, 1)), (cX11_clauseHolds, 78, (.iaload, 1)), (cX11_clauseHolds, 79, (.goto 37, 3)), (cX11_clauseHolds, 82, (.iload 5, 2)), (cX11_clauseHolds, 84, (.bipush 104, 2)), (cX11_clauseHolds, 86, (.if_icmp .ne 19, 3)), (cX11_clauseHolds, 89, (.aload_n 0, 1)), (cX11_clauseHolds, 90, (.getfield 7, 3)), (cX11_clauseHolds, 93, (.bipush 20, 2)), (cX11_clauseHolds, 95, (.iconst 3, 1)), (cX11_clauseHolds, 96, (.iload_n 2, 1)), (cX11_clauseHolds, 97, (.imul, 1)), (cX11_clauseHolds, 98, (.iadd, 1)), (cX11_clauseHolds, 99, (.iconst 2, 1)), (cX11_clauseHolds, 100, (.iadd, 1)), (cX11_clauseHolds, 101, (.iaload, 1)), (cX11_clauseHolds, 102, (.goto 14, 3)), (cX11_clauseHolds, 105, (.aload_n 0, 1)), (cX11_clauseHolds, 106, (.iload_n 2, 1)), (cX11_clauseHolds, 107, (.aload_n 0, 1)), (cX11_clauseHolds, 108, (.getfield 7, 3)), (cX11_clauseHolds, 111, (.iconst 0, 1)), (cX11_clauseHolds, 112, (.iaload, 1)), (cX11_clauseHolds, 113, (.invokevirtual 90, 3)), (cX11_clauseHolds, 116, (.istore 8, 2)), (cX11_clauseHolds, 118, (.iload_n 3, 1)), (cX11_clauseHolds, 119, (.ifCond .eq 48, 3)), (cX11_clauseHolds, 122, (.iload 6, 2)), (cX11_clauseHolds, 124, (.bipush 60, 2)), (cX11_clauseHolds, 126, (.if_icmp .ne 13, 3)), (cX11_clauseHolds, 129, (.iload 8, 2)), (cX11_clauseHolds, 131, (.iload 7, 2)), (cX11_clauseHolds, 133, (.if_icmp .ge 34, 3)), (cX11_clauseHolds, 136, (.goto 27, 3)), (cX11_clauseHolds, 139, (.iload 6, 2)), (cX11_clauseHolds, 141, (.bipush 62, 2)), (cX11_clauseHolds, 143, (.if_icmp .ne 13, 3)), (cX11_clauseHolds, 146, (.iload 8, 2)), (cX11_clauseHolds, 148, (.iload 7, 2)), (cX11_clauseHolds, 150, (.if_icmp .le 17, 3)), (cX11_clauseHolds, 153, (.goto 10, 3)), (cX11_clauseHolds, 156, (.iload 8, 2)), (cX11_clauseHolds, 158, (.iload 7, 2)), (cX11_clauseHolds, 160, (.if_icmp .ne 7, 3)), (cX11_clauseHolds, 163, (.iconst 1, 1)), (cX11_clauseHolds, 164, (.goto 4, 3)), (cX11_clauseHolds, 167, (.iconst 0, 1)), (cX11_clauseHolds, 168, (.istore_n 3, 1)), (cX11_clauseHolds, 169, (.iinc 4 1, 3)), (cX11_clauseHolds, 172, (.goto (-167), 3)), (cX11_clauseHolds, 175, (.iload_n 3, 1)), (cX11_clauseHolds, 176, (.ireturn, 1)), (cX11_growthOf, 0, (.aload_n 0, 1)), (cX11_growthOf, 1, (.iload_n 1, 1)), (cX11_growthOf, 2, (.aload_n 0, 1)), (cX11_growthOf, 3, (.getfield 7, 3)), (cX11_growthOf, 6, (.iconst 0, 1)), (cX11_growthOf, 7, (.iaload, 1)), (cX11_growthOf, 8, (.invokevirtual 90, 3)), (cX11_growthOf, 11, (.ifCond .ne 5, 3))]
theorem dkB02decM0_7 : dkL02decM0_7.all (fun q => decide (decode q.1 q.2.1 = .ok q.2.2)) = true := by decide +kernel
theorem dX11_clauseHolds_77 : decode cX11_clauseHolds 77 = .ok (.iadd, 1) := dk_at dkB02decM0_7 0 rfl
theorem dX11_clauseHolds_78 : decode cX11_clauseHolds 78 = .ok (.iaload, 1) := dk_at dkB02decM0_7 1 rfl
theorem dX11_clauseHolds_79 : decode cX11_clauseHolds 79 = .ok (.goto 37, 3) := dk_at dkB02decM0_7 2 rfl
theorem dX11_clauseHolds_82 : decode cX11_clauseHolds 82 = .ok (.iload 5, 2) := dk_at dkB02decM0_7 3 rfl
theorem dX11_clauseHolds_84 : decode cX11_clauseHolds 84 = .ok (.bipush 104, 2) := dk_at dkB02decM0_7 4 rfl
theorem dX11_clauseHolds_86 : decode cX11_clauseHolds 86 = .ok (.if_icmp .ne 19, 3) := dk_at dkB02decM0_7 5 rfl
theorem dX11_clauseHolds_89 : decode cX11_clauseHolds 89 = .ok (.aload_n 0, 1) := dk_at dkB02decM0_7 6 rfl
theorem dX11_clauseHolds_90 : decode cX11_clauseHolds 90 = .ok (.getfield 7, 3) := dk_at dkB02decM0_7 7 rfl
theorem dX11_clauseHolds_93 : decode cX11_clauseHolds 93 = .ok (.bipush 20, 2) := dk_at dkB02decM0_7 8 rfl
theorem dX11_clauseHolds_95 : decode cX11_clauseHolds 95 = .ok (.iconst 3, 1) := dk_at dkB02decM0_7 9 rfl
theorem dX11_clauseHolds_96 : decode cX11_clauseHolds 96 = .ok (.iload_n 2, 1) := dk_at dkB02decM0_7 10 rfl
theorem dX11_clauseHolds_97 : decode cX11_clauseHolds 97 = .ok (.imul, 1) := dk_at dkB02decM0_7 11 rfl
theorem dX11_clauseHolds_98 : decode cX11_clauseHolds 98 = .ok (.iadd, 1) := dk_at dkB02decM0_7 12 rfl
theorem dX11_clauseHolds_99 : decode cX11_clauseHolds 99 = .ok (.iconst 2, 1) := dk_at dkB02decM0_7 13 rfl
theorem dX11_clauseHolds_100 : decode cX11_clauseHolds 100 = .ok (.iadd, 1) := dk_at dkB02decM0_7 14 rfl
theorem dX11_clauseHolds_101 : decode cX11_clauseHolds 101 = .ok (.iaload, 1) := dk_at dkB02decM0_7 15 rfl
theorem dX11_clauseHolds_102 : decode cX11_clauseHolds 102 = .ok (.goto 14, 3) := dk_at dkB02decM0_7 16 rfl
theorem dX11_clauseHolds_105 : decode cX11_clauseHolds 105 = .ok (.aload_n 0, 1) := dk_at dkB02decM0_7 17 rfl
theorem dX11_clauseHolds_106 : decode cX11_clauseHolds 106 = .ok (.iload_n 2, 1) := dk_at dkB02decM0_7 18 rfl
theorem dX11_clauseHolds_107 : decode cX11_clauseHolds 107 = .ok (.aload_n 0, 1) := dk_at dkB02decM0_7 19 rfl
theorem dX11_clauseHolds_108 : decode cX11_clauseHolds 108 = .ok (.getfield 7, 3) := dk_at dkB02decM0_7 20 rfl
theorem dX11_clauseHolds_111 : decode cX11_clauseHolds 111 = .ok (.iconst 0, 1) := dk_at dkB02decM0_7 21 rfl
theorem dX11_clauseHolds_112 : decode cX11_clauseHolds 112 = .ok (.iaload, 1) := dk_at dkB02decM0_7 22 rfl
theorem dX11_clauseHolds_113 : decode cX11_clauseHolds 113 = .ok (.invokevirtual 90, 3) := dk_at dkB02decM0_7 23 rfl
theorem dX11_clauseHolds_116 : decode cX11_clauseHolds 116 = .ok (.istore 8, 2) := dk_at dkB02decM0_7 24 rfl
theorem dX11_clauseHolds_118 : decode cX11_clauseHolds 118 = .ok (.iload_n 3, 1) := dk_at dkB02decM0_7 25 rfl
theorem dX11_clauseHolds_119 : decode cX11_clauseHolds 119 = .ok (.ifCond .eq 48, 3) := dk_at dkB02decM0_7 26 rfl
theorem dX11_clauseHolds_122 : decode cX11_clauseHolds 122 = .ok (.iload 6, 2) := dk_at dkB02decM0_7 27 rfl
theorem dX11_clauseHolds_124 : decode cX11_clauseHolds 124 = .ok (.bipush 60, 2) := dk_at dkB02decM0_7 28 rfl
theorem dX11_clauseHolds_126 : decode cX11_clauseHolds 126 = .ok (.if_icmp .ne 13, 3) := dk_at dkB02decM0_7 29 rfl
theorem dX11_clauseHolds_129 : decode cX11_clauseHolds 129 = .ok (.iload 8, 2) := dk_at dkB02decM0_7 30 rfl
theorem dX11_clauseHolds_131 : decode cX11_clauseHolds 131 = .ok (.iload 7, 2) := dk_at dkB02decM0_7 31 rfl
theorem dX11_clauseHolds_133 : decode cX11_clauseHolds 133 = .ok (.if_icmp .ge 34, 3) := dk_at dkB02decM0_7 32 rfl
theorem dX11_clauseHolds_136 : decode cX11_clauseHolds 136 = .ok (.goto 27, 3) := dk_at dkB02decM0_7 33 rfl
theorem dX11_clauseHolds_139 : decode cX11_clauseHolds 139 = .ok (.iload 6, 2) := dk_at dkB02decM0_7 34 rfl
theorem dX11_clauseHolds_141 : decode cX11_clauseHolds 141 = .ok (.bipush 62, 2) := dk_at dkB02decM0_7 35 rfl
theorem dX11_clauseHolds_143 : decode cX11_clauseHolds 143 = .ok (.if_icmp .ne 13, 3) := dk_at dkB02decM0_7 36 rfl
theorem dX11_clauseHolds_146 : decode cX11_clauseHolds 146 = .ok (.iload 8, 2) := dk_at dkB02decM0_7 37 rfl
theorem dX11_clauseHolds_148 : decode cX11_clauseHolds 148 = .ok (.iload 7, 2) := dk_at dkB02decM0_7 38 rfl
theorem dX11_clauseHolds_150 : decode cX11_clauseHolds 150 = .ok (.if_icmp .le 17, 3) := dk_at dkB02decM0_7 39 rfl
theorem dX11_clauseHolds_153 : decode cX11_clauseHolds 153 = .ok (.goto 10, 3) := dk_at dkB02decM0_7 40 rfl
theorem dX11_clauseHolds_156 : decode cX11_clauseHolds 156 = .ok (.iload 8, 2) := dk_at dkB02decM0_7 41 rfl
theorem dX11_clauseHolds_158 : decode cX11_clauseHolds 158 = .ok (.iload 7, 2) := dk_at dkB02decM0_7 42 rfl
theorem dX11_clauseHolds_160 : decode cX11_clauseHolds 160 = .ok (.if_icmp .ne 7, 3) := dk_at dkB02decM0_7 43 rfl
theorem dX11_clauseHolds_163 : decode cX11_clauseHolds 163 = .ok (.iconst 1, 1) := dk_at dkB02decM0_7 44 rfl
theorem dX11_clauseHolds_164 : decode cX11_clauseHolds 164 = .ok (.goto 4, 3) := dk_at dkB02decM0_7 45 rfl
theorem dX11_clauseHolds_167 : decode cX11_clauseHolds 167 = .ok (.iconst 0, 1) := dk_at dkB02decM0_7 46 rfl
theorem dX11_clauseHolds_168 : decode cX11_clauseHolds 168 = .ok (.istore_n 3, 1) := dk_at dkB02decM0_7 47 rfl
theorem dX11_clauseHolds_169 : decode cX11_clauseHolds 169 = .ok (.iinc 4 1, 3) := dk_at dkB02decM0_7 48 rfl
theorem dX11_clauseHolds_172 : decode cX11_clauseHolds 172 = .ok (.goto (-167), 3) := dk_at dkB02decM0_7 49 rfl
theorem dX11_clauseHolds_175 : decode cX11_clauseHolds 175 = .ok (.iload_n 3, 1) := dk_at dkB02decM0_7 50 rfl
theorem dX11_clauseHolds_176 : decode cX11_clauseHolds 176 = .ok (.ireturn, 1) := dk_at dkB02decM0_7 51 rfl
theorem dX11_growthOf_0 : decode cX11_growthOf 0 = .ok (.aload_n 0, 1) := dk_at dkB02decM0_7 52 rfl
theorem dX11_growthOf_1 : decode cX11_growthOf 1 = .ok (.iload_n 1, 1) := dk_at dkB02decM0_7 53 rfl
theorem dX11_growthOf_2 : decode cX11_growthOf 2 = .ok (.aload_n 0, 1) := dk_at dkB02decM0_7 54 rfl
theorem dX11_growthOf_3 : decode cX11_growthOf 3 = .ok (.getfield 7, 3) := dk_at dkB02decM0_7 55 rfl
theorem dX11_growthOf_6 : decode cX11_growthOf 6 = .ok (.iconst 0, 1) := dk_at dkB02decM0_7 56 rfl
theorem dX11_growthOf_7 : decode cX11_growthOf 7 = .ok (.iaload, 1) := dk_at dkB02decM0_7 57 rfl
theorem dX11_growthOf_8 : decode cX11_growthOf 8 = .ok (.invokevirtual 90, 3) := dk_at dkB02decM0_7 58 rfl
theorem dX11_growthOf_11 : decode cX11_growthOf 11 = .ok (.ifCond .ne 5, 3) := dk_at dkB02decM0_7 59 rfl
noncomputable def dkL02decM0_8 : List (ByteArray × Nat × Instr × Nat) := [(cX11_growthOf, 14, (.iconst 0, 1)), (cX11_growthOf, 15, (.ireturn, 1)), (cX11_growthOf, 16, (.iconst 0, 1)), (cX11_growthOf, 17, (.istore_n 2, 1)), (cX11_growthOf, 18, (.iload_n 2, 1)), (cX11_growthOf, 19, (.aload_n 0, 1)), (cX11_growthOf, 20, (.getfield 7, 3)), (cX11_growthOf, 23, (.iconst 2, 1)), (cX11_growthOf, 24, (.iaload, 1)), (cX11_growthOf, 25, (.if_icmp .ge 39, 3)), (cX11_growthOf, 28, (.aload_n 0, 1)), (cX11_growthOf, 29, (.bipush 92, 2)), (cX11_growthOf, 31, (.bipush 11, 2)), (cX11_growthOf, 33, (.iload_n 2, 1)), (cX11_growthOf, 34, (.imul, 1)), (cX11_growthOf, 35, (.iadd, 1)), (cX11_growthOf, 36, (.iload_n 1, 1)), (cX11_growthOf, 37, (.invokevirtual 97, 3)), (cX11_growthOf, 40, (.ifCond .eq 18, 3)), (cX11_growthOf, 43, (.aload_n 0, 1)), (cX11_growthOf, 44, (.getfield 7, 3)), (cX11_growthOf, 47, (.bipush 92, 2)), (cX11_growthOf, 49, (.bipush 11, 2)), (cX11_growthOf, 51, (.iload_n 2, 1)), (cX11_growthOf, 52, (.imul, 1)), (cX11_growthOf, 53, (.iadd, 1)), (cX11_growthOf, 54, (.iconst 1, 1)), (cX11_growthOf, 55, (.iadd, 1)), (cX11_growthOf, 56, (.iaload, 1)), (cX11_growthOf, 57, (.ireturn, 1)), (cX11_growthOf, 58, (.iinc 2 1, 3)), (cX11_growthOf, 61, (.goto (-43), 3)), (cX11_growthOf, 64, (.iconst 0, 1)), (cX11_growthOf, 65, (.ireturn, 1)), (cX11_grows, 0, (.iload_n 1, 1)), (cX11_grows, 1, (.invokestatic 80, 3)), (cX11_grows, 4, (.ifCond .eq 11, 3)), (cX11_grows, 7, (.aload_n 0, 1)), (cX11_grows, 8, (.iload_n 1, 1)), (cX11_grows, 9, (.invokevirtual 100, 3)), (cX11_grows, 12, (.goto 4, 3)), (cX11_grows, 15, (.iconst (-1), 1)), (cX11_grows, 16, (.ireturn, 1)), (cX11_type, 0, (.iload_n 3, 1)), (cX11_type, 1, (.i2l, 1)), (cX11_type, 2, (.lconst 1, 1)), (cX11_type, 3, (.ldc2_w 104, 3)), (cX11_type, 6, (.invokestatic 70, 3)), (cX11_type, 9, (.ifCond .ne 5, 3)), (cX11_type, 12, (.iconst (-1), 1)), (cX11_type, 13, (.ireturn, 1)), (cX11_type, 14, (.iload_n 3, 1)), (cX11_type, 15, (.iconst 1, 1)), (cX11_type, 16, (.isub, 1)), (cX11_type, 17, (.istore 4, 2)), (cX11_type, 19, (.iload 4, 2)), (cX11_type, 21, (.ifCond .lt 34, 3)), (cX11_type, 24, (.lload_n 1, 1)), (cX11_type, 25, (.bipush 8, 2)), (cX11_type, 27, (.iload 4, 2))]
theorem dkB02decM0_8 : dkL02decM0_8.all (fun q => decide (decode q.1 q.2.1 = .ok q.2.2)) = true := by decide +kernel
theorem dX11_growthOf_14 : decode cX11_growthOf 14 = .ok (.iconst 0, 1) := dk_at dkB02decM0_8 0 rfl
theorem dX11_growthOf_15 : decode cX11_growthOf 15 = .ok (.ireturn, 1) := dk_at dkB02decM0_8 1 rfl
theorem dX11_growthOf_16 : decode cX11_growthOf 16 = .ok (.iconst 0, 1) := dk_at dkB02decM0_8 2 rfl
theorem dX11_growthOf_17 : decode cX11_growthOf 17 = .ok (.istore_n 2, 1) := dk_at dkB02decM0_8 3 rfl
theorem dX11_growthOf_18 : decode cX11_growthOf 18 = .ok (.iload_n 2, 1) := dk_at dkB02decM0_8 4 rfl
theorem dX11_growthOf_19 : decode cX11_growthOf 19 = .ok (.aload_n 0, 1) := dk_at dkB02decM0_8 5 rfl
theorem dX11_growthOf_20 : decode cX11_growthOf 20 = .ok (.getfield 7, 3) := dk_at dkB02decM0_8 6 rfl
theorem dX11_growthOf_23 : decode cX11_growthOf 23 = .ok (.iconst 2, 1) := dk_at dkB02decM0_8 7 rfl
theorem dX11_growthOf_24 : decode cX11_growthOf 24 = .ok (.iaload, 1) := dk_at dkB02decM0_8 8 rfl
theorem dX11_growthOf_25 : decode cX11_growthOf 25 = .ok (.if_icmp .ge 39, 3) := dk_at dkB02decM0_8 9 rfl
theorem dX11_growthOf_28 : decode cX11_growthOf 28 = .ok (.aload_n 0, 1) := dk_at dkB02decM0_8 10 rfl
theorem dX11_growthOf_29 : decode cX11_growthOf 29 = .ok (.bipush 92, 2) := dk_at dkB02decM0_8 11 rfl
theorem dX11_growthOf_31 : decode cX11_growthOf 31 = .ok (.bipush 11, 2) := dk_at dkB02decM0_8 12 rfl
theorem dX11_growthOf_33 : decode cX11_growthOf 33 = .ok (.iload_n 2, 1) := dk_at dkB02decM0_8 13 rfl
theorem dX11_growthOf_34 : decode cX11_growthOf 34 = .ok (.imul, 1) := dk_at dkB02decM0_8 14 rfl
theorem dX11_growthOf_35 : decode cX11_growthOf 35 = .ok (.iadd, 1) := dk_at dkB02decM0_8 15 rfl
theorem dX11_growthOf_36 : decode cX11_growthOf 36 = .ok (.iload_n 1, 1) := dk_at dkB02decM0_8 16 rfl
theorem dX11_growthOf_37 : decode cX11_growthOf 37 = .ok (.invokevirtual 97, 3) := dk_at dkB02decM0_8 17 rfl
theorem dX11_growthOf_40 : decode cX11_growthOf 40 = .ok (.ifCond .eq 18, 3) := dk_at dkB02decM0_8 18 rfl
theorem dX11_growthOf_43 : decode cX11_growthOf 43 = .ok (.aload_n 0, 1) := dk_at dkB02decM0_8 19 rfl
theorem dX11_growthOf_44 : decode cX11_growthOf 44 = .ok (.getfield 7, 3) := dk_at dkB02decM0_8 20 rfl
theorem dX11_growthOf_47 : decode cX11_growthOf 47 = .ok (.bipush 92, 2) := dk_at dkB02decM0_8 21 rfl
theorem dX11_growthOf_49 : decode cX11_growthOf 49 = .ok (.bipush 11, 2) := dk_at dkB02decM0_8 22 rfl
theorem dX11_growthOf_51 : decode cX11_growthOf 51 = .ok (.iload_n 2, 1) := dk_at dkB02decM0_8 23 rfl
theorem dX11_growthOf_52 : decode cX11_growthOf 52 = .ok (.imul, 1) := dk_at dkB02decM0_8 24 rfl
theorem dX11_growthOf_53 : decode cX11_growthOf 53 = .ok (.iadd, 1) := dk_at dkB02decM0_8 25 rfl
theorem dX11_growthOf_54 : decode cX11_growthOf 54 = .ok (.iconst 1, 1) := dk_at dkB02decM0_8 26 rfl
theorem dX11_growthOf_55 : decode cX11_growthOf 55 = .ok (.iadd, 1) := dk_at dkB02decM0_8 27 rfl
theorem dX11_growthOf_56 : decode cX11_growthOf 56 = .ok (.iaload, 1) := dk_at dkB02decM0_8 28 rfl
theorem dX11_growthOf_57 : decode cX11_growthOf 57 = .ok (.ireturn, 1) := dk_at dkB02decM0_8 29 rfl
theorem dX11_growthOf_58 : decode cX11_growthOf 58 = .ok (.iinc 2 1, 3) := dk_at dkB02decM0_8 30 rfl
theorem dX11_growthOf_61 : decode cX11_growthOf 61 = .ok (.goto (-43), 3) := dk_at dkB02decM0_8 31 rfl
theorem dX11_growthOf_64 : decode cX11_growthOf 64 = .ok (.iconst 0, 1) := dk_at dkB02decM0_8 32 rfl
theorem dX11_growthOf_65 : decode cX11_growthOf 65 = .ok (.ireturn, 1) := dk_at dkB02decM0_8 33 rfl
theorem dX11_grows_0 : decode cX11_grows 0 = .ok (.iload_n 1, 1) := dk_at dkB02decM0_8 34 rfl
theorem dX11_grows_1 : decode cX11_grows 1 = .ok (.invokestatic 80, 3) := dk_at dkB02decM0_8 35 rfl
theorem dX11_grows_4 : decode cX11_grows 4 = .ok (.ifCond .eq 11, 3) := dk_at dkB02decM0_8 36 rfl
theorem dX11_grows_7 : decode cX11_grows 7 = .ok (.aload_n 0, 1) := dk_at dkB02decM0_8 37 rfl
theorem dX11_grows_8 : decode cX11_grows 8 = .ok (.iload_n 1, 1) := dk_at dkB02decM0_8 38 rfl
theorem dX11_grows_9 : decode cX11_grows 9 = .ok (.invokevirtual 100, 3) := dk_at dkB02decM0_8 39 rfl
theorem dX11_grows_12 : decode cX11_grows 12 = .ok (.goto 4, 3) := dk_at dkB02decM0_8 40 rfl
theorem dX11_grows_15 : decode cX11_grows 15 = .ok (.iconst (-1), 1) := dk_at dkB02decM0_8 41 rfl
theorem dX11_grows_16 : decode cX11_grows 16 = .ok (.ireturn, 1) := dk_at dkB02decM0_8 42 rfl
theorem dX11_type_0 : decode cX11_type 0 = .ok (.iload_n 3, 1) := dk_at dkB02decM0_8 43 rfl
theorem dX11_type_1 : decode cX11_type 1 = .ok (.i2l, 1) := dk_at dkB02decM0_8 44 rfl
theorem dX11_type_2 : decode cX11_type 2 = .ok (.lconst 1, 1) := dk_at dkB02decM0_8 45 rfl
theorem dX11_type_3 : decode cX11_type 3 = .ok (.ldc2_w 104, 3) := dk_at dkB02decM0_8 46 rfl
theorem dX11_type_6 : decode cX11_type 6 = .ok (.invokestatic 70, 3) := dk_at dkB02decM0_8 47 rfl
theorem dX11_type_9 : decode cX11_type 9 = .ok (.ifCond .ne 5, 3) := dk_at dkB02decM0_8 48 rfl
theorem dX11_type_12 : decode cX11_type 12 = .ok (.iconst (-1), 1) := dk_at dkB02decM0_8 49 rfl
theorem dX11_type_13 : decode cX11_type 13 = .ok (.ireturn, 1) := dk_at dkB02decM0_8 50 rfl
theorem dX11_type_14 : decode cX11_type 14 = .ok (.iload_n 3, 1) := dk_at dkB02decM0_8 51 rfl
theorem dX11_type_15 : decode cX11_type 15 = .ok (.iconst 1, 1) := dk_at dkB02decM0_8 52 rfl
theorem dX11_type_16 : decode cX11_type 16 = .ok (.isub, 1) := dk_at dkB02decM0_8 53 rfl
theorem dX11_type_17 : decode cX11_type 17 = .ok (.istore 4, 2) := dk_at dkB02decM0_8 54 rfl
theorem dX11_type_19 : decode cX11_type 19 = .ok (.iload 4, 2) := dk_at dkB02decM0_8 55 rfl
theorem dX11_type_21 : decode cX11_type 21 = .ok (.ifCond .lt 34, 3) := dk_at dkB02decM0_8 56 rfl
theorem dX11_type_24 : decode cX11_type 24 = .ok (.lload_n 1, 1) := dk_at dkB02decM0_8 57 rfl
theorem dX11_type_25 : decode cX11_type 25 = .ok (.bipush 8, 2) := dk_at dkB02decM0_8 58 rfl
theorem dX11_type_27 : decode cX11_type 27 = .ok (.iload 4, 2) := dk_at dkB02decM0_8 59 rfl
noncomputable def dkL02decM0_9 : List (ByteArray × Nat × Instr × Nat) := [(cX11_type, 29, (.imul, 1)), (cX11_type, 30, (.lshr, 1)), (cX11_type, 31, (.ldc2_w 106, 3)), (cX11_type, 34, (.land, 1)), (cX11_type, 35, (.ldc2_w 108, 3)), (cX11_type, 38, (.ldc2_w 110, 3)), (cX11_type, 41, (.invokestatic 70, 3)), (cX11_type, 44, (.ifCond .ne 5, 3)), (cX11_type, 47, (.iconst (-1), 1)), (cX11_type, 48, (.ireturn, 1)), (cX11_type, 49, (.iinc 4 (-1), 3)), (cX11_type, 52, (.goto (-33), 3)), (cX11_type, 55, (.aload_n 0, 1)), (cX11_type, 56, (.getfield 112, 3)), (cX11_type, 59, (.iload_n 3, 1)), (cX11_type, 60, (.iadd, 1)), (cX11_type, 61, (.bipush 80, 2)), (cX11_type, 63, (.if_icmp .le 6, 3)), (cX11_type, 66, (.bipush (-3), 2)), (cX11_type, 68, (.ireturn, 1)), (cX11_type, 69, (.iload_n 3, 1)), (cX11_type, 70, (.iconst 1, 1)), (cX11_type, 71, (.isub, 1)), (cX11_type, 72, (.istore 4, 2)), (cX11_type, 74, (.iload 4, 2)), (cX11_type, 76, (.ifCond .lt 40, 3)), (cX11_type, 79, (.aload_n 0, 1)), (cX11_type, 80, (.getfield 13, 3)), (cX11_type, 83, (.aload_n 0, 1)), (cX11_type, 84, (.getfield 112, 3)), (cX11_type, 87, (.lload_n 1, 1)), (cX11_type, 88, (.bipush 8, 2)), (cX11_type, 90, (.iload 4, 2)), (cX11_type, 92, (.imul, 1)), (cX11_type, 93, (.lshr, 1)), (cX11_type, 94, (.ldc2_w 106, 3)), (cX11_type, 97, (.land, 1)), (cX11_type, 98, (.l2i, 1)), (cX11_type, 99, (.iastore, 1)), (cX11_type, 100, (.aload_n 0, 1)), (cX11_type, 101, (.dup, 1)), (cX11_type, 102, (.getfield 112, 3)), (cX11_type, 105, (.iconst 1, 1)), (cX11_type, 106, (.iadd, 1)), (cX11_type, 107, (.putfield 112, 3)), (cX11_type, 110, (.iinc 4 (-1), 3)), (cX11_type, 113, (.goto (-39), 3)), (cX11_type, 116, (.aload_n 0, 1)), (cX11_type, 117, (.getfield 112, 3)), (cX11_type, 120, (.ireturn, 1)), (cX11_nextByte, 0, (.aload_n 0, 1)), (cX11_nextByte, 1, (.getfield 116, 3)), (cX11_nextByte, 4, (.aload_n 0, 1)), (cX11_nextByte, 5, (.getfield 112, 3)), (cX11_nextByte, 8, (.if_icmp .ge 30, 3)), (cX11_nextByte, 11, (.aload_n 0, 1)), (cX11_nextByte, 12, (.getfield 13, 3)), (cX11_nextByte, 15, (.aload_n 0, 1)), (cX11_nextByte, 16, (.getfield 116, 3)), (cX11_nextByte, 19, (.iaload, 1))]
theorem dkB02decM0_9 : dkL02decM0_9.all (fun q => decide (decode q.1 q.2.1 = .ok q.2.2)) = true := by decide +kernel
theorem dX11_type_29 : decode cX11_type 29 = .ok (.imul, 1) := dk_at dkB02decM0_9 0 rfl
theorem dX11_type_30 : decode cX11_type 30 = .ok (.lshr, 1) := dk_at dkB02decM0_9 1 rfl
theorem dX11_type_31 : decode cX11_type 31 = .ok (.ldc2_w 106, 3) := dk_at dkB02decM0_9 2 rfl
theorem dX11_type_34 : decode cX11_type 34 = .ok (.land, 1) := dk_at dkB02decM0_9 3 rfl
theorem dX11_type_35 : decode cX11_type 35 = .ok (.ldc2_w 108, 3) := dk_at dkB02decM0_9 4 rfl
theorem dX11_type_38 : decode cX11_type 38 = .ok (.ldc2_w 110, 3) := dk_at dkB02decM0_9 5 rfl
theorem dX11_type_41 : decode cX11_type 41 = .ok (.invokestatic 70, 3) := dk_at dkB02decM0_9 6 rfl
theorem dX11_type_44 : decode cX11_type 44 = .ok (.ifCond .ne 5, 3) := dk_at dkB02decM0_9 7 rfl
theorem dX11_type_47 : decode cX11_type 47 = .ok (.iconst (-1), 1) := dk_at dkB02decM0_9 8 rfl
theorem dX11_type_48 : decode cX11_type 48 = .ok (.ireturn, 1) := dk_at dkB02decM0_9 9 rfl
theorem dX11_type_49 : decode cX11_type 49 = .ok (.iinc 4 (-1), 3) := dk_at dkB02decM0_9 10 rfl
theorem dX11_type_52 : decode cX11_type 52 = .ok (.goto (-33), 3) := dk_at dkB02decM0_9 11 rfl
theorem dX11_type_55 : decode cX11_type 55 = .ok (.aload_n 0, 1) := dk_at dkB02decM0_9 12 rfl
theorem dX11_type_56 : decode cX11_type 56 = .ok (.getfield 112, 3) := dk_at dkB02decM0_9 13 rfl
theorem dX11_type_59 : decode cX11_type 59 = .ok (.iload_n 3, 1) := dk_at dkB02decM0_9 14 rfl
theorem dX11_type_60 : decode cX11_type 60 = .ok (.iadd, 1) := dk_at dkB02decM0_9 15 rfl
theorem dX11_type_61 : decode cX11_type 61 = .ok (.bipush 80, 2) := dk_at dkB02decM0_9 16 rfl
theorem dX11_type_63 : decode cX11_type 63 = .ok (.if_icmp .le 6, 3) := dk_at dkB02decM0_9 17 rfl
theorem dX11_type_66 : decode cX11_type 66 = .ok (.bipush (-3), 2) := dk_at dkB02decM0_9 18 rfl
theorem dX11_type_68 : decode cX11_type 68 = .ok (.ireturn, 1) := dk_at dkB02decM0_9 19 rfl
theorem dX11_type_69 : decode cX11_type 69 = .ok (.iload_n 3, 1) := dk_at dkB02decM0_9 20 rfl
theorem dX11_type_70 : decode cX11_type 70 = .ok (.iconst 1, 1) := dk_at dkB02decM0_9 21 rfl
theorem dX11_type_71 : decode cX11_type 71 = .ok (.isub, 1) := dk_at dkB02decM0_9 22 rfl
theorem dX11_type_72 : decode cX11_type 72 = .ok (.istore 4, 2) := dk_at dkB02decM0_9 23 rfl
theorem dX11_type_74 : decode cX11_type 74 = .ok (.iload 4, 2) := dk_at dkB02decM0_9 24 rfl
theorem dX11_type_76 : decode cX11_type 76 = .ok (.ifCond .lt 40, 3) := dk_at dkB02decM0_9 25 rfl
theorem dX11_type_79 : decode cX11_type 79 = .ok (.aload_n 0, 1) := dk_at dkB02decM0_9 26 rfl
theorem dX11_type_80 : decode cX11_type 80 = .ok (.getfield 13, 3) := dk_at dkB02decM0_9 27 rfl
theorem dX11_type_83 : decode cX11_type 83 = .ok (.aload_n 0, 1) := dk_at dkB02decM0_9 28 rfl
theorem dX11_type_84 : decode cX11_type 84 = .ok (.getfield 112, 3) := dk_at dkB02decM0_9 29 rfl
theorem dX11_type_87 : decode cX11_type 87 = .ok (.lload_n 1, 1) := dk_at dkB02decM0_9 30 rfl
theorem dX11_type_88 : decode cX11_type 88 = .ok (.bipush 8, 2) := dk_at dkB02decM0_9 31 rfl
theorem dX11_type_90 : decode cX11_type 90 = .ok (.iload 4, 2) := dk_at dkB02decM0_9 32 rfl
theorem dX11_type_92 : decode cX11_type 92 = .ok (.imul, 1) := dk_at dkB02decM0_9 33 rfl
theorem dX11_type_93 : decode cX11_type 93 = .ok (.lshr, 1) := dk_at dkB02decM0_9 34 rfl
theorem dX11_type_94 : decode cX11_type 94 = .ok (.ldc2_w 106, 3) := dk_at dkB02decM0_9 35 rfl
theorem dX11_type_97 : decode cX11_type 97 = .ok (.land, 1) := dk_at dkB02decM0_9 36 rfl
theorem dX11_type_98 : decode cX11_type 98 = .ok (.l2i, 1) := dk_at dkB02decM0_9 37 rfl
theorem dX11_type_99 : decode cX11_type 99 = .ok (.iastore, 1) := dk_at dkB02decM0_9 38 rfl
theorem dX11_type_100 : decode cX11_type 100 = .ok (.aload_n 0, 1) := dk_at dkB02decM0_9 39 rfl
theorem dX11_type_101 : decode cX11_type 101 = .ok (.dup, 1) := dk_at dkB02decM0_9 40 rfl
theorem dX11_type_102 : decode cX11_type 102 = .ok (.getfield 112, 3) := dk_at dkB02decM0_9 41 rfl
theorem dX11_type_105 : decode cX11_type 105 = .ok (.iconst 1, 1) := dk_at dkB02decM0_9 42 rfl
theorem dX11_type_106 : decode cX11_type 106 = .ok (.iadd, 1) := dk_at dkB02decM0_9 43 rfl
theorem dX11_type_107 : decode cX11_type 107 = .ok (.putfield 112, 3) := dk_at dkB02decM0_9 44 rfl
theorem dX11_type_110 : decode cX11_type 110 = .ok (.iinc 4 (-1), 3) := dk_at dkB02decM0_9 45 rfl
theorem dX11_type_113 : decode cX11_type 113 = .ok (.goto (-39), 3) := dk_at dkB02decM0_9 46 rfl
theorem dX11_type_116 : decode cX11_type 116 = .ok (.aload_n 0, 1) := dk_at dkB02decM0_9 47 rfl
theorem dX11_type_117 : decode cX11_type 117 = .ok (.getfield 112, 3) := dk_at dkB02decM0_9 48 rfl
theorem dX11_type_120 : decode cX11_type 120 = .ok (.ireturn, 1) := dk_at dkB02decM0_9 49 rfl
theorem dX11_nextByte_0 : decode cX11_nextByte 0 = .ok (.aload_n 0, 1) := dk_at dkB02decM0_9 50 rfl
theorem dX11_nextByte_1 : decode cX11_nextByte 1 = .ok (.getfield 116, 3) := dk_at dkB02decM0_9 51 rfl
theorem dX11_nextByte_4 : decode cX11_nextByte 4 = .ok (.aload_n 0, 1) := dk_at dkB02decM0_9 52 rfl
theorem dX11_nextByte_5 : decode cX11_nextByte 5 = .ok (.getfield 112, 3) := dk_at dkB02decM0_9 53 rfl
theorem dX11_nextByte_8 : decode cX11_nextByte 8 = .ok (.if_icmp .ge 30, 3) := dk_at dkB02decM0_9 54 rfl
theorem dX11_nextByte_11 : decode cX11_nextByte 11 = .ok (.aload_n 0, 1) := dk_at dkB02decM0_9 55 rfl
theorem dX11_nextByte_12 : decode cX11_nextByte 12 = .ok (.getfield 13, 3) := dk_at dkB02decM0_9 56 rfl
theorem dX11_nextByte_15 : decode cX11_nextByte 15 = .ok (.aload_n 0, 1) := dk_at dkB02decM0_9 57 rfl
theorem dX11_nextByte_16 : decode cX11_nextByte 16 = .ok (.getfield 116, 3) := dk_at dkB02decM0_9 58 rfl
theorem dX11_nextByte_19 : decode cX11_nextByte 19 = .ok (.iaload, 1) := dk_at dkB02decM0_9 59 rfl
noncomputable def dkL02decM0_10 : List (ByteArray × Nat × Instr × Nat) := [(cX11_nextByte, 20, (.bipush 32, 2)), (cX11_nextByte, 22, (.if_icmp .ne 16, 3)), (cX11_nextByte, 25, (.aload_n 0, 1)), (cX11_nextByte, 26, (.dup, 1)), (cX11_nextByte, 27, (.getfield 116, 3)), (cX11_nextByte, 30, (.iconst 1, 1)), (cX11_nextByte, 31, (.iadd, 1)), (cX11_nextByte, 32, (.putfield 116, 3)), (cX11_nextByte, 35, (.goto (-35), 3)), (cX11_nextByte, 38, (.aload_n 0, 1)), (cX11_nextByte, 39, (.getfield 116, 3)), (cX11_nextByte, 42, (.aload_n 0, 1)), (cX11_nextByte, 43, (.getfield 112, 3)), (cX11_nextByte, 46, (.if_icmp .ge 15, 3)), (cX11_nextByte, 49, (.aload_n 0, 1)), (cX11_nextByte, 50, (.getfield 13, 3)), (cX11_nextByte, 53, (.aload_n 0, 1)), (cX11_nextByte, 54, (.getfield 116, 3)), (cX11_nextByte, 57, (.iaload, 1)), (cX11_nextByte, 58, (.goto 4, 3)), (cX11_nextByte, 61, (.iconst (-1), 1)), (cX11_nextByte, 62, (.ireturn, 1)), (cX11_takes, 0, (.aload_n 0, 1)), (cX11_takes, 1, (.invokevirtual 119, 3)), (cX11_takes, 4, (.iload_n 1, 1)), (cX11_takes, 5, (.if_icmp .ne 7, 3)), (cX11_takes, 8, (.iconst 1, 1)), (cX11_takes, 9, (.goto 4, 3)), (cX11_takes, 12, (.iconst 0, 1)), (cX11_takes, 13, (.istore_n 2, 1)), (cX11_takes, 14, (.aload_n 0, 1)), (cX11_takes, 15, (.dup, 1)), (cX11_takes, 16, (.getfield 116, 3)), (cX11_takes, 19, (.iload_n 2, 1)), (cX11_takes, 20, (.ifCond .eq 7, 3)), (cX11_takes, 23, (.iconst 1, 1)), (cX11_takes, 24, (.goto 4, 3)), (cX11_takes, 27, (.iconst 0, 1)), (cX11_takes, 28, (.iadd, 1)), (cX11_takes, 29, (.putfield 116, 3)), (cX11_takes, 32, (.iload_n 2, 1)), (cX11_takes, 33, (.ireturn, 1)), (cX11_readNumber, 0, (.aload_n 0, 1)), (cX11_readNumber, 1, (.invokevirtual 119, 3)), (cX11_readNumber, 4, (.pop, 1)), (cX11_readNumber, 5, (.aload_n 0, 1)), (cX11_readNumber, 6, (.getfield 116, 3)), (cX11_readNumber, 9, (.istore_n 3, 1)), (cX11_readNumber, 10, (.iconst 0, 1)), (cX11_readNumber, 11, (.istore 4, 2)), (cX11_readNumber, 13, (.aload_n 0, 1)), (cX11_readNumber, 14, (.getfield 116, 3)), (cX11_readNumber, 17, (.aload_n 0, 1)), (cX11_readNumber, 18, (.getfield 112, 3)), (cX11_readNumber, 21, (.if_icmp .ge 71, 3)), (cX11_readNumber, 24, (.aload_n 0, 1)), (cX11_readNumber, 25, (.getfield 13, 3)), (cX11_readNumber, 28, (.aload_n 0, 1)), (cX11_readNumber, 29, (.getfield 116, 3)), (cX11_readNumber, 32, (.iaload, 1))]
theorem dkB02decM0_10 : dkL02decM0_10.all (fun q => decide (decode q.1 q.2.1 = .ok q.2.2)) = true := by decide +kernel
theorem dX11_nextByte_20 : decode cX11_nextByte 20 = .ok (.bipush 32, 2) := dk_at dkB02decM0_10 0 rfl
theorem dX11_nextByte_22 : decode cX11_nextByte 22 = .ok (.if_icmp .ne 16, 3) := dk_at dkB02decM0_10 1 rfl
theorem dX11_nextByte_25 : decode cX11_nextByte 25 = .ok (.aload_n 0, 1) := dk_at dkB02decM0_10 2 rfl
theorem dX11_nextByte_26 : decode cX11_nextByte 26 = .ok (.dup, 1) := dk_at dkB02decM0_10 3 rfl
theorem dX11_nextByte_27 : decode cX11_nextByte 27 = .ok (.getfield 116, 3) := dk_at dkB02decM0_10 4 rfl
theorem dX11_nextByte_30 : decode cX11_nextByte 30 = .ok (.iconst 1, 1) := dk_at dkB02decM0_10 5 rfl
theorem dX11_nextByte_31 : decode cX11_nextByte 31 = .ok (.iadd, 1) := dk_at dkB02decM0_10 6 rfl
theorem dX11_nextByte_32 : decode cX11_nextByte 32 = .ok (.putfield 116, 3) := dk_at dkB02decM0_10 7 rfl
theorem dX11_nextByte_35 : decode cX11_nextByte 35 = .ok (.goto (-35), 3) := dk_at dkB02decM0_10 8 rfl
theorem dX11_nextByte_38 : decode cX11_nextByte 38 = .ok (.aload_n 0, 1) := dk_at dkB02decM0_10 9 rfl
theorem dX11_nextByte_39 : decode cX11_nextByte 39 = .ok (.getfield 116, 3) := dk_at dkB02decM0_10 10 rfl
theorem dX11_nextByte_42 : decode cX11_nextByte 42 = .ok (.aload_n 0, 1) := dk_at dkB02decM0_10 11 rfl
theorem dX11_nextByte_43 : decode cX11_nextByte 43 = .ok (.getfield 112, 3) := dk_at dkB02decM0_10 12 rfl
theorem dX11_nextByte_46 : decode cX11_nextByte 46 = .ok (.if_icmp .ge 15, 3) := dk_at dkB02decM0_10 13 rfl
theorem dX11_nextByte_49 : decode cX11_nextByte 49 = .ok (.aload_n 0, 1) := dk_at dkB02decM0_10 14 rfl
theorem dX11_nextByte_50 : decode cX11_nextByte 50 = .ok (.getfield 13, 3) := dk_at dkB02decM0_10 15 rfl
theorem dX11_nextByte_53 : decode cX11_nextByte 53 = .ok (.aload_n 0, 1) := dk_at dkB02decM0_10 16 rfl
theorem dX11_nextByte_54 : decode cX11_nextByte 54 = .ok (.getfield 116, 3) := dk_at dkB02decM0_10 17 rfl
theorem dX11_nextByte_57 : decode cX11_nextByte 57 = .ok (.iaload, 1) := dk_at dkB02decM0_10 18 rfl
theorem dX11_nextByte_58 : decode cX11_nextByte 58 = .ok (.goto 4, 3) := dk_at dkB02decM0_10 19 rfl
theorem dX11_nextByte_61 : decode cX11_nextByte 61 = .ok (.iconst (-1), 1) := dk_at dkB02decM0_10 20 rfl
theorem dX11_nextByte_62 : decode cX11_nextByte 62 = .ok (.ireturn, 1) := dk_at dkB02decM0_10 21 rfl
theorem dX11_takes_0 : decode cX11_takes 0 = .ok (.aload_n 0, 1) := dk_at dkB02decM0_10 22 rfl
theorem dX11_takes_1 : decode cX11_takes 1 = .ok (.invokevirtual 119, 3) := dk_at dkB02decM0_10 23 rfl
theorem dX11_takes_4 : decode cX11_takes 4 = .ok (.iload_n 1, 1) := dk_at dkB02decM0_10 24 rfl
theorem dX11_takes_5 : decode cX11_takes 5 = .ok (.if_icmp .ne 7, 3) := dk_at dkB02decM0_10 25 rfl
theorem dX11_takes_8 : decode cX11_takes 8 = .ok (.iconst 1, 1) := dk_at dkB02decM0_10 26 rfl
theorem dX11_takes_9 : decode cX11_takes 9 = .ok (.goto 4, 3) := dk_at dkB02decM0_10 27 rfl
theorem dX11_takes_12 : decode cX11_takes 12 = .ok (.iconst 0, 1) := dk_at dkB02decM0_10 28 rfl
theorem dX11_takes_13 : decode cX11_takes 13 = .ok (.istore_n 2, 1) := dk_at dkB02decM0_10 29 rfl
theorem dX11_takes_14 : decode cX11_takes 14 = .ok (.aload_n 0, 1) := dk_at dkB02decM0_10 30 rfl
theorem dX11_takes_15 : decode cX11_takes 15 = .ok (.dup, 1) := dk_at dkB02decM0_10 31 rfl
theorem dX11_takes_16 : decode cX11_takes 16 = .ok (.getfield 116, 3) := dk_at dkB02decM0_10 32 rfl
theorem dX11_takes_19 : decode cX11_takes 19 = .ok (.iload_n 2, 1) := dk_at dkB02decM0_10 33 rfl
theorem dX11_takes_20 : decode cX11_takes 20 = .ok (.ifCond .eq 7, 3) := dk_at dkB02decM0_10 34 rfl
theorem dX11_takes_23 : decode cX11_takes 23 = .ok (.iconst 1, 1) := dk_at dkB02decM0_10 35 rfl
theorem dX11_takes_24 : decode cX11_takes 24 = .ok (.goto 4, 3) := dk_at dkB02decM0_10 36 rfl
theorem dX11_takes_27 : decode cX11_takes 27 = .ok (.iconst 0, 1) := dk_at dkB02decM0_10 37 rfl
theorem dX11_takes_28 : decode cX11_takes 28 = .ok (.iadd, 1) := dk_at dkB02decM0_10 38 rfl
theorem dX11_takes_29 : decode cX11_takes 29 = .ok (.putfield 116, 3) := dk_at dkB02decM0_10 39 rfl
theorem dX11_takes_32 : decode cX11_takes 32 = .ok (.iload_n 2, 1) := dk_at dkB02decM0_10 40 rfl
theorem dX11_takes_33 : decode cX11_takes 33 = .ok (.ireturn, 1) := dk_at dkB02decM0_10 41 rfl
theorem dX11_readNumber_0 : decode cX11_readNumber 0 = .ok (.aload_n 0, 1) := dk_at dkB02decM0_10 42 rfl
theorem dX11_readNumber_1 : decode cX11_readNumber 1 = .ok (.invokevirtual 119, 3) := dk_at dkB02decM0_10 43 rfl
theorem dX11_readNumber_4 : decode cX11_readNumber 4 = .ok (.pop, 1) := dk_at dkB02decM0_10 44 rfl
theorem dX11_readNumber_5 : decode cX11_readNumber 5 = .ok (.aload_n 0, 1) := dk_at dkB02decM0_10 45 rfl
theorem dX11_readNumber_6 : decode cX11_readNumber 6 = .ok (.getfield 116, 3) := dk_at dkB02decM0_10 46 rfl
theorem dX11_readNumber_9 : decode cX11_readNumber 9 = .ok (.istore_n 3, 1) := dk_at dkB02decM0_10 47 rfl
theorem dX11_readNumber_10 : decode cX11_readNumber 10 = .ok (.iconst 0, 1) := dk_at dkB02decM0_10 48 rfl
theorem dX11_readNumber_11 : decode cX11_readNumber 11 = .ok (.istore 4, 2) := dk_at dkB02decM0_10 49 rfl
theorem dX11_readNumber_13 : decode cX11_readNumber 13 = .ok (.aload_n 0, 1) := dk_at dkB02decM0_10 50 rfl
theorem dX11_readNumber_14 : decode cX11_readNumber 14 = .ok (.getfield 116, 3) := dk_at dkB02decM0_10 51 rfl
theorem dX11_readNumber_17 : decode cX11_readNumber 17 = .ok (.aload_n 0, 1) := dk_at dkB02decM0_10 52 rfl
theorem dX11_readNumber_18 : decode cX11_readNumber 18 = .ok (.getfield 112, 3) := dk_at dkB02decM0_10 53 rfl
theorem dX11_readNumber_21 : decode cX11_readNumber 21 = .ok (.if_icmp .ge 71, 3) := dk_at dkB02decM0_10 54 rfl
theorem dX11_readNumber_24 : decode cX11_readNumber 24 = .ok (.aload_n 0, 1) := dk_at dkB02decM0_10 55 rfl
theorem dX11_readNumber_25 : decode cX11_readNumber 25 = .ok (.getfield 13, 3) := dk_at dkB02decM0_10 56 rfl
theorem dX11_readNumber_28 : decode cX11_readNumber 28 = .ok (.aload_n 0, 1) := dk_at dkB02decM0_10 57 rfl
theorem dX11_readNumber_29 : decode cX11_readNumber 29 = .ok (.getfield 116, 3) := dk_at dkB02decM0_10 58 rfl
theorem dX11_readNumber_32 : decode cX11_readNumber 32 = .ok (.iaload, 1) := dk_at dkB02decM0_10 59 rfl
noncomputable def dkL02decM0_11 : List (ByteArray × Nat × Instr × Nat) := [(cX11_readNumber, 33, (.i2l, 1)), (cX11_readNumber, 34, (.ldc2_w 123, 3)), (cX11_readNumber, 37, (.ldc2_w 125, 3)), (cX11_readNumber, 40, (.invokestatic 70, 3)), (cX11_readNumber, 43, (.ifCond .eq 49, 3)), (cX11_readNumber, 46, (.iload 4, 2)), (cX11_readNumber, 48, (.sipush 999, 3)), (cX11_readNumber, 51, (.if_icmp .le 8, 3)), (cX11_readNumber, 54, (.iload 4, 2)), (cX11_readNumber, 56, (.goto 21, 3)), (cX11_readNumber, 59, (.bipush 10, 2)), (cX11_readNumber, 61, (.iload 4, 2)), (cX11_readNumber, 63, (.imul, 1)), (cX11_readNumber, 64, (.aload_n 0, 1)), (cX11_readNumber, 65, (.getfield 13, 3)), (cX11_readNumber, 68, (.aload_n 0, 1)), (cX11_readNumber, 69, (.getfield 116, 3)), (cX11_readNumber, 72, (.iaload, 1)), (cX11_readNumber, 73, (.iadd, 1)), (cX11_readNumber, 74, (.bipush 48, 2)), (cX11_readNumber, 76, (.isub, 1)), (cX11_readNumber, 77, (.istore 4, 2)), (cX11_readNumber, 79, (.aload_n 0, 1)), (cX11_readNumber, 80, (.dup, 1)), (cX11_readNumber, 81, (.getfield 116, 3)), (cX11_readNumber, 84, (.iconst 1, 1)), (cX11_readNumber, 85, (.iadd, 1)), (cX11_readNumber, 86, (.putfield 116, 3)), (cX11_readNumber, 89, (.goto (-76), 3)), (cX11_readNumber, 92, (.aload_n 0, 1)), (cX11_readNumber, 93, (.getfield 116, 3)), (cX11_readNumber, 96, (.iload_n 3, 1)), (cX11_readNumber, 97, (.if_icmp .ne 5, 3)), (cX11_readNumber, 100, (.iconst (-1), 1)), (cX11_readNumber, 101, (.ireturn, 1)), (cX11_readNumber, 102, (.iload 4, 2)), (cX11_readNumber, 104, (.i2l, 1)), (cX11_readNumber, 105, (.iload_n 1, 1)), (cX11_readNumber, 106, (.i2l, 1)), (cX11_readNumber, 107, (.iload_n 2, 1)), (cX11_readNumber, 108, (.i2l, 1)), (cX11_readNumber, 109, (.invokestatic 70, 3)), (cX11_readNumber, 112, (.ifCond .ne 10, 3)), (cX11_readNumber, 115, (.aload_n 0, 1)), (cX11_readNumber, 116, (.iload_n 3, 1)), (cX11_readNumber, 117, (.putfield 116, 3)), (cX11_readNumber, 120, (.iconst (-1), 1)), (cX11_readNumber, 121, (.ireturn, 1)), (cX11_readNumber, 122, (.iload 4, 2)), (cX11_readNumber, 124, (.ireturn, 1)), (cX11_readCondition, 0, (.aload_n 0, 1)), (cX11_readCondition, 1, (.invokevirtual 119, 3)), (cX11_readCondition, 4, (.istore_n 2, 1)), (cX11_readCondition, 5, (.iload_n 2, 1)), (cX11_readCondition, 6, (.bipush 97, 2)), (cX11_readCondition, 8, (.if_icmp .eq 17, 3)), (cX11_readCondition, 11, (.iload_n 2, 1)), (cX11_readCondition, 12, (.bipush 104, 2)), (cX11_readCondition, 14, (.if_icmp .eq 11, 3)), (cX11_readCondition, 17, (.iload_n 2, 1))]
theorem dkB02decM0_11 : dkL02decM0_11.all (fun q => decide (decode q.1 q.2.1 = .ok q.2.2)) = true := by decide +kernel
theorem dX11_readNumber_33 : decode cX11_readNumber 33 = .ok (.i2l, 1) := dk_at dkB02decM0_11 0 rfl
theorem dX11_readNumber_34 : decode cX11_readNumber 34 = .ok (.ldc2_w 123, 3) := dk_at dkB02decM0_11 1 rfl
theorem dX11_readNumber_37 : decode cX11_readNumber 37 = .ok (.ldc2_w 125, 3) := dk_at dkB02decM0_11 2 rfl
theorem dX11_readNumber_40 : decode cX11_readNumber 40 = .ok (.invokestatic 70, 3) := dk_at dkB02decM0_11 3 rfl
theorem dX11_readNumber_43 : decode cX11_readNumber 43 = .ok (.ifCond .eq 49, 3) := dk_at dkB02decM0_11 4 rfl
theorem dX11_readNumber_46 : decode cX11_readNumber 46 = .ok (.iload 4, 2) := dk_at dkB02decM0_11 5 rfl
theorem dX11_readNumber_48 : decode cX11_readNumber 48 = .ok (.sipush 999, 3) := dk_at dkB02decM0_11 6 rfl
theorem dX11_readNumber_51 : decode cX11_readNumber 51 = .ok (.if_icmp .le 8, 3) := dk_at dkB02decM0_11 7 rfl
theorem dX11_readNumber_54 : decode cX11_readNumber 54 = .ok (.iload 4, 2) := dk_at dkB02decM0_11 8 rfl
theorem dX11_readNumber_56 : decode cX11_readNumber 56 = .ok (.goto 21, 3) := dk_at dkB02decM0_11 9 rfl
theorem dX11_readNumber_59 : decode cX11_readNumber 59 = .ok (.bipush 10, 2) := dk_at dkB02decM0_11 10 rfl
theorem dX11_readNumber_61 : decode cX11_readNumber 61 = .ok (.iload 4, 2) := dk_at dkB02decM0_11 11 rfl
theorem dX11_readNumber_63 : decode cX11_readNumber 63 = .ok (.imul, 1) := dk_at dkB02decM0_11 12 rfl
theorem dX11_readNumber_64 : decode cX11_readNumber 64 = .ok (.aload_n 0, 1) := dk_at dkB02decM0_11 13 rfl
theorem dX11_readNumber_65 : decode cX11_readNumber 65 = .ok (.getfield 13, 3) := dk_at dkB02decM0_11 14 rfl
theorem dX11_readNumber_68 : decode cX11_readNumber 68 = .ok (.aload_n 0, 1) := dk_at dkB02decM0_11 15 rfl
theorem dX11_readNumber_69 : decode cX11_readNumber 69 = .ok (.getfield 116, 3) := dk_at dkB02decM0_11 16 rfl
theorem dX11_readNumber_72 : decode cX11_readNumber 72 = .ok (.iaload, 1) := dk_at dkB02decM0_11 17 rfl
theorem dX11_readNumber_73 : decode cX11_readNumber 73 = .ok (.iadd, 1) := dk_at dkB02decM0_11 18 rfl
theorem dX11_readNumber_74 : decode cX11_readNumber 74 = .ok (.bipush 48, 2) := dk_at dkB02decM0_11 19 rfl
theorem dX11_readNumber_76 : decode cX11_readNumber 76 = .ok (.isub, 1) := dk_at dkB02decM0_11 20 rfl
theorem dX11_readNumber_77 : decode cX11_readNumber 77 = .ok (.istore 4, 2) := dk_at dkB02decM0_11 21 rfl
theorem dX11_readNumber_79 : decode cX11_readNumber 79 = .ok (.aload_n 0, 1) := dk_at dkB02decM0_11 22 rfl
theorem dX11_readNumber_80 : decode cX11_readNumber 80 = .ok (.dup, 1) := dk_at dkB02decM0_11 23 rfl
theorem dX11_readNumber_81 : decode cX11_readNumber 81 = .ok (.getfield 116, 3) := dk_at dkB02decM0_11 24 rfl
theorem dX11_readNumber_84 : decode cX11_readNumber 84 = .ok (.iconst 1, 1) := dk_at dkB02decM0_11 25 rfl
theorem dX11_readNumber_85 : decode cX11_readNumber 85 = .ok (.iadd, 1) := dk_at dkB02decM0_11 26 rfl
theorem dX11_readNumber_86 : decode cX11_readNumber 86 = .ok (.putfield 116, 3) := dk_at dkB02decM0_11 27 rfl
theorem dX11_readNumber_89 : decode cX11_readNumber 89 = .ok (.goto (-76), 3) := dk_at dkB02decM0_11 28 rfl
theorem dX11_readNumber_92 : decode cX11_readNumber 92 = .ok (.aload_n 0, 1) := dk_at dkB02decM0_11 29 rfl
theorem dX11_readNumber_93 : decode cX11_readNumber 93 = .ok (.getfield 116, 3) := dk_at dkB02decM0_11 30 rfl
theorem dX11_readNumber_96 : decode cX11_readNumber 96 = .ok (.iload_n 3, 1) := dk_at dkB02decM0_11 31 rfl
theorem dX11_readNumber_97 : decode cX11_readNumber 97 = .ok (.if_icmp .ne 5, 3) := dk_at dkB02decM0_11 32 rfl
theorem dX11_readNumber_100 : decode cX11_readNumber 100 = .ok (.iconst (-1), 1) := dk_at dkB02decM0_11 33 rfl
theorem dX11_readNumber_101 : decode cX11_readNumber 101 = .ok (.ireturn, 1) := dk_at dkB02decM0_11 34 rfl
theorem dX11_readNumber_102 : decode cX11_readNumber 102 = .ok (.iload 4, 2) := dk_at dkB02decM0_11 35 rfl
theorem dX11_readNumber_104 : decode cX11_readNumber 104 = .ok (.i2l, 1) := dk_at dkB02decM0_11 36 rfl
theorem dX11_readNumber_105 : decode cX11_readNumber 105 = .ok (.iload_n 1, 1) := dk_at dkB02decM0_11 37 rfl
theorem dX11_readNumber_106 : decode cX11_readNumber 106 = .ok (.i2l, 1) := dk_at dkB02decM0_11 38 rfl
theorem dX11_readNumber_107 : decode cX11_readNumber 107 = .ok (.iload_n 2, 1) := dk_at dkB02decM0_11 39 rfl
theorem dX11_readNumber_108 : decode cX11_readNumber 108 = .ok (.i2l, 1) := dk_at dkB02decM0_11 40 rfl
theorem dX11_readNumber_109 : decode cX11_readNumber 109 = .ok (.invokestatic 70, 3) := dk_at dkB02decM0_11 41 rfl
theorem dX11_readNumber_112 : decode cX11_readNumber 112 = .ok (.ifCond .ne 10, 3) := dk_at dkB02decM0_11 42 rfl
theorem dX11_readNumber_115 : decode cX11_readNumber 115 = .ok (.aload_n 0, 1) := dk_at dkB02decM0_11 43 rfl
theorem dX11_readNumber_116 : decode cX11_readNumber 116 = .ok (.iload_n 3, 1) := dk_at dkB02decM0_11 44 rfl
theorem dX11_readNumber_117 : decode cX11_readNumber 117 = .ok (.putfield 116, 3) := dk_at dkB02decM0_11 45 rfl
theorem dX11_readNumber_120 : decode cX11_readNumber 120 = .ok (.iconst (-1), 1) := dk_at dkB02decM0_11 46 rfl
theorem dX11_readNumber_121 : decode cX11_readNumber 121 = .ok (.ireturn, 1) := dk_at dkB02decM0_11 47 rfl
theorem dX11_readNumber_122 : decode cX11_readNumber 122 = .ok (.iload 4, 2) := dk_at dkB02decM0_11 48 rfl
theorem dX11_readNumber_124 : decode cX11_readNumber 124 = .ok (.ireturn, 1) := dk_at dkB02decM0_11 49 rfl
theorem dX11_readCondition_0 : decode cX11_readCondition 0 = .ok (.aload_n 0, 1) := dk_at dkB02decM0_11 50 rfl
theorem dX11_readCondition_1 : decode cX11_readCondition 1 = .ok (.invokevirtual 119, 3) := dk_at dkB02decM0_11 51 rfl
theorem dX11_readCondition_4 : decode cX11_readCondition 4 = .ok (.istore_n 2, 1) := dk_at dkB02decM0_11 52 rfl
theorem dX11_readCondition_5 : decode cX11_readCondition 5 = .ok (.iload_n 2, 1) := dk_at dkB02decM0_11 53 rfl
theorem dX11_readCondition_6 : decode cX11_readCondition 6 = .ok (.bipush 97, 2) := dk_at dkB02decM0_11 54 rfl
theorem dX11_readCondition_8 : decode cX11_readCondition 8 = .ok (.if_icmp .eq 17, 3) := dk_at dkB02decM0_11 55 rfl
theorem dX11_readCondition_11 : decode cX11_readCondition 11 = .ok (.iload_n 2, 1) := dk_at dkB02decM0_11 56 rfl
theorem dX11_readCondition_12 : decode cX11_readCondition 12 = .ok (.bipush 104, 2) := dk_at dkB02decM0_11 57 rfl
theorem dX11_readCondition_14 : decode cX11_readCondition 14 = .ok (.if_icmp .eq 11, 3) := dk_at dkB02decM0_11 58 rfl
theorem dX11_readCondition_17 : decode cX11_readCondition 17 = .ok (.iload_n 2, 1) := dk_at dkB02decM0_11 59 rfl
noncomputable def dkL02decM0_12 : List (ByteArray × Nat × Instr × Nat) := [(cX11_readCondition, 18, (.bipush 119, 2)), (cX11_readCondition, 20, (.if_icmp .eq 5, 3)), (cX11_readCondition, 23, (.iconst 0, 1)), (cX11_readCondition, 24, (.ireturn, 1)), (cX11_readCondition, 25, (.aload_n 0, 1)), (cX11_readCondition, 26, (.dup, 1)), (cX11_readCondition, 27, (.getfield 116, 3)), (cX11_readCondition, 30, (.iconst 1, 1)), (cX11_readCondition, 31, (.iadd, 1)), (cX11_readCondition, 32, (.putfield 116, 3)), (cX11_readCondition, 35, (.aload_n 0, 1)), (cX11_readCondition, 36, (.invokevirtual 119, 3)), (cX11_readCondition, 39, (.istore_n 3, 1)), (cX11_readCondition, 40, (.iload_n 3, 1)), (cX11_readCondition, 41, (.bipush 60, 2)), (cX11_readCondition, 43, (.if_icmp .eq 17, 3)), (cX11_readCondition, 46, (.iload_n 3, 1)), (cX11_readCondition, 47, (.bipush 62, 2)), (cX11_readCondition, 49, (.if_icmp .eq 11, 3)), (cX11_readCondition, 52, (.iload_n 3, 1)), (cX11_readCondition, 53, (.bipush 61, 2)), (cX11_readCondition, 55, (.if_icmp .eq 5, 3)), (cX11_readCondition, 58, (.iconst 0, 1)), (cX11_readCondition, 59, (.ireturn, 1)), (cX11_readCondition, 60, (.aload_n 0, 1)), (cX11_readCondition, 61, (.dup, 1)), (cX11_readCondition, 62, (.getfield 116, 3)), (cX11_readCondition, 65, (.iconst 1, 1)), (cX11_readCondition, 66, (.iadd, 1)), (cX11_readCondition, 67, (.putfield 116, 3)), (cX11_readCondition, 70, (.aload_n 0, 1)), (cX11_readCondition, 71, (.iconst 0, 1)), (cX11_readCondition, 72, (.bipush 99, 2)), (cX11_readCondition, 74, (.invokevirtual 127, 3)), (cX11_readCondition, 77, (.istore 4, 2)), (cX11_readCondition, 79, (.iload 4, 2)), (cX11_readCondition, 81, (.ifCond .ge 5, 3)), (cX11_readCondition, 84, (.iconst 0, 1)), (cX11_readCondition, 85, (.ireturn, 1)), (cX11_readCondition, 86, (.aload_n 0, 1)), (cX11_readCondition, 87, (.getfield 16, 3)), (cX11_readCondition, 90, (.iload_n 1, 1)), (cX11_readCondition, 91, (.iload_n 2, 1)), (cX11_readCondition, 92, (.iastore, 1)), (cX11_readCondition, 93, (.aload_n 0, 1)), (cX11_readCondition, 94, (.getfield 16, 3)), (cX11_readCondition, 97, (.iload_n 1, 1)), (cX11_readCondition, 98, (.iconst 1, 1)), (cX11_readCondition, 99, (.iadd, 1)), (cX11_readCondition, 100, (.iload_n 3, 1)), (cX11_readCondition, 101, (.iastore, 1)), (cX11_readCondition, 102, (.aload_n 0, 1)), (cX11_readCondition, 103, (.getfield 16, 3)), (cX11_readCondition, 106, (.iload_n 1, 1)), (cX11_readCondition, 107, (.iconst 2, 1)), (cX11_readCondition, 108, (.iadd, 1)), (cX11_readCondition, 109, (.iload 4, 2)), (cX11_readCondition, 111, (.iastore, 1)), (cX11_readCondition, 112, (.iconst 1, 1)), (cX11_readCondition, 113, (.ireturn, 1))]
theorem dkB02decM0_12 : dkL02decM0_12.all (fun q => decide (decode q.1 q.2.1 = .ok q.2.2)) = true := by decide +kernel
theorem dX11_readCondition_18 : decode cX11_readCondition 18 = .ok (.bipush 119, 2) := dk_at dkB02decM0_12 0 rfl
theorem dX11_readCondition_20 : decode cX11_readCondition 20 = .ok (.if_icmp .eq 5, 3) := dk_at dkB02decM0_12 1 rfl
theorem dX11_readCondition_23 : decode cX11_readCondition 23 = .ok (.iconst 0, 1) := dk_at dkB02decM0_12 2 rfl
theorem dX11_readCondition_24 : decode cX11_readCondition 24 = .ok (.ireturn, 1) := dk_at dkB02decM0_12 3 rfl
theorem dX11_readCondition_25 : decode cX11_readCondition 25 = .ok (.aload_n 0, 1) := dk_at dkB02decM0_12 4 rfl
theorem dX11_readCondition_26 : decode cX11_readCondition 26 = .ok (.dup, 1) := dk_at dkB02decM0_12 5 rfl
theorem dX11_readCondition_27 : decode cX11_readCondition 27 = .ok (.getfield 116, 3) := dk_at dkB02decM0_12 6 rfl
theorem dX11_readCondition_30 : decode cX11_readCondition 30 = .ok (.iconst 1, 1) := dk_at dkB02decM0_12 7 rfl
theorem dX11_readCondition_31 : decode cX11_readCondition 31 = .ok (.iadd, 1) := dk_at dkB02decM0_12 8 rfl
theorem dX11_readCondition_32 : decode cX11_readCondition 32 = .ok (.putfield 116, 3) := dk_at dkB02decM0_12 9 rfl
theorem dX11_readCondition_35 : decode cX11_readCondition 35 = .ok (.aload_n 0, 1) := dk_at dkB02decM0_12 10 rfl
theorem dX11_readCondition_36 : decode cX11_readCondition 36 = .ok (.invokevirtual 119, 3) := dk_at dkB02decM0_12 11 rfl
theorem dX11_readCondition_39 : decode cX11_readCondition 39 = .ok (.istore_n 3, 1) := dk_at dkB02decM0_12 12 rfl
theorem dX11_readCondition_40 : decode cX11_readCondition 40 = .ok (.iload_n 3, 1) := dk_at dkB02decM0_12 13 rfl
theorem dX11_readCondition_41 : decode cX11_readCondition 41 = .ok (.bipush 60, 2) := dk_at dkB02decM0_12 14 rfl
theorem dX11_readCondition_43 : decode cX11_readCondition 43 = .ok (.if_icmp .eq 17, 3) := dk_at dkB02decM0_12 15 rfl
theorem dX11_readCondition_46 : decode cX11_readCondition 46 = .ok (.iload_n 3, 1) := dk_at dkB02decM0_12 16 rfl
theorem dX11_readCondition_47 : decode cX11_readCondition 47 = .ok (.bipush 62, 2) := dk_at dkB02decM0_12 17 rfl
theorem dX11_readCondition_49 : decode cX11_readCondition 49 = .ok (.if_icmp .eq 11, 3) := dk_at dkB02decM0_12 18 rfl
theorem dX11_readCondition_52 : decode cX11_readCondition 52 = .ok (.iload_n 3, 1) := dk_at dkB02decM0_12 19 rfl
theorem dX11_readCondition_53 : decode cX11_readCondition 53 = .ok (.bipush 61, 2) := dk_at dkB02decM0_12 20 rfl
theorem dX11_readCondition_55 : decode cX11_readCondition 55 = .ok (.if_icmp .eq 5, 3) := dk_at dkB02decM0_12 21 rfl
theorem dX11_readCondition_58 : decode cX11_readCondition 58 = .ok (.iconst 0, 1) := dk_at dkB02decM0_12 22 rfl
theorem dX11_readCondition_59 : decode cX11_readCondition 59 = .ok (.ireturn, 1) := dk_at dkB02decM0_12 23 rfl
theorem dX11_readCondition_60 : decode cX11_readCondition 60 = .ok (.aload_n 0, 1) := dk_at dkB02decM0_12 24 rfl
theorem dX11_readCondition_61 : decode cX11_readCondition 61 = .ok (.dup, 1) := dk_at dkB02decM0_12 25 rfl
theorem dX11_readCondition_62 : decode cX11_readCondition 62 = .ok (.getfield 116, 3) := dk_at dkB02decM0_12 26 rfl
theorem dX11_readCondition_65 : decode cX11_readCondition 65 = .ok (.iconst 1, 1) := dk_at dkB02decM0_12 27 rfl
theorem dX11_readCondition_66 : decode cX11_readCondition 66 = .ok (.iadd, 1) := dk_at dkB02decM0_12 28 rfl
theorem dX11_readCondition_67 : decode cX11_readCondition 67 = .ok (.putfield 116, 3) := dk_at dkB02decM0_12 29 rfl
theorem dX11_readCondition_70 : decode cX11_readCondition 70 = .ok (.aload_n 0, 1) := dk_at dkB02decM0_12 30 rfl
theorem dX11_readCondition_71 : decode cX11_readCondition 71 = .ok (.iconst 0, 1) := dk_at dkB02decM0_12 31 rfl
theorem dX11_readCondition_72 : decode cX11_readCondition 72 = .ok (.bipush 99, 2) := dk_at dkB02decM0_12 32 rfl
theorem dX11_readCondition_74 : decode cX11_readCondition 74 = .ok (.invokevirtual 127, 3) := dk_at dkB02decM0_12 33 rfl
theorem dX11_readCondition_77 : decode cX11_readCondition 77 = .ok (.istore 4, 2) := dk_at dkB02decM0_12 34 rfl
theorem dX11_readCondition_79 : decode cX11_readCondition 79 = .ok (.iload 4, 2) := dk_at dkB02decM0_12 35 rfl
theorem dX11_readCondition_81 : decode cX11_readCondition 81 = .ok (.ifCond .ge 5, 3) := dk_at dkB02decM0_12 36 rfl
theorem dX11_readCondition_84 : decode cX11_readCondition 84 = .ok (.iconst 0, 1) := dk_at dkB02decM0_12 37 rfl
theorem dX11_readCondition_85 : decode cX11_readCondition 85 = .ok (.ireturn, 1) := dk_at dkB02decM0_12 38 rfl
theorem dX11_readCondition_86 : decode cX11_readCondition 86 = .ok (.aload_n 0, 1) := dk_at dkB02decM0_12 39 rfl
theorem dX11_readCondition_87 : decode cX11_readCondition 87 = .ok (.getfield 16, 3) := dk_at dkB02decM0_12 40 rfl
theorem dX11_readCondition_90 : decode cX11_readCondition 90 = .ok (.iload_n 1, 1) := dk_at dkB02decM0_12 41 rfl
theorem dX11_readCondition_91 : decode cX11_readCondition 91 = .ok (.iload_n 2, 1) := dk_at dkB02decM0_12 42 rfl
theorem dX11_readCondition_92 : decode cX11_readCondition 92 = .ok (.iastore, 1) := dk_at dkB02decM0_12 43 rfl
theorem dX11_readCondition_93 : decode cX11_readCondition 93 = .ok (.aload_n 0, 1) := dk_at dkB02decM0_12 44 rfl
theorem dX11_readCondition_94 : decode cX11_readCondition 94 = .ok (.getfield 16, 3) := dk_at dkB02decM0_12 45 rfl
theorem dX11_readCondition_97 : decode cX11_readCondition 97 = .ok (.iload_n 1, 1) := dk_at dkB02decM0_12 46 rfl
theorem dX11_readCondition_98 : decode cX11_readCondition 98 = .ok (.iconst 1, 1) := dk_at dkB02decM0_12 47 rfl
theorem dX11_readCondition_99 : decode cX11_readCondition 99 = .ok (.iadd, 1) := dk_at dkB02decM0_12 48 rfl
theorem dX11_readCondition_100 : decode cX11_readCondition 100 = .ok (.iload_n 3, 1) := dk_at dkB02decM0_12 49 rfl
theorem dX11_readCondition_101 : decode cX11_readCondition 101 = .ok (.iastore, 1) := dk_at dkB02decM0_12 50 rfl
theorem dX11_readCondition_102 : decode cX11_readCondition 102 = .ok (.aload_n 0, 1) := dk_at dkB02decM0_12 51 rfl
theorem dX11_readCondition_103 : decode cX11_readCondition 103 = .ok (.getfield 16, 3) := dk_at dkB02decM0_12 52 rfl
theorem dX11_readCondition_106 : decode cX11_readCondition 106 = .ok (.iload_n 1, 1) := dk_at dkB02decM0_12 53 rfl
theorem dX11_readCondition_107 : decode cX11_readCondition 107 = .ok (.iconst 2, 1) := dk_at dkB02decM0_12 54 rfl
theorem dX11_readCondition_108 : decode cX11_readCondition 108 = .ok (.iadd, 1) := dk_at dkB02decM0_12 55 rfl
theorem dX11_readCondition_109 : decode cX11_readCondition 109 = .ok (.iload 4, 2) := dk_at dkB02decM0_12 56 rfl
theorem dX11_readCondition_111 : decode cX11_readCondition 111 = .ok (.iastore, 1) := dk_at dkB02decM0_12 57 rfl
theorem dX11_readCondition_112 : decode cX11_readCondition 112 = .ok (.iconst 1, 1) := dk_at dkB02decM0_12 58 rfl
theorem dX11_readCondition_113 : decode cX11_readCondition 113 = .ok (.ireturn, 1) := dk_at dkB02decM0_12 59 rfl
noncomputable def dkL02decM0_13 : List (ByteArray × Nat × Instr × Nat) := [(cX11_readClause, 0, (.bipush 11, 2)), (cX11_readClause, 2, (.iload_n 1, 1)), (cX11_readClause, 3, (.imul, 1)), (cX11_readClause, 4, (.istore_n 2, 1)), (cX11_readClause, 5, (.aload_n 0, 1)), (cX11_readClause, 6, (.getfield 16, 3)), (cX11_readClause, 9, (.iload_n 2, 1)), (cX11_readClause, 10, (.iconst 0, 1)), (cX11_readClause, 11, (.iastore, 1)), (cX11_readClause, 12, (.aload_n 0, 1)), (cX11_readClause, 13, (.bipush 42, 2)), (cX11_readClause, 15, (.invokevirtual 130, 3)), (cX11_readClause, 18, (.ifCond .ne 86, 3)), (cX11_readClause, 21, (.iconst 1, 1)), (cX11_readClause, 22, (.istore_n 3, 1)), (cX11_readClause, 23, (.iload_n 3, 1)), (cX11_readClause, 24, (.ifCond .eq 80, 3)), (cX11_readClause, 27, (.aload_n 0, 1)), (cX11_readClause, 28, (.iload_n 2, 1)), (cX11_readClause, 29, (.iconst 2, 1)), (cX11_readClause, 30, (.iadd, 1)), (cX11_readClause, 31, (.iconst 3, 1)), (cX11_readClause, 32, (.aload_n 0, 1)), (cX11_readClause, 33, (.getfield 16, 3)), (cX11_readClause, 36, (.iload_n 2, 1)), (cX11_readClause, 37, (.iaload, 1)), (cX11_readClause, 38, (.imul, 1)), (cX11_readClause, 39, (.iadd, 1)), (cX11_readClause, 40, (.invokevirtual 133, 3)), (cX11_readClause, 43, (.ifCond .ne 5, 3)), (cX11_readClause, 46, (.iconst 0, 1)), (cX11_readClause, 47, (.ireturn, 1)), (cX11_readClause, 48, (.aload_n 0, 1)), (cX11_readClause, 49, (.getfield 16, 3)), (cX11_readClause, 52, (.iload_n 2, 1)), (cX11_readClause, 53, (.dup2, 1)), (cX11_readClause, 54, (.iaload, 1)), (cX11_readClause, 55, (.iconst 1, 1)), (cX11_readClause, 56, (.iadd, 1)), (cX11_readClause, 57, (.iastore, 1)), (cX11_readClause, 58, (.aload_n 0, 1)), (cX11_readClause, 59, (.invokevirtual 119, 3)), (cX11_readClause, 62, (.bipush 38, 2)), (cX11_readClause, 64, (.if_icmp .ne 17, 3)), (cX11_readClause, 67, (.aload_n 0, 1)), (cX11_readClause, 68, (.getfield 16, 3)), (cX11_readClause, 71, (.iload_n 2, 1)), (cX11_readClause, 72, (.iaload, 1)), (cX11_readClause, 73, (.iconst 3, 1)), (cX11_readClause, 74, (.if_icmp .ge 7, 3)), (cX11_readClause, 77, (.iconst 1, 1)), (cX11_readClause, 78, (.goto 4, 3)), (cX11_readClause, 81, (.iconst 0, 1)), (cX11_readClause, 82, (.istore_n 3, 1)), (cX11_readClause, 83, (.aload_n 0, 1)), (cX11_readClause, 84, (.dup, 1)), (cX11_readClause, 85, (.getfield 116, 3)), (cX11_readClause, 88, (.iload_n 3, 1)), (cX11_readClause, 89, (.ifCond .eq 7, 3)), (cX11_readClause, 92, (.iconst 1, 1))]
theorem dkB02decM0_13 : dkL02decM0_13.all (fun q => decide (decode q.1 q.2.1 = .ok q.2.2)) = true := by decide +kernel
theorem dX11_readClause_0 : decode cX11_readClause 0 = .ok (.bipush 11, 2) := dk_at dkB02decM0_13 0 rfl
theorem dX11_readClause_2 : decode cX11_readClause 2 = .ok (.iload_n 1, 1) := dk_at dkB02decM0_13 1 rfl
theorem dX11_readClause_3 : decode cX11_readClause 3 = .ok (.imul, 1) := dk_at dkB02decM0_13 2 rfl
theorem dX11_readClause_4 : decode cX11_readClause 4 = .ok (.istore_n 2, 1) := dk_at dkB02decM0_13 3 rfl
theorem dX11_readClause_5 : decode cX11_readClause 5 = .ok (.aload_n 0, 1) := dk_at dkB02decM0_13 4 rfl
theorem dX11_readClause_6 : decode cX11_readClause 6 = .ok (.getfield 16, 3) := dk_at dkB02decM0_13 5 rfl
theorem dX11_readClause_9 : decode cX11_readClause 9 = .ok (.iload_n 2, 1) := dk_at dkB02decM0_13 6 rfl
theorem dX11_readClause_10 : decode cX11_readClause 10 = .ok (.iconst 0, 1) := dk_at dkB02decM0_13 7 rfl
theorem dX11_readClause_11 : decode cX11_readClause 11 = .ok (.iastore, 1) := dk_at dkB02decM0_13 8 rfl
theorem dX11_readClause_12 : decode cX11_readClause 12 = .ok (.aload_n 0, 1) := dk_at dkB02decM0_13 9 rfl
theorem dX11_readClause_13 : decode cX11_readClause 13 = .ok (.bipush 42, 2) := dk_at dkB02decM0_13 10 rfl
theorem dX11_readClause_15 : decode cX11_readClause 15 = .ok (.invokevirtual 130, 3) := dk_at dkB02decM0_13 11 rfl
theorem dX11_readClause_18 : decode cX11_readClause 18 = .ok (.ifCond .ne 86, 3) := dk_at dkB02decM0_13 12 rfl
theorem dX11_readClause_21 : decode cX11_readClause 21 = .ok (.iconst 1, 1) := dk_at dkB02decM0_13 13 rfl
theorem dX11_readClause_22 : decode cX11_readClause 22 = .ok (.istore_n 3, 1) := dk_at dkB02decM0_13 14 rfl
theorem dX11_readClause_23 : decode cX11_readClause 23 = .ok (.iload_n 3, 1) := dk_at dkB02decM0_13 15 rfl
theorem dX11_readClause_24 : decode cX11_readClause 24 = .ok (.ifCond .eq 80, 3) := dk_at dkB02decM0_13 16 rfl
theorem dX11_readClause_27 : decode cX11_readClause 27 = .ok (.aload_n 0, 1) := dk_at dkB02decM0_13 17 rfl
theorem dX11_readClause_28 : decode cX11_readClause 28 = .ok (.iload_n 2, 1) := dk_at dkB02decM0_13 18 rfl
theorem dX11_readClause_29 : decode cX11_readClause 29 = .ok (.iconst 2, 1) := dk_at dkB02decM0_13 19 rfl
theorem dX11_readClause_30 : decode cX11_readClause 30 = .ok (.iadd, 1) := dk_at dkB02decM0_13 20 rfl
theorem dX11_readClause_31 : decode cX11_readClause 31 = .ok (.iconst 3, 1) := dk_at dkB02decM0_13 21 rfl
theorem dX11_readClause_32 : decode cX11_readClause 32 = .ok (.aload_n 0, 1) := dk_at dkB02decM0_13 22 rfl
theorem dX11_readClause_33 : decode cX11_readClause 33 = .ok (.getfield 16, 3) := dk_at dkB02decM0_13 23 rfl
theorem dX11_readClause_36 : decode cX11_readClause 36 = .ok (.iload_n 2, 1) := dk_at dkB02decM0_13 24 rfl
theorem dX11_readClause_37 : decode cX11_readClause 37 = .ok (.iaload, 1) := dk_at dkB02decM0_13 25 rfl
theorem dX11_readClause_38 : decode cX11_readClause 38 = .ok (.imul, 1) := dk_at dkB02decM0_13 26 rfl
theorem dX11_readClause_39 : decode cX11_readClause 39 = .ok (.iadd, 1) := dk_at dkB02decM0_13 27 rfl
theorem dX11_readClause_40 : decode cX11_readClause 40 = .ok (.invokevirtual 133, 3) := dk_at dkB02decM0_13 28 rfl
theorem dX11_readClause_43 : decode cX11_readClause 43 = .ok (.ifCond .ne 5, 3) := dk_at dkB02decM0_13 29 rfl
theorem dX11_readClause_46 : decode cX11_readClause 46 = .ok (.iconst 0, 1) := dk_at dkB02decM0_13 30 rfl
theorem dX11_readClause_47 : decode cX11_readClause 47 = .ok (.ireturn, 1) := dk_at dkB02decM0_13 31 rfl
theorem dX11_readClause_48 : decode cX11_readClause 48 = .ok (.aload_n 0, 1) := dk_at dkB02decM0_13 32 rfl
theorem dX11_readClause_49 : decode cX11_readClause 49 = .ok (.getfield 16, 3) := dk_at dkB02decM0_13 33 rfl
theorem dX11_readClause_52 : decode cX11_readClause 52 = .ok (.iload_n 2, 1) := dk_at dkB02decM0_13 34 rfl
theorem dX11_readClause_53 : decode cX11_readClause 53 = .ok (.dup2, 1) := dk_at dkB02decM0_13 35 rfl
theorem dX11_readClause_54 : decode cX11_readClause 54 = .ok (.iaload, 1) := dk_at dkB02decM0_13 36 rfl
theorem dX11_readClause_55 : decode cX11_readClause 55 = .ok (.iconst 1, 1) := dk_at dkB02decM0_13 37 rfl
theorem dX11_readClause_56 : decode cX11_readClause 56 = .ok (.iadd, 1) := dk_at dkB02decM0_13 38 rfl
theorem dX11_readClause_57 : decode cX11_readClause 57 = .ok (.iastore, 1) := dk_at dkB02decM0_13 39 rfl
theorem dX11_readClause_58 : decode cX11_readClause 58 = .ok (.aload_n 0, 1) := dk_at dkB02decM0_13 40 rfl
theorem dX11_readClause_59 : decode cX11_readClause 59 = .ok (.invokevirtual 119, 3) := dk_at dkB02decM0_13 41 rfl
theorem dX11_readClause_62 : decode cX11_readClause 62 = .ok (.bipush 38, 2) := dk_at dkB02decM0_13 42 rfl
theorem dX11_readClause_64 : decode cX11_readClause 64 = .ok (.if_icmp .ne 17, 3) := dk_at dkB02decM0_13 43 rfl
theorem dX11_readClause_67 : decode cX11_readClause 67 = .ok (.aload_n 0, 1) := dk_at dkB02decM0_13 44 rfl
theorem dX11_readClause_68 : decode cX11_readClause 68 = .ok (.getfield 16, 3) := dk_at dkB02decM0_13 45 rfl
theorem dX11_readClause_71 : decode cX11_readClause 71 = .ok (.iload_n 2, 1) := dk_at dkB02decM0_13 46 rfl
theorem dX11_readClause_72 : decode cX11_readClause 72 = .ok (.iaload, 1) := dk_at dkB02decM0_13 47 rfl
theorem dX11_readClause_73 : decode cX11_readClause 73 = .ok (.iconst 3, 1) := dk_at dkB02decM0_13 48 rfl
theorem dX11_readClause_74 : decode cX11_readClause 74 = .ok (.if_icmp .ge 7, 3) := dk_at dkB02decM0_13 49 rfl
theorem dX11_readClause_77 : decode cX11_readClause 77 = .ok (.iconst 1, 1) := dk_at dkB02decM0_13 50 rfl
theorem dX11_readClause_78 : decode cX11_readClause 78 = .ok (.goto 4, 3) := dk_at dkB02decM0_13 51 rfl
theorem dX11_readClause_81 : decode cX11_readClause 81 = .ok (.iconst 0, 1) := dk_at dkB02decM0_13 52 rfl
theorem dX11_readClause_82 : decode cX11_readClause 82 = .ok (.istore_n 3, 1) := dk_at dkB02decM0_13 53 rfl
theorem dX11_readClause_83 : decode cX11_readClause 83 = .ok (.aload_n 0, 1) := dk_at dkB02decM0_13 54 rfl
theorem dX11_readClause_84 : decode cX11_readClause 84 = .ok (.dup, 1) := dk_at dkB02decM0_13 55 rfl
theorem dX11_readClause_85 : decode cX11_readClause 85 = .ok (.getfield 116, 3) := dk_at dkB02decM0_13 56 rfl
theorem dX11_readClause_88 : decode cX11_readClause 88 = .ok (.iload_n 3, 1) := dk_at dkB02decM0_13 57 rfl
theorem dX11_readClause_89 : decode cX11_readClause 89 = .ok (.ifCond .eq 7, 3) := dk_at dkB02decM0_13 58 rfl
theorem dX11_readClause_92 : decode cX11_readClause 92 = .ok (.iconst 1, 1) := dk_at dkB02decM0_13 59 rfl
noncomputable def dkL02decM0_14 : List (ByteArray × Nat × Instr × Nat) := [(cX11_readClause, 93, (.goto 4, 3)), (cX11_readClause, 96, (.iconst 0, 1)), (cX11_readClause, 97, (.iadd, 1)), (cX11_readClause, 98, (.putfield 116, 3)), (cX11_readClause, 101, (.goto (-78), 3)), (cX11_readClause, 104, (.aload_n 0, 1)), (cX11_readClause, 105, (.bipush 58, 2)), (cX11_readClause, 107, (.invokevirtual 130, 3)), (cX11_readClause, 110, (.ifCond .ne 5, 3)), (cX11_readClause, 113, (.iconst 0, 1)), (cX11_readClause, 114, (.ireturn, 1)), (cX11_readClause, 115, (.aload_n 0, 1)), (cX11_readClause, 116, (.invokevirtual 119, 3)), (cX11_readClause, 119, (.bipush 48, 2)), (cX11_readClause, 121, (.isub, 1)), (cX11_readClause, 122, (.istore_n 3, 1)), (cX11_readClause, 123, (.iload_n 3, 1)), (cX11_readClause, 124, (.i2l, 1)), (cX11_readClause, 125, (.lconst 0, 1)), (cX11_readClause, 126, (.ldc2_w 136, 3)), (cX11_readClause, 129, (.invokestatic 70, 3)), (cX11_readClause, 132, (.ifCond .ne 5, 3)), (cX11_readClause, 135, (.iconst 0, 1)), (cX11_readClause, 136, (.ireturn, 1)), (cX11_readClause, 137, (.aload_n 0, 1)), (cX11_readClause, 138, (.dup, 1)), (cX11_readClause, 139, (.getfield 116, 3)), (cX11_readClause, 142, (.iconst 1, 1)), (cX11_readClause, 143, (.iadd, 1)), (cX11_readClause, 144, (.putfield 116, 3)), (cX11_readClause, 147, (.aload_n 0, 1)), (cX11_readClause, 148, (.getfield 16, 3)), (cX11_readClause, 151, (.iload_n 2, 1)), (cX11_readClause, 152, (.iconst 1, 1)), (cX11_readClause, 153, (.iadd, 1)), (cX11_readClause, 154, (.iload_n 3, 1)), (cX11_readClause, 155, (.iastore, 1)), (cX11_readClause, 156, (.iconst 1, 1)), (cX11_readClause, 157, (.ireturn, 1)), (cX11_readLaw, 0, (.aload_n 0, 1)), (cX11_readLaw, 1, (.iconst 0, 1)), (cX11_readLaw, 2, (.putfield 116, 3)), (cX11_readLaw, 5, (.iconst 0, 1)), (cX11_readLaw, 6, (.istore_n 1, 1)), (cX11_readLaw, 7, (.iload_n 1, 1)), (cX11_readLaw, 8, (.bipush 6, 2)), (cX11_readLaw, 10, (.if_icmp .ge 60, 3)), (cX11_readLaw, 13, (.aload_n 0, 1)), (cX11_readLaw, 14, (.iload_n 1, 1)), (cX11_readLaw, 15, (.invokevirtual 138, 3)), (cX11_readLaw, 18, (.ifCond .ne 5, 3)), (cX11_readLaw, 21, (.iconst 0, 1)), (cX11_readLaw, 22, (.ireturn, 1)), (cX11_readLaw, 23, (.aload_n 0, 1)), (cX11_readLaw, 24, (.iload_n 1, 1)), (cX11_readLaw, 25, (.iconst 1, 1)), (cX11_readLaw, 26, (.iadd, 1)), (cX11_readLaw, 27, (.putfield 141, 3)), (cX11_readLaw, 30, (.aload_n 0, 1)), (cX11_readLaw, 31, (.invokevirtual 119, 3))]
theorem dkB02decM0_14 : dkL02decM0_14.all (fun q => decide (decode q.1 q.2.1 = .ok q.2.2)) = true := by decide +kernel
theorem dX11_readClause_93 : decode cX11_readClause 93 = .ok (.goto 4, 3) := dk_at dkB02decM0_14 0 rfl
theorem dX11_readClause_96 : decode cX11_readClause 96 = .ok (.iconst 0, 1) := dk_at dkB02decM0_14 1 rfl
theorem dX11_readClause_97 : decode cX11_readClause 97 = .ok (.iadd, 1) := dk_at dkB02decM0_14 2 rfl
theorem dX11_readClause_98 : decode cX11_readClause 98 = .ok (.putfield 116, 3) := dk_at dkB02decM0_14 3 rfl
theorem dX11_readClause_101 : decode cX11_readClause 101 = .ok (.goto (-78), 3) := dk_at dkB02decM0_14 4 rfl
theorem dX11_readClause_104 : decode cX11_readClause 104 = .ok (.aload_n 0, 1) := dk_at dkB02decM0_14 5 rfl
theorem dX11_readClause_105 : decode cX11_readClause 105 = .ok (.bipush 58, 2) := dk_at dkB02decM0_14 6 rfl
theorem dX11_readClause_107 : decode cX11_readClause 107 = .ok (.invokevirtual 130, 3) := dk_at dkB02decM0_14 7 rfl
theorem dX11_readClause_110 : decode cX11_readClause 110 = .ok (.ifCond .ne 5, 3) := dk_at dkB02decM0_14 8 rfl
theorem dX11_readClause_113 : decode cX11_readClause 113 = .ok (.iconst 0, 1) := dk_at dkB02decM0_14 9 rfl
theorem dX11_readClause_114 : decode cX11_readClause 114 = .ok (.ireturn, 1) := dk_at dkB02decM0_14 10 rfl
theorem dX11_readClause_115 : decode cX11_readClause 115 = .ok (.aload_n 0, 1) := dk_at dkB02decM0_14 11 rfl
theorem dX11_readClause_116 : decode cX11_readClause 116 = .ok (.invokevirtual 119, 3) := dk_at dkB02decM0_14 12 rfl
theorem dX11_readClause_119 : decode cX11_readClause 119 = .ok (.bipush 48, 2) := dk_at dkB02decM0_14 13 rfl
theorem dX11_readClause_121 : decode cX11_readClause 121 = .ok (.isub, 1) := dk_at dkB02decM0_14 14 rfl
theorem dX11_readClause_122 : decode cX11_readClause 122 = .ok (.istore_n 3, 1) := dk_at dkB02decM0_14 15 rfl
theorem dX11_readClause_123 : decode cX11_readClause 123 = .ok (.iload_n 3, 1) := dk_at dkB02decM0_14 16 rfl
theorem dX11_readClause_124 : decode cX11_readClause 124 = .ok (.i2l, 1) := dk_at dkB02decM0_14 17 rfl
theorem dX11_readClause_125 : decode cX11_readClause 125 = .ok (.lconst 0, 1) := dk_at dkB02decM0_14 18 rfl
theorem dX11_readClause_126 : decode cX11_readClause 126 = .ok (.ldc2_w 136, 3) := dk_at dkB02decM0_14 19 rfl
theorem dX11_readClause_129 : decode cX11_readClause 129 = .ok (.invokestatic 70, 3) := dk_at dkB02decM0_14 20 rfl
theorem dX11_readClause_132 : decode cX11_readClause 132 = .ok (.ifCond .ne 5, 3) := dk_at dkB02decM0_14 21 rfl
theorem dX11_readClause_135 : decode cX11_readClause 135 = .ok (.iconst 0, 1) := dk_at dkB02decM0_14 22 rfl
theorem dX11_readClause_136 : decode cX11_readClause 136 = .ok (.ireturn, 1) := dk_at dkB02decM0_14 23 rfl
theorem dX11_readClause_137 : decode cX11_readClause 137 = .ok (.aload_n 0, 1) := dk_at dkB02decM0_14 24 rfl
theorem dX11_readClause_138 : decode cX11_readClause 138 = .ok (.dup, 1) := dk_at dkB02decM0_14 25 rfl
theorem dX11_readClause_139 : decode cX11_readClause 139 = .ok (.getfield 116, 3) := dk_at dkB02decM0_14 26 rfl
theorem dX11_readClause_142 : decode cX11_readClause 142 = .ok (.iconst 1, 1) := dk_at dkB02decM0_14 27 rfl
theorem dX11_readClause_143 : decode cX11_readClause 143 = .ok (.iadd, 1) := dk_at dkB02decM0_14 28 rfl
theorem dX11_readClause_144 : decode cX11_readClause 144 = .ok (.putfield 116, 3) := dk_at dkB02decM0_14 29 rfl
theorem dX11_readClause_147 : decode cX11_readClause 147 = .ok (.aload_n 0, 1) := dk_at dkB02decM0_14 30 rfl
theorem dX11_readClause_148 : decode cX11_readClause 148 = .ok (.getfield 16, 3) := dk_at dkB02decM0_14 31 rfl
theorem dX11_readClause_151 : decode cX11_readClause 151 = .ok (.iload_n 2, 1) := dk_at dkB02decM0_14 32 rfl
theorem dX11_readClause_152 : decode cX11_readClause 152 = .ok (.iconst 1, 1) := dk_at dkB02decM0_14 33 rfl
theorem dX11_readClause_153 : decode cX11_readClause 153 = .ok (.iadd, 1) := dk_at dkB02decM0_14 34 rfl
theorem dX11_readClause_154 : decode cX11_readClause 154 = .ok (.iload_n 3, 1) := dk_at dkB02decM0_14 35 rfl
theorem dX11_readClause_155 : decode cX11_readClause 155 = .ok (.iastore, 1) := dk_at dkB02decM0_14 36 rfl
theorem dX11_readClause_156 : decode cX11_readClause 156 = .ok (.iconst 1, 1) := dk_at dkB02decM0_14 37 rfl
theorem dX11_readClause_157 : decode cX11_readClause 157 = .ok (.ireturn, 1) := dk_at dkB02decM0_14 38 rfl
theorem dX11_readLaw_0 : decode cX11_readLaw 0 = .ok (.aload_n 0, 1) := dk_at dkB02decM0_14 39 rfl
theorem dX11_readLaw_1 : decode cX11_readLaw 1 = .ok (.iconst 0, 1) := dk_at dkB02decM0_14 40 rfl
theorem dX11_readLaw_2 : decode cX11_readLaw 2 = .ok (.putfield 116, 3) := dk_at dkB02decM0_14 41 rfl
theorem dX11_readLaw_5 : decode cX11_readLaw 5 = .ok (.iconst 0, 1) := dk_at dkB02decM0_14 42 rfl
theorem dX11_readLaw_6 : decode cX11_readLaw 6 = .ok (.istore_n 1, 1) := dk_at dkB02decM0_14 43 rfl
theorem dX11_readLaw_7 : decode cX11_readLaw 7 = .ok (.iload_n 1, 1) := dk_at dkB02decM0_14 44 rfl
theorem dX11_readLaw_8 : decode cX11_readLaw 8 = .ok (.bipush 6, 2) := dk_at dkB02decM0_14 45 rfl
theorem dX11_readLaw_10 : decode cX11_readLaw 10 = .ok (.if_icmp .ge 60, 3) := dk_at dkB02decM0_14 46 rfl
theorem dX11_readLaw_13 : decode cX11_readLaw 13 = .ok (.aload_n 0, 1) := dk_at dkB02decM0_14 47 rfl
theorem dX11_readLaw_14 : decode cX11_readLaw 14 = .ok (.iload_n 1, 1) := dk_at dkB02decM0_14 48 rfl
theorem dX11_readLaw_15 : decode cX11_readLaw 15 = .ok (.invokevirtual 138, 3) := dk_at dkB02decM0_14 49 rfl
theorem dX11_readLaw_18 : decode cX11_readLaw 18 = .ok (.ifCond .ne 5, 3) := dk_at dkB02decM0_14 50 rfl
theorem dX11_readLaw_21 : decode cX11_readLaw 21 = .ok (.iconst 0, 1) := dk_at dkB02decM0_14 51 rfl
theorem dX11_readLaw_22 : decode cX11_readLaw 22 = .ok (.ireturn, 1) := dk_at dkB02decM0_14 52 rfl
theorem dX11_readLaw_23 : decode cX11_readLaw 23 = .ok (.aload_n 0, 1) := dk_at dkB02decM0_14 53 rfl
theorem dX11_readLaw_24 : decode cX11_readLaw 24 = .ok (.iload_n 1, 1) := dk_at dkB02decM0_14 54 rfl
theorem dX11_readLaw_25 : decode cX11_readLaw 25 = .ok (.iconst 1, 1) := dk_at dkB02decM0_14 55 rfl
theorem dX11_readLaw_26 : decode cX11_readLaw 26 = .ok (.iadd, 1) := dk_at dkB02decM0_14 56 rfl
theorem dX11_readLaw_27 : decode cX11_readLaw 27 = .ok (.putfield 141, 3) := dk_at dkB02decM0_14 57 rfl
theorem dX11_readLaw_30 : decode cX11_readLaw 30 = .ok (.aload_n 0, 1) := dk_at dkB02decM0_14 58 rfl
theorem dX11_readLaw_31 : decode cX11_readLaw 31 = .ok (.invokevirtual 119, 3) := dk_at dkB02decM0_14 59 rfl
noncomputable def dkL02decM0_15 : List (ByteArray × Nat × Instr × Nat) := [(cX11_readLaw, 34, (.istore_n 2, 1)), (cX11_readLaw, 35, (.iload_n 2, 1)), (cX11_readLaw, 36, (.ifCond .ge 5, 3)), (cX11_readLaw, 39, (.iconst 1, 1)), (cX11_readLaw, 40, (.ireturn, 1)), (cX11_readLaw, 41, (.iload_n 2, 1)), (cX11_readLaw, 42, (.bipush 59, 2)), (cX11_readLaw, 44, (.if_icmp .ne 8, 3)), (cX11_readLaw, 47, (.iload_n 1, 1)), (cX11_readLaw, 48, (.iconst 5, 1)), (cX11_readLaw, 49, (.if_icmp .ne 5, 3)), (cX11_readLaw, 52, (.iconst 0, 1)), (cX11_readLaw, 53, (.ireturn, 1)), (cX11_readLaw, 54, (.aload_n 0, 1)), (cX11_readLaw, 55, (.dup, 1)), (cX11_readLaw, 56, (.getfield 116, 3)), (cX11_readLaw, 59, (.iconst 1, 1)), (cX11_readLaw, 60, (.iadd, 1)), (cX11_readLaw, 61, (.putfield 116, 3)), (cX11_readLaw, 64, (.iinc 1 1, 3)), (cX11_readLaw, 67, (.goto (-60), 3)), (cX11_readLaw, 70, (.iconst 0, 1)), (cX11_readLaw, 71, (.ireturn, 1)), (cX11_law, 0, (.aload_n 0, 1)), (cX11_law, 1, (.invokevirtual 144, 3)), (cX11_law, 4, (.istore_n 1, 1)), (cX11_law, 5, (.aload_n 0, 1)), (cX11_law, 6, (.iconst 0, 1)), (cX11_law, 7, (.putfield 112, 3)), (cX11_law, 10, (.iload_n 1, 1)), (cX11_law, 11, (.ifCond .ne 11, 3)), (cX11_law, 14, (.bipush (-20), 2)), (cX11_law, 16, (.aload_n 0, 1)), (cX11_law, 17, (.getfield 116, 3)), (cX11_law, 20, (.isub, 1)), (cX11_law, 21, (.ireturn, 1)), (cX11_law, 22, (.iconst 0, 1)), (cX11_law, 23, (.istore_n 2, 1)), (cX11_law, 24, (.iload_n 2, 1)), (cX11_law, 25, (.bipush 66, 2)), (cX11_law, 27, (.if_icmp .ge 24, 3)), (cX11_law, 30, (.aload_n 0, 1)), (cX11_law, 31, (.getfield 7, 3)), (cX11_law, 34, (.bipush 92, 2)), (cX11_law, 36, (.iload_n 2, 1)), (cX11_law, 37, (.iadd, 1)), (cX11_law, 38, (.aload_n 0, 1)), (cX11_law, 39, (.getfield 16, 3)), (cX11_law, 42, (.iload_n 2, 1)), (cX11_law, 43, (.iaload, 1)), (cX11_law, 44, (.iastore, 1)), (cX11_law, 45, (.iinc 2 1, 3)), (cX11_law, 48, (.goto (-24), 3)), (cX11_law, 51, (.aload_n 0, 1)), (cX11_law, 52, (.getfield 7, 3)), (cX11_law, 55, (.iconst 2, 1)), (cX11_law, 56, (.aload_n 0, 1)), (cX11_law, 57, (.getfield 141, 3)), (cX11_law, 60, (.iastore, 1)), (cX11_law, 61, (.aload_n 0, 1))]
theorem dkB02decM0_15 : dkL02decM0_15.all (fun q => decide (decode q.1 q.2.1 = .ok q.2.2)) = true := by decide +kernel
theorem dX11_readLaw_34 : decode cX11_readLaw 34 = .ok (.istore_n 2, 1) := dk_at dkB02decM0_15 0 rfl
theorem dX11_readLaw_35 : decode cX11_readLaw 35 = .ok (.iload_n 2, 1) := dk_at dkB02decM0_15 1 rfl
theorem dX11_readLaw_36 : decode cX11_readLaw 36 = .ok (.ifCond .ge 5, 3) := dk_at dkB02decM0_15 2 rfl
theorem dX11_readLaw_39 : decode cX11_readLaw 39 = .ok (.iconst 1, 1) := dk_at dkB02decM0_15 3 rfl
theorem dX11_readLaw_40 : decode cX11_readLaw 40 = .ok (.ireturn, 1) := dk_at dkB02decM0_15 4 rfl
theorem dX11_readLaw_41 : decode cX11_readLaw 41 = .ok (.iload_n 2, 1) := dk_at dkB02decM0_15 5 rfl
theorem dX11_readLaw_42 : decode cX11_readLaw 42 = .ok (.bipush 59, 2) := dk_at dkB02decM0_15 6 rfl
theorem dX11_readLaw_44 : decode cX11_readLaw 44 = .ok (.if_icmp .ne 8, 3) := dk_at dkB02decM0_15 7 rfl
theorem dX11_readLaw_47 : decode cX11_readLaw 47 = .ok (.iload_n 1, 1) := dk_at dkB02decM0_15 8 rfl
theorem dX11_readLaw_48 : decode cX11_readLaw 48 = .ok (.iconst 5, 1) := dk_at dkB02decM0_15 9 rfl
theorem dX11_readLaw_49 : decode cX11_readLaw 49 = .ok (.if_icmp .ne 5, 3) := dk_at dkB02decM0_15 10 rfl
theorem dX11_readLaw_52 : decode cX11_readLaw 52 = .ok (.iconst 0, 1) := dk_at dkB02decM0_15 11 rfl
theorem dX11_readLaw_53 : decode cX11_readLaw 53 = .ok (.ireturn, 1) := dk_at dkB02decM0_15 12 rfl
theorem dX11_readLaw_54 : decode cX11_readLaw 54 = .ok (.aload_n 0, 1) := dk_at dkB02decM0_15 13 rfl
theorem dX11_readLaw_55 : decode cX11_readLaw 55 = .ok (.dup, 1) := dk_at dkB02decM0_15 14 rfl
theorem dX11_readLaw_56 : decode cX11_readLaw 56 = .ok (.getfield 116, 3) := dk_at dkB02decM0_15 15 rfl
theorem dX11_readLaw_59 : decode cX11_readLaw 59 = .ok (.iconst 1, 1) := dk_at dkB02decM0_15 16 rfl
theorem dX11_readLaw_60 : decode cX11_readLaw 60 = .ok (.iadd, 1) := dk_at dkB02decM0_15 17 rfl
theorem dX11_readLaw_61 : decode cX11_readLaw 61 = .ok (.putfield 116, 3) := dk_at dkB02decM0_15 18 rfl
theorem dX11_readLaw_64 : decode cX11_readLaw 64 = .ok (.iinc 1 1, 3) := dk_at dkB02decM0_15 19 rfl
theorem dX11_readLaw_67 : decode cX11_readLaw 67 = .ok (.goto (-60), 3) := dk_at dkB02decM0_15 20 rfl
theorem dX11_readLaw_70 : decode cX11_readLaw 70 = .ok (.iconst 0, 1) := dk_at dkB02decM0_15 21 rfl
theorem dX11_readLaw_71 : decode cX11_readLaw 71 = .ok (.ireturn, 1) := dk_at dkB02decM0_15 22 rfl
theorem dX11_law_0 : decode cX11_law 0 = .ok (.aload_n 0, 1) := dk_at dkB02decM0_15 23 rfl
theorem dX11_law_1 : decode cX11_law 1 = .ok (.invokevirtual 144, 3) := dk_at dkB02decM0_15 24 rfl
theorem dX11_law_4 : decode cX11_law 4 = .ok (.istore_n 1, 1) := dk_at dkB02decM0_15 25 rfl
theorem dX11_law_5 : decode cX11_law 5 = .ok (.aload_n 0, 1) := dk_at dkB02decM0_15 26 rfl
theorem dX11_law_6 : decode cX11_law 6 = .ok (.iconst 0, 1) := dk_at dkB02decM0_15 27 rfl
theorem dX11_law_7 : decode cX11_law 7 = .ok (.putfield 112, 3) := dk_at dkB02decM0_15 28 rfl
theorem dX11_law_10 : decode cX11_law 10 = .ok (.iload_n 1, 1) := dk_at dkB02decM0_15 29 rfl
theorem dX11_law_11 : decode cX11_law 11 = .ok (.ifCond .ne 11, 3) := dk_at dkB02decM0_15 30 rfl
theorem dX11_law_14 : decode cX11_law 14 = .ok (.bipush (-20), 2) := dk_at dkB02decM0_15 31 rfl
theorem dX11_law_16 : decode cX11_law 16 = .ok (.aload_n 0, 1) := dk_at dkB02decM0_15 32 rfl
theorem dX11_law_17 : decode cX11_law 17 = .ok (.getfield 116, 3) := dk_at dkB02decM0_15 33 rfl
theorem dX11_law_20 : decode cX11_law 20 = .ok (.isub, 1) := dk_at dkB02decM0_15 34 rfl
theorem dX11_law_21 : decode cX11_law 21 = .ok (.ireturn, 1) := dk_at dkB02decM0_15 35 rfl
theorem dX11_law_22 : decode cX11_law 22 = .ok (.iconst 0, 1) := dk_at dkB02decM0_15 36 rfl
theorem dX11_law_23 : decode cX11_law 23 = .ok (.istore_n 2, 1) := dk_at dkB02decM0_15 37 rfl
theorem dX11_law_24 : decode cX11_law 24 = .ok (.iload_n 2, 1) := dk_at dkB02decM0_15 38 rfl
theorem dX11_law_25 : decode cX11_law 25 = .ok (.bipush 66, 2) := dk_at dkB02decM0_15 39 rfl
theorem dX11_law_27 : decode cX11_law 27 = .ok (.if_icmp .ge 24, 3) := dk_at dkB02decM0_15 40 rfl
theorem dX11_law_30 : decode cX11_law 30 = .ok (.aload_n 0, 1) := dk_at dkB02decM0_15 41 rfl
theorem dX11_law_31 : decode cX11_law 31 = .ok (.getfield 7, 3) := dk_at dkB02decM0_15 42 rfl
theorem dX11_law_34 : decode cX11_law 34 = .ok (.bipush 92, 2) := dk_at dkB02decM0_15 43 rfl
theorem dX11_law_36 : decode cX11_law 36 = .ok (.iload_n 2, 1) := dk_at dkB02decM0_15 44 rfl
theorem dX11_law_37 : decode cX11_law 37 = .ok (.iadd, 1) := dk_at dkB02decM0_15 45 rfl
theorem dX11_law_38 : decode cX11_law 38 = .ok (.aload_n 0, 1) := dk_at dkB02decM0_15 46 rfl
theorem dX11_law_39 : decode cX11_law 39 = .ok (.getfield 16, 3) := dk_at dkB02decM0_15 47 rfl
theorem dX11_law_42 : decode cX11_law 42 = .ok (.iload_n 2, 1) := dk_at dkB02decM0_15 48 rfl
theorem dX11_law_43 : decode cX11_law 43 = .ok (.iaload, 1) := dk_at dkB02decM0_15 49 rfl
theorem dX11_law_44 : decode cX11_law 44 = .ok (.iastore, 1) := dk_at dkB02decM0_15 50 rfl
theorem dX11_law_45 : decode cX11_law 45 = .ok (.iinc 2 1, 3) := dk_at dkB02decM0_15 51 rfl
theorem dX11_law_48 : decode cX11_law 48 = .ok (.goto (-24), 3) := dk_at dkB02decM0_15 52 rfl
theorem dX11_law_51 : decode cX11_law 51 = .ok (.aload_n 0, 1) := dk_at dkB02decM0_15 53 rfl
theorem dX11_law_52 : decode cX11_law 52 = .ok (.getfield 7, 3) := dk_at dkB02decM0_15 54 rfl
theorem dX11_law_55 : decode cX11_law 55 = .ok (.iconst 2, 1) := dk_at dkB02decM0_15 55 rfl
theorem dX11_law_56 : decode cX11_law 56 = .ok (.aload_n 0, 1) := dk_at dkB02decM0_15 56 rfl
theorem dX11_law_57 : decode cX11_law 57 = .ok (.getfield 141, 3) := dk_at dkB02decM0_15 57 rfl
theorem dX11_law_60 : decode cX11_law 60 = .ok (.iastore, 1) := dk_at dkB02decM0_15 58 rfl
theorem dX11_law_61 : decode cX11_law 61 = .ok (.aload_n 0, 1) := dk_at dkB02decM0_15 59 rfl
noncomputable def dkL02decM0_16 : List (ByteArray × Nat × Instr × Nat) := [(cX11_law, 62, (.getfield 141, 3)), (cX11_law, 65, (.ireturn, 1)), (cX11_readAtom, 0, (.aload_n 0, 1)), (cX11_readAtom, 1, (.getfield 16, 3)), (cX11_readAtom, 4, (.iload_n 1, 1)), (cX11_readAtom, 5, (.aload_n 0, 1)), (cX11_readAtom, 6, (.bipush 33, 2)), (cX11_readAtom, 8, (.invokevirtual 130, 3)), (cX11_readAtom, 11, (.ifCond .eq 7, 3)), (cX11_readAtom, 14, (.iconst 1, 1)), (cX11_readAtom, 15, (.goto 4, 3)), (cX11_readAtom, 18, (.iconst 0, 1)), (cX11_readAtom, 19, (.iastore, 1)), (cX11_readAtom, 20, (.aload_n 0, 1)), (cX11_readAtom, 21, (.getfield 16, 3)), (cX11_readAtom, 24, (.iload_n 1, 1)), (cX11_readAtom, 25, (.iconst 1, 1)), (cX11_readAtom, 26, (.iadd, 1)), (cX11_readAtom, 27, (.iconst 0, 1)), (cX11_readAtom, 28, (.iastore, 1)), (cX11_readAtom, 29, (.aload_n 0, 1)), (cX11_readAtom, 30, (.getfield 16, 3)), (cX11_readAtom, 33, (.iload_n 1, 1)), (cX11_readAtom, 34, (.iconst 2, 1)), (cX11_readAtom, 35, (.iadd, 1)), (cX11_readAtom, 36, (.iconst 0, 1)), (cX11_readAtom, 37, (.iastore, 1)), (cX11_readAtom, 38, (.aload_n 0, 1)), (cX11_readAtom, 39, (.bipush 42, 2)), (cX11_readAtom, 41, (.invokevirtual 130, 3)), (cX11_readAtom, 44, (.ifCond .ne 185, 3)), (cX11_readAtom, 47, (.aload_n 0, 1)), (cX11_readAtom, 48, (.bipush 119, 2)), (cX11_readAtom, 50, (.invokevirtual 130, 3)), (cX11_readAtom, 53, (.ifCond .ne 5, 3)), (cX11_readAtom, 56, (.iconst 0, 1)), (cX11_readAtom, 57, (.ireturn, 1)), (cX11_readAtom, 58, (.aload_n 0, 1)), (cX11_readAtom, 59, (.getfield 16, 3)), (cX11_readAtom, 62, (.iload_n 1, 1)), (cX11_readAtom, 63, (.iconst 1, 1)), (cX11_readAtom, 64, (.iadd, 1)), (cX11_readAtom, 65, (.aload_n 0, 1)), (cX11_readAtom, 66, (.bipush 60, 2)), (cX11_readAtom, 68, (.invokevirtual 130, 3)), (cX11_readAtom, 71, (.ifCond .eq 7, 3)), (cX11_readAtom, 74, (.iconst 1, 1)), (cX11_readAtom, 75, (.goto 17, 3)), (cX11_readAtom, 78, (.aload_n 0, 1)), (cX11_readAtom, 79, (.bipush 62, 2)), (cX11_readAtom, 81, (.invokevirtual 130, 3)), (cX11_readAtom, 84, (.ifCond .eq 7, 3)), (cX11_readAtom, 87, (.iconst 2, 1)), (cX11_readAtom, 88, (.goto 4, 3)), (cX11_readAtom, 91, (.iconst 0, 1)), (cX11_readAtom, 92, (.iastore, 1)), (cX11_readAtom, 93, (.aload_n 0, 1)), (cX11_readAtom, 94, (.getfield 16, 3)), (cX11_readAtom, 97, (.iload_n 1, 1)), (cX11_readAtom, 98, (.iconst 1, 1))]
theorem dkB02decM0_16 : dkL02decM0_16.all (fun q => decide (decode q.1 q.2.1 = .ok q.2.2)) = true := by decide +kernel
theorem dX11_law_62 : decode cX11_law 62 = .ok (.getfield 141, 3) := dk_at dkB02decM0_16 0 rfl
theorem dX11_law_65 : decode cX11_law 65 = .ok (.ireturn, 1) := dk_at dkB02decM0_16 1 rfl
theorem dX11_readAtom_0 : decode cX11_readAtom 0 = .ok (.aload_n 0, 1) := dk_at dkB02decM0_16 2 rfl
theorem dX11_readAtom_1 : decode cX11_readAtom 1 = .ok (.getfield 16, 3) := dk_at dkB02decM0_16 3 rfl
theorem dX11_readAtom_4 : decode cX11_readAtom 4 = .ok (.iload_n 1, 1) := dk_at dkB02decM0_16 4 rfl
theorem dX11_readAtom_5 : decode cX11_readAtom 5 = .ok (.aload_n 0, 1) := dk_at dkB02decM0_16 5 rfl
theorem dX11_readAtom_6 : decode cX11_readAtom 6 = .ok (.bipush 33, 2) := dk_at dkB02decM0_16 6 rfl
theorem dX11_readAtom_8 : decode cX11_readAtom 8 = .ok (.invokevirtual 130, 3) := dk_at dkB02decM0_16 7 rfl
theorem dX11_readAtom_11 : decode cX11_readAtom 11 = .ok (.ifCond .eq 7, 3) := dk_at dkB02decM0_16 8 rfl
theorem dX11_readAtom_14 : decode cX11_readAtom 14 = .ok (.iconst 1, 1) := dk_at dkB02decM0_16 9 rfl
theorem dX11_readAtom_15 : decode cX11_readAtom 15 = .ok (.goto 4, 3) := dk_at dkB02decM0_16 10 rfl
theorem dX11_readAtom_18 : decode cX11_readAtom 18 = .ok (.iconst 0, 1) := dk_at dkB02decM0_16 11 rfl
theorem dX11_readAtom_19 : decode cX11_readAtom 19 = .ok (.iastore, 1) := dk_at dkB02decM0_16 12 rfl
theorem dX11_readAtom_20 : decode cX11_readAtom 20 = .ok (.aload_n 0, 1) := dk_at dkB02decM0_16 13 rfl
theorem dX11_readAtom_21 : decode cX11_readAtom 21 = .ok (.getfield 16, 3) := dk_at dkB02decM0_16 14 rfl
theorem dX11_readAtom_24 : decode cX11_readAtom 24 = .ok (.iload_n 1, 1) := dk_at dkB02decM0_16 15 rfl
theorem dX11_readAtom_25 : decode cX11_readAtom 25 = .ok (.iconst 1, 1) := dk_at dkB02decM0_16 16 rfl
theorem dX11_readAtom_26 : decode cX11_readAtom 26 = .ok (.iadd, 1) := dk_at dkB02decM0_16 17 rfl
theorem dX11_readAtom_27 : decode cX11_readAtom 27 = .ok (.iconst 0, 1) := dk_at dkB02decM0_16 18 rfl
theorem dX11_readAtom_28 : decode cX11_readAtom 28 = .ok (.iastore, 1) := dk_at dkB02decM0_16 19 rfl
theorem dX11_readAtom_29 : decode cX11_readAtom 29 = .ok (.aload_n 0, 1) := dk_at dkB02decM0_16 20 rfl
theorem dX11_readAtom_30 : decode cX11_readAtom 30 = .ok (.getfield 16, 3) := dk_at dkB02decM0_16 21 rfl
theorem dX11_readAtom_33 : decode cX11_readAtom 33 = .ok (.iload_n 1, 1) := dk_at dkB02decM0_16 22 rfl
theorem dX11_readAtom_34 : decode cX11_readAtom 34 = .ok (.iconst 2, 1) := dk_at dkB02decM0_16 23 rfl
theorem dX11_readAtom_35 : decode cX11_readAtom 35 = .ok (.iadd, 1) := dk_at dkB02decM0_16 24 rfl
theorem dX11_readAtom_36 : decode cX11_readAtom 36 = .ok (.iconst 0, 1) := dk_at dkB02decM0_16 25 rfl
theorem dX11_readAtom_37 : decode cX11_readAtom 37 = .ok (.iastore, 1) := dk_at dkB02decM0_16 26 rfl
theorem dX11_readAtom_38 : decode cX11_readAtom 38 = .ok (.aload_n 0, 1) := dk_at dkB02decM0_16 27 rfl
theorem dX11_readAtom_39 : decode cX11_readAtom 39 = .ok (.bipush 42, 2) := dk_at dkB02decM0_16 28 rfl
theorem dX11_readAtom_41 : decode cX11_readAtom 41 = .ok (.invokevirtual 130, 3) := dk_at dkB02decM0_16 29 rfl
theorem dX11_readAtom_44 : decode cX11_readAtom 44 = .ok (.ifCond .ne 185, 3) := dk_at dkB02decM0_16 30 rfl
theorem dX11_readAtom_47 : decode cX11_readAtom 47 = .ok (.aload_n 0, 1) := dk_at dkB02decM0_16 31 rfl
theorem dX11_readAtom_48 : decode cX11_readAtom 48 = .ok (.bipush 119, 2) := dk_at dkB02decM0_16 32 rfl
theorem dX11_readAtom_50 : decode cX11_readAtom 50 = .ok (.invokevirtual 130, 3) := dk_at dkB02decM0_16 33 rfl
theorem dX11_readAtom_53 : decode cX11_readAtom 53 = .ok (.ifCond .ne 5, 3) := dk_at dkB02decM0_16 34 rfl
theorem dX11_readAtom_56 : decode cX11_readAtom 56 = .ok (.iconst 0, 1) := dk_at dkB02decM0_16 35 rfl
theorem dX11_readAtom_57 : decode cX11_readAtom 57 = .ok (.ireturn, 1) := dk_at dkB02decM0_16 36 rfl
theorem dX11_readAtom_58 : decode cX11_readAtom 58 = .ok (.aload_n 0, 1) := dk_at dkB02decM0_16 37 rfl
theorem dX11_readAtom_59 : decode cX11_readAtom 59 = .ok (.getfield 16, 3) := dk_at dkB02decM0_16 38 rfl
theorem dX11_readAtom_62 : decode cX11_readAtom 62 = .ok (.iload_n 1, 1) := dk_at dkB02decM0_16 39 rfl
theorem dX11_readAtom_63 : decode cX11_readAtom 63 = .ok (.iconst 1, 1) := dk_at dkB02decM0_16 40 rfl
theorem dX11_readAtom_64 : decode cX11_readAtom 64 = .ok (.iadd, 1) := dk_at dkB02decM0_16 41 rfl
theorem dX11_readAtom_65 : decode cX11_readAtom 65 = .ok (.aload_n 0, 1) := dk_at dkB02decM0_16 42 rfl
theorem dX11_readAtom_66 : decode cX11_readAtom 66 = .ok (.bipush 60, 2) := dk_at dkB02decM0_16 43 rfl
theorem dX11_readAtom_68 : decode cX11_readAtom 68 = .ok (.invokevirtual 130, 3) := dk_at dkB02decM0_16 44 rfl
theorem dX11_readAtom_71 : decode cX11_readAtom 71 = .ok (.ifCond .eq 7, 3) := dk_at dkB02decM0_16 45 rfl
theorem dX11_readAtom_74 : decode cX11_readAtom 74 = .ok (.iconst 1, 1) := dk_at dkB02decM0_16 46 rfl
theorem dX11_readAtom_75 : decode cX11_readAtom 75 = .ok (.goto 17, 3) := dk_at dkB02decM0_16 47 rfl
theorem dX11_readAtom_78 : decode cX11_readAtom 78 = .ok (.aload_n 0, 1) := dk_at dkB02decM0_16 48 rfl
theorem dX11_readAtom_79 : decode cX11_readAtom 79 = .ok (.bipush 62, 2) := dk_at dkB02decM0_16 49 rfl
theorem dX11_readAtom_81 : decode cX11_readAtom 81 = .ok (.invokevirtual 130, 3) := dk_at dkB02decM0_16 50 rfl
theorem dX11_readAtom_84 : decode cX11_readAtom 84 = .ok (.ifCond .eq 7, 3) := dk_at dkB02decM0_16 51 rfl
theorem dX11_readAtom_87 : decode cX11_readAtom 87 = .ok (.iconst 2, 1) := dk_at dkB02decM0_16 52 rfl
theorem dX11_readAtom_88 : decode cX11_readAtom 88 = .ok (.goto 4, 3) := dk_at dkB02decM0_16 53 rfl
theorem dX11_readAtom_91 : decode cX11_readAtom 91 = .ok (.iconst 0, 1) := dk_at dkB02decM0_16 54 rfl
theorem dX11_readAtom_92 : decode cX11_readAtom 92 = .ok (.iastore, 1) := dk_at dkB02decM0_16 55 rfl
theorem dX11_readAtom_93 : decode cX11_readAtom 93 = .ok (.aload_n 0, 1) := dk_at dkB02decM0_16 56 rfl
theorem dX11_readAtom_94 : decode cX11_readAtom 94 = .ok (.getfield 16, 3) := dk_at dkB02decM0_16 57 rfl
theorem dX11_readAtom_97 : decode cX11_readAtom 97 = .ok (.iload_n 1, 1) := dk_at dkB02decM0_16 58 rfl
theorem dX11_readAtom_98 : decode cX11_readAtom 98 = .ok (.iconst 1, 1) := dk_at dkB02decM0_16 59 rfl
noncomputable def dkL02decM0_17 : List (ByteArray × Nat × Instr × Nat) := [(cX11_readAtom, 99, (.iadd, 1)), (cX11_readAtom, 100, (.iaload, 1)), (cX11_readAtom, 101, (.ifCond .ne 5, 3)), (cX11_readAtom, 104, (.iconst 0, 1)), (cX11_readAtom, 105, (.ireturn, 1)), (cX11_readAtom, 106, (.aload_n 0, 1)), (cX11_readAtom, 107, (.invokevirtual 119, 3)), (cX11_readAtom, 110, (.bipush 45, 2)), (cX11_readAtom, 112, (.if_icmp .ne 7, 3)), (cX11_readAtom, 115, (.iconst 1, 1)), (cX11_readAtom, 116, (.goto 4, 3)), (cX11_readAtom, 119, (.iconst 0, 1)), (cX11_readAtom, 120, (.istore_n 2, 1)), (cX11_readAtom, 121, (.aload_n 0, 1)), (cX11_readAtom, 122, (.getfield 116, 3)), (cX11_readAtom, 125, (.istore_n 3, 1)), (cX11_readAtom, 126, (.aload_n 0, 1)), (cX11_readAtom, 127, (.dup, 1)), (cX11_readAtom, 128, (.getfield 116, 3)), (cX11_readAtom, 131, (.iload_n 2, 1)), (cX11_readAtom, 132, (.ifCond .eq 7, 3)), (cX11_readAtom, 135, (.iconst 1, 1)), (cX11_readAtom, 136, (.goto 4, 3)), (cX11_readAtom, 139, (.iconst 0, 1)), (cX11_readAtom, 140, (.iadd, 1)), (cX11_readAtom, 141, (.putfield 116, 3)), (cX11_readAtom, 144, (.aload_n 0, 1)), (cX11_readAtom, 145, (.iconst 0, 1)), (cX11_readAtom, 146, (.bipush 50, 2)), (cX11_readAtom, 148, (.invokevirtual 127, 3)), (cX11_readAtom, 151, (.istore 4, 2)), (cX11_readAtom, 153, (.iload 4, 2)), (cX11_readAtom, 155, (.ifCond .ge 54, 3)), (cX11_readAtom, 158, (.aload_n 0, 1)), (cX11_readAtom, 159, (.iload_n 2, 1)), (cX11_readAtom, 160, (.ifCond .eq 40, 3)), (cX11_readAtom, 163, (.aload_n 0, 1)), (cX11_readAtom, 164, (.getfield 116, 3)), (cX11_readAtom, 167, (.aload_n 0, 1)), (cX11_readAtom, 168, (.getfield 112, 3)), (cX11_readAtom, 171, (.if_icmp .ge 29, 3)), (cX11_readAtom, 174, (.aload_n 0, 1)), (cX11_readAtom, 175, (.getfield 13, 3)), (cX11_readAtom, 178, (.aload_n 0, 1)), (cX11_readAtom, 179, (.getfield 116, 3)), (cX11_readAtom, 182, (.iaload, 1)), (cX11_readAtom, 183, (.i2l, 1)), (cX11_readAtom, 184, (.ldc2_w 123, 3)), (cX11_readAtom, 187, (.ldc2_w 125, 3)), (cX11_readAtom, 190, (.invokestatic 70, 3)), (cX11_readAtom, 193, (.ifCond .eq 7, 3)), (cX11_readAtom, 196, (.iload_n 3, 1)), (cX11_readAtom, 197, (.goto 7, 3)), (cX11_readAtom, 200, (.aload_n 0, 1)), (cX11_readAtom, 201, (.getfield 116, 3)), (cX11_readAtom, 204, (.putfield 116, 3)), (cX11_readAtom, 207, (.iconst 0, 1)), (cX11_readAtom, 208, (.ireturn, 1)), (cX11_readAtom, 209, (.aload_n 0, 1)), (cX11_readAtom, 210, (.getfield 16, 3))]
theorem dkB02decM0_17 : dkL02decM0_17.all (fun q => decide (decode q.1 q.2.1 = .ok q.2.2)) = true := by decide +kernel
theorem dX11_readAtom_99 : decode cX11_readAtom 99 = .ok (.iadd, 1) := dk_at dkB02decM0_17 0 rfl
theorem dX11_readAtom_100 : decode cX11_readAtom 100 = .ok (.iaload, 1) := dk_at dkB02decM0_17 1 rfl
theorem dX11_readAtom_101 : decode cX11_readAtom 101 = .ok (.ifCond .ne 5, 3) := dk_at dkB02decM0_17 2 rfl
theorem dX11_readAtom_104 : decode cX11_readAtom 104 = .ok (.iconst 0, 1) := dk_at dkB02decM0_17 3 rfl
theorem dX11_readAtom_105 : decode cX11_readAtom 105 = .ok (.ireturn, 1) := dk_at dkB02decM0_17 4 rfl
theorem dX11_readAtom_106 : decode cX11_readAtom 106 = .ok (.aload_n 0, 1) := dk_at dkB02decM0_17 5 rfl
theorem dX11_readAtom_107 : decode cX11_readAtom 107 = .ok (.invokevirtual 119, 3) := dk_at dkB02decM0_17 6 rfl
theorem dX11_readAtom_110 : decode cX11_readAtom 110 = .ok (.bipush 45, 2) := dk_at dkB02decM0_17 7 rfl
theorem dX11_readAtom_112 : decode cX11_readAtom 112 = .ok (.if_icmp .ne 7, 3) := dk_at dkB02decM0_17 8 rfl
theorem dX11_readAtom_115 : decode cX11_readAtom 115 = .ok (.iconst 1, 1) := dk_at dkB02decM0_17 9 rfl
theorem dX11_readAtom_116 : decode cX11_readAtom 116 = .ok (.goto 4, 3) := dk_at dkB02decM0_17 10 rfl
theorem dX11_readAtom_119 : decode cX11_readAtom 119 = .ok (.iconst 0, 1) := dk_at dkB02decM0_17 11 rfl
theorem dX11_readAtom_120 : decode cX11_readAtom 120 = .ok (.istore_n 2, 1) := dk_at dkB02decM0_17 12 rfl
theorem dX11_readAtom_121 : decode cX11_readAtom 121 = .ok (.aload_n 0, 1) := dk_at dkB02decM0_17 13 rfl
theorem dX11_readAtom_122 : decode cX11_readAtom 122 = .ok (.getfield 116, 3) := dk_at dkB02decM0_17 14 rfl
theorem dX11_readAtom_125 : decode cX11_readAtom 125 = .ok (.istore_n 3, 1) := dk_at dkB02decM0_17 15 rfl
theorem dX11_readAtom_126 : decode cX11_readAtom 126 = .ok (.aload_n 0, 1) := dk_at dkB02decM0_17 16 rfl
theorem dX11_readAtom_127 : decode cX11_readAtom 127 = .ok (.dup, 1) := dk_at dkB02decM0_17 17 rfl
theorem dX11_readAtom_128 : decode cX11_readAtom 128 = .ok (.getfield 116, 3) := dk_at dkB02decM0_17 18 rfl
theorem dX11_readAtom_131 : decode cX11_readAtom 131 = .ok (.iload_n 2, 1) := dk_at dkB02decM0_17 19 rfl
theorem dX11_readAtom_132 : decode cX11_readAtom 132 = .ok (.ifCond .eq 7, 3) := dk_at dkB02decM0_17 20 rfl
theorem dX11_readAtom_135 : decode cX11_readAtom 135 = .ok (.iconst 1, 1) := dk_at dkB02decM0_17 21 rfl
theorem dX11_readAtom_136 : decode cX11_readAtom 136 = .ok (.goto 4, 3) := dk_at dkB02decM0_17 22 rfl
theorem dX11_readAtom_139 : decode cX11_readAtom 139 = .ok (.iconst 0, 1) := dk_at dkB02decM0_17 23 rfl
theorem dX11_readAtom_140 : decode cX11_readAtom 140 = .ok (.iadd, 1) := dk_at dkB02decM0_17 24 rfl
theorem dX11_readAtom_141 : decode cX11_readAtom 141 = .ok (.putfield 116, 3) := dk_at dkB02decM0_17 25 rfl
theorem dX11_readAtom_144 : decode cX11_readAtom 144 = .ok (.aload_n 0, 1) := dk_at dkB02decM0_17 26 rfl
theorem dX11_readAtom_145 : decode cX11_readAtom 145 = .ok (.iconst 0, 1) := dk_at dkB02decM0_17 27 rfl
theorem dX11_readAtom_146 : decode cX11_readAtom 146 = .ok (.bipush 50, 2) := dk_at dkB02decM0_17 28 rfl
theorem dX11_readAtom_148 : decode cX11_readAtom 148 = .ok (.invokevirtual 127, 3) := dk_at dkB02decM0_17 29 rfl
theorem dX11_readAtom_151 : decode cX11_readAtom 151 = .ok (.istore 4, 2) := dk_at dkB02decM0_17 30 rfl
theorem dX11_readAtom_153 : decode cX11_readAtom 153 = .ok (.iload 4, 2) := dk_at dkB02decM0_17 31 rfl
theorem dX11_readAtom_155 : decode cX11_readAtom 155 = .ok (.ifCond .ge 54, 3) := dk_at dkB02decM0_17 32 rfl
theorem dX11_readAtom_158 : decode cX11_readAtom 158 = .ok (.aload_n 0, 1) := dk_at dkB02decM0_17 33 rfl
theorem dX11_readAtom_159 : decode cX11_readAtom 159 = .ok (.iload_n 2, 1) := dk_at dkB02decM0_17 34 rfl
theorem dX11_readAtom_160 : decode cX11_readAtom 160 = .ok (.ifCond .eq 40, 3) := dk_at dkB02decM0_17 35 rfl
theorem dX11_readAtom_163 : decode cX11_readAtom 163 = .ok (.aload_n 0, 1) := dk_at dkB02decM0_17 36 rfl
theorem dX11_readAtom_164 : decode cX11_readAtom 164 = .ok (.getfield 116, 3) := dk_at dkB02decM0_17 37 rfl
theorem dX11_readAtom_167 : decode cX11_readAtom 167 = .ok (.aload_n 0, 1) := dk_at dkB02decM0_17 38 rfl
theorem dX11_readAtom_168 : decode cX11_readAtom 168 = .ok (.getfield 112, 3) := dk_at dkB02decM0_17 39 rfl
theorem dX11_readAtom_171 : decode cX11_readAtom 171 = .ok (.if_icmp .ge 29, 3) := dk_at dkB02decM0_17 40 rfl
theorem dX11_readAtom_174 : decode cX11_readAtom 174 = .ok (.aload_n 0, 1) := dk_at dkB02decM0_17 41 rfl
theorem dX11_readAtom_175 : decode cX11_readAtom 175 = .ok (.getfield 13, 3) := dk_at dkB02decM0_17 42 rfl
theorem dX11_readAtom_178 : decode cX11_readAtom 178 = .ok (.aload_n 0, 1) := dk_at dkB02decM0_17 43 rfl
theorem dX11_readAtom_179 : decode cX11_readAtom 179 = .ok (.getfield 116, 3) := dk_at dkB02decM0_17 44 rfl
theorem dX11_readAtom_182 : decode cX11_readAtom 182 = .ok (.iaload, 1) := dk_at dkB02decM0_17 45 rfl
theorem dX11_readAtom_183 : decode cX11_readAtom 183 = .ok (.i2l, 1) := dk_at dkB02decM0_17 46 rfl
theorem dX11_readAtom_184 : decode cX11_readAtom 184 = .ok (.ldc2_w 123, 3) := dk_at dkB02decM0_17 47 rfl
theorem dX11_readAtom_187 : decode cX11_readAtom 187 = .ok (.ldc2_w 125, 3) := dk_at dkB02decM0_17 48 rfl
theorem dX11_readAtom_190 : decode cX11_readAtom 190 = .ok (.invokestatic 70, 3) := dk_at dkB02decM0_17 49 rfl
theorem dX11_readAtom_193 : decode cX11_readAtom 193 = .ok (.ifCond .eq 7, 3) := dk_at dkB02decM0_17 50 rfl
theorem dX11_readAtom_196 : decode cX11_readAtom 196 = .ok (.iload_n 3, 1) := dk_at dkB02decM0_17 51 rfl
theorem dX11_readAtom_197 : decode cX11_readAtom 197 = .ok (.goto 7, 3) := dk_at dkB02decM0_17 52 rfl
theorem dX11_readAtom_200 : decode cX11_readAtom 200 = .ok (.aload_n 0, 1) := dk_at dkB02decM0_17 53 rfl
theorem dX11_readAtom_201 : decode cX11_readAtom 201 = .ok (.getfield 116, 3) := dk_at dkB02decM0_17 54 rfl
theorem dX11_readAtom_204 : decode cX11_readAtom 204 = .ok (.putfield 116, 3) := dk_at dkB02decM0_17 55 rfl
theorem dX11_readAtom_207 : decode cX11_readAtom 207 = .ok (.iconst 0, 1) := dk_at dkB02decM0_17 56 rfl
theorem dX11_readAtom_208 : decode cX11_readAtom 208 = .ok (.ireturn, 1) := dk_at dkB02decM0_17 57 rfl
theorem dX11_readAtom_209 : decode cX11_readAtom 209 = .ok (.aload_n 0, 1) := dk_at dkB02decM0_17 58 rfl
theorem dX11_readAtom_210 : decode cX11_readAtom 210 = .ok (.getfield 16, 3) := dk_at dkB02decM0_17 59 rfl
noncomputable def dkL02decM0_18 : List (ByteArray × Nat × Instr × Nat) := [(cX11_readAtom, 213, (.iload_n 1, 1)), (cX11_readAtom, 214, (.iconst 2, 1)), (cX11_readAtom, 215, (.iadd, 1)), (cX11_readAtom, 216, (.iload_n 2, 1)), (cX11_readAtom, 217, (.ifCond .eq 9, 3)), (cX11_readAtom, 220, (.iload 4, 2)), (cX11_readAtom, 222, (.ineg, 1)), (cX11_readAtom, 223, (.goto 5, 3)), (cX11_readAtom, 226, (.iload 4, 2)), (cX11_readAtom, 228, (.iastore, 1)), (cX11_readAtom, 229, (.aload_n 0, 1)), (cX11_readAtom, 230, (.bipush 64, 2)), (cX11_readAtom, 232, (.invokevirtual 130, 3)), (cX11_readAtom, 235, (.ifCond .ne 5, 3)), (cX11_readAtom, 238, (.iconst 0, 1)), (cX11_readAtom, 239, (.ireturn, 1)), (cX11_readAtom, 240, (.aload_n 0, 1)), (cX11_readAtom, 241, (.getfield 16, 3)), (cX11_readAtom, 244, (.iload_n 1, 1)), (cX11_readAtom, 245, (.iconst 3, 1)), (cX11_readAtom, 246, (.iadd, 1)), (cX11_readAtom, 247, (.aload_n 0, 1)), (cX11_readAtom, 248, (.iconst 0, 1)), (cX11_readAtom, 249, (.bipush 23, 2)), (cX11_readAtom, 251, (.invokevirtual 127, 3)), (cX11_readAtom, 254, (.iastore, 1)), (cX11_readAtom, 255, (.aload_n 0, 1)), (cX11_readAtom, 256, (.getfield 16, 3)), (cX11_readAtom, 259, (.iload_n 1, 1)), (cX11_readAtom, 260, (.iconst 3, 1)), (cX11_readAtom, 261, (.iadd, 1)), (cX11_readAtom, 262, (.iaload, 1)), (cX11_readAtom, 263, (.ifCond .lt 12, 3)), (cX11_readAtom, 266, (.aload_n 0, 1)), (cX11_readAtom, 267, (.bipush 45, 2)), (cX11_readAtom, 269, (.invokevirtual 130, 3)), (cX11_readAtom, 272, (.ifCond .ne 5, 3)), (cX11_readAtom, 275, (.iconst 0, 1)), (cX11_readAtom, 276, (.ireturn, 1)), (cX11_readAtom, 277, (.aload_n 0, 1)), (cX11_readAtom, 278, (.getfield 16, 3)), (cX11_readAtom, 281, (.iload_n 1, 1)), (cX11_readAtom, 282, (.iconst 4, 1)), (cX11_readAtom, 283, (.iadd, 1)), (cX11_readAtom, 284, (.aload_n 0, 1)), (cX11_readAtom, 285, (.aload_n 0, 1)), (cX11_readAtom, 286, (.getfield 16, 3)), (cX11_readAtom, 289, (.iload_n 1, 1)), (cX11_readAtom, 290, (.iconst 3, 1)), (cX11_readAtom, 291, (.iadd, 1)), (cX11_readAtom, 292, (.iaload, 1)), (cX11_readAtom, 293, (.bipush 23, 2)), (cX11_readAtom, 295, (.invokevirtual 127, 3)), (cX11_readAtom, 298, (.iastore, 1)), (cX11_readAtom, 299, (.aload_n 0, 1)), (cX11_readAtom, 300, (.getfield 16, 3)), (cX11_readAtom, 303, (.iload_n 1, 1)), (cX11_readAtom, 304, (.iconst 4, 1)), (cX11_readAtom, 305, (.iadd, 1)), (cX11_readAtom, 306, (.iaload, 1))]
theorem dkB02decM0_18 : dkL02decM0_18.all (fun q => decide (decode q.1 q.2.1 = .ok q.2.2)) = true := by decide +kernel
theorem dX11_readAtom_213 : decode cX11_readAtom 213 = .ok (.iload_n 1, 1) := dk_at dkB02decM0_18 0 rfl
theorem dX11_readAtom_214 : decode cX11_readAtom 214 = .ok (.iconst 2, 1) := dk_at dkB02decM0_18 1 rfl
theorem dX11_readAtom_215 : decode cX11_readAtom 215 = .ok (.iadd, 1) := dk_at dkB02decM0_18 2 rfl
theorem dX11_readAtom_216 : decode cX11_readAtom 216 = .ok (.iload_n 2, 1) := dk_at dkB02decM0_18 3 rfl
theorem dX11_readAtom_217 : decode cX11_readAtom 217 = .ok (.ifCond .eq 9, 3) := dk_at dkB02decM0_18 4 rfl
theorem dX11_readAtom_220 : decode cX11_readAtom 220 = .ok (.iload 4, 2) := dk_at dkB02decM0_18 5 rfl
theorem dX11_readAtom_222 : decode cX11_readAtom 222 = .ok (.ineg, 1) := dk_at dkB02decM0_18 6 rfl
theorem dX11_readAtom_223 : decode cX11_readAtom 223 = .ok (.goto 5, 3) := dk_at dkB02decM0_18 7 rfl
theorem dX11_readAtom_226 : decode cX11_readAtom 226 = .ok (.iload 4, 2) := dk_at dkB02decM0_18 8 rfl
theorem dX11_readAtom_228 : decode cX11_readAtom 228 = .ok (.iastore, 1) := dk_at dkB02decM0_18 9 rfl
theorem dX11_readAtom_229 : decode cX11_readAtom 229 = .ok (.aload_n 0, 1) := dk_at dkB02decM0_18 10 rfl
theorem dX11_readAtom_230 : decode cX11_readAtom 230 = .ok (.bipush 64, 2) := dk_at dkB02decM0_18 11 rfl
theorem dX11_readAtom_232 : decode cX11_readAtom 232 = .ok (.invokevirtual 130, 3) := dk_at dkB02decM0_18 12 rfl
theorem dX11_readAtom_235 : decode cX11_readAtom 235 = .ok (.ifCond .ne 5, 3) := dk_at dkB02decM0_18 13 rfl
theorem dX11_readAtom_238 : decode cX11_readAtom 238 = .ok (.iconst 0, 1) := dk_at dkB02decM0_18 14 rfl
theorem dX11_readAtom_239 : decode cX11_readAtom 239 = .ok (.ireturn, 1) := dk_at dkB02decM0_18 15 rfl
theorem dX11_readAtom_240 : decode cX11_readAtom 240 = .ok (.aload_n 0, 1) := dk_at dkB02decM0_18 16 rfl
theorem dX11_readAtom_241 : decode cX11_readAtom 241 = .ok (.getfield 16, 3) := dk_at dkB02decM0_18 17 rfl
theorem dX11_readAtom_244 : decode cX11_readAtom 244 = .ok (.iload_n 1, 1) := dk_at dkB02decM0_18 18 rfl
theorem dX11_readAtom_245 : decode cX11_readAtom 245 = .ok (.iconst 3, 1) := dk_at dkB02decM0_18 19 rfl
theorem dX11_readAtom_246 : decode cX11_readAtom 246 = .ok (.iadd, 1) := dk_at dkB02decM0_18 20 rfl
theorem dX11_readAtom_247 : decode cX11_readAtom 247 = .ok (.aload_n 0, 1) := dk_at dkB02decM0_18 21 rfl
theorem dX11_readAtom_248 : decode cX11_readAtom 248 = .ok (.iconst 0, 1) := dk_at dkB02decM0_18 22 rfl
theorem dX11_readAtom_249 : decode cX11_readAtom 249 = .ok (.bipush 23, 2) := dk_at dkB02decM0_18 23 rfl
theorem dX11_readAtom_251 : decode cX11_readAtom 251 = .ok (.invokevirtual 127, 3) := dk_at dkB02decM0_18 24 rfl
theorem dX11_readAtom_254 : decode cX11_readAtom 254 = .ok (.iastore, 1) := dk_at dkB02decM0_18 25 rfl
theorem dX11_readAtom_255 : decode cX11_readAtom 255 = .ok (.aload_n 0, 1) := dk_at dkB02decM0_18 26 rfl
theorem dX11_readAtom_256 : decode cX11_readAtom 256 = .ok (.getfield 16, 3) := dk_at dkB02decM0_18 27 rfl
theorem dX11_readAtom_259 : decode cX11_readAtom 259 = .ok (.iload_n 1, 1) := dk_at dkB02decM0_18 28 rfl
theorem dX11_readAtom_260 : decode cX11_readAtom 260 = .ok (.iconst 3, 1) := dk_at dkB02decM0_18 29 rfl
theorem dX11_readAtom_261 : decode cX11_readAtom 261 = .ok (.iadd, 1) := dk_at dkB02decM0_18 30 rfl
theorem dX11_readAtom_262 : decode cX11_readAtom 262 = .ok (.iaload, 1) := dk_at dkB02decM0_18 31 rfl
theorem dX11_readAtom_263 : decode cX11_readAtom 263 = .ok (.ifCond .lt 12, 3) := dk_at dkB02decM0_18 32 rfl
theorem dX11_readAtom_266 : decode cX11_readAtom 266 = .ok (.aload_n 0, 1) := dk_at dkB02decM0_18 33 rfl
theorem dX11_readAtom_267 : decode cX11_readAtom 267 = .ok (.bipush 45, 2) := dk_at dkB02decM0_18 34 rfl
theorem dX11_readAtom_269 : decode cX11_readAtom 269 = .ok (.invokevirtual 130, 3) := dk_at dkB02decM0_18 35 rfl
theorem dX11_readAtom_272 : decode cX11_readAtom 272 = .ok (.ifCond .ne 5, 3) := dk_at dkB02decM0_18 36 rfl
theorem dX11_readAtom_275 : decode cX11_readAtom 275 = .ok (.iconst 0, 1) := dk_at dkB02decM0_18 37 rfl
theorem dX11_readAtom_276 : decode cX11_readAtom 276 = .ok (.ireturn, 1) := dk_at dkB02decM0_18 38 rfl
theorem dX11_readAtom_277 : decode cX11_readAtom 277 = .ok (.aload_n 0, 1) := dk_at dkB02decM0_18 39 rfl
theorem dX11_readAtom_278 : decode cX11_readAtom 278 = .ok (.getfield 16, 3) := dk_at dkB02decM0_18 40 rfl
theorem dX11_readAtom_281 : decode cX11_readAtom 281 = .ok (.iload_n 1, 1) := dk_at dkB02decM0_18 41 rfl
theorem dX11_readAtom_282 : decode cX11_readAtom 282 = .ok (.iconst 4, 1) := dk_at dkB02decM0_18 42 rfl
theorem dX11_readAtom_283 : decode cX11_readAtom 283 = .ok (.iadd, 1) := dk_at dkB02decM0_18 43 rfl
theorem dX11_readAtom_284 : decode cX11_readAtom 284 = .ok (.aload_n 0, 1) := dk_at dkB02decM0_18 44 rfl
theorem dX11_readAtom_285 : decode cX11_readAtom 285 = .ok (.aload_n 0, 1) := dk_at dkB02decM0_18 45 rfl
theorem dX11_readAtom_286 : decode cX11_readAtom 286 = .ok (.getfield 16, 3) := dk_at dkB02decM0_18 46 rfl
theorem dX11_readAtom_289 : decode cX11_readAtom 289 = .ok (.iload_n 1, 1) := dk_at dkB02decM0_18 47 rfl
theorem dX11_readAtom_290 : decode cX11_readAtom 290 = .ok (.iconst 3, 1) := dk_at dkB02decM0_18 48 rfl
theorem dX11_readAtom_291 : decode cX11_readAtom 291 = .ok (.iadd, 1) := dk_at dkB02decM0_18 49 rfl
theorem dX11_readAtom_292 : decode cX11_readAtom 292 = .ok (.iaload, 1) := dk_at dkB02decM0_18 50 rfl
theorem dX11_readAtom_293 : decode cX11_readAtom 293 = .ok (.bipush 23, 2) := dk_at dkB02decM0_18 51 rfl
theorem dX11_readAtom_295 : decode cX11_readAtom 295 = .ok (.invokevirtual 127, 3) := dk_at dkB02decM0_18 52 rfl
theorem dX11_readAtom_298 : decode cX11_readAtom 298 = .ok (.iastore, 1) := dk_at dkB02decM0_18 53 rfl
theorem dX11_readAtom_299 : decode cX11_readAtom 299 = .ok (.aload_n 0, 1) := dk_at dkB02decM0_18 54 rfl
theorem dX11_readAtom_300 : decode cX11_readAtom 300 = .ok (.getfield 16, 3) := dk_at dkB02decM0_18 55 rfl
theorem dX11_readAtom_303 : decode cX11_readAtom 303 = .ok (.iload_n 1, 1) := dk_at dkB02decM0_18 56 rfl
theorem dX11_readAtom_304 : decode cX11_readAtom 304 = .ok (.iconst 4, 1) := dk_at dkB02decM0_18 57 rfl
theorem dX11_readAtom_305 : decode cX11_readAtom 305 = .ok (.iadd, 1) := dk_at dkB02decM0_18 58 rfl
theorem dX11_readAtom_306 : decode cX11_readAtom 306 = .ok (.iaload, 1) := dk_at dkB02decM0_18 59 rfl
noncomputable def dkL02decM0_19 : List (ByteArray × Nat × Instr × Nat) := [(cX11_readAtom, 307, (.ifCond .lt 12, 3)), (cX11_readAtom, 310, (.aload_n 0, 1)), (cX11_readAtom, 311, (.bipush 35, 2)), (cX11_readAtom, 313, (.invokevirtual 130, 3)), (cX11_readAtom, 316, (.ifCond .ne 5, 3)), (cX11_readAtom, 319, (.iconst 0, 1)), (cX11_readAtom, 320, (.ireturn, 1)), (cX11_readAtom, 321, (.aload_n 0, 1)), (cX11_readAtom, 322, (.getfield 16, 3)), (cX11_readAtom, 325, (.iload_n 1, 1)), (cX11_readAtom, 326, (.iconst 5, 1)), (cX11_readAtom, 327, (.iadd, 1)), (cX11_readAtom, 328, (.aload_n 0, 1)), (cX11_readAtom, 329, (.iconst 1, 1)), (cX11_readAtom, 330, (.bipush 12, 2)), (cX11_readAtom, 332, (.invokevirtual 127, 3)), (cX11_readAtom, 335, (.iastore, 1)), (cX11_readAtom, 336, (.aload_n 0, 1)), (cX11_readAtom, 337, (.getfield 16, 3)), (cX11_readAtom, 340, (.iload_n 1, 1)), (cX11_readAtom, 341, (.iconst 5, 1)), (cX11_readAtom, 342, (.iadd, 1)), (cX11_readAtom, 343, (.iaload, 1)), (cX11_readAtom, 344, (.ifCond .le 7, 3)), (cX11_readAtom, 347, (.iconst 1, 1)), (cX11_readAtom, 348, (.goto 4, 3)), (cX11_readAtom, 351, (.iconst 0, 1)), (cX11_readAtom, 352, (.ireturn, 1)), (cX11_readClaim, 0, (.aload_n 0, 1)), (cX11_readClaim, 1, (.iconst 0, 1)), (cX11_readClaim, 2, (.putfield 116, 3)), (cX11_readClaim, 5, (.aload_n 0, 1)), (cX11_readClaim, 6, (.getfield 16, 3)), (cX11_readClaim, 9, (.iconst 0, 1)), (cX11_readClaim, 10, (.iconst 1, 1)), (cX11_readClaim, 11, (.iastore, 1)), (cX11_readClaim, 12, (.aload_n 0, 1)), (cX11_readClaim, 13, (.getfield 16, 3)), (cX11_readClaim, 16, (.iconst 1, 1)), (cX11_readClaim, 17, (.iconst 0, 1)), (cX11_readClaim, 18, (.iastore, 1)), (cX11_readClaim, 19, (.aload_n 0, 1)), (cX11_readClaim, 20, (.iconst 2, 1)), (cX11_readClaim, 21, (.invokevirtual 148, 3)), (cX11_readClaim, 24, (.ifCond .ne 5, 3)), (cX11_readClaim, 27, (.iconst 0, 1)), (cX11_readClaim, 28, (.ireturn, 1)), (cX11_readClaim, 29, (.aload_n 0, 1)), (cX11_readClaim, 30, (.invokevirtual 119, 3)), (cX11_readClaim, 33, (.istore_n 1, 1)), (cX11_readClaim, 34, (.iload_n 1, 1)), (cX11_readClaim, 35, (.bipush 38, 2)), (cX11_readClaim, 37, (.if_icmp .eq 9, 3)), (cX11_readClaim, 40, (.iload_n 1, 1)), (cX11_readClaim, 41, (.bipush 124, 2)), (cX11_readClaim, 43, (.if_icmp .ne 48, 3)), (cX11_readClaim, 46, (.aload_n 0, 1)), (cX11_readClaim, 47, (.dup, 1)), (cX11_readClaim, 48, (.getfield 116, 3)), (cX11_readClaim, 51, (.iconst 1, 1))]
theorem dkB02decM0_19 : dkL02decM0_19.all (fun q => decide (decode q.1 q.2.1 = .ok q.2.2)) = true := by decide +kernel
theorem dX11_readAtom_307 : decode cX11_readAtom 307 = .ok (.ifCond .lt 12, 3) := dk_at dkB02decM0_19 0 rfl
theorem dX11_readAtom_310 : decode cX11_readAtom 310 = .ok (.aload_n 0, 1) := dk_at dkB02decM0_19 1 rfl
theorem dX11_readAtom_311 : decode cX11_readAtom 311 = .ok (.bipush 35, 2) := dk_at dkB02decM0_19 2 rfl
theorem dX11_readAtom_313 : decode cX11_readAtom 313 = .ok (.invokevirtual 130, 3) := dk_at dkB02decM0_19 3 rfl
theorem dX11_readAtom_316 : decode cX11_readAtom 316 = .ok (.ifCond .ne 5, 3) := dk_at dkB02decM0_19 4 rfl
theorem dX11_readAtom_319 : decode cX11_readAtom 319 = .ok (.iconst 0, 1) := dk_at dkB02decM0_19 5 rfl
theorem dX11_readAtom_320 : decode cX11_readAtom 320 = .ok (.ireturn, 1) := dk_at dkB02decM0_19 6 rfl
theorem dX11_readAtom_321 : decode cX11_readAtom 321 = .ok (.aload_n 0, 1) := dk_at dkB02decM0_19 7 rfl
theorem dX11_readAtom_322 : decode cX11_readAtom 322 = .ok (.getfield 16, 3) := dk_at dkB02decM0_19 8 rfl
theorem dX11_readAtom_325 : decode cX11_readAtom 325 = .ok (.iload_n 1, 1) := dk_at dkB02decM0_19 9 rfl
theorem dX11_readAtom_326 : decode cX11_readAtom 326 = .ok (.iconst 5, 1) := dk_at dkB02decM0_19 10 rfl
theorem dX11_readAtom_327 : decode cX11_readAtom 327 = .ok (.iadd, 1) := dk_at dkB02decM0_19 11 rfl
theorem dX11_readAtom_328 : decode cX11_readAtom 328 = .ok (.aload_n 0, 1) := dk_at dkB02decM0_19 12 rfl
theorem dX11_readAtom_329 : decode cX11_readAtom 329 = .ok (.iconst 1, 1) := dk_at dkB02decM0_19 13 rfl
theorem dX11_readAtom_330 : decode cX11_readAtom 330 = .ok (.bipush 12, 2) := dk_at dkB02decM0_19 14 rfl
theorem dX11_readAtom_332 : decode cX11_readAtom 332 = .ok (.invokevirtual 127, 3) := dk_at dkB02decM0_19 15 rfl
theorem dX11_readAtom_335 : decode cX11_readAtom 335 = .ok (.iastore, 1) := dk_at dkB02decM0_19 16 rfl
theorem dX11_readAtom_336 : decode cX11_readAtom 336 = .ok (.aload_n 0, 1) := dk_at dkB02decM0_19 17 rfl
theorem dX11_readAtom_337 : decode cX11_readAtom 337 = .ok (.getfield 16, 3) := dk_at dkB02decM0_19 18 rfl
theorem dX11_readAtom_340 : decode cX11_readAtom 340 = .ok (.iload_n 1, 1) := dk_at dkB02decM0_19 19 rfl
theorem dX11_readAtom_341 : decode cX11_readAtom 341 = .ok (.iconst 5, 1) := dk_at dkB02decM0_19 20 rfl
theorem dX11_readAtom_342 : decode cX11_readAtom 342 = .ok (.iadd, 1) := dk_at dkB02decM0_19 21 rfl
theorem dX11_readAtom_343 : decode cX11_readAtom 343 = .ok (.iaload, 1) := dk_at dkB02decM0_19 22 rfl
theorem dX11_readAtom_344 : decode cX11_readAtom 344 = .ok (.ifCond .le 7, 3) := dk_at dkB02decM0_19 23 rfl
theorem dX11_readAtom_347 : decode cX11_readAtom 347 = .ok (.iconst 1, 1) := dk_at dkB02decM0_19 24 rfl
theorem dX11_readAtom_348 : decode cX11_readAtom 348 = .ok (.goto 4, 3) := dk_at dkB02decM0_19 25 rfl
theorem dX11_readAtom_351 : decode cX11_readAtom 351 = .ok (.iconst 0, 1) := dk_at dkB02decM0_19 26 rfl
theorem dX11_readAtom_352 : decode cX11_readAtom 352 = .ok (.ireturn, 1) := dk_at dkB02decM0_19 27 rfl
theorem dX11_readClaim_0 : decode cX11_readClaim 0 = .ok (.aload_n 0, 1) := dk_at dkB02decM0_19 28 rfl
theorem dX11_readClaim_1 : decode cX11_readClaim 1 = .ok (.iconst 0, 1) := dk_at dkB02decM0_19 29 rfl
theorem dX11_readClaim_2 : decode cX11_readClaim 2 = .ok (.putfield 116, 3) := dk_at dkB02decM0_19 30 rfl
theorem dX11_readClaim_5 : decode cX11_readClaim 5 = .ok (.aload_n 0, 1) := dk_at dkB02decM0_19 31 rfl
theorem dX11_readClaim_6 : decode cX11_readClaim 6 = .ok (.getfield 16, 3) := dk_at dkB02decM0_19 32 rfl
theorem dX11_readClaim_9 : decode cX11_readClaim 9 = .ok (.iconst 0, 1) := dk_at dkB02decM0_19 33 rfl
theorem dX11_readClaim_10 : decode cX11_readClaim 10 = .ok (.iconst 1, 1) := dk_at dkB02decM0_19 34 rfl
theorem dX11_readClaim_11 : decode cX11_readClaim 11 = .ok (.iastore, 1) := dk_at dkB02decM0_19 35 rfl
theorem dX11_readClaim_12 : decode cX11_readClaim 12 = .ok (.aload_n 0, 1) := dk_at dkB02decM0_19 36 rfl
theorem dX11_readClaim_13 : decode cX11_readClaim 13 = .ok (.getfield 16, 3) := dk_at dkB02decM0_19 37 rfl
theorem dX11_readClaim_16 : decode cX11_readClaim 16 = .ok (.iconst 1, 1) := dk_at dkB02decM0_19 38 rfl
theorem dX11_readClaim_17 : decode cX11_readClaim 17 = .ok (.iconst 0, 1) := dk_at dkB02decM0_19 39 rfl
theorem dX11_readClaim_18 : decode cX11_readClaim 18 = .ok (.iastore, 1) := dk_at dkB02decM0_19 40 rfl
theorem dX11_readClaim_19 : decode cX11_readClaim 19 = .ok (.aload_n 0, 1) := dk_at dkB02decM0_19 41 rfl
theorem dX11_readClaim_20 : decode cX11_readClaim 20 = .ok (.iconst 2, 1) := dk_at dkB02decM0_19 42 rfl
theorem dX11_readClaim_21 : decode cX11_readClaim 21 = .ok (.invokevirtual 148, 3) := dk_at dkB02decM0_19 43 rfl
theorem dX11_readClaim_24 : decode cX11_readClaim 24 = .ok (.ifCond .ne 5, 3) := dk_at dkB02decM0_19 44 rfl
theorem dX11_readClaim_27 : decode cX11_readClaim 27 = .ok (.iconst 0, 1) := dk_at dkB02decM0_19 45 rfl
theorem dX11_readClaim_28 : decode cX11_readClaim 28 = .ok (.ireturn, 1) := dk_at dkB02decM0_19 46 rfl
theorem dX11_readClaim_29 : decode cX11_readClaim 29 = .ok (.aload_n 0, 1) := dk_at dkB02decM0_19 47 rfl
theorem dX11_readClaim_30 : decode cX11_readClaim 30 = .ok (.invokevirtual 119, 3) := dk_at dkB02decM0_19 48 rfl
theorem dX11_readClaim_33 : decode cX11_readClaim 33 = .ok (.istore_n 1, 1) := dk_at dkB02decM0_19 49 rfl
theorem dX11_readClaim_34 : decode cX11_readClaim 34 = .ok (.iload_n 1, 1) := dk_at dkB02decM0_19 50 rfl
theorem dX11_readClaim_35 : decode cX11_readClaim 35 = .ok (.bipush 38, 2) := dk_at dkB02decM0_19 51 rfl
theorem dX11_readClaim_37 : decode cX11_readClaim 37 = .ok (.if_icmp .eq 9, 3) := dk_at dkB02decM0_19 52 rfl
theorem dX11_readClaim_40 : decode cX11_readClaim 40 = .ok (.iload_n 1, 1) := dk_at dkB02decM0_19 53 rfl
theorem dX11_readClaim_41 : decode cX11_readClaim 41 = .ok (.bipush 124, 2) := dk_at dkB02decM0_19 54 rfl
theorem dX11_readClaim_43 : decode cX11_readClaim 43 = .ok (.if_icmp .ne 48, 3) := dk_at dkB02decM0_19 55 rfl
theorem dX11_readClaim_46 : decode cX11_readClaim 46 = .ok (.aload_n 0, 1) := dk_at dkB02decM0_19 56 rfl
theorem dX11_readClaim_47 : decode cX11_readClaim 47 = .ok (.dup, 1) := dk_at dkB02decM0_19 57 rfl
theorem dX11_readClaim_48 : decode cX11_readClaim 48 = .ok (.getfield 116, 3) := dk_at dkB02decM0_19 58 rfl
theorem dX11_readClaim_51 : decode cX11_readClaim 51 = .ok (.iconst 1, 1) := dk_at dkB02decM0_19 59 rfl
noncomputable def dkL02decM0_20 : List (ByteArray × Nat × Instr × Nat) := [(cX11_readClaim, 52, (.iadd, 1)), (cX11_readClaim, 53, (.putfield 116, 3)), (cX11_readClaim, 56, (.aload_n 0, 1)), (cX11_readClaim, 57, (.getfield 16, 3)), (cX11_readClaim, 60, (.iconst 0, 1)), (cX11_readClaim, 61, (.iconst 2, 1)), (cX11_readClaim, 62, (.iastore, 1)), (cX11_readClaim, 63, (.aload_n 0, 1)), (cX11_readClaim, 64, (.getfield 16, 3)), (cX11_readClaim, 67, (.iconst 1, 1)), (cX11_readClaim, 68, (.iload_n 1, 1)), (cX11_readClaim, 69, (.bipush 38, 2)), (cX11_readClaim, 71, (.if_icmp .ne 7, 3)), (cX11_readClaim, 74, (.iconst 1, 1)), (cX11_readClaim, 75, (.goto 4, 3)), (cX11_readClaim, 78, (.iconst 0, 1)), (cX11_readClaim, 79, (.iastore, 1)), (cX11_readClaim, 80, (.aload_n 0, 1)), (cX11_readClaim, 81, (.bipush 8, 2)), (cX11_readClaim, 83, (.invokevirtual 148, 3)), (cX11_readClaim, 86, (.ifCond .ne 5, 3)), (cX11_readClaim, 89, (.iconst 0, 1)), (cX11_readClaim, 90, (.ireturn, 1)), (cX11_readClaim, 91, (.aload_n 0, 1)), (cX11_readClaim, 92, (.invokevirtual 119, 3)), (cX11_readClaim, 95, (.ifCond .ge 7, 3)), (cX11_readClaim, 98, (.iconst 1, 1)), (cX11_readClaim, 99, (.goto 4, 3)), (cX11_readClaim, 102, (.iconst 0, 1)), (cX11_readClaim, 103, (.ireturn, 1)), (cX11_claim, 0, (.aload_n 0, 1)), (cX11_claim, 1, (.invokevirtual 151, 3)), (cX11_claim, 4, (.istore_n 1, 1)), (cX11_claim, 5, (.aload_n 0, 1)), (cX11_claim, 6, (.iconst 0, 1)), (cX11_claim, 7, (.putfield 112, 3)), (cX11_claim, 10, (.iload_n 1, 1)), (cX11_claim, 11, (.ifCond .ne 11, 3)), (cX11_claim, 14, (.bipush (-20), 2)), (cX11_claim, 16, (.aload_n 0, 1)), (cX11_claim, 17, (.getfield 116, 3)), (cX11_claim, 20, (.isub, 1)), (cX11_claim, 21, (.ireturn, 1)), (cX11_claim, 22, (.aload_n 0, 1)), (cX11_claim, 23, (.getfield 7, 3)), (cX11_claim, 26, (.bipush 12, 2)), (cX11_claim, 28, (.iaload, 1)), (cX11_claim, 29, (.iconst 4, 1)), (cX11_claim, 30, (.if_icmp .ne 6, 3)), (cX11_claim, 33, (.bipush (-3), 2)), (cX11_claim, 35, (.ireturn, 1)), (cX11_claim, 36, (.iconst 0, 1)), (cX11_claim, 37, (.istore_n 2, 1)), (cX11_claim, 38, (.iload_n 2, 1)), (cX11_claim, 39, (.bipush 14, 2)), (cX11_claim, 41, (.if_icmp .ge 36, 3)), (cX11_claim, 44, (.aload_n 0, 1)), (cX11_claim, 45, (.getfield 7, 3)), (cX11_claim, 48, (.sipush 326, 3)), (cX11_claim, 51, (.bipush 14, 2))]
theorem dkB02decM0_20 : dkL02decM0_20.all (fun q => decide (decode q.1 q.2.1 = .ok q.2.2)) = true := by decide +kernel
theorem dX11_readClaim_52 : decode cX11_readClaim 52 = .ok (.iadd, 1) := dk_at dkB02decM0_20 0 rfl
theorem dX11_readClaim_53 : decode cX11_readClaim 53 = .ok (.putfield 116, 3) := dk_at dkB02decM0_20 1 rfl
theorem dX11_readClaim_56 : decode cX11_readClaim 56 = .ok (.aload_n 0, 1) := dk_at dkB02decM0_20 2 rfl
theorem dX11_readClaim_57 : decode cX11_readClaim 57 = .ok (.getfield 16, 3) := dk_at dkB02decM0_20 3 rfl
theorem dX11_readClaim_60 : decode cX11_readClaim 60 = .ok (.iconst 0, 1) := dk_at dkB02decM0_20 4 rfl
theorem dX11_readClaim_61 : decode cX11_readClaim 61 = .ok (.iconst 2, 1) := dk_at dkB02decM0_20 5 rfl
theorem dX11_readClaim_62 : decode cX11_readClaim 62 = .ok (.iastore, 1) := dk_at dkB02decM0_20 6 rfl
theorem dX11_readClaim_63 : decode cX11_readClaim 63 = .ok (.aload_n 0, 1) := dk_at dkB02decM0_20 7 rfl
theorem dX11_readClaim_64 : decode cX11_readClaim 64 = .ok (.getfield 16, 3) := dk_at dkB02decM0_20 8 rfl
theorem dX11_readClaim_67 : decode cX11_readClaim 67 = .ok (.iconst 1, 1) := dk_at dkB02decM0_20 9 rfl
theorem dX11_readClaim_68 : decode cX11_readClaim 68 = .ok (.iload_n 1, 1) := dk_at dkB02decM0_20 10 rfl
theorem dX11_readClaim_69 : decode cX11_readClaim 69 = .ok (.bipush 38, 2) := dk_at dkB02decM0_20 11 rfl
theorem dX11_readClaim_71 : decode cX11_readClaim 71 = .ok (.if_icmp .ne 7, 3) := dk_at dkB02decM0_20 12 rfl
theorem dX11_readClaim_74 : decode cX11_readClaim 74 = .ok (.iconst 1, 1) := dk_at dkB02decM0_20 13 rfl
theorem dX11_readClaim_75 : decode cX11_readClaim 75 = .ok (.goto 4, 3) := dk_at dkB02decM0_20 14 rfl
theorem dX11_readClaim_78 : decode cX11_readClaim 78 = .ok (.iconst 0, 1) := dk_at dkB02decM0_20 15 rfl
theorem dX11_readClaim_79 : decode cX11_readClaim 79 = .ok (.iastore, 1) := dk_at dkB02decM0_20 16 rfl
theorem dX11_readClaim_80 : decode cX11_readClaim 80 = .ok (.aload_n 0, 1) := dk_at dkB02decM0_20 17 rfl
theorem dX11_readClaim_81 : decode cX11_readClaim 81 = .ok (.bipush 8, 2) := dk_at dkB02decM0_20 18 rfl
theorem dX11_readClaim_83 : decode cX11_readClaim 83 = .ok (.invokevirtual 148, 3) := dk_at dkB02decM0_20 19 rfl
theorem dX11_readClaim_86 : decode cX11_readClaim 86 = .ok (.ifCond .ne 5, 3) := dk_at dkB02decM0_20 20 rfl
theorem dX11_readClaim_89 : decode cX11_readClaim 89 = .ok (.iconst 0, 1) := dk_at dkB02decM0_20 21 rfl
theorem dX11_readClaim_90 : decode cX11_readClaim 90 = .ok (.ireturn, 1) := dk_at dkB02decM0_20 22 rfl
theorem dX11_readClaim_91 : decode cX11_readClaim 91 = .ok (.aload_n 0, 1) := dk_at dkB02decM0_20 23 rfl
theorem dX11_readClaim_92 : decode cX11_readClaim 92 = .ok (.invokevirtual 119, 3) := dk_at dkB02decM0_20 24 rfl
theorem dX11_readClaim_95 : decode cX11_readClaim 95 = .ok (.ifCond .ge 7, 3) := dk_at dkB02decM0_20 25 rfl
theorem dX11_readClaim_98 : decode cX11_readClaim 98 = .ok (.iconst 1, 1) := dk_at dkB02decM0_20 26 rfl
theorem dX11_readClaim_99 : decode cX11_readClaim 99 = .ok (.goto 4, 3) := dk_at dkB02decM0_20 27 rfl
theorem dX11_readClaim_102 : decode cX11_readClaim 102 = .ok (.iconst 0, 1) := dk_at dkB02decM0_20 28 rfl
theorem dX11_readClaim_103 : decode cX11_readClaim 103 = .ok (.ireturn, 1) := dk_at dkB02decM0_20 29 rfl
theorem dX11_claim_0 : decode cX11_claim 0 = .ok (.aload_n 0, 1) := dk_at dkB02decM0_20 30 rfl
theorem dX11_claim_1 : decode cX11_claim 1 = .ok (.invokevirtual 151, 3) := dk_at dkB02decM0_20 31 rfl
theorem dX11_claim_4 : decode cX11_claim 4 = .ok (.istore_n 1, 1) := dk_at dkB02decM0_20 32 rfl
theorem dX11_claim_5 : decode cX11_claim 5 = .ok (.aload_n 0, 1) := dk_at dkB02decM0_20 33 rfl
theorem dX11_claim_6 : decode cX11_claim 6 = .ok (.iconst 0, 1) := dk_at dkB02decM0_20 34 rfl
theorem dX11_claim_7 : decode cX11_claim 7 = .ok (.putfield 112, 3) := dk_at dkB02decM0_20 35 rfl
theorem dX11_claim_10 : decode cX11_claim 10 = .ok (.iload_n 1, 1) := dk_at dkB02decM0_20 36 rfl
theorem dX11_claim_11 : decode cX11_claim 11 = .ok (.ifCond .ne 11, 3) := dk_at dkB02decM0_20 37 rfl
theorem dX11_claim_14 : decode cX11_claim 14 = .ok (.bipush (-20), 2) := dk_at dkB02decM0_20 38 rfl
theorem dX11_claim_16 : decode cX11_claim 16 = .ok (.aload_n 0, 1) := dk_at dkB02decM0_20 39 rfl
theorem dX11_claim_17 : decode cX11_claim 17 = .ok (.getfield 116, 3) := dk_at dkB02decM0_20 40 rfl
theorem dX11_claim_20 : decode cX11_claim 20 = .ok (.isub, 1) := dk_at dkB02decM0_20 41 rfl
theorem dX11_claim_21 : decode cX11_claim 21 = .ok (.ireturn, 1) := dk_at dkB02decM0_20 42 rfl
theorem dX11_claim_22 : decode cX11_claim 22 = .ok (.aload_n 0, 1) := dk_at dkB02decM0_20 43 rfl
theorem dX11_claim_23 : decode cX11_claim 23 = .ok (.getfield 7, 3) := dk_at dkB02decM0_20 44 rfl
theorem dX11_claim_26 : decode cX11_claim 26 = .ok (.bipush 12, 2) := dk_at dkB02decM0_20 45 rfl
theorem dX11_claim_28 : decode cX11_claim 28 = .ok (.iaload, 1) := dk_at dkB02decM0_20 46 rfl
theorem dX11_claim_29 : decode cX11_claim 29 = .ok (.iconst 4, 1) := dk_at dkB02decM0_20 47 rfl
theorem dX11_claim_30 : decode cX11_claim 30 = .ok (.if_icmp .ne 6, 3) := dk_at dkB02decM0_20 48 rfl
theorem dX11_claim_33 : decode cX11_claim 33 = .ok (.bipush (-3), 2) := dk_at dkB02decM0_20 49 rfl
theorem dX11_claim_35 : decode cX11_claim 35 = .ok (.ireturn, 1) := dk_at dkB02decM0_20 50 rfl
theorem dX11_claim_36 : decode cX11_claim 36 = .ok (.iconst 0, 1) := dk_at dkB02decM0_20 51 rfl
theorem dX11_claim_37 : decode cX11_claim 37 = .ok (.istore_n 2, 1) := dk_at dkB02decM0_20 52 rfl
theorem dX11_claim_38 : decode cX11_claim 38 = .ok (.iload_n 2, 1) := dk_at dkB02decM0_20 53 rfl
theorem dX11_claim_39 : decode cX11_claim 39 = .ok (.bipush 14, 2) := dk_at dkB02decM0_20 54 rfl
theorem dX11_claim_41 : decode cX11_claim 41 = .ok (.if_icmp .ge 36, 3) := dk_at dkB02decM0_20 55 rfl
theorem dX11_claim_44 : decode cX11_claim 44 = .ok (.aload_n 0, 1) := dk_at dkB02decM0_20 56 rfl
theorem dX11_claim_45 : decode cX11_claim 45 = .ok (.getfield 7, 3) := dk_at dkB02decM0_20 57 rfl
theorem dX11_claim_48 : decode cX11_claim 48 = .ok (.sipush 326, 3) := dk_at dkB02decM0_20 58 rfl
theorem dX11_claim_51 : decode cX11_claim 51 = .ok (.bipush 14, 2) := dk_at dkB02decM0_20 59 rfl
noncomputable def dkL02decM0_21 : List (ByteArray × Nat × Instr × Nat) := [(cX11_claim, 53, (.aload_n 0, 1)), (cX11_claim, 54, (.getfield 7, 3)), (cX11_claim, 57, (.bipush 12, 2)), (cX11_claim, 59, (.iaload, 1)), (cX11_claim, 60, (.imul, 1)), (cX11_claim, 61, (.iadd, 1)), (cX11_claim, 62, (.iload_n 2, 1)), (cX11_claim, 63, (.iadd, 1)), (cX11_claim, 64, (.aload_n 0, 1)), (cX11_claim, 65, (.getfield 16, 3)), (cX11_claim, 68, (.iload_n 2, 1)), (cX11_claim, 69, (.iaload, 1)), (cX11_claim, 70, (.iastore, 1)), (cX11_claim, 71, (.iinc 2 1, 3)), (cX11_claim, 74, (.goto (-36), 3)), (cX11_claim, 77, (.aload_n 0, 1)), (cX11_claim, 78, (.getfield 7, 3)), (cX11_claim, 81, (.bipush 12, 2)), (cX11_claim, 83, (.dup2, 1)), (cX11_claim, 84, (.iaload, 1)), (cX11_claim, 85, (.iconst 1, 1)), (cX11_claim, 86, (.iadd, 1)), (cX11_claim, 87, (.iastore, 1)), (cX11_claim, 88, (.aload_n 0, 1)), (cX11_claim, 89, (.getfield 7, 3)), (cX11_claim, 92, (.bipush 12, 2)), (cX11_claim, 94, (.iaload, 1)), (cX11_claim, 95, (.iconst 1, 1)), (cX11_claim, 96, (.isub, 1)), (cX11_claim, 97, (.ireturn, 1)), (cX11_dateAt, 0, (.sipush 278, 3)), (cX11_dateAt, 3, (.bipush 6, 2)), (cX11_dateAt, 5, (.iload_n 1, 1)), (cX11_dateAt, 6, (.imul, 1)), (cX11_dateAt, 7, (.iadd, 1)), (cX11_dateAt, 8, (.ireturn, 1)), (cX11_dropDates, 0, (.iconst 0, 1)), (cX11_dropDates, 1, (.istore_n 3, 1)), (cX11_dropDates, 2, (.iconst 0, 1)), (cX11_dropDates, 3, (.istore 4, 2)), (cX11_dropDates, 5, (.iload 4, 2)), (cX11_dropDates, 7, (.aload_n 0, 1)), (cX11_dropDates, 8, (.getfield 7, 3)), (cX11_dropDates, 11, (.bipush 11, 2)), (cX11_dropDates, 13, (.iaload, 1)), (cX11_dropDates, 14, (.if_icmp .ge 87, 3)), (cX11_dropDates, 17, (.aload_n 0, 1)), (cX11_dropDates, 18, (.getfield 7, 3)), (cX11_dropDates, 21, (.aload_n 0, 1)), (cX11_dropDates, 22, (.iload 4, 2)), (cX11_dropDates, 24, (.invokevirtual 154, 3)), (cX11_dropDates, 27, (.iaload, 1)), (cX11_dropDates, 28, (.iload_n 1, 1)), (cX11_dropDates, 29, (.if_icmp .ne 20, 3)), (cX11_dropDates, 32, (.aload_n 0, 1)), (cX11_dropDates, 33, (.getfield 7, 3)), (cX11_dropDates, 36, (.aload_n 0, 1)), (cX11_dropDates, 37, (.iload 4, 2)), (cX11_dropDates, 39, (.invokevirtual 154, 3)), (cX11_dropDates, 42, (.iconst 1, 1))]
theorem dkB02decM0_21 : dkL02decM0_21.all (fun q => decide (decode q.1 q.2.1 = .ok q.2.2)) = true := by decide +kernel
theorem dX11_claim_53 : decode cX11_claim 53 = .ok (.aload_n 0, 1) := dk_at dkB02decM0_21 0 rfl
theorem dX11_claim_54 : decode cX11_claim 54 = .ok (.getfield 7, 3) := dk_at dkB02decM0_21 1 rfl
theorem dX11_claim_57 : decode cX11_claim 57 = .ok (.bipush 12, 2) := dk_at dkB02decM0_21 2 rfl
theorem dX11_claim_59 : decode cX11_claim 59 = .ok (.iaload, 1) := dk_at dkB02decM0_21 3 rfl
theorem dX11_claim_60 : decode cX11_claim 60 = .ok (.imul, 1) := dk_at dkB02decM0_21 4 rfl
theorem dX11_claim_61 : decode cX11_claim 61 = .ok (.iadd, 1) := dk_at dkB02decM0_21 5 rfl
theorem dX11_claim_62 : decode cX11_claim 62 = .ok (.iload_n 2, 1) := dk_at dkB02decM0_21 6 rfl
theorem dX11_claim_63 : decode cX11_claim 63 = .ok (.iadd, 1) := dk_at dkB02decM0_21 7 rfl
theorem dX11_claim_64 : decode cX11_claim 64 = .ok (.aload_n 0, 1) := dk_at dkB02decM0_21 8 rfl
theorem dX11_claim_65 : decode cX11_claim 65 = .ok (.getfield 16, 3) := dk_at dkB02decM0_21 9 rfl
theorem dX11_claim_68 : decode cX11_claim 68 = .ok (.iload_n 2, 1) := dk_at dkB02decM0_21 10 rfl
theorem dX11_claim_69 : decode cX11_claim 69 = .ok (.iaload, 1) := dk_at dkB02decM0_21 11 rfl
theorem dX11_claim_70 : decode cX11_claim 70 = .ok (.iastore, 1) := dk_at dkB02decM0_21 12 rfl
theorem dX11_claim_71 : decode cX11_claim 71 = .ok (.iinc 2 1, 3) := dk_at dkB02decM0_21 13 rfl
theorem dX11_claim_74 : decode cX11_claim 74 = .ok (.goto (-36), 3) := dk_at dkB02decM0_21 14 rfl
theorem dX11_claim_77 : decode cX11_claim 77 = .ok (.aload_n 0, 1) := dk_at dkB02decM0_21 15 rfl
theorem dX11_claim_78 : decode cX11_claim 78 = .ok (.getfield 7, 3) := dk_at dkB02decM0_21 16 rfl
theorem dX11_claim_81 : decode cX11_claim 81 = .ok (.bipush 12, 2) := dk_at dkB02decM0_21 17 rfl
theorem dX11_claim_83 : decode cX11_claim 83 = .ok (.dup2, 1) := dk_at dkB02decM0_21 18 rfl
theorem dX11_claim_84 : decode cX11_claim 84 = .ok (.iaload, 1) := dk_at dkB02decM0_21 19 rfl
theorem dX11_claim_85 : decode cX11_claim 85 = .ok (.iconst 1, 1) := dk_at dkB02decM0_21 20 rfl
theorem dX11_claim_86 : decode cX11_claim 86 = .ok (.iadd, 1) := dk_at dkB02decM0_21 21 rfl
theorem dX11_claim_87 : decode cX11_claim 87 = .ok (.iastore, 1) := dk_at dkB02decM0_21 22 rfl
theorem dX11_claim_88 : decode cX11_claim 88 = .ok (.aload_n 0, 1) := dk_at dkB02decM0_21 23 rfl
theorem dX11_claim_89 : decode cX11_claim 89 = .ok (.getfield 7, 3) := dk_at dkB02decM0_21 24 rfl
theorem dX11_claim_92 : decode cX11_claim 92 = .ok (.bipush 12, 2) := dk_at dkB02decM0_21 25 rfl
theorem dX11_claim_94 : decode cX11_claim 94 = .ok (.iaload, 1) := dk_at dkB02decM0_21 26 rfl
theorem dX11_claim_95 : decode cX11_claim 95 = .ok (.iconst 1, 1) := dk_at dkB02decM0_21 27 rfl
theorem dX11_claim_96 : decode cX11_claim 96 = .ok (.isub, 1) := dk_at dkB02decM0_21 28 rfl
theorem dX11_claim_97 : decode cX11_claim 97 = .ok (.ireturn, 1) := dk_at dkB02decM0_21 29 rfl
theorem dX11_dateAt_0 : decode cX11_dateAt 0 = .ok (.sipush 278, 3) := dk_at dkB02decM0_21 30 rfl
theorem dX11_dateAt_3 : decode cX11_dateAt 3 = .ok (.bipush 6, 2) := dk_at dkB02decM0_21 31 rfl
theorem dX11_dateAt_5 : decode cX11_dateAt 5 = .ok (.iload_n 1, 1) := dk_at dkB02decM0_21 32 rfl
theorem dX11_dateAt_6 : decode cX11_dateAt 6 = .ok (.imul, 1) := dk_at dkB02decM0_21 33 rfl
theorem dX11_dateAt_7 : decode cX11_dateAt 7 = .ok (.iadd, 1) := dk_at dkB02decM0_21 34 rfl
theorem dX11_dateAt_8 : decode cX11_dateAt 8 = .ok (.ireturn, 1) := dk_at dkB02decM0_21 35 rfl
theorem dX11_dropDates_0 : decode cX11_dropDates 0 = .ok (.iconst 0, 1) := dk_at dkB02decM0_21 36 rfl
theorem dX11_dropDates_1 : decode cX11_dropDates 1 = .ok (.istore_n 3, 1) := dk_at dkB02decM0_21 37 rfl
theorem dX11_dropDates_2 : decode cX11_dropDates 2 = .ok (.iconst 0, 1) := dk_at dkB02decM0_21 38 rfl
theorem dX11_dropDates_3 : decode cX11_dropDates 3 = .ok (.istore 4, 2) := dk_at dkB02decM0_21 39 rfl
theorem dX11_dropDates_5 : decode cX11_dropDates 5 = .ok (.iload 4, 2) := dk_at dkB02decM0_21 40 rfl
theorem dX11_dropDates_7 : decode cX11_dropDates 7 = .ok (.aload_n 0, 1) := dk_at dkB02decM0_21 41 rfl
theorem dX11_dropDates_8 : decode cX11_dropDates 8 = .ok (.getfield 7, 3) := dk_at dkB02decM0_21 42 rfl
theorem dX11_dropDates_11 : decode cX11_dropDates 11 = .ok (.bipush 11, 2) := dk_at dkB02decM0_21 43 rfl
theorem dX11_dropDates_13 : decode cX11_dropDates 13 = .ok (.iaload, 1) := dk_at dkB02decM0_21 44 rfl
theorem dX11_dropDates_14 : decode cX11_dropDates 14 = .ok (.if_icmp .ge 87, 3) := dk_at dkB02decM0_21 45 rfl
theorem dX11_dropDates_17 : decode cX11_dropDates 17 = .ok (.aload_n 0, 1) := dk_at dkB02decM0_21 46 rfl
theorem dX11_dropDates_18 : decode cX11_dropDates 18 = .ok (.getfield 7, 3) := dk_at dkB02decM0_21 47 rfl
theorem dX11_dropDates_21 : decode cX11_dropDates 21 = .ok (.aload_n 0, 1) := dk_at dkB02decM0_21 48 rfl
theorem dX11_dropDates_22 : decode cX11_dropDates 22 = .ok (.iload 4, 2) := dk_at dkB02decM0_21 49 rfl
theorem dX11_dropDates_24 : decode cX11_dropDates 24 = .ok (.invokevirtual 154, 3) := dk_at dkB02decM0_21 50 rfl
theorem dX11_dropDates_27 : decode cX11_dropDates 27 = .ok (.iaload, 1) := dk_at dkB02decM0_21 51 rfl
theorem dX11_dropDates_28 : decode cX11_dropDates 28 = .ok (.iload_n 1, 1) := dk_at dkB02decM0_21 52 rfl
theorem dX11_dropDates_29 : decode cX11_dropDates 29 = .ok (.if_icmp .ne 20, 3) := dk_at dkB02decM0_21 53 rfl
theorem dX11_dropDates_32 : decode cX11_dropDates 32 = .ok (.aload_n 0, 1) := dk_at dkB02decM0_21 54 rfl
theorem dX11_dropDates_33 : decode cX11_dropDates 33 = .ok (.getfield 7, 3) := dk_at dkB02decM0_21 55 rfl
theorem dX11_dropDates_36 : decode cX11_dropDates 36 = .ok (.aload_n 0, 1) := dk_at dkB02decM0_21 56 rfl
theorem dX11_dropDates_37 : decode cX11_dropDates 37 = .ok (.iload 4, 2) := dk_at dkB02decM0_21 57 rfl
theorem dX11_dropDates_39 : decode cX11_dropDates 39 = .ok (.invokevirtual 154, 3) := dk_at dkB02decM0_21 58 rfl
theorem dX11_dropDates_42 : decode cX11_dropDates 42 = .ok (.iconst 1, 1) := dk_at dkB02decM0_21 59 rfl
noncomputable def dkL02decM0_22 : List (ByteArray × Nat × Instr × Nat) := [(cX11_dropDates, 43, (.iadd, 1)), (cX11_dropDates, 44, (.iaload, 1)), (cX11_dropDates, 45, (.iload_n 2, 1)), (cX11_dropDates, 46, (.if_icmp .ge 49, 3)), (cX11_dropDates, 49, (.iconst 0, 1)), (cX11_dropDates, 50, (.istore 5, 2)), (cX11_dropDates, 52, (.iload 5, 2)), (cX11_dropDates, 54, (.bipush 6, 2)), (cX11_dropDates, 56, (.if_icmp .ge 36, 3)), (cX11_dropDates, 59, (.aload_n 0, 1)), (cX11_dropDates, 60, (.getfield 7, 3)), (cX11_dropDates, 63, (.aload_n 0, 1)), (cX11_dropDates, 64, (.iload_n 3, 1)), (cX11_dropDates, 65, (.invokevirtual 154, 3)), (cX11_dropDates, 68, (.iload 5, 2)), (cX11_dropDates, 70, (.iadd, 1)), (cX11_dropDates, 71, (.aload_n 0, 1)), (cX11_dropDates, 72, (.getfield 7, 3)), (cX11_dropDates, 75, (.aload_n 0, 1)), (cX11_dropDates, 76, (.iload 4, 2)), (cX11_dropDates, 78, (.invokevirtual 154, 3)), (cX11_dropDates, 81, (.iload 5, 2)), (cX11_dropDates, 83, (.iadd, 1)), (cX11_dropDates, 84, (.iaload, 1)), (cX11_dropDates, 85, (.iastore, 1)), (cX11_dropDates, 86, (.iinc 5 1, 3)), (cX11_dropDates, 89, (.goto (-37), 3)), (cX11_dropDates, 92, (.iinc 3 1, 3)), (cX11_dropDates, 95, (.iinc 4 1, 3)), (cX11_dropDates, 98, (.goto (-93), 3)), (cX11_dropDates, 101, (.aload_n 0, 1)), (cX11_dropDates, 102, (.getfield 7, 3)), (cX11_dropDates, 105, (.bipush 11, 2)), (cX11_dropDates, 107, (.iload_n 3, 1)), (cX11_dropDates, 108, (.iastore, 1)), (cX11_dropDates, 109, (.return_, 1)), (cX11_stretchAt, 0, (.sipush 230, 3)), (cX11_stretchAt, 3, (.bipush 24, 2)), (cX11_stretchAt, 5, (.iload_n 1, 1)), (cX11_stretchAt, 6, (.imul, 1)), (cX11_stretchAt, 7, (.iadd, 1)), (cX11_stretchAt, 8, (.iconst 4, 1)), (cX11_stretchAt, 9, (.iload_n 2, 1)), (cX11_stretchAt, 10, (.imul, 1)), (cX11_stretchAt, 11, (.iadd, 1)), (cX11_stretchAt, 12, (.ireturn, 1)), (cX11_dropStretches, 0, (.iconst 0, 1)), (cX11_dropStretches, 1, (.istore_n 3, 1)), (cX11_dropStretches, 2, (.iconst 0, 1)), (cX11_dropStretches, 3, (.istore 4, 2)), (cX11_dropStretches, 5, (.iload 4, 2)), (cX11_dropStretches, 7, (.aload_n 0, 1)), (cX11_dropStretches, 8, (.getfield 7, 3)), (cX11_dropStretches, 11, (.bipush 9, 2)), (cX11_dropStretches, 13, (.iload_n 1, 1)), (cX11_dropStretches, 14, (.iadd, 1)), (cX11_dropStretches, 15, (.iaload, 1)), (cX11_dropStretches, 16, (.if_icmp .ge 74, 3)), (cX11_dropStretches, 19, (.aload_n 0, 1)), (cX11_dropStretches, 20, (.getfield 7, 3))]
theorem dkB02decM0_22 : dkL02decM0_22.all (fun q => decide (decode q.1 q.2.1 = .ok q.2.2)) = true := by decide +kernel
theorem dX11_dropDates_43 : decode cX11_dropDates 43 = .ok (.iadd, 1) := dk_at dkB02decM0_22 0 rfl
theorem dX11_dropDates_44 : decode cX11_dropDates 44 = .ok (.iaload, 1) := dk_at dkB02decM0_22 1 rfl
theorem dX11_dropDates_45 : decode cX11_dropDates 45 = .ok (.iload_n 2, 1) := dk_at dkB02decM0_22 2 rfl
theorem dX11_dropDates_46 : decode cX11_dropDates 46 = .ok (.if_icmp .ge 49, 3) := dk_at dkB02decM0_22 3 rfl
theorem dX11_dropDates_49 : decode cX11_dropDates 49 = .ok (.iconst 0, 1) := dk_at dkB02decM0_22 4 rfl
theorem dX11_dropDates_50 : decode cX11_dropDates 50 = .ok (.istore 5, 2) := dk_at dkB02decM0_22 5 rfl
theorem dX11_dropDates_52 : decode cX11_dropDates 52 = .ok (.iload 5, 2) := dk_at dkB02decM0_22 6 rfl
theorem dX11_dropDates_54 : decode cX11_dropDates 54 = .ok (.bipush 6, 2) := dk_at dkB02decM0_22 7 rfl
theorem dX11_dropDates_56 : decode cX11_dropDates 56 = .ok (.if_icmp .ge 36, 3) := dk_at dkB02decM0_22 8 rfl
theorem dX11_dropDates_59 : decode cX11_dropDates 59 = .ok (.aload_n 0, 1) := dk_at dkB02decM0_22 9 rfl
theorem dX11_dropDates_60 : decode cX11_dropDates 60 = .ok (.getfield 7, 3) := dk_at dkB02decM0_22 10 rfl
theorem dX11_dropDates_63 : decode cX11_dropDates 63 = .ok (.aload_n 0, 1) := dk_at dkB02decM0_22 11 rfl
theorem dX11_dropDates_64 : decode cX11_dropDates 64 = .ok (.iload_n 3, 1) := dk_at dkB02decM0_22 12 rfl
theorem dX11_dropDates_65 : decode cX11_dropDates 65 = .ok (.invokevirtual 154, 3) := dk_at dkB02decM0_22 13 rfl
theorem dX11_dropDates_68 : decode cX11_dropDates 68 = .ok (.iload 5, 2) := dk_at dkB02decM0_22 14 rfl
theorem dX11_dropDates_70 : decode cX11_dropDates 70 = .ok (.iadd, 1) := dk_at dkB02decM0_22 15 rfl
theorem dX11_dropDates_71 : decode cX11_dropDates 71 = .ok (.aload_n 0, 1) := dk_at dkB02decM0_22 16 rfl
theorem dX11_dropDates_72 : decode cX11_dropDates 72 = .ok (.getfield 7, 3) := dk_at dkB02decM0_22 17 rfl
theorem dX11_dropDates_75 : decode cX11_dropDates 75 = .ok (.aload_n 0, 1) := dk_at dkB02decM0_22 18 rfl
theorem dX11_dropDates_76 : decode cX11_dropDates 76 = .ok (.iload 4, 2) := dk_at dkB02decM0_22 19 rfl
theorem dX11_dropDates_78 : decode cX11_dropDates 78 = .ok (.invokevirtual 154, 3) := dk_at dkB02decM0_22 20 rfl
theorem dX11_dropDates_81 : decode cX11_dropDates 81 = .ok (.iload 5, 2) := dk_at dkB02decM0_22 21 rfl
theorem dX11_dropDates_83 : decode cX11_dropDates 83 = .ok (.iadd, 1) := dk_at dkB02decM0_22 22 rfl
theorem dX11_dropDates_84 : decode cX11_dropDates 84 = .ok (.iaload, 1) := dk_at dkB02decM0_22 23 rfl
theorem dX11_dropDates_85 : decode cX11_dropDates 85 = .ok (.iastore, 1) := dk_at dkB02decM0_22 24 rfl
theorem dX11_dropDates_86 : decode cX11_dropDates 86 = .ok (.iinc 5 1, 3) := dk_at dkB02decM0_22 25 rfl
theorem dX11_dropDates_89 : decode cX11_dropDates 89 = .ok (.goto (-37), 3) := dk_at dkB02decM0_22 26 rfl
theorem dX11_dropDates_92 : decode cX11_dropDates 92 = .ok (.iinc 3 1, 3) := dk_at dkB02decM0_22 27 rfl
theorem dX11_dropDates_95 : decode cX11_dropDates 95 = .ok (.iinc 4 1, 3) := dk_at dkB02decM0_22 28 rfl
theorem dX11_dropDates_98 : decode cX11_dropDates 98 = .ok (.goto (-93), 3) := dk_at dkB02decM0_22 29 rfl
theorem dX11_dropDates_101 : decode cX11_dropDates 101 = .ok (.aload_n 0, 1) := dk_at dkB02decM0_22 30 rfl
theorem dX11_dropDates_102 : decode cX11_dropDates 102 = .ok (.getfield 7, 3) := dk_at dkB02decM0_22 31 rfl
theorem dX11_dropDates_105 : decode cX11_dropDates 105 = .ok (.bipush 11, 2) := dk_at dkB02decM0_22 32 rfl
theorem dX11_dropDates_107 : decode cX11_dropDates 107 = .ok (.iload_n 3, 1) := dk_at dkB02decM0_22 33 rfl
theorem dX11_dropDates_108 : decode cX11_dropDates 108 = .ok (.iastore, 1) := dk_at dkB02decM0_22 34 rfl
theorem dX11_dropDates_109 : decode cX11_dropDates 109 = .ok (.return_, 1) := dk_at dkB02decM0_22 35 rfl
theorem dX11_stretchAt_0 : decode cX11_stretchAt 0 = .ok (.sipush 230, 3) := dk_at dkB02decM0_22 36 rfl
theorem dX11_stretchAt_3 : decode cX11_stretchAt 3 = .ok (.bipush 24, 2) := dk_at dkB02decM0_22 37 rfl
theorem dX11_stretchAt_5 : decode cX11_stretchAt 5 = .ok (.iload_n 1, 1) := dk_at dkB02decM0_22 38 rfl
theorem dX11_stretchAt_6 : decode cX11_stretchAt 6 = .ok (.imul, 1) := dk_at dkB02decM0_22 39 rfl
theorem dX11_stretchAt_7 : decode cX11_stretchAt 7 = .ok (.iadd, 1) := dk_at dkB02decM0_22 40 rfl
theorem dX11_stretchAt_8 : decode cX11_stretchAt 8 = .ok (.iconst 4, 1) := dk_at dkB02decM0_22 41 rfl
theorem dX11_stretchAt_9 : decode cX11_stretchAt 9 = .ok (.iload_n 2, 1) := dk_at dkB02decM0_22 42 rfl
theorem dX11_stretchAt_10 : decode cX11_stretchAt 10 = .ok (.imul, 1) := dk_at dkB02decM0_22 43 rfl
theorem dX11_stretchAt_11 : decode cX11_stretchAt 11 = .ok (.iadd, 1) := dk_at dkB02decM0_22 44 rfl
theorem dX11_stretchAt_12 : decode cX11_stretchAt 12 = .ok (.ireturn, 1) := dk_at dkB02decM0_22 45 rfl
theorem dX11_dropStretches_0 : decode cX11_dropStretches 0 = .ok (.iconst 0, 1) := dk_at dkB02decM0_22 46 rfl
theorem dX11_dropStretches_1 : decode cX11_dropStretches 1 = .ok (.istore_n 3, 1) := dk_at dkB02decM0_22 47 rfl
theorem dX11_dropStretches_2 : decode cX11_dropStretches 2 = .ok (.iconst 0, 1) := dk_at dkB02decM0_22 48 rfl
theorem dX11_dropStretches_3 : decode cX11_dropStretches 3 = .ok (.istore 4, 2) := dk_at dkB02decM0_22 49 rfl
theorem dX11_dropStretches_5 : decode cX11_dropStretches 5 = .ok (.iload 4, 2) := dk_at dkB02decM0_22 50 rfl
theorem dX11_dropStretches_7 : decode cX11_dropStretches 7 = .ok (.aload_n 0, 1) := dk_at dkB02decM0_22 51 rfl
theorem dX11_dropStretches_8 : decode cX11_dropStretches 8 = .ok (.getfield 7, 3) := dk_at dkB02decM0_22 52 rfl
theorem dX11_dropStretches_11 : decode cX11_dropStretches 11 = .ok (.bipush 9, 2) := dk_at dkB02decM0_22 53 rfl
theorem dX11_dropStretches_13 : decode cX11_dropStretches 13 = .ok (.iload_n 1, 1) := dk_at dkB02decM0_22 54 rfl
theorem dX11_dropStretches_14 : decode cX11_dropStretches 14 = .ok (.iadd, 1) := dk_at dkB02decM0_22 55 rfl
theorem dX11_dropStretches_15 : decode cX11_dropStretches 15 = .ok (.iaload, 1) := dk_at dkB02decM0_22 56 rfl
theorem dX11_dropStretches_16 : decode cX11_dropStretches 16 = .ok (.if_icmp .ge 74, 3) := dk_at dkB02decM0_22 57 rfl
theorem dX11_dropStretches_19 : decode cX11_dropStretches 19 = .ok (.aload_n 0, 1) := dk_at dkB02decM0_22 58 rfl
theorem dX11_dropStretches_20 : decode cX11_dropStretches 20 = .ok (.getfield 7, 3) := dk_at dkB02decM0_22 59 rfl
noncomputable def dkL02decM0_23 : List (ByteArray × Nat × Instr × Nat) := [(cX11_dropStretches, 23, (.aload_n 0, 1)), (cX11_dropStretches, 24, (.iload_n 1, 1)), (cX11_dropStretches, 25, (.iload 4, 2)), (cX11_dropStretches, 27, (.invokevirtual 157, 3)), (cX11_dropStretches, 30, (.iconst 2, 1)), (cX11_dropStretches, 31, (.iadd, 1)), (cX11_dropStretches, 32, (.iaload, 1)), (cX11_dropStretches, 33, (.iload_n 2, 1)), (cX11_dropStretches, 34, (.if_icmp .ge 50, 3)), (cX11_dropStretches, 37, (.iconst 0, 1)), (cX11_dropStretches, 38, (.istore 5, 2)), (cX11_dropStretches, 40, (.iload 5, 2)), (cX11_dropStretches, 42, (.iconst 4, 1)), (cX11_dropStretches, 43, (.if_icmp .ge 38, 3)), (cX11_dropStretches, 46, (.aload_n 0, 1)), (cX11_dropStretches, 47, (.getfield 7, 3)), (cX11_dropStretches, 50, (.aload_n 0, 1)), (cX11_dropStretches, 51, (.iload_n 1, 1)), (cX11_dropStretches, 52, (.iload_n 3, 1)), (cX11_dropStretches, 53, (.invokevirtual 157, 3)), (cX11_dropStretches, 56, (.iload 5, 2)), (cX11_dropStretches, 58, (.iadd, 1)), (cX11_dropStretches, 59, (.aload_n 0, 1)), (cX11_dropStretches, 60, (.getfield 7, 3)), (cX11_dropStretches, 63, (.aload_n 0, 1)), (cX11_dropStretches, 64, (.iload_n 1, 1)), (cX11_dropStretches, 65, (.iload 4, 2)), (cX11_dropStretches, 67, (.invokevirtual 157, 3)), (cX11_dropStretches, 70, (.iload 5, 2)), (cX11_dropStretches, 72, (.iadd, 1)), (cX11_dropStretches, 73, (.iaload, 1)), (cX11_dropStretches, 74, (.iastore, 1)), (cX11_dropStretches, 75, (.iinc 5 1, 3)), (cX11_dropStretches, 78, (.goto (-38), 3)), (cX11_dropStretches, 81, (.iinc 3 1, 3)), (cX11_dropStretches, 84, (.iinc 4 1, 3)), (cX11_dropStretches, 87, (.goto (-82), 3)), (cX11_dropStretches, 90, (.aload_n 0, 1)), (cX11_dropStretches, 91, (.getfield 7, 3)), (cX11_dropStretches, 94, (.bipush 9, 2)), (cX11_dropStretches, 96, (.iload_n 1, 1)), (cX11_dropStretches, 97, (.iadd, 1)), (cX11_dropStretches, 98, (.iload_n 3, 1)), (cX11_dropStretches, 99, (.iastore, 1)), (cX11_dropStretches, 100, (.return_, 1)), (cX11_addThing, 0, (.aload_n 0, 1)), (cX11_addThing, 1, (.getfield 7, 3)), (cX11_addThing, 4, (.iconst 5, 1)), (cX11_addThing, 5, (.iload_n 1, 1)), (cX11_addThing, 6, (.iadd, 1)), (cX11_addThing, 7, (.iaload, 1)), (cX11_addThing, 8, (.istore 5, 2)), (cX11_addThing, 10, (.iload 5, 2)), (cX11_addThing, 12, (.bipush 12, 2)), (cX11_addThing, 14, (.if_icmp .ge 67, 3)), (cX11_addThing, 17, (.aload_n 0, 1)), (cX11_addThing, 18, (.getfield 7, 3)), (cX11_addThing, 21, (.sipush 158, 3)), (cX11_addThing, 24, (.bipush 12, 2)), (cX11_addThing, 26, (.iload_n 1, 1))]
theorem dkB02decM0_23 : dkL02decM0_23.all (fun q => decide (decode q.1 q.2.1 = .ok q.2.2)) = true := by decide +kernel
theorem dX11_dropStretches_23 : decode cX11_dropStretches 23 = .ok (.aload_n 0, 1) := dk_at dkB02decM0_23 0 rfl
theorem dX11_dropStretches_24 : decode cX11_dropStretches 24 = .ok (.iload_n 1, 1) := dk_at dkB02decM0_23 1 rfl
theorem dX11_dropStretches_25 : decode cX11_dropStretches 25 = .ok (.iload 4, 2) := dk_at dkB02decM0_23 2 rfl
theorem dX11_dropStretches_27 : decode cX11_dropStretches 27 = .ok (.invokevirtual 157, 3) := dk_at dkB02decM0_23 3 rfl
theorem dX11_dropStretches_30 : decode cX11_dropStretches 30 = .ok (.iconst 2, 1) := dk_at dkB02decM0_23 4 rfl
theorem dX11_dropStretches_31 : decode cX11_dropStretches 31 = .ok (.iadd, 1) := dk_at dkB02decM0_23 5 rfl
theorem dX11_dropStretches_32 : decode cX11_dropStretches 32 = .ok (.iaload, 1) := dk_at dkB02decM0_23 6 rfl
theorem dX11_dropStretches_33 : decode cX11_dropStretches 33 = .ok (.iload_n 2, 1) := dk_at dkB02decM0_23 7 rfl
theorem dX11_dropStretches_34 : decode cX11_dropStretches 34 = .ok (.if_icmp .ge 50, 3) := dk_at dkB02decM0_23 8 rfl
theorem dX11_dropStretches_37 : decode cX11_dropStretches 37 = .ok (.iconst 0, 1) := dk_at dkB02decM0_23 9 rfl
theorem dX11_dropStretches_38 : decode cX11_dropStretches 38 = .ok (.istore 5, 2) := dk_at dkB02decM0_23 10 rfl
theorem dX11_dropStretches_40 : decode cX11_dropStretches 40 = .ok (.iload 5, 2) := dk_at dkB02decM0_23 11 rfl
theorem dX11_dropStretches_42 : decode cX11_dropStretches 42 = .ok (.iconst 4, 1) := dk_at dkB02decM0_23 12 rfl
theorem dX11_dropStretches_43 : decode cX11_dropStretches 43 = .ok (.if_icmp .ge 38, 3) := dk_at dkB02decM0_23 13 rfl
theorem dX11_dropStretches_46 : decode cX11_dropStretches 46 = .ok (.aload_n 0, 1) := dk_at dkB02decM0_23 14 rfl
theorem dX11_dropStretches_47 : decode cX11_dropStretches 47 = .ok (.getfield 7, 3) := dk_at dkB02decM0_23 15 rfl
theorem dX11_dropStretches_50 : decode cX11_dropStretches 50 = .ok (.aload_n 0, 1) := dk_at dkB02decM0_23 16 rfl
theorem dX11_dropStretches_51 : decode cX11_dropStretches 51 = .ok (.iload_n 1, 1) := dk_at dkB02decM0_23 17 rfl
theorem dX11_dropStretches_52 : decode cX11_dropStretches 52 = .ok (.iload_n 3, 1) := dk_at dkB02decM0_23 18 rfl
theorem dX11_dropStretches_53 : decode cX11_dropStretches 53 = .ok (.invokevirtual 157, 3) := dk_at dkB02decM0_23 19 rfl
theorem dX11_dropStretches_56 : decode cX11_dropStretches 56 = .ok (.iload 5, 2) := dk_at dkB02decM0_23 20 rfl
theorem dX11_dropStretches_58 : decode cX11_dropStretches 58 = .ok (.iadd, 1) := dk_at dkB02decM0_23 21 rfl
theorem dX11_dropStretches_59 : decode cX11_dropStretches 59 = .ok (.aload_n 0, 1) := dk_at dkB02decM0_23 22 rfl
theorem dX11_dropStretches_60 : decode cX11_dropStretches 60 = .ok (.getfield 7, 3) := dk_at dkB02decM0_23 23 rfl
theorem dX11_dropStretches_63 : decode cX11_dropStretches 63 = .ok (.aload_n 0, 1) := dk_at dkB02decM0_23 24 rfl
theorem dX11_dropStretches_64 : decode cX11_dropStretches 64 = .ok (.iload_n 1, 1) := dk_at dkB02decM0_23 25 rfl
theorem dX11_dropStretches_65 : decode cX11_dropStretches 65 = .ok (.iload 4, 2) := dk_at dkB02decM0_23 26 rfl
theorem dX11_dropStretches_67 : decode cX11_dropStretches 67 = .ok (.invokevirtual 157, 3) := dk_at dkB02decM0_23 27 rfl
theorem dX11_dropStretches_70 : decode cX11_dropStretches 70 = .ok (.iload 5, 2) := dk_at dkB02decM0_23 28 rfl
theorem dX11_dropStretches_72 : decode cX11_dropStretches 72 = .ok (.iadd, 1) := dk_at dkB02decM0_23 29 rfl
theorem dX11_dropStretches_73 : decode cX11_dropStretches 73 = .ok (.iaload, 1) := dk_at dkB02decM0_23 30 rfl
theorem dX11_dropStretches_74 : decode cX11_dropStretches 74 = .ok (.iastore, 1) := dk_at dkB02decM0_23 31 rfl
theorem dX11_dropStretches_75 : decode cX11_dropStretches 75 = .ok (.iinc 5 1, 3) := dk_at dkB02decM0_23 32 rfl
theorem dX11_dropStretches_78 : decode cX11_dropStretches 78 = .ok (.goto (-38), 3) := dk_at dkB02decM0_23 33 rfl
theorem dX11_dropStretches_81 : decode cX11_dropStretches 81 = .ok (.iinc 3 1, 3) := dk_at dkB02decM0_23 34 rfl
theorem dX11_dropStretches_84 : decode cX11_dropStretches 84 = .ok (.iinc 4 1, 3) := dk_at dkB02decM0_23 35 rfl
theorem dX11_dropStretches_87 : decode cX11_dropStretches 87 = .ok (.goto (-82), 3) := dk_at dkB02decM0_23 36 rfl
theorem dX11_dropStretches_90 : decode cX11_dropStretches 90 = .ok (.aload_n 0, 1) := dk_at dkB02decM0_23 37 rfl
theorem dX11_dropStretches_91 : decode cX11_dropStretches 91 = .ok (.getfield 7, 3) := dk_at dkB02decM0_23 38 rfl
theorem dX11_dropStretches_94 : decode cX11_dropStretches 94 = .ok (.bipush 9, 2) := dk_at dkB02decM0_23 39 rfl
theorem dX11_dropStretches_96 : decode cX11_dropStretches 96 = .ok (.iload_n 1, 1) := dk_at dkB02decM0_23 40 rfl
theorem dX11_dropStretches_97 : decode cX11_dropStretches 97 = .ok (.iadd, 1) := dk_at dkB02decM0_23 41 rfl
theorem dX11_dropStretches_98 : decode cX11_dropStretches 98 = .ok (.iload_n 3, 1) := dk_at dkB02decM0_23 42 rfl
theorem dX11_dropStretches_99 : decode cX11_dropStretches 99 = .ok (.iastore, 1) := dk_at dkB02decM0_23 43 rfl
theorem dX11_dropStretches_100 : decode cX11_dropStretches 100 = .ok (.return_, 1) := dk_at dkB02decM0_23 44 rfl
theorem dX11_addThing_0 : decode cX11_addThing 0 = .ok (.aload_n 0, 1) := dk_at dkB02decM0_23 45 rfl
theorem dX11_addThing_1 : decode cX11_addThing 1 = .ok (.getfield 7, 3) := dk_at dkB02decM0_23 46 rfl
theorem dX11_addThing_4 : decode cX11_addThing 4 = .ok (.iconst 5, 1) := dk_at dkB02decM0_23 47 rfl
theorem dX11_addThing_5 : decode cX11_addThing 5 = .ok (.iload_n 1, 1) := dk_at dkB02decM0_23 48 rfl
theorem dX11_addThing_6 : decode cX11_addThing 6 = .ok (.iadd, 1) := dk_at dkB02decM0_23 49 rfl
theorem dX11_addThing_7 : decode cX11_addThing 7 = .ok (.iaload, 1) := dk_at dkB02decM0_23 50 rfl
theorem dX11_addThing_8 : decode cX11_addThing 8 = .ok (.istore 5, 2) := dk_at dkB02decM0_23 51 rfl
theorem dX11_addThing_10 : decode cX11_addThing 10 = .ok (.iload 5, 2) := dk_at dkB02decM0_23 52 rfl
theorem dX11_addThing_12 : decode cX11_addThing 12 = .ok (.bipush 12, 2) := dk_at dkB02decM0_23 53 rfl
theorem dX11_addThing_14 : decode cX11_addThing 14 = .ok (.if_icmp .ge 67, 3) := dk_at dkB02decM0_23 54 rfl
theorem dX11_addThing_17 : decode cX11_addThing 17 = .ok (.aload_n 0, 1) := dk_at dkB02decM0_23 55 rfl
theorem dX11_addThing_18 : decode cX11_addThing 18 = .ok (.getfield 7, 3) := dk_at dkB02decM0_23 56 rfl
theorem dX11_addThing_21 : decode cX11_addThing 21 = .ok (.sipush 158, 3) := dk_at dkB02decM0_23 57 rfl
theorem dX11_addThing_24 : decode cX11_addThing 24 = .ok (.bipush 12, 2) := dk_at dkB02decM0_23 58 rfl
theorem dX11_addThing_26 : decode cX11_addThing 26 = .ok (.iload_n 1, 1) := dk_at dkB02decM0_23 59 rfl
noncomputable def dkL02decM0_24 : List (ByteArray × Nat × Instr × Nat) := [(cX11_addThing, 27, (.imul, 1)), (cX11_addThing, 28, (.iadd, 1)), (cX11_addThing, 29, (.iload 5, 2)), (cX11_addThing, 31, (.iadd, 1)), (cX11_addThing, 32, (.iload_n 2, 1)), (cX11_addThing, 33, (.iastore, 1)), (cX11_addThing, 34, (.aload_n 0, 1)), (cX11_addThing, 35, (.getfield 7, 3)), (cX11_addThing, 38, (.sipush 182, 3)), (cX11_addThing, 41, (.bipush 12, 2)), (cX11_addThing, 43, (.iload_n 1, 1)), (cX11_addThing, 44, (.imul, 1)), (cX11_addThing, 45, (.iadd, 1)), (cX11_addThing, 46, (.iload 5, 2)), (cX11_addThing, 48, (.iadd, 1)), (cX11_addThing, 49, (.iload_n 3, 1)), (cX11_addThing, 50, (.iastore, 1)), (cX11_addThing, 51, (.aload_n 0, 1)), (cX11_addThing, 52, (.getfield 7, 3)), (cX11_addThing, 55, (.sipush 206, 3)), (cX11_addThing, 58, (.bipush 12, 2)), (cX11_addThing, 60, (.iload_n 1, 1)), (cX11_addThing, 61, (.imul, 1)), (cX11_addThing, 62, (.iadd, 1)), (cX11_addThing, 63, (.iload 5, 2)), (cX11_addThing, 65, (.iadd, 1)), (cX11_addThing, 66, (.iload 4, 2)), (cX11_addThing, 68, (.iastore, 1)), (cX11_addThing, 69, (.aload_n 0, 1)), (cX11_addThing, 70, (.getfield 7, 3)), (cX11_addThing, 73, (.iconst 5, 1)), (cX11_addThing, 74, (.iload_n 1, 1)), (cX11_addThing, 75, (.iadd, 1)), (cX11_addThing, 76, (.dup2, 1)), (cX11_addThing, 77, (.iaload, 1)), (cX11_addThing, 78, (.iconst 1, 1)), (cX11_addThing, 79, (.iadd, 1)), (cX11_addThing, 80, (.iastore, 1)), (cX11_addThing, 81, (.return_, 1)), (cX11_make, 0, (.iload_n 1, 1)), (cX11_make, 1, (.invokestatic 160, 3)), (cX11_make, 4, (.ifCond .ne 5, 3)), (cX11_make, 7, (.iconst (-1), 1)), (cX11_make, 8, (.ireturn, 1)), (cX11_make, 9, (.aload_n 0, 1)), (cX11_make, 10, (.getfield 7, 3)), (cX11_make, 13, (.iconst 2, 1)), (cX11_make, 14, (.iaload, 1)), (cX11_make, 15, (.ifCond .ne 6, 3)), (cX11_make, 18, (.bipush (-2), 2)), (cX11_make, 20, (.ireturn, 1)), (cX11_make, 21, (.aload_n 0, 1)), (cX11_make, 22, (.iload_n 1, 1)), (cX11_make, 23, (.iconst 0, 1)), (cX11_make, 24, (.invokevirtual 163, 3)), (cX11_make, 27, (.aload_n 0, 1)), (cX11_make, 28, (.iload_n 1, 1)), (cX11_make, 29, (.iconst 0, 1)), (cX11_make, 30, (.invokevirtual 167, 3)), (cX11_make, 33, (.aload_n 0, 1))]
theorem dkB02decM0_24 : dkL02decM0_24.all (fun q => decide (decode q.1 q.2.1 = .ok q.2.2)) = true := by decide +kernel
theorem dX11_addThing_27 : decode cX11_addThing 27 = .ok (.imul, 1) := dk_at dkB02decM0_24 0 rfl
theorem dX11_addThing_28 : decode cX11_addThing 28 = .ok (.iadd, 1) := dk_at dkB02decM0_24 1 rfl
theorem dX11_addThing_29 : decode cX11_addThing 29 = .ok (.iload 5, 2) := dk_at dkB02decM0_24 2 rfl
theorem dX11_addThing_31 : decode cX11_addThing 31 = .ok (.iadd, 1) := dk_at dkB02decM0_24 3 rfl
theorem dX11_addThing_32 : decode cX11_addThing 32 = .ok (.iload_n 2, 1) := dk_at dkB02decM0_24 4 rfl
theorem dX11_addThing_33 : decode cX11_addThing 33 = .ok (.iastore, 1) := dk_at dkB02decM0_24 5 rfl
theorem dX11_addThing_34 : decode cX11_addThing 34 = .ok (.aload_n 0, 1) := dk_at dkB02decM0_24 6 rfl
theorem dX11_addThing_35 : decode cX11_addThing 35 = .ok (.getfield 7, 3) := dk_at dkB02decM0_24 7 rfl
theorem dX11_addThing_38 : decode cX11_addThing 38 = .ok (.sipush 182, 3) := dk_at dkB02decM0_24 8 rfl
theorem dX11_addThing_41 : decode cX11_addThing 41 = .ok (.bipush 12, 2) := dk_at dkB02decM0_24 9 rfl
theorem dX11_addThing_43 : decode cX11_addThing 43 = .ok (.iload_n 1, 1) := dk_at dkB02decM0_24 10 rfl
theorem dX11_addThing_44 : decode cX11_addThing 44 = .ok (.imul, 1) := dk_at dkB02decM0_24 11 rfl
theorem dX11_addThing_45 : decode cX11_addThing 45 = .ok (.iadd, 1) := dk_at dkB02decM0_24 12 rfl
theorem dX11_addThing_46 : decode cX11_addThing 46 = .ok (.iload 5, 2) := dk_at dkB02decM0_24 13 rfl
theorem dX11_addThing_48 : decode cX11_addThing 48 = .ok (.iadd, 1) := dk_at dkB02decM0_24 14 rfl
theorem dX11_addThing_49 : decode cX11_addThing 49 = .ok (.iload_n 3, 1) := dk_at dkB02decM0_24 15 rfl
theorem dX11_addThing_50 : decode cX11_addThing 50 = .ok (.iastore, 1) := dk_at dkB02decM0_24 16 rfl
theorem dX11_addThing_51 : decode cX11_addThing 51 = .ok (.aload_n 0, 1) := dk_at dkB02decM0_24 17 rfl
theorem dX11_addThing_52 : decode cX11_addThing 52 = .ok (.getfield 7, 3) := dk_at dkB02decM0_24 18 rfl
theorem dX11_addThing_55 : decode cX11_addThing 55 = .ok (.sipush 206, 3) := dk_at dkB02decM0_24 19 rfl
theorem dX11_addThing_58 : decode cX11_addThing 58 = .ok (.bipush 12, 2) := dk_at dkB02decM0_24 20 rfl
theorem dX11_addThing_60 : decode cX11_addThing 60 = .ok (.iload_n 1, 1) := dk_at dkB02decM0_24 21 rfl
theorem dX11_addThing_61 : decode cX11_addThing 61 = .ok (.imul, 1) := dk_at dkB02decM0_24 22 rfl
theorem dX11_addThing_62 : decode cX11_addThing 62 = .ok (.iadd, 1) := dk_at dkB02decM0_24 23 rfl
theorem dX11_addThing_63 : decode cX11_addThing 63 = .ok (.iload 5, 2) := dk_at dkB02decM0_24 24 rfl
theorem dX11_addThing_65 : decode cX11_addThing 65 = .ok (.iadd, 1) := dk_at dkB02decM0_24 25 rfl
theorem dX11_addThing_66 : decode cX11_addThing 66 = .ok (.iload 4, 2) := dk_at dkB02decM0_24 26 rfl
theorem dX11_addThing_68 : decode cX11_addThing 68 = .ok (.iastore, 1) := dk_at dkB02decM0_24 27 rfl
theorem dX11_addThing_69 : decode cX11_addThing 69 = .ok (.aload_n 0, 1) := dk_at dkB02decM0_24 28 rfl
theorem dX11_addThing_70 : decode cX11_addThing 70 = .ok (.getfield 7, 3) := dk_at dkB02decM0_24 29 rfl
theorem dX11_addThing_73 : decode cX11_addThing 73 = .ok (.iconst 5, 1) := dk_at dkB02decM0_24 30 rfl
theorem dX11_addThing_74 : decode cX11_addThing 74 = .ok (.iload_n 1, 1) := dk_at dkB02decM0_24 31 rfl
theorem dX11_addThing_75 : decode cX11_addThing 75 = .ok (.iadd, 1) := dk_at dkB02decM0_24 32 rfl
theorem dX11_addThing_76 : decode cX11_addThing 76 = .ok (.dup2, 1) := dk_at dkB02decM0_24 33 rfl
theorem dX11_addThing_77 : decode cX11_addThing 77 = .ok (.iaload, 1) := dk_at dkB02decM0_24 34 rfl
theorem dX11_addThing_78 : decode cX11_addThing 78 = .ok (.iconst 1, 1) := dk_at dkB02decM0_24 35 rfl
theorem dX11_addThing_79 : decode cX11_addThing 79 = .ok (.iadd, 1) := dk_at dkB02decM0_24 36 rfl
theorem dX11_addThing_80 : decode cX11_addThing 80 = .ok (.iastore, 1) := dk_at dkB02decM0_24 37 rfl
theorem dX11_addThing_81 : decode cX11_addThing 81 = .ok (.return_, 1) := dk_at dkB02decM0_24 38 rfl
theorem dX11_make_0 : decode cX11_make 0 = .ok (.iload_n 1, 1) := dk_at dkB02decM0_24 39 rfl
theorem dX11_make_1 : decode cX11_make 1 = .ok (.invokestatic 160, 3) := dk_at dkB02decM0_24 40 rfl
theorem dX11_make_4 : decode cX11_make 4 = .ok (.ifCond .ne 5, 3) := dk_at dkB02decM0_24 41 rfl
theorem dX11_make_7 : decode cX11_make 7 = .ok (.iconst (-1), 1) := dk_at dkB02decM0_24 42 rfl
theorem dX11_make_8 : decode cX11_make 8 = .ok (.ireturn, 1) := dk_at dkB02decM0_24 43 rfl
theorem dX11_make_9 : decode cX11_make 9 = .ok (.aload_n 0, 1) := dk_at dkB02decM0_24 44 rfl
theorem dX11_make_10 : decode cX11_make 10 = .ok (.getfield 7, 3) := dk_at dkB02decM0_24 45 rfl
theorem dX11_make_13 : decode cX11_make 13 = .ok (.iconst 2, 1) := dk_at dkB02decM0_24 46 rfl
theorem dX11_make_14 : decode cX11_make 14 = .ok (.iaload, 1) := dk_at dkB02decM0_24 47 rfl
theorem dX11_make_15 : decode cX11_make 15 = .ok (.ifCond .ne 6, 3) := dk_at dkB02decM0_24 48 rfl
theorem dX11_make_18 : decode cX11_make 18 = .ok (.bipush (-2), 2) := dk_at dkB02decM0_24 49 rfl
theorem dX11_make_20 : decode cX11_make 20 = .ok (.ireturn, 1) := dk_at dkB02decM0_24 50 rfl
theorem dX11_make_21 : decode cX11_make 21 = .ok (.aload_n 0, 1) := dk_at dkB02decM0_24 51 rfl
theorem dX11_make_22 : decode cX11_make 22 = .ok (.iload_n 1, 1) := dk_at dkB02decM0_24 52 rfl
theorem dX11_make_23 : decode cX11_make 23 = .ok (.iconst 0, 1) := dk_at dkB02decM0_24 53 rfl
theorem dX11_make_24 : decode cX11_make 24 = .ok (.invokevirtual 163, 3) := dk_at dkB02decM0_24 54 rfl
theorem dX11_make_27 : decode cX11_make 27 = .ok (.aload_n 0, 1) := dk_at dkB02decM0_24 55 rfl
theorem dX11_make_28 : decode cX11_make 28 = .ok (.iload_n 1, 1) := dk_at dkB02decM0_24 56 rfl
theorem dX11_make_29 : decode cX11_make 29 = .ok (.iconst 0, 1) := dk_at dkB02decM0_24 57 rfl
theorem dX11_make_30 : decode cX11_make 30 = .ok (.invokevirtual 167, 3) := dk_at dkB02decM0_24 58 rfl
theorem dX11_make_33 : decode cX11_make 33 = .ok (.aload_n 0, 1) := dk_at dkB02decM0_24 59 rfl
noncomputable def dkL02decM0_25 : List (ByteArray × Nat × Instr × Nat) := [(cX11_make, 34, (.getfield 7, 3)), (cX11_make, 37, (.iconst 5, 1)), (cX11_make, 38, (.iload_n 1, 1)), (cX11_make, 39, (.iadd, 1)), (cX11_make, 40, (.iconst 0, 1)), (cX11_make, 41, (.iastore, 1)), (cX11_make, 42, (.bipush (-4), 2)), (cX11_make, 44, (.istore_n 2, 1)), (cX11_make, 45, (.iconst 0, 1)), (cX11_make, 46, (.istore_n 3, 1)), (cX11_make, 47, (.iload_n 3, 1)), (cX11_make, 48, (.bipush 24, 2)), (cX11_make, 50, (.if_icmp .ge 106, 3)), (cX11_make, 53, (.aload_n 0, 1)), (cX11_make, 54, (.iload_n 3, 1)), (cX11_make, 55, (.invokevirtual 100, 3)), (cX11_make, 58, (.istore 4, 2)), (cX11_make, 60, (.iload 4, 2)), (cX11_make, 62, (.ifCond .le 29, 3)), (cX11_make, 65, (.iload_n 2, 1)), (cX11_make, 66, (.ifCond .lt 25, 3)), (cX11_make, 69, (.iload_n 3, 1)), (cX11_make, 70, (.iload_n 2, 1)), (cX11_make, 71, (.isub, 1)), (cX11_make, 72, (.iconst 1, 1)), (cX11_make, 73, (.isub, 1)), (cX11_make, 74, (.aload_n 0, 1)), (cX11_make, 75, (.getfield 7, 3)), (cX11_make, 78, (.iconst 1, 1)), (cX11_make, 79, (.iaload, 1)), (cX11_make, 80, (.if_icmp .lt 11, 3)), (cX11_make, 83, (.aload_n 0, 1)), (cX11_make, 84, (.iload_n 1, 1)), (cX11_make, 85, (.iconst 2, 1)), (cX11_make, 86, (.iconst 0, 1)), (cX11_make, 87, (.iconst 0, 1)), (cX11_make, 88, (.invokevirtual 170, 3)), (cX11_make, 91, (.iconst 0, 1)), (cX11_make, 92, (.istore 5, 2)), (cX11_make, 94, (.iload 5, 2)), (cX11_make, 96, (.iload 4, 2)), (cX11_make, 98, (.if_icmp .ge 41, 3)), (cX11_make, 101, (.aload_n 0, 1)), (cX11_make, 102, (.iload_n 1, 1)), (cX11_make, 103, (.iconst 0, 1)), (cX11_make, 104, (.aload_n 0, 1)), (cX11_make, 105, (.iload_n 3, 1)), (cX11_make, 106, (.aload_n 0, 1)), (cX11_make, 107, (.getfield 7, 3)), (cX11_make, 110, (.iconst 0, 1)), (cX11_make, 111, (.iaload, 1)), (cX11_make, 112, (.invokevirtual 94, 3)), (cX11_make, 115, (.aload_n 0, 1)), (cX11_make, 116, (.getfield 7, 3)), (cX11_make, 119, (.bipush 20, 2)), (cX11_make, 121, (.iconst 3, 1)), (cX11_make, 122, (.iload_n 3, 1)), (cX11_make, 123, (.imul, 1)), (cX11_make, 124, (.iadd, 1)), (cX11_make, 125, (.iconst 2, 1))]
theorem dkB02decM0_25 : dkL02decM0_25.all (fun q => decide (decode q.1 q.2.1 = .ok q.2.2)) = true := by decide +kernel
theorem dX11_make_34 : decode cX11_make 34 = .ok (.getfield 7, 3) := dk_at dkB02decM0_25 0 rfl
theorem dX11_make_37 : decode cX11_make 37 = .ok (.iconst 5, 1) := dk_at dkB02decM0_25 1 rfl
theorem dX11_make_38 : decode cX11_make 38 = .ok (.iload_n 1, 1) := dk_at dkB02decM0_25 2 rfl
theorem dX11_make_39 : decode cX11_make 39 = .ok (.iadd, 1) := dk_at dkB02decM0_25 3 rfl
theorem dX11_make_40 : decode cX11_make 40 = .ok (.iconst 0, 1) := dk_at dkB02decM0_25 4 rfl
theorem dX11_make_41 : decode cX11_make 41 = .ok (.iastore, 1) := dk_at dkB02decM0_25 5 rfl
theorem dX11_make_42 : decode cX11_make 42 = .ok (.bipush (-4), 2) := dk_at dkB02decM0_25 6 rfl
theorem dX11_make_44 : decode cX11_make 44 = .ok (.istore_n 2, 1) := dk_at dkB02decM0_25 7 rfl
theorem dX11_make_45 : decode cX11_make 45 = .ok (.iconst 0, 1) := dk_at dkB02decM0_25 8 rfl
theorem dX11_make_46 : decode cX11_make 46 = .ok (.istore_n 3, 1) := dk_at dkB02decM0_25 9 rfl
theorem dX11_make_47 : decode cX11_make 47 = .ok (.iload_n 3, 1) := dk_at dkB02decM0_25 10 rfl
theorem dX11_make_48 : decode cX11_make 48 = .ok (.bipush 24, 2) := dk_at dkB02decM0_25 11 rfl
theorem dX11_make_50 : decode cX11_make 50 = .ok (.if_icmp .ge 106, 3) := dk_at dkB02decM0_25 12 rfl
theorem dX11_make_53 : decode cX11_make 53 = .ok (.aload_n 0, 1) := dk_at dkB02decM0_25 13 rfl
theorem dX11_make_54 : decode cX11_make 54 = .ok (.iload_n 3, 1) := dk_at dkB02decM0_25 14 rfl
theorem dX11_make_55 : decode cX11_make 55 = .ok (.invokevirtual 100, 3) := dk_at dkB02decM0_25 15 rfl
theorem dX11_make_58 : decode cX11_make 58 = .ok (.istore 4, 2) := dk_at dkB02decM0_25 16 rfl
theorem dX11_make_60 : decode cX11_make 60 = .ok (.iload 4, 2) := dk_at dkB02decM0_25 17 rfl
theorem dX11_make_62 : decode cX11_make 62 = .ok (.ifCond .le 29, 3) := dk_at dkB02decM0_25 18 rfl
theorem dX11_make_65 : decode cX11_make 65 = .ok (.iload_n 2, 1) := dk_at dkB02decM0_25 19 rfl
theorem dX11_make_66 : decode cX11_make 66 = .ok (.ifCond .lt 25, 3) := dk_at dkB02decM0_25 20 rfl
theorem dX11_make_69 : decode cX11_make 69 = .ok (.iload_n 3, 1) := dk_at dkB02decM0_25 21 rfl
theorem dX11_make_70 : decode cX11_make 70 = .ok (.iload_n 2, 1) := dk_at dkB02decM0_25 22 rfl
theorem dX11_make_71 : decode cX11_make 71 = .ok (.isub, 1) := dk_at dkB02decM0_25 23 rfl
theorem dX11_make_72 : decode cX11_make 72 = .ok (.iconst 1, 1) := dk_at dkB02decM0_25 24 rfl
theorem dX11_make_73 : decode cX11_make 73 = .ok (.isub, 1) := dk_at dkB02decM0_25 25 rfl
theorem dX11_make_74 : decode cX11_make 74 = .ok (.aload_n 0, 1) := dk_at dkB02decM0_25 26 rfl
theorem dX11_make_75 : decode cX11_make 75 = .ok (.getfield 7, 3) := dk_at dkB02decM0_25 27 rfl
theorem dX11_make_78 : decode cX11_make 78 = .ok (.iconst 1, 1) := dk_at dkB02decM0_25 28 rfl
theorem dX11_make_79 : decode cX11_make 79 = .ok (.iaload, 1) := dk_at dkB02decM0_25 29 rfl
theorem dX11_make_80 : decode cX11_make 80 = .ok (.if_icmp .lt 11, 3) := dk_at dkB02decM0_25 30 rfl
theorem dX11_make_83 : decode cX11_make 83 = .ok (.aload_n 0, 1) := dk_at dkB02decM0_25 31 rfl
theorem dX11_make_84 : decode cX11_make 84 = .ok (.iload_n 1, 1) := dk_at dkB02decM0_25 32 rfl
theorem dX11_make_85 : decode cX11_make 85 = .ok (.iconst 2, 1) := dk_at dkB02decM0_25 33 rfl
theorem dX11_make_86 : decode cX11_make 86 = .ok (.iconst 0, 1) := dk_at dkB02decM0_25 34 rfl
theorem dX11_make_87 : decode cX11_make 87 = .ok (.iconst 0, 1) := dk_at dkB02decM0_25 35 rfl
theorem dX11_make_88 : decode cX11_make 88 = .ok (.invokevirtual 170, 3) := dk_at dkB02decM0_25 36 rfl
theorem dX11_make_91 : decode cX11_make 91 = .ok (.iconst 0, 1) := dk_at dkB02decM0_25 37 rfl
theorem dX11_make_92 : decode cX11_make 92 = .ok (.istore 5, 2) := dk_at dkB02decM0_25 38 rfl
theorem dX11_make_94 : decode cX11_make 94 = .ok (.iload 5, 2) := dk_at dkB02decM0_25 39 rfl
theorem dX11_make_96 : decode cX11_make 96 = .ok (.iload 4, 2) := dk_at dkB02decM0_25 40 rfl
theorem dX11_make_98 : decode cX11_make 98 = .ok (.if_icmp .ge 41, 3) := dk_at dkB02decM0_25 41 rfl
theorem dX11_make_101 : decode cX11_make 101 = .ok (.aload_n 0, 1) := dk_at dkB02decM0_25 42 rfl
theorem dX11_make_102 : decode cX11_make 102 = .ok (.iload_n 1, 1) := dk_at dkB02decM0_25 43 rfl
theorem dX11_make_103 : decode cX11_make 103 = .ok (.iconst 0, 1) := dk_at dkB02decM0_25 44 rfl
theorem dX11_make_104 : decode cX11_make 104 = .ok (.aload_n 0, 1) := dk_at dkB02decM0_25 45 rfl
theorem dX11_make_105 : decode cX11_make 105 = .ok (.iload_n 3, 1) := dk_at dkB02decM0_25 46 rfl
theorem dX11_make_106 : decode cX11_make 106 = .ok (.aload_n 0, 1) := dk_at dkB02decM0_25 47 rfl
theorem dX11_make_107 : decode cX11_make 107 = .ok (.getfield 7, 3) := dk_at dkB02decM0_25 48 rfl
theorem dX11_make_110 : decode cX11_make 110 = .ok (.iconst 0, 1) := dk_at dkB02decM0_25 49 rfl
theorem dX11_make_111 : decode cX11_make 111 = .ok (.iaload, 1) := dk_at dkB02decM0_25 50 rfl
theorem dX11_make_112 : decode cX11_make 112 = .ok (.invokevirtual 94, 3) := dk_at dkB02decM0_25 51 rfl
theorem dX11_make_115 : decode cX11_make 115 = .ok (.aload_n 0, 1) := dk_at dkB02decM0_25 52 rfl
theorem dX11_make_116 : decode cX11_make 116 = .ok (.getfield 7, 3) := dk_at dkB02decM0_25 53 rfl
theorem dX11_make_119 : decode cX11_make 119 = .ok (.bipush 20, 2) := dk_at dkB02decM0_25 54 rfl
theorem dX11_make_121 : decode cX11_make 121 = .ok (.iconst 3, 1) := dk_at dkB02decM0_25 55 rfl
theorem dX11_make_122 : decode cX11_make 122 = .ok (.iload_n 3, 1) := dk_at dkB02decM0_25 56 rfl
theorem dX11_make_123 : decode cX11_make 123 = .ok (.imul, 1) := dk_at dkB02decM0_25 57 rfl
theorem dX11_make_124 : decode cX11_make 124 = .ok (.iadd, 1) := dk_at dkB02decM0_25 58 rfl
theorem dX11_make_125 : decode cX11_make 125 = .ok (.iconst 2, 1) := dk_at dkB02decM0_25 59 rfl
noncomputable def dkL02decM0_26 : List (ByteArray × Nat × Instr × Nat) := [(cX11_make, 126, (.iadd, 1)), (cX11_make, 127, (.iaload, 1)), (cX11_make, 128, (.isub, 1)), (cX11_make, 129, (.iload_n 3, 1)), (cX11_make, 130, (.invokevirtual 170, 3)), (cX11_make, 133, (.iinc 5 1, 3)), (cX11_make, 136, (.goto (-42), 3)), (cX11_make, 139, (.iload 4, 2)), (cX11_make, 141, (.ifCond .le 7, 3)), (cX11_make, 144, (.iload_n 3, 1)), (cX11_make, 145, (.goto 4, 3)), (cX11_make, 148, (.iload_n 2, 1)), (cX11_make, 149, (.istore_n 2, 1)), (cX11_make, 150, (.iinc 3 1, 3)), (cX11_make, 153, (.goto (-106), 3)), (cX11_make, 156, (.aload_n 0, 1)), (cX11_make, 157, (.getfield 7, 3)), (cX11_make, 160, (.bipush 7, 2)), (cX11_make, 162, (.iload_n 1, 1)), (cX11_make, 163, (.iadd, 1)), (cX11_make, 164, (.iconst 1, 1)), (cX11_make, 165, (.iastore, 1)), (cX11_make, 166, (.aload_n 0, 1)), (cX11_make, 167, (.getfield 7, 3)), (cX11_make, 170, (.iconst 5, 1)), (cX11_make, 171, (.iload_n 1, 1)), (cX11_make, 172, (.iadd, 1)), (cX11_make, 173, (.iaload, 1)), (cX11_make, 174, (.ireturn, 1)), (cX11_truth, 0, (.iload_n 1, 1)), (cX11_truth, 1, (.invokestatic 160, 3)), (cX11_truth, 4, (.ifCond .eq 12, 3)), (cX11_truth, 7, (.aload_n 0, 1)), (cX11_truth, 8, (.iload_n 1, 1)), (cX11_truth, 9, (.iload_n 2, 1)), (cX11_truth, 10, (.invokevirtual 174, 3)), (cX11_truth, 13, (.ifCond .ne 5, 3)), (cX11_truth, 16, (.iconst (-1), 1)), (cX11_truth, 17, (.ireturn, 1)), (cX11_truth, 18, (.aload_n 0, 1)), (cX11_truth, 19, (.getfield 7, 3)), (cX11_truth, 22, (.bipush 7, 2)), (cX11_truth, 24, (.iload_n 1, 1)), (cX11_truth, 25, (.iadd, 1)), (cX11_truth, 26, (.iaload, 1)), (cX11_truth, 27, (.ifCond .ne 8, 3)), (cX11_truth, 30, (.bipush (-2), 2)), (cX11_truth, 32, (.goto 33, 3)), (cX11_truth, 35, (.aload_n 0, 1)), (cX11_truth, 36, (.iload_n 1, 1)), (cX11_truth, 37, (.iload_n 2, 1)), (cX11_truth, 38, (.invokevirtual 177, 3)), (cX11_truth, 41, (.iconst 2, 1)), (cX11_truth, 42, (.if_icmp .ne 8, 3)), (cX11_truth, 45, (.bipush (-12), 2)), (cX11_truth, 47, (.goto 18, 3)), (cX11_truth, 50, (.aload_n 0, 1)), (cX11_truth, 51, (.getfield 7, 3)), (cX11_truth, 54, (.sipush 206, 3)), (cX11_truth, 57, (.bipush 12, 2))]
theorem dkB02decM0_26 : dkL02decM0_26.all (fun q => decide (decode q.1 q.2.1 = .ok q.2.2)) = true := by decide +kernel
theorem dX11_make_126 : decode cX11_make 126 = .ok (.iadd, 1) := dk_at dkB02decM0_26 0 rfl
theorem dX11_make_127 : decode cX11_make 127 = .ok (.iaload, 1) := dk_at dkB02decM0_26 1 rfl
theorem dX11_make_128 : decode cX11_make 128 = .ok (.isub, 1) := dk_at dkB02decM0_26 2 rfl
theorem dX11_make_129 : decode cX11_make 129 = .ok (.iload_n 3, 1) := dk_at dkB02decM0_26 3 rfl
theorem dX11_make_130 : decode cX11_make 130 = .ok (.invokevirtual 170, 3) := dk_at dkB02decM0_26 4 rfl
theorem dX11_make_133 : decode cX11_make 133 = .ok (.iinc 5 1, 3) := dk_at dkB02decM0_26 5 rfl
theorem dX11_make_136 : decode cX11_make 136 = .ok (.goto (-42), 3) := dk_at dkB02decM0_26 6 rfl
theorem dX11_make_139 : decode cX11_make 139 = .ok (.iload 4, 2) := dk_at dkB02decM0_26 7 rfl
theorem dX11_make_141 : decode cX11_make 141 = .ok (.ifCond .le 7, 3) := dk_at dkB02decM0_26 8 rfl
theorem dX11_make_144 : decode cX11_make 144 = .ok (.iload_n 3, 1) := dk_at dkB02decM0_26 9 rfl
theorem dX11_make_145 : decode cX11_make 145 = .ok (.goto 4, 3) := dk_at dkB02decM0_26 10 rfl
theorem dX11_make_148 : decode cX11_make 148 = .ok (.iload_n 2, 1) := dk_at dkB02decM0_26 11 rfl
theorem dX11_make_149 : decode cX11_make 149 = .ok (.istore_n 2, 1) := dk_at dkB02decM0_26 12 rfl
theorem dX11_make_150 : decode cX11_make 150 = .ok (.iinc 3 1, 3) := dk_at dkB02decM0_26 13 rfl
theorem dX11_make_153 : decode cX11_make 153 = .ok (.goto (-106), 3) := dk_at dkB02decM0_26 14 rfl
theorem dX11_make_156 : decode cX11_make 156 = .ok (.aload_n 0, 1) := dk_at dkB02decM0_26 15 rfl
theorem dX11_make_157 : decode cX11_make 157 = .ok (.getfield 7, 3) := dk_at dkB02decM0_26 16 rfl
theorem dX11_make_160 : decode cX11_make 160 = .ok (.bipush 7, 2) := dk_at dkB02decM0_26 17 rfl
theorem dX11_make_162 : decode cX11_make 162 = .ok (.iload_n 1, 1) := dk_at dkB02decM0_26 18 rfl
theorem dX11_make_163 : decode cX11_make 163 = .ok (.iadd, 1) := dk_at dkB02decM0_26 19 rfl
theorem dX11_make_164 : decode cX11_make 164 = .ok (.iconst 1, 1) := dk_at dkB02decM0_26 20 rfl
theorem dX11_make_165 : decode cX11_make 165 = .ok (.iastore, 1) := dk_at dkB02decM0_26 21 rfl
theorem dX11_make_166 : decode cX11_make 166 = .ok (.aload_n 0, 1) := dk_at dkB02decM0_26 22 rfl
theorem dX11_make_167 : decode cX11_make 167 = .ok (.getfield 7, 3) := dk_at dkB02decM0_26 23 rfl
theorem dX11_make_170 : decode cX11_make 170 = .ok (.iconst 5, 1) := dk_at dkB02decM0_26 24 rfl
theorem dX11_make_171 : decode cX11_make 171 = .ok (.iload_n 1, 1) := dk_at dkB02decM0_26 25 rfl
theorem dX11_make_172 : decode cX11_make 172 = .ok (.iadd, 1) := dk_at dkB02decM0_26 26 rfl
theorem dX11_make_173 : decode cX11_make 173 = .ok (.iaload, 1) := dk_at dkB02decM0_26 27 rfl
theorem dX11_make_174 : decode cX11_make 174 = .ok (.ireturn, 1) := dk_at dkB02decM0_26 28 rfl
theorem dX11_truth_0 : decode cX11_truth 0 = .ok (.iload_n 1, 1) := dk_at dkB02decM0_26 29 rfl
theorem dX11_truth_1 : decode cX11_truth 1 = .ok (.invokestatic 160, 3) := dk_at dkB02decM0_26 30 rfl
theorem dX11_truth_4 : decode cX11_truth 4 = .ok (.ifCond .eq 12, 3) := dk_at dkB02decM0_26 31 rfl
theorem dX11_truth_7 : decode cX11_truth 7 = .ok (.aload_n 0, 1) := dk_at dkB02decM0_26 32 rfl
theorem dX11_truth_8 : decode cX11_truth 8 = .ok (.iload_n 1, 1) := dk_at dkB02decM0_26 33 rfl
theorem dX11_truth_9 : decode cX11_truth 9 = .ok (.iload_n 2, 1) := dk_at dkB02decM0_26 34 rfl
theorem dX11_truth_10 : decode cX11_truth 10 = .ok (.invokevirtual 174, 3) := dk_at dkB02decM0_26 35 rfl
theorem dX11_truth_13 : decode cX11_truth 13 = .ok (.ifCond .ne 5, 3) := dk_at dkB02decM0_26 36 rfl
theorem dX11_truth_16 : decode cX11_truth 16 = .ok (.iconst (-1), 1) := dk_at dkB02decM0_26 37 rfl
theorem dX11_truth_17 : decode cX11_truth 17 = .ok (.ireturn, 1) := dk_at dkB02decM0_26 38 rfl
theorem dX11_truth_18 : decode cX11_truth 18 = .ok (.aload_n 0, 1) := dk_at dkB02decM0_26 39 rfl
theorem dX11_truth_19 : decode cX11_truth 19 = .ok (.getfield 7, 3) := dk_at dkB02decM0_26 40 rfl
theorem dX11_truth_22 : decode cX11_truth 22 = .ok (.bipush 7, 2) := dk_at dkB02decM0_26 41 rfl
theorem dX11_truth_24 : decode cX11_truth 24 = .ok (.iload_n 1, 1) := dk_at dkB02decM0_26 42 rfl
theorem dX11_truth_25 : decode cX11_truth 25 = .ok (.iadd, 1) := dk_at dkB02decM0_26 43 rfl
theorem dX11_truth_26 : decode cX11_truth 26 = .ok (.iaload, 1) := dk_at dkB02decM0_26 44 rfl
theorem dX11_truth_27 : decode cX11_truth 27 = .ok (.ifCond .ne 8, 3) := dk_at dkB02decM0_26 45 rfl
theorem dX11_truth_30 : decode cX11_truth 30 = .ok (.bipush (-2), 2) := dk_at dkB02decM0_26 46 rfl
theorem dX11_truth_32 : decode cX11_truth 32 = .ok (.goto 33, 3) := dk_at dkB02decM0_26 47 rfl
theorem dX11_truth_35 : decode cX11_truth 35 = .ok (.aload_n 0, 1) := dk_at dkB02decM0_26 48 rfl
theorem dX11_truth_36 : decode cX11_truth 36 = .ok (.iload_n 1, 1) := dk_at dkB02decM0_26 49 rfl
theorem dX11_truth_37 : decode cX11_truth 37 = .ok (.iload_n 2, 1) := dk_at dkB02decM0_26 50 rfl
theorem dX11_truth_38 : decode cX11_truth 38 = .ok (.invokevirtual 177, 3) := dk_at dkB02decM0_26 51 rfl
theorem dX11_truth_41 : decode cX11_truth 41 = .ok (.iconst 2, 1) := dk_at dkB02decM0_26 52 rfl
theorem dX11_truth_42 : decode cX11_truth 42 = .ok (.if_icmp .ne 8, 3) := dk_at dkB02decM0_26 53 rfl
theorem dX11_truth_45 : decode cX11_truth 45 = .ok (.bipush (-12), 2) := dk_at dkB02decM0_26 54 rfl
theorem dX11_truth_47 : decode cX11_truth 47 = .ok (.goto 18, 3) := dk_at dkB02decM0_26 55 rfl
theorem dX11_truth_50 : decode cX11_truth 50 = .ok (.aload_n 0, 1) := dk_at dkB02decM0_26 56 rfl
theorem dX11_truth_51 : decode cX11_truth 51 = .ok (.getfield 7, 3) := dk_at dkB02decM0_26 57 rfl
theorem dX11_truth_54 : decode cX11_truth 54 = .ok (.sipush 206, 3) := dk_at dkB02decM0_26 58 rfl
theorem dX11_truth_57 : decode cX11_truth 57 = .ok (.bipush 12, 2) := dk_at dkB02decM0_26 59 rfl
noncomputable def dkL02decM0_27 : List (ByteArray × Nat × Instr × Nat) := [(cX11_truth, 59, (.iload_n 1, 1)), (cX11_truth, 60, (.imul, 1)), (cX11_truth, 61, (.iadd, 1)), (cX11_truth, 62, (.iload_n 2, 1)), (cX11_truth, 63, (.iadd, 1)), (cX11_truth, 64, (.iaload, 1)), (cX11_truth, 65, (.ireturn, 1)), (cX11_put, 0, (.iload_n 1, 1)), (cX11_put, 1, (.invokestatic 160, 3)), (cX11_put, 4, (.ifCond .eq 37, 3)), (cX11_put, 7, (.iload_n 2, 1)), (cX11_put, 8, (.i2l, 1)), (cX11_put, 9, (.lconst 0, 1)), (cX11_put, 10, (.ldc2_w 180, 3)), (cX11_put, 13, (.invokestatic 70, 3)), (cX11_put, 16, (.ifCond .eq 25, 3)), (cX11_put, 19, (.iload_n 3, 1)), (cX11_put, 20, (.i2l, 1)), (cX11_put, 21, (.ldc2_w 182, 3)), (cX11_put, 24, (.ldc2_w 184, 3)), (cX11_put, 27, (.invokestatic 70, 3)), (cX11_put, 30, (.ifCond .eq 11, 3)), (cX11_put, 33, (.iload_n 2, 1)), (cX11_put, 34, (.ifCond .eq 9, 3)), (cX11_put, 37, (.iload_n 3, 1)), (cX11_put, 38, (.ifCond .eq 5, 3)), (cX11_put, 41, (.iconst (-1), 1)), (cX11_put, 42, (.ireturn, 1)), (cX11_put, 43, (.aload_n 0, 1)), (cX11_put, 44, (.getfield 7, 3)), (cX11_put, 47, (.iconst 5, 1)), (cX11_put, 48, (.iload_n 1, 1)), (cX11_put, 49, (.iadd, 1)), (cX11_put, 50, (.iaload, 1)), (cX11_put, 51, (.bipush 12, 2)), (cX11_put, 53, (.if_icmp .ne 6, 3)), (cX11_put, 56, (.bipush (-3), 2)), (cX11_put, 58, (.ireturn, 1)), (cX11_put, 59, (.aload_n 0, 1)), (cX11_put, 60, (.iload_n 1, 1)), (cX11_put, 61, (.iload_n 2, 1)), (cX11_put, 62, (.iload_n 3, 1)), (cX11_put, 63, (.iconst 0, 1)), (cX11_put, 64, (.invokevirtual 170, 3)), (cX11_put, 67, (.aload_n 0, 1)), (cX11_put, 68, (.getfield 7, 3)), (cX11_put, 71, (.bipush 7, 2)), (cX11_put, 73, (.iload_n 1, 1)), (cX11_put, 74, (.iadd, 1)), (cX11_put, 75, (.iconst 0, 1)), (cX11_put, 76, (.iastore, 1)), (cX11_put, 77, (.aload_n 0, 1)), (cX11_put, 78, (.getfield 7, 3)), (cX11_put, 81, (.iconst 5, 1)), (cX11_put, 82, (.iload_n 1, 1)), (cX11_put, 83, (.iadd, 1)), (cX11_put, 84, (.iaload, 1)), (cX11_put, 85, (.iconst 1, 1)), (cX11_put, 86, (.isub, 1)), (cX11_put, 87, (.ireturn, 1))]
theorem dkB02decM0_27 : dkL02decM0_27.all (fun q => decide (decode q.1 q.2.1 = .ok q.2.2)) = true := by decide +kernel
theorem dX11_truth_59 : decode cX11_truth 59 = .ok (.iload_n 1, 1) := dk_at dkB02decM0_27 0 rfl
theorem dX11_truth_60 : decode cX11_truth 60 = .ok (.imul, 1) := dk_at dkB02decM0_27 1 rfl
theorem dX11_truth_61 : decode cX11_truth 61 = .ok (.iadd, 1) := dk_at dkB02decM0_27 2 rfl
theorem dX11_truth_62 : decode cX11_truth 62 = .ok (.iload_n 2, 1) := dk_at dkB02decM0_27 3 rfl
theorem dX11_truth_63 : decode cX11_truth 63 = .ok (.iadd, 1) := dk_at dkB02decM0_27 4 rfl
theorem dX11_truth_64 : decode cX11_truth 64 = .ok (.iaload, 1) := dk_at dkB02decM0_27 5 rfl
theorem dX11_truth_65 : decode cX11_truth 65 = .ok (.ireturn, 1) := dk_at dkB02decM0_27 6 rfl
theorem dX11_put_0 : decode cX11_put 0 = .ok (.iload_n 1, 1) := dk_at dkB02decM0_27 7 rfl
theorem dX11_put_1 : decode cX11_put 1 = .ok (.invokestatic 160, 3) := dk_at dkB02decM0_27 8 rfl
theorem dX11_put_4 : decode cX11_put 4 = .ok (.ifCond .eq 37, 3) := dk_at dkB02decM0_27 9 rfl
theorem dX11_put_7 : decode cX11_put 7 = .ok (.iload_n 2, 1) := dk_at dkB02decM0_27 10 rfl
theorem dX11_put_8 : decode cX11_put 8 = .ok (.i2l, 1) := dk_at dkB02decM0_27 11 rfl
theorem dX11_put_9 : decode cX11_put 9 = .ok (.lconst 0, 1) := dk_at dkB02decM0_27 12 rfl
theorem dX11_put_10 : decode cX11_put 10 = .ok (.ldc2_w 180, 3) := dk_at dkB02decM0_27 13 rfl
theorem dX11_put_13 : decode cX11_put 13 = .ok (.invokestatic 70, 3) := dk_at dkB02decM0_27 14 rfl
theorem dX11_put_16 : decode cX11_put 16 = .ok (.ifCond .eq 25, 3) := dk_at dkB02decM0_27 15 rfl
theorem dX11_put_19 : decode cX11_put 19 = .ok (.iload_n 3, 1) := dk_at dkB02decM0_27 16 rfl
theorem dX11_put_20 : decode cX11_put 20 = .ok (.i2l, 1) := dk_at dkB02decM0_27 17 rfl
theorem dX11_put_21 : decode cX11_put 21 = .ok (.ldc2_w 182, 3) := dk_at dkB02decM0_27 18 rfl
theorem dX11_put_24 : decode cX11_put 24 = .ok (.ldc2_w 184, 3) := dk_at dkB02decM0_27 19 rfl
theorem dX11_put_27 : decode cX11_put 27 = .ok (.invokestatic 70, 3) := dk_at dkB02decM0_27 20 rfl
theorem dX11_put_30 : decode cX11_put 30 = .ok (.ifCond .eq 11, 3) := dk_at dkB02decM0_27 21 rfl
theorem dX11_put_33 : decode cX11_put 33 = .ok (.iload_n 2, 1) := dk_at dkB02decM0_27 22 rfl
theorem dX11_put_34 : decode cX11_put 34 = .ok (.ifCond .eq 9, 3) := dk_at dkB02decM0_27 23 rfl
theorem dX11_put_37 : decode cX11_put 37 = .ok (.iload_n 3, 1) := dk_at dkB02decM0_27 24 rfl
theorem dX11_put_38 : decode cX11_put 38 = .ok (.ifCond .eq 5, 3) := dk_at dkB02decM0_27 25 rfl
theorem dX11_put_41 : decode cX11_put 41 = .ok (.iconst (-1), 1) := dk_at dkB02decM0_27 26 rfl
theorem dX11_put_42 : decode cX11_put 42 = .ok (.ireturn, 1) := dk_at dkB02decM0_27 27 rfl
theorem dX11_put_43 : decode cX11_put 43 = .ok (.aload_n 0, 1) := dk_at dkB02decM0_27 28 rfl
theorem dX11_put_44 : decode cX11_put 44 = .ok (.getfield 7, 3) := dk_at dkB02decM0_27 29 rfl
theorem dX11_put_47 : decode cX11_put 47 = .ok (.iconst 5, 1) := dk_at dkB02decM0_27 30 rfl
theorem dX11_put_48 : decode cX11_put 48 = .ok (.iload_n 1, 1) := dk_at dkB02decM0_27 31 rfl
theorem dX11_put_49 : decode cX11_put 49 = .ok (.iadd, 1) := dk_at dkB02decM0_27 32 rfl
theorem dX11_put_50 : decode cX11_put 50 = .ok (.iaload, 1) := dk_at dkB02decM0_27 33 rfl
theorem dX11_put_51 : decode cX11_put 51 = .ok (.bipush 12, 2) := dk_at dkB02decM0_27 34 rfl
theorem dX11_put_53 : decode cX11_put 53 = .ok (.if_icmp .ne 6, 3) := dk_at dkB02decM0_27 35 rfl
theorem dX11_put_56 : decode cX11_put 56 = .ok (.bipush (-3), 2) := dk_at dkB02decM0_27 36 rfl
theorem dX11_put_58 : decode cX11_put 58 = .ok (.ireturn, 1) := dk_at dkB02decM0_27 37 rfl
theorem dX11_put_59 : decode cX11_put 59 = .ok (.aload_n 0, 1) := dk_at dkB02decM0_27 38 rfl
theorem dX11_put_60 : decode cX11_put 60 = .ok (.iload_n 1, 1) := dk_at dkB02decM0_27 39 rfl
theorem dX11_put_61 : decode cX11_put 61 = .ok (.iload_n 2, 1) := dk_at dkB02decM0_27 40 rfl
theorem dX11_put_62 : decode cX11_put 62 = .ok (.iload_n 3, 1) := dk_at dkB02decM0_27 41 rfl
theorem dX11_put_63 : decode cX11_put 63 = .ok (.iconst 0, 1) := dk_at dkB02decM0_27 42 rfl
theorem dX11_put_64 : decode cX11_put 64 = .ok (.invokevirtual 170, 3) := dk_at dkB02decM0_27 43 rfl
theorem dX11_put_67 : decode cX11_put 67 = .ok (.aload_n 0, 1) := dk_at dkB02decM0_27 44 rfl
theorem dX11_put_68 : decode cX11_put 68 = .ok (.getfield 7, 3) := dk_at dkB02decM0_27 45 rfl
theorem dX11_put_71 : decode cX11_put 71 = .ok (.bipush 7, 2) := dk_at dkB02decM0_27 46 rfl
theorem dX11_put_73 : decode cX11_put 73 = .ok (.iload_n 1, 1) := dk_at dkB02decM0_27 47 rfl
theorem dX11_put_74 : decode cX11_put 74 = .ok (.iadd, 1) := dk_at dkB02decM0_27 48 rfl
theorem dX11_put_75 : decode cX11_put 75 = .ok (.iconst 0, 1) := dk_at dkB02decM0_27 49 rfl
theorem dX11_put_76 : decode cX11_put 76 = .ok (.iastore, 1) := dk_at dkB02decM0_27 50 rfl
theorem dX11_put_77 : decode cX11_put 77 = .ok (.aload_n 0, 1) := dk_at dkB02decM0_27 51 rfl
theorem dX11_put_78 : decode cX11_put 78 = .ok (.getfield 7, 3) := dk_at dkB02decM0_27 52 rfl
theorem dX11_put_81 : decode cX11_put 81 = .ok (.iconst 5, 1) := dk_at dkB02decM0_27 53 rfl
theorem dX11_put_82 : decode cX11_put 82 = .ok (.iload_n 1, 1) := dk_at dkB02decM0_27 54 rfl
theorem dX11_put_83 : decode cX11_put 83 = .ok (.iadd, 1) := dk_at dkB02decM0_27 55 rfl
theorem dX11_put_84 : decode cX11_put 84 = .ok (.iaload, 1) := dk_at dkB02decM0_27 56 rfl
theorem dX11_put_85 : decode cX11_put 85 = .ok (.iconst 1, 1) := dk_at dkB02decM0_27 57 rfl
theorem dX11_put_86 : decode cX11_put 86 = .ok (.isub, 1) := dk_at dkB02decM0_27 58 rfl
theorem dX11_put_87 : decode cX11_put 87 = .ok (.ireturn, 1) := dk_at dkB02decM0_27 59 rfl
noncomputable def dkL02decM0_28 : List (ByteArray × Nat × Instr × Nat) := [(cX11_cut, 0, (.iload_n 1, 1)), (cX11_cut, 1, (.invokestatic 160, 3)), (cX11_cut, 4, (.ifCond .eq 12, 3)), (cX11_cut, 7, (.aload_n 0, 1)), (cX11_cut, 8, (.iload_n 1, 1)), (cX11_cut, 9, (.iload_n 2, 1)), (cX11_cut, 10, (.invokevirtual 174, 3)), (cX11_cut, 13, (.ifCond .ne 5, 3)), (cX11_cut, 16, (.iconst (-1), 1)), (cX11_cut, 17, (.ireturn, 1)), (cX11_cut, 18, (.aload_n 0, 1)), (cX11_cut, 19, (.iload_n 1, 1)), (cX11_cut, 20, (.iload_n 2, 1)), (cX11_cut, 21, (.invokevirtual 163, 3)), (cX11_cut, 24, (.aload_n 0, 1)), (cX11_cut, 25, (.iload_n 1, 1)), (cX11_cut, 26, (.iload_n 2, 1)), (cX11_cut, 27, (.invokevirtual 167, 3)), (cX11_cut, 30, (.aload_n 0, 1)), (cX11_cut, 31, (.getfield 7, 3)), (cX11_cut, 34, (.iconst 5, 1)), (cX11_cut, 35, (.iload_n 1, 1)), (cX11_cut, 36, (.iadd, 1)), (cX11_cut, 37, (.iload_n 2, 1)), (cX11_cut, 38, (.iastore, 1)), (cX11_cut, 39, (.aload_n 0, 1)), (cX11_cut, 40, (.getfield 7, 3)), (cX11_cut, 43, (.bipush 7, 2)), (cX11_cut, 45, (.iload_n 1, 1)), (cX11_cut, 46, (.iadd, 1)), (cX11_cut, 47, (.iconst 0, 1)), (cX11_cut, 48, (.iastore, 1)), (cX11_cut, 49, (.iload_n 2, 1)), (cX11_cut, 50, (.ireturn, 1)), (cX11_thing, 0, (.iload_n 1, 1)), (cX11_thing, 1, (.invokestatic 160, 3)), (cX11_thing, 4, (.ifCond .eq 22, 3)), (cX11_thing, 7, (.aload_n 0, 1)), (cX11_thing, 8, (.iload_n 1, 1)), (cX11_thing, 9, (.iload_n 2, 1)), (cX11_thing, 10, (.invokevirtual 174, 3)), (cX11_thing, 13, (.ifCond .eq 13, 3)), (cX11_thing, 16, (.iload_n 3, 1)), (cX11_thing, 17, (.i2l, 1)), (cX11_thing, 18, (.lconst 0, 1)), (cX11_thing, 19, (.lconst 1, 1)), (cX11_thing, 20, (.invokestatic 70, 3)), (cX11_thing, 23, (.ifCond .ne 7, 3)), (cX11_thing, 26, (.sipush (-1001), 3)), (cX11_thing, 29, (.ireturn, 1)), (cX11_thing, 30, (.iload_n 3, 1)), (cX11_thing, 31, (.ifCond .ne 12, 3)), (cX11_thing, 34, (.aload_n 0, 1)), (cX11_thing, 35, (.iload_n 1, 1)), (cX11_thing, 36, (.iload_n 2, 1)), (cX11_thing, 37, (.invokevirtual 177, 3)), (cX11_thing, 40, (.goto 24, 3)), (cX11_thing, 43, (.aload_n 0, 1)), (cX11_thing, 44, (.iload_n 1, 1)), (cX11_thing, 45, (.iload_n 2, 1))]
theorem dkB02decM0_28 : dkL02decM0_28.all (fun q => decide (decode q.1 q.2.1 = .ok q.2.2)) = true := by decide +kernel
theorem dX11_cut_0 : decode cX11_cut 0 = .ok (.iload_n 1, 1) := dk_at dkB02decM0_28 0 rfl
theorem dX11_cut_1 : decode cX11_cut 1 = .ok (.invokestatic 160, 3) := dk_at dkB02decM0_28 1 rfl
theorem dX11_cut_4 : decode cX11_cut 4 = .ok (.ifCond .eq 12, 3) := dk_at dkB02decM0_28 2 rfl
theorem dX11_cut_7 : decode cX11_cut 7 = .ok (.aload_n 0, 1) := dk_at dkB02decM0_28 3 rfl
theorem dX11_cut_8 : decode cX11_cut 8 = .ok (.iload_n 1, 1) := dk_at dkB02decM0_28 4 rfl
theorem dX11_cut_9 : decode cX11_cut 9 = .ok (.iload_n 2, 1) := dk_at dkB02decM0_28 5 rfl
theorem dX11_cut_10 : decode cX11_cut 10 = .ok (.invokevirtual 174, 3) := dk_at dkB02decM0_28 6 rfl
theorem dX11_cut_13 : decode cX11_cut 13 = .ok (.ifCond .ne 5, 3) := dk_at dkB02decM0_28 7 rfl
theorem dX11_cut_16 : decode cX11_cut 16 = .ok (.iconst (-1), 1) := dk_at dkB02decM0_28 8 rfl
theorem dX11_cut_17 : decode cX11_cut 17 = .ok (.ireturn, 1) := dk_at dkB02decM0_28 9 rfl
theorem dX11_cut_18 : decode cX11_cut 18 = .ok (.aload_n 0, 1) := dk_at dkB02decM0_28 10 rfl
theorem dX11_cut_19 : decode cX11_cut 19 = .ok (.iload_n 1, 1) := dk_at dkB02decM0_28 11 rfl
theorem dX11_cut_20 : decode cX11_cut 20 = .ok (.iload_n 2, 1) := dk_at dkB02decM0_28 12 rfl
theorem dX11_cut_21 : decode cX11_cut 21 = .ok (.invokevirtual 163, 3) := dk_at dkB02decM0_28 13 rfl
theorem dX11_cut_24 : decode cX11_cut 24 = .ok (.aload_n 0, 1) := dk_at dkB02decM0_28 14 rfl
theorem dX11_cut_25 : decode cX11_cut 25 = .ok (.iload_n 1, 1) := dk_at dkB02decM0_28 15 rfl
theorem dX11_cut_26 : decode cX11_cut 26 = .ok (.iload_n 2, 1) := dk_at dkB02decM0_28 16 rfl
theorem dX11_cut_27 : decode cX11_cut 27 = .ok (.invokevirtual 167, 3) := dk_at dkB02decM0_28 17 rfl
theorem dX11_cut_30 : decode cX11_cut 30 = .ok (.aload_n 0, 1) := dk_at dkB02decM0_28 18 rfl
theorem dX11_cut_31 : decode cX11_cut 31 = .ok (.getfield 7, 3) := dk_at dkB02decM0_28 19 rfl
theorem dX11_cut_34 : decode cX11_cut 34 = .ok (.iconst 5, 1) := dk_at dkB02decM0_28 20 rfl
theorem dX11_cut_35 : decode cX11_cut 35 = .ok (.iload_n 1, 1) := dk_at dkB02decM0_28 21 rfl
theorem dX11_cut_36 : decode cX11_cut 36 = .ok (.iadd, 1) := dk_at dkB02decM0_28 22 rfl
theorem dX11_cut_37 : decode cX11_cut 37 = .ok (.iload_n 2, 1) := dk_at dkB02decM0_28 23 rfl
theorem dX11_cut_38 : decode cX11_cut 38 = .ok (.iastore, 1) := dk_at dkB02decM0_28 24 rfl
theorem dX11_cut_39 : decode cX11_cut 39 = .ok (.aload_n 0, 1) := dk_at dkB02decM0_28 25 rfl
theorem dX11_cut_40 : decode cX11_cut 40 = .ok (.getfield 7, 3) := dk_at dkB02decM0_28 26 rfl
theorem dX11_cut_43 : decode cX11_cut 43 = .ok (.bipush 7, 2) := dk_at dkB02decM0_28 27 rfl
theorem dX11_cut_45 : decode cX11_cut 45 = .ok (.iload_n 1, 1) := dk_at dkB02decM0_28 28 rfl
theorem dX11_cut_46 : decode cX11_cut 46 = .ok (.iadd, 1) := dk_at dkB02decM0_28 29 rfl
theorem dX11_cut_47 : decode cX11_cut 47 = .ok (.iconst 0, 1) := dk_at dkB02decM0_28 30 rfl
theorem dX11_cut_48 : decode cX11_cut 48 = .ok (.iastore, 1) := dk_at dkB02decM0_28 31 rfl
theorem dX11_cut_49 : decode cX11_cut 49 = .ok (.iload_n 2, 1) := dk_at dkB02decM0_28 32 rfl
theorem dX11_cut_50 : decode cX11_cut 50 = .ok (.ireturn, 1) := dk_at dkB02decM0_28 33 rfl
theorem dX11_thing_0 : decode cX11_thing 0 = .ok (.iload_n 1, 1) := dk_at dkB02decM0_28 34 rfl
theorem dX11_thing_1 : decode cX11_thing 1 = .ok (.invokestatic 160, 3) := dk_at dkB02decM0_28 35 rfl
theorem dX11_thing_4 : decode cX11_thing 4 = .ok (.ifCond .eq 22, 3) := dk_at dkB02decM0_28 36 rfl
theorem dX11_thing_7 : decode cX11_thing 7 = .ok (.aload_n 0, 1) := dk_at dkB02decM0_28 37 rfl
theorem dX11_thing_8 : decode cX11_thing 8 = .ok (.iload_n 1, 1) := dk_at dkB02decM0_28 38 rfl
theorem dX11_thing_9 : decode cX11_thing 9 = .ok (.iload_n 2, 1) := dk_at dkB02decM0_28 39 rfl
theorem dX11_thing_10 : decode cX11_thing 10 = .ok (.invokevirtual 174, 3) := dk_at dkB02decM0_28 40 rfl
theorem dX11_thing_13 : decode cX11_thing 13 = .ok (.ifCond .eq 13, 3) := dk_at dkB02decM0_28 41 rfl
theorem dX11_thing_16 : decode cX11_thing 16 = .ok (.iload_n 3, 1) := dk_at dkB02decM0_28 42 rfl
theorem dX11_thing_17 : decode cX11_thing 17 = .ok (.i2l, 1) := dk_at dkB02decM0_28 43 rfl
theorem dX11_thing_18 : decode cX11_thing 18 = .ok (.lconst 0, 1) := dk_at dkB02decM0_28 44 rfl
theorem dX11_thing_19 : decode cX11_thing 19 = .ok (.lconst 1, 1) := dk_at dkB02decM0_28 45 rfl
theorem dX11_thing_20 : decode cX11_thing 20 = .ok (.invokestatic 70, 3) := dk_at dkB02decM0_28 46 rfl
theorem dX11_thing_23 : decode cX11_thing 23 = .ok (.ifCond .ne 7, 3) := dk_at dkB02decM0_28 47 rfl
theorem dX11_thing_26 : decode cX11_thing 26 = .ok (.sipush (-1001), 3) := dk_at dkB02decM0_28 48 rfl
theorem dX11_thing_29 : decode cX11_thing 29 = .ok (.ireturn, 1) := dk_at dkB02decM0_28 49 rfl
theorem dX11_thing_30 : decode cX11_thing 30 = .ok (.iload_n 3, 1) := dk_at dkB02decM0_28 50 rfl
theorem dX11_thing_31 : decode cX11_thing 31 = .ok (.ifCond .ne 12, 3) := dk_at dkB02decM0_28 51 rfl
theorem dX11_thing_34 : decode cX11_thing 34 = .ok (.aload_n 0, 1) := dk_at dkB02decM0_28 52 rfl
theorem dX11_thing_35 : decode cX11_thing 35 = .ok (.iload_n 1, 1) := dk_at dkB02decM0_28 53 rfl
theorem dX11_thing_36 : decode cX11_thing 36 = .ok (.iload_n 2, 1) := dk_at dkB02decM0_28 54 rfl
theorem dX11_thing_37 : decode cX11_thing 37 = .ok (.invokevirtual 177, 3) := dk_at dkB02decM0_28 55 rfl
theorem dX11_thing_40 : decode cX11_thing 40 = .ok (.goto 24, 3) := dk_at dkB02decM0_28 56 rfl
theorem dX11_thing_43 : decode cX11_thing 43 = .ok (.aload_n 0, 1) := dk_at dkB02decM0_28 57 rfl
theorem dX11_thing_44 : decode cX11_thing 44 = .ok (.iload_n 1, 1) := dk_at dkB02decM0_28 58 rfl
theorem dX11_thing_45 : decode cX11_thing 45 = .ok (.iload_n 2, 1) := dk_at dkB02decM0_28 59 rfl
noncomputable def dkL02decM0_29 : List (ByteArray × Nat × Instr × Nat) := [(cX11_thing, 46, (.invokevirtual 177, 3)), (cX11_thing, 49, (.ifCond .ne 12, 3)), (cX11_thing, 52, (.aload_n 0, 1)), (cX11_thing, 53, (.iload_n 1, 1)), (cX11_thing, 54, (.iload_n 2, 1)), (cX11_thing, 55, (.invokevirtual 186, 3)), (cX11_thing, 58, (.goto 6, 3)), (cX11_thing, 61, (.sipush (-1012), 3)), (cX11_thing, 64, (.ireturn, 1)), (cX11_most, 0, (.iload_n 1, 1)), (cX11_most, 1, (.invokestatic 160, 3)), (cX11_most, 4, (.ifCond .eq 15, 3)), (cX11_most, 7, (.iload_n 2, 1)), (cX11_most, 8, (.i2l, 1)), (cX11_most, 9, (.lconst 1, 1)), (cX11_most, 10, (.ldc2_w 136, 3)), (cX11_most, 13, (.invokestatic 70, 3)), (cX11_most, 16, (.ifCond .ne 5, 3)), (cX11_most, 19, (.iconst (-1), 1)), (cX11_most, 20, (.ireturn, 1)), (cX11_most, 21, (.aload_n 0, 1)), (cX11_most, 22, (.getfield 7, 3)), (cX11_most, 25, (.iconst 3, 1)), (cX11_most, 26, (.iload_n 1, 1)), (cX11_most, 27, (.iadd, 1)), (cX11_most, 28, (.iaload, 1)), (cX11_most, 29, (.istore_n 3, 1)), (cX11_most, 30, (.aload_n 0, 1)), (cX11_most, 31, (.getfield 7, 3)), (cX11_most, 34, (.iconst 3, 1)), (cX11_most, 35, (.iload_n 1, 1)), (cX11_most, 36, (.iadd, 1)), (cX11_most, 37, (.iload_n 2, 1)), (cX11_most, 38, (.iastore, 1)), (cX11_most, 39, (.iload_n 3, 1)), (cX11_most, 40, (.ireturn, 1)), (cX11_stretch, 0, (.iload_n 1, 1)), (cX11_stretch, 1, (.invokestatic 160, 3)), (cX11_stretch, 4, (.ifCond .eq 80, 3)), (cX11_stretch, 7, (.iload_n 2, 1)), (cX11_stretch, 8, (.i2l, 1)), (cX11_stretch, 9, (.lconst 0, 1)), (cX11_stretch, 10, (.ldc2_w 180, 3)), (cX11_stretch, 13, (.invokestatic 70, 3)), (cX11_stretch, 16, (.ifCond .eq 68, 3)), (cX11_stretch, 19, (.aload_n 0, 1)), (cX11_stretch, 20, (.iload_n 1, 1)), (cX11_stretch, 21, (.iload_n 3, 1)), (cX11_stretch, 22, (.invokevirtual 174, 3)), (cX11_stretch, 25, (.ifCond .eq 59, 3)), (cX11_stretch, 28, (.aload_n 0, 1)), (cX11_stretch, 29, (.iload_n 1, 1)), (cX11_stretch, 30, (.iload 4, 2)), (cX11_stretch, 32, (.invokevirtual 174, 3)), (cX11_stretch, 35, (.ifCond .eq 49, 3)), (cX11_stretch, 38, (.iload_n 3, 1)), (cX11_stretch, 39, (.iload 4, 2)), (cX11_stretch, 41, (.if_icmp .gt 43, 3)), (cX11_stretch, 44, (.iload 5, 2)), (cX11_stretch, 46, (.i2l, 1))]
theorem dkB02decM0_29 : dkL02decM0_29.all (fun q => decide (decode q.1 q.2.1 = .ok q.2.2)) = true := by decide +kernel
theorem dX11_thing_46 : decode cX11_thing 46 = .ok (.invokevirtual 177, 3) := dk_at dkB02decM0_29 0 rfl
theorem dX11_thing_49 : decode cX11_thing 49 = .ok (.ifCond .ne 12, 3) := dk_at dkB02decM0_29 1 rfl
theorem dX11_thing_52 : decode cX11_thing 52 = .ok (.aload_n 0, 1) := dk_at dkB02decM0_29 2 rfl
theorem dX11_thing_53 : decode cX11_thing 53 = .ok (.iload_n 1, 1) := dk_at dkB02decM0_29 3 rfl
theorem dX11_thing_54 : decode cX11_thing 54 = .ok (.iload_n 2, 1) := dk_at dkB02decM0_29 4 rfl
theorem dX11_thing_55 : decode cX11_thing 55 = .ok (.invokevirtual 186, 3) := dk_at dkB02decM0_29 5 rfl
theorem dX11_thing_58 : decode cX11_thing 58 = .ok (.goto 6, 3) := dk_at dkB02decM0_29 6 rfl
theorem dX11_thing_61 : decode cX11_thing 61 = .ok (.sipush (-1012), 3) := dk_at dkB02decM0_29 7 rfl
theorem dX11_thing_64 : decode cX11_thing 64 = .ok (.ireturn, 1) := dk_at dkB02decM0_29 8 rfl
theorem dX11_most_0 : decode cX11_most 0 = .ok (.iload_n 1, 1) := dk_at dkB02decM0_29 9 rfl
theorem dX11_most_1 : decode cX11_most 1 = .ok (.invokestatic 160, 3) := dk_at dkB02decM0_29 10 rfl
theorem dX11_most_4 : decode cX11_most 4 = .ok (.ifCond .eq 15, 3) := dk_at dkB02decM0_29 11 rfl
theorem dX11_most_7 : decode cX11_most 7 = .ok (.iload_n 2, 1) := dk_at dkB02decM0_29 12 rfl
theorem dX11_most_8 : decode cX11_most 8 = .ok (.i2l, 1) := dk_at dkB02decM0_29 13 rfl
theorem dX11_most_9 : decode cX11_most 9 = .ok (.lconst 1, 1) := dk_at dkB02decM0_29 14 rfl
theorem dX11_most_10 : decode cX11_most 10 = .ok (.ldc2_w 136, 3) := dk_at dkB02decM0_29 15 rfl
theorem dX11_most_13 : decode cX11_most 13 = .ok (.invokestatic 70, 3) := dk_at dkB02decM0_29 16 rfl
theorem dX11_most_16 : decode cX11_most 16 = .ok (.ifCond .ne 5, 3) := dk_at dkB02decM0_29 17 rfl
theorem dX11_most_19 : decode cX11_most 19 = .ok (.iconst (-1), 1) := dk_at dkB02decM0_29 18 rfl
theorem dX11_most_20 : decode cX11_most 20 = .ok (.ireturn, 1) := dk_at dkB02decM0_29 19 rfl
theorem dX11_most_21 : decode cX11_most 21 = .ok (.aload_n 0, 1) := dk_at dkB02decM0_29 20 rfl
theorem dX11_most_22 : decode cX11_most 22 = .ok (.getfield 7, 3) := dk_at dkB02decM0_29 21 rfl
theorem dX11_most_25 : decode cX11_most 25 = .ok (.iconst 3, 1) := dk_at dkB02decM0_29 22 rfl
theorem dX11_most_26 : decode cX11_most 26 = .ok (.iload_n 1, 1) := dk_at dkB02decM0_29 23 rfl
theorem dX11_most_27 : decode cX11_most 27 = .ok (.iadd, 1) := dk_at dkB02decM0_29 24 rfl
theorem dX11_most_28 : decode cX11_most 28 = .ok (.iaload, 1) := dk_at dkB02decM0_29 25 rfl
theorem dX11_most_29 : decode cX11_most 29 = .ok (.istore_n 3, 1) := dk_at dkB02decM0_29 26 rfl
theorem dX11_most_30 : decode cX11_most 30 = .ok (.aload_n 0, 1) := dk_at dkB02decM0_29 27 rfl
theorem dX11_most_31 : decode cX11_most 31 = .ok (.getfield 7, 3) := dk_at dkB02decM0_29 28 rfl
theorem dX11_most_34 : decode cX11_most 34 = .ok (.iconst 3, 1) := dk_at dkB02decM0_29 29 rfl
theorem dX11_most_35 : decode cX11_most 35 = .ok (.iload_n 1, 1) := dk_at dkB02decM0_29 30 rfl
theorem dX11_most_36 : decode cX11_most 36 = .ok (.iadd, 1) := dk_at dkB02decM0_29 31 rfl
theorem dX11_most_37 : decode cX11_most 37 = .ok (.iload_n 2, 1) := dk_at dkB02decM0_29 32 rfl
theorem dX11_most_38 : decode cX11_most 38 = .ok (.iastore, 1) := dk_at dkB02decM0_29 33 rfl
theorem dX11_most_39 : decode cX11_most 39 = .ok (.iload_n 3, 1) := dk_at dkB02decM0_29 34 rfl
theorem dX11_most_40 : decode cX11_most 40 = .ok (.ireturn, 1) := dk_at dkB02decM0_29 35 rfl
theorem dX11_stretch_0 : decode cX11_stretch 0 = .ok (.iload_n 1, 1) := dk_at dkB02decM0_29 36 rfl
theorem dX11_stretch_1 : decode cX11_stretch 1 = .ok (.invokestatic 160, 3) := dk_at dkB02decM0_29 37 rfl
theorem dX11_stretch_4 : decode cX11_stretch 4 = .ok (.ifCond .eq 80, 3) := dk_at dkB02decM0_29 38 rfl
theorem dX11_stretch_7 : decode cX11_stretch 7 = .ok (.iload_n 2, 1) := dk_at dkB02decM0_29 39 rfl
theorem dX11_stretch_8 : decode cX11_stretch 8 = .ok (.i2l, 1) := dk_at dkB02decM0_29 40 rfl
theorem dX11_stretch_9 : decode cX11_stretch 9 = .ok (.lconst 0, 1) := dk_at dkB02decM0_29 41 rfl
theorem dX11_stretch_10 : decode cX11_stretch 10 = .ok (.ldc2_w 180, 3) := dk_at dkB02decM0_29 42 rfl
theorem dX11_stretch_13 : decode cX11_stretch 13 = .ok (.invokestatic 70, 3) := dk_at dkB02decM0_29 43 rfl
theorem dX11_stretch_16 : decode cX11_stretch 16 = .ok (.ifCond .eq 68, 3) := dk_at dkB02decM0_29 44 rfl
theorem dX11_stretch_19 : decode cX11_stretch 19 = .ok (.aload_n 0, 1) := dk_at dkB02decM0_29 45 rfl
theorem dX11_stretch_20 : decode cX11_stretch 20 = .ok (.iload_n 1, 1) := dk_at dkB02decM0_29 46 rfl
theorem dX11_stretch_21 : decode cX11_stretch 21 = .ok (.iload_n 3, 1) := dk_at dkB02decM0_29 47 rfl
theorem dX11_stretch_22 : decode cX11_stretch 22 = .ok (.invokevirtual 174, 3) := dk_at dkB02decM0_29 48 rfl
theorem dX11_stretch_25 : decode cX11_stretch 25 = .ok (.ifCond .eq 59, 3) := dk_at dkB02decM0_29 49 rfl
theorem dX11_stretch_28 : decode cX11_stretch 28 = .ok (.aload_n 0, 1) := dk_at dkB02decM0_29 50 rfl
theorem dX11_stretch_29 : decode cX11_stretch 29 = .ok (.iload_n 1, 1) := dk_at dkB02decM0_29 51 rfl
theorem dX11_stretch_30 : decode cX11_stretch 30 = .ok (.iload 4, 2) := dk_at dkB02decM0_29 52 rfl
theorem dX11_stretch_32 : decode cX11_stretch 32 = .ok (.invokevirtual 174, 3) := dk_at dkB02decM0_29 53 rfl
theorem dX11_stretch_35 : decode cX11_stretch 35 = .ok (.ifCond .eq 49, 3) := dk_at dkB02decM0_29 54 rfl
theorem dX11_stretch_38 : decode cX11_stretch 38 = .ok (.iload_n 3, 1) := dk_at dkB02decM0_29 55 rfl
theorem dX11_stretch_39 : decode cX11_stretch 39 = .ok (.iload 4, 2) := dk_at dkB02decM0_29 56 rfl
theorem dX11_stretch_41 : decode cX11_stretch 41 = .ok (.if_icmp .gt 43, 3) := dk_at dkB02decM0_29 57 rfl
theorem dX11_stretch_44 : decode cX11_stretch 44 = .ok (.iload 5, 2) := dk_at dkB02decM0_29 58 rfl
theorem dX11_stretch_46 : decode cX11_stretch 46 = .ok (.i2l, 1) := dk_at dkB02decM0_29 59 rfl
