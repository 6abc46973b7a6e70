noncomputable def dkL02decX3_0 : List (ByteArray × Nat × Instr × Nat) := [(cX10_says, 113, (.iload 10, 2)), (cX10_says, 115, (.iload 6, 2)), (cX10_says, 117, (.invokevirtual 361, 3)), (cX10_says, 120, (.ifCond .eq 35, 3)), (cX10_says, 123, (.iinc 7 1, 3)), (cX10_says, 126, (.iload 9, 2)), (cX10_says, 128, (.iload 10, 2)), (cX10_says, 130, (.iand, 1)), (cX10_says, 131, (.istore 9, 2)), (cX10_says, 133, (.iload 8, 2)), (cX10_says, 135, (.ifCond .eq 16, 3)), (cX10_says, 138, (.iload 10, 2)), (cX10_says, 140, (.invokestatic 292, 3)), (cX10_says, 143, (.iload 8, 2)), (cX10_says, 145, (.invokestatic 292, 3)), (cX10_says, 148, (.if_icmp .ge 7, 3)), (cX10_says, 151, (.iload 10, 2)), (cX10_says, 153, (.istore 8, 2)), (cX10_says, 155, (.iinc 10 1, 3)), (cX10_says, 158, (.goto (-63), 3)), (cX10_says, 161, (.iload 4, 2)), (cX10_says, 163, (.ifCond .ne 6, 3)), (cX10_says, 166, (.iload 7, 2)), (cX10_says, 168, (.ireturn, 1)), (cX10_says, 169, (.iload 7, 2)), (cX10_says, 171, (.ifCond .ne 8, 3)), (cX10_says, 174, (.bipush (-4), 2)), (cX10_says, 176, (.goto 16, 3)), (cX10_says, 179, (.iload 4, 2)), (cX10_says, 181, (.iconst 1, 1)), (cX10_says, 182, (.if_icmp .ne 8, 3)), (cX10_says, 185, (.iload 8, 2)), (cX10_says, 187, (.goto 5, 3)), (cX10_says, 190, (.iload 9, 2)), (cX10_says, 192, (.ireturn, 1)), (cX10_image, 0, (.aload_n 0, 1)), (cX10_image, 1, (.getfield 16, 3)), (cX10_image, 4, (.aload_n 0, 1)), (cX10_image, 5, (.getfield 12, 3)), (cX10_image, 8, (.invokevirtual 364, 3)), (cX10_image, 11, (.aload_n 0, 1)), (cX10_image, 12, (.iconst 1, 1)), (cX10_image, 13, (.putfield 367, 3)), (cX10_image, 16, (.iconst 1, 1)), (cX10_image, 17, (.ireturn, 1)), (cX10_restore, 0, (.aload_n 0, 1)), (cX10_restore, 1, (.getfield 367, 3)), (cX10_restore, 4, (.ifCond .ne 6, 3)), (cX10_restore, 7, (.bipush (-4), 2)), (cX10_restore, 9, (.ireturn, 1)), (cX10_restore, 10, (.aload_n 0, 1)), (cX10_restore, 11, (.getfield 12, 3)), (cX10_restore, 14, (.aload_n 0, 1)), (cX10_restore, 15, (.getfield 16, 3)), (cX10_restore, 18, (.invokevirtual 364, 3)), (cX10_restore, 21, (.aload_n 0, 1)), (cX10_restore, 22, (.getfield 54, 3)), (cX10_restore, 25, (.iconst 0, 1)), (cX10_restore, 26, (.iconst 0, 1)), (cX10_restore, 27, (.bastore, 1))]
theorem dkB02decX3_0 : dkL02decX3_0.all (fun q => decide (decode q.1 q.2.1 = .ok q.2.2)) = true := by decide +kernel
theorem dX10_says_113 : decode cX10_says 113 = .ok (.iload 10, 2) := dk_at dkB02decX3_0 0 rfl
theorem dX10_says_115 : decode cX10_says 115 = .ok (.iload 6, 2) := dk_at dkB02decX3_0 1 rfl
theorem dX10_says_117 : decode cX10_says 117 = .ok (.invokevirtual 361, 3) := dk_at dkB02decX3_0 2 rfl
theorem dX10_says_120 : decode cX10_says 120 = .ok (.ifCond .eq 35, 3) := dk_at dkB02decX3_0 3 rfl
theorem dX10_says_123 : decode cX10_says 123 = .ok (.iinc 7 1, 3) := dk_at dkB02decX3_0 4 rfl
theorem dX10_says_126 : decode cX10_says 126 = .ok (.iload 9, 2) := dk_at dkB02decX3_0 5 rfl
theorem dX10_says_128 : decode cX10_says 128 = .ok (.iload 10, 2) := dk_at dkB02decX3_0 6 rfl
theorem dX10_says_130 : decode cX10_says 130 = .ok (.iand, 1) := dk_at dkB02decX3_0 7 rfl
theorem dX10_says_131 : decode cX10_says 131 = .ok (.istore 9, 2) := dk_at dkB02decX3_0 8 rfl
theorem dX10_says_133 : decode cX10_says 133 = .ok (.iload 8, 2) := dk_at dkB02decX3_0 9 rfl
theorem dX10_says_135 : decode cX10_says 135 = .ok (.ifCond .eq 16, 3) := dk_at dkB02decX3_0 10 rfl
theorem dX10_says_138 : decode cX10_says 138 = .ok (.iload 10, 2) := dk_at dkB02decX3_0 11 rfl
theorem dX10_says_140 : decode cX10_says 140 = .ok (.invokestatic 292, 3) := dk_at dkB02decX3_0 12 rfl
theorem dX10_says_143 : decode cX10_says 143 = .ok (.iload 8, 2) := dk_at dkB02decX3_0 13 rfl
theorem dX10_says_145 : decode cX10_says 145 = .ok (.invokestatic 292, 3) := dk_at dkB02decX3_0 14 rfl
theorem dX10_says_148 : decode cX10_says 148 = .ok (.if_icmp .ge 7, 3) := dk_at dkB02decX3_0 15 rfl
theorem dX10_says_151 : decode cX10_says 151 = .ok (.iload 10, 2) := dk_at dkB02decX3_0 16 rfl
theorem dX10_says_153 : decode cX10_says 153 = .ok (.istore 8, 2) := dk_at dkB02decX3_0 17 rfl
theorem dX10_says_155 : decode cX10_says 155 = .ok (.iinc 10 1, 3) := dk_at dkB02decX3_0 18 rfl
theorem dX10_says_158 : decode cX10_says 158 = .ok (.goto (-63), 3) := dk_at dkB02decX3_0 19 rfl
theorem dX10_says_161 : decode cX10_says 161 = .ok (.iload 4, 2) := dk_at dkB02decX3_0 20 rfl
theorem dX10_says_163 : decode cX10_says 163 = .ok (.ifCond .ne 6, 3) := dk_at dkB02decX3_0 21 rfl
theorem dX10_says_166 : decode cX10_says 166 = .ok (.iload 7, 2) := dk_at dkB02decX3_0 22 rfl
theorem dX10_says_168 : decode cX10_says 168 = .ok (.ireturn, 1) := dk_at dkB02decX3_0 23 rfl
theorem dX10_says_169 : decode cX10_says 169 = .ok (.iload 7, 2) := dk_at dkB02decX3_0 24 rfl
theorem dX10_says_171 : decode cX10_says 171 = .ok (.ifCond .ne 8, 3) := dk_at dkB02decX3_0 25 rfl
theorem dX10_says_174 : decode cX10_says 174 = .ok (.bipush (-4), 2) := dk_at dkB02decX3_0 26 rfl
theorem dX10_says_176 : decode cX10_says 176 = .ok (.goto 16, 3) := dk_at dkB02decX3_0 27 rfl
theorem dX10_says_179 : decode cX10_says 179 = .ok (.iload 4, 2) := dk_at dkB02decX3_0 28 rfl
theorem dX10_says_181 : decode cX10_says 181 = .ok (.iconst 1, 1) := dk_at dkB02decX3_0 29 rfl
theorem dX10_says_182 : decode cX10_says 182 = .ok (.if_icmp .ne 8, 3) := dk_at dkB02decX3_0 30 rfl
theorem dX10_says_185 : decode cX10_says 185 = .ok (.iload 8, 2) := dk_at dkB02decX3_0 31 rfl
theorem dX10_says_187 : decode cX10_says 187 = .ok (.goto 5, 3) := dk_at dkB02decX3_0 32 rfl
theorem dX10_says_190 : decode cX10_says 190 = .ok (.iload 9, 2) := dk_at dkB02decX3_0 33 rfl
theorem dX10_says_192 : decode cX10_says 192 = .ok (.ireturn, 1) := dk_at dkB02decX3_0 34 rfl
theorem dX10_image_0 : decode cX10_image 0 = .ok (.aload_n 0, 1) := dk_at dkB02decX3_0 35 rfl
theorem dX10_image_1 : decode cX10_image 1 = .ok (.getfield 16, 3) := dk_at dkB02decX3_0 36 rfl
theorem dX10_image_4 : decode cX10_image 4 = .ok (.aload_n 0, 1) := dk_at dkB02decX3_0 37 rfl
theorem dX10_image_5 : decode cX10_image 5 = .ok (.getfield 12, 3) := dk_at dkB02decX3_0 38 rfl
theorem dX10_image_8 : decode cX10_image 8 = .ok (.invokevirtual 364, 3) := dk_at dkB02decX3_0 39 rfl
theorem dX10_image_11 : decode cX10_image 11 = .ok (.aload_n 0, 1) := dk_at dkB02decX3_0 40 rfl
theorem dX10_image_12 : decode cX10_image 12 = .ok (.iconst 1, 1) := dk_at dkB02decX3_0 41 rfl
theorem dX10_image_13 : decode cX10_image 13 = .ok (.putfield 367, 3) := dk_at dkB02decX3_0 42 rfl
theorem dX10_image_16 : decode cX10_image 16 = .ok (.iconst 1, 1) := dk_at dkB02decX3_0 43 rfl
theorem dX10_image_17 : decode cX10_image 17 = .ok (.ireturn, 1) := dk_at dkB02decX3_0 44 rfl
theorem dX10_restore_0 : decode cX10_restore 0 = .ok (.aload_n 0, 1) := dk_at dkB02decX3_0 45 rfl
theorem dX10_restore_1 : decode cX10_restore 1 = .ok (.getfield 367, 3) := dk_at dkB02decX3_0 46 rfl
theorem dX10_restore_4 : decode cX10_restore 4 = .ok (.ifCond .ne 6, 3) := dk_at dkB02decX3_0 47 rfl
theorem dX10_restore_7 : decode cX10_restore 7 = .ok (.bipush (-4), 2) := dk_at dkB02decX3_0 48 rfl
theorem dX10_restore_9 : decode cX10_restore 9 = .ok (.ireturn, 1) := dk_at dkB02decX3_0 49 rfl
theorem dX10_restore_10 : decode cX10_restore 10 = .ok (.aload_n 0, 1) := dk_at dkB02decX3_0 50 rfl
theorem dX10_restore_11 : decode cX10_restore 11 = .ok (.getfield 12, 3) := dk_at dkB02decX3_0 51 rfl
theorem dX10_restore_14 : decode cX10_restore 14 = .ok (.aload_n 0, 1) := dk_at dkB02decX3_0 52 rfl
theorem dX10_restore_15 : decode cX10_restore 15 = .ok (.getfield 16, 3) := dk_at dkB02decX3_0 53 rfl
theorem dX10_restore_18 : decode cX10_restore 18 = .ok (.invokevirtual 364, 3) := dk_at dkB02decX3_0 54 rfl
theorem dX10_restore_21 : decode cX10_restore 21 = .ok (.aload_n 0, 1) := dk_at dkB02decX3_0 55 rfl
theorem dX10_restore_22 : decode cX10_restore 22 = .ok (.getfield 54, 3) := dk_at dkB02decX3_0 56 rfl
theorem dX10_restore_25 : decode cX10_restore 25 = .ok (.iconst 0, 1) := dk_at dkB02decX3_0 57 rfl
theorem dX10_restore_26 : decode cX10_restore 26 = .ok (.iconst 0, 1) := dk_at dkB02decX3_0 58 rfl
theorem dX10_restore_27 : decode cX10_restore 27 = .ok (.bastore, 1) := dk_at dkB02decX3_0 59 rfl
noncomputable def dkL02decX3_1 : List (ByteArray × Nat × Instr × Nat) := [(cX10_restore, 28, (.aload_n 0, 1)), (cX10_restore, 29, (.getfield 54, 3)), (cX10_restore, 32, (.iconst 1, 1)), (cX10_restore, 33, (.iconst 0, 1)), (cX10_restore, 34, (.bastore, 1)), (cX10_restore, 35, (.iconst 1, 1)), (cX10_restore, 36, (.ireturn, 1)), (cX10_sheet, 0, (.iload_n 1, 1)), (cX10_sheet, 1, (.iload_n 2, 1)), (cX10_sheet, 2, (.invokestatic 87, 3)), (cX10_sheet, 5, (.ifCond .eq 9, 3)), (cX10_sheet, 8, (.iload_n 3, 1)), (cX10_sheet, 9, (.bipush 24, 2)), (cX10_sheet, 11, (.if_icmp .le 5, 3)), (cX10_sheet, 14, (.iconst (-1), 1)), (cX10_sheet, 15, (.ireturn, 1)), (cX10_sheet, 16, (.iload_n 3, 1)), (cX10_sheet, 17, (.ifCond .ge 6, 3)), (cX10_sheet, 20, (.bipush (-14), 2)), (cX10_sheet, 22, (.ireturn, 1)), (cX10_sheet, 23, (.aload_n 0, 1)), (cX10_sheet, 24, (.getfield 43, 3)), (cX10_sheet, 27, (.iload_n 1, 1)), (cX10_sheet, 28, (.aaload, 1)), (cX10_sheet, 29, (.iload_n 2, 1)), (cX10_sheet, 30, (.iload_n 3, 1)), (cX10_sheet, 31, (.invokevirtual 370, 3)), (cX10_sheet, 34, (.iload_n 3, 1)), (cX10_sheet, 35, (.ireturn, 1)), (cX10_drop, 0, (.iload_n 1, 1)), (cX10_drop, 1, (.iconst 0, 1)), (cX10_drop, 2, (.iconst 3, 1)), (cX10_drop, 3, (.invokestatic 69, 3)), (cX10_drop, 6, (.ifCond .ne 5, 3)), (cX10_drop, 9, (.iconst (-1), 1)), (cX10_drop, 10, (.ireturn, 1)), (cX10_drop, 11, (.aload_n 0, 1)), (cX10_drop, 12, (.getfield 43, 3)), (cX10_drop, 15, (.iload_n 1, 1)), (cX10_drop, 16, (.aaload, 1)), (cX10_drop, 17, (.astore_n 2, 1)), (cX10_drop, 18, (.aload_n 2, 1)), (cX10_drop, 19, (.getfield 373, 3)), (cX10_drop, 22, (.ifCond .ne 6, 3)), (cX10_drop, 25, (.bipush (-11), 2)), (cX10_drop, 27, (.ireturn, 1)), (cX10_drop, 28, (.aload_n 2, 1)), (cX10_drop, 29, (.iconst 0, 1)), (cX10_drop, 30, (.putfield 373, 3)), (cX10_drop, 33, (.aload_n 2, 1)), (cX10_drop, 34, (.getfield 376, 3)), (cX10_drop, 37, (.ireturn, 1)), (cX10_item, 0, (.iload_n 1, 1)), (cX10_item, 1, (.iload_n 2, 1)), (cX10_item, 2, (.invokestatic 87, 3)), (cX10_item, 5, (.ifCond .ne 5, 3)), (cX10_item, 8, (.iconst (-1), 1)), (cX10_item, 9, (.ireturn, 1)), (cX10_item, 10, (.aload_n 0, 1)), (cX10_item, 11, (.getfield 43, 3))]
theorem dkB02decX3_1 : dkL02decX3_1.all (fun q => decide (decode q.1 q.2.1 = .ok q.2.2)) = true := by decide +kernel
theorem dX10_restore_28 : decode cX10_restore 28 = .ok (.aload_n 0, 1) := dk_at dkB02decX3_1 0 rfl
theorem dX10_restore_29 : decode cX10_restore 29 = .ok (.getfield 54, 3) := dk_at dkB02decX3_1 1 rfl
theorem dX10_restore_32 : decode cX10_restore 32 = .ok (.iconst 1, 1) := dk_at dkB02decX3_1 2 rfl
theorem dX10_restore_33 : decode cX10_restore 33 = .ok (.iconst 0, 1) := dk_at dkB02decX3_1 3 rfl
theorem dX10_restore_34 : decode cX10_restore 34 = .ok (.bastore, 1) := dk_at dkB02decX3_1 4 rfl
theorem dX10_restore_35 : decode cX10_restore 35 = .ok (.iconst 1, 1) := dk_at dkB02decX3_1 5 rfl
theorem dX10_restore_36 : decode cX10_restore 36 = .ok (.ireturn, 1) := dk_at dkB02decX3_1 6 rfl
theorem dX10_sheet_0 : decode cX10_sheet 0 = .ok (.iload_n 1, 1) := dk_at dkB02decX3_1 7 rfl
theorem dX10_sheet_1 : decode cX10_sheet 1 = .ok (.iload_n 2, 1) := dk_at dkB02decX3_1 8 rfl
theorem dX10_sheet_2 : decode cX10_sheet 2 = .ok (.invokestatic 87, 3) := dk_at dkB02decX3_1 9 rfl
theorem dX10_sheet_5 : decode cX10_sheet 5 = .ok (.ifCond .eq 9, 3) := dk_at dkB02decX3_1 10 rfl
theorem dX10_sheet_8 : decode cX10_sheet 8 = .ok (.iload_n 3, 1) := dk_at dkB02decX3_1 11 rfl
theorem dX10_sheet_9 : decode cX10_sheet 9 = .ok (.bipush 24, 2) := dk_at dkB02decX3_1 12 rfl
theorem dX10_sheet_11 : decode cX10_sheet 11 = .ok (.if_icmp .le 5, 3) := dk_at dkB02decX3_1 13 rfl
theorem dX10_sheet_14 : decode cX10_sheet 14 = .ok (.iconst (-1), 1) := dk_at dkB02decX3_1 14 rfl
theorem dX10_sheet_15 : decode cX10_sheet 15 = .ok (.ireturn, 1) := dk_at dkB02decX3_1 15 rfl
theorem dX10_sheet_16 : decode cX10_sheet 16 = .ok (.iload_n 3, 1) := dk_at dkB02decX3_1 16 rfl
theorem dX10_sheet_17 : decode cX10_sheet 17 = .ok (.ifCond .ge 6, 3) := dk_at dkB02decX3_1 17 rfl
theorem dX10_sheet_20 : decode cX10_sheet 20 = .ok (.bipush (-14), 2) := dk_at dkB02decX3_1 18 rfl
theorem dX10_sheet_22 : decode cX10_sheet 22 = .ok (.ireturn, 1) := dk_at dkB02decX3_1 19 rfl
theorem dX10_sheet_23 : decode cX10_sheet 23 = .ok (.aload_n 0, 1) := dk_at dkB02decX3_1 20 rfl
theorem dX10_sheet_24 : decode cX10_sheet 24 = .ok (.getfield 43, 3) := dk_at dkB02decX3_1 21 rfl
theorem dX10_sheet_27 : decode cX10_sheet 27 = .ok (.iload_n 1, 1) := dk_at dkB02decX3_1 22 rfl
theorem dX10_sheet_28 : decode cX10_sheet 28 = .ok (.aaload, 1) := dk_at dkB02decX3_1 23 rfl
theorem dX10_sheet_29 : decode cX10_sheet 29 = .ok (.iload_n 2, 1) := dk_at dkB02decX3_1 24 rfl
theorem dX10_sheet_30 : decode cX10_sheet 30 = .ok (.iload_n 3, 1) := dk_at dkB02decX3_1 25 rfl
theorem dX10_sheet_31 : decode cX10_sheet 31 = .ok (.invokevirtual 370, 3) := dk_at dkB02decX3_1 26 rfl
theorem dX10_sheet_34 : decode cX10_sheet 34 = .ok (.iload_n 3, 1) := dk_at dkB02decX3_1 27 rfl
theorem dX10_sheet_35 : decode cX10_sheet 35 = .ok (.ireturn, 1) := dk_at dkB02decX3_1 28 rfl
theorem dX10_drop_0 : decode cX10_drop 0 = .ok (.iload_n 1, 1) := dk_at dkB02decX3_1 29 rfl
theorem dX10_drop_1 : decode cX10_drop 1 = .ok (.iconst 0, 1) := dk_at dkB02decX3_1 30 rfl
theorem dX10_drop_2 : decode cX10_drop 2 = .ok (.iconst 3, 1) := dk_at dkB02decX3_1 31 rfl
theorem dX10_drop_3 : decode cX10_drop 3 = .ok (.invokestatic 69, 3) := dk_at dkB02decX3_1 32 rfl
theorem dX10_drop_6 : decode cX10_drop 6 = .ok (.ifCond .ne 5, 3) := dk_at dkB02decX3_1 33 rfl
theorem dX10_drop_9 : decode cX10_drop 9 = .ok (.iconst (-1), 1) := dk_at dkB02decX3_1 34 rfl
theorem dX10_drop_10 : decode cX10_drop 10 = .ok (.ireturn, 1) := dk_at dkB02decX3_1 35 rfl
theorem dX10_drop_11 : decode cX10_drop 11 = .ok (.aload_n 0, 1) := dk_at dkB02decX3_1 36 rfl
theorem dX10_drop_12 : decode cX10_drop 12 = .ok (.getfield 43, 3) := dk_at dkB02decX3_1 37 rfl
theorem dX10_drop_15 : decode cX10_drop 15 = .ok (.iload_n 1, 1) := dk_at dkB02decX3_1 38 rfl
theorem dX10_drop_16 : decode cX10_drop 16 = .ok (.aaload, 1) := dk_at dkB02decX3_1 39 rfl
theorem dX10_drop_17 : decode cX10_drop 17 = .ok (.astore_n 2, 1) := dk_at dkB02decX3_1 40 rfl
theorem dX10_drop_18 : decode cX10_drop 18 = .ok (.aload_n 2, 1) := dk_at dkB02decX3_1 41 rfl
theorem dX10_drop_19 : decode cX10_drop 19 = .ok (.getfield 373, 3) := dk_at dkB02decX3_1 42 rfl
theorem dX10_drop_22 : decode cX10_drop 22 = .ok (.ifCond .ne 6, 3) := dk_at dkB02decX3_1 43 rfl
theorem dX10_drop_25 : decode cX10_drop 25 = .ok (.bipush (-11), 2) := dk_at dkB02decX3_1 44 rfl
theorem dX10_drop_27 : decode cX10_drop 27 = .ok (.ireturn, 1) := dk_at dkB02decX3_1 45 rfl
theorem dX10_drop_28 : decode cX10_drop 28 = .ok (.aload_n 2, 1) := dk_at dkB02decX3_1 46 rfl
theorem dX10_drop_29 : decode cX10_drop 29 = .ok (.iconst 0, 1) := dk_at dkB02decX3_1 47 rfl
theorem dX10_drop_30 : decode cX10_drop 30 = .ok (.putfield 373, 3) := dk_at dkB02decX3_1 48 rfl
theorem dX10_drop_33 : decode cX10_drop 33 = .ok (.aload_n 2, 1) := dk_at dkB02decX3_1 49 rfl
theorem dX10_drop_34 : decode cX10_drop 34 = .ok (.getfield 376, 3) := dk_at dkB02decX3_1 50 rfl
theorem dX10_drop_37 : decode cX10_drop 37 = .ok (.ireturn, 1) := dk_at dkB02decX3_1 51 rfl
theorem dX10_item_0 : decode cX10_item 0 = .ok (.iload_n 1, 1) := dk_at dkB02decX3_1 52 rfl
theorem dX10_item_1 : decode cX10_item 1 = .ok (.iload_n 2, 1) := dk_at dkB02decX3_1 53 rfl
theorem dX10_item_2 : decode cX10_item 2 = .ok (.invokestatic 87, 3) := dk_at dkB02decX3_1 54 rfl
theorem dX10_item_5 : decode cX10_item 5 = .ok (.ifCond .ne 5, 3) := dk_at dkB02decX3_1 55 rfl
theorem dX10_item_8 : decode cX10_item 8 = .ok (.iconst (-1), 1) := dk_at dkB02decX3_1 56 rfl
theorem dX10_item_9 : decode cX10_item 9 = .ok (.ireturn, 1) := dk_at dkB02decX3_1 57 rfl
theorem dX10_item_10 : decode cX10_item 10 = .ok (.aload_n 0, 1) := dk_at dkB02decX3_1 58 rfl
theorem dX10_item_11 : decode cX10_item 11 = .ok (.getfield 43, 3) := dk_at dkB02decX3_1 59 rfl
noncomputable def dkL02decX3_2 : List (ByteArray × Nat × Instr × Nat) := [(cX10_item, 14, (.iload_n 1, 1)), (cX10_item, 15, (.aaload, 1)), (cX10_item, 16, (.iload_n 2, 1)), (cX10_item, 17, (.iload_n 3, 1)), (cX10_item, 18, (.iconst 1, 1)), (cX10_item, 19, (.invokevirtual 90, 3)), (cX10_item, 22, (.istore 5, 2)), (cX10_item, 24, (.iload 5, 2)), (cX10_item, 26, (.ifCond .eq 6, 3)), (cX10_item, 29, (.iload 5, 2)), (cX10_item, 31, (.ireturn, 1)), (cX10_item, 32, (.aload_n 0, 1)), (cX10_item, 33, (.getfield 43, 3)), (cX10_item, 36, (.iload_n 1, 1)), (cX10_item, 37, (.aaload, 1)), (cX10_item, 38, (.iload_n 3, 1)), (cX10_item, 39, (.iload 4, 2)), (cX10_item, 41, (.invokevirtual 379, 3)), (cX10_item, 44, (.iconst 1, 1)), (cX10_item, 45, (.ireturn, 1)), (cX10_isWithin, 0, (.iload_n 0, 1)), (cX10_isWithin, 1, (.iload_n 1, 1)), (cX10_isWithin, 2, (.if_icmp .lt 12, 3)), (cX10_isWithin, 5, (.iload_n 0, 1)), (cX10_isWithin, 6, (.iload_n 2, 1)), (cX10_isWithin, 7, (.if_icmp .gt 7, 3)), (cX10_isWithin, 10, (.iconst 1, 1)), (cX10_isWithin, 11, (.goto 4, 3)), (cX10_isWithin, 14, (.iconst 0, 1)), (cX10_isWithin, 15, (.ireturn, 1)), (cX10_isYear, 0, (.iload_n 0, 1)), (cX10_isYear, 1, (.iconst 0, 1)), (cX10_isYear, 2, (.bipush 23, 2)), (cX10_isYear, 4, (.invokestatic 69, 3)), (cX10_isYear, 7, (.ireturn, 1)), (cX10_isCandle, 0, (.iload_n 0, 1)), (cX10_isCandle, 1, (.iconst 0, 1)), (cX10_isCandle, 2, (.iconst 1, 1)), (cX10_isCandle, 3, (.invokestatic 69, 3)), (cX10_isCandle, 6, (.ireturn, 1)), (cX10_isRow, 0, (.iload_n 0, 1)), (cX10_isRow, 1, (.iconst 0, 1)), (cX10_isRow, 2, (.iconst 3, 1)), (cX10_isRow, 3, (.invokestatic 69, 3)), (cX10_isRow, 6, (.ifCond .eq 16, 3)), (cX10_isRow, 9, (.iload_n 1, 1)), (cX10_isRow, 10, (.iconst 0, 1)), (cX10_isRow, 11, (.iconst 2, 1)), (cX10_isRow, 12, (.invokestatic 69, 3)), (cX10_isRow, 15, (.ifCond .eq 7, 3)), (cX10_isRow, 18, (.iconst 1, 1)), (cX10_isRow, 19, (.goto 4, 3)), (cX10_isRow, 22, (.iconst 0, 1)), (cX10_isRow, 23, (.ireturn, 1)), (cX10_isThing, 0, (.iload_n 1, 1)), (cX10_isThing, 1, (.invokestatic 144, 3)), (cX10_isThing, 4, (.ifCond .eq 29, 3)), (cX10_isThing, 7, (.iload_n 2, 1)), (cX10_isThing, 8, (.iconst 0, 1)), (cX10_isThing, 9, (.aload_n 0, 1))]
theorem dkB02decX3_2 : dkL02decX3_2.all (fun q => decide (decode q.1 q.2.1 = .ok q.2.2)) = true := by decide +kernel
theorem dX10_item_14 : decode cX10_item 14 = .ok (.iload_n 1, 1) := dk_at dkB02decX3_2 0 rfl
theorem dX10_item_15 : decode cX10_item 15 = .ok (.aaload, 1) := dk_at dkB02decX3_2 1 rfl
theorem dX10_item_16 : decode cX10_item 16 = .ok (.iload_n 2, 1) := dk_at dkB02decX3_2 2 rfl
theorem dX10_item_17 : decode cX10_item 17 = .ok (.iload_n 3, 1) := dk_at dkB02decX3_2 3 rfl
theorem dX10_item_18 : decode cX10_item 18 = .ok (.iconst 1, 1) := dk_at dkB02decX3_2 4 rfl
theorem dX10_item_19 : decode cX10_item 19 = .ok (.invokevirtual 90, 3) := dk_at dkB02decX3_2 5 rfl
theorem dX10_item_22 : decode cX10_item 22 = .ok (.istore 5, 2) := dk_at dkB02decX3_2 6 rfl
theorem dX10_item_24 : decode cX10_item 24 = .ok (.iload 5, 2) := dk_at dkB02decX3_2 7 rfl
theorem dX10_item_26 : decode cX10_item 26 = .ok (.ifCond .eq 6, 3) := dk_at dkB02decX3_2 8 rfl
theorem dX10_item_29 : decode cX10_item 29 = .ok (.iload 5, 2) := dk_at dkB02decX3_2 9 rfl
theorem dX10_item_31 : decode cX10_item 31 = .ok (.ireturn, 1) := dk_at dkB02decX3_2 10 rfl
theorem dX10_item_32 : decode cX10_item 32 = .ok (.aload_n 0, 1) := dk_at dkB02decX3_2 11 rfl
theorem dX10_item_33 : decode cX10_item 33 = .ok (.getfield 43, 3) := dk_at dkB02decX3_2 12 rfl
theorem dX10_item_36 : decode cX10_item 36 = .ok (.iload_n 1, 1) := dk_at dkB02decX3_2 13 rfl
theorem dX10_item_37 : decode cX10_item 37 = .ok (.aaload, 1) := dk_at dkB02decX3_2 14 rfl
theorem dX10_item_38 : decode cX10_item 38 = .ok (.iload_n 3, 1) := dk_at dkB02decX3_2 15 rfl
theorem dX10_item_39 : decode cX10_item 39 = .ok (.iload 4, 2) := dk_at dkB02decX3_2 16 rfl
theorem dX10_item_41 : decode cX10_item 41 = .ok (.invokevirtual 379, 3) := dk_at dkB02decX3_2 17 rfl
theorem dX10_item_44 : decode cX10_item 44 = .ok (.iconst 1, 1) := dk_at dkB02decX3_2 18 rfl
theorem dX10_item_45 : decode cX10_item 45 = .ok (.ireturn, 1) := dk_at dkB02decX3_2 19 rfl
theorem dX10_isWithin_0 : decode cX10_isWithin 0 = .ok (.iload_n 0, 1) := dk_at dkB02decX3_2 20 rfl
theorem dX10_isWithin_1 : decode cX10_isWithin 1 = .ok (.iload_n 1, 1) := dk_at dkB02decX3_2 21 rfl
theorem dX10_isWithin_2 : decode cX10_isWithin 2 = .ok (.if_icmp .lt 12, 3) := dk_at dkB02decX3_2 22 rfl
theorem dX10_isWithin_5 : decode cX10_isWithin 5 = .ok (.iload_n 0, 1) := dk_at dkB02decX3_2 23 rfl
theorem dX10_isWithin_6 : decode cX10_isWithin 6 = .ok (.iload_n 2, 1) := dk_at dkB02decX3_2 24 rfl
theorem dX10_isWithin_7 : decode cX10_isWithin 7 = .ok (.if_icmp .gt 7, 3) := dk_at dkB02decX3_2 25 rfl
theorem dX10_isWithin_10 : decode cX10_isWithin 10 = .ok (.iconst 1, 1) := dk_at dkB02decX3_2 26 rfl
theorem dX10_isWithin_11 : decode cX10_isWithin 11 = .ok (.goto 4, 3) := dk_at dkB02decX3_2 27 rfl
theorem dX10_isWithin_14 : decode cX10_isWithin 14 = .ok (.iconst 0, 1) := dk_at dkB02decX3_2 28 rfl
theorem dX10_isWithin_15 : decode cX10_isWithin 15 = .ok (.ireturn, 1) := dk_at dkB02decX3_2 29 rfl
theorem dX10_isYear_0 : decode cX10_isYear 0 = .ok (.iload_n 0, 1) := dk_at dkB02decX3_2 30 rfl
theorem dX10_isYear_1 : decode cX10_isYear 1 = .ok (.iconst 0, 1) := dk_at dkB02decX3_2 31 rfl
theorem dX10_isYear_2 : decode cX10_isYear 2 = .ok (.bipush 23, 2) := dk_at dkB02decX3_2 32 rfl
theorem dX10_isYear_4 : decode cX10_isYear 4 = .ok (.invokestatic 69, 3) := dk_at dkB02decX3_2 33 rfl
theorem dX10_isYear_7 : decode cX10_isYear 7 = .ok (.ireturn, 1) := dk_at dkB02decX3_2 34 rfl
theorem dX10_isCandle_0 : decode cX10_isCandle 0 = .ok (.iload_n 0, 1) := dk_at dkB02decX3_2 35 rfl
theorem dX10_isCandle_1 : decode cX10_isCandle 1 = .ok (.iconst 0, 1) := dk_at dkB02decX3_2 36 rfl
theorem dX10_isCandle_2 : decode cX10_isCandle 2 = .ok (.iconst 1, 1) := dk_at dkB02decX3_2 37 rfl
theorem dX10_isCandle_3 : decode cX10_isCandle 3 = .ok (.invokestatic 69, 3) := dk_at dkB02decX3_2 38 rfl
theorem dX10_isCandle_6 : decode cX10_isCandle 6 = .ok (.ireturn, 1) := dk_at dkB02decX3_2 39 rfl
theorem dX10_isRow_0 : decode cX10_isRow 0 = .ok (.iload_n 0, 1) := dk_at dkB02decX3_2 40 rfl
theorem dX10_isRow_1 : decode cX10_isRow 1 = .ok (.iconst 0, 1) := dk_at dkB02decX3_2 41 rfl
theorem dX10_isRow_2 : decode cX10_isRow 2 = .ok (.iconst 3, 1) := dk_at dkB02decX3_2 42 rfl
theorem dX10_isRow_3 : decode cX10_isRow 3 = .ok (.invokestatic 69, 3) := dk_at dkB02decX3_2 43 rfl
theorem dX10_isRow_6 : decode cX10_isRow 6 = .ok (.ifCond .eq 16, 3) := dk_at dkB02decX3_2 44 rfl
theorem dX10_isRow_9 : decode cX10_isRow 9 = .ok (.iload_n 1, 1) := dk_at dkB02decX3_2 45 rfl
theorem dX10_isRow_10 : decode cX10_isRow 10 = .ok (.iconst 0, 1) := dk_at dkB02decX3_2 46 rfl
theorem dX10_isRow_11 : decode cX10_isRow 11 = .ok (.iconst 2, 1) := dk_at dkB02decX3_2 47 rfl
theorem dX10_isRow_12 : decode cX10_isRow 12 = .ok (.invokestatic 69, 3) := dk_at dkB02decX3_2 48 rfl
theorem dX10_isRow_15 : decode cX10_isRow 15 = .ok (.ifCond .eq 7, 3) := dk_at dkB02decX3_2 49 rfl
theorem dX10_isRow_18 : decode cX10_isRow 18 = .ok (.iconst 1, 1) := dk_at dkB02decX3_2 50 rfl
theorem dX10_isRow_19 : decode cX10_isRow 19 = .ok (.goto 4, 3) := dk_at dkB02decX3_2 51 rfl
theorem dX10_isRow_22 : decode cX10_isRow 22 = .ok (.iconst 0, 1) := dk_at dkB02decX3_2 52 rfl
theorem dX10_isRow_23 : decode cX10_isRow 23 = .ok (.ireturn, 1) := dk_at dkB02decX3_2 53 rfl
theorem dX10_isThing_0 : decode cX10_isThing 0 = .ok (.iload_n 1, 1) := dk_at dkB02decX3_2 54 rfl
theorem dX10_isThing_1 : decode cX10_isThing 1 = .ok (.invokestatic 144, 3) := dk_at dkB02decX3_2 55 rfl
theorem dX10_isThing_4 : decode cX10_isThing 4 = .ok (.ifCond .eq 29, 3) := dk_at dkB02decX3_2 56 rfl
theorem dX10_isThing_7 : decode cX10_isThing 7 = .ok (.iload_n 2, 1) := dk_at dkB02decX3_2 57 rfl
theorem dX10_isThing_8 : decode cX10_isThing 8 = .ok (.iconst 0, 1) := dk_at dkB02decX3_2 58 rfl
theorem dX10_isThing_9 : decode cX10_isThing 9 = .ok (.aload_n 0, 1) := dk_at dkB02decX3_2 59 rfl
noncomputable def dkL02decX3_3 : List (ByteArray × Nat × Instr × Nat) := [(cX10_isThing, 10, (.getfield 12, 3)), (cX10_isThing, 13, (.getfield 147, 3)), (cX10_isThing, 16, (.iload_n 1, 1)), (cX10_isThing, 17, (.aaload, 1)), (cX10_isThing, 18, (.getfield 167, 3)), (cX10_isThing, 21, (.iconst 1, 1)), (cX10_isThing, 22, (.isub, 1)), (cX10_isThing, 23, (.invokestatic 69, 3)), (cX10_isThing, 26, (.ifCond .eq 7, 3)), (cX10_isThing, 29, (.iconst 1, 1)), (cX10_isThing, 30, (.goto 4, 3)), (cX10_isThing, 33, (.iconst 0, 1)), (cX10_isThing, 34, (.ireturn, 1)), (cX10_isPair, 0, (.aload_n 0, 1)), (cX10_isPair, 1, (.iload_n 1, 1)), (cX10_isPair, 2, (.iload_n 2, 1)), (cX10_isPair, 3, (.invokevirtual 170, 3)), (cX10_isPair, 6, (.ifCond .eq 21, 3)), (cX10_isPair, 9, (.aload_n 0, 1)), (cX10_isPair, 10, (.iload_n 1, 1)), (cX10_isPair, 11, (.iload_n 3, 1)), (cX10_isPair, 12, (.invokevirtual 170, 3)), (cX10_isPair, 15, (.ifCond .eq 12, 3)), (cX10_isPair, 18, (.iload_n 2, 1)), (cX10_isPair, 19, (.iload_n 3, 1)), (cX10_isPair, 20, (.if_icmp .ge 7, 3)), (cX10_isPair, 23, (.iconst 1, 1)), (cX10_isPair, 24, (.goto 4, 3)), (cX10_isPair, 27, (.iconst 0, 1)), (cX10_isPair, 28, (.ireturn, 1)), (cX10_isClaim, 0, (.iload_n 1, 1)), (cX10_isClaim, 1, (.iconst 0, 1)), (cX10_isClaim, 2, (.aload_n 0, 1)), (cX10_isClaim, 3, (.getfield 12, 3)), (cX10_isClaim, 6, (.getfield 225, 3)), (cX10_isClaim, 9, (.iconst 1, 1)), (cX10_isClaim, 10, (.isub, 1)), (cX10_isClaim, 11, (.invokestatic 69, 3)), (cX10_isClaim, 14, (.ireturn, 1)), (cX10_copyRow, 0, (.aload_n 0, 1)), (cX10_copyRow, 1, (.iconst 0, 1)), (cX10_copyRow, 2, (.aload_n 1, 1)), (cX10_copyRow, 3, (.iconst 0, 1)), (cX10_copyRow, 4, (.aload_n 0, 1)), (cX10_copyRow, 5, (.arraylength, 1)), (cX10_copyRow, 6, (.aload_n 1, 1)), (cX10_copyRow, 7, (.arraylength, 1)), (cX10_copyRow, 8, (.invokestatic 382, 3)), (cX10_copyRow, 11, (.invokestatic 385, 3)), (cX10_copyRow, 14, (.return_, 1)), (cJ6_compare_7cf53, 0, (.iload_n 0, 1)), (cJ6_compare_7cf53, 1, (.iload_n 1, 1)), (cJ6_compare_7cf53, 2, (.if_icmp .ge 7, 3)), (cJ6_compare_7cf53, 5, (.iconst (-1), 1)), (cJ6_compare_7cf53, 6, (.goto 13, 3)), (cJ6_compare_7cf53, 9, (.iload_n 0, 1)), (cJ6_compare_7cf53, 10, (.iload_n 1, 1)), (cJ6_compare_7cf53, 11, (.if_icmp .ne 7, 3)), (cJ6_compare_7cf53, 14, (.iconst 0, 1)), (cJ6_compare_7cf53, 15, (.goto 4, 3))]
theorem dkB02decX3_3 : dkL02decX3_3.all (fun q => decide (decode q.1 q.2.1 = .ok q.2.2)) = true := by decide +kernel
theorem dX10_isThing_10 : decode cX10_isThing 10 = .ok (.getfield 12, 3) := dk_at dkB02decX3_3 0 rfl
theorem dX10_isThing_13 : decode cX10_isThing 13 = .ok (.getfield 147, 3) := dk_at dkB02decX3_3 1 rfl
theorem dX10_isThing_16 : decode cX10_isThing 16 = .ok (.iload_n 1, 1) := dk_at dkB02decX3_3 2 rfl
theorem dX10_isThing_17 : decode cX10_isThing 17 = .ok (.aaload, 1) := dk_at dkB02decX3_3 3 rfl
theorem dX10_isThing_18 : decode cX10_isThing 18 = .ok (.getfield 167, 3) := dk_at dkB02decX3_3 4 rfl
theorem dX10_isThing_21 : decode cX10_isThing 21 = .ok (.iconst 1, 1) := dk_at dkB02decX3_3 5 rfl
theorem dX10_isThing_22 : decode cX10_isThing 22 = .ok (.isub, 1) := dk_at dkB02decX3_3 6 rfl
theorem dX10_isThing_23 : decode cX10_isThing 23 = .ok (.invokestatic 69, 3) := dk_at dkB02decX3_3 7 rfl
theorem dX10_isThing_26 : decode cX10_isThing 26 = .ok (.ifCond .eq 7, 3) := dk_at dkB02decX3_3 8 rfl
theorem dX10_isThing_29 : decode cX10_isThing 29 = .ok (.iconst 1, 1) := dk_at dkB02decX3_3 9 rfl
theorem dX10_isThing_30 : decode cX10_isThing 30 = .ok (.goto 4, 3) := dk_at dkB02decX3_3 10 rfl
theorem dX10_isThing_33 : decode cX10_isThing 33 = .ok (.iconst 0, 1) := dk_at dkB02decX3_3 11 rfl
theorem dX10_isThing_34 : decode cX10_isThing 34 = .ok (.ireturn, 1) := dk_at dkB02decX3_3 12 rfl
theorem dX10_isPair_0 : decode cX10_isPair 0 = .ok (.aload_n 0, 1) := dk_at dkB02decX3_3 13 rfl
theorem dX10_isPair_1 : decode cX10_isPair 1 = .ok (.iload_n 1, 1) := dk_at dkB02decX3_3 14 rfl
theorem dX10_isPair_2 : decode cX10_isPair 2 = .ok (.iload_n 2, 1) := dk_at dkB02decX3_3 15 rfl
theorem dX10_isPair_3 : decode cX10_isPair 3 = .ok (.invokevirtual 170, 3) := dk_at dkB02decX3_3 16 rfl
theorem dX10_isPair_6 : decode cX10_isPair 6 = .ok (.ifCond .eq 21, 3) := dk_at dkB02decX3_3 17 rfl
theorem dX10_isPair_9 : decode cX10_isPair 9 = .ok (.aload_n 0, 1) := dk_at dkB02decX3_3 18 rfl
theorem dX10_isPair_10 : decode cX10_isPair 10 = .ok (.iload_n 1, 1) := dk_at dkB02decX3_3 19 rfl
theorem dX10_isPair_11 : decode cX10_isPair 11 = .ok (.iload_n 3, 1) := dk_at dkB02decX3_3 20 rfl
theorem dX10_isPair_12 : decode cX10_isPair 12 = .ok (.invokevirtual 170, 3) := dk_at dkB02decX3_3 21 rfl
theorem dX10_isPair_15 : decode cX10_isPair 15 = .ok (.ifCond .eq 12, 3) := dk_at dkB02decX3_3 22 rfl
theorem dX10_isPair_18 : decode cX10_isPair 18 = .ok (.iload_n 2, 1) := dk_at dkB02decX3_3 23 rfl
theorem dX10_isPair_19 : decode cX10_isPair 19 = .ok (.iload_n 3, 1) := dk_at dkB02decX3_3 24 rfl
theorem dX10_isPair_20 : decode cX10_isPair 20 = .ok (.if_icmp .ge 7, 3) := dk_at dkB02decX3_3 25 rfl
theorem dX10_isPair_23 : decode cX10_isPair 23 = .ok (.iconst 1, 1) := dk_at dkB02decX3_3 26 rfl
theorem dX10_isPair_24 : decode cX10_isPair 24 = .ok (.goto 4, 3) := dk_at dkB02decX3_3 27 rfl
theorem dX10_isPair_27 : decode cX10_isPair 27 = .ok (.iconst 0, 1) := dk_at dkB02decX3_3 28 rfl
theorem dX10_isPair_28 : decode cX10_isPair 28 = .ok (.ireturn, 1) := dk_at dkB02decX3_3 29 rfl
theorem dX10_isClaim_0 : decode cX10_isClaim 0 = .ok (.iload_n 1, 1) := dk_at dkB02decX3_3 30 rfl
theorem dX10_isClaim_1 : decode cX10_isClaim 1 = .ok (.iconst 0, 1) := dk_at dkB02decX3_3 31 rfl
theorem dX10_isClaim_2 : decode cX10_isClaim 2 = .ok (.aload_n 0, 1) := dk_at dkB02decX3_3 32 rfl
theorem dX10_isClaim_3 : decode cX10_isClaim 3 = .ok (.getfield 12, 3) := dk_at dkB02decX3_3 33 rfl
theorem dX10_isClaim_6 : decode cX10_isClaim 6 = .ok (.getfield 225, 3) := dk_at dkB02decX3_3 34 rfl
theorem dX10_isClaim_9 : decode cX10_isClaim 9 = .ok (.iconst 1, 1) := dk_at dkB02decX3_3 35 rfl
theorem dX10_isClaim_10 : decode cX10_isClaim 10 = .ok (.isub, 1) := dk_at dkB02decX3_3 36 rfl
theorem dX10_isClaim_11 : decode cX10_isClaim 11 = .ok (.invokestatic 69, 3) := dk_at dkB02decX3_3 37 rfl
theorem dX10_isClaim_14 : decode cX10_isClaim 14 = .ok (.ireturn, 1) := dk_at dkB02decX3_3 38 rfl
theorem dX10_copyRow_0 : decode cX10_copyRow 0 = .ok (.aload_n 0, 1) := dk_at dkB02decX3_3 39 rfl
theorem dX10_copyRow_1 : decode cX10_copyRow 1 = .ok (.iconst 0, 1) := dk_at dkB02decX3_3 40 rfl
theorem dX10_copyRow_2 : decode cX10_copyRow 2 = .ok (.aload_n 1, 1) := dk_at dkB02decX3_3 41 rfl
theorem dX10_copyRow_3 : decode cX10_copyRow 3 = .ok (.iconst 0, 1) := dk_at dkB02decX3_3 42 rfl
theorem dX10_copyRow_4 : decode cX10_copyRow 4 = .ok (.aload_n 0, 1) := dk_at dkB02decX3_3 43 rfl
theorem dX10_copyRow_5 : decode cX10_copyRow 5 = .ok (.arraylength, 1) := dk_at dkB02decX3_3 44 rfl
theorem dX10_copyRow_6 : decode cX10_copyRow 6 = .ok (.aload_n 1, 1) := dk_at dkB02decX3_3 45 rfl
theorem dX10_copyRow_7 : decode cX10_copyRow 7 = .ok (.arraylength, 1) := dk_at dkB02decX3_3 46 rfl
theorem dX10_copyRow_8 : decode cX10_copyRow 8 = .ok (.invokestatic 382, 3) := dk_at dkB02decX3_3 47 rfl
theorem dX10_copyRow_11 : decode cX10_copyRow 11 = .ok (.invokestatic 385, 3) := dk_at dkB02decX3_3 48 rfl
theorem dX10_copyRow_14 : decode cX10_copyRow 14 = .ok (.return_, 1) := dk_at dkB02decX3_3 49 rfl
theorem dJ6_compare_7cf53_0 : decode cJ6_compare_7cf53 0 = .ok (.iload_n 0, 1) := dk_at dkB02decX3_3 50 rfl
theorem dJ6_compare_7cf53_1 : decode cJ6_compare_7cf53 1 = .ok (.iload_n 1, 1) := dk_at dkB02decX3_3 51 rfl
theorem dJ6_compare_7cf53_2 : decode cJ6_compare_7cf53 2 = .ok (.if_icmp .ge 7, 3) := dk_at dkB02decX3_3 52 rfl
theorem dJ6_compare_7cf53_5 : decode cJ6_compare_7cf53 5 = .ok (.iconst (-1), 1) := dk_at dkB02decX3_3 53 rfl
theorem dJ6_compare_7cf53_6 : decode cJ6_compare_7cf53 6 = .ok (.goto 13, 3) := dk_at dkB02decX3_3 54 rfl
theorem dJ6_compare_7cf53_9 : decode cJ6_compare_7cf53 9 = .ok (.iload_n 0, 1) := dk_at dkB02decX3_3 55 rfl
theorem dJ6_compare_7cf53_10 : decode cJ6_compare_7cf53 10 = .ok (.iload_n 1, 1) := dk_at dkB02decX3_3 56 rfl
theorem dJ6_compare_7cf53_11 : decode cJ6_compare_7cf53 11 = .ok (.if_icmp .ne 7, 3) := dk_at dkB02decX3_3 57 rfl
theorem dJ6_compare_7cf53_14 : decode cJ6_compare_7cf53 14 = .ok (.iconst 0, 1) := dk_at dkB02decX3_3 58 rfl
theorem dJ6_compare_7cf53_15 : decode cJ6_compare_7cf53 15 = .ok (.goto 4, 3) := dk_at dkB02decX3_3 59 rfl
noncomputable def dkL02decX3_4 : List (ByteArray × Nat × Instr × Nat) := [(cJ6_compare_7cf53, 18, (.iconst 1, 1)), (cJ6_compare_7cf53, 19, (.ireturn, 1)), (cJ6_bitCount_0f7a4, 0, (.iload_n 0, 1)), (cJ6_bitCount_0f7a4, 1, (.iload_n 0, 1)), (cJ6_bitCount_0f7a4, 2, (.iconst 1, 1)), (cJ6_bitCount_0f7a4, 3, (.iushr, 1)), (cJ6_bitCount_0f7a4, 4, (.ldc_w 265, 3)), (cJ6_bitCount_0f7a4, 7, (.iand, 1)), (cJ6_bitCount_0f7a4, 8, (.isub, 1)), (cJ6_bitCount_0f7a4, 9, (.istore_n 0, 1)), (cJ6_bitCount_0f7a4, 10, (.iload_n 0, 1)), (cJ6_bitCount_0f7a4, 11, (.ldc_w 266, 3)), (cJ6_bitCount_0f7a4, 14, (.iand, 1)), (cJ6_bitCount_0f7a4, 15, (.iload_n 0, 1)), (cJ6_bitCount_0f7a4, 16, (.iconst 2, 1)), (cJ6_bitCount_0f7a4, 17, (.iushr, 1)), (cJ6_bitCount_0f7a4, 18, (.ldc_w 266, 3)), (cJ6_bitCount_0f7a4, 21, (.iand, 1)), (cJ6_bitCount_0f7a4, 22, (.iadd, 1)), (cJ6_bitCount_0f7a4, 23, (.istore_n 0, 1)), (cJ6_bitCount_0f7a4, 24, (.iload_n 0, 1)), (cJ6_bitCount_0f7a4, 25, (.iload_n 0, 1)), (cJ6_bitCount_0f7a4, 26, (.iconst 4, 1)), (cJ6_bitCount_0f7a4, 27, (.iushr, 1)), (cJ6_bitCount_0f7a4, 28, (.iadd, 1)), (cJ6_bitCount_0f7a4, 29, (.ldc_w 267, 3)), (cJ6_bitCount_0f7a4, 32, (.iand, 1)), (cJ6_bitCount_0f7a4, 33, (.istore_n 0, 1)), (cJ6_bitCount_0f7a4, 34, (.iload_n 0, 1)), (cJ6_bitCount_0f7a4, 35, (.iload_n 0, 1)), (cJ6_bitCount_0f7a4, 36, (.bipush 8, 2)), (cJ6_bitCount_0f7a4, 38, (.iushr, 1)), (cJ6_bitCount_0f7a4, 39, (.iadd, 1)), (cJ6_bitCount_0f7a4, 40, (.istore_n 0, 1)), (cJ6_bitCount_0f7a4, 41, (.iload_n 0, 1)), (cJ6_bitCount_0f7a4, 42, (.iload_n 0, 1)), (cJ6_bitCount_0f7a4, 43, (.bipush 16, 2)), (cJ6_bitCount_0f7a4, 45, (.iushr, 1)), (cJ6_bitCount_0f7a4, 46, (.iadd, 1)), (cJ6_bitCount_0f7a4, 47, (.istore_n 0, 1)), (cJ6_bitCount_0f7a4, 48, (.iload_n 0, 1)), (cJ6_bitCount_0f7a4, 49, (.bipush 63, 2)), (cJ6_bitCount_0f7a4, 51, (.iand, 1)), (cJ6_bitCount_0f7a4, 52, (.ireturn, 1)), (cJ9_max_7cf53, 0, (.iload_n 0, 1)), (cJ9_max_7cf53, 1, (.iload_n 1, 1)), (cJ9_max_7cf53, 2, (.if_icmp .lt 7, 3)), (cJ9_max_7cf53, 5, (.iload_n 0, 1)), (cJ9_max_7cf53, 6, (.goto 4, 3)), (cJ9_max_7cf53, 9, (.iload_n 1, 1)), (cJ9_max_7cf53, 10, (.ireturn, 1)), (cJ9_max_f86c9, 0, (.lload_n 0, 1)), (cJ9_max_f86c9, 1, (.lload_n 2, 1)), (cJ9_max_f86c9, 2, (.lcmp, 1)), (cJ9_max_f86c9, 3, (.ifCond .lt 7, 3)), (cJ9_max_f86c9, 6, (.lload_n 0, 1)), (cJ9_max_f86c9, 7, (.goto 4, 3)), (cJ9_max_f86c9, 10, (.lload_n 2, 1)), (cJ9_max_f86c9, 11, (.lreturn, 1)), (cJ9_min_7cf53, 0, (.iload_n 0, 1))]
theorem dkB02decX3_4 : dkL02decX3_4.all (fun q => decide (decode q.1 q.2.1 = .ok q.2.2)) = true := by decide +kernel
theorem dJ6_compare_7cf53_18 : decode cJ6_compare_7cf53 18 = .ok (.iconst 1, 1) := dk_at dkB02decX3_4 0 rfl
theorem dJ6_compare_7cf53_19 : decode cJ6_compare_7cf53 19 = .ok (.ireturn, 1) := dk_at dkB02decX3_4 1 rfl
theorem dJ6_bitCount_0f7a4_0 : decode cJ6_bitCount_0f7a4 0 = .ok (.iload_n 0, 1) := dk_at dkB02decX3_4 2 rfl
theorem dJ6_bitCount_0f7a4_1 : decode cJ6_bitCount_0f7a4 1 = .ok (.iload_n 0, 1) := dk_at dkB02decX3_4 3 rfl
theorem dJ6_bitCount_0f7a4_2 : decode cJ6_bitCount_0f7a4 2 = .ok (.iconst 1, 1) := dk_at dkB02decX3_4 4 rfl
theorem dJ6_bitCount_0f7a4_3 : decode cJ6_bitCount_0f7a4 3 = .ok (.iushr, 1) := dk_at dkB02decX3_4 5 rfl
theorem dJ6_bitCount_0f7a4_4 : decode cJ6_bitCount_0f7a4 4 = .ok (.ldc_w 265, 3) := dk_at dkB02decX3_4 6 rfl
theorem dJ6_bitCount_0f7a4_7 : decode cJ6_bitCount_0f7a4 7 = .ok (.iand, 1) := dk_at dkB02decX3_4 7 rfl
theorem dJ6_bitCount_0f7a4_8 : decode cJ6_bitCount_0f7a4 8 = .ok (.isub, 1) := dk_at dkB02decX3_4 8 rfl
theorem dJ6_bitCount_0f7a4_9 : decode cJ6_bitCount_0f7a4 9 = .ok (.istore_n 0, 1) := dk_at dkB02decX3_4 9 rfl
theorem dJ6_bitCount_0f7a4_10 : decode cJ6_bitCount_0f7a4 10 = .ok (.iload_n 0, 1) := dk_at dkB02decX3_4 10 rfl
theorem dJ6_bitCount_0f7a4_11 : decode cJ6_bitCount_0f7a4 11 = .ok (.ldc_w 266, 3) := dk_at dkB02decX3_4 11 rfl
theorem dJ6_bitCount_0f7a4_14 : decode cJ6_bitCount_0f7a4 14 = .ok (.iand, 1) := dk_at dkB02decX3_4 12 rfl
theorem dJ6_bitCount_0f7a4_15 : decode cJ6_bitCount_0f7a4 15 = .ok (.iload_n 0, 1) := dk_at dkB02decX3_4 13 rfl
theorem dJ6_bitCount_0f7a4_16 : decode cJ6_bitCount_0f7a4 16 = .ok (.iconst 2, 1) := dk_at dkB02decX3_4 14 rfl
theorem dJ6_bitCount_0f7a4_17 : decode cJ6_bitCount_0f7a4 17 = .ok (.iushr, 1) := dk_at dkB02decX3_4 15 rfl
theorem dJ6_bitCount_0f7a4_18 : decode cJ6_bitCount_0f7a4 18 = .ok (.ldc_w 266, 3) := dk_at dkB02decX3_4 16 rfl
theorem dJ6_bitCount_0f7a4_21 : decode cJ6_bitCount_0f7a4 21 = .ok (.iand, 1) := dk_at dkB02decX3_4 17 rfl
theorem dJ6_bitCount_0f7a4_22 : decode cJ6_bitCount_0f7a4 22 = .ok (.iadd, 1) := dk_at dkB02decX3_4 18 rfl
theorem dJ6_bitCount_0f7a4_23 : decode cJ6_bitCount_0f7a4 23 = .ok (.istore_n 0, 1) := dk_at dkB02decX3_4 19 rfl
theorem dJ6_bitCount_0f7a4_24 : decode cJ6_bitCount_0f7a4 24 = .ok (.iload_n 0, 1) := dk_at dkB02decX3_4 20 rfl
theorem dJ6_bitCount_0f7a4_25 : decode cJ6_bitCount_0f7a4 25 = .ok (.iload_n 0, 1) := dk_at dkB02decX3_4 21 rfl
theorem dJ6_bitCount_0f7a4_26 : decode cJ6_bitCount_0f7a4 26 = .ok (.iconst 4, 1) := dk_at dkB02decX3_4 22 rfl
theorem dJ6_bitCount_0f7a4_27 : decode cJ6_bitCount_0f7a4 27 = .ok (.iushr, 1) := dk_at dkB02decX3_4 23 rfl
theorem dJ6_bitCount_0f7a4_28 : decode cJ6_bitCount_0f7a4 28 = .ok (.iadd, 1) := dk_at dkB02decX3_4 24 rfl
theorem dJ6_bitCount_0f7a4_29 : decode cJ6_bitCount_0f7a4 29 = .ok (.ldc_w 267, 3) := dk_at dkB02decX3_4 25 rfl
theorem dJ6_bitCount_0f7a4_32 : decode cJ6_bitCount_0f7a4 32 = .ok (.iand, 1) := dk_at dkB02decX3_4 26 rfl
theorem dJ6_bitCount_0f7a4_33 : decode cJ6_bitCount_0f7a4 33 = .ok (.istore_n 0, 1) := dk_at dkB02decX3_4 27 rfl
theorem dJ6_bitCount_0f7a4_34 : decode cJ6_bitCount_0f7a4 34 = .ok (.iload_n 0, 1) := dk_at dkB02decX3_4 28 rfl
theorem dJ6_bitCount_0f7a4_35 : decode cJ6_bitCount_0f7a4 35 = .ok (.iload_n 0, 1) := dk_at dkB02decX3_4 29 rfl
theorem dJ6_bitCount_0f7a4_36 : decode cJ6_bitCount_0f7a4 36 = .ok (.bipush 8, 2) := dk_at dkB02decX3_4 30 rfl
theorem dJ6_bitCount_0f7a4_38 : decode cJ6_bitCount_0f7a4 38 = .ok (.iushr, 1) := dk_at dkB02decX3_4 31 rfl
theorem dJ6_bitCount_0f7a4_39 : decode cJ6_bitCount_0f7a4 39 = .ok (.iadd, 1) := dk_at dkB02decX3_4 32 rfl
theorem dJ6_bitCount_0f7a4_40 : decode cJ6_bitCount_0f7a4 40 = .ok (.istore_n 0, 1) := dk_at dkB02decX3_4 33 rfl
theorem dJ6_bitCount_0f7a4_41 : decode cJ6_bitCount_0f7a4 41 = .ok (.iload_n 0, 1) := dk_at dkB02decX3_4 34 rfl
theorem dJ6_bitCount_0f7a4_42 : decode cJ6_bitCount_0f7a4 42 = .ok (.iload_n 0, 1) := dk_at dkB02decX3_4 35 rfl
theorem dJ6_bitCount_0f7a4_43 : decode cJ6_bitCount_0f7a4 43 = .ok (.bipush 16, 2) := dk_at dkB02decX3_4 36 rfl
theorem dJ6_bitCount_0f7a4_45 : decode cJ6_bitCount_0f7a4 45 = .ok (.iushr, 1) := dk_at dkB02decX3_4 37 rfl
theorem dJ6_bitCount_0f7a4_46 : decode cJ6_bitCount_0f7a4 46 = .ok (.iadd, 1) := dk_at dkB02decX3_4 38 rfl
theorem dJ6_bitCount_0f7a4_47 : decode cJ6_bitCount_0f7a4 47 = .ok (.istore_n 0, 1) := dk_at dkB02decX3_4 39 rfl
theorem dJ6_bitCount_0f7a4_48 : decode cJ6_bitCount_0f7a4 48 = .ok (.iload_n 0, 1) := dk_at dkB02decX3_4 40 rfl
theorem dJ6_bitCount_0f7a4_49 : decode cJ6_bitCount_0f7a4 49 = .ok (.bipush 63, 2) := dk_at dkB02decX3_4 41 rfl
theorem dJ6_bitCount_0f7a4_51 : decode cJ6_bitCount_0f7a4 51 = .ok (.iand, 1) := dk_at dkB02decX3_4 42 rfl
theorem dJ6_bitCount_0f7a4_52 : decode cJ6_bitCount_0f7a4 52 = .ok (.ireturn, 1) := dk_at dkB02decX3_4 43 rfl
theorem dJ9_max_7cf53_0 : decode cJ9_max_7cf53 0 = .ok (.iload_n 0, 1) := dk_at dkB02decX3_4 44 rfl
theorem dJ9_max_7cf53_1 : decode cJ9_max_7cf53 1 = .ok (.iload_n 1, 1) := dk_at dkB02decX3_4 45 rfl
theorem dJ9_max_7cf53_2 : decode cJ9_max_7cf53 2 = .ok (.if_icmp .lt 7, 3) := dk_at dkB02decX3_4 46 rfl
theorem dJ9_max_7cf53_5 : decode cJ9_max_7cf53 5 = .ok (.iload_n 0, 1) := dk_at dkB02decX3_4 47 rfl
theorem dJ9_max_7cf53_6 : decode cJ9_max_7cf53 6 = .ok (.goto 4, 3) := dk_at dkB02decX3_4 48 rfl
theorem dJ9_max_7cf53_9 : decode cJ9_max_7cf53 9 = .ok (.iload_n 1, 1) := dk_at dkB02decX3_4 49 rfl
theorem dJ9_max_7cf53_10 : decode cJ9_max_7cf53 10 = .ok (.ireturn, 1) := dk_at dkB02decX3_4 50 rfl
theorem dJ9_max_f86c9_0 : decode cJ9_max_f86c9 0 = .ok (.lload_n 0, 1) := dk_at dkB02decX3_4 51 rfl
theorem dJ9_max_f86c9_1 : decode cJ9_max_f86c9 1 = .ok (.lload_n 2, 1) := dk_at dkB02decX3_4 52 rfl
theorem dJ9_max_f86c9_2 : decode cJ9_max_f86c9 2 = .ok (.lcmp, 1) := dk_at dkB02decX3_4 53 rfl
theorem dJ9_max_f86c9_3 : decode cJ9_max_f86c9 3 = .ok (.ifCond .lt 7, 3) := dk_at dkB02decX3_4 54 rfl
theorem dJ9_max_f86c9_6 : decode cJ9_max_f86c9 6 = .ok (.lload_n 0, 1) := dk_at dkB02decX3_4 55 rfl
theorem dJ9_max_f86c9_7 : decode cJ9_max_f86c9 7 = .ok (.goto 4, 3) := dk_at dkB02decX3_4 56 rfl
theorem dJ9_max_f86c9_10 : decode cJ9_max_f86c9 10 = .ok (.lload_n 2, 1) := dk_at dkB02decX3_4 57 rfl
theorem dJ9_max_f86c9_11 : decode cJ9_max_f86c9 11 = .ok (.lreturn, 1) := dk_at dkB02decX3_4 58 rfl
theorem dJ9_min_7cf53_0 : decode cJ9_min_7cf53 0 = .ok (.iload_n 0, 1) := dk_at dkB02decX3_4 59 rfl
noncomputable def dkL02decX3_5 : List (ByteArray × Nat × Instr × Nat) := [(cJ9_min_7cf53, 1, (.iload_n 1, 1)), (cJ9_min_7cf53, 2, (.if_icmp .gt 7, 3)), (cJ9_min_7cf53, 5, (.iload_n 0, 1)), (cJ9_min_7cf53, 6, (.goto 4, 3)), (cJ9_min_7cf53, 9, (.iload_n 1, 1)), (cJ9_min_7cf53, 10, (.ireturn, 1)), (cJ7_rangeCheck_23922, 0, (.iload_n 1, 1)), (cJ7_rangeCheck_23922, 1, (.iload_n 2, 1)), (cJ7_rangeCheck_23922, 2, (.if_icmp .le 44, 3)), (cJ7_rangeCheck_23922, 5, (.new 43, 3)), (cJ7_rangeCheck_23922, 8, (.dup, 1)), (cJ7_rangeCheck_23922, 9, (.new 45, 3)), (cJ7_rangeCheck_23922, 12, (.dup, 1)), (cJ7_rangeCheck_23922, 13, (.invokespecial 47, 3)), (cJ7_rangeCheck_23922, 16, (.ldc 48, 2)), (cJ7_rangeCheck_23922, 18, (.invokevirtual 50, 3)), (cJ7_rangeCheck_23922, 21, (.iload_n 1, 1)), (cJ7_rangeCheck_23922, 22, (.invokevirtual 54, 3)), (cJ7_rangeCheck_23922, 25, (.ldc 57, 2)), (cJ7_rangeCheck_23922, 27, (.invokevirtual 50, 3)), (cJ7_rangeCheck_23922, 30, (.iload_n 2, 1)), (cJ7_rangeCheck_23922, 31, (.invokevirtual 54, 3)), (cJ7_rangeCheck_23922, 34, (.ldc 59, 2)), (cJ7_rangeCheck_23922, 36, (.invokevirtual 50, 3)), (cJ7_rangeCheck_23922, 39, (.invokevirtual 61, 3)), (cJ7_rangeCheck_23922, 42, (.invokespecial 65, 3)), (cJ7_rangeCheck_23922, 45, (.athrow, 1)), (cJ7_rangeCheck_23922, 46, (.iload_n 1, 1)), (cJ7_rangeCheck_23922, 47, (.ifCond .ge 12, 3)), (cJ7_rangeCheck_23922, 50, (.new 68, 3)), (cJ7_rangeCheck_23922, 53, (.dup, 1)), (cJ7_rangeCheck_23922, 54, (.iload_n 1, 1)), (cJ7_rangeCheck_23922, 55, (.invokespecial 70, 3)), (cJ7_rangeCheck_23922, 58, (.athrow, 1)), (cJ7_rangeCheck_23922, 59, (.iload_n 2, 1)), (cJ7_rangeCheck_23922, 60, (.iload_n 0, 1)), (cJ7_rangeCheck_23922, 61, (.if_icmp .le 12, 3)), (cJ7_rangeCheck_23922, 64, (.new 68, 3)), (cJ7_rangeCheck_23922, 67, (.dup, 1)), (cJ7_rangeCheck_23922, 68, (.iload_n 2, 1)), (cJ7_rangeCheck_23922, 69, (.invokespecial 70, 3)), (cJ7_rangeCheck_23922, 72, (.athrow, 1)), (cJ7_rangeCheck_23922, 73, (.return_, 1)), (cJ7_fill_d0a16, 0, (.iconst 0, 1)), (cJ7_fill_d0a16, 1, (.istore_n 3, 1)), (cJ7_fill_d0a16, 2, (.aload_n 0, 1)), (cJ7_fill_d0a16, 3, (.arraylength, 1)), (cJ7_fill_d0a16, 4, (.istore 4, 2)), (cJ7_fill_d0a16, 6, (.iload_n 3, 1)), (cJ7_fill_d0a16, 7, (.iload 4, 2)), (cJ7_fill_d0a16, 9, (.if_icmp .ge 13, 3)), (cJ7_fill_d0a16, 12, (.aload_n 0, 1)), (cJ7_fill_d0a16, 13, (.iload_n 3, 1)), (cJ7_fill_d0a16, 14, (.lload_n 1, 1)), (cJ7_fill_d0a16, 15, (.lastore, 1)), (cJ7_fill_d0a16, 16, (.iinc 3 1, 3)), (cJ7_fill_d0a16, 19, (.goto (-13), 3)), (cJ7_fill_d0a16, 22, (.return_, 1)), (cJ7_fill_bad5a, 0, (.aload_n 0, 1)), (cJ7_fill_bad5a, 1, (.arraylength, 1))]
theorem dkB02decX3_5 : dkL02decX3_5.all (fun q => decide (decode q.1 q.2.1 = .ok q.2.2)) = true := by decide +kernel
theorem dJ9_min_7cf53_1 : decode cJ9_min_7cf53 1 = .ok (.iload_n 1, 1) := dk_at dkB02decX3_5 0 rfl
theorem dJ9_min_7cf53_2 : decode cJ9_min_7cf53 2 = .ok (.if_icmp .gt 7, 3) := dk_at dkB02decX3_5 1 rfl
theorem dJ9_min_7cf53_5 : decode cJ9_min_7cf53 5 = .ok (.iload_n 0, 1) := dk_at dkB02decX3_5 2 rfl
theorem dJ9_min_7cf53_6 : decode cJ9_min_7cf53 6 = .ok (.goto 4, 3) := dk_at dkB02decX3_5 3 rfl
theorem dJ9_min_7cf53_9 : decode cJ9_min_7cf53 9 = .ok (.iload_n 1, 1) := dk_at dkB02decX3_5 4 rfl
theorem dJ9_min_7cf53_10 : decode cJ9_min_7cf53 10 = .ok (.ireturn, 1) := dk_at dkB02decX3_5 5 rfl
theorem dJ7_rangeCheck_23922_0 : decode cJ7_rangeCheck_23922 0 = .ok (.iload_n 1, 1) := dk_at dkB02decX3_5 6 rfl
theorem dJ7_rangeCheck_23922_1 : decode cJ7_rangeCheck_23922 1 = .ok (.iload_n 2, 1) := dk_at dkB02decX3_5 7 rfl
theorem dJ7_rangeCheck_23922_2 : decode cJ7_rangeCheck_23922 2 = .ok (.if_icmp .le 44, 3) := dk_at dkB02decX3_5 8 rfl
theorem dJ7_rangeCheck_23922_5 : decode cJ7_rangeCheck_23922 5 = .ok (.new 43, 3) := dk_at dkB02decX3_5 9 rfl
theorem dJ7_rangeCheck_23922_8 : decode cJ7_rangeCheck_23922 8 = .ok (.dup, 1) := dk_at dkB02decX3_5 10 rfl
theorem dJ7_rangeCheck_23922_9 : decode cJ7_rangeCheck_23922 9 = .ok (.new 45, 3) := dk_at dkB02decX3_5 11 rfl
theorem dJ7_rangeCheck_23922_12 : decode cJ7_rangeCheck_23922 12 = .ok (.dup, 1) := dk_at dkB02decX3_5 12 rfl
theorem dJ7_rangeCheck_23922_13 : decode cJ7_rangeCheck_23922 13 = .ok (.invokespecial 47, 3) := dk_at dkB02decX3_5 13 rfl
theorem dJ7_rangeCheck_23922_16 : decode cJ7_rangeCheck_23922 16 = .ok (.ldc 48, 2) := dk_at dkB02decX3_5 14 rfl
theorem dJ7_rangeCheck_23922_18 : decode cJ7_rangeCheck_23922 18 = .ok (.invokevirtual 50, 3) := dk_at dkB02decX3_5 15 rfl
theorem dJ7_rangeCheck_23922_21 : decode cJ7_rangeCheck_23922 21 = .ok (.iload_n 1, 1) := dk_at dkB02decX3_5 16 rfl
theorem dJ7_rangeCheck_23922_22 : decode cJ7_rangeCheck_23922 22 = .ok (.invokevirtual 54, 3) := dk_at dkB02decX3_5 17 rfl
theorem dJ7_rangeCheck_23922_25 : decode cJ7_rangeCheck_23922 25 = .ok (.ldc 57, 2) := dk_at dkB02decX3_5 18 rfl
theorem dJ7_rangeCheck_23922_27 : decode cJ7_rangeCheck_23922 27 = .ok (.invokevirtual 50, 3) := dk_at dkB02decX3_5 19 rfl
theorem dJ7_rangeCheck_23922_30 : decode cJ7_rangeCheck_23922 30 = .ok (.iload_n 2, 1) := dk_at dkB02decX3_5 20 rfl
theorem dJ7_rangeCheck_23922_31 : decode cJ7_rangeCheck_23922 31 = .ok (.invokevirtual 54, 3) := dk_at dkB02decX3_5 21 rfl
theorem dJ7_rangeCheck_23922_34 : decode cJ7_rangeCheck_23922 34 = .ok (.ldc 59, 2) := dk_at dkB02decX3_5 22 rfl
theorem dJ7_rangeCheck_23922_36 : decode cJ7_rangeCheck_23922 36 = .ok (.invokevirtual 50, 3) := dk_at dkB02decX3_5 23 rfl
theorem dJ7_rangeCheck_23922_39 : decode cJ7_rangeCheck_23922 39 = .ok (.invokevirtual 61, 3) := dk_at dkB02decX3_5 24 rfl
theorem dJ7_rangeCheck_23922_42 : decode cJ7_rangeCheck_23922 42 = .ok (.invokespecial 65, 3) := dk_at dkB02decX3_5 25 rfl
theorem dJ7_rangeCheck_23922_45 : decode cJ7_rangeCheck_23922 45 = .ok (.athrow, 1) := dk_at dkB02decX3_5 26 rfl
theorem dJ7_rangeCheck_23922_46 : decode cJ7_rangeCheck_23922 46 = .ok (.iload_n 1, 1) := dk_at dkB02decX3_5 27 rfl
theorem dJ7_rangeCheck_23922_47 : decode cJ7_rangeCheck_23922 47 = .ok (.ifCond .ge 12, 3) := dk_at dkB02decX3_5 28 rfl
theorem dJ7_rangeCheck_23922_50 : decode cJ7_rangeCheck_23922 50 = .ok (.new 68, 3) := dk_at dkB02decX3_5 29 rfl
theorem dJ7_rangeCheck_23922_53 : decode cJ7_rangeCheck_23922 53 = .ok (.dup, 1) := dk_at dkB02decX3_5 30 rfl
theorem dJ7_rangeCheck_23922_54 : decode cJ7_rangeCheck_23922 54 = .ok (.iload_n 1, 1) := dk_at dkB02decX3_5 31 rfl
theorem dJ7_rangeCheck_23922_55 : decode cJ7_rangeCheck_23922 55 = .ok (.invokespecial 70, 3) := dk_at dkB02decX3_5 32 rfl
theorem dJ7_rangeCheck_23922_58 : decode cJ7_rangeCheck_23922 58 = .ok (.athrow, 1) := dk_at dkB02decX3_5 33 rfl
theorem dJ7_rangeCheck_23922_59 : decode cJ7_rangeCheck_23922 59 = .ok (.iload_n 2, 1) := dk_at dkB02decX3_5 34 rfl
theorem dJ7_rangeCheck_23922_60 : decode cJ7_rangeCheck_23922 60 = .ok (.iload_n 0, 1) := dk_at dkB02decX3_5 35 rfl
theorem dJ7_rangeCheck_23922_61 : decode cJ7_rangeCheck_23922 61 = .ok (.if_icmp .le 12, 3) := dk_at dkB02decX3_5 36 rfl
theorem dJ7_rangeCheck_23922_64 : decode cJ7_rangeCheck_23922 64 = .ok (.new 68, 3) := dk_at dkB02decX3_5 37 rfl
theorem dJ7_rangeCheck_23922_67 : decode cJ7_rangeCheck_23922 67 = .ok (.dup, 1) := dk_at dkB02decX3_5 38 rfl
theorem dJ7_rangeCheck_23922_68 : decode cJ7_rangeCheck_23922 68 = .ok (.iload_n 2, 1) := dk_at dkB02decX3_5 39 rfl
theorem dJ7_rangeCheck_23922_69 : decode cJ7_rangeCheck_23922 69 = .ok (.invokespecial 70, 3) := dk_at dkB02decX3_5 40 rfl
theorem dJ7_rangeCheck_23922_72 : decode cJ7_rangeCheck_23922 72 = .ok (.athrow, 1) := dk_at dkB02decX3_5 41 rfl
theorem dJ7_rangeCheck_23922_73 : decode cJ7_rangeCheck_23922 73 = .ok (.return_, 1) := dk_at dkB02decX3_5 42 rfl
theorem dJ7_fill_d0a16_0 : decode cJ7_fill_d0a16 0 = .ok (.iconst 0, 1) := dk_at dkB02decX3_5 43 rfl
theorem dJ7_fill_d0a16_1 : decode cJ7_fill_d0a16 1 = .ok (.istore_n 3, 1) := dk_at dkB02decX3_5 44 rfl
theorem dJ7_fill_d0a16_2 : decode cJ7_fill_d0a16 2 = .ok (.aload_n 0, 1) := dk_at dkB02decX3_5 45 rfl
theorem dJ7_fill_d0a16_3 : decode cJ7_fill_d0a16 3 = .ok (.arraylength, 1) := dk_at dkB02decX3_5 46 rfl
theorem dJ7_fill_d0a16_4 : decode cJ7_fill_d0a16 4 = .ok (.istore 4, 2) := dk_at dkB02decX3_5 47 rfl
theorem dJ7_fill_d0a16_6 : decode cJ7_fill_d0a16 6 = .ok (.iload_n 3, 1) := dk_at dkB02decX3_5 48 rfl
theorem dJ7_fill_d0a16_7 : decode cJ7_fill_d0a16 7 = .ok (.iload 4, 2) := dk_at dkB02decX3_5 49 rfl
theorem dJ7_fill_d0a16_9 : decode cJ7_fill_d0a16 9 = .ok (.if_icmp .ge 13, 3) := dk_at dkB02decX3_5 50 rfl
theorem dJ7_fill_d0a16_12 : decode cJ7_fill_d0a16 12 = .ok (.aload_n 0, 1) := dk_at dkB02decX3_5 51 rfl
theorem dJ7_fill_d0a16_13 : decode cJ7_fill_d0a16 13 = .ok (.iload_n 3, 1) := dk_at dkB02decX3_5 52 rfl
theorem dJ7_fill_d0a16_14 : decode cJ7_fill_d0a16 14 = .ok (.lload_n 1, 1) := dk_at dkB02decX3_5 53 rfl
theorem dJ7_fill_d0a16_15 : decode cJ7_fill_d0a16 15 = .ok (.lastore, 1) := dk_at dkB02decX3_5 54 rfl
theorem dJ7_fill_d0a16_16 : decode cJ7_fill_d0a16 16 = .ok (.iinc 3 1, 3) := dk_at dkB02decX3_5 55 rfl
theorem dJ7_fill_d0a16_19 : decode cJ7_fill_d0a16 19 = .ok (.goto (-13), 3) := dk_at dkB02decX3_5 56 rfl
theorem dJ7_fill_d0a16_22 : decode cJ7_fill_d0a16 22 = .ok (.return_, 1) := dk_at dkB02decX3_5 57 rfl
theorem dJ7_fill_bad5a_0 : decode cJ7_fill_bad5a 0 = .ok (.aload_n 0, 1) := dk_at dkB02decX3_5 58 rfl
theorem dJ7_fill_bad5a_1 : decode cJ7_fill_bad5a 1 = .ok (.arraylength, 1) := dk_at dkB02decX3_5 59 rfl
noncomputable def dkL02decX3_6 : List (ByteArray × Nat × Instr × Nat) := [(cJ7_fill_bad5a, 2, (.iload_n 1, 1)), (cJ7_fill_bad5a, 3, (.iload_n 2, 1)), (cJ7_fill_bad5a, 4, (.invokestatic 13, 3)), (cJ7_fill_bad5a, 7, (.iload_n 1, 1)), (cJ7_fill_bad5a, 8, (.istore 5, 2)), (cJ7_fill_bad5a, 10, (.iload 5, 2)), (cJ7_fill_bad5a, 12, (.iload_n 2, 1)), (cJ7_fill_bad5a, 13, (.if_icmp .ge 14, 3)), (cJ7_fill_bad5a, 16, (.aload_n 0, 1)), (cJ7_fill_bad5a, 17, (.iload 5, 2)), (cJ7_fill_bad5a, 19, (.lload_n 3, 1)), (cJ7_fill_bad5a, 20, (.lastore, 1)), (cJ7_fill_bad5a, 21, (.iinc 5 1, 3)), (cJ7_fill_bad5a, 24, (.goto (-14), 3)), (cJ7_fill_bad5a, 27, (.return_, 1)), (cJ7_fill_53178, 0, (.iconst 0, 1)), (cJ7_fill_53178, 1, (.istore_n 2, 1)), (cJ7_fill_53178, 2, (.aload_n 0, 1)), (cJ7_fill_53178, 3, (.arraylength, 1)), (cJ7_fill_53178, 4, (.istore_n 3, 1)), (cJ7_fill_53178, 5, (.iload_n 2, 1)), (cJ7_fill_53178, 6, (.iload_n 3, 1)), (cJ7_fill_53178, 7, (.if_icmp .ge 13, 3)), (cJ7_fill_53178, 10, (.aload_n 0, 1)), (cJ7_fill_53178, 11, (.iload_n 2, 1)), (cJ7_fill_53178, 12, (.iload_n 1, 1)), (cJ7_fill_53178, 13, (.iastore, 1)), (cJ7_fill_53178, 14, (.iinc 2 1, 3)), (cJ7_fill_53178, 17, (.goto (-12), 3)), (cJ7_fill_53178, 20, (.return_, 1))]
theorem dkB02decX3_6 : dkL02decX3_6.all (fun q => decide (decode q.1 q.2.1 = .ok q.2.2)) = true := by decide +kernel
theorem dJ7_fill_bad5a_2 : decode cJ7_fill_bad5a 2 = .ok (.iload_n 1, 1) := dk_at dkB02decX3_6 0 rfl
theorem dJ7_fill_bad5a_3 : decode cJ7_fill_bad5a 3 = .ok (.iload_n 2, 1) := dk_at dkB02decX3_6 1 rfl
theorem dJ7_fill_bad5a_4 : decode cJ7_fill_bad5a 4 = .ok (.invokestatic 13, 3) := dk_at dkB02decX3_6 2 rfl
theorem dJ7_fill_bad5a_7 : decode cJ7_fill_bad5a 7 = .ok (.iload_n 1, 1) := dk_at dkB02decX3_6 3 rfl
theorem dJ7_fill_bad5a_8 : decode cJ7_fill_bad5a 8 = .ok (.istore 5, 2) := dk_at dkB02decX3_6 4 rfl
theorem dJ7_fill_bad5a_10 : decode cJ7_fill_bad5a 10 = .ok (.iload 5, 2) := dk_at dkB02decX3_6 5 rfl
theorem dJ7_fill_bad5a_12 : decode cJ7_fill_bad5a 12 = .ok (.iload_n 2, 1) := dk_at dkB02decX3_6 6 rfl
theorem dJ7_fill_bad5a_13 : decode cJ7_fill_bad5a 13 = .ok (.if_icmp .ge 14, 3) := dk_at dkB02decX3_6 7 rfl
theorem dJ7_fill_bad5a_16 : decode cJ7_fill_bad5a 16 = .ok (.aload_n 0, 1) := dk_at dkB02decX3_6 8 rfl
theorem dJ7_fill_bad5a_17 : decode cJ7_fill_bad5a 17 = .ok (.iload 5, 2) := dk_at dkB02decX3_6 9 rfl
theorem dJ7_fill_bad5a_19 : decode cJ7_fill_bad5a 19 = .ok (.lload_n 3, 1) := dk_at dkB02decX3_6 10 rfl
theorem dJ7_fill_bad5a_20 : decode cJ7_fill_bad5a 20 = .ok (.lastore, 1) := dk_at dkB02decX3_6 11 rfl
theorem dJ7_fill_bad5a_21 : decode cJ7_fill_bad5a 21 = .ok (.iinc 5 1, 3) := dk_at dkB02decX3_6 12 rfl
theorem dJ7_fill_bad5a_24 : decode cJ7_fill_bad5a 24 = .ok (.goto (-14), 3) := dk_at dkB02decX3_6 13 rfl
theorem dJ7_fill_bad5a_27 : decode cJ7_fill_bad5a 27 = .ok (.return_, 1) := dk_at dkB02decX3_6 14 rfl
theorem dJ7_fill_53178_0 : decode cJ7_fill_53178 0 = .ok (.iconst 0, 1) := dk_at dkB02decX3_6 15 rfl
theorem dJ7_fill_53178_1 : decode cJ7_fill_53178 1 = .ok (.istore_n 2, 1) := dk_at dkB02decX3_6 16 rfl
theorem dJ7_fill_53178_2 : decode cJ7_fill_53178 2 = .ok (.aload_n 0, 1) := dk_at dkB02decX3_6 17 rfl
theorem dJ7_fill_53178_3 : decode cJ7_fill_53178 3 = .ok (.arraylength, 1) := dk_at dkB02decX3_6 18 rfl
theorem dJ7_fill_53178_4 : decode cJ7_fill_53178 4 = .ok (.istore_n 3, 1) := dk_at dkB02decX3_6 19 rfl
theorem dJ7_fill_53178_5 : decode cJ7_fill_53178 5 = .ok (.iload_n 2, 1) := dk_at dkB02decX3_6 20 rfl
theorem dJ7_fill_53178_6 : decode cJ7_fill_53178 6 = .ok (.iload_n 3, 1) := dk_at dkB02decX3_6 21 rfl
theorem dJ7_fill_53178_7 : decode cJ7_fill_53178 7 = .ok (.if_icmp .ge 13, 3) := dk_at dkB02decX3_6 22 rfl
theorem dJ7_fill_53178_10 : decode cJ7_fill_53178 10 = .ok (.aload_n 0, 1) := dk_at dkB02decX3_6 23 rfl
theorem dJ7_fill_53178_11 : decode cJ7_fill_53178 11 = .ok (.iload_n 2, 1) := dk_at dkB02decX3_6 24 rfl
theorem dJ7_fill_53178_12 : decode cJ7_fill_53178 12 = .ok (.iload_n 1, 1) := dk_at dkB02decX3_6 25 rfl
theorem dJ7_fill_53178_13 : decode cJ7_fill_53178 13 = .ok (.iastore, 1) := dk_at dkB02decX3_6 26 rfl
theorem dJ7_fill_53178_14 : decode cJ7_fill_53178 14 = .ok (.iinc 2 1, 3) := dk_at dkB02decX3_6 27 rfl
theorem dJ7_fill_53178_17 : decode cJ7_fill_53178 17 = .ok (.goto (-12), 3) := dk_at dkB02decX3_6 28 rfl
theorem dJ7_fill_53178_20 : decode cJ7_fill_53178 20 = .ok (.return_, 1) := dk_at dkB02decX3_6 29 rfl
