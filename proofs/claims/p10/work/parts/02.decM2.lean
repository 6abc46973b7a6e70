noncomputable def dkL02decM2_0 : List (ByteArray × Nat × Instr × Nat) := [(cX11_keepFirst, 35, (.iload_n 1, 1)), (cX11_keepFirst, 36, (.aload_n 0, 1)), (cX11_keepFirst, 37, (.getfield 19, 3)), (cX11_keepFirst, 40, (.iload_n 1, 1)), (cX11_keepFirst, 41, (.iaload, 1)), (cX11_keepFirst, 42, (.iastore, 1)), (cX11_keepFirst, 43, (.iconst 0, 1)), (cX11_keepFirst, 44, (.istore_n 2, 1)), (cX11_keepFirst, 45, (.iload_n 2, 1)), (cX11_keepFirst, 46, (.bipush 24, 2)), (cX11_keepFirst, 48, (.if_icmp .ge 26, 3)), (cX11_keepFirst, 51, (.aload_n 0, 1)), (cX11_keepFirst, 52, (.getfield 44, 3)), (cX11_keepFirst, 55, (.bipush 24, 2)), (cX11_keepFirst, 57, (.iload_n 1, 1)), (cX11_keepFirst, 58, (.imul, 1)), (cX11_keepFirst, 59, (.iload_n 2, 1)), (cX11_keepFirst, 60, (.iadd, 1)), (cX11_keepFirst, 61, (.aload_n 0, 1)), (cX11_keepFirst, 62, (.iload_n 1, 1)), (cX11_keepFirst, 63, (.iload_n 2, 1)), (cX11_keepFirst, 64, (.invokevirtual 243, 3)), (cX11_keepFirst, 67, (.lastore, 1)), (cX11_keepFirst, 68, (.iinc 2 1, 3)), (cX11_keepFirst, 71, (.goto (-26), 3)), (cX11_keepFirst, 74, (.iinc 1 1, 3)), (cX11_keepFirst, 77, (.goto (-54), 3)), (cX11_keepFirst, 80, (.return_, 1)), (cX11_together, 0, (.lconst 0, 1)), (cX11_together, 1, (.lstore_n 3, 1)), (cX11_together, 2, (.iconst 0, 1)), (cX11_together, 3, (.istore 5, 2)), (cX11_together, 5, (.iload 5, 2)), (cX11_together, 7, (.bipush 24, 2)), (cX11_together, 9, (.if_icmp .ge 32, 3)), (cX11_together, 12, (.lload_n 3, 1)), (cX11_together, 13, (.aload_n 0, 1)), (cX11_together, 14, (.getfield 44, 3)), (cX11_together, 17, (.bipush 24, 2)), (cX11_together, 19, (.iload_n 1, 1)), (cX11_together, 20, (.imul, 1)), (cX11_together, 21, (.iload 5, 2)), (cX11_together, 23, (.iadd, 1)), (cX11_together, 24, (.laload, 1)), (cX11_together, 25, (.aload_n 0, 1)), (cX11_together, 26, (.iload_n 2, 1)), (cX11_together, 27, (.iload 5, 2)), (cX11_together, 29, (.invokevirtual 243, 3)), (cX11_together, 32, (.lmul, 1)), (cX11_together, 33, (.ladd, 1)), (cX11_together, 34, (.lstore_n 3, 1)), (cX11_together, 35, (.iinc 5 1, 3)), (cX11_together, 38, (.goto (-33), 3)), (cX11_together, 41, (.lload_n 3, 1)), (cX11_together, 42, (.lreturn, 1)), (cX11_oneYear, 0, (.aload_n 0, 1)), (cX11_oneYear, 1, (.iconst 0, 1)), (cX11_oneYear, 2, (.iload_n 1, 1)), (cX11_oneYear, 3, (.invokevirtual 174, 3)), (cX11_oneYear, 6, (.ifCond .eq 22, 3))]
theorem dkB02decM2_0 : dkL02decM2_0.all (fun q => decide (decode q.1 q.2.1 = .ok q.2.2)) = true := by decide +kernel
theorem dX11_keepFirst_35 : decode cX11_keepFirst 35 = .ok (.iload_n 1, 1) := dk_at dkB02decM2_0 0 rfl
theorem dX11_keepFirst_36 : decode cX11_keepFirst 36 = .ok (.aload_n 0, 1) := dk_at dkB02decM2_0 1 rfl
theorem dX11_keepFirst_37 : decode cX11_keepFirst 37 = .ok (.getfield 19, 3) := dk_at dkB02decM2_0 2 rfl
theorem dX11_keepFirst_40 : decode cX11_keepFirst 40 = .ok (.iload_n 1, 1) := dk_at dkB02decM2_0 3 rfl
theorem dX11_keepFirst_41 : decode cX11_keepFirst 41 = .ok (.iaload, 1) := dk_at dkB02decM2_0 4 rfl
theorem dX11_keepFirst_42 : decode cX11_keepFirst 42 = .ok (.iastore, 1) := dk_at dkB02decM2_0 5 rfl
theorem dX11_keepFirst_43 : decode cX11_keepFirst 43 = .ok (.iconst 0, 1) := dk_at dkB02decM2_0 6 rfl
theorem dX11_keepFirst_44 : decode cX11_keepFirst 44 = .ok (.istore_n 2, 1) := dk_at dkB02decM2_0 7 rfl
theorem dX11_keepFirst_45 : decode cX11_keepFirst 45 = .ok (.iload_n 2, 1) := dk_at dkB02decM2_0 8 rfl
theorem dX11_keepFirst_46 : decode cX11_keepFirst 46 = .ok (.bipush 24, 2) := dk_at dkB02decM2_0 9 rfl
theorem dX11_keepFirst_48 : decode cX11_keepFirst 48 = .ok (.if_icmp .ge 26, 3) := dk_at dkB02decM2_0 10 rfl
theorem dX11_keepFirst_51 : decode cX11_keepFirst 51 = .ok (.aload_n 0, 1) := dk_at dkB02decM2_0 11 rfl
theorem dX11_keepFirst_52 : decode cX11_keepFirst 52 = .ok (.getfield 44, 3) := dk_at dkB02decM2_0 12 rfl
theorem dX11_keepFirst_55 : decode cX11_keepFirst 55 = .ok (.bipush 24, 2) := dk_at dkB02decM2_0 13 rfl
theorem dX11_keepFirst_57 : decode cX11_keepFirst 57 = .ok (.iload_n 1, 1) := dk_at dkB02decM2_0 14 rfl
theorem dX11_keepFirst_58 : decode cX11_keepFirst 58 = .ok (.imul, 1) := dk_at dkB02decM2_0 15 rfl
theorem dX11_keepFirst_59 : decode cX11_keepFirst 59 = .ok (.iload_n 2, 1) := dk_at dkB02decM2_0 16 rfl
theorem dX11_keepFirst_60 : decode cX11_keepFirst 60 = .ok (.iadd, 1) := dk_at dkB02decM2_0 17 rfl
theorem dX11_keepFirst_61 : decode cX11_keepFirst 61 = .ok (.aload_n 0, 1) := dk_at dkB02decM2_0 18 rfl
theorem dX11_keepFirst_62 : decode cX11_keepFirst 62 = .ok (.iload_n 1, 1) := dk_at dkB02decM2_0 19 rfl
theorem dX11_keepFirst_63 : decode cX11_keepFirst 63 = .ok (.iload_n 2, 1) := dk_at dkB02decM2_0 20 rfl
theorem dX11_keepFirst_64 : decode cX11_keepFirst 64 = .ok (.invokevirtual 243, 3) := dk_at dkB02decM2_0 21 rfl
theorem dX11_keepFirst_67 : decode cX11_keepFirst 67 = .ok (.lastore, 1) := dk_at dkB02decM2_0 22 rfl
theorem dX11_keepFirst_68 : decode cX11_keepFirst 68 = .ok (.iinc 2 1, 3) := dk_at dkB02decM2_0 23 rfl
theorem dX11_keepFirst_71 : decode cX11_keepFirst 71 = .ok (.goto (-26), 3) := dk_at dkB02decM2_0 24 rfl
theorem dX11_keepFirst_74 : decode cX11_keepFirst 74 = .ok (.iinc 1 1, 3) := dk_at dkB02decM2_0 25 rfl
theorem dX11_keepFirst_77 : decode cX11_keepFirst 77 = .ok (.goto (-54), 3) := dk_at dkB02decM2_0 26 rfl
theorem dX11_keepFirst_80 : decode cX11_keepFirst 80 = .ok (.return_, 1) := dk_at dkB02decM2_0 27 rfl
theorem dX11_together_0 : decode cX11_together 0 = .ok (.lconst 0, 1) := dk_at dkB02decM2_0 28 rfl
theorem dX11_together_1 : decode cX11_together 1 = .ok (.lstore_n 3, 1) := dk_at dkB02decM2_0 29 rfl
theorem dX11_together_2 : decode cX11_together 2 = .ok (.iconst 0, 1) := dk_at dkB02decM2_0 30 rfl
theorem dX11_together_3 : decode cX11_together 3 = .ok (.istore 5, 2) := dk_at dkB02decM2_0 31 rfl
theorem dX11_together_5 : decode cX11_together 5 = .ok (.iload 5, 2) := dk_at dkB02decM2_0 32 rfl
theorem dX11_together_7 : decode cX11_together 7 = .ok (.bipush 24, 2) := dk_at dkB02decM2_0 33 rfl
theorem dX11_together_9 : decode cX11_together 9 = .ok (.if_icmp .ge 32, 3) := dk_at dkB02decM2_0 34 rfl
theorem dX11_together_12 : decode cX11_together 12 = .ok (.lload_n 3, 1) := dk_at dkB02decM2_0 35 rfl
theorem dX11_together_13 : decode cX11_together 13 = .ok (.aload_n 0, 1) := dk_at dkB02decM2_0 36 rfl
theorem dX11_together_14 : decode cX11_together 14 = .ok (.getfield 44, 3) := dk_at dkB02decM2_0 37 rfl
theorem dX11_together_17 : decode cX11_together 17 = .ok (.bipush 24, 2) := dk_at dkB02decM2_0 38 rfl
theorem dX11_together_19 : decode cX11_together 19 = .ok (.iload_n 1, 1) := dk_at dkB02decM2_0 39 rfl
theorem dX11_together_20 : decode cX11_together 20 = .ok (.imul, 1) := dk_at dkB02decM2_0 40 rfl
theorem dX11_together_21 : decode cX11_together 21 = .ok (.iload 5, 2) := dk_at dkB02decM2_0 41 rfl
theorem dX11_together_23 : decode cX11_together 23 = .ok (.iadd, 1) := dk_at dkB02decM2_0 42 rfl
theorem dX11_together_24 : decode cX11_together 24 = .ok (.laload, 1) := dk_at dkB02decM2_0 43 rfl
theorem dX11_together_25 : decode cX11_together 25 = .ok (.aload_n 0, 1) := dk_at dkB02decM2_0 44 rfl
theorem dX11_together_26 : decode cX11_together 26 = .ok (.iload_n 2, 1) := dk_at dkB02decM2_0 45 rfl
theorem dX11_together_27 : decode cX11_together 27 = .ok (.iload 5, 2) := dk_at dkB02decM2_0 46 rfl
theorem dX11_together_29 : decode cX11_together 29 = .ok (.invokevirtual 243, 3) := dk_at dkB02decM2_0 47 rfl
theorem dX11_together_32 : decode cX11_together 32 = .ok (.lmul, 1) := dk_at dkB02decM2_0 48 rfl
theorem dX11_together_33 : decode cX11_together 33 = .ok (.ladd, 1) := dk_at dkB02decM2_0 49 rfl
theorem dX11_together_34 : decode cX11_together 34 = .ok (.lstore_n 3, 1) := dk_at dkB02decM2_0 50 rfl
theorem dX11_together_35 : decode cX11_together 35 = .ok (.iinc 5 1, 3) := dk_at dkB02decM2_0 51 rfl
theorem dX11_together_38 : decode cX11_together 38 = .ok (.goto (-33), 3) := dk_at dkB02decM2_0 52 rfl
theorem dX11_together_41 : decode cX11_together 41 = .ok (.lload_n 3, 1) := dk_at dkB02decM2_0 53 rfl
theorem dX11_together_42 : decode cX11_together 42 = .ok (.lreturn, 1) := dk_at dkB02decM2_0 54 rfl
theorem dX11_oneYear_0 : decode cX11_oneYear 0 = .ok (.aload_n 0, 1) := dk_at dkB02decM2_0 55 rfl
theorem dX11_oneYear_1 : decode cX11_oneYear 1 = .ok (.iconst 0, 1) := dk_at dkB02decM2_0 56 rfl
theorem dX11_oneYear_2 : decode cX11_oneYear 2 = .ok (.iload_n 1, 1) := dk_at dkB02decM2_0 57 rfl
theorem dX11_oneYear_3 : decode cX11_oneYear 3 = .ok (.invokevirtual 174, 3) := dk_at dkB02decM2_0 58 rfl
theorem dX11_oneYear_6 : decode cX11_oneYear 6 = .ok (.ifCond .eq 22, 3) := dk_at dkB02decM2_0 59 rfl
noncomputable def dkL02decM2_1 : List (ByteArray × Nat × Instr × Nat) := [(cX11_oneYear, 9, (.aload_n 0, 1)), (cX11_oneYear, 10, (.iconst 1, 1)), (cX11_oneYear, 11, (.iload_n 2, 1)), (cX11_oneYear, 12, (.invokevirtual 174, 3)), (cX11_oneYear, 15, (.ifCond .eq 13, 3)), (cX11_oneYear, 18, (.iload_n 3, 1)), (cX11_oneYear, 19, (.i2l, 1)), (cX11_oneYear, 20, (.lconst 0, 1)), (cX11_oneYear, 21, (.lconst 1, 1)), (cX11_oneYear, 22, (.invokestatic 70, 3)), (cX11_oneYear, 25, (.ifCond .ne 7, 3)), (cX11_oneYear, 28, (.ldc2_w 236, 3)), (cX11_oneYear, 31, (.lreturn, 1)), (cX11_oneYear, 32, (.aload_n 0, 1)), (cX11_oneYear, 33, (.iconst 0, 1)), (cX11_oneYear, 34, (.iload_n 1, 1)), (cX11_oneYear, 35, (.invokevirtual 177, 3)), (cX11_oneYear, 38, (.iconst 2, 1)), (cX11_oneYear, 39, (.if_icmp .eq 13, 3)), (cX11_oneYear, 42, (.aload_n 0, 1)), (cX11_oneYear, 43, (.iconst 1, 1)), (cX11_oneYear, 44, (.iload_n 2, 1)), (cX11_oneYear, 45, (.invokevirtual 177, 3)), (cX11_oneYear, 48, (.iconst 2, 1)), (cX11_oneYear, 49, (.if_icmp .ne 7, 3)), (cX11_oneYear, 52, (.ldc2_w 288, 3)), (cX11_oneYear, 55, (.lreturn, 1)), (cX11_oneYear, 56, (.aload_n 0, 1)), (cX11_oneYear, 57, (.invokevirtual 290, 3)), (cX11_oneYear, 60, (.aload_n 0, 1)), (cX11_oneYear, 61, (.iload_n 1, 1)), (cX11_oneYear, 62, (.invokevirtual 206, 3)), (cX11_oneYear, 65, (.istore 4, 2)), (cX11_oneYear, 67, (.aload_n 0, 1)), (cX11_oneYear, 68, (.iconst 1, 1)), (cX11_oneYear, 69, (.invokevirtual 240, 3)), (cX11_oneYear, 72, (.aload_n 0, 1)), (cX11_oneYear, 73, (.getfield 285, 3)), (cX11_oneYear, 76, (.lconst 0, 1)), (cX11_oneYear, 77, (.lcmp, 1)), (cX11_oneYear, 78, (.ifCond .eq 12, 3)), (cX11_oneYear, 81, (.aload_n 0, 1)), (cX11_oneYear, 82, (.getfield 217, 3)), (cX11_oneYear, 85, (.lconst 0, 1)), (cX11_oneYear, 86, (.lcmp, 1)), (cX11_oneYear, 87, (.ifCond .ne 7, 3)), (cX11_oneYear, 90, (.ldc2_w 293, 3)), (cX11_oneYear, 93, (.lreturn, 1)), (cX11_oneYear, 94, (.aload_n 0, 1)), (cX11_oneYear, 95, (.iload 4, 2)), (cX11_oneYear, 97, (.aload_n 0, 1)), (cX11_oneYear, 98, (.iload_n 2, 1)), (cX11_oneYear, 99, (.invokevirtual 206, 3)), (cX11_oneYear, 102, (.invokevirtual 295, 3)), (cX11_oneYear, 105, (.aload_n 0, 1)), (cX11_oneYear, 106, (.getfield 285, 3)), (cX11_oneYear, 109, (.aload_n 0, 1)), (cX11_oneYear, 110, (.getfield 217, 3)), (cX11_oneYear, 113, (.lmul, 1)), (cX11_oneYear, 114, (.iload_n 3, 1))]
theorem dkB02decM2_1 : dkL02decM2_1.all (fun q => decide (decode q.1 q.2.1 = .ok q.2.2)) = true := by decide +kernel
theorem dX11_oneYear_9 : decode cX11_oneYear 9 = .ok (.aload_n 0, 1) := dk_at dkB02decM2_1 0 rfl
theorem dX11_oneYear_10 : decode cX11_oneYear 10 = .ok (.iconst 1, 1) := dk_at dkB02decM2_1 1 rfl
theorem dX11_oneYear_11 : decode cX11_oneYear 11 = .ok (.iload_n 2, 1) := dk_at dkB02decM2_1 2 rfl
theorem dX11_oneYear_12 : decode cX11_oneYear 12 = .ok (.invokevirtual 174, 3) := dk_at dkB02decM2_1 3 rfl
theorem dX11_oneYear_15 : decode cX11_oneYear 15 = .ok (.ifCond .eq 13, 3) := dk_at dkB02decM2_1 4 rfl
theorem dX11_oneYear_18 : decode cX11_oneYear 18 = .ok (.iload_n 3, 1) := dk_at dkB02decM2_1 5 rfl
theorem dX11_oneYear_19 : decode cX11_oneYear 19 = .ok (.i2l, 1) := dk_at dkB02decM2_1 6 rfl
theorem dX11_oneYear_20 : decode cX11_oneYear 20 = .ok (.lconst 0, 1) := dk_at dkB02decM2_1 7 rfl
theorem dX11_oneYear_21 : decode cX11_oneYear 21 = .ok (.lconst 1, 1) := dk_at dkB02decM2_1 8 rfl
theorem dX11_oneYear_22 : decode cX11_oneYear 22 = .ok (.invokestatic 70, 3) := dk_at dkB02decM2_1 9 rfl
theorem dX11_oneYear_25 : decode cX11_oneYear 25 = .ok (.ifCond .ne 7, 3) := dk_at dkB02decM2_1 10 rfl
theorem dX11_oneYear_28 : decode cX11_oneYear 28 = .ok (.ldc2_w 236, 3) := dk_at dkB02decM2_1 11 rfl
theorem dX11_oneYear_31 : decode cX11_oneYear 31 = .ok (.lreturn, 1) := dk_at dkB02decM2_1 12 rfl
theorem dX11_oneYear_32 : decode cX11_oneYear 32 = .ok (.aload_n 0, 1) := dk_at dkB02decM2_1 13 rfl
theorem dX11_oneYear_33 : decode cX11_oneYear 33 = .ok (.iconst 0, 1) := dk_at dkB02decM2_1 14 rfl
theorem dX11_oneYear_34 : decode cX11_oneYear 34 = .ok (.iload_n 1, 1) := dk_at dkB02decM2_1 15 rfl
theorem dX11_oneYear_35 : decode cX11_oneYear 35 = .ok (.invokevirtual 177, 3) := dk_at dkB02decM2_1 16 rfl
theorem dX11_oneYear_38 : decode cX11_oneYear 38 = .ok (.iconst 2, 1) := dk_at dkB02decM2_1 17 rfl
theorem dX11_oneYear_39 : decode cX11_oneYear 39 = .ok (.if_icmp .eq 13, 3) := dk_at dkB02decM2_1 18 rfl
theorem dX11_oneYear_42 : decode cX11_oneYear 42 = .ok (.aload_n 0, 1) := dk_at dkB02decM2_1 19 rfl
theorem dX11_oneYear_43 : decode cX11_oneYear 43 = .ok (.iconst 1, 1) := dk_at dkB02decM2_1 20 rfl
theorem dX11_oneYear_44 : decode cX11_oneYear 44 = .ok (.iload_n 2, 1) := dk_at dkB02decM2_1 21 rfl
theorem dX11_oneYear_45 : decode cX11_oneYear 45 = .ok (.invokevirtual 177, 3) := dk_at dkB02decM2_1 22 rfl
theorem dX11_oneYear_48 : decode cX11_oneYear 48 = .ok (.iconst 2, 1) := dk_at dkB02decM2_1 23 rfl
theorem dX11_oneYear_49 : decode cX11_oneYear 49 = .ok (.if_icmp .ne 7, 3) := dk_at dkB02decM2_1 24 rfl
theorem dX11_oneYear_52 : decode cX11_oneYear 52 = .ok (.ldc2_w 288, 3) := dk_at dkB02decM2_1 25 rfl
theorem dX11_oneYear_55 : decode cX11_oneYear 55 = .ok (.lreturn, 1) := dk_at dkB02decM2_1 26 rfl
theorem dX11_oneYear_56 : decode cX11_oneYear 56 = .ok (.aload_n 0, 1) := dk_at dkB02decM2_1 27 rfl
theorem dX11_oneYear_57 : decode cX11_oneYear 57 = .ok (.invokevirtual 290, 3) := dk_at dkB02decM2_1 28 rfl
theorem dX11_oneYear_60 : decode cX11_oneYear 60 = .ok (.aload_n 0, 1) := dk_at dkB02decM2_1 29 rfl
theorem dX11_oneYear_61 : decode cX11_oneYear 61 = .ok (.iload_n 1, 1) := dk_at dkB02decM2_1 30 rfl
theorem dX11_oneYear_62 : decode cX11_oneYear 62 = .ok (.invokevirtual 206, 3) := dk_at dkB02decM2_1 31 rfl
theorem dX11_oneYear_65 : decode cX11_oneYear 65 = .ok (.istore 4, 2) := dk_at dkB02decM2_1 32 rfl
theorem dX11_oneYear_67 : decode cX11_oneYear 67 = .ok (.aload_n 0, 1) := dk_at dkB02decM2_1 33 rfl
theorem dX11_oneYear_68 : decode cX11_oneYear 68 = .ok (.iconst 1, 1) := dk_at dkB02decM2_1 34 rfl
theorem dX11_oneYear_69 : decode cX11_oneYear 69 = .ok (.invokevirtual 240, 3) := dk_at dkB02decM2_1 35 rfl
theorem dX11_oneYear_72 : decode cX11_oneYear 72 = .ok (.aload_n 0, 1) := dk_at dkB02decM2_1 36 rfl
theorem dX11_oneYear_73 : decode cX11_oneYear 73 = .ok (.getfield 285, 3) := dk_at dkB02decM2_1 37 rfl
theorem dX11_oneYear_76 : decode cX11_oneYear 76 = .ok (.lconst 0, 1) := dk_at dkB02decM2_1 38 rfl
theorem dX11_oneYear_77 : decode cX11_oneYear 77 = .ok (.lcmp, 1) := dk_at dkB02decM2_1 39 rfl
theorem dX11_oneYear_78 : decode cX11_oneYear 78 = .ok (.ifCond .eq 12, 3) := dk_at dkB02decM2_1 40 rfl
theorem dX11_oneYear_81 : decode cX11_oneYear 81 = .ok (.aload_n 0, 1) := dk_at dkB02decM2_1 41 rfl
theorem dX11_oneYear_82 : decode cX11_oneYear 82 = .ok (.getfield 217, 3) := dk_at dkB02decM2_1 42 rfl
theorem dX11_oneYear_85 : decode cX11_oneYear 85 = .ok (.lconst 0, 1) := dk_at dkB02decM2_1 43 rfl
theorem dX11_oneYear_86 : decode cX11_oneYear 86 = .ok (.lcmp, 1) := dk_at dkB02decM2_1 44 rfl
theorem dX11_oneYear_87 : decode cX11_oneYear 87 = .ok (.ifCond .ne 7, 3) := dk_at dkB02decM2_1 45 rfl
theorem dX11_oneYear_90 : decode cX11_oneYear 90 = .ok (.ldc2_w 293, 3) := dk_at dkB02decM2_1 46 rfl
theorem dX11_oneYear_93 : decode cX11_oneYear 93 = .ok (.lreturn, 1) := dk_at dkB02decM2_1 47 rfl
theorem dX11_oneYear_94 : decode cX11_oneYear 94 = .ok (.aload_n 0, 1) := dk_at dkB02decM2_1 48 rfl
theorem dX11_oneYear_95 : decode cX11_oneYear 95 = .ok (.iload 4, 2) := dk_at dkB02decM2_1 49 rfl
theorem dX11_oneYear_97 : decode cX11_oneYear 97 = .ok (.aload_n 0, 1) := dk_at dkB02decM2_1 50 rfl
theorem dX11_oneYear_98 : decode cX11_oneYear 98 = .ok (.iload_n 2, 1) := dk_at dkB02decM2_1 51 rfl
theorem dX11_oneYear_99 : decode cX11_oneYear 99 = .ok (.invokevirtual 206, 3) := dk_at dkB02decM2_1 52 rfl
theorem dX11_oneYear_102 : decode cX11_oneYear 102 = .ok (.invokevirtual 295, 3) := dk_at dkB02decM2_1 53 rfl
theorem dX11_oneYear_105 : decode cX11_oneYear 105 = .ok (.aload_n 0, 1) := dk_at dkB02decM2_1 54 rfl
theorem dX11_oneYear_106 : decode cX11_oneYear 106 = .ok (.getfield 285, 3) := dk_at dkB02decM2_1 55 rfl
theorem dX11_oneYear_109 : decode cX11_oneYear 109 = .ok (.aload_n 0, 1) := dk_at dkB02decM2_1 56 rfl
theorem dX11_oneYear_110 : decode cX11_oneYear 110 = .ok (.getfield 217, 3) := dk_at dkB02decM2_1 57 rfl
theorem dX11_oneYear_113 : decode cX11_oneYear 113 = .ok (.lmul, 1) := dk_at dkB02decM2_1 58 rfl
theorem dX11_oneYear_114 : decode cX11_oneYear 114 = .ok (.iload_n 3, 1) := dk_at dkB02decM2_1 59 rfl
noncomputable def dkL02decM2_2 : List (ByteArray × Nat × Instr × Nat) := [(cX11_oneYear, 115, (.invokestatic 257, 3)), (cX11_oneYear, 118, (.lreturn, 1)), (cX11_tie, 0, (.iload_n 1, 1)), (cX11_tie, 1, (.i2l, 1)), (cX11_tie, 2, (.lconst 0, 1)), (cX11_tie, 3, (.ldc2_w 180, 3)), (cX11_tie, 6, (.invokestatic 70, 3)), (cX11_tie, 9, (.ifCond .ne 7, 3)), (cX11_tie, 12, (.ldc2_w 236, 3)), (cX11_tie, 15, (.lreturn, 1)), (cX11_tie, 16, (.aload_n 0, 1)), (cX11_tie, 17, (.iconst 0, 1)), (cX11_tie, 18, (.invokevirtual 189, 3)), (cX11_tie, 21, (.ifCond .eq 11, 3)), (cX11_tie, 24, (.aload_n 0, 1)), (cX11_tie, 25, (.iconst 1, 1)), (cX11_tie, 26, (.invokevirtual 189, 3)), (cX11_tie, 29, (.ifCond .ne 7, 3)), (cX11_tie, 32, (.ldc2_w 238, 3)), (cX11_tie, 35, (.lreturn, 1)), (cX11_tie, 36, (.aload_n 0, 1)), (cX11_tie, 37, (.invokevirtual 290, 3)), (cX11_tie, 40, (.aload_n 0, 1)), (cX11_tie, 41, (.iconst 1, 1)), (cX11_tie, 42, (.invokevirtual 240, 3)), (cX11_tie, 45, (.aload_n 0, 1)), (cX11_tie, 46, (.getfield 285, 3)), (cX11_tie, 49, (.lconst 0, 1)), (cX11_tie, 50, (.lcmp, 1)), (cX11_tie, 51, (.ifCond .eq 12, 3)), (cX11_tie, 54, (.aload_n 0, 1)), (cX11_tie, 55, (.getfield 217, 3)), (cX11_tie, 58, (.lconst 0, 1)), (cX11_tie, 59, (.lcmp, 1)), (cX11_tie, 60, (.ifCond .ne 7, 3)), (cX11_tie, 63, (.ldc2_w 293, 3)), (cX11_tie, 66, (.lreturn, 1)), (cX11_tie, 67, (.iconst 0, 1)), (cX11_tie, 68, (.istore_n 2, 1)), (cX11_tie, 69, (.iconst 0, 1)), (cX11_tie, 70, (.istore_n 3, 1)), (cX11_tie, 71, (.ldc2_w 236, 3)), (cX11_tie, 74, (.lstore 4, 2)), (cX11_tie, 76, (.iconst 0, 1)), (cX11_tie, 77, (.istore 6, 2)), (cX11_tie, 79, (.iload 6, 2)), (cX11_tie, 81, (.aload_n 0, 1)), (cX11_tie, 82, (.getfield 282, 3)), (cX11_tie, 85, (.if_icmp .ge 67, 3)), (cX11_tie, 88, (.iconst 0, 1)), (cX11_tie, 89, (.istore 7, 2)), (cX11_tie, 91, (.iload 7, 2)), (cX11_tie, 93, (.aload_n 0, 1)), (cX11_tie, 94, (.getfield 192, 3)), (cX11_tie, 97, (.if_icmp .ge 49, 3)), (cX11_tie, 100, (.aload_n 0, 1)), (cX11_tie, 101, (.iload 6, 2)), (cX11_tie, 103, (.iload 7, 2)), (cX11_tie, 105, (.invokevirtual 295, 3)), (cX11_tie, 108, (.lload 4, 2))]
theorem dkB02decM2_2 : dkL02decM2_2.all (fun q => decide (decode q.1 q.2.1 = .ok q.2.2)) = true := by decide +kernel
theorem dX11_oneYear_115 : decode cX11_oneYear 115 = .ok (.invokestatic 257, 3) := dk_at dkB02decM2_2 0 rfl
theorem dX11_oneYear_118 : decode cX11_oneYear 118 = .ok (.lreturn, 1) := dk_at dkB02decM2_2 1 rfl
theorem dX11_tie_0 : decode cX11_tie 0 = .ok (.iload_n 1, 1) := dk_at dkB02decM2_2 2 rfl
theorem dX11_tie_1 : decode cX11_tie 1 = .ok (.i2l, 1) := dk_at dkB02decM2_2 3 rfl
theorem dX11_tie_2 : decode cX11_tie 2 = .ok (.lconst 0, 1) := dk_at dkB02decM2_2 4 rfl
theorem dX11_tie_3 : decode cX11_tie 3 = .ok (.ldc2_w 180, 3) := dk_at dkB02decM2_2 5 rfl
theorem dX11_tie_6 : decode cX11_tie 6 = .ok (.invokestatic 70, 3) := dk_at dkB02decM2_2 6 rfl
theorem dX11_tie_9 : decode cX11_tie 9 = .ok (.ifCond .ne 7, 3) := dk_at dkB02decM2_2 7 rfl
theorem dX11_tie_12 : decode cX11_tie 12 = .ok (.ldc2_w 236, 3) := dk_at dkB02decM2_2 8 rfl
theorem dX11_tie_15 : decode cX11_tie 15 = .ok (.lreturn, 1) := dk_at dkB02decM2_2 9 rfl
theorem dX11_tie_16 : decode cX11_tie 16 = .ok (.aload_n 0, 1) := dk_at dkB02decM2_2 10 rfl
theorem dX11_tie_17 : decode cX11_tie 17 = .ok (.iconst 0, 1) := dk_at dkB02decM2_2 11 rfl
theorem dX11_tie_18 : decode cX11_tie 18 = .ok (.invokevirtual 189, 3) := dk_at dkB02decM2_2 12 rfl
theorem dX11_tie_21 : decode cX11_tie 21 = .ok (.ifCond .eq 11, 3) := dk_at dkB02decM2_2 13 rfl
theorem dX11_tie_24 : decode cX11_tie 24 = .ok (.aload_n 0, 1) := dk_at dkB02decM2_2 14 rfl
theorem dX11_tie_25 : decode cX11_tie 25 = .ok (.iconst 1, 1) := dk_at dkB02decM2_2 15 rfl
theorem dX11_tie_26 : decode cX11_tie 26 = .ok (.invokevirtual 189, 3) := dk_at dkB02decM2_2 16 rfl
theorem dX11_tie_29 : decode cX11_tie 29 = .ok (.ifCond .ne 7, 3) := dk_at dkB02decM2_2 17 rfl
theorem dX11_tie_32 : decode cX11_tie 32 = .ok (.ldc2_w 238, 3) := dk_at dkB02decM2_2 18 rfl
theorem dX11_tie_35 : decode cX11_tie 35 = .ok (.lreturn, 1) := dk_at dkB02decM2_2 19 rfl
theorem dX11_tie_36 : decode cX11_tie 36 = .ok (.aload_n 0, 1) := dk_at dkB02decM2_2 20 rfl
theorem dX11_tie_37 : decode cX11_tie 37 = .ok (.invokevirtual 290, 3) := dk_at dkB02decM2_2 21 rfl
theorem dX11_tie_40 : decode cX11_tie 40 = .ok (.aload_n 0, 1) := dk_at dkB02decM2_2 22 rfl
theorem dX11_tie_41 : decode cX11_tie 41 = .ok (.iconst 1, 1) := dk_at dkB02decM2_2 23 rfl
theorem dX11_tie_42 : decode cX11_tie 42 = .ok (.invokevirtual 240, 3) := dk_at dkB02decM2_2 24 rfl
theorem dX11_tie_45 : decode cX11_tie 45 = .ok (.aload_n 0, 1) := dk_at dkB02decM2_2 25 rfl
theorem dX11_tie_46 : decode cX11_tie 46 = .ok (.getfield 285, 3) := dk_at dkB02decM2_2 26 rfl
theorem dX11_tie_49 : decode cX11_tie 49 = .ok (.lconst 0, 1) := dk_at dkB02decM2_2 27 rfl
theorem dX11_tie_50 : decode cX11_tie 50 = .ok (.lcmp, 1) := dk_at dkB02decM2_2 28 rfl
theorem dX11_tie_51 : decode cX11_tie 51 = .ok (.ifCond .eq 12, 3) := dk_at dkB02decM2_2 29 rfl
theorem dX11_tie_54 : decode cX11_tie 54 = .ok (.aload_n 0, 1) := dk_at dkB02decM2_2 30 rfl
theorem dX11_tie_55 : decode cX11_tie 55 = .ok (.getfield 217, 3) := dk_at dkB02decM2_2 31 rfl
theorem dX11_tie_58 : decode cX11_tie 58 = .ok (.lconst 0, 1) := dk_at dkB02decM2_2 32 rfl
theorem dX11_tie_59 : decode cX11_tie 59 = .ok (.lcmp, 1) := dk_at dkB02decM2_2 33 rfl
theorem dX11_tie_60 : decode cX11_tie 60 = .ok (.ifCond .ne 7, 3) := dk_at dkB02decM2_2 34 rfl
theorem dX11_tie_63 : decode cX11_tie 63 = .ok (.ldc2_w 293, 3) := dk_at dkB02decM2_2 35 rfl
theorem dX11_tie_66 : decode cX11_tie 66 = .ok (.lreturn, 1) := dk_at dkB02decM2_2 36 rfl
theorem dX11_tie_67 : decode cX11_tie 67 = .ok (.iconst 0, 1) := dk_at dkB02decM2_2 37 rfl
theorem dX11_tie_68 : decode cX11_tie 68 = .ok (.istore_n 2, 1) := dk_at dkB02decM2_2 38 rfl
theorem dX11_tie_69 : decode cX11_tie 69 = .ok (.iconst 0, 1) := dk_at dkB02decM2_2 39 rfl
theorem dX11_tie_70 : decode cX11_tie 70 = .ok (.istore_n 3, 1) := dk_at dkB02decM2_2 40 rfl
theorem dX11_tie_71 : decode cX11_tie 71 = .ok (.ldc2_w 236, 3) := dk_at dkB02decM2_2 41 rfl
theorem dX11_tie_74 : decode cX11_tie 74 = .ok (.lstore 4, 2) := dk_at dkB02decM2_2 42 rfl
theorem dX11_tie_76 : decode cX11_tie 76 = .ok (.iconst 0, 1) := dk_at dkB02decM2_2 43 rfl
theorem dX11_tie_77 : decode cX11_tie 77 = .ok (.istore 6, 2) := dk_at dkB02decM2_2 44 rfl
theorem dX11_tie_79 : decode cX11_tie 79 = .ok (.iload 6, 2) := dk_at dkB02decM2_2 45 rfl
theorem dX11_tie_81 : decode cX11_tie 81 = .ok (.aload_n 0, 1) := dk_at dkB02decM2_2 46 rfl
theorem dX11_tie_82 : decode cX11_tie 82 = .ok (.getfield 282, 3) := dk_at dkB02decM2_2 47 rfl
theorem dX11_tie_85 : decode cX11_tie 85 = .ok (.if_icmp .ge 67, 3) := dk_at dkB02decM2_2 48 rfl
theorem dX11_tie_88 : decode cX11_tie 88 = .ok (.iconst 0, 1) := dk_at dkB02decM2_2 49 rfl
theorem dX11_tie_89 : decode cX11_tie 89 = .ok (.istore 7, 2) := dk_at dkB02decM2_2 50 rfl
theorem dX11_tie_91 : decode cX11_tie 91 = .ok (.iload 7, 2) := dk_at dkB02decM2_2 51 rfl
theorem dX11_tie_93 : decode cX11_tie 93 = .ok (.aload_n 0, 1) := dk_at dkB02decM2_2 52 rfl
theorem dX11_tie_94 : decode cX11_tie 94 = .ok (.getfield 192, 3) := dk_at dkB02decM2_2 53 rfl
theorem dX11_tie_97 : decode cX11_tie 97 = .ok (.if_icmp .ge 49, 3) := dk_at dkB02decM2_2 54 rfl
theorem dX11_tie_100 : decode cX11_tie 100 = .ok (.aload_n 0, 1) := dk_at dkB02decM2_2 55 rfl
theorem dX11_tie_101 : decode cX11_tie 101 = .ok (.iload 6, 2) := dk_at dkB02decM2_2 56 rfl
theorem dX11_tie_103 : decode cX11_tie 103 = .ok (.iload 7, 2) := dk_at dkB02decM2_2 57 rfl
theorem dX11_tie_105 : decode cX11_tie 105 = .ok (.invokevirtual 295, 3) := dk_at dkB02decM2_2 58 rfl
theorem dX11_tie_108 : decode cX11_tie 108 = .ok (.lload 4, 2) := dk_at dkB02decM2_2 59 rfl
noncomputable def dkL02decM2_3 : List (ByteArray × Nat × Instr × Nat) := [(cX11_tie, 110, (.lcmp, 1)), (cX11_tie, 111, (.ifCond .le 29, 3)), (cX11_tie, 114, (.aload_n 0, 1)), (cX11_tie, 115, (.iload 6, 2)), (cX11_tie, 117, (.iload 7, 2)), (cX11_tie, 119, (.invokevirtual 295, 3)), (cX11_tie, 122, (.lstore 4, 2)), (cX11_tie, 124, (.aload_n 0, 1)), (cX11_tie, 125, (.getfield 47, 3)), (cX11_tie, 128, (.iload 6, 2)), (cX11_tie, 130, (.iaload, 1)), (cX11_tie, 131, (.istore_n 2, 1)), (cX11_tie, 132, (.aload_n 0, 1)), (cX11_tie, 133, (.getfield 19, 3)), (cX11_tie, 136, (.iload 7, 2)), (cX11_tie, 138, (.iaload, 1)), (cX11_tie, 139, (.istore_n 3, 1)), (cX11_tie, 140, (.iinc 7 1, 3)), (cX11_tie, 143, (.goto (-52), 3)), (cX11_tie, 146, (.iinc 6 1, 3)), (cX11_tie, 149, (.goto (-70), 3)), (cX11_tie, 152, (.iload_n 1, 1)), (cX11_tie, 153, (.ifCond .ne 8, 3)), (cX11_tie, 156, (.iload_n 2, 1)), (cX11_tie, 157, (.i2l, 1)), (cX11_tie, 158, (.goto 15, 3)), (cX11_tie, 161, (.iload_n 1, 1)), (cX11_tie, 162, (.iconst 1, 1)), (cX11_tie, 163, (.if_icmp .ne 8, 3)), (cX11_tie, 166, (.iload_n 3, 1)), (cX11_tie, 167, (.i2l, 1)), (cX11_tie, 168, (.goto 5, 3)), (cX11_tie, 171, (.lload 4, 2)), (cX11_tie, 173, (.lreturn, 1)), (cX11_isClaim, 0, (.iload_n 1, 1)), (cX11_isClaim, 1, (.i2l, 1)), (cX11_isClaim, 2, (.lconst 0, 1)), (cX11_isClaim, 3, (.aload_n 0, 1)), (cX11_isClaim, 4, (.getfield 7, 3)), (cX11_isClaim, 7, (.bipush 12, 2)), (cX11_isClaim, 9, (.iaload, 1)), (cX11_isClaim, 10, (.iconst 1, 1)), (cX11_isClaim, 11, (.isub, 1)), (cX11_isClaim, 12, (.i2l, 1)), (cX11_isClaim, 13, (.invokestatic 70, 3)), (cX11_isClaim, 16, (.ireturn, 1)), (cX11_countsThing, 0, (.aload_n 0, 1)), (cX11_countsThing, 1, (.getfield 7, 3)), (cX11_countsThing, 4, (.iload_n 1, 1)), (cX11_countsThing, 5, (.iconst 1, 1)), (cX11_countsThing, 6, (.iadd, 1)), (cX11_countsThing, 7, (.iaload, 1)), (cX11_countsThing, 8, (.istore 6, 2)), (cX11_countsThing, 10, (.iload 6, 2)), (cX11_countsThing, 12, (.ifCond .eq 55, 3)), (cX11_countsThing, 15, (.aload_n 0, 1)), (cX11_countsThing, 16, (.iload_n 2, 1)), (cX11_countsThing, 17, (.iload_n 3, 1)), (cX11_countsThing, 18, (.invokevirtual 177, 3)), (cX11_countsThing, 21, (.ifCond .ne 50, 3))]
theorem dkB02decM2_3 : dkL02decM2_3.all (fun q => decide (decode q.1 q.2.1 = .ok q.2.2)) = true := by decide +kernel
theorem dX11_tie_110 : decode cX11_tie 110 = .ok (.lcmp, 1) := dk_at dkB02decM2_3 0 rfl
theorem dX11_tie_111 : decode cX11_tie 111 = .ok (.ifCond .le 29, 3) := dk_at dkB02decM2_3 1 rfl
theorem dX11_tie_114 : decode cX11_tie 114 = .ok (.aload_n 0, 1) := dk_at dkB02decM2_3 2 rfl
theorem dX11_tie_115 : decode cX11_tie 115 = .ok (.iload 6, 2) := dk_at dkB02decM2_3 3 rfl
theorem dX11_tie_117 : decode cX11_tie 117 = .ok (.iload 7, 2) := dk_at dkB02decM2_3 4 rfl
theorem dX11_tie_119 : decode cX11_tie 119 = .ok (.invokevirtual 295, 3) := dk_at dkB02decM2_3 5 rfl
theorem dX11_tie_122 : decode cX11_tie 122 = .ok (.lstore 4, 2) := dk_at dkB02decM2_3 6 rfl
theorem dX11_tie_124 : decode cX11_tie 124 = .ok (.aload_n 0, 1) := dk_at dkB02decM2_3 7 rfl
theorem dX11_tie_125 : decode cX11_tie 125 = .ok (.getfield 47, 3) := dk_at dkB02decM2_3 8 rfl
theorem dX11_tie_128 : decode cX11_tie 128 = .ok (.iload 6, 2) := dk_at dkB02decM2_3 9 rfl
theorem dX11_tie_130 : decode cX11_tie 130 = .ok (.iaload, 1) := dk_at dkB02decM2_3 10 rfl
theorem dX11_tie_131 : decode cX11_tie 131 = .ok (.istore_n 2, 1) := dk_at dkB02decM2_3 11 rfl
theorem dX11_tie_132 : decode cX11_tie 132 = .ok (.aload_n 0, 1) := dk_at dkB02decM2_3 12 rfl
theorem dX11_tie_133 : decode cX11_tie 133 = .ok (.getfield 19, 3) := dk_at dkB02decM2_3 13 rfl
theorem dX11_tie_136 : decode cX11_tie 136 = .ok (.iload 7, 2) := dk_at dkB02decM2_3 14 rfl
theorem dX11_tie_138 : decode cX11_tie 138 = .ok (.iaload, 1) := dk_at dkB02decM2_3 15 rfl
theorem dX11_tie_139 : decode cX11_tie 139 = .ok (.istore_n 3, 1) := dk_at dkB02decM2_3 16 rfl
theorem dX11_tie_140 : decode cX11_tie 140 = .ok (.iinc 7 1, 3) := dk_at dkB02decM2_3 17 rfl
theorem dX11_tie_143 : decode cX11_tie 143 = .ok (.goto (-52), 3) := dk_at dkB02decM2_3 18 rfl
theorem dX11_tie_146 : decode cX11_tie 146 = .ok (.iinc 6 1, 3) := dk_at dkB02decM2_3 19 rfl
theorem dX11_tie_149 : decode cX11_tie 149 = .ok (.goto (-70), 3) := dk_at dkB02decM2_3 20 rfl
theorem dX11_tie_152 : decode cX11_tie 152 = .ok (.iload_n 1, 1) := dk_at dkB02decM2_3 21 rfl
theorem dX11_tie_153 : decode cX11_tie 153 = .ok (.ifCond .ne 8, 3) := dk_at dkB02decM2_3 22 rfl
theorem dX11_tie_156 : decode cX11_tie 156 = .ok (.iload_n 2, 1) := dk_at dkB02decM2_3 23 rfl
theorem dX11_tie_157 : decode cX11_tie 157 = .ok (.i2l, 1) := dk_at dkB02decM2_3 24 rfl
theorem dX11_tie_158 : decode cX11_tie 158 = .ok (.goto 15, 3) := dk_at dkB02decM2_3 25 rfl
theorem dX11_tie_161 : decode cX11_tie 161 = .ok (.iload_n 1, 1) := dk_at dkB02decM2_3 26 rfl
theorem dX11_tie_162 : decode cX11_tie 162 = .ok (.iconst 1, 1) := dk_at dkB02decM2_3 27 rfl
theorem dX11_tie_163 : decode cX11_tie 163 = .ok (.if_icmp .ne 8, 3) := dk_at dkB02decM2_3 28 rfl
theorem dX11_tie_166 : decode cX11_tie 166 = .ok (.iload_n 3, 1) := dk_at dkB02decM2_3 29 rfl
theorem dX11_tie_167 : decode cX11_tie 167 = .ok (.i2l, 1) := dk_at dkB02decM2_3 30 rfl
theorem dX11_tie_168 : decode cX11_tie 168 = .ok (.goto 5, 3) := dk_at dkB02decM2_3 31 rfl
theorem dX11_tie_171 : decode cX11_tie 171 = .ok (.lload 4, 2) := dk_at dkB02decM2_3 32 rfl
theorem dX11_tie_173 : decode cX11_tie 173 = .ok (.lreturn, 1) := dk_at dkB02decM2_3 33 rfl
theorem dX11_isClaim_0 : decode cX11_isClaim 0 = .ok (.iload_n 1, 1) := dk_at dkB02decM2_3 34 rfl
theorem dX11_isClaim_1 : decode cX11_isClaim 1 = .ok (.i2l, 1) := dk_at dkB02decM2_3 35 rfl
theorem dX11_isClaim_2 : decode cX11_isClaim 2 = .ok (.lconst 0, 1) := dk_at dkB02decM2_3 36 rfl
theorem dX11_isClaim_3 : decode cX11_isClaim 3 = .ok (.aload_n 0, 1) := dk_at dkB02decM2_3 37 rfl
theorem dX11_isClaim_4 : decode cX11_isClaim 4 = .ok (.getfield 7, 3) := dk_at dkB02decM2_3 38 rfl
theorem dX11_isClaim_7 : decode cX11_isClaim 7 = .ok (.bipush 12, 2) := dk_at dkB02decM2_3 39 rfl
theorem dX11_isClaim_9 : decode cX11_isClaim 9 = .ok (.iaload, 1) := dk_at dkB02decM2_3 40 rfl
theorem dX11_isClaim_10 : decode cX11_isClaim 10 = .ok (.iconst 1, 1) := dk_at dkB02decM2_3 41 rfl
theorem dX11_isClaim_11 : decode cX11_isClaim 11 = .ok (.isub, 1) := dk_at dkB02decM2_3 42 rfl
theorem dX11_isClaim_12 : decode cX11_isClaim 12 = .ok (.i2l, 1) := dk_at dkB02decM2_3 43 rfl
theorem dX11_isClaim_13 : decode cX11_isClaim 13 = .ok (.invokestatic 70, 3) := dk_at dkB02decM2_3 44 rfl
theorem dX11_isClaim_16 : decode cX11_isClaim 16 = .ok (.ireturn, 1) := dk_at dkB02decM2_3 45 rfl
theorem dX11_countsThing_0 : decode cX11_countsThing 0 = .ok (.aload_n 0, 1) := dk_at dkB02decM2_3 46 rfl
theorem dX11_countsThing_1 : decode cX11_countsThing 1 = .ok (.getfield 7, 3) := dk_at dkB02decM2_3 47 rfl
theorem dX11_countsThing_4 : decode cX11_countsThing 4 = .ok (.iload_n 1, 1) := dk_at dkB02decM2_3 48 rfl
theorem dX11_countsThing_5 : decode cX11_countsThing 5 = .ok (.iconst 1, 1) := dk_at dkB02decM2_3 49 rfl
theorem dX11_countsThing_6 : decode cX11_countsThing 6 = .ok (.iadd, 1) := dk_at dkB02decM2_3 50 rfl
theorem dX11_countsThing_7 : decode cX11_countsThing 7 = .ok (.iaload, 1) := dk_at dkB02decM2_3 51 rfl
theorem dX11_countsThing_8 : decode cX11_countsThing 8 = .ok (.istore 6, 2) := dk_at dkB02decM2_3 52 rfl
theorem dX11_countsThing_10 : decode cX11_countsThing 10 = .ok (.iload 6, 2) := dk_at dkB02decM2_3 53 rfl
theorem dX11_countsThing_12 : decode cX11_countsThing 12 = .ok (.ifCond .eq 55, 3) := dk_at dkB02decM2_3 54 rfl
theorem dX11_countsThing_15 : decode cX11_countsThing 15 = .ok (.aload_n 0, 1) := dk_at dkB02decM2_3 55 rfl
theorem dX11_countsThing_16 : decode cX11_countsThing 16 = .ok (.iload_n 2, 1) := dk_at dkB02decM2_3 56 rfl
theorem dX11_countsThing_17 : decode cX11_countsThing 17 = .ok (.iload_n 3, 1) := dk_at dkB02decM2_3 57 rfl
theorem dX11_countsThing_18 : decode cX11_countsThing 18 = .ok (.invokevirtual 177, 3) := dk_at dkB02decM2_3 58 rfl
theorem dX11_countsThing_21 : decode cX11_countsThing 21 = .ok (.ifCond .ne 50, 3) := dk_at dkB02decM2_3 59 rfl
noncomputable def dkL02decM2_4 : List (ByteArray × Nat × Instr × Nat) := [(cX11_countsThing, 24, (.iload 6, 2)), (cX11_countsThing, 26, (.iconst 1, 1)), (cX11_countsThing, 27, (.if_icmp .ne 23, 3)), (cX11_countsThing, 30, (.aload_n 0, 1)), (cX11_countsThing, 31, (.iload_n 2, 1)), (cX11_countsThing, 32, (.iload_n 3, 1)), (cX11_countsThing, 33, (.invokevirtual 186, 3)), (cX11_countsThing, 36, (.aload_n 0, 1)), (cX11_countsThing, 37, (.getfield 7, 3)), (cX11_countsThing, 40, (.iload_n 1, 1)), (cX11_countsThing, 41, (.iconst 2, 1)), (cX11_countsThing, 42, (.iadd, 1)), (cX11_countsThing, 43, (.iaload, 1)), (cX11_countsThing, 44, (.if_icmp .ge 27, 3)), (cX11_countsThing, 47, (.goto 20, 3)), (cX11_countsThing, 50, (.aload_n 0, 1)), (cX11_countsThing, 51, (.iload_n 2, 1)), (cX11_countsThing, 52, (.iload_n 3, 1)), (cX11_countsThing, 53, (.invokevirtual 186, 3)), (cX11_countsThing, 56, (.aload_n 0, 1)), (cX11_countsThing, 57, (.getfield 7, 3)), (cX11_countsThing, 60, (.iload_n 1, 1)), (cX11_countsThing, 61, (.iconst 2, 1)), (cX11_countsThing, 62, (.iadd, 1)), (cX11_countsThing, 63, (.iaload, 1)), (cX11_countsThing, 64, (.if_icmp .le 7, 3)), (cX11_countsThing, 67, (.iconst 1, 1)), (cX11_countsThing, 68, (.goto 4, 3)), (cX11_countsThing, 71, (.iconst 0, 1)), (cX11_countsThing, 72, (.istore 7, 2)), (cX11_countsThing, 74, (.iload 7, 2)), (cX11_countsThing, 76, (.ifCond .eq 40, 3)), (cX11_countsThing, 79, (.iload 4, 2)), (cX11_countsThing, 81, (.i2l, 1)), (cX11_countsThing, 82, (.aload_n 0, 1)), (cX11_countsThing, 83, (.getfield 7, 3)), (cX11_countsThing, 86, (.iload_n 1, 1)), (cX11_countsThing, 87, (.iconst 3, 1)), (cX11_countsThing, 88, (.iadd, 1)), (cX11_countsThing, 89, (.iaload, 1)), (cX11_countsThing, 90, (.iload 5, 2)), (cX11_countsThing, 92, (.iadd, 1)), (cX11_countsThing, 93, (.i2l, 1)), (cX11_countsThing, 94, (.aload_n 0, 1)), (cX11_countsThing, 95, (.getfield 7, 3)), (cX11_countsThing, 98, (.iload_n 1, 1)), (cX11_countsThing, 99, (.iconst 4, 1)), (cX11_countsThing, 100, (.iadd, 1)), (cX11_countsThing, 101, (.iaload, 1)), (cX11_countsThing, 102, (.iload 5, 2)), (cX11_countsThing, 104, (.iadd, 1)), (cX11_countsThing, 105, (.i2l, 1)), (cX11_countsThing, 106, (.invokestatic 70, 3)), (cX11_countsThing, 109, (.ifCond .eq 7, 3)), (cX11_countsThing, 112, (.iconst 1, 1)), (cX11_countsThing, 113, (.goto 4, 3)), (cX11_countsThing, 116, (.iconst 0, 1)), (cX11_countsThing, 117, (.ireturn, 1)), (cX11_atomHolds, 0, (.iload_n 2, 1)), (cX11_atomHolds, 1, (.aload_n 0, 1))]
theorem dkB02decM2_4 : dkL02decM2_4.all (fun q => decide (decode q.1 q.2.1 = .ok q.2.2)) = true := by decide +kernel
theorem dX11_countsThing_24 : decode cX11_countsThing 24 = .ok (.iload 6, 2) := dk_at dkB02decM2_4 0 rfl
theorem dX11_countsThing_26 : decode cX11_countsThing 26 = .ok (.iconst 1, 1) := dk_at dkB02decM2_4 1 rfl
theorem dX11_countsThing_27 : decode cX11_countsThing 27 = .ok (.if_icmp .ne 23, 3) := dk_at dkB02decM2_4 2 rfl
theorem dX11_countsThing_30 : decode cX11_countsThing 30 = .ok (.aload_n 0, 1) := dk_at dkB02decM2_4 3 rfl
theorem dX11_countsThing_31 : decode cX11_countsThing 31 = .ok (.iload_n 2, 1) := dk_at dkB02decM2_4 4 rfl
theorem dX11_countsThing_32 : decode cX11_countsThing 32 = .ok (.iload_n 3, 1) := dk_at dkB02decM2_4 5 rfl
theorem dX11_countsThing_33 : decode cX11_countsThing 33 = .ok (.invokevirtual 186, 3) := dk_at dkB02decM2_4 6 rfl
theorem dX11_countsThing_36 : decode cX11_countsThing 36 = .ok (.aload_n 0, 1) := dk_at dkB02decM2_4 7 rfl
theorem dX11_countsThing_37 : decode cX11_countsThing 37 = .ok (.getfield 7, 3) := dk_at dkB02decM2_4 8 rfl
theorem dX11_countsThing_40 : decode cX11_countsThing 40 = .ok (.iload_n 1, 1) := dk_at dkB02decM2_4 9 rfl
theorem dX11_countsThing_41 : decode cX11_countsThing 41 = .ok (.iconst 2, 1) := dk_at dkB02decM2_4 10 rfl
theorem dX11_countsThing_42 : decode cX11_countsThing 42 = .ok (.iadd, 1) := dk_at dkB02decM2_4 11 rfl
theorem dX11_countsThing_43 : decode cX11_countsThing 43 = .ok (.iaload, 1) := dk_at dkB02decM2_4 12 rfl
theorem dX11_countsThing_44 : decode cX11_countsThing 44 = .ok (.if_icmp .ge 27, 3) := dk_at dkB02decM2_4 13 rfl
theorem dX11_countsThing_47 : decode cX11_countsThing 47 = .ok (.goto 20, 3) := dk_at dkB02decM2_4 14 rfl
theorem dX11_countsThing_50 : decode cX11_countsThing 50 = .ok (.aload_n 0, 1) := dk_at dkB02decM2_4 15 rfl
theorem dX11_countsThing_51 : decode cX11_countsThing 51 = .ok (.iload_n 2, 1) := dk_at dkB02decM2_4 16 rfl
theorem dX11_countsThing_52 : decode cX11_countsThing 52 = .ok (.iload_n 3, 1) := dk_at dkB02decM2_4 17 rfl
theorem dX11_countsThing_53 : decode cX11_countsThing 53 = .ok (.invokevirtual 186, 3) := dk_at dkB02decM2_4 18 rfl
theorem dX11_countsThing_56 : decode cX11_countsThing 56 = .ok (.aload_n 0, 1) := dk_at dkB02decM2_4 19 rfl
theorem dX11_countsThing_57 : decode cX11_countsThing 57 = .ok (.getfield 7, 3) := dk_at dkB02decM2_4 20 rfl
theorem dX11_countsThing_60 : decode cX11_countsThing 60 = .ok (.iload_n 1, 1) := dk_at dkB02decM2_4 21 rfl
theorem dX11_countsThing_61 : decode cX11_countsThing 61 = .ok (.iconst 2, 1) := dk_at dkB02decM2_4 22 rfl
theorem dX11_countsThing_62 : decode cX11_countsThing 62 = .ok (.iadd, 1) := dk_at dkB02decM2_4 23 rfl
theorem dX11_countsThing_63 : decode cX11_countsThing 63 = .ok (.iaload, 1) := dk_at dkB02decM2_4 24 rfl
theorem dX11_countsThing_64 : decode cX11_countsThing 64 = .ok (.if_icmp .le 7, 3) := dk_at dkB02decM2_4 25 rfl
theorem dX11_countsThing_67 : decode cX11_countsThing 67 = .ok (.iconst 1, 1) := dk_at dkB02decM2_4 26 rfl
theorem dX11_countsThing_68 : decode cX11_countsThing 68 = .ok (.goto 4, 3) := dk_at dkB02decM2_4 27 rfl
theorem dX11_countsThing_71 : decode cX11_countsThing 71 = .ok (.iconst 0, 1) := dk_at dkB02decM2_4 28 rfl
theorem dX11_countsThing_72 : decode cX11_countsThing 72 = .ok (.istore 7, 2) := dk_at dkB02decM2_4 29 rfl
theorem dX11_countsThing_74 : decode cX11_countsThing 74 = .ok (.iload 7, 2) := dk_at dkB02decM2_4 30 rfl
theorem dX11_countsThing_76 : decode cX11_countsThing 76 = .ok (.ifCond .eq 40, 3) := dk_at dkB02decM2_4 31 rfl
theorem dX11_countsThing_79 : decode cX11_countsThing 79 = .ok (.iload 4, 2) := dk_at dkB02decM2_4 32 rfl
theorem dX11_countsThing_81 : decode cX11_countsThing 81 = .ok (.i2l, 1) := dk_at dkB02decM2_4 33 rfl
theorem dX11_countsThing_82 : decode cX11_countsThing 82 = .ok (.aload_n 0, 1) := dk_at dkB02decM2_4 34 rfl
theorem dX11_countsThing_83 : decode cX11_countsThing 83 = .ok (.getfield 7, 3) := dk_at dkB02decM2_4 35 rfl
theorem dX11_countsThing_86 : decode cX11_countsThing 86 = .ok (.iload_n 1, 1) := dk_at dkB02decM2_4 36 rfl
theorem dX11_countsThing_87 : decode cX11_countsThing 87 = .ok (.iconst 3, 1) := dk_at dkB02decM2_4 37 rfl
theorem dX11_countsThing_88 : decode cX11_countsThing 88 = .ok (.iadd, 1) := dk_at dkB02decM2_4 38 rfl
theorem dX11_countsThing_89 : decode cX11_countsThing 89 = .ok (.iaload, 1) := dk_at dkB02decM2_4 39 rfl
theorem dX11_countsThing_90 : decode cX11_countsThing 90 = .ok (.iload 5, 2) := dk_at dkB02decM2_4 40 rfl
theorem dX11_countsThing_92 : decode cX11_countsThing 92 = .ok (.iadd, 1) := dk_at dkB02decM2_4 41 rfl
theorem dX11_countsThing_93 : decode cX11_countsThing 93 = .ok (.i2l, 1) := dk_at dkB02decM2_4 42 rfl
theorem dX11_countsThing_94 : decode cX11_countsThing 94 = .ok (.aload_n 0, 1) := dk_at dkB02decM2_4 43 rfl
theorem dX11_countsThing_95 : decode cX11_countsThing 95 = .ok (.getfield 7, 3) := dk_at dkB02decM2_4 44 rfl
theorem dX11_countsThing_98 : decode cX11_countsThing 98 = .ok (.iload_n 1, 1) := dk_at dkB02decM2_4 45 rfl
theorem dX11_countsThing_99 : decode cX11_countsThing 99 = .ok (.iconst 4, 1) := dk_at dkB02decM2_4 46 rfl
theorem dX11_countsThing_100 : decode cX11_countsThing 100 = .ok (.iadd, 1) := dk_at dkB02decM2_4 47 rfl
theorem dX11_countsThing_101 : decode cX11_countsThing 101 = .ok (.iaload, 1) := dk_at dkB02decM2_4 48 rfl
theorem dX11_countsThing_102 : decode cX11_countsThing 102 = .ok (.iload 5, 2) := dk_at dkB02decM2_4 49 rfl
theorem dX11_countsThing_104 : decode cX11_countsThing 104 = .ok (.iadd, 1) := dk_at dkB02decM2_4 50 rfl
theorem dX11_countsThing_105 : decode cX11_countsThing 105 = .ok (.i2l, 1) := dk_at dkB02decM2_4 51 rfl
theorem dX11_countsThing_106 : decode cX11_countsThing 106 = .ok (.invokestatic 70, 3) := dk_at dkB02decM2_4 52 rfl
theorem dX11_countsThing_109 : decode cX11_countsThing 109 = .ok (.ifCond .eq 7, 3) := dk_at dkB02decM2_4 53 rfl
theorem dX11_countsThing_112 : decode cX11_countsThing 112 = .ok (.iconst 1, 1) := dk_at dkB02decM2_4 54 rfl
theorem dX11_countsThing_113 : decode cX11_countsThing 113 = .ok (.goto 4, 3) := dk_at dkB02decM2_4 55 rfl
theorem dX11_countsThing_116 : decode cX11_countsThing 116 = .ok (.iconst 0, 1) := dk_at dkB02decM2_4 56 rfl
theorem dX11_countsThing_117 : decode cX11_countsThing 117 = .ok (.ireturn, 1) := dk_at dkB02decM2_4 57 rfl
theorem dX11_atomHolds_0 : decode cX11_atomHolds 0 = .ok (.iload_n 2, 1) := dk_at dkB02decM2_4 58 rfl
theorem dX11_atomHolds_1 : decode cX11_atomHolds 1 = .ok (.aload_n 0, 1) := dk_at dkB02decM2_4 59 rfl
noncomputable def dkL02decM2_5 : List (ByteArray × Nat × Instr × Nat) := [(cX11_atomHolds, 2, (.getfield 7, 3)), (cX11_atomHolds, 5, (.iload_n 1, 1)), (cX11_atomHolds, 6, (.iconst 5, 1)), (cX11_atomHolds, 7, (.iadd, 1)), (cX11_atomHolds, 8, (.iaload, 1)), (cX11_atomHolds, 9, (.if_icmp .lt 7, 3)), (cX11_atomHolds, 12, (.iconst 1, 1)), (cX11_atomHolds, 13, (.goto 4, 3)), (cX11_atomHolds, 16, (.iconst 0, 1)), (cX11_atomHolds, 17, (.aload_n 0, 1)), (cX11_atomHolds, 18, (.getfield 7, 3)), (cX11_atomHolds, 21, (.iload_n 1, 1)), (cX11_atomHolds, 22, (.iaload, 1)), (cX11_atomHolds, 23, (.ifCond .ne 7, 3)), (cX11_atomHolds, 26, (.iconst 1, 1)), (cX11_atomHolds, 27, (.goto 4, 3)), (cX11_atomHolds, 30, (.iconst 0, 1)), (cX11_atomHolds, 31, (.if_icmp .ne 7, 3)), (cX11_atomHolds, 34, (.iconst 1, 1)), (cX11_atomHolds, 35, (.goto 4, 3)), (cX11_atomHolds, 38, (.iconst 0, 1)), (cX11_atomHolds, 39, (.ireturn, 1)), (cX11_claimHolds, 0, (.sipush 326, 3)), (cX11_claimHolds, 3, (.bipush 14, 2)), (cX11_claimHolds, 5, (.iload_n 1, 1)), (cX11_claimHolds, 6, (.imul, 1)), (cX11_claimHolds, 7, (.iadd, 1)), (cX11_claimHolds, 8, (.istore 4, 2)), (cX11_claimHolds, 10, (.aload_n 0, 1)), (cX11_claimHolds, 11, (.iload 4, 2)), (cX11_claimHolds, 13, (.iconst 2, 1)), (cX11_claimHolds, 14, (.iadd, 1)), (cX11_claimHolds, 15, (.iload_n 2, 1)), (cX11_claimHolds, 16, (.invokevirtual 298, 3)), (cX11_claimHolds, 19, (.istore 5, 2)), (cX11_claimHolds, 21, (.aload_n 0, 1)), (cX11_claimHolds, 22, (.getfield 7, 3)), (cX11_claimHolds, 25, (.iload 4, 2)), (cX11_claimHolds, 27, (.iaload, 1)), (cX11_claimHolds, 28, (.iconst 1, 1)), (cX11_claimHolds, 29, (.if_icmp .ne 6, 3)), (cX11_claimHolds, 32, (.iload 5, 2)), (cX11_claimHolds, 34, (.ireturn, 1)), (cX11_claimHolds, 35, (.aload_n 0, 1)), (cX11_claimHolds, 36, (.iload 4, 2)), (cX11_claimHolds, 38, (.bipush 8, 2)), (cX11_claimHolds, 40, (.iadd, 1)), (cX11_claimHolds, 41, (.iload_n 3, 1)), (cX11_claimHolds, 42, (.invokevirtual 298, 3)), (cX11_claimHolds, 45, (.istore 6, 2)), (cX11_claimHolds, 47, (.aload_n 0, 1)), (cX11_claimHolds, 48, (.getfield 7, 3)), (cX11_claimHolds, 51, (.iload 4, 2)), (cX11_claimHolds, 53, (.iconst 1, 1)), (cX11_claimHolds, 54, (.iadd, 1)), (cX11_claimHolds, 55, (.iaload, 1)), (cX11_claimHolds, 56, (.iconst 1, 1)), (cX11_claimHolds, 57, (.if_icmp .ne 21, 3)), (cX11_claimHolds, 60, (.iload 5, 2)), (cX11_claimHolds, 62, (.ifCond .eq 12, 3))]
theorem dkB02decM2_5 : dkL02decM2_5.all (fun q => decide (decode q.1 q.2.1 = .ok q.2.2)) = true := by decide +kernel
theorem dX11_atomHolds_2 : decode cX11_atomHolds 2 = .ok (.getfield 7, 3) := dk_at dkB02decM2_5 0 rfl
theorem dX11_atomHolds_5 : decode cX11_atomHolds 5 = .ok (.iload_n 1, 1) := dk_at dkB02decM2_5 1 rfl
theorem dX11_atomHolds_6 : decode cX11_atomHolds 6 = .ok (.iconst 5, 1) := dk_at dkB02decM2_5 2 rfl
theorem dX11_atomHolds_7 : decode cX11_atomHolds 7 = .ok (.iadd, 1) := dk_at dkB02decM2_5 3 rfl
theorem dX11_atomHolds_8 : decode cX11_atomHolds 8 = .ok (.iaload, 1) := dk_at dkB02decM2_5 4 rfl
theorem dX11_atomHolds_9 : decode cX11_atomHolds 9 = .ok (.if_icmp .lt 7, 3) := dk_at dkB02decM2_5 5 rfl
theorem dX11_atomHolds_12 : decode cX11_atomHolds 12 = .ok (.iconst 1, 1) := dk_at dkB02decM2_5 6 rfl
theorem dX11_atomHolds_13 : decode cX11_atomHolds 13 = .ok (.goto 4, 3) := dk_at dkB02decM2_5 7 rfl
theorem dX11_atomHolds_16 : decode cX11_atomHolds 16 = .ok (.iconst 0, 1) := dk_at dkB02decM2_5 8 rfl
theorem dX11_atomHolds_17 : decode cX11_atomHolds 17 = .ok (.aload_n 0, 1) := dk_at dkB02decM2_5 9 rfl
theorem dX11_atomHolds_18 : decode cX11_atomHolds 18 = .ok (.getfield 7, 3) := dk_at dkB02decM2_5 10 rfl
theorem dX11_atomHolds_21 : decode cX11_atomHolds 21 = .ok (.iload_n 1, 1) := dk_at dkB02decM2_5 11 rfl
theorem dX11_atomHolds_22 : decode cX11_atomHolds 22 = .ok (.iaload, 1) := dk_at dkB02decM2_5 12 rfl
theorem dX11_atomHolds_23 : decode cX11_atomHolds 23 = .ok (.ifCond .ne 7, 3) := dk_at dkB02decM2_5 13 rfl
theorem dX11_atomHolds_26 : decode cX11_atomHolds 26 = .ok (.iconst 1, 1) := dk_at dkB02decM2_5 14 rfl
theorem dX11_atomHolds_27 : decode cX11_atomHolds 27 = .ok (.goto 4, 3) := dk_at dkB02decM2_5 15 rfl
theorem dX11_atomHolds_30 : decode cX11_atomHolds 30 = .ok (.iconst 0, 1) := dk_at dkB02decM2_5 16 rfl
theorem dX11_atomHolds_31 : decode cX11_atomHolds 31 = .ok (.if_icmp .ne 7, 3) := dk_at dkB02decM2_5 17 rfl
theorem dX11_atomHolds_34 : decode cX11_atomHolds 34 = .ok (.iconst 1, 1) := dk_at dkB02decM2_5 18 rfl
theorem dX11_atomHolds_35 : decode cX11_atomHolds 35 = .ok (.goto 4, 3) := dk_at dkB02decM2_5 19 rfl
theorem dX11_atomHolds_38 : decode cX11_atomHolds 38 = .ok (.iconst 0, 1) := dk_at dkB02decM2_5 20 rfl
theorem dX11_atomHolds_39 : decode cX11_atomHolds 39 = .ok (.ireturn, 1) := dk_at dkB02decM2_5 21 rfl
theorem dX11_claimHolds_0 : decode cX11_claimHolds 0 = .ok (.sipush 326, 3) := dk_at dkB02decM2_5 22 rfl
theorem dX11_claimHolds_3 : decode cX11_claimHolds 3 = .ok (.bipush 14, 2) := dk_at dkB02decM2_5 23 rfl
theorem dX11_claimHolds_5 : decode cX11_claimHolds 5 = .ok (.iload_n 1, 1) := dk_at dkB02decM2_5 24 rfl
theorem dX11_claimHolds_6 : decode cX11_claimHolds 6 = .ok (.imul, 1) := dk_at dkB02decM2_5 25 rfl
theorem dX11_claimHolds_7 : decode cX11_claimHolds 7 = .ok (.iadd, 1) := dk_at dkB02decM2_5 26 rfl
theorem dX11_claimHolds_8 : decode cX11_claimHolds 8 = .ok (.istore 4, 2) := dk_at dkB02decM2_5 27 rfl
theorem dX11_claimHolds_10 : decode cX11_claimHolds 10 = .ok (.aload_n 0, 1) := dk_at dkB02decM2_5 28 rfl
theorem dX11_claimHolds_11 : decode cX11_claimHolds 11 = .ok (.iload 4, 2) := dk_at dkB02decM2_5 29 rfl
theorem dX11_claimHolds_13 : decode cX11_claimHolds 13 = .ok (.iconst 2, 1) := dk_at dkB02decM2_5 30 rfl
theorem dX11_claimHolds_14 : decode cX11_claimHolds 14 = .ok (.iadd, 1) := dk_at dkB02decM2_5 31 rfl
theorem dX11_claimHolds_15 : decode cX11_claimHolds 15 = .ok (.iload_n 2, 1) := dk_at dkB02decM2_5 32 rfl
theorem dX11_claimHolds_16 : decode cX11_claimHolds 16 = .ok (.invokevirtual 298, 3) := dk_at dkB02decM2_5 33 rfl
theorem dX11_claimHolds_19 : decode cX11_claimHolds 19 = .ok (.istore 5, 2) := dk_at dkB02decM2_5 34 rfl
theorem dX11_claimHolds_21 : decode cX11_claimHolds 21 = .ok (.aload_n 0, 1) := dk_at dkB02decM2_5 35 rfl
theorem dX11_claimHolds_22 : decode cX11_claimHolds 22 = .ok (.getfield 7, 3) := dk_at dkB02decM2_5 36 rfl
theorem dX11_claimHolds_25 : decode cX11_claimHolds 25 = .ok (.iload 4, 2) := dk_at dkB02decM2_5 37 rfl
theorem dX11_claimHolds_27 : decode cX11_claimHolds 27 = .ok (.iaload, 1) := dk_at dkB02decM2_5 38 rfl
theorem dX11_claimHolds_28 : decode cX11_claimHolds 28 = .ok (.iconst 1, 1) := dk_at dkB02decM2_5 39 rfl
theorem dX11_claimHolds_29 : decode cX11_claimHolds 29 = .ok (.if_icmp .ne 6, 3) := dk_at dkB02decM2_5 40 rfl
theorem dX11_claimHolds_32 : decode cX11_claimHolds 32 = .ok (.iload 5, 2) := dk_at dkB02decM2_5 41 rfl
theorem dX11_claimHolds_34 : decode cX11_claimHolds 34 = .ok (.ireturn, 1) := dk_at dkB02decM2_5 42 rfl
theorem dX11_claimHolds_35 : decode cX11_claimHolds 35 = .ok (.aload_n 0, 1) := dk_at dkB02decM2_5 43 rfl
theorem dX11_claimHolds_36 : decode cX11_claimHolds 36 = .ok (.iload 4, 2) := dk_at dkB02decM2_5 44 rfl
theorem dX11_claimHolds_38 : decode cX11_claimHolds 38 = .ok (.bipush 8, 2) := dk_at dkB02decM2_5 45 rfl
theorem dX11_claimHolds_40 : decode cX11_claimHolds 40 = .ok (.iadd, 1) := dk_at dkB02decM2_5 46 rfl
theorem dX11_claimHolds_41 : decode cX11_claimHolds 41 = .ok (.iload_n 3, 1) := dk_at dkB02decM2_5 47 rfl
theorem dX11_claimHolds_42 : decode cX11_claimHolds 42 = .ok (.invokevirtual 298, 3) := dk_at dkB02decM2_5 48 rfl
theorem dX11_claimHolds_45 : decode cX11_claimHolds 45 = .ok (.istore 6, 2) := dk_at dkB02decM2_5 49 rfl
theorem dX11_claimHolds_47 : decode cX11_claimHolds 47 = .ok (.aload_n 0, 1) := dk_at dkB02decM2_5 50 rfl
theorem dX11_claimHolds_48 : decode cX11_claimHolds 48 = .ok (.getfield 7, 3) := dk_at dkB02decM2_5 51 rfl
theorem dX11_claimHolds_51 : decode cX11_claimHolds 51 = .ok (.iload 4, 2) := dk_at dkB02decM2_5 52 rfl
theorem dX11_claimHolds_53 : decode cX11_claimHolds 53 = .ok (.iconst 1, 1) := dk_at dkB02decM2_5 53 rfl
theorem dX11_claimHolds_54 : decode cX11_claimHolds 54 = .ok (.iadd, 1) := dk_at dkB02decM2_5 54 rfl
theorem dX11_claimHolds_55 : decode cX11_claimHolds 55 = .ok (.iaload, 1) := dk_at dkB02decM2_5 55 rfl
theorem dX11_claimHolds_56 : decode cX11_claimHolds 56 = .ok (.iconst 1, 1) := dk_at dkB02decM2_5 56 rfl
theorem dX11_claimHolds_57 : decode cX11_claimHolds 57 = .ok (.if_icmp .ne 21, 3) := dk_at dkB02decM2_5 57 rfl
theorem dX11_claimHolds_60 : decode cX11_claimHolds 60 = .ok (.iload 5, 2) := dk_at dkB02decM2_5 58 rfl
theorem dX11_claimHolds_62 : decode cX11_claimHolds 62 = .ok (.ifCond .eq 12, 3) := dk_at dkB02decM2_5 59 rfl
noncomputable def dkL02decM2_6 : List (ByteArray × Nat × Instr × Nat) := [(cX11_claimHolds, 65, (.iload 6, 2)), (cX11_claimHolds, 67, (.ifCond .eq 7, 3)), (cX11_claimHolds, 70, (.iconst 1, 1)), (cX11_claimHolds, 71, (.goto 22, 3)), (cX11_claimHolds, 74, (.iconst 0, 1)), (cX11_claimHolds, 75, (.goto 18, 3)), (cX11_claimHolds, 78, (.iload 5, 2)), (cX11_claimHolds, 80, (.ifCond .ne 8, 3)), (cX11_claimHolds, 83, (.iload 6, 2)), (cX11_claimHolds, 85, (.ifCond .eq 7, 3)), (cX11_claimHolds, 88, (.iconst 1, 1)), (cX11_claimHolds, 89, (.goto 4, 3)), (cX11_claimHolds, 92, (.iconst 0, 1)), (cX11_claimHolds, 93, (.ireturn, 1)), (cX11_stateOf, 0, (.iconst 5, 1)), (cX11_stateOf, 1, (.iload_n 0, 1)), (cX11_stateOf, 2, (.imul, 1)), (cX11_stateOf, 3, (.iload_n 1, 1)), (cX11_stateOf, 4, (.iadd, 1)), (cX11_stateOf, 5, (.bipush 13, 2)), (cX11_stateOf, 7, (.imul, 1)), (cX11_stateOf, 8, (.iload_n 2, 1)), (cX11_stateOf, 9, (.iadd, 1)), (cX11_stateOf, 10, (.bipush 13, 2)), (cX11_stateOf, 12, (.imul, 1)), (cX11_stateOf, 13, (.iload_n 3, 1)), (cX11_stateOf, 14, (.iadd, 1)), (cX11_stateOf, 15, (.ireturn, 1)), (cX11_more, 0, (.sipush 326, 3)), (cX11_more, 3, (.bipush 14, 2)), (cX11_more, 5, (.iload_n 1, 1)), (cX11_more, 6, (.imul, 1)), (cX11_more, 7, (.iadd, 1)), (cX11_more, 8, (.iconst 2, 1)), (cX11_more, 9, (.iadd, 1)), (cX11_more, 10, (.bipush 6, 2)), (cX11_more, 12, (.iload_n 2, 1)), (cX11_more, 13, (.imul, 1)), (cX11_more, 14, (.iadd, 1)), (cX11_more, 15, (.istore 8, 2)), (cX11_more, 17, (.iload_n 2, 1)), (cX11_more, 18, (.aload_n 0, 1)), (cX11_more, 19, (.getfield 7, 3)), (cX11_more, 22, (.sipush 326, 3)), (cX11_more, 25, (.bipush 14, 2)), (cX11_more, 27, (.iload_n 1, 1)), (cX11_more, 28, (.imul, 1)), (cX11_more, 29, (.iadd, 1)), (cX11_more, 30, (.iaload, 1)), (cX11_more, 31, (.if_icmp .ge 28, 3)), (cX11_more, 34, (.aload_n 0, 1)), (cX11_more, 35, (.iload 8, 2)), (cX11_more, 37, (.iload_n 3, 1)), (cX11_more, 38, (.aload_n 0, 1)), (cX11_more, 39, (.getfield 19, 3)), (cX11_more, 42, (.iload 4, 2)), (cX11_more, 44, (.iaload, 1)), (cX11_more, 45, (.iload 5, 2)), (cX11_more, 47, (.iload 6, 2)), (cX11_more, 49, (.invokevirtual 301, 3))]
theorem dkB02decM2_6 : dkL02decM2_6.all (fun q => decide (decode q.1 q.2.1 = .ok q.2.2)) = true := by decide +kernel
theorem dX11_claimHolds_65 : decode cX11_claimHolds 65 = .ok (.iload 6, 2) := dk_at dkB02decM2_6 0 rfl
theorem dX11_claimHolds_67 : decode cX11_claimHolds 67 = .ok (.ifCond .eq 7, 3) := dk_at dkB02decM2_6 1 rfl
theorem dX11_claimHolds_70 : decode cX11_claimHolds 70 = .ok (.iconst 1, 1) := dk_at dkB02decM2_6 2 rfl
theorem dX11_claimHolds_71 : decode cX11_claimHolds 71 = .ok (.goto 22, 3) := dk_at dkB02decM2_6 3 rfl
theorem dX11_claimHolds_74 : decode cX11_claimHolds 74 = .ok (.iconst 0, 1) := dk_at dkB02decM2_6 4 rfl
theorem dX11_claimHolds_75 : decode cX11_claimHolds 75 = .ok (.goto 18, 3) := dk_at dkB02decM2_6 5 rfl
theorem dX11_claimHolds_78 : decode cX11_claimHolds 78 = .ok (.iload 5, 2) := dk_at dkB02decM2_6 6 rfl
theorem dX11_claimHolds_80 : decode cX11_claimHolds 80 = .ok (.ifCond .ne 8, 3) := dk_at dkB02decM2_6 7 rfl
theorem dX11_claimHolds_83 : decode cX11_claimHolds 83 = .ok (.iload 6, 2) := dk_at dkB02decM2_6 8 rfl
theorem dX11_claimHolds_85 : decode cX11_claimHolds 85 = .ok (.ifCond .eq 7, 3) := dk_at dkB02decM2_6 9 rfl
theorem dX11_claimHolds_88 : decode cX11_claimHolds 88 = .ok (.iconst 1, 1) := dk_at dkB02decM2_6 10 rfl
theorem dX11_claimHolds_89 : decode cX11_claimHolds 89 = .ok (.goto 4, 3) := dk_at dkB02decM2_6 11 rfl
theorem dX11_claimHolds_92 : decode cX11_claimHolds 92 = .ok (.iconst 0, 1) := dk_at dkB02decM2_6 12 rfl
theorem dX11_claimHolds_93 : decode cX11_claimHolds 93 = .ok (.ireturn, 1) := dk_at dkB02decM2_6 13 rfl
theorem dX11_stateOf_0 : decode cX11_stateOf 0 = .ok (.iconst 5, 1) := dk_at dkB02decM2_6 14 rfl
theorem dX11_stateOf_1 : decode cX11_stateOf 1 = .ok (.iload_n 0, 1) := dk_at dkB02decM2_6 15 rfl
theorem dX11_stateOf_2 : decode cX11_stateOf 2 = .ok (.imul, 1) := dk_at dkB02decM2_6 16 rfl
theorem dX11_stateOf_3 : decode cX11_stateOf 3 = .ok (.iload_n 1, 1) := dk_at dkB02decM2_6 17 rfl
theorem dX11_stateOf_4 : decode cX11_stateOf 4 = .ok (.iadd, 1) := dk_at dkB02decM2_6 18 rfl
theorem dX11_stateOf_5 : decode cX11_stateOf 5 = .ok (.bipush 13, 2) := dk_at dkB02decM2_6 19 rfl
theorem dX11_stateOf_7 : decode cX11_stateOf 7 = .ok (.imul, 1) := dk_at dkB02decM2_6 20 rfl
theorem dX11_stateOf_8 : decode cX11_stateOf 8 = .ok (.iload_n 2, 1) := dk_at dkB02decM2_6 21 rfl
theorem dX11_stateOf_9 : decode cX11_stateOf 9 = .ok (.iadd, 1) := dk_at dkB02decM2_6 22 rfl
theorem dX11_stateOf_10 : decode cX11_stateOf 10 = .ok (.bipush 13, 2) := dk_at dkB02decM2_6 23 rfl
theorem dX11_stateOf_12 : decode cX11_stateOf 12 = .ok (.imul, 1) := dk_at dkB02decM2_6 24 rfl
theorem dX11_stateOf_13 : decode cX11_stateOf 13 = .ok (.iload_n 3, 1) := dk_at dkB02decM2_6 25 rfl
theorem dX11_stateOf_14 : decode cX11_stateOf 14 = .ok (.iadd, 1) := dk_at dkB02decM2_6 26 rfl
theorem dX11_stateOf_15 : decode cX11_stateOf 15 = .ok (.ireturn, 1) := dk_at dkB02decM2_6 27 rfl
theorem dX11_more_0 : decode cX11_more 0 = .ok (.sipush 326, 3) := dk_at dkB02decM2_6 28 rfl
theorem dX11_more_3 : decode cX11_more 3 = .ok (.bipush 14, 2) := dk_at dkB02decM2_6 29 rfl
theorem dX11_more_5 : decode cX11_more 5 = .ok (.iload_n 1, 1) := dk_at dkB02decM2_6 30 rfl
theorem dX11_more_6 : decode cX11_more 6 = .ok (.imul, 1) := dk_at dkB02decM2_6 31 rfl
theorem dX11_more_7 : decode cX11_more 7 = .ok (.iadd, 1) := dk_at dkB02decM2_6 32 rfl
theorem dX11_more_8 : decode cX11_more 8 = .ok (.iconst 2, 1) := dk_at dkB02decM2_6 33 rfl
theorem dX11_more_9 : decode cX11_more 9 = .ok (.iadd, 1) := dk_at dkB02decM2_6 34 rfl
theorem dX11_more_10 : decode cX11_more 10 = .ok (.bipush 6, 2) := dk_at dkB02decM2_6 35 rfl
theorem dX11_more_12 : decode cX11_more 12 = .ok (.iload_n 2, 1) := dk_at dkB02decM2_6 36 rfl
theorem dX11_more_13 : decode cX11_more 13 = .ok (.imul, 1) := dk_at dkB02decM2_6 37 rfl
theorem dX11_more_14 : decode cX11_more 14 = .ok (.iadd, 1) := dk_at dkB02decM2_6 38 rfl
theorem dX11_more_15 : decode cX11_more 15 = .ok (.istore 8, 2) := dk_at dkB02decM2_6 39 rfl
theorem dX11_more_17 : decode cX11_more 17 = .ok (.iload_n 2, 1) := dk_at dkB02decM2_6 40 rfl
theorem dX11_more_18 : decode cX11_more 18 = .ok (.aload_n 0, 1) := dk_at dkB02decM2_6 41 rfl
theorem dX11_more_19 : decode cX11_more 19 = .ok (.getfield 7, 3) := dk_at dkB02decM2_6 42 rfl
theorem dX11_more_22 : decode cX11_more 22 = .ok (.sipush 326, 3) := dk_at dkB02decM2_6 43 rfl
theorem dX11_more_25 : decode cX11_more 25 = .ok (.bipush 14, 2) := dk_at dkB02decM2_6 44 rfl
theorem dX11_more_27 : decode cX11_more 27 = .ok (.iload_n 1, 1) := dk_at dkB02decM2_6 45 rfl
theorem dX11_more_28 : decode cX11_more 28 = .ok (.imul, 1) := dk_at dkB02decM2_6 46 rfl
theorem dX11_more_29 : decode cX11_more 29 = .ok (.iadd, 1) := dk_at dkB02decM2_6 47 rfl
theorem dX11_more_30 : decode cX11_more 30 = .ok (.iaload, 1) := dk_at dkB02decM2_6 48 rfl
theorem dX11_more_31 : decode cX11_more 31 = .ok (.if_icmp .ge 28, 3) := dk_at dkB02decM2_6 49 rfl
theorem dX11_more_34 : decode cX11_more 34 = .ok (.aload_n 0, 1) := dk_at dkB02decM2_6 50 rfl
theorem dX11_more_35 : decode cX11_more 35 = .ok (.iload 8, 2) := dk_at dkB02decM2_6 51 rfl
theorem dX11_more_37 : decode cX11_more 37 = .ok (.iload_n 3, 1) := dk_at dkB02decM2_6 52 rfl
theorem dX11_more_38 : decode cX11_more 38 = .ok (.aload_n 0, 1) := dk_at dkB02decM2_6 53 rfl
theorem dX11_more_39 : decode cX11_more 39 = .ok (.getfield 19, 3) := dk_at dkB02decM2_6 54 rfl
theorem dX11_more_42 : decode cX11_more 42 = .ok (.iload 4, 2) := dk_at dkB02decM2_6 55 rfl
theorem dX11_more_44 : decode cX11_more 44 = .ok (.iaload, 1) := dk_at dkB02decM2_6 56 rfl
theorem dX11_more_45 : decode cX11_more 45 = .ok (.iload 5, 2) := dk_at dkB02decM2_6 57 rfl
theorem dX11_more_47 : decode cX11_more 47 = .ok (.iload 6, 2) := dk_at dkB02decM2_6 58 rfl
theorem dX11_more_49 : decode cX11_more 49 = .ok (.invokevirtual 301, 3) := dk_at dkB02decM2_6 59 rfl
noncomputable def dkL02decM2_7 : List (ByteArray × Nat × Instr × Nat) := [(cX11_more, 52, (.ifCond .eq 7, 3)), (cX11_more, 55, (.iconst 1, 1)), (cX11_more, 56, (.goto 4, 3)), (cX11_more, 59, (.iconst 0, 1)), (cX11_more, 60, (.istore 9, 2)), (cX11_more, 62, (.iload 9, 2)), (cX11_more, 64, (.ifCond .eq 24, 3)), (cX11_more, 67, (.iload 7, 2)), (cX11_more, 69, (.aload_n 0, 1)), (cX11_more, 70, (.getfield 7, 3)), (cX11_more, 73, (.iload 8, 2)), (cX11_more, 75, (.iconst 5, 1)), (cX11_more, 76, (.iadd, 1)), (cX11_more, 77, (.iaload, 1)), (cX11_more, 78, (.if_icmp .ge 10, 3)), (cX11_more, 81, (.iload 7, 2)), (cX11_more, 83, (.iconst 1, 1)), (cX11_more, 84, (.iadd, 1)), (cX11_more, 85, (.goto 5, 3)), (cX11_more, 88, (.iload 7, 2)), (cX11_more, 90, (.ireturn, 1)), (cX11_clearThen, 0, (.iconst 0, 1)), (cX11_clearThen, 1, (.istore_n 1, 1)), (cX11_clearThen, 2, (.iload_n 1, 1)), (cX11_clearThen, 3, (.sipush 20280, 3)), (cX11_clearThen, 6, (.if_icmp .ge 16, 3)), (cX11_clearThen, 9, (.aload_n 0, 1)), (cX11_clearThen, 10, (.getfield 53, 3)), (cX11_clearThen, 13, (.iload_n 1, 1)), (cX11_clearThen, 14, (.lconst 0, 1)), (cX11_clearThen, 15, (.lastore, 1)), (cX11_clearThen, 16, (.iinc 1 1, 3)), (cX11_clearThen, 19, (.goto (-17), 3)), (cX11_clearThen, 22, (.return_, 1)), (cX11_turn, 0, (.iconst 0, 1)), (cX11_turn, 1, (.istore_n 1, 1)), (cX11_turn, 2, (.iload_n 1, 1)), (cX11_turn, 3, (.sipush 20280, 3)), (cX11_turn, 6, (.if_icmp .ge 21, 3)), (cX11_turn, 9, (.aload_n 0, 1)), (cX11_turn, 10, (.getfield 50, 3)), (cX11_turn, 13, (.iload_n 1, 1)), (cX11_turn, 14, (.aload_n 0, 1)), (cX11_turn, 15, (.getfield 53, 3)), (cX11_turn, 18, (.iload_n 1, 1)), (cX11_turn, 19, (.laload, 1)), (cX11_turn, 20, (.lastore, 1)), (cX11_turn, 21, (.iinc 1 1, 3)), (cX11_turn, 24, (.goto (-22), 3)), (cX11_turn, 27, (.return_, 1)), (cX11_waysSo, 0, (.aload_n 0, 1)), (cX11_waysSo, 1, (.invokevirtual 305, 3)), (cX11_waysSo, 4, (.iconst 0, 1)), (cX11_waysSo, 5, (.istore 4, 2)), (cX11_waysSo, 7, (.iload 4, 2)), (cX11_waysSo, 9, (.bipush 24, 2)), (cX11_waysSo, 11, (.if_icmp .ge 63, 3)), (cX11_waysSo, 14, (.aload_n 0, 1)), (cX11_waysSo, 15, (.getfield 22, 3)), (cX11_waysSo, 18, (.iconst 0, 1))]
theorem dkB02decM2_7 : dkL02decM2_7.all (fun q => decide (decode q.1 q.2.1 = .ok q.2.2)) = true := by decide +kernel
theorem dX11_more_52 : decode cX11_more 52 = .ok (.ifCond .eq 7, 3) := dk_at dkB02decM2_7 0 rfl
theorem dX11_more_55 : decode cX11_more 55 = .ok (.iconst 1, 1) := dk_at dkB02decM2_7 1 rfl
theorem dX11_more_56 : decode cX11_more 56 = .ok (.goto 4, 3) := dk_at dkB02decM2_7 2 rfl
theorem dX11_more_59 : decode cX11_more 59 = .ok (.iconst 0, 1) := dk_at dkB02decM2_7 3 rfl
theorem dX11_more_60 : decode cX11_more 60 = .ok (.istore 9, 2) := dk_at dkB02decM2_7 4 rfl
theorem dX11_more_62 : decode cX11_more 62 = .ok (.iload 9, 2) := dk_at dkB02decM2_7 5 rfl
theorem dX11_more_64 : decode cX11_more 64 = .ok (.ifCond .eq 24, 3) := dk_at dkB02decM2_7 6 rfl
theorem dX11_more_67 : decode cX11_more 67 = .ok (.iload 7, 2) := dk_at dkB02decM2_7 7 rfl
theorem dX11_more_69 : decode cX11_more 69 = .ok (.aload_n 0, 1) := dk_at dkB02decM2_7 8 rfl
theorem dX11_more_70 : decode cX11_more 70 = .ok (.getfield 7, 3) := dk_at dkB02decM2_7 9 rfl
theorem dX11_more_73 : decode cX11_more 73 = .ok (.iload 8, 2) := dk_at dkB02decM2_7 10 rfl
theorem dX11_more_75 : decode cX11_more 75 = .ok (.iconst 5, 1) := dk_at dkB02decM2_7 11 rfl
theorem dX11_more_76 : decode cX11_more 76 = .ok (.iadd, 1) := dk_at dkB02decM2_7 12 rfl
theorem dX11_more_77 : decode cX11_more 77 = .ok (.iaload, 1) := dk_at dkB02decM2_7 13 rfl
theorem dX11_more_78 : decode cX11_more 78 = .ok (.if_icmp .ge 10, 3) := dk_at dkB02decM2_7 14 rfl
theorem dX11_more_81 : decode cX11_more 81 = .ok (.iload 7, 2) := dk_at dkB02decM2_7 15 rfl
theorem dX11_more_83 : decode cX11_more 83 = .ok (.iconst 1, 1) := dk_at dkB02decM2_7 16 rfl
theorem dX11_more_84 : decode cX11_more 84 = .ok (.iadd, 1) := dk_at dkB02decM2_7 17 rfl
theorem dX11_more_85 : decode cX11_more 85 = .ok (.goto 5, 3) := dk_at dkB02decM2_7 18 rfl
theorem dX11_more_88 : decode cX11_more 88 = .ok (.iload 7, 2) := dk_at dkB02decM2_7 19 rfl
theorem dX11_more_90 : decode cX11_more 90 = .ok (.ireturn, 1) := dk_at dkB02decM2_7 20 rfl
theorem dX11_clearThen_0 : decode cX11_clearThen 0 = .ok (.iconst 0, 1) := dk_at dkB02decM2_7 21 rfl
theorem dX11_clearThen_1 : decode cX11_clearThen 1 = .ok (.istore_n 1, 1) := dk_at dkB02decM2_7 22 rfl
theorem dX11_clearThen_2 : decode cX11_clearThen 2 = .ok (.iload_n 1, 1) := dk_at dkB02decM2_7 23 rfl
theorem dX11_clearThen_3 : decode cX11_clearThen 3 = .ok (.sipush 20280, 3) := dk_at dkB02decM2_7 24 rfl
theorem dX11_clearThen_6 : decode cX11_clearThen 6 = .ok (.if_icmp .ge 16, 3) := dk_at dkB02decM2_7 25 rfl
theorem dX11_clearThen_9 : decode cX11_clearThen 9 = .ok (.aload_n 0, 1) := dk_at dkB02decM2_7 26 rfl
theorem dX11_clearThen_10 : decode cX11_clearThen 10 = .ok (.getfield 53, 3) := dk_at dkB02decM2_7 27 rfl
theorem dX11_clearThen_13 : decode cX11_clearThen 13 = .ok (.iload_n 1, 1) := dk_at dkB02decM2_7 28 rfl
theorem dX11_clearThen_14 : decode cX11_clearThen 14 = .ok (.lconst 0, 1) := dk_at dkB02decM2_7 29 rfl
theorem dX11_clearThen_15 : decode cX11_clearThen 15 = .ok (.lastore, 1) := dk_at dkB02decM2_7 30 rfl
theorem dX11_clearThen_16 : decode cX11_clearThen 16 = .ok (.iinc 1 1, 3) := dk_at dkB02decM2_7 31 rfl
theorem dX11_clearThen_19 : decode cX11_clearThen 19 = .ok (.goto (-17), 3) := dk_at dkB02decM2_7 32 rfl
theorem dX11_clearThen_22 : decode cX11_clearThen 22 = .ok (.return_, 1) := dk_at dkB02decM2_7 33 rfl
theorem dX11_turn_0 : decode cX11_turn 0 = .ok (.iconst 0, 1) := dk_at dkB02decM2_7 34 rfl
theorem dX11_turn_1 : decode cX11_turn 1 = .ok (.istore_n 1, 1) := dk_at dkB02decM2_7 35 rfl
theorem dX11_turn_2 : decode cX11_turn 2 = .ok (.iload_n 1, 1) := dk_at dkB02decM2_7 36 rfl
theorem dX11_turn_3 : decode cX11_turn 3 = .ok (.sipush 20280, 3) := dk_at dkB02decM2_7 37 rfl
theorem dX11_turn_6 : decode cX11_turn 6 = .ok (.if_icmp .ge 21, 3) := dk_at dkB02decM2_7 38 rfl
theorem dX11_turn_9 : decode cX11_turn 9 = .ok (.aload_n 0, 1) := dk_at dkB02decM2_7 39 rfl
theorem dX11_turn_10 : decode cX11_turn 10 = .ok (.getfield 50, 3) := dk_at dkB02decM2_7 40 rfl
theorem dX11_turn_13 : decode cX11_turn 13 = .ok (.iload_n 1, 1) := dk_at dkB02decM2_7 41 rfl
theorem dX11_turn_14 : decode cX11_turn 14 = .ok (.aload_n 0, 1) := dk_at dkB02decM2_7 42 rfl
theorem dX11_turn_15 : decode cX11_turn 15 = .ok (.getfield 53, 3) := dk_at dkB02decM2_7 43 rfl
theorem dX11_turn_18 : decode cX11_turn 18 = .ok (.iload_n 1, 1) := dk_at dkB02decM2_7 44 rfl
theorem dX11_turn_19 : decode cX11_turn 19 = .ok (.laload, 1) := dk_at dkB02decM2_7 45 rfl
theorem dX11_turn_20 : decode cX11_turn 20 = .ok (.lastore, 1) := dk_at dkB02decM2_7 46 rfl
theorem dX11_turn_21 : decode cX11_turn 21 = .ok (.iinc 1 1, 3) := dk_at dkB02decM2_7 47 rfl
theorem dX11_turn_24 : decode cX11_turn 24 = .ok (.goto (-22), 3) := dk_at dkB02decM2_7 48 rfl
theorem dX11_turn_27 : decode cX11_turn 27 = .ok (.return_, 1) := dk_at dkB02decM2_7 49 rfl
theorem dX11_waysSo_0 : decode cX11_waysSo 0 = .ok (.aload_n 0, 1) := dk_at dkB02decM2_7 50 rfl
theorem dX11_waysSo_1 : decode cX11_waysSo 1 = .ok (.invokevirtual 305, 3) := dk_at dkB02decM2_7 51 rfl
theorem dX11_waysSo_4 : decode cX11_waysSo 4 = .ok (.iconst 0, 1) := dk_at dkB02decM2_7 52 rfl
theorem dX11_waysSo_5 : decode cX11_waysSo 5 = .ok (.istore 4, 2) := dk_at dkB02decM2_7 53 rfl
theorem dX11_waysSo_7 : decode cX11_waysSo 7 = .ok (.iload 4, 2) := dk_at dkB02decM2_7 54 rfl
theorem dX11_waysSo_9 : decode cX11_waysSo 9 = .ok (.bipush 24, 2) := dk_at dkB02decM2_7 55 rfl
theorem dX11_waysSo_11 : decode cX11_waysSo 11 = .ok (.if_icmp .ge 63, 3) := dk_at dkB02decM2_7 56 rfl
theorem dX11_waysSo_14 : decode cX11_waysSo 14 = .ok (.aload_n 0, 1) := dk_at dkB02decM2_7 57 rfl
theorem dX11_waysSo_15 : decode cX11_waysSo 15 = .ok (.getfield 22, 3) := dk_at dkB02decM2_7 58 rfl
theorem dX11_waysSo_18 : decode cX11_waysSo 18 = .ok (.iconst 0, 1) := dk_at dkB02decM2_7 59 rfl
noncomputable def dkL02decM2_8 : List (ByteArray × Nat × Instr × Nat) := [(cX11_waysSo, 19, (.iaload, 1)), (cX11_waysSo, 20, (.iload 4, 2)), (cX11_waysSo, 22, (.ishr, 1)), (cX11_waysSo, 23, (.iconst 1, 1)), (cX11_waysSo, 24, (.iand, 1)), (cX11_waysSo, 25, (.iconst 1, 1)), (cX11_waysSo, 26, (.if_icmp .ne 42, 3)), (cX11_waysSo, 29, (.aload_n 0, 1)), (cX11_waysSo, 30, (.getfield 53, 3)), (cX11_waysSo, 33, (.iload 4, 2)), (cX11_waysSo, 35, (.iconst 1, 1)), (cX11_waysSo, 36, (.aload_n 0, 1)), (cX11_waysSo, 37, (.iload_n 1, 1)), (cX11_waysSo, 38, (.iconst 0, 1)), (cX11_waysSo, 39, (.iload_n 2, 1)), (cX11_waysSo, 40, (.iconst 0, 1)), (cX11_waysSo, 41, (.iload 4, 2)), (cX11_waysSo, 43, (.iload_n 3, 1)), (cX11_waysSo, 44, (.iconst 0, 1)), (cX11_waysSo, 45, (.invokevirtual 308, 3)), (cX11_waysSo, 48, (.aload_n 0, 1)), (cX11_waysSo, 49, (.iload_n 1, 1)), (cX11_waysSo, 50, (.iconst 1, 1)), (cX11_waysSo, 51, (.iload_n 2, 1)), (cX11_waysSo, 52, (.iconst 0, 1)), (cX11_waysSo, 53, (.iload 4, 2)), (cX11_waysSo, 55, (.iload_n 3, 1)), (cX11_waysSo, 56, (.iconst 0, 1)), (cX11_waysSo, 57, (.invokevirtual 308, 3)), (cX11_waysSo, 60, (.invokestatic 312, 3)), (cX11_waysSo, 63, (.dup2, 1)), (cX11_waysSo, 64, (.laload, 1)), (cX11_waysSo, 65, (.lconst 1, 1)), (cX11_waysSo, 66, (.ladd, 1)), (cX11_waysSo, 67, (.lastore, 1)), (cX11_waysSo, 68, (.iinc 4 1, 3)), (cX11_waysSo, 71, (.goto (-64), 3)), (cX11_waysSo, 74, (.iconst 1, 1)), (cX11_waysSo, 75, (.istore 4, 2)), (cX11_waysSo, 77, (.iload 4, 2)), (cX11_waysSo, 79, (.aload_n 0, 1)), (cX11_waysSo, 80, (.getfield 192, 3)), (cX11_waysSo, 83, (.if_icmp .ge 57, 3)), (cX11_waysSo, 86, (.aload_n 0, 1)), (cX11_waysSo, 87, (.invokevirtual 315, 3)), (cX11_waysSo, 90, (.aload_n 0, 1)), (cX11_waysSo, 91, (.invokevirtual 305, 3)), (cX11_waysSo, 94, (.iconst 0, 1)), (cX11_waysSo, 95, (.istore 5, 2)), (cX11_waysSo, 97, (.iload 5, 2)), (cX11_waysSo, 99, (.sipush 20280, 3)), (cX11_waysSo, 102, (.if_icmp .ge 32, 3)), (cX11_waysSo, 105, (.aload_n 0, 1)), (cX11_waysSo, 106, (.getfield 50, 3)), (cX11_waysSo, 109, (.iload 5, 2)), (cX11_waysSo, 111, (.laload, 1)), (cX11_waysSo, 112, (.lconst 0, 1)), (cX11_waysSo, 113, (.lcmp, 1)), (cX11_waysSo, 114, (.ifCond .le 14, 3)), (cX11_waysSo, 117, (.aload_n 0, 1))]
theorem dkB02decM2_8 : dkL02decM2_8.all (fun q => decide (decode q.1 q.2.1 = .ok q.2.2)) = true := by decide +kernel
theorem dX11_waysSo_19 : decode cX11_waysSo 19 = .ok (.iaload, 1) := dk_at dkB02decM2_8 0 rfl
theorem dX11_waysSo_20 : decode cX11_waysSo 20 = .ok (.iload 4, 2) := dk_at dkB02decM2_8 1 rfl
theorem dX11_waysSo_22 : decode cX11_waysSo 22 = .ok (.ishr, 1) := dk_at dkB02decM2_8 2 rfl
theorem dX11_waysSo_23 : decode cX11_waysSo 23 = .ok (.iconst 1, 1) := dk_at dkB02decM2_8 3 rfl
theorem dX11_waysSo_24 : decode cX11_waysSo 24 = .ok (.iand, 1) := dk_at dkB02decM2_8 4 rfl
theorem dX11_waysSo_25 : decode cX11_waysSo 25 = .ok (.iconst 1, 1) := dk_at dkB02decM2_8 5 rfl
theorem dX11_waysSo_26 : decode cX11_waysSo 26 = .ok (.if_icmp .ne 42, 3) := dk_at dkB02decM2_8 6 rfl
theorem dX11_waysSo_29 : decode cX11_waysSo 29 = .ok (.aload_n 0, 1) := dk_at dkB02decM2_8 7 rfl
theorem dX11_waysSo_30 : decode cX11_waysSo 30 = .ok (.getfield 53, 3) := dk_at dkB02decM2_8 8 rfl
theorem dX11_waysSo_33 : decode cX11_waysSo 33 = .ok (.iload 4, 2) := dk_at dkB02decM2_8 9 rfl
theorem dX11_waysSo_35 : decode cX11_waysSo 35 = .ok (.iconst 1, 1) := dk_at dkB02decM2_8 10 rfl
theorem dX11_waysSo_36 : decode cX11_waysSo 36 = .ok (.aload_n 0, 1) := dk_at dkB02decM2_8 11 rfl
theorem dX11_waysSo_37 : decode cX11_waysSo 37 = .ok (.iload_n 1, 1) := dk_at dkB02decM2_8 12 rfl
theorem dX11_waysSo_38 : decode cX11_waysSo 38 = .ok (.iconst 0, 1) := dk_at dkB02decM2_8 13 rfl
theorem dX11_waysSo_39 : decode cX11_waysSo 39 = .ok (.iload_n 2, 1) := dk_at dkB02decM2_8 14 rfl
theorem dX11_waysSo_40 : decode cX11_waysSo 40 = .ok (.iconst 0, 1) := dk_at dkB02decM2_8 15 rfl
theorem dX11_waysSo_41 : decode cX11_waysSo 41 = .ok (.iload 4, 2) := dk_at dkB02decM2_8 16 rfl
theorem dX11_waysSo_43 : decode cX11_waysSo 43 = .ok (.iload_n 3, 1) := dk_at dkB02decM2_8 17 rfl
theorem dX11_waysSo_44 : decode cX11_waysSo 44 = .ok (.iconst 0, 1) := dk_at dkB02decM2_8 18 rfl
theorem dX11_waysSo_45 : decode cX11_waysSo 45 = .ok (.invokevirtual 308, 3) := dk_at dkB02decM2_8 19 rfl
theorem dX11_waysSo_48 : decode cX11_waysSo 48 = .ok (.aload_n 0, 1) := dk_at dkB02decM2_8 20 rfl
theorem dX11_waysSo_49 : decode cX11_waysSo 49 = .ok (.iload_n 1, 1) := dk_at dkB02decM2_8 21 rfl
theorem dX11_waysSo_50 : decode cX11_waysSo 50 = .ok (.iconst 1, 1) := dk_at dkB02decM2_8 22 rfl
theorem dX11_waysSo_51 : decode cX11_waysSo 51 = .ok (.iload_n 2, 1) := dk_at dkB02decM2_8 23 rfl
theorem dX11_waysSo_52 : decode cX11_waysSo 52 = .ok (.iconst 0, 1) := dk_at dkB02decM2_8 24 rfl
theorem dX11_waysSo_53 : decode cX11_waysSo 53 = .ok (.iload 4, 2) := dk_at dkB02decM2_8 25 rfl
theorem dX11_waysSo_55 : decode cX11_waysSo 55 = .ok (.iload_n 3, 1) := dk_at dkB02decM2_8 26 rfl
theorem dX11_waysSo_56 : decode cX11_waysSo 56 = .ok (.iconst 0, 1) := dk_at dkB02decM2_8 27 rfl
theorem dX11_waysSo_57 : decode cX11_waysSo 57 = .ok (.invokevirtual 308, 3) := dk_at dkB02decM2_8 28 rfl
theorem dX11_waysSo_60 : decode cX11_waysSo 60 = .ok (.invokestatic 312, 3) := dk_at dkB02decM2_8 29 rfl
theorem dX11_waysSo_63 : decode cX11_waysSo 63 = .ok (.dup2, 1) := dk_at dkB02decM2_8 30 rfl
theorem dX11_waysSo_64 : decode cX11_waysSo 64 = .ok (.laload, 1) := dk_at dkB02decM2_8 31 rfl
theorem dX11_waysSo_65 : decode cX11_waysSo 65 = .ok (.lconst 1, 1) := dk_at dkB02decM2_8 32 rfl
theorem dX11_waysSo_66 : decode cX11_waysSo 66 = .ok (.ladd, 1) := dk_at dkB02decM2_8 33 rfl
theorem dX11_waysSo_67 : decode cX11_waysSo 67 = .ok (.lastore, 1) := dk_at dkB02decM2_8 34 rfl
theorem dX11_waysSo_68 : decode cX11_waysSo 68 = .ok (.iinc 4 1, 3) := dk_at dkB02decM2_8 35 rfl
theorem dX11_waysSo_71 : decode cX11_waysSo 71 = .ok (.goto (-64), 3) := dk_at dkB02decM2_8 36 rfl
theorem dX11_waysSo_74 : decode cX11_waysSo 74 = .ok (.iconst 1, 1) := dk_at dkB02decM2_8 37 rfl
theorem dX11_waysSo_75 : decode cX11_waysSo 75 = .ok (.istore 4, 2) := dk_at dkB02decM2_8 38 rfl
theorem dX11_waysSo_77 : decode cX11_waysSo 77 = .ok (.iload 4, 2) := dk_at dkB02decM2_8 39 rfl
theorem dX11_waysSo_79 : decode cX11_waysSo 79 = .ok (.aload_n 0, 1) := dk_at dkB02decM2_8 40 rfl
theorem dX11_waysSo_80 : decode cX11_waysSo 80 = .ok (.getfield 192, 3) := dk_at dkB02decM2_8 41 rfl
theorem dX11_waysSo_83 : decode cX11_waysSo 83 = .ok (.if_icmp .ge 57, 3) := dk_at dkB02decM2_8 42 rfl
theorem dX11_waysSo_86 : decode cX11_waysSo 86 = .ok (.aload_n 0, 1) := dk_at dkB02decM2_8 43 rfl
theorem dX11_waysSo_87 : decode cX11_waysSo 87 = .ok (.invokevirtual 315, 3) := dk_at dkB02decM2_8 44 rfl
theorem dX11_waysSo_90 : decode cX11_waysSo 90 = .ok (.aload_n 0, 1) := dk_at dkB02decM2_8 45 rfl
theorem dX11_waysSo_91 : decode cX11_waysSo 91 = .ok (.invokevirtual 305, 3) := dk_at dkB02decM2_8 46 rfl
theorem dX11_waysSo_94 : decode cX11_waysSo 94 = .ok (.iconst 0, 1) := dk_at dkB02decM2_8 47 rfl
theorem dX11_waysSo_95 : decode cX11_waysSo 95 = .ok (.istore 5, 2) := dk_at dkB02decM2_8 48 rfl
theorem dX11_waysSo_97 : decode cX11_waysSo 97 = .ok (.iload 5, 2) := dk_at dkB02decM2_8 49 rfl
theorem dX11_waysSo_99 : decode cX11_waysSo 99 = .ok (.sipush 20280, 3) := dk_at dkB02decM2_8 50 rfl
theorem dX11_waysSo_102 : decode cX11_waysSo 102 = .ok (.if_icmp .ge 32, 3) := dk_at dkB02decM2_8 51 rfl
theorem dX11_waysSo_105 : decode cX11_waysSo 105 = .ok (.aload_n 0, 1) := dk_at dkB02decM2_8 52 rfl
theorem dX11_waysSo_106 : decode cX11_waysSo 106 = .ok (.getfield 50, 3) := dk_at dkB02decM2_8 53 rfl
theorem dX11_waysSo_109 : decode cX11_waysSo 109 = .ok (.iload 5, 2) := dk_at dkB02decM2_8 54 rfl
theorem dX11_waysSo_111 : decode cX11_waysSo 111 = .ok (.laload, 1) := dk_at dkB02decM2_8 55 rfl
theorem dX11_waysSo_112 : decode cX11_waysSo 112 = .ok (.lconst 0, 1) := dk_at dkB02decM2_8 56 rfl
theorem dX11_waysSo_113 : decode cX11_waysSo 113 = .ok (.lcmp, 1) := dk_at dkB02decM2_8 57 rfl
theorem dX11_waysSo_114 : decode cX11_waysSo 114 = .ok (.ifCond .le 14, 3) := dk_at dkB02decM2_8 58 rfl
theorem dX11_waysSo_117 : decode cX11_waysSo 117 = .ok (.aload_n 0, 1) := dk_at dkB02decM2_8 59 rfl
noncomputable def dkL02decM2_9 : List (ByteArray × Nat × Instr × Nat) := [(cX11_waysSo, 118, (.iload_n 1, 1)), (cX11_waysSo, 119, (.iload_n 2, 1)), (cX11_waysSo, 120, (.iload_n 3, 1)), (cX11_waysSo, 121, (.iload 4, 2)), (cX11_waysSo, 123, (.iload 5, 2)), (cX11_waysSo, 125, (.invokevirtual 318, 3)), (cX11_waysSo, 128, (.iinc 5 1, 3)), (cX11_waysSo, 131, (.goto (-34), 3)), (cX11_waysSo, 134, (.iinc 4 1, 3)), (cX11_waysSo, 137, (.goto (-60), 3)), (cX11_waysSo, 140, (.lconst 0, 1)), (cX11_waysSo, 141, (.lstore 4, 2)), (cX11_waysSo, 143, (.iconst 0, 1)), (cX11_waysSo, 144, (.istore 6, 2)), (cX11_waysSo, 146, (.iload 6, 2)), (cX11_waysSo, 148, (.sipush 20280, 3)), (cX11_waysSo, 151, (.if_icmp .ge 58, 3)), (cX11_waysSo, 154, (.lload 4, 2)), (cX11_waysSo, 156, (.aload_n 0, 1)), (cX11_waysSo, 157, (.getfield 53, 3)), (cX11_waysSo, 160, (.iload 6, 2)), (cX11_waysSo, 162, (.laload, 1)), (cX11_waysSo, 163, (.lconst 0, 1)), (cX11_waysSo, 164, (.lcmp, 1)), (cX11_waysSo, 165, (.ifCond .le 34, 3)), (cX11_waysSo, 168, (.aload_n 0, 1)), (cX11_waysSo, 169, (.iload_n 1, 1)), (cX11_waysSo, 170, (.iload 6, 2)), (cX11_waysSo, 172, (.bipush 13, 2)), (cX11_waysSo, 174, (.idiv, 1)), (cX11_waysSo, 175, (.bipush 13, 2)), (cX11_waysSo, 177, (.irem, 1)), (cX11_waysSo, 178, (.iload 6, 2)), (cX11_waysSo, 180, (.bipush 13, 2)), (cX11_waysSo, 182, (.irem, 1)), (cX11_waysSo, 183, (.invokevirtual 322, 3)), (cX11_waysSo, 186, (.ifCond .eq 13, 3)), (cX11_waysSo, 189, (.aload_n 0, 1)), (cX11_waysSo, 190, (.getfield 53, 3)), (cX11_waysSo, 193, (.iload 6, 2)), (cX11_waysSo, 195, (.laload, 1)), (cX11_waysSo, 196, (.goto 4, 3)), (cX11_waysSo, 199, (.lconst 0, 1)), (cX11_waysSo, 200, (.ladd, 1)), (cX11_waysSo, 201, (.lstore 4, 2)), (cX11_waysSo, 203, (.iinc 6 1, 3)), (cX11_waysSo, 206, (.goto (-60), 3)), (cX11_waysSo, 209, (.lload 4, 2)), (cX11_waysSo, 211, (.lreturn, 1)), (cX11_goOn, 0, (.iload 5, 2)), (cX11_goOn, 2, (.bipush 13, 2)), (cX11_goOn, 4, (.irem, 1)), (cX11_goOn, 5, (.istore 6, 2)), (cX11_goOn, 7, (.iload 5, 2)), (cX11_goOn, 9, (.bipush 13, 2)), (cX11_goOn, 11, (.idiv, 1)), (cX11_goOn, 12, (.bipush 13, 2)), (cX11_goOn, 14, (.irem, 1)), (cX11_goOn, 15, (.istore 7, 2)), (cX11_goOn, 17, (.iload 5, 2))]
theorem dkB02decM2_9 : dkL02decM2_9.all (fun q => decide (decode q.1 q.2.1 = .ok q.2.2)) = true := by decide +kernel
theorem dX11_waysSo_118 : decode cX11_waysSo 118 = .ok (.iload_n 1, 1) := dk_at dkB02decM2_9 0 rfl
theorem dX11_waysSo_119 : decode cX11_waysSo 119 = .ok (.iload_n 2, 1) := dk_at dkB02decM2_9 1 rfl
theorem dX11_waysSo_120 : decode cX11_waysSo 120 = .ok (.iload_n 3, 1) := dk_at dkB02decM2_9 2 rfl
theorem dX11_waysSo_121 : decode cX11_waysSo 121 = .ok (.iload 4, 2) := dk_at dkB02decM2_9 3 rfl
theorem dX11_waysSo_123 : decode cX11_waysSo 123 = .ok (.iload 5, 2) := dk_at dkB02decM2_9 4 rfl
theorem dX11_waysSo_125 : decode cX11_waysSo 125 = .ok (.invokevirtual 318, 3) := dk_at dkB02decM2_9 5 rfl
theorem dX11_waysSo_128 : decode cX11_waysSo 128 = .ok (.iinc 5 1, 3) := dk_at dkB02decM2_9 6 rfl
theorem dX11_waysSo_131 : decode cX11_waysSo 131 = .ok (.goto (-34), 3) := dk_at dkB02decM2_9 7 rfl
theorem dX11_waysSo_134 : decode cX11_waysSo 134 = .ok (.iinc 4 1, 3) := dk_at dkB02decM2_9 8 rfl
theorem dX11_waysSo_137 : decode cX11_waysSo 137 = .ok (.goto (-60), 3) := dk_at dkB02decM2_9 9 rfl
theorem dX11_waysSo_140 : decode cX11_waysSo 140 = .ok (.lconst 0, 1) := dk_at dkB02decM2_9 10 rfl
theorem dX11_waysSo_141 : decode cX11_waysSo 141 = .ok (.lstore 4, 2) := dk_at dkB02decM2_9 11 rfl
theorem dX11_waysSo_143 : decode cX11_waysSo 143 = .ok (.iconst 0, 1) := dk_at dkB02decM2_9 12 rfl
theorem dX11_waysSo_144 : decode cX11_waysSo 144 = .ok (.istore 6, 2) := dk_at dkB02decM2_9 13 rfl
theorem dX11_waysSo_146 : decode cX11_waysSo 146 = .ok (.iload 6, 2) := dk_at dkB02decM2_9 14 rfl
theorem dX11_waysSo_148 : decode cX11_waysSo 148 = .ok (.sipush 20280, 3) := dk_at dkB02decM2_9 15 rfl
theorem dX11_waysSo_151 : decode cX11_waysSo 151 = .ok (.if_icmp .ge 58, 3) := dk_at dkB02decM2_9 16 rfl
theorem dX11_waysSo_154 : decode cX11_waysSo 154 = .ok (.lload 4, 2) := dk_at dkB02decM2_9 17 rfl
theorem dX11_waysSo_156 : decode cX11_waysSo 156 = .ok (.aload_n 0, 1) := dk_at dkB02decM2_9 18 rfl
theorem dX11_waysSo_157 : decode cX11_waysSo 157 = .ok (.getfield 53, 3) := dk_at dkB02decM2_9 19 rfl
theorem dX11_waysSo_160 : decode cX11_waysSo 160 = .ok (.iload 6, 2) := dk_at dkB02decM2_9 20 rfl
theorem dX11_waysSo_162 : decode cX11_waysSo 162 = .ok (.laload, 1) := dk_at dkB02decM2_9 21 rfl
theorem dX11_waysSo_163 : decode cX11_waysSo 163 = .ok (.lconst 0, 1) := dk_at dkB02decM2_9 22 rfl
theorem dX11_waysSo_164 : decode cX11_waysSo 164 = .ok (.lcmp, 1) := dk_at dkB02decM2_9 23 rfl
theorem dX11_waysSo_165 : decode cX11_waysSo 165 = .ok (.ifCond .le 34, 3) := dk_at dkB02decM2_9 24 rfl
theorem dX11_waysSo_168 : decode cX11_waysSo 168 = .ok (.aload_n 0, 1) := dk_at dkB02decM2_9 25 rfl
theorem dX11_waysSo_169 : decode cX11_waysSo 169 = .ok (.iload_n 1, 1) := dk_at dkB02decM2_9 26 rfl
theorem dX11_waysSo_170 : decode cX11_waysSo 170 = .ok (.iload 6, 2) := dk_at dkB02decM2_9 27 rfl
theorem dX11_waysSo_172 : decode cX11_waysSo 172 = .ok (.bipush 13, 2) := dk_at dkB02decM2_9 28 rfl
theorem dX11_waysSo_174 : decode cX11_waysSo 174 = .ok (.idiv, 1) := dk_at dkB02decM2_9 29 rfl
theorem dX11_waysSo_175 : decode cX11_waysSo 175 = .ok (.bipush 13, 2) := dk_at dkB02decM2_9 30 rfl
theorem dX11_waysSo_177 : decode cX11_waysSo 177 = .ok (.irem, 1) := dk_at dkB02decM2_9 31 rfl
theorem dX11_waysSo_178 : decode cX11_waysSo 178 = .ok (.iload 6, 2) := dk_at dkB02decM2_9 32 rfl
theorem dX11_waysSo_180 : decode cX11_waysSo 180 = .ok (.bipush 13, 2) := dk_at dkB02decM2_9 33 rfl
theorem dX11_waysSo_182 : decode cX11_waysSo 182 = .ok (.irem, 1) := dk_at dkB02decM2_9 34 rfl
theorem dX11_waysSo_183 : decode cX11_waysSo 183 = .ok (.invokevirtual 322, 3) := dk_at dkB02decM2_9 35 rfl
theorem dX11_waysSo_186 : decode cX11_waysSo 186 = .ok (.ifCond .eq 13, 3) := dk_at dkB02decM2_9 36 rfl
theorem dX11_waysSo_189 : decode cX11_waysSo 189 = .ok (.aload_n 0, 1) := dk_at dkB02decM2_9 37 rfl
theorem dX11_waysSo_190 : decode cX11_waysSo 190 = .ok (.getfield 53, 3) := dk_at dkB02decM2_9 38 rfl
theorem dX11_waysSo_193 : decode cX11_waysSo 193 = .ok (.iload 6, 2) := dk_at dkB02decM2_9 39 rfl
theorem dX11_waysSo_195 : decode cX11_waysSo 195 = .ok (.laload, 1) := dk_at dkB02decM2_9 40 rfl
theorem dX11_waysSo_196 : decode cX11_waysSo 196 = .ok (.goto 4, 3) := dk_at dkB02decM2_9 41 rfl
theorem dX11_waysSo_199 : decode cX11_waysSo 199 = .ok (.lconst 0, 1) := dk_at dkB02decM2_9 42 rfl
theorem dX11_waysSo_200 : decode cX11_waysSo 200 = .ok (.ladd, 1) := dk_at dkB02decM2_9 43 rfl
theorem dX11_waysSo_201 : decode cX11_waysSo 201 = .ok (.lstore 4, 2) := dk_at dkB02decM2_9 44 rfl
theorem dX11_waysSo_203 : decode cX11_waysSo 203 = .ok (.iinc 6 1, 3) := dk_at dkB02decM2_9 45 rfl
theorem dX11_waysSo_206 : decode cX11_waysSo 206 = .ok (.goto (-60), 3) := dk_at dkB02decM2_9 46 rfl
theorem dX11_waysSo_209 : decode cX11_waysSo 209 = .ok (.lload 4, 2) := dk_at dkB02decM2_9 47 rfl
theorem dX11_waysSo_211 : decode cX11_waysSo 211 = .ok (.lreturn, 1) := dk_at dkB02decM2_9 48 rfl
theorem dX11_goOn_0 : decode cX11_goOn 0 = .ok (.iload 5, 2) := dk_at dkB02decM2_9 49 rfl
theorem dX11_goOn_2 : decode cX11_goOn 2 = .ok (.bipush 13, 2) := dk_at dkB02decM2_9 50 rfl
theorem dX11_goOn_4 : decode cX11_goOn 4 = .ok (.irem, 1) := dk_at dkB02decM2_9 51 rfl
theorem dX11_goOn_5 : decode cX11_goOn 5 = .ok (.istore 6, 2) := dk_at dkB02decM2_9 52 rfl
theorem dX11_goOn_7 : decode cX11_goOn 7 = .ok (.iload 5, 2) := dk_at dkB02decM2_9 53 rfl
theorem dX11_goOn_9 : decode cX11_goOn 9 = .ok (.bipush 13, 2) := dk_at dkB02decM2_9 54 rfl
theorem dX11_goOn_11 : decode cX11_goOn 11 = .ok (.idiv, 1) := dk_at dkB02decM2_9 55 rfl
theorem dX11_goOn_12 : decode cX11_goOn 12 = .ok (.bipush 13, 2) := dk_at dkB02decM2_9 56 rfl
theorem dX11_goOn_14 : decode cX11_goOn 14 = .ok (.irem, 1) := dk_at dkB02decM2_9 57 rfl
theorem dX11_goOn_15 : decode cX11_goOn 15 = .ok (.istore 7, 2) := dk_at dkB02decM2_9 58 rfl
theorem dX11_goOn_17 : decode cX11_goOn 17 = .ok (.iload 5, 2) := dk_at dkB02decM2_9 59 rfl
noncomputable def dkL02decM2_10 : List (ByteArray × Nat × Instr × Nat) := [(cX11_goOn, 19, (.sipush 169, 3)), (cX11_goOn, 22, (.idiv, 1)), (cX11_goOn, 23, (.iconst 5, 1)), (cX11_goOn, 24, (.irem, 1)), (cX11_goOn, 25, (.istore 8, 2)), (cX11_goOn, 27, (.iload 5, 2)), (cX11_goOn, 29, (.sipush 845, 3)), (cX11_goOn, 32, (.idiv, 1)), (cX11_goOn, 33, (.istore 9, 2)), (cX11_goOn, 35, (.iload 9, 2)), (cX11_goOn, 37, (.istore 10, 2)), (cX11_goOn, 39, (.iload 10, 2)), (cX11_goOn, 41, (.bipush 24, 2)), (cX11_goOn, 43, (.if_icmp .ge 78, 3)), (cX11_goOn, 46, (.aload_n 0, 1)), (cX11_goOn, 47, (.iload 4, 2)), (cX11_goOn, 49, (.iload 9, 2)), (cX11_goOn, 51, (.iload 8, 2)), (cX11_goOn, 53, (.iload 10, 2)), (cX11_goOn, 55, (.invokevirtual 213, 3)), (cX11_goOn, 58, (.istore 11, 2)), (cX11_goOn, 60, (.iload 11, 2)), (cX11_goOn, 62, (.ifCond .le 53, 3)), (cX11_goOn, 65, (.aload_n 0, 1)), (cX11_goOn, 66, (.getfield 53, 3)), (cX11_goOn, 69, (.iload 10, 2)), (cX11_goOn, 71, (.iload 11, 2)), (cX11_goOn, 73, (.aload_n 0, 1)), (cX11_goOn, 74, (.iload_n 1, 1)), (cX11_goOn, 75, (.iconst 0, 1)), (cX11_goOn, 76, (.iload_n 2, 1)), (cX11_goOn, 77, (.iload 4, 2)), (cX11_goOn, 79, (.iload 10, 2)), (cX11_goOn, 81, (.iload_n 3, 1)), (cX11_goOn, 82, (.iload 7, 2)), (cX11_goOn, 84, (.invokevirtual 308, 3)), (cX11_goOn, 87, (.aload_n 0, 1)), (cX11_goOn, 88, (.iload_n 1, 1)), (cX11_goOn, 89, (.iconst 1, 1)), (cX11_goOn, 90, (.iload_n 2, 1)), (cX11_goOn, 91, (.iload 4, 2)), (cX11_goOn, 93, (.iload 10, 2)), (cX11_goOn, 95, (.iload_n 3, 1)), (cX11_goOn, 96, (.iload 6, 2)), (cX11_goOn, 98, (.invokevirtual 308, 3)), (cX11_goOn, 101, (.invokestatic 312, 3)), (cX11_goOn, 104, (.dup2, 1)), (cX11_goOn, 105, (.laload, 1)), (cX11_goOn, 106, (.aload_n 0, 1)), (cX11_goOn, 107, (.getfield 50, 3)), (cX11_goOn, 110, (.iload 5, 2)), (cX11_goOn, 112, (.laload, 1)), (cX11_goOn, 113, (.ladd, 1)), (cX11_goOn, 114, (.lastore, 1)), (cX11_goOn, 115, (.iinc 10 1, 3)), (cX11_goOn, 118, (.goto (-79), 3)), (cX11_goOn, 121, (.return_, 1)), (cX11_chance, 0, (.aload_n 0, 1)), (cX11_chance, 1, (.iload_n 1, 1)), (cX11_chance, 2, (.invokevirtual 326, 3))]
theorem dkB02decM2_10 : dkL02decM2_10.all (fun q => decide (decode q.1 q.2.1 = .ok q.2.2)) = true := by decide +kernel
theorem dX11_goOn_19 : decode cX11_goOn 19 = .ok (.sipush 169, 3) := dk_at dkB02decM2_10 0 rfl
theorem dX11_goOn_22 : decode cX11_goOn 22 = .ok (.idiv, 1) := dk_at dkB02decM2_10 1 rfl
theorem dX11_goOn_23 : decode cX11_goOn 23 = .ok (.iconst 5, 1) := dk_at dkB02decM2_10 2 rfl
theorem dX11_goOn_24 : decode cX11_goOn 24 = .ok (.irem, 1) := dk_at dkB02decM2_10 3 rfl
theorem dX11_goOn_25 : decode cX11_goOn 25 = .ok (.istore 8, 2) := dk_at dkB02decM2_10 4 rfl
theorem dX11_goOn_27 : decode cX11_goOn 27 = .ok (.iload 5, 2) := dk_at dkB02decM2_10 5 rfl
theorem dX11_goOn_29 : decode cX11_goOn 29 = .ok (.sipush 845, 3) := dk_at dkB02decM2_10 6 rfl
theorem dX11_goOn_32 : decode cX11_goOn 32 = .ok (.idiv, 1) := dk_at dkB02decM2_10 7 rfl
theorem dX11_goOn_33 : decode cX11_goOn 33 = .ok (.istore 9, 2) := dk_at dkB02decM2_10 8 rfl
theorem dX11_goOn_35 : decode cX11_goOn 35 = .ok (.iload 9, 2) := dk_at dkB02decM2_10 9 rfl
theorem dX11_goOn_37 : decode cX11_goOn 37 = .ok (.istore 10, 2) := dk_at dkB02decM2_10 10 rfl
theorem dX11_goOn_39 : decode cX11_goOn 39 = .ok (.iload 10, 2) := dk_at dkB02decM2_10 11 rfl
theorem dX11_goOn_41 : decode cX11_goOn 41 = .ok (.bipush 24, 2) := dk_at dkB02decM2_10 12 rfl
theorem dX11_goOn_43 : decode cX11_goOn 43 = .ok (.if_icmp .ge 78, 3) := dk_at dkB02decM2_10 13 rfl
theorem dX11_goOn_46 : decode cX11_goOn 46 = .ok (.aload_n 0, 1) := dk_at dkB02decM2_10 14 rfl
theorem dX11_goOn_47 : decode cX11_goOn 47 = .ok (.iload 4, 2) := dk_at dkB02decM2_10 15 rfl
theorem dX11_goOn_49 : decode cX11_goOn 49 = .ok (.iload 9, 2) := dk_at dkB02decM2_10 16 rfl
theorem dX11_goOn_51 : decode cX11_goOn 51 = .ok (.iload 8, 2) := dk_at dkB02decM2_10 17 rfl
theorem dX11_goOn_53 : decode cX11_goOn 53 = .ok (.iload 10, 2) := dk_at dkB02decM2_10 18 rfl
theorem dX11_goOn_55 : decode cX11_goOn 55 = .ok (.invokevirtual 213, 3) := dk_at dkB02decM2_10 19 rfl
theorem dX11_goOn_58 : decode cX11_goOn 58 = .ok (.istore 11, 2) := dk_at dkB02decM2_10 20 rfl
theorem dX11_goOn_60 : decode cX11_goOn 60 = .ok (.iload 11, 2) := dk_at dkB02decM2_10 21 rfl
theorem dX11_goOn_62 : decode cX11_goOn 62 = .ok (.ifCond .le 53, 3) := dk_at dkB02decM2_10 22 rfl
theorem dX11_goOn_65 : decode cX11_goOn 65 = .ok (.aload_n 0, 1) := dk_at dkB02decM2_10 23 rfl
theorem dX11_goOn_66 : decode cX11_goOn 66 = .ok (.getfield 53, 3) := dk_at dkB02decM2_10 24 rfl
theorem dX11_goOn_69 : decode cX11_goOn 69 = .ok (.iload 10, 2) := dk_at dkB02decM2_10 25 rfl
theorem dX11_goOn_71 : decode cX11_goOn 71 = .ok (.iload 11, 2) := dk_at dkB02decM2_10 26 rfl
theorem dX11_goOn_73 : decode cX11_goOn 73 = .ok (.aload_n 0, 1) := dk_at dkB02decM2_10 27 rfl
theorem dX11_goOn_74 : decode cX11_goOn 74 = .ok (.iload_n 1, 1) := dk_at dkB02decM2_10 28 rfl
theorem dX11_goOn_75 : decode cX11_goOn 75 = .ok (.iconst 0, 1) := dk_at dkB02decM2_10 29 rfl
theorem dX11_goOn_76 : decode cX11_goOn 76 = .ok (.iload_n 2, 1) := dk_at dkB02decM2_10 30 rfl
theorem dX11_goOn_77 : decode cX11_goOn 77 = .ok (.iload 4, 2) := dk_at dkB02decM2_10 31 rfl
theorem dX11_goOn_79 : decode cX11_goOn 79 = .ok (.iload 10, 2) := dk_at dkB02decM2_10 32 rfl
theorem dX11_goOn_81 : decode cX11_goOn 81 = .ok (.iload_n 3, 1) := dk_at dkB02decM2_10 33 rfl
theorem dX11_goOn_82 : decode cX11_goOn 82 = .ok (.iload 7, 2) := dk_at dkB02decM2_10 34 rfl
theorem dX11_goOn_84 : decode cX11_goOn 84 = .ok (.invokevirtual 308, 3) := dk_at dkB02decM2_10 35 rfl
theorem dX11_goOn_87 : decode cX11_goOn 87 = .ok (.aload_n 0, 1) := dk_at dkB02decM2_10 36 rfl
theorem dX11_goOn_88 : decode cX11_goOn 88 = .ok (.iload_n 1, 1) := dk_at dkB02decM2_10 37 rfl
theorem dX11_goOn_89 : decode cX11_goOn 89 = .ok (.iconst 1, 1) := dk_at dkB02decM2_10 38 rfl
theorem dX11_goOn_90 : decode cX11_goOn 90 = .ok (.iload_n 2, 1) := dk_at dkB02decM2_10 39 rfl
theorem dX11_goOn_91 : decode cX11_goOn 91 = .ok (.iload 4, 2) := dk_at dkB02decM2_10 40 rfl
theorem dX11_goOn_93 : decode cX11_goOn 93 = .ok (.iload 10, 2) := dk_at dkB02decM2_10 41 rfl
theorem dX11_goOn_95 : decode cX11_goOn 95 = .ok (.iload_n 3, 1) := dk_at dkB02decM2_10 42 rfl
theorem dX11_goOn_96 : decode cX11_goOn 96 = .ok (.iload 6, 2) := dk_at dkB02decM2_10 43 rfl
theorem dX11_goOn_98 : decode cX11_goOn 98 = .ok (.invokevirtual 308, 3) := dk_at dkB02decM2_10 44 rfl
theorem dX11_goOn_101 : decode cX11_goOn 101 = .ok (.invokestatic 312, 3) := dk_at dkB02decM2_10 45 rfl
theorem dX11_goOn_104 : decode cX11_goOn 104 = .ok (.dup2, 1) := dk_at dkB02decM2_10 46 rfl
theorem dX11_goOn_105 : decode cX11_goOn 105 = .ok (.laload, 1) := dk_at dkB02decM2_10 47 rfl
theorem dX11_goOn_106 : decode cX11_goOn 106 = .ok (.aload_n 0, 1) := dk_at dkB02decM2_10 48 rfl
theorem dX11_goOn_107 : decode cX11_goOn 107 = .ok (.getfield 50, 3) := dk_at dkB02decM2_10 49 rfl
theorem dX11_goOn_110 : decode cX11_goOn 110 = .ok (.iload 5, 2) := dk_at dkB02decM2_10 50 rfl
theorem dX11_goOn_112 : decode cX11_goOn 112 = .ok (.laload, 1) := dk_at dkB02decM2_10 51 rfl
theorem dX11_goOn_113 : decode cX11_goOn 113 = .ok (.ladd, 1) := dk_at dkB02decM2_10 52 rfl
theorem dX11_goOn_114 : decode cX11_goOn 114 = .ok (.lastore, 1) := dk_at dkB02decM2_10 53 rfl
theorem dX11_goOn_115 : decode cX11_goOn 115 = .ok (.iinc 10 1, 3) := dk_at dkB02decM2_10 54 rfl
theorem dX11_goOn_118 : decode cX11_goOn 118 = .ok (.goto (-79), 3) := dk_at dkB02decM2_10 55 rfl
theorem dX11_goOn_121 : decode cX11_goOn 121 = .ok (.return_, 1) := dk_at dkB02decM2_10 56 rfl
theorem dX11_chance_0 : decode cX11_chance 0 = .ok (.aload_n 0, 1) := dk_at dkB02decM2_10 57 rfl
theorem dX11_chance_1 : decode cX11_chance 1 = .ok (.iload_n 1, 1) := dk_at dkB02decM2_10 58 rfl
theorem dX11_chance_2 : decode cX11_chance 2 = .ok (.invokevirtual 326, 3) := dk_at dkB02decM2_10 59 rfl
noncomputable def dkL02decM2_11 : List (ByteArray × Nat × Instr × Nat) := [(cX11_chance, 5, (.ifCond .eq 20, 3)), (cX11_chance, 8, (.iload_n 2, 1)), (cX11_chance, 9, (.invokestatic 160, 3)), (cX11_chance, 12, (.ifCond .eq 13, 3)), (cX11_chance, 15, (.iload_n 3, 1)), (cX11_chance, 16, (.i2l, 1)), (cX11_chance, 17, (.lconst 0, 1)), (cX11_chance, 18, (.lconst 1, 1)), (cX11_chance, 19, (.invokestatic 70, 3)), (cX11_chance, 22, (.ifCond .ne 7, 3)), (cX11_chance, 25, (.ldc2_w 236, 3)), (cX11_chance, 28, (.lreturn, 1)), (cX11_chance, 29, (.aload_n 0, 1)), (cX11_chance, 30, (.iload_n 2, 1)), (cX11_chance, 31, (.invokevirtual 267, 3)), (cX11_chance, 34, (.istore 4, 2)), (cX11_chance, 36, (.iload 4, 2)), (cX11_chance, 38, (.ifCond .ge 9, 3)), (cX11_chance, 41, (.iload 4, 2)), (cX11_chance, 43, (.i2l, 1)), (cX11_chance, 44, (.goto 18, 3)), (cX11_chance, 47, (.aload_n 0, 1)), (cX11_chance, 48, (.iload_n 1, 1)), (cX11_chance, 49, (.iload_n 2, 1)), (cX11_chance, 50, (.iconst 0, 1)), (cX11_chance, 51, (.invokevirtual 329, 3)), (cX11_chance, 54, (.aload_n 0, 1)), (cX11_chance, 55, (.getfield 217, 3)), (cX11_chance, 58, (.iload_n 3, 1)), (cX11_chance, 59, (.invokestatic 257, 3)), (cX11_chance, 62, (.lreturn, 1)), (cX11_holds, 0, (.aload_n 0, 1)), (cX11_holds, 1, (.iload_n 1, 1)), (cX11_holds, 2, (.invokevirtual 326, 3)), (cX11_holds, 5, (.ifCond .eq 10, 3)), (cX11_holds, 8, (.iload_n 2, 1)), (cX11_holds, 9, (.invokestatic 160, 3)), (cX11_holds, 12, (.ifCond .ne 5, 3)), (cX11_holds, 15, (.iconst (-1), 1)), (cX11_holds, 16, (.ireturn, 1)), (cX11_holds, 17, (.aload_n 0, 1)), (cX11_holds, 18, (.getfield 7, 3)), (cX11_holds, 21, (.bipush 7, 2)), (cX11_holds, 23, (.iload_n 2, 1)), (cX11_holds, 24, (.iadd, 1)), (cX11_holds, 25, (.iaload, 1)), (cX11_holds, 26, (.ifCond .ne 6, 3)), (cX11_holds, 29, (.bipush (-2), 2)), (cX11_holds, 31, (.ireturn, 1)), (cX11_holds, 32, (.sipush 326, 3)), (cX11_holds, 35, (.bipush 14, 2)), (cX11_holds, 37, (.iload_n 1, 1)), (cX11_holds, 38, (.imul, 1)), (cX11_holds, 39, (.iadd, 1)), (cX11_holds, 40, (.istore_n 3, 1)), (cX11_holds, 41, (.iconst 0, 1)), (cX11_holds, 42, (.istore 4, 2)), (cX11_holds, 44, (.iconst 0, 1)), (cX11_holds, 45, (.istore 5, 2)), (cX11_holds, 47, (.iconst 0, 1))]
theorem dkB02decM2_11 : dkL02decM2_11.all (fun q => decide (decode q.1 q.2.1 = .ok q.2.2)) = true := by decide +kernel
theorem dX11_chance_5 : decode cX11_chance 5 = .ok (.ifCond .eq 20, 3) := dk_at dkB02decM2_11 0 rfl
theorem dX11_chance_8 : decode cX11_chance 8 = .ok (.iload_n 2, 1) := dk_at dkB02decM2_11 1 rfl
theorem dX11_chance_9 : decode cX11_chance 9 = .ok (.invokestatic 160, 3) := dk_at dkB02decM2_11 2 rfl
theorem dX11_chance_12 : decode cX11_chance 12 = .ok (.ifCond .eq 13, 3) := dk_at dkB02decM2_11 3 rfl
theorem dX11_chance_15 : decode cX11_chance 15 = .ok (.iload_n 3, 1) := dk_at dkB02decM2_11 4 rfl
theorem dX11_chance_16 : decode cX11_chance 16 = .ok (.i2l, 1) := dk_at dkB02decM2_11 5 rfl
theorem dX11_chance_17 : decode cX11_chance 17 = .ok (.lconst 0, 1) := dk_at dkB02decM2_11 6 rfl
theorem dX11_chance_18 : decode cX11_chance 18 = .ok (.lconst 1, 1) := dk_at dkB02decM2_11 7 rfl
theorem dX11_chance_19 : decode cX11_chance 19 = .ok (.invokestatic 70, 3) := dk_at dkB02decM2_11 8 rfl
theorem dX11_chance_22 : decode cX11_chance 22 = .ok (.ifCond .ne 7, 3) := dk_at dkB02decM2_11 9 rfl
theorem dX11_chance_25 : decode cX11_chance 25 = .ok (.ldc2_w 236, 3) := dk_at dkB02decM2_11 10 rfl
theorem dX11_chance_28 : decode cX11_chance 28 = .ok (.lreturn, 1) := dk_at dkB02decM2_11 11 rfl
theorem dX11_chance_29 : decode cX11_chance 29 = .ok (.aload_n 0, 1) := dk_at dkB02decM2_11 12 rfl
theorem dX11_chance_30 : decode cX11_chance 30 = .ok (.iload_n 2, 1) := dk_at dkB02decM2_11 13 rfl
theorem dX11_chance_31 : decode cX11_chance 31 = .ok (.invokevirtual 267, 3) := dk_at dkB02decM2_11 14 rfl
theorem dX11_chance_34 : decode cX11_chance 34 = .ok (.istore 4, 2) := dk_at dkB02decM2_11 15 rfl
theorem dX11_chance_36 : decode cX11_chance 36 = .ok (.iload 4, 2) := dk_at dkB02decM2_11 16 rfl
theorem dX11_chance_38 : decode cX11_chance 38 = .ok (.ifCond .ge 9, 3) := dk_at dkB02decM2_11 17 rfl
theorem dX11_chance_41 : decode cX11_chance 41 = .ok (.iload 4, 2) := dk_at dkB02decM2_11 18 rfl
theorem dX11_chance_43 : decode cX11_chance 43 = .ok (.i2l, 1) := dk_at dkB02decM2_11 19 rfl
theorem dX11_chance_44 : decode cX11_chance 44 = .ok (.goto 18, 3) := dk_at dkB02decM2_11 20 rfl
theorem dX11_chance_47 : decode cX11_chance 47 = .ok (.aload_n 0, 1) := dk_at dkB02decM2_11 21 rfl
theorem dX11_chance_48 : decode cX11_chance 48 = .ok (.iload_n 1, 1) := dk_at dkB02decM2_11 22 rfl
theorem dX11_chance_49 : decode cX11_chance 49 = .ok (.iload_n 2, 1) := dk_at dkB02decM2_11 23 rfl
theorem dX11_chance_50 : decode cX11_chance 50 = .ok (.iconst 0, 1) := dk_at dkB02decM2_11 24 rfl
theorem dX11_chance_51 : decode cX11_chance 51 = .ok (.invokevirtual 329, 3) := dk_at dkB02decM2_11 25 rfl
theorem dX11_chance_54 : decode cX11_chance 54 = .ok (.aload_n 0, 1) := dk_at dkB02decM2_11 26 rfl
theorem dX11_chance_55 : decode cX11_chance 55 = .ok (.getfield 217, 3) := dk_at dkB02decM2_11 27 rfl
theorem dX11_chance_58 : decode cX11_chance 58 = .ok (.iload_n 3, 1) := dk_at dkB02decM2_11 28 rfl
theorem dX11_chance_59 : decode cX11_chance 59 = .ok (.invokestatic 257, 3) := dk_at dkB02decM2_11 29 rfl
theorem dX11_chance_62 : decode cX11_chance 62 = .ok (.lreturn, 1) := dk_at dkB02decM2_11 30 rfl
theorem dX11_holds_0 : decode cX11_holds 0 = .ok (.aload_n 0, 1) := dk_at dkB02decM2_11 31 rfl
theorem dX11_holds_1 : decode cX11_holds 1 = .ok (.iload_n 1, 1) := dk_at dkB02decM2_11 32 rfl
theorem dX11_holds_2 : decode cX11_holds 2 = .ok (.invokevirtual 326, 3) := dk_at dkB02decM2_11 33 rfl
theorem dX11_holds_5 : decode cX11_holds 5 = .ok (.ifCond .eq 10, 3) := dk_at dkB02decM2_11 34 rfl
theorem dX11_holds_8 : decode cX11_holds 8 = .ok (.iload_n 2, 1) := dk_at dkB02decM2_11 35 rfl
theorem dX11_holds_9 : decode cX11_holds 9 = .ok (.invokestatic 160, 3) := dk_at dkB02decM2_11 36 rfl
theorem dX11_holds_12 : decode cX11_holds 12 = .ok (.ifCond .ne 5, 3) := dk_at dkB02decM2_11 37 rfl
theorem dX11_holds_15 : decode cX11_holds 15 = .ok (.iconst (-1), 1) := dk_at dkB02decM2_11 38 rfl
theorem dX11_holds_16 : decode cX11_holds 16 = .ok (.ireturn, 1) := dk_at dkB02decM2_11 39 rfl
theorem dX11_holds_17 : decode cX11_holds 17 = .ok (.aload_n 0, 1) := dk_at dkB02decM2_11 40 rfl
theorem dX11_holds_18 : decode cX11_holds 18 = .ok (.getfield 7, 3) := dk_at dkB02decM2_11 41 rfl
theorem dX11_holds_21 : decode cX11_holds 21 = .ok (.bipush 7, 2) := dk_at dkB02decM2_11 42 rfl
theorem dX11_holds_23 : decode cX11_holds 23 = .ok (.iload_n 2, 1) := dk_at dkB02decM2_11 43 rfl
theorem dX11_holds_24 : decode cX11_holds 24 = .ok (.iadd, 1) := dk_at dkB02decM2_11 44 rfl
theorem dX11_holds_25 : decode cX11_holds 25 = .ok (.iaload, 1) := dk_at dkB02decM2_11 45 rfl
theorem dX11_holds_26 : decode cX11_holds 26 = .ok (.ifCond .ne 6, 3) := dk_at dkB02decM2_11 46 rfl
theorem dX11_holds_29 : decode cX11_holds 29 = .ok (.bipush (-2), 2) := dk_at dkB02decM2_11 47 rfl
theorem dX11_holds_31 : decode cX11_holds 31 = .ok (.ireturn, 1) := dk_at dkB02decM2_11 48 rfl
theorem dX11_holds_32 : decode cX11_holds 32 = .ok (.sipush 326, 3) := dk_at dkB02decM2_11 49 rfl
theorem dX11_holds_35 : decode cX11_holds 35 = .ok (.bipush 14, 2) := dk_at dkB02decM2_11 50 rfl
theorem dX11_holds_37 : decode cX11_holds 37 = .ok (.iload_n 1, 1) := dk_at dkB02decM2_11 51 rfl
theorem dX11_holds_38 : decode cX11_holds 38 = .ok (.imul, 1) := dk_at dkB02decM2_11 52 rfl
theorem dX11_holds_39 : decode cX11_holds 39 = .ok (.iadd, 1) := dk_at dkB02decM2_11 53 rfl
theorem dX11_holds_40 : decode cX11_holds 40 = .ok (.istore_n 3, 1) := dk_at dkB02decM2_11 54 rfl
theorem dX11_holds_41 : decode cX11_holds 41 = .ok (.iconst 0, 1) := dk_at dkB02decM2_11 55 rfl
theorem dX11_holds_42 : decode cX11_holds 42 = .ok (.istore 4, 2) := dk_at dkB02decM2_11 56 rfl
theorem dX11_holds_44 : decode cX11_holds 44 = .ok (.iconst 0, 1) := dk_at dkB02decM2_11 57 rfl
theorem dX11_holds_45 : decode cX11_holds 45 = .ok (.istore 5, 2) := dk_at dkB02decM2_11 58 rfl
theorem dX11_holds_47 : decode cX11_holds 47 = .ok (.iconst 0, 1) := dk_at dkB02decM2_11 59 rfl
noncomputable def dkL02decM2_12 : List (ByteArray × Nat × Instr × Nat) := [(cX11_holds, 48, (.istore 6, 2)), (cX11_holds, 50, (.iload 6, 2)), (cX11_holds, 52, (.aload_n 0, 1)), (cX11_holds, 53, (.getfield 7, 3)), (cX11_holds, 56, (.iconst 5, 1)), (cX11_holds, 57, (.iload_n 2, 1)), (cX11_holds, 58, (.iadd, 1)), (cX11_holds, 59, (.iaload, 1)), (cX11_holds, 60, (.if_icmp .ge 101, 3)), (cX11_holds, 63, (.aload_n 0, 1)), (cX11_holds, 64, (.iload_n 2, 1)), (cX11_holds, 65, (.iload 6, 2)), (cX11_holds, 67, (.invokevirtual 177, 3)), (cX11_holds, 70, (.iconst 2, 1)), (cX11_holds, 71, (.if_icmp .eq 84, 3)), (cX11_holds, 74, (.aload_n 0, 1)), (cX11_holds, 75, (.getfield 7, 3)), (cX11_holds, 78, (.sipush 206, 3)), (cX11_holds, 81, (.bipush 12, 2)), (cX11_holds, 83, (.iload_n 2, 1)), (cX11_holds, 84, (.imul, 1)), (cX11_holds, 85, (.iadd, 1)), (cX11_holds, 86, (.iload 6, 2)), (cX11_holds, 88, (.iadd, 1)), (cX11_holds, 89, (.iaload, 1)), (cX11_holds, 90, (.istore 7, 2)), (cX11_holds, 92, (.iload 4, 2)), (cX11_holds, 94, (.aload_n 0, 1)), (cX11_holds, 95, (.iload_n 3, 1)), (cX11_holds, 96, (.iconst 2, 1)), (cX11_holds, 97, (.iadd, 1)), (cX11_holds, 98, (.iload_n 2, 1)), (cX11_holds, 99, (.iload 6, 2)), (cX11_holds, 101, (.iload 7, 2)), (cX11_holds, 103, (.iconst 0, 1)), (cX11_holds, 104, (.invokevirtual 301, 3)), (cX11_holds, 107, (.ifCond .eq 7, 3)), (cX11_holds, 110, (.iconst 1, 1)), (cX11_holds, 111, (.goto 4, 3)), (cX11_holds, 114, (.iconst 0, 1)), (cX11_holds, 115, (.iadd, 1)), (cX11_holds, 116, (.istore 4, 2)), (cX11_holds, 118, (.iload 5, 2)), (cX11_holds, 120, (.aload_n 0, 1)), (cX11_holds, 121, (.getfield 7, 3)), (cX11_holds, 124, (.iload_n 3, 1)), (cX11_holds, 125, (.iaload, 1)), (cX11_holds, 126, (.iconst 2, 1)), (cX11_holds, 127, (.if_icmp .ne 24, 3)), (cX11_holds, 130, (.aload_n 0, 1)), (cX11_holds, 131, (.iload_n 3, 1)), (cX11_holds, 132, (.bipush 8, 2)), (cX11_holds, 134, (.iadd, 1)), (cX11_holds, 135, (.iload_n 2, 1)), (cX11_holds, 136, (.iload 6, 2)), (cX11_holds, 138, (.iload 7, 2)), (cX11_holds, 140, (.iconst 0, 1)), (cX11_holds, 141, (.invokevirtual 301, 3)), (cX11_holds, 144, (.ifCond .eq 7, 3)), (cX11_holds, 147, (.iconst 1, 1))]
theorem dkB02decM2_12 : dkL02decM2_12.all (fun q => decide (decode q.1 q.2.1 = .ok q.2.2)) = true := by decide +kernel
theorem dX11_holds_48 : decode cX11_holds 48 = .ok (.istore 6, 2) := dk_at dkB02decM2_12 0 rfl
theorem dX11_holds_50 : decode cX11_holds 50 = .ok (.iload 6, 2) := dk_at dkB02decM2_12 1 rfl
theorem dX11_holds_52 : decode cX11_holds 52 = .ok (.aload_n 0, 1) := dk_at dkB02decM2_12 2 rfl
theorem dX11_holds_53 : decode cX11_holds 53 = .ok (.getfield 7, 3) := dk_at dkB02decM2_12 3 rfl
theorem dX11_holds_56 : decode cX11_holds 56 = .ok (.iconst 5, 1) := dk_at dkB02decM2_12 4 rfl
theorem dX11_holds_57 : decode cX11_holds 57 = .ok (.iload_n 2, 1) := dk_at dkB02decM2_12 5 rfl
theorem dX11_holds_58 : decode cX11_holds 58 = .ok (.iadd, 1) := dk_at dkB02decM2_12 6 rfl
theorem dX11_holds_59 : decode cX11_holds 59 = .ok (.iaload, 1) := dk_at dkB02decM2_12 7 rfl
theorem dX11_holds_60 : decode cX11_holds 60 = .ok (.if_icmp .ge 101, 3) := dk_at dkB02decM2_12 8 rfl
theorem dX11_holds_63 : decode cX11_holds 63 = .ok (.aload_n 0, 1) := dk_at dkB02decM2_12 9 rfl
theorem dX11_holds_64 : decode cX11_holds 64 = .ok (.iload_n 2, 1) := dk_at dkB02decM2_12 10 rfl
theorem dX11_holds_65 : decode cX11_holds 65 = .ok (.iload 6, 2) := dk_at dkB02decM2_12 11 rfl
theorem dX11_holds_67 : decode cX11_holds 67 = .ok (.invokevirtual 177, 3) := dk_at dkB02decM2_12 12 rfl
theorem dX11_holds_70 : decode cX11_holds 70 = .ok (.iconst 2, 1) := dk_at dkB02decM2_12 13 rfl
theorem dX11_holds_71 : decode cX11_holds 71 = .ok (.if_icmp .eq 84, 3) := dk_at dkB02decM2_12 14 rfl
theorem dX11_holds_74 : decode cX11_holds 74 = .ok (.aload_n 0, 1) := dk_at dkB02decM2_12 15 rfl
theorem dX11_holds_75 : decode cX11_holds 75 = .ok (.getfield 7, 3) := dk_at dkB02decM2_12 16 rfl
theorem dX11_holds_78 : decode cX11_holds 78 = .ok (.sipush 206, 3) := dk_at dkB02decM2_12 17 rfl
theorem dX11_holds_81 : decode cX11_holds 81 = .ok (.bipush 12, 2) := dk_at dkB02decM2_12 18 rfl
theorem dX11_holds_83 : decode cX11_holds 83 = .ok (.iload_n 2, 1) := dk_at dkB02decM2_12 19 rfl
theorem dX11_holds_84 : decode cX11_holds 84 = .ok (.imul, 1) := dk_at dkB02decM2_12 20 rfl
theorem dX11_holds_85 : decode cX11_holds 85 = .ok (.iadd, 1) := dk_at dkB02decM2_12 21 rfl
theorem dX11_holds_86 : decode cX11_holds 86 = .ok (.iload 6, 2) := dk_at dkB02decM2_12 22 rfl
theorem dX11_holds_88 : decode cX11_holds 88 = .ok (.iadd, 1) := dk_at dkB02decM2_12 23 rfl
theorem dX11_holds_89 : decode cX11_holds 89 = .ok (.iaload, 1) := dk_at dkB02decM2_12 24 rfl
theorem dX11_holds_90 : decode cX11_holds 90 = .ok (.istore 7, 2) := dk_at dkB02decM2_12 25 rfl
theorem dX11_holds_92 : decode cX11_holds 92 = .ok (.iload 4, 2) := dk_at dkB02decM2_12 26 rfl
theorem dX11_holds_94 : decode cX11_holds 94 = .ok (.aload_n 0, 1) := dk_at dkB02decM2_12 27 rfl
theorem dX11_holds_95 : decode cX11_holds 95 = .ok (.iload_n 3, 1) := dk_at dkB02decM2_12 28 rfl
theorem dX11_holds_96 : decode cX11_holds 96 = .ok (.iconst 2, 1) := dk_at dkB02decM2_12 29 rfl
theorem dX11_holds_97 : decode cX11_holds 97 = .ok (.iadd, 1) := dk_at dkB02decM2_12 30 rfl
theorem dX11_holds_98 : decode cX11_holds 98 = .ok (.iload_n 2, 1) := dk_at dkB02decM2_12 31 rfl
theorem dX11_holds_99 : decode cX11_holds 99 = .ok (.iload 6, 2) := dk_at dkB02decM2_12 32 rfl
theorem dX11_holds_101 : decode cX11_holds 101 = .ok (.iload 7, 2) := dk_at dkB02decM2_12 33 rfl
theorem dX11_holds_103 : decode cX11_holds 103 = .ok (.iconst 0, 1) := dk_at dkB02decM2_12 34 rfl
theorem dX11_holds_104 : decode cX11_holds 104 = .ok (.invokevirtual 301, 3) := dk_at dkB02decM2_12 35 rfl
theorem dX11_holds_107 : decode cX11_holds 107 = .ok (.ifCond .eq 7, 3) := dk_at dkB02decM2_12 36 rfl
theorem dX11_holds_110 : decode cX11_holds 110 = .ok (.iconst 1, 1) := dk_at dkB02decM2_12 37 rfl
theorem dX11_holds_111 : decode cX11_holds 111 = .ok (.goto 4, 3) := dk_at dkB02decM2_12 38 rfl
theorem dX11_holds_114 : decode cX11_holds 114 = .ok (.iconst 0, 1) := dk_at dkB02decM2_12 39 rfl
theorem dX11_holds_115 : decode cX11_holds 115 = .ok (.iadd, 1) := dk_at dkB02decM2_12 40 rfl
theorem dX11_holds_116 : decode cX11_holds 116 = .ok (.istore 4, 2) := dk_at dkB02decM2_12 41 rfl
theorem dX11_holds_118 : decode cX11_holds 118 = .ok (.iload 5, 2) := dk_at dkB02decM2_12 42 rfl
theorem dX11_holds_120 : decode cX11_holds 120 = .ok (.aload_n 0, 1) := dk_at dkB02decM2_12 43 rfl
theorem dX11_holds_121 : decode cX11_holds 121 = .ok (.getfield 7, 3) := dk_at dkB02decM2_12 44 rfl
theorem dX11_holds_124 : decode cX11_holds 124 = .ok (.iload_n 3, 1) := dk_at dkB02decM2_12 45 rfl
theorem dX11_holds_125 : decode cX11_holds 125 = .ok (.iaload, 1) := dk_at dkB02decM2_12 46 rfl
theorem dX11_holds_126 : decode cX11_holds 126 = .ok (.iconst 2, 1) := dk_at dkB02decM2_12 47 rfl
theorem dX11_holds_127 : decode cX11_holds 127 = .ok (.if_icmp .ne 24, 3) := dk_at dkB02decM2_12 48 rfl
theorem dX11_holds_130 : decode cX11_holds 130 = .ok (.aload_n 0, 1) := dk_at dkB02decM2_12 49 rfl
theorem dX11_holds_131 : decode cX11_holds 131 = .ok (.iload_n 3, 1) := dk_at dkB02decM2_12 50 rfl
theorem dX11_holds_132 : decode cX11_holds 132 = .ok (.bipush 8, 2) := dk_at dkB02decM2_12 51 rfl
theorem dX11_holds_134 : decode cX11_holds 134 = .ok (.iadd, 1) := dk_at dkB02decM2_12 52 rfl
theorem dX11_holds_135 : decode cX11_holds 135 = .ok (.iload_n 2, 1) := dk_at dkB02decM2_12 53 rfl
theorem dX11_holds_136 : decode cX11_holds 136 = .ok (.iload 6, 2) := dk_at dkB02decM2_12 54 rfl
theorem dX11_holds_138 : decode cX11_holds 138 = .ok (.iload 7, 2) := dk_at dkB02decM2_12 55 rfl
theorem dX11_holds_140 : decode cX11_holds 140 = .ok (.iconst 0, 1) := dk_at dkB02decM2_12 56 rfl
theorem dX11_holds_141 : decode cX11_holds 141 = .ok (.invokevirtual 301, 3) := dk_at dkB02decM2_12 57 rfl
theorem dX11_holds_144 : decode cX11_holds 144 = .ok (.ifCond .eq 7, 3) := dk_at dkB02decM2_12 58 rfl
theorem dX11_holds_147 : decode cX11_holds 147 = .ok (.iconst 1, 1) := dk_at dkB02decM2_12 59 rfl
noncomputable def dkL02decM2_13 : List (ByteArray × Nat × Instr × Nat) := [(cX11_holds, 148, (.goto 4, 3)), (cX11_holds, 151, (.iconst 0, 1)), (cX11_holds, 152, (.iadd, 1)), (cX11_holds, 153, (.istore 5, 2)), (cX11_holds, 155, (.iinc 6 1, 3)), (cX11_holds, 158, (.goto (-108), 3)), (cX11_holds, 161, (.aload_n 0, 1)), (cX11_holds, 162, (.iload_n 1, 1)), (cX11_holds, 163, (.iload 4, 2)), (cX11_holds, 165, (.iload 5, 2)), (cX11_holds, 167, (.invokevirtual 322, 3)), (cX11_holds, 170, (.ifCond .eq 7, 3)), (cX11_holds, 173, (.iconst 1, 1)), (cX11_holds, 174, (.goto 4, 3)), (cX11_holds, 177, (.iconst 0, 1)), (cX11_holds, 178, (.ireturn, 1)), (cX11_looked, 0, (.aload_n 0, 1)), (cX11_looked, 1, (.iload_n 1, 1)), (cX11_looked, 2, (.invokevirtual 326, 3)), (cX11_looked, 5, (.ifCond .eq 46, 3)), (cX11_looked, 8, (.iload_n 2, 1)), (cX11_looked, 9, (.invokestatic 160, 3)), (cX11_looked, 12, (.ifCond .eq 39, 3)), (cX11_looked, 15, (.iload 4, 2)), (cX11_looked, 17, (.i2l, 1)), (cX11_looked, 18, (.lconst 1, 1)), (cX11_looked, 19, (.ldc2_w 333, 3)), (cX11_looked, 22, (.invokestatic 70, 3)), (cX11_looked, 25, (.ifCond .eq 26, 3)), (cX11_looked, 28, (.iload_n 3, 1)), (cX11_looked, 29, (.i2l, 1)), (cX11_looked, 30, (.lconst 0, 1)), (cX11_looked, 31, (.iload 4, 2)), (cX11_looked, 33, (.i2l, 1)), (cX11_looked, 34, (.invokestatic 70, 3)), (cX11_looked, 37, (.ifCond .eq 14, 3)), (cX11_looked, 40, (.iload 5, 2)), (cX11_looked, 42, (.i2l, 1)), (cX11_looked, 43, (.lconst 0, 1)), (cX11_looked, 44, (.lconst 1, 1)), (cX11_looked, 45, (.invokestatic 70, 3)), (cX11_looked, 48, (.ifCond .ne 5, 3)), (cX11_looked, 51, (.iconst (-1), 1)), (cX11_looked, 52, (.ireturn, 1)), (cX11_looked, 53, (.aload_n 0, 1)), (cX11_looked, 54, (.iload_n 2, 1)), (cX11_looked, 55, (.invokevirtual 267, 3)), (cX11_looked, 58, (.istore 6, 2)), (cX11_looked, 60, (.iload 6, 2)), (cX11_looked, 62, (.ifCond .ge 6, 3)), (cX11_looked, 65, (.iload 6, 2)), (cX11_looked, 67, (.ireturn, 1)), (cX11_looked, 68, (.sipush 326, 3)), (cX11_looked, 71, (.bipush 14, 2)), (cX11_looked, 73, (.iload_n 1, 1)), (cX11_looked, 74, (.imul, 1)), (cX11_looked, 75, (.iadd, 1)), (cX11_looked, 76, (.istore 7, 2)), (cX11_looked, 78, (.aload_n 0, 1)), (cX11_looked, 79, (.getfield 7, 3))]
theorem dkB02decM2_13 : dkL02decM2_13.all (fun q => decide (decode q.1 q.2.1 = .ok q.2.2)) = true := by decide +kernel
theorem dX11_holds_148 : decode cX11_holds 148 = .ok (.goto 4, 3) := dk_at dkB02decM2_13 0 rfl
theorem dX11_holds_151 : decode cX11_holds 151 = .ok (.iconst 0, 1) := dk_at dkB02decM2_13 1 rfl
theorem dX11_holds_152 : decode cX11_holds 152 = .ok (.iadd, 1) := dk_at dkB02decM2_13 2 rfl
theorem dX11_holds_153 : decode cX11_holds 153 = .ok (.istore 5, 2) := dk_at dkB02decM2_13 3 rfl
theorem dX11_holds_155 : decode cX11_holds 155 = .ok (.iinc 6 1, 3) := dk_at dkB02decM2_13 4 rfl
theorem dX11_holds_158 : decode cX11_holds 158 = .ok (.goto (-108), 3) := dk_at dkB02decM2_13 5 rfl
theorem dX11_holds_161 : decode cX11_holds 161 = .ok (.aload_n 0, 1) := dk_at dkB02decM2_13 6 rfl
theorem dX11_holds_162 : decode cX11_holds 162 = .ok (.iload_n 1, 1) := dk_at dkB02decM2_13 7 rfl
theorem dX11_holds_163 : decode cX11_holds 163 = .ok (.iload 4, 2) := dk_at dkB02decM2_13 8 rfl
theorem dX11_holds_165 : decode cX11_holds 165 = .ok (.iload 5, 2) := dk_at dkB02decM2_13 9 rfl
theorem dX11_holds_167 : decode cX11_holds 167 = .ok (.invokevirtual 322, 3) := dk_at dkB02decM2_13 10 rfl
theorem dX11_holds_170 : decode cX11_holds 170 = .ok (.ifCond .eq 7, 3) := dk_at dkB02decM2_13 11 rfl
theorem dX11_holds_173 : decode cX11_holds 173 = .ok (.iconst 1, 1) := dk_at dkB02decM2_13 12 rfl
theorem dX11_holds_174 : decode cX11_holds 174 = .ok (.goto 4, 3) := dk_at dkB02decM2_13 13 rfl
theorem dX11_holds_177 : decode cX11_holds 177 = .ok (.iconst 0, 1) := dk_at dkB02decM2_13 14 rfl
theorem dX11_holds_178 : decode cX11_holds 178 = .ok (.ireturn, 1) := dk_at dkB02decM2_13 15 rfl
theorem dX11_looked_0 : decode cX11_looked 0 = .ok (.aload_n 0, 1) := dk_at dkB02decM2_13 16 rfl
theorem dX11_looked_1 : decode cX11_looked 1 = .ok (.iload_n 1, 1) := dk_at dkB02decM2_13 17 rfl
theorem dX11_looked_2 : decode cX11_looked 2 = .ok (.invokevirtual 326, 3) := dk_at dkB02decM2_13 18 rfl
theorem dX11_looked_5 : decode cX11_looked 5 = .ok (.ifCond .eq 46, 3) := dk_at dkB02decM2_13 19 rfl
theorem dX11_looked_8 : decode cX11_looked 8 = .ok (.iload_n 2, 1) := dk_at dkB02decM2_13 20 rfl
theorem dX11_looked_9 : decode cX11_looked 9 = .ok (.invokestatic 160, 3) := dk_at dkB02decM2_13 21 rfl
theorem dX11_looked_12 : decode cX11_looked 12 = .ok (.ifCond .eq 39, 3) := dk_at dkB02decM2_13 22 rfl
theorem dX11_looked_15 : decode cX11_looked 15 = .ok (.iload 4, 2) := dk_at dkB02decM2_13 23 rfl
theorem dX11_looked_17 : decode cX11_looked 17 = .ok (.i2l, 1) := dk_at dkB02decM2_13 24 rfl
theorem dX11_looked_18 : decode cX11_looked 18 = .ok (.lconst 1, 1) := dk_at dkB02decM2_13 25 rfl
theorem dX11_looked_19 : decode cX11_looked 19 = .ok (.ldc2_w 333, 3) := dk_at dkB02decM2_13 26 rfl
theorem dX11_looked_22 : decode cX11_looked 22 = .ok (.invokestatic 70, 3) := dk_at dkB02decM2_13 27 rfl
theorem dX11_looked_25 : decode cX11_looked 25 = .ok (.ifCond .eq 26, 3) := dk_at dkB02decM2_13 28 rfl
theorem dX11_looked_28 : decode cX11_looked 28 = .ok (.iload_n 3, 1) := dk_at dkB02decM2_13 29 rfl
theorem dX11_looked_29 : decode cX11_looked 29 = .ok (.i2l, 1) := dk_at dkB02decM2_13 30 rfl
theorem dX11_looked_30 : decode cX11_looked 30 = .ok (.lconst 0, 1) := dk_at dkB02decM2_13 31 rfl
theorem dX11_looked_31 : decode cX11_looked 31 = .ok (.iload 4, 2) := dk_at dkB02decM2_13 32 rfl
theorem dX11_looked_33 : decode cX11_looked 33 = .ok (.i2l, 1) := dk_at dkB02decM2_13 33 rfl
theorem dX11_looked_34 : decode cX11_looked 34 = .ok (.invokestatic 70, 3) := dk_at dkB02decM2_13 34 rfl
theorem dX11_looked_37 : decode cX11_looked 37 = .ok (.ifCond .eq 14, 3) := dk_at dkB02decM2_13 35 rfl
theorem dX11_looked_40 : decode cX11_looked 40 = .ok (.iload 5, 2) := dk_at dkB02decM2_13 36 rfl
theorem dX11_looked_42 : decode cX11_looked 42 = .ok (.i2l, 1) := dk_at dkB02decM2_13 37 rfl
theorem dX11_looked_43 : decode cX11_looked 43 = .ok (.lconst 0, 1) := dk_at dkB02decM2_13 38 rfl
theorem dX11_looked_44 : decode cX11_looked 44 = .ok (.lconst 1, 1) := dk_at dkB02decM2_13 39 rfl
theorem dX11_looked_45 : decode cX11_looked 45 = .ok (.invokestatic 70, 3) := dk_at dkB02decM2_13 40 rfl
theorem dX11_looked_48 : decode cX11_looked 48 = .ok (.ifCond .ne 5, 3) := dk_at dkB02decM2_13 41 rfl
theorem dX11_looked_51 : decode cX11_looked 51 = .ok (.iconst (-1), 1) := dk_at dkB02decM2_13 42 rfl
theorem dX11_looked_52 : decode cX11_looked 52 = .ok (.ireturn, 1) := dk_at dkB02decM2_13 43 rfl
theorem dX11_looked_53 : decode cX11_looked 53 = .ok (.aload_n 0, 1) := dk_at dkB02decM2_13 44 rfl
theorem dX11_looked_54 : decode cX11_looked 54 = .ok (.iload_n 2, 1) := dk_at dkB02decM2_13 45 rfl
theorem dX11_looked_55 : decode cX11_looked 55 = .ok (.invokevirtual 267, 3) := dk_at dkB02decM2_13 46 rfl
theorem dX11_looked_58 : decode cX11_looked 58 = .ok (.istore 6, 2) := dk_at dkB02decM2_13 47 rfl
theorem dX11_looked_60 : decode cX11_looked 60 = .ok (.iload 6, 2) := dk_at dkB02decM2_13 48 rfl
theorem dX11_looked_62 : decode cX11_looked 62 = .ok (.ifCond .ge 6, 3) := dk_at dkB02decM2_13 49 rfl
theorem dX11_looked_65 : decode cX11_looked 65 = .ok (.iload 6, 2) := dk_at dkB02decM2_13 50 rfl
theorem dX11_looked_67 : decode cX11_looked 67 = .ok (.ireturn, 1) := dk_at dkB02decM2_13 51 rfl
theorem dX11_looked_68 : decode cX11_looked 68 = .ok (.sipush 326, 3) := dk_at dkB02decM2_13 52 rfl
theorem dX11_looked_71 : decode cX11_looked 71 = .ok (.bipush 14, 2) := dk_at dkB02decM2_13 53 rfl
theorem dX11_looked_73 : decode cX11_looked 73 = .ok (.iload_n 1, 1) := dk_at dkB02decM2_13 54 rfl
theorem dX11_looked_74 : decode cX11_looked 74 = .ok (.imul, 1) := dk_at dkB02decM2_13 55 rfl
theorem dX11_looked_75 : decode cX11_looked 75 = .ok (.iadd, 1) := dk_at dkB02decM2_13 56 rfl
theorem dX11_looked_76 : decode cX11_looked 76 = .ok (.istore 7, 2) := dk_at dkB02decM2_13 57 rfl
theorem dX11_looked_78 : decode cX11_looked 78 = .ok (.aload_n 0, 1) := dk_at dkB02decM2_13 58 rfl
theorem dX11_looked_79 : decode cX11_looked 79 = .ok (.getfield 7, 3) := dk_at dkB02decM2_13 59 rfl
noncomputable def dkL02decM2_14 : List (ByteArray × Nat × Instr × Nat) := [(cX11_looked, 82, (.iload 7, 2)), (cX11_looked, 84, (.bipush 6, 2)), (cX11_looked, 86, (.iadd, 1)), (cX11_looked, 87, (.iaload, 1)), (cX11_looked, 88, (.istore 8, 2)), (cX11_looked, 90, (.aload_n 0, 1)), (cX11_looked, 91, (.getfield 7, 3)), (cX11_looked, 94, (.iload 7, 2)), (cX11_looked, 96, (.iaload, 1)), (cX11_looked, 97, (.iconst 2, 1)), (cX11_looked, 98, (.if_icmp .ne 31, 3)), (cX11_looked, 101, (.aload_n 0, 1)), (cX11_looked, 102, (.getfield 7, 3)), (cX11_looked, 105, (.iload 7, 2)), (cX11_looked, 107, (.bipush 12, 2)), (cX11_looked, 109, (.iadd, 1)), (cX11_looked, 110, (.iaload, 1)), (cX11_looked, 111, (.iload 8, 2)), (cX11_looked, 113, (.if_icmp .le 16, 3)), (cX11_looked, 116, (.aload_n 0, 1)), (cX11_looked, 117, (.getfield 7, 3)), (cX11_looked, 120, (.iload 7, 2)), (cX11_looked, 122, (.bipush 12, 2)), (cX11_looked, 124, (.iadd, 1)), (cX11_looked, 125, (.iaload, 1)), (cX11_looked, 126, (.goto 5, 3)), (cX11_looked, 129, (.iload 8, 2)), (cX11_looked, 131, (.istore 8, 2)), (cX11_looked, 133, (.iload 5, 2)), (cX11_looked, 135, (.ifCond .ne 9, 3)), (cX11_looked, 138, (.bipush 24, 2)), (cX11_looked, 140, (.iload 8, 2)), (cX11_looked, 142, (.isub, 1)), (cX11_looked, 143, (.ireturn, 1)), (cX11_looked, 144, (.iconst 0, 1)), (cX11_looked, 145, (.istore 9, 2)), (cX11_looked, 147, (.iconst 0, 1)), (cX11_looked, 148, (.istore 10, 2)), (cX11_looked, 150, (.iload 10, 2)), (cX11_looked, 152, (.bipush 24, 2)), (cX11_looked, 154, (.iload 8, 2)), (cX11_looked, 156, (.isub, 1)), (cX11_looked, 157, (.if_icmp .ge 42, 3)), (cX11_looked, 160, (.iload 9, 2)), (cX11_looked, 162, (.aload_n 0, 1)), (cX11_looked, 163, (.iload_n 1, 1)), (cX11_looked, 164, (.iload_n 2, 1)), (cX11_looked, 165, (.iload 10, 2)), (cX11_looked, 167, (.invokevirtual 329, 3)), (cX11_looked, 170, (.iload 4, 2)), (cX11_looked, 172, (.i2l, 1)), (cX11_looked, 173, (.lmul, 1)), (cX11_looked, 174, (.aload_n 0, 1)), (cX11_looked, 175, (.getfield 217, 3)), (cX11_looked, 178, (.iload_n 3, 1)), (cX11_looked, 179, (.i2l, 1)), (cX11_looked, 180, (.lmul, 1)), (cX11_looked, 181, (.lcmp, 1)), (cX11_looked, 182, (.ifCond .lt 7, 3)), (cX11_looked, 185, (.iconst 1, 1))]
theorem dkB02decM2_14 : dkL02decM2_14.all (fun q => decide (decode q.1 q.2.1 = .ok q.2.2)) = true := by decide +kernel
theorem dX11_looked_82 : decode cX11_looked 82 = .ok (.iload 7, 2) := dk_at dkB02decM2_14 0 rfl
theorem dX11_looked_84 : decode cX11_looked 84 = .ok (.bipush 6, 2) := dk_at dkB02decM2_14 1 rfl
theorem dX11_looked_86 : decode cX11_looked 86 = .ok (.iadd, 1) := dk_at dkB02decM2_14 2 rfl
theorem dX11_looked_87 : decode cX11_looked 87 = .ok (.iaload, 1) := dk_at dkB02decM2_14 3 rfl
theorem dX11_looked_88 : decode cX11_looked 88 = .ok (.istore 8, 2) := dk_at dkB02decM2_14 4 rfl
theorem dX11_looked_90 : decode cX11_looked 90 = .ok (.aload_n 0, 1) := dk_at dkB02decM2_14 5 rfl
theorem dX11_looked_91 : decode cX11_looked 91 = .ok (.getfield 7, 3) := dk_at dkB02decM2_14 6 rfl
theorem dX11_looked_94 : decode cX11_looked 94 = .ok (.iload 7, 2) := dk_at dkB02decM2_14 7 rfl
theorem dX11_looked_96 : decode cX11_looked 96 = .ok (.iaload, 1) := dk_at dkB02decM2_14 8 rfl
theorem dX11_looked_97 : decode cX11_looked 97 = .ok (.iconst 2, 1) := dk_at dkB02decM2_14 9 rfl
theorem dX11_looked_98 : decode cX11_looked 98 = .ok (.if_icmp .ne 31, 3) := dk_at dkB02decM2_14 10 rfl
theorem dX11_looked_101 : decode cX11_looked 101 = .ok (.aload_n 0, 1) := dk_at dkB02decM2_14 11 rfl
theorem dX11_looked_102 : decode cX11_looked 102 = .ok (.getfield 7, 3) := dk_at dkB02decM2_14 12 rfl
theorem dX11_looked_105 : decode cX11_looked 105 = .ok (.iload 7, 2) := dk_at dkB02decM2_14 13 rfl
theorem dX11_looked_107 : decode cX11_looked 107 = .ok (.bipush 12, 2) := dk_at dkB02decM2_14 14 rfl
theorem dX11_looked_109 : decode cX11_looked 109 = .ok (.iadd, 1) := dk_at dkB02decM2_14 15 rfl
theorem dX11_looked_110 : decode cX11_looked 110 = .ok (.iaload, 1) := dk_at dkB02decM2_14 16 rfl
theorem dX11_looked_111 : decode cX11_looked 111 = .ok (.iload 8, 2) := dk_at dkB02decM2_14 17 rfl
theorem dX11_looked_113 : decode cX11_looked 113 = .ok (.if_icmp .le 16, 3) := dk_at dkB02decM2_14 18 rfl
theorem dX11_looked_116 : decode cX11_looked 116 = .ok (.aload_n 0, 1) := dk_at dkB02decM2_14 19 rfl
theorem dX11_looked_117 : decode cX11_looked 117 = .ok (.getfield 7, 3) := dk_at dkB02decM2_14 20 rfl
theorem dX11_looked_120 : decode cX11_looked 120 = .ok (.iload 7, 2) := dk_at dkB02decM2_14 21 rfl
theorem dX11_looked_122 : decode cX11_looked 122 = .ok (.bipush 12, 2) := dk_at dkB02decM2_14 22 rfl
theorem dX11_looked_124 : decode cX11_looked 124 = .ok (.iadd, 1) := dk_at dkB02decM2_14 23 rfl
theorem dX11_looked_125 : decode cX11_looked 125 = .ok (.iaload, 1) := dk_at dkB02decM2_14 24 rfl
theorem dX11_looked_126 : decode cX11_looked 126 = .ok (.goto 5, 3) := dk_at dkB02decM2_14 25 rfl
theorem dX11_looked_129 : decode cX11_looked 129 = .ok (.iload 8, 2) := dk_at dkB02decM2_14 26 rfl
theorem dX11_looked_131 : decode cX11_looked 131 = .ok (.istore 8, 2) := dk_at dkB02decM2_14 27 rfl
theorem dX11_looked_133 : decode cX11_looked 133 = .ok (.iload 5, 2) := dk_at dkB02decM2_14 28 rfl
theorem dX11_looked_135 : decode cX11_looked 135 = .ok (.ifCond .ne 9, 3) := dk_at dkB02decM2_14 29 rfl
theorem dX11_looked_138 : decode cX11_looked 138 = .ok (.bipush 24, 2) := dk_at dkB02decM2_14 30 rfl
theorem dX11_looked_140 : decode cX11_looked 140 = .ok (.iload 8, 2) := dk_at dkB02decM2_14 31 rfl
theorem dX11_looked_142 : decode cX11_looked 142 = .ok (.isub, 1) := dk_at dkB02decM2_14 32 rfl
theorem dX11_looked_143 : decode cX11_looked 143 = .ok (.ireturn, 1) := dk_at dkB02decM2_14 33 rfl
theorem dX11_looked_144 : decode cX11_looked 144 = .ok (.iconst 0, 1) := dk_at dkB02decM2_14 34 rfl
theorem dX11_looked_145 : decode cX11_looked 145 = .ok (.istore 9, 2) := dk_at dkB02decM2_14 35 rfl
theorem dX11_looked_147 : decode cX11_looked 147 = .ok (.iconst 0, 1) := dk_at dkB02decM2_14 36 rfl
theorem dX11_looked_148 : decode cX11_looked 148 = .ok (.istore 10, 2) := dk_at dkB02decM2_14 37 rfl
theorem dX11_looked_150 : decode cX11_looked 150 = .ok (.iload 10, 2) := dk_at dkB02decM2_14 38 rfl
theorem dX11_looked_152 : decode cX11_looked 152 = .ok (.bipush 24, 2) := dk_at dkB02decM2_14 39 rfl
theorem dX11_looked_154 : decode cX11_looked 154 = .ok (.iload 8, 2) := dk_at dkB02decM2_14 40 rfl
theorem dX11_looked_156 : decode cX11_looked 156 = .ok (.isub, 1) := dk_at dkB02decM2_14 41 rfl
theorem dX11_looked_157 : decode cX11_looked 157 = .ok (.if_icmp .ge 42, 3) := dk_at dkB02decM2_14 42 rfl
theorem dX11_looked_160 : decode cX11_looked 160 = .ok (.iload 9, 2) := dk_at dkB02decM2_14 43 rfl
theorem dX11_looked_162 : decode cX11_looked 162 = .ok (.aload_n 0, 1) := dk_at dkB02decM2_14 44 rfl
theorem dX11_looked_163 : decode cX11_looked 163 = .ok (.iload_n 1, 1) := dk_at dkB02decM2_14 45 rfl
theorem dX11_looked_164 : decode cX11_looked 164 = .ok (.iload_n 2, 1) := dk_at dkB02decM2_14 46 rfl
theorem dX11_looked_165 : decode cX11_looked 165 = .ok (.iload 10, 2) := dk_at dkB02decM2_14 47 rfl
theorem dX11_looked_167 : decode cX11_looked 167 = .ok (.invokevirtual 329, 3) := dk_at dkB02decM2_14 48 rfl
theorem dX11_looked_170 : decode cX11_looked 170 = .ok (.iload 4, 2) := dk_at dkB02decM2_14 49 rfl
theorem dX11_looked_172 : decode cX11_looked 172 = .ok (.i2l, 1) := dk_at dkB02decM2_14 50 rfl
theorem dX11_looked_173 : decode cX11_looked 173 = .ok (.lmul, 1) := dk_at dkB02decM2_14 51 rfl
theorem dX11_looked_174 : decode cX11_looked 174 = .ok (.aload_n 0, 1) := dk_at dkB02decM2_14 52 rfl
theorem dX11_looked_175 : decode cX11_looked 175 = .ok (.getfield 217, 3) := dk_at dkB02decM2_14 53 rfl
theorem dX11_looked_178 : decode cX11_looked 178 = .ok (.iload_n 3, 1) := dk_at dkB02decM2_14 54 rfl
theorem dX11_looked_179 : decode cX11_looked 179 = .ok (.i2l, 1) := dk_at dkB02decM2_14 55 rfl
theorem dX11_looked_180 : decode cX11_looked 180 = .ok (.lmul, 1) := dk_at dkB02decM2_14 56 rfl
theorem dX11_looked_181 : decode cX11_looked 181 = .ok (.lcmp, 1) := dk_at dkB02decM2_14 57 rfl
theorem dX11_looked_182 : decode cX11_looked 182 = .ok (.ifCond .lt 7, 3) := dk_at dkB02decM2_14 58 rfl
theorem dX11_looked_185 : decode cX11_looked 185 = .ok (.iconst 1, 1) := dk_at dkB02decM2_14 59 rfl
noncomputable def dkL02decM2_15 : List (ByteArray × Nat × Instr × Nat) := [(cX11_looked, 186, (.goto 4, 3)), (cX11_looked, 189, (.iconst 0, 1)), (cX11_looked, 190, (.iadd, 1)), (cX11_looked, 191, (.istore 9, 2)), (cX11_looked, 193, (.iinc 10 1, 3)), (cX11_looked, 196, (.goto (-46), 3)), (cX11_looked, 199, (.iload 9, 2)), (cX11_looked, 201, (.ireturn, 1)), (cX11_cause, 0, (.iload_n 1, 1)), (cX11_cause, 1, (.i2l, 1)), (cX11_cause, 2, (.ldc2_w 335, 3)), (cX11_cause, 5, (.ldc2_w 337, 3)), (cX11_cause, 8, (.invokestatic 70, 3)), (cX11_cause, 11, (.ifCond .eq 16, 3)), (cX11_cause, 14, (.iload_n 2, 1)), (cX11_cause, 15, (.i2l, 1)), (cX11_cause, 16, (.iload_n 1, 1)), (cX11_cause, 17, (.i2l, 1)), (cX11_cause, 18, (.ldc2_w 337, 3)), (cX11_cause, 21, (.invokestatic 70, 3)), (cX11_cause, 24, (.ifCond .ne 5, 3)), (cX11_cause, 27, (.iconst (-1), 1)), (cX11_cause, 28, (.ireturn, 1)), (cX11_cause, 29, (.aload_n 0, 1)), (cX11_cause, 30, (.getfield 7, 3)), (cX11_cause, 33, (.bipush 13, 2)), (cX11_cause, 35, (.iaload, 1)), (cX11_cause, 36, (.iconst 5, 1)), (cX11_cause, 37, (.if_icmp .ne 6, 3)), (cX11_cause, 40, (.bipush (-3), 2)), (cX11_cause, 42, (.ireturn, 1)), (cX11_cause, 43, (.aload_n 0, 1)), (cX11_cause, 44, (.getfield 7, 3)), (cX11_cause, 47, (.sipush 382, 3)), (cX11_cause, 50, (.iconst 2, 1)), (cX11_cause, 51, (.aload_n 0, 1)), (cX11_cause, 52, (.getfield 7, 3)), (cX11_cause, 55, (.bipush 13, 2)), (cX11_cause, 57, (.iaload, 1)), (cX11_cause, 58, (.imul, 1)), (cX11_cause, 59, (.iadd, 1)), (cX11_cause, 60, (.iload_n 1, 1)), (cX11_cause, 61, (.iastore, 1)), (cX11_cause, 62, (.aload_n 0, 1)), (cX11_cause, 63, (.getfield 7, 3)), (cX11_cause, 66, (.sipush 382, 3)), (cX11_cause, 69, (.iconst 2, 1)), (cX11_cause, 70, (.aload_n 0, 1)), (cX11_cause, 71, (.getfield 7, 3)), (cX11_cause, 74, (.bipush 13, 2)), (cX11_cause, 76, (.iaload, 1)), (cX11_cause, 77, (.imul, 1)), (cX11_cause, 78, (.iadd, 1)), (cX11_cause, 79, (.iconst 1, 1)), (cX11_cause, 80, (.iadd, 1)), (cX11_cause, 81, (.iload_n 2, 1)), (cX11_cause, 82, (.iastore, 1)), (cX11_cause, 83, (.aload_n 0, 1)), (cX11_cause, 84, (.getfield 7, 3)), (cX11_cause, 87, (.bipush 13, 2))]
theorem dkB02decM2_15 : dkL02decM2_15.all (fun q => decide (decode q.1 q.2.1 = .ok q.2.2)) = true := by decide +kernel
theorem dX11_looked_186 : decode cX11_looked 186 = .ok (.goto 4, 3) := dk_at dkB02decM2_15 0 rfl
theorem dX11_looked_189 : decode cX11_looked 189 = .ok (.iconst 0, 1) := dk_at dkB02decM2_15 1 rfl
theorem dX11_looked_190 : decode cX11_looked 190 = .ok (.iadd, 1) := dk_at dkB02decM2_15 2 rfl
theorem dX11_looked_191 : decode cX11_looked 191 = .ok (.istore 9, 2) := dk_at dkB02decM2_15 3 rfl
theorem dX11_looked_193 : decode cX11_looked 193 = .ok (.iinc 10 1, 3) := dk_at dkB02decM2_15 4 rfl
theorem dX11_looked_196 : decode cX11_looked 196 = .ok (.goto (-46), 3) := dk_at dkB02decM2_15 5 rfl
theorem dX11_looked_199 : decode cX11_looked 199 = .ok (.iload 9, 2) := dk_at dkB02decM2_15 6 rfl
theorem dX11_looked_201 : decode cX11_looked 201 = .ok (.ireturn, 1) := dk_at dkB02decM2_15 7 rfl
theorem dX11_cause_0 : decode cX11_cause 0 = .ok (.iload_n 1, 1) := dk_at dkB02decM2_15 8 rfl
theorem dX11_cause_1 : decode cX11_cause 1 = .ok (.i2l, 1) := dk_at dkB02decM2_15 9 rfl
theorem dX11_cause_2 : decode cX11_cause 2 = .ok (.ldc2_w 335, 3) := dk_at dkB02decM2_15 10 rfl
theorem dX11_cause_5 : decode cX11_cause 5 = .ok (.ldc2_w 337, 3) := dk_at dkB02decM2_15 11 rfl
theorem dX11_cause_8 : decode cX11_cause 8 = .ok (.invokestatic 70, 3) := dk_at dkB02decM2_15 12 rfl
theorem dX11_cause_11 : decode cX11_cause 11 = .ok (.ifCond .eq 16, 3) := dk_at dkB02decM2_15 13 rfl
theorem dX11_cause_14 : decode cX11_cause 14 = .ok (.iload_n 2, 1) := dk_at dkB02decM2_15 14 rfl
theorem dX11_cause_15 : decode cX11_cause 15 = .ok (.i2l, 1) := dk_at dkB02decM2_15 15 rfl
theorem dX11_cause_16 : decode cX11_cause 16 = .ok (.iload_n 1, 1) := dk_at dkB02decM2_15 16 rfl
theorem dX11_cause_17 : decode cX11_cause 17 = .ok (.i2l, 1) := dk_at dkB02decM2_15 17 rfl
theorem dX11_cause_18 : decode cX11_cause 18 = .ok (.ldc2_w 337, 3) := dk_at dkB02decM2_15 18 rfl
theorem dX11_cause_21 : decode cX11_cause 21 = .ok (.invokestatic 70, 3) := dk_at dkB02decM2_15 19 rfl
theorem dX11_cause_24 : decode cX11_cause 24 = .ok (.ifCond .ne 5, 3) := dk_at dkB02decM2_15 20 rfl
theorem dX11_cause_27 : decode cX11_cause 27 = .ok (.iconst (-1), 1) := dk_at dkB02decM2_15 21 rfl
theorem dX11_cause_28 : decode cX11_cause 28 = .ok (.ireturn, 1) := dk_at dkB02decM2_15 22 rfl
theorem dX11_cause_29 : decode cX11_cause 29 = .ok (.aload_n 0, 1) := dk_at dkB02decM2_15 23 rfl
theorem dX11_cause_30 : decode cX11_cause 30 = .ok (.getfield 7, 3) := dk_at dkB02decM2_15 24 rfl
theorem dX11_cause_33 : decode cX11_cause 33 = .ok (.bipush 13, 2) := dk_at dkB02decM2_15 25 rfl
theorem dX11_cause_35 : decode cX11_cause 35 = .ok (.iaload, 1) := dk_at dkB02decM2_15 26 rfl
theorem dX11_cause_36 : decode cX11_cause 36 = .ok (.iconst 5, 1) := dk_at dkB02decM2_15 27 rfl
theorem dX11_cause_37 : decode cX11_cause 37 = .ok (.if_icmp .ne 6, 3) := dk_at dkB02decM2_15 28 rfl
theorem dX11_cause_40 : decode cX11_cause 40 = .ok (.bipush (-3), 2) := dk_at dkB02decM2_15 29 rfl
theorem dX11_cause_42 : decode cX11_cause 42 = .ok (.ireturn, 1) := dk_at dkB02decM2_15 30 rfl
theorem dX11_cause_43 : decode cX11_cause 43 = .ok (.aload_n 0, 1) := dk_at dkB02decM2_15 31 rfl
theorem dX11_cause_44 : decode cX11_cause 44 = .ok (.getfield 7, 3) := dk_at dkB02decM2_15 32 rfl
theorem dX11_cause_47 : decode cX11_cause 47 = .ok (.sipush 382, 3) := dk_at dkB02decM2_15 33 rfl
theorem dX11_cause_50 : decode cX11_cause 50 = .ok (.iconst 2, 1) := dk_at dkB02decM2_15 34 rfl
theorem dX11_cause_51 : decode cX11_cause 51 = .ok (.aload_n 0, 1) := dk_at dkB02decM2_15 35 rfl
theorem dX11_cause_52 : decode cX11_cause 52 = .ok (.getfield 7, 3) := dk_at dkB02decM2_15 36 rfl
theorem dX11_cause_55 : decode cX11_cause 55 = .ok (.bipush 13, 2) := dk_at dkB02decM2_15 37 rfl
theorem dX11_cause_57 : decode cX11_cause 57 = .ok (.iaload, 1) := dk_at dkB02decM2_15 38 rfl
theorem dX11_cause_58 : decode cX11_cause 58 = .ok (.imul, 1) := dk_at dkB02decM2_15 39 rfl
theorem dX11_cause_59 : decode cX11_cause 59 = .ok (.iadd, 1) := dk_at dkB02decM2_15 40 rfl
theorem dX11_cause_60 : decode cX11_cause 60 = .ok (.iload_n 1, 1) := dk_at dkB02decM2_15 41 rfl
theorem dX11_cause_61 : decode cX11_cause 61 = .ok (.iastore, 1) := dk_at dkB02decM2_15 42 rfl
theorem dX11_cause_62 : decode cX11_cause 62 = .ok (.aload_n 0, 1) := dk_at dkB02decM2_15 43 rfl
theorem dX11_cause_63 : decode cX11_cause 63 = .ok (.getfield 7, 3) := dk_at dkB02decM2_15 44 rfl
theorem dX11_cause_66 : decode cX11_cause 66 = .ok (.sipush 382, 3) := dk_at dkB02decM2_15 45 rfl
theorem dX11_cause_69 : decode cX11_cause 69 = .ok (.iconst 2, 1) := dk_at dkB02decM2_15 46 rfl
theorem dX11_cause_70 : decode cX11_cause 70 = .ok (.aload_n 0, 1) := dk_at dkB02decM2_15 47 rfl
theorem dX11_cause_71 : decode cX11_cause 71 = .ok (.getfield 7, 3) := dk_at dkB02decM2_15 48 rfl
theorem dX11_cause_74 : decode cX11_cause 74 = .ok (.bipush 13, 2) := dk_at dkB02decM2_15 49 rfl
theorem dX11_cause_76 : decode cX11_cause 76 = .ok (.iaload, 1) := dk_at dkB02decM2_15 50 rfl
theorem dX11_cause_77 : decode cX11_cause 77 = .ok (.imul, 1) := dk_at dkB02decM2_15 51 rfl
theorem dX11_cause_78 : decode cX11_cause 78 = .ok (.iadd, 1) := dk_at dkB02decM2_15 52 rfl
theorem dX11_cause_79 : decode cX11_cause 79 = .ok (.iconst 1, 1) := dk_at dkB02decM2_15 53 rfl
theorem dX11_cause_80 : decode cX11_cause 80 = .ok (.iadd, 1) := dk_at dkB02decM2_15 54 rfl
theorem dX11_cause_81 : decode cX11_cause 81 = .ok (.iload_n 2, 1) := dk_at dkB02decM2_15 55 rfl
theorem dX11_cause_82 : decode cX11_cause 82 = .ok (.iastore, 1) := dk_at dkB02decM2_15 56 rfl
theorem dX11_cause_83 : decode cX11_cause 83 = .ok (.aload_n 0, 1) := dk_at dkB02decM2_15 57 rfl
theorem dX11_cause_84 : decode cX11_cause 84 = .ok (.getfield 7, 3) := dk_at dkB02decM2_15 58 rfl
theorem dX11_cause_87 : decode cX11_cause 87 = .ok (.bipush 13, 2) := dk_at dkB02decM2_15 59 rfl
noncomputable def dkL02decM2_16 : List (ByteArray × Nat × Instr × Nat) := [(cX11_cause, 89, (.dup2, 1)), (cX11_cause, 90, (.iaload, 1)), (cX11_cause, 91, (.iconst 1, 1)), (cX11_cause, 92, (.iadd, 1)), (cX11_cause, 93, (.iastore, 1)), (cX11_cause, 94, (.aload_n 0, 1)), (cX11_cause, 95, (.getfield 7, 3)), (cX11_cause, 98, (.bipush 13, 2)), (cX11_cause, 100, (.iaload, 1)), (cX11_cause, 101, (.iconst 1, 1)), (cX11_cause, 102, (.isub, 1)), (cX11_cause, 103, (.ireturn, 1)), (cX11_canSay, 0, (.iconst 0, 1)), (cX11_canSay, 1, (.istore_n 3, 1)), (cX11_canSay, 2, (.iconst 0, 1)), (cX11_canSay, 3, (.istore 4, 2)), (cX11_canSay, 5, (.iconst 0, 1)), (cX11_canSay, 6, (.istore 5, 2)), (cX11_canSay, 8, (.iload 5, 2)), (cX11_canSay, 10, (.aload_n 0, 1)), (cX11_canSay, 11, (.getfield 7, 3)), (cX11_canSay, 14, (.bipush 13, 2)), (cX11_canSay, 16, (.iaload, 1)), (cX11_canSay, 17, (.if_icmp .ge 55, 3)), (cX11_canSay, 20, (.iload_n 1, 1)), (cX11_canSay, 21, (.iload 5, 2)), (cX11_canSay, 23, (.ishr, 1)), (cX11_canSay, 24, (.iconst 1, 1)), (cX11_canSay, 25, (.iand, 1)), (cX11_canSay, 26, (.iconst 1, 1)), (cX11_canSay, 27, (.if_icmp .ne 39, 3)), (cX11_canSay, 30, (.iload_n 3, 1)), (cX11_canSay, 31, (.aload_n 0, 1)), (cX11_canSay, 32, (.getfield 7, 3)), (cX11_canSay, 35, (.sipush 382, 3)), (cX11_canSay, 38, (.iconst 2, 1)), (cX11_canSay, 39, (.iload 5, 2)), (cX11_canSay, 41, (.imul, 1)), (cX11_canSay, 42, (.iadd, 1)), (cX11_canSay, 43, (.iaload, 1)), (cX11_canSay, 44, (.iadd, 1)), (cX11_canSay, 45, (.istore_n 3, 1)), (cX11_canSay, 46, (.iload 4, 2)), (cX11_canSay, 48, (.aload_n 0, 1)), (cX11_canSay, 49, (.getfield 7, 3)), (cX11_canSay, 52, (.sipush 382, 3)), (cX11_canSay, 55, (.iconst 2, 1)), (cX11_canSay, 56, (.iload 5, 2)), (cX11_canSay, 58, (.imul, 1)), (cX11_canSay, 59, (.iadd, 1)), (cX11_canSay, 60, (.iconst 1, 1)), (cX11_canSay, 61, (.iadd, 1)), (cX11_canSay, 62, (.iaload, 1)), (cX11_canSay, 63, (.iadd, 1)), (cX11_canSay, 64, (.istore 4, 2)), (cX11_canSay, 66, (.iinc 5 1, 3)), (cX11_canSay, 69, (.goto (-61), 3)), (cX11_canSay, 72, (.iload_n 2, 1)), (cX11_canSay, 73, (.i2l, 1)), (cX11_canSay, 74, (.iload_n 3, 1))]
theorem dkB02decM2_16 : dkL02decM2_16.all (fun q => decide (decode q.1 q.2.1 = .ok q.2.2)) = true := by decide +kernel
theorem dX11_cause_89 : decode cX11_cause 89 = .ok (.dup2, 1) := dk_at dkB02decM2_16 0 rfl
theorem dX11_cause_90 : decode cX11_cause 90 = .ok (.iaload, 1) := dk_at dkB02decM2_16 1 rfl
theorem dX11_cause_91 : decode cX11_cause 91 = .ok (.iconst 1, 1) := dk_at dkB02decM2_16 2 rfl
theorem dX11_cause_92 : decode cX11_cause 92 = .ok (.iadd, 1) := dk_at dkB02decM2_16 3 rfl
theorem dX11_cause_93 : decode cX11_cause 93 = .ok (.iastore, 1) := dk_at dkB02decM2_16 4 rfl
theorem dX11_cause_94 : decode cX11_cause 94 = .ok (.aload_n 0, 1) := dk_at dkB02decM2_16 5 rfl
theorem dX11_cause_95 : decode cX11_cause 95 = .ok (.getfield 7, 3) := dk_at dkB02decM2_16 6 rfl
theorem dX11_cause_98 : decode cX11_cause 98 = .ok (.bipush 13, 2) := dk_at dkB02decM2_16 7 rfl
theorem dX11_cause_100 : decode cX11_cause 100 = .ok (.iaload, 1) := dk_at dkB02decM2_16 8 rfl
theorem dX11_cause_101 : decode cX11_cause 101 = .ok (.iconst 1, 1) := dk_at dkB02decM2_16 9 rfl
theorem dX11_cause_102 : decode cX11_cause 102 = .ok (.isub, 1) := dk_at dkB02decM2_16 10 rfl
theorem dX11_cause_103 : decode cX11_cause 103 = .ok (.ireturn, 1) := dk_at dkB02decM2_16 11 rfl
theorem dX11_canSay_0 : decode cX11_canSay 0 = .ok (.iconst 0, 1) := dk_at dkB02decM2_16 12 rfl
theorem dX11_canSay_1 : decode cX11_canSay 1 = .ok (.istore_n 3, 1) := dk_at dkB02decM2_16 13 rfl
theorem dX11_canSay_2 : decode cX11_canSay 2 = .ok (.iconst 0, 1) := dk_at dkB02decM2_16 14 rfl
theorem dX11_canSay_3 : decode cX11_canSay 3 = .ok (.istore 4, 2) := dk_at dkB02decM2_16 15 rfl
theorem dX11_canSay_5 : decode cX11_canSay 5 = .ok (.iconst 0, 1) := dk_at dkB02decM2_16 16 rfl
theorem dX11_canSay_6 : decode cX11_canSay 6 = .ok (.istore 5, 2) := dk_at dkB02decM2_16 17 rfl
theorem dX11_canSay_8 : decode cX11_canSay 8 = .ok (.iload 5, 2) := dk_at dkB02decM2_16 18 rfl
theorem dX11_canSay_10 : decode cX11_canSay 10 = .ok (.aload_n 0, 1) := dk_at dkB02decM2_16 19 rfl
theorem dX11_canSay_11 : decode cX11_canSay 11 = .ok (.getfield 7, 3) := dk_at dkB02decM2_16 20 rfl
theorem dX11_canSay_14 : decode cX11_canSay 14 = .ok (.bipush 13, 2) := dk_at dkB02decM2_16 21 rfl
theorem dX11_canSay_16 : decode cX11_canSay 16 = .ok (.iaload, 1) := dk_at dkB02decM2_16 22 rfl
theorem dX11_canSay_17 : decode cX11_canSay 17 = .ok (.if_icmp .ge 55, 3) := dk_at dkB02decM2_16 23 rfl
theorem dX11_canSay_20 : decode cX11_canSay 20 = .ok (.iload_n 1, 1) := dk_at dkB02decM2_16 24 rfl
theorem dX11_canSay_21 : decode cX11_canSay 21 = .ok (.iload 5, 2) := dk_at dkB02decM2_16 25 rfl
theorem dX11_canSay_23 : decode cX11_canSay 23 = .ok (.ishr, 1) := dk_at dkB02decM2_16 26 rfl
theorem dX11_canSay_24 : decode cX11_canSay 24 = .ok (.iconst 1, 1) := dk_at dkB02decM2_16 27 rfl
theorem dX11_canSay_25 : decode cX11_canSay 25 = .ok (.iand, 1) := dk_at dkB02decM2_16 28 rfl
theorem dX11_canSay_26 : decode cX11_canSay 26 = .ok (.iconst 1, 1) := dk_at dkB02decM2_16 29 rfl
theorem dX11_canSay_27 : decode cX11_canSay 27 = .ok (.if_icmp .ne 39, 3) := dk_at dkB02decM2_16 30 rfl
theorem dX11_canSay_30 : decode cX11_canSay 30 = .ok (.iload_n 3, 1) := dk_at dkB02decM2_16 31 rfl
theorem dX11_canSay_31 : decode cX11_canSay 31 = .ok (.aload_n 0, 1) := dk_at dkB02decM2_16 32 rfl
theorem dX11_canSay_32 : decode cX11_canSay 32 = .ok (.getfield 7, 3) := dk_at dkB02decM2_16 33 rfl
theorem dX11_canSay_35 : decode cX11_canSay 35 = .ok (.sipush 382, 3) := dk_at dkB02decM2_16 34 rfl
theorem dX11_canSay_38 : decode cX11_canSay 38 = .ok (.iconst 2, 1) := dk_at dkB02decM2_16 35 rfl
theorem dX11_canSay_39 : decode cX11_canSay 39 = .ok (.iload 5, 2) := dk_at dkB02decM2_16 36 rfl
theorem dX11_canSay_41 : decode cX11_canSay 41 = .ok (.imul, 1) := dk_at dkB02decM2_16 37 rfl
theorem dX11_canSay_42 : decode cX11_canSay 42 = .ok (.iadd, 1) := dk_at dkB02decM2_16 38 rfl
theorem dX11_canSay_43 : decode cX11_canSay 43 = .ok (.iaload, 1) := dk_at dkB02decM2_16 39 rfl
theorem dX11_canSay_44 : decode cX11_canSay 44 = .ok (.iadd, 1) := dk_at dkB02decM2_16 40 rfl
theorem dX11_canSay_45 : decode cX11_canSay 45 = .ok (.istore_n 3, 1) := dk_at dkB02decM2_16 41 rfl
theorem dX11_canSay_46 : decode cX11_canSay 46 = .ok (.iload 4, 2) := dk_at dkB02decM2_16 42 rfl
theorem dX11_canSay_48 : decode cX11_canSay 48 = .ok (.aload_n 0, 1) := dk_at dkB02decM2_16 43 rfl
theorem dX11_canSay_49 : decode cX11_canSay 49 = .ok (.getfield 7, 3) := dk_at dkB02decM2_16 44 rfl
theorem dX11_canSay_52 : decode cX11_canSay 52 = .ok (.sipush 382, 3) := dk_at dkB02decM2_16 45 rfl
theorem dX11_canSay_55 : decode cX11_canSay 55 = .ok (.iconst 2, 1) := dk_at dkB02decM2_16 46 rfl
theorem dX11_canSay_56 : decode cX11_canSay 56 = .ok (.iload 5, 2) := dk_at dkB02decM2_16 47 rfl
theorem dX11_canSay_58 : decode cX11_canSay 58 = .ok (.imul, 1) := dk_at dkB02decM2_16 48 rfl
theorem dX11_canSay_59 : decode cX11_canSay 59 = .ok (.iadd, 1) := dk_at dkB02decM2_16 49 rfl
theorem dX11_canSay_60 : decode cX11_canSay 60 = .ok (.iconst 1, 1) := dk_at dkB02decM2_16 50 rfl
theorem dX11_canSay_61 : decode cX11_canSay 61 = .ok (.iadd, 1) := dk_at dkB02decM2_16 51 rfl
theorem dX11_canSay_62 : decode cX11_canSay 62 = .ok (.iaload, 1) := dk_at dkB02decM2_16 52 rfl
theorem dX11_canSay_63 : decode cX11_canSay 63 = .ok (.iadd, 1) := dk_at dkB02decM2_16 53 rfl
theorem dX11_canSay_64 : decode cX11_canSay 64 = .ok (.istore 4, 2) := dk_at dkB02decM2_16 54 rfl
theorem dX11_canSay_66 : decode cX11_canSay 66 = .ok (.iinc 5 1, 3) := dk_at dkB02decM2_16 55 rfl
theorem dX11_canSay_69 : decode cX11_canSay 69 = .ok (.goto (-61), 3) := dk_at dkB02decM2_16 56 rfl
theorem dX11_canSay_72 : decode cX11_canSay 72 = .ok (.iload_n 2, 1) := dk_at dkB02decM2_16 57 rfl
theorem dX11_canSay_73 : decode cX11_canSay 73 = .ok (.i2l, 1) := dk_at dkB02decM2_16 58 rfl
theorem dX11_canSay_74 : decode cX11_canSay 74 = .ok (.iload_n 3, 1) := dk_at dkB02decM2_16 59 rfl
noncomputable def dkL02decM2_17 : List (ByteArray × Nat × Instr × Nat) := [(cX11_canSay, 75, (.i2l, 1)), (cX11_canSay, 76, (.iload 4, 2)), (cX11_canSay, 78, (.i2l, 1)), (cX11_canSay, 79, (.invokestatic 70, 3)), (cX11_canSay, 82, (.ireturn, 1)), (cX11_says, 0, (.iload_n 1, 1)), (cX11_says, 1, (.invokestatic 160, 3)), (cX11_says, 4, (.ifCond .eq 39, 3)), (cX11_says, 7, (.aload_n 0, 1)), (cX11_says, 8, (.iload_n 1, 1)), (cX11_says, 9, (.iload_n 2, 1)), (cX11_says, 10, (.invokevirtual 174, 3)), (cX11_says, 13, (.ifCond .eq 30, 3)), (cX11_says, 16, (.aload_n 0, 1)), (cX11_says, 17, (.iload_n 1, 1)), (cX11_says, 18, (.iload_n 3, 1)), (cX11_says, 19, (.invokevirtual 174, 3)), (cX11_says, 22, (.ifCond .eq 21, 3)), (cX11_says, 25, (.iload_n 3, 1)), (cX11_says, 26, (.iload_n 2, 1)), (cX11_says, 27, (.if_icmp .le 16, 3)), (cX11_says, 30, (.iload 4, 2)), (cX11_says, 32, (.i2l, 1)), (cX11_says, 33, (.lconst 0, 1)), (cX11_says, 34, (.ldc2_w 180, 3)), (cX11_says, 37, (.invokestatic 70, 3)), (cX11_says, 40, (.ifCond .ne 5, 3)), (cX11_says, 43, (.iconst (-1), 1)), (cX11_says, 44, (.ireturn, 1)), (cX11_says, 45, (.aload_n 0, 1)), (cX11_says, 46, (.iload_n 1, 1)), (cX11_says, 47, (.iload_n 2, 1)), (cX11_says, 48, (.invokevirtual 177, 3)), (cX11_says, 51, (.ifCond .ne 12, 3)), (cX11_says, 54, (.aload_n 0, 1)), (cX11_says, 55, (.iload_n 1, 1)), (cX11_says, 56, (.iload_n 3, 1)), (cX11_says, 57, (.invokevirtual 177, 3)), (cX11_says, 60, (.ifCond .eq 6, 3)), (cX11_says, 63, (.bipush (-12), 2)), (cX11_says, 65, (.ireturn, 1)), (cX11_says, 66, (.aload_n 0, 1)), (cX11_says, 67, (.iload_n 1, 1)), (cX11_says, 68, (.iload_n 3, 1)), (cX11_says, 69, (.invokevirtual 186, 3)), (cX11_says, 72, (.aload_n 0, 1)), (cX11_says, 73, (.iload_n 1, 1)), (cX11_says, 74, (.iload_n 2, 1)), (cX11_says, 75, (.invokevirtual 186, 3)), (cX11_says, 78, (.isub, 1)), (cX11_says, 79, (.istore 5, 2)), (cX11_says, 81, (.iconst 0, 1)), (cX11_says, 82, (.istore 6, 2)), (cX11_says, 84, (.bipush (-4), 2)), (cX11_says, 86, (.istore 7, 2)), (cX11_says, 88, (.iconst (-1), 1)), (cX11_says, 89, (.istore 8, 2)), (cX11_says, 91, (.iconst 1, 1)), (cX11_says, 92, (.istore 9, 2)), (cX11_says, 94, (.iload 9, 2))]
theorem dkB02decM2_17 : dkL02decM2_17.all (fun q => decide (decode q.1 q.2.1 = .ok q.2.2)) = true := by decide +kernel
theorem dX11_canSay_75 : decode cX11_canSay 75 = .ok (.i2l, 1) := dk_at dkB02decM2_17 0 rfl
theorem dX11_canSay_76 : decode cX11_canSay 76 = .ok (.iload 4, 2) := dk_at dkB02decM2_17 1 rfl
theorem dX11_canSay_78 : decode cX11_canSay 78 = .ok (.i2l, 1) := dk_at dkB02decM2_17 2 rfl
theorem dX11_canSay_79 : decode cX11_canSay 79 = .ok (.invokestatic 70, 3) := dk_at dkB02decM2_17 3 rfl
theorem dX11_canSay_82 : decode cX11_canSay 82 = .ok (.ireturn, 1) := dk_at dkB02decM2_17 4 rfl
theorem dX11_says_0 : decode cX11_says 0 = .ok (.iload_n 1, 1) := dk_at dkB02decM2_17 5 rfl
theorem dX11_says_1 : decode cX11_says 1 = .ok (.invokestatic 160, 3) := dk_at dkB02decM2_17 6 rfl
theorem dX11_says_4 : decode cX11_says 4 = .ok (.ifCond .eq 39, 3) := dk_at dkB02decM2_17 7 rfl
theorem dX11_says_7 : decode cX11_says 7 = .ok (.aload_n 0, 1) := dk_at dkB02decM2_17 8 rfl
theorem dX11_says_8 : decode cX11_says 8 = .ok (.iload_n 1, 1) := dk_at dkB02decM2_17 9 rfl
theorem dX11_says_9 : decode cX11_says 9 = .ok (.iload_n 2, 1) := dk_at dkB02decM2_17 10 rfl
theorem dX11_says_10 : decode cX11_says 10 = .ok (.invokevirtual 174, 3) := dk_at dkB02decM2_17 11 rfl
theorem dX11_says_13 : decode cX11_says 13 = .ok (.ifCond .eq 30, 3) := dk_at dkB02decM2_17 12 rfl
theorem dX11_says_16 : decode cX11_says 16 = .ok (.aload_n 0, 1) := dk_at dkB02decM2_17 13 rfl
theorem dX11_says_17 : decode cX11_says 17 = .ok (.iload_n 1, 1) := dk_at dkB02decM2_17 14 rfl
theorem dX11_says_18 : decode cX11_says 18 = .ok (.iload_n 3, 1) := dk_at dkB02decM2_17 15 rfl
theorem dX11_says_19 : decode cX11_says 19 = .ok (.invokevirtual 174, 3) := dk_at dkB02decM2_17 16 rfl
theorem dX11_says_22 : decode cX11_says 22 = .ok (.ifCond .eq 21, 3) := dk_at dkB02decM2_17 17 rfl
theorem dX11_says_25 : decode cX11_says 25 = .ok (.iload_n 3, 1) := dk_at dkB02decM2_17 18 rfl
theorem dX11_says_26 : decode cX11_says 26 = .ok (.iload_n 2, 1) := dk_at dkB02decM2_17 19 rfl
theorem dX11_says_27 : decode cX11_says 27 = .ok (.if_icmp .le 16, 3) := dk_at dkB02decM2_17 20 rfl
theorem dX11_says_30 : decode cX11_says 30 = .ok (.iload 4, 2) := dk_at dkB02decM2_17 21 rfl
theorem dX11_says_32 : decode cX11_says 32 = .ok (.i2l, 1) := dk_at dkB02decM2_17 22 rfl
theorem dX11_says_33 : decode cX11_says 33 = .ok (.lconst 0, 1) := dk_at dkB02decM2_17 23 rfl
theorem dX11_says_34 : decode cX11_says 34 = .ok (.ldc2_w 180, 3) := dk_at dkB02decM2_17 24 rfl
theorem dX11_says_37 : decode cX11_says 37 = .ok (.invokestatic 70, 3) := dk_at dkB02decM2_17 25 rfl
theorem dX11_says_40 : decode cX11_says 40 = .ok (.ifCond .ne 5, 3) := dk_at dkB02decM2_17 26 rfl
theorem dX11_says_43 : decode cX11_says 43 = .ok (.iconst (-1), 1) := dk_at dkB02decM2_17 27 rfl
theorem dX11_says_44 : decode cX11_says 44 = .ok (.ireturn, 1) := dk_at dkB02decM2_17 28 rfl
theorem dX11_says_45 : decode cX11_says 45 = .ok (.aload_n 0, 1) := dk_at dkB02decM2_17 29 rfl
theorem dX11_says_46 : decode cX11_says 46 = .ok (.iload_n 1, 1) := dk_at dkB02decM2_17 30 rfl
theorem dX11_says_47 : decode cX11_says 47 = .ok (.iload_n 2, 1) := dk_at dkB02decM2_17 31 rfl
theorem dX11_says_48 : decode cX11_says 48 = .ok (.invokevirtual 177, 3) := dk_at dkB02decM2_17 32 rfl
theorem dX11_says_51 : decode cX11_says 51 = .ok (.ifCond .ne 12, 3) := dk_at dkB02decM2_17 33 rfl
theorem dX11_says_54 : decode cX11_says 54 = .ok (.aload_n 0, 1) := dk_at dkB02decM2_17 34 rfl
theorem dX11_says_55 : decode cX11_says 55 = .ok (.iload_n 1, 1) := dk_at dkB02decM2_17 35 rfl
theorem dX11_says_56 : decode cX11_says 56 = .ok (.iload_n 3, 1) := dk_at dkB02decM2_17 36 rfl
theorem dX11_says_57 : decode cX11_says 57 = .ok (.invokevirtual 177, 3) := dk_at dkB02decM2_17 37 rfl
theorem dX11_says_60 : decode cX11_says 60 = .ok (.ifCond .eq 6, 3) := dk_at dkB02decM2_17 38 rfl
theorem dX11_says_63 : decode cX11_says 63 = .ok (.bipush (-12), 2) := dk_at dkB02decM2_17 39 rfl
theorem dX11_says_65 : decode cX11_says 65 = .ok (.ireturn, 1) := dk_at dkB02decM2_17 40 rfl
theorem dX11_says_66 : decode cX11_says 66 = .ok (.aload_n 0, 1) := dk_at dkB02decM2_17 41 rfl
theorem dX11_says_67 : decode cX11_says 67 = .ok (.iload_n 1, 1) := dk_at dkB02decM2_17 42 rfl
theorem dX11_says_68 : decode cX11_says 68 = .ok (.iload_n 3, 1) := dk_at dkB02decM2_17 43 rfl
theorem dX11_says_69 : decode cX11_says 69 = .ok (.invokevirtual 186, 3) := dk_at dkB02decM2_17 44 rfl
theorem dX11_says_72 : decode cX11_says 72 = .ok (.aload_n 0, 1) := dk_at dkB02decM2_17 45 rfl
theorem dX11_says_73 : decode cX11_says 73 = .ok (.iload_n 1, 1) := dk_at dkB02decM2_17 46 rfl
theorem dX11_says_74 : decode cX11_says 74 = .ok (.iload_n 2, 1) := dk_at dkB02decM2_17 47 rfl
theorem dX11_says_75 : decode cX11_says 75 = .ok (.invokevirtual 186, 3) := dk_at dkB02decM2_17 48 rfl
theorem dX11_says_78 : decode cX11_says 78 = .ok (.isub, 1) := dk_at dkB02decM2_17 49 rfl
theorem dX11_says_79 : decode cX11_says 79 = .ok (.istore 5, 2) := dk_at dkB02decM2_17 50 rfl
theorem dX11_says_81 : decode cX11_says 81 = .ok (.iconst 0, 1) := dk_at dkB02decM2_17 51 rfl
theorem dX11_says_82 : decode cX11_says 82 = .ok (.istore 6, 2) := dk_at dkB02decM2_17 52 rfl
theorem dX11_says_84 : decode cX11_says 84 = .ok (.bipush (-4), 2) := dk_at dkB02decM2_17 53 rfl
theorem dX11_says_86 : decode cX11_says 86 = .ok (.istore 7, 2) := dk_at dkB02decM2_17 54 rfl
theorem dX11_says_88 : decode cX11_says 88 = .ok (.iconst (-1), 1) := dk_at dkB02decM2_17 55 rfl
theorem dX11_says_89 : decode cX11_says 89 = .ok (.istore 8, 2) := dk_at dkB02decM2_17 56 rfl
theorem dX11_says_91 : decode cX11_says 91 = .ok (.iconst 1, 1) := dk_at dkB02decM2_17 57 rfl
theorem dX11_says_92 : decode cX11_says 92 = .ok (.istore 9, 2) := dk_at dkB02decM2_17 58 rfl
theorem dX11_says_94 : decode cX11_says 94 = .ok (.iload 9, 2) := dk_at dkB02decM2_17 59 rfl
noncomputable def dkL02decM2_18 : List (ByteArray × Nat × Instr × Nat) := [(cX11_says, 96, (.iconst 1, 1)), (cX11_says, 97, (.aload_n 0, 1)), (cX11_says, 98, (.getfield 7, 3)), (cX11_says, 101, (.bipush 13, 2)), (cX11_says, 103, (.iaload, 1)), (cX11_says, 104, (.ishl, 1)), (cX11_says, 105, (.if_icmp .ge 57, 3)), (cX11_says, 108, (.aload_n 0, 1)), (cX11_says, 109, (.iload 9, 2)), (cX11_says, 111, (.iload 5, 2)), (cX11_says, 113, (.invokevirtual 339, 3)), (cX11_says, 116, (.ifCond .eq 40, 3)), (cX11_says, 119, (.iinc 6 1, 3)), (cX11_says, 122, (.iload 7, 2)), (cX11_says, 124, (.ifCond .lt 16, 3)), (cX11_says, 127, (.iload 9, 2)), (cX11_says, 129, (.invokestatic 270, 3)), (cX11_says, 132, (.iload 7, 2)), (cX11_says, 134, (.invokestatic 270, 3)), (cX11_says, 137, (.if_icmp .ge 8, 3)), (cX11_says, 140, (.iload 9, 2)), (cX11_says, 142, (.goto 5, 3)), (cX11_says, 145, (.iload 7, 2)), (cX11_says, 147, (.istore 7, 2)), (cX11_says, 149, (.iload 8, 2)), (cX11_says, 151, (.iload 9, 2)), (cX11_says, 153, (.iand, 1)), (cX11_says, 154, (.istore 8, 2)), (cX11_says, 156, (.iinc 9 1, 3)), (cX11_says, 159, (.goto (-65), 3)), (cX11_says, 162, (.iload 4, 2)), (cX11_says, 164, (.ifCond .ne 8, 3)), (cX11_says, 167, (.iload 6, 2)), (cX11_says, 169, (.goto 26, 3)), (cX11_says, 172, (.iload 6, 2)), (cX11_says, 174, (.ifCond .ne 8, 3)), (cX11_says, 177, (.bipush (-4), 2)), (cX11_says, 179, (.goto 16, 3)), (cX11_says, 182, (.iload 4, 2)), (cX11_says, 184, (.iconst 1, 1)), (cX11_says, 185, (.if_icmp .ne 8, 3)), (cX11_says, 188, (.iload 7, 2)), (cX11_says, 190, (.goto 5, 3)), (cX11_says, 193, (.iload 8, 2)), (cX11_says, 195, (.ireturn, 1)), (cX11_image, 0, (.iconst 0, 1)), (cX11_image, 1, (.istore_n 1, 1)), (cX11_image, 2, (.iload_n 1, 1)), (cX11_image, 3, (.sipush 392, 3)), (cX11_image, 6, (.if_icmp .ge 21, 3)), (cX11_image, 9, (.aload_n 0, 1)), (cX11_image, 10, (.getfield 56, 3)), (cX11_image, 13, (.iload_n 1, 1)), (cX11_image, 14, (.aload_n 0, 1)), (cX11_image, 15, (.getfield 7, 3)), (cX11_image, 18, (.iload_n 1, 1)), (cX11_image, 19, (.iaload, 1)), (cX11_image, 20, (.iastore, 1)), (cX11_image, 21, (.iinc 1 1, 3)), (cX11_image, 24, (.goto (-22), 3))]
theorem dkB02decM2_18 : dkL02decM2_18.all (fun q => decide (decode q.1 q.2.1 = .ok q.2.2)) = true := by decide +kernel
theorem dX11_says_96 : decode cX11_says 96 = .ok (.iconst 1, 1) := dk_at dkB02decM2_18 0 rfl
theorem dX11_says_97 : decode cX11_says 97 = .ok (.aload_n 0, 1) := dk_at dkB02decM2_18 1 rfl
theorem dX11_says_98 : decode cX11_says 98 = .ok (.getfield 7, 3) := dk_at dkB02decM2_18 2 rfl
theorem dX11_says_101 : decode cX11_says 101 = .ok (.bipush 13, 2) := dk_at dkB02decM2_18 3 rfl
theorem dX11_says_103 : decode cX11_says 103 = .ok (.iaload, 1) := dk_at dkB02decM2_18 4 rfl
theorem dX11_says_104 : decode cX11_says 104 = .ok (.ishl, 1) := dk_at dkB02decM2_18 5 rfl
theorem dX11_says_105 : decode cX11_says 105 = .ok (.if_icmp .ge 57, 3) := dk_at dkB02decM2_18 6 rfl
theorem dX11_says_108 : decode cX11_says 108 = .ok (.aload_n 0, 1) := dk_at dkB02decM2_18 7 rfl
theorem dX11_says_109 : decode cX11_says 109 = .ok (.iload 9, 2) := dk_at dkB02decM2_18 8 rfl
theorem dX11_says_111 : decode cX11_says 111 = .ok (.iload 5, 2) := dk_at dkB02decM2_18 9 rfl
theorem dX11_says_113 : decode cX11_says 113 = .ok (.invokevirtual 339, 3) := dk_at dkB02decM2_18 10 rfl
theorem dX11_says_116 : decode cX11_says 116 = .ok (.ifCond .eq 40, 3) := dk_at dkB02decM2_18 11 rfl
theorem dX11_says_119 : decode cX11_says 119 = .ok (.iinc 6 1, 3) := dk_at dkB02decM2_18 12 rfl
theorem dX11_says_122 : decode cX11_says 122 = .ok (.iload 7, 2) := dk_at dkB02decM2_18 13 rfl
theorem dX11_says_124 : decode cX11_says 124 = .ok (.ifCond .lt 16, 3) := dk_at dkB02decM2_18 14 rfl
theorem dX11_says_127 : decode cX11_says 127 = .ok (.iload 9, 2) := dk_at dkB02decM2_18 15 rfl
theorem dX11_says_129 : decode cX11_says 129 = .ok (.invokestatic 270, 3) := dk_at dkB02decM2_18 16 rfl
theorem dX11_says_132 : decode cX11_says 132 = .ok (.iload 7, 2) := dk_at dkB02decM2_18 17 rfl
theorem dX11_says_134 : decode cX11_says 134 = .ok (.invokestatic 270, 3) := dk_at dkB02decM2_18 18 rfl
theorem dX11_says_137 : decode cX11_says 137 = .ok (.if_icmp .ge 8, 3) := dk_at dkB02decM2_18 19 rfl
theorem dX11_says_140 : decode cX11_says 140 = .ok (.iload 9, 2) := dk_at dkB02decM2_18 20 rfl
theorem dX11_says_142 : decode cX11_says 142 = .ok (.goto 5, 3) := dk_at dkB02decM2_18 21 rfl
theorem dX11_says_145 : decode cX11_says 145 = .ok (.iload 7, 2) := dk_at dkB02decM2_18 22 rfl
theorem dX11_says_147 : decode cX11_says 147 = .ok (.istore 7, 2) := dk_at dkB02decM2_18 23 rfl
theorem dX11_says_149 : decode cX11_says 149 = .ok (.iload 8, 2) := dk_at dkB02decM2_18 24 rfl
theorem dX11_says_151 : decode cX11_says 151 = .ok (.iload 9, 2) := dk_at dkB02decM2_18 25 rfl
theorem dX11_says_153 : decode cX11_says 153 = .ok (.iand, 1) := dk_at dkB02decM2_18 26 rfl
theorem dX11_says_154 : decode cX11_says 154 = .ok (.istore 8, 2) := dk_at dkB02decM2_18 27 rfl
theorem dX11_says_156 : decode cX11_says 156 = .ok (.iinc 9 1, 3) := dk_at dkB02decM2_18 28 rfl
theorem dX11_says_159 : decode cX11_says 159 = .ok (.goto (-65), 3) := dk_at dkB02decM2_18 29 rfl
theorem dX11_says_162 : decode cX11_says 162 = .ok (.iload 4, 2) := dk_at dkB02decM2_18 30 rfl
theorem dX11_says_164 : decode cX11_says 164 = .ok (.ifCond .ne 8, 3) := dk_at dkB02decM2_18 31 rfl
theorem dX11_says_167 : decode cX11_says 167 = .ok (.iload 6, 2) := dk_at dkB02decM2_18 32 rfl
theorem dX11_says_169 : decode cX11_says 169 = .ok (.goto 26, 3) := dk_at dkB02decM2_18 33 rfl
theorem dX11_says_172 : decode cX11_says 172 = .ok (.iload 6, 2) := dk_at dkB02decM2_18 34 rfl
theorem dX11_says_174 : decode cX11_says 174 = .ok (.ifCond .ne 8, 3) := dk_at dkB02decM2_18 35 rfl
theorem dX11_says_177 : decode cX11_says 177 = .ok (.bipush (-4), 2) := dk_at dkB02decM2_18 36 rfl
theorem dX11_says_179 : decode cX11_says 179 = .ok (.goto 16, 3) := dk_at dkB02decM2_18 37 rfl
theorem dX11_says_182 : decode cX11_says 182 = .ok (.iload 4, 2) := dk_at dkB02decM2_18 38 rfl
theorem dX11_says_184 : decode cX11_says 184 = .ok (.iconst 1, 1) := dk_at dkB02decM2_18 39 rfl
theorem dX11_says_185 : decode cX11_says 185 = .ok (.if_icmp .ne 8, 3) := dk_at dkB02decM2_18 40 rfl
theorem dX11_says_188 : decode cX11_says 188 = .ok (.iload 7, 2) := dk_at dkB02decM2_18 41 rfl
theorem dX11_says_190 : decode cX11_says 190 = .ok (.goto 5, 3) := dk_at dkB02decM2_18 42 rfl
theorem dX11_says_193 : decode cX11_says 193 = .ok (.iload 8, 2) := dk_at dkB02decM2_18 43 rfl
theorem dX11_says_195 : decode cX11_says 195 = .ok (.ireturn, 1) := dk_at dkB02decM2_18 44 rfl
theorem dX11_image_0 : decode cX11_image 0 = .ok (.iconst 0, 1) := dk_at dkB02decM2_18 45 rfl
theorem dX11_image_1 : decode cX11_image 1 = .ok (.istore_n 1, 1) := dk_at dkB02decM2_18 46 rfl
theorem dX11_image_2 : decode cX11_image 2 = .ok (.iload_n 1, 1) := dk_at dkB02decM2_18 47 rfl
theorem dX11_image_3 : decode cX11_image 3 = .ok (.sipush 392, 3) := dk_at dkB02decM2_18 48 rfl
theorem dX11_image_6 : decode cX11_image 6 = .ok (.if_icmp .ge 21, 3) := dk_at dkB02decM2_18 49 rfl
theorem dX11_image_9 : decode cX11_image 9 = .ok (.aload_n 0, 1) := dk_at dkB02decM2_18 50 rfl
theorem dX11_image_10 : decode cX11_image 10 = .ok (.getfield 56, 3) := dk_at dkB02decM2_18 51 rfl
theorem dX11_image_13 : decode cX11_image 13 = .ok (.iload_n 1, 1) := dk_at dkB02decM2_18 52 rfl
theorem dX11_image_14 : decode cX11_image 14 = .ok (.aload_n 0, 1) := dk_at dkB02decM2_18 53 rfl
theorem dX11_image_15 : decode cX11_image 15 = .ok (.getfield 7, 3) := dk_at dkB02decM2_18 54 rfl
theorem dX11_image_18 : decode cX11_image 18 = .ok (.iload_n 1, 1) := dk_at dkB02decM2_18 55 rfl
theorem dX11_image_19 : decode cX11_image 19 = .ok (.iaload, 1) := dk_at dkB02decM2_18 56 rfl
theorem dX11_image_20 : decode cX11_image 20 = .ok (.iastore, 1) := dk_at dkB02decM2_18 57 rfl
theorem dX11_image_21 : decode cX11_image 21 = .ok (.iinc 1 1, 3) := dk_at dkB02decM2_18 58 rfl
theorem dX11_image_24 : decode cX11_image 24 = .ok (.goto (-22), 3) := dk_at dkB02decM2_18 59 rfl
noncomputable def dkL02decM2_19 : List (ByteArray × Nat × Instr × Nat) := [(cX11_image, 27, (.aload_n 0, 1)), (cX11_image, 28, (.iconst 1, 1)), (cX11_image, 29, (.putfield 342, 3)), (cX11_image, 32, (.iconst 1, 1)), (cX11_image, 33, (.ireturn, 1)), (cX11_restore, 0, (.aload_n 0, 1)), (cX11_restore, 1, (.getfield 342, 3)), (cX11_restore, 4, (.ifCond .ne 6, 3)), (cX11_restore, 7, (.bipush (-4), 2)), (cX11_restore, 9, (.ireturn, 1)), (cX11_restore, 10, (.iconst 0, 1)), (cX11_restore, 11, (.istore_n 1, 1)), (cX11_restore, 12, (.iload_n 1, 1)), (cX11_restore, 13, (.sipush 392, 3)), (cX11_restore, 16, (.if_icmp .ge 21, 3)), (cX11_restore, 19, (.aload_n 0, 1)), (cX11_restore, 20, (.getfield 7, 3)), (cX11_restore, 23, (.iload_n 1, 1)), (cX11_restore, 24, (.aload_n 0, 1)), (cX11_restore, 25, (.getfield 56, 3)), (cX11_restore, 28, (.iload_n 1, 1)), (cX11_restore, 29, (.iaload, 1)), (cX11_restore, 30, (.iastore, 1)), (cX11_restore, 31, (.iinc 1 1, 3)), (cX11_restore, 34, (.goto (-22), 3)), (cX11_restore, 37, (.iconst 1, 1)), (cX11_restore, 38, (.ireturn, 1)), (cX11_isSheet, 0, (.iload_n 0, 1)), (cX11_isSheet, 1, (.i2l, 1)), (cX11_isSheet, 2, (.lconst 0, 1)), (cX11_isSheet, 3, (.ldc2_w 346, 3)), (cX11_isSheet, 6, (.invokestatic 70, 3)), (cX11_isSheet, 9, (.ifCond .eq 19, 3)), (cX11_isSheet, 12, (.iload_n 1, 1)), (cX11_isSheet, 13, (.i2l, 1)), (cX11_isSheet, 14, (.lconst 0, 1)), (cX11_isSheet, 15, (.ldc2_w 180, 3)), (cX11_isSheet, 18, (.invokestatic 70, 3)), (cX11_isSheet, 21, (.ifCond .eq 7, 3)), (cX11_isSheet, 24, (.iconst 1, 1)), (cX11_isSheet, 25, (.goto 4, 3)), (cX11_isSheet, 28, (.iconst 0, 1)), (cX11_isSheet, 29, (.ireturn, 1)), (cX11_sheet, 0, (.iload_n 1, 1)), (cX11_sheet, 1, (.iload_n 2, 1)), (cX11_sheet, 2, (.invokestatic 276, 3)), (cX11_sheet, 5, (.ifCond .eq 9, 3)), (cX11_sheet, 8, (.iload_n 3, 1)), (cX11_sheet, 9, (.bipush 24, 2)), (cX11_sheet, 11, (.if_icmp .le 5, 3)), (cX11_sheet, 14, (.iconst (-1), 1)), (cX11_sheet, 15, (.ireturn, 1)), (cX11_sheet, 16, (.iload_n 3, 1)), (cX11_sheet, 17, (.ifCond .ge 6, 3)), (cX11_sheet, 20, (.bipush (-14), 2)), (cX11_sheet, 22, (.ireturn, 1)), (cX11_sheet, 23, (.aload_n 0, 1)), (cX11_sheet, 24, (.getfield 59, 3)), (cX11_sheet, 27, (.iload_n 1, 1)), (cX11_sheet, 28, (.iload_n 2, 1))]
theorem dkB02decM2_19 : dkL02decM2_19.all (fun q => decide (decode q.1 q.2.1 = .ok q.2.2)) = true := by decide +kernel
theorem dX11_image_27 : decode cX11_image 27 = .ok (.aload_n 0, 1) := dk_at dkB02decM2_19 0 rfl
theorem dX11_image_28 : decode cX11_image 28 = .ok (.iconst 1, 1) := dk_at dkB02decM2_19 1 rfl
theorem dX11_image_29 : decode cX11_image 29 = .ok (.putfield 342, 3) := dk_at dkB02decM2_19 2 rfl
theorem dX11_image_32 : decode cX11_image 32 = .ok (.iconst 1, 1) := dk_at dkB02decM2_19 3 rfl
theorem dX11_image_33 : decode cX11_image 33 = .ok (.ireturn, 1) := dk_at dkB02decM2_19 4 rfl
theorem dX11_restore_0 : decode cX11_restore 0 = .ok (.aload_n 0, 1) := dk_at dkB02decM2_19 5 rfl
theorem dX11_restore_1 : decode cX11_restore 1 = .ok (.getfield 342, 3) := dk_at dkB02decM2_19 6 rfl
theorem dX11_restore_4 : decode cX11_restore 4 = .ok (.ifCond .ne 6, 3) := dk_at dkB02decM2_19 7 rfl
theorem dX11_restore_7 : decode cX11_restore 7 = .ok (.bipush (-4), 2) := dk_at dkB02decM2_19 8 rfl
theorem dX11_restore_9 : decode cX11_restore 9 = .ok (.ireturn, 1) := dk_at dkB02decM2_19 9 rfl
theorem dX11_restore_10 : decode cX11_restore 10 = .ok (.iconst 0, 1) := dk_at dkB02decM2_19 10 rfl
theorem dX11_restore_11 : decode cX11_restore 11 = .ok (.istore_n 1, 1) := dk_at dkB02decM2_19 11 rfl
theorem dX11_restore_12 : decode cX11_restore 12 = .ok (.iload_n 1, 1) := dk_at dkB02decM2_19 12 rfl
theorem dX11_restore_13 : decode cX11_restore 13 = .ok (.sipush 392, 3) := dk_at dkB02decM2_19 13 rfl
theorem dX11_restore_16 : decode cX11_restore 16 = .ok (.if_icmp .ge 21, 3) := dk_at dkB02decM2_19 14 rfl
theorem dX11_restore_19 : decode cX11_restore 19 = .ok (.aload_n 0, 1) := dk_at dkB02decM2_19 15 rfl
theorem dX11_restore_20 : decode cX11_restore 20 = .ok (.getfield 7, 3) := dk_at dkB02decM2_19 16 rfl
theorem dX11_restore_23 : decode cX11_restore 23 = .ok (.iload_n 1, 1) := dk_at dkB02decM2_19 17 rfl
theorem dX11_restore_24 : decode cX11_restore 24 = .ok (.aload_n 0, 1) := dk_at dkB02decM2_19 18 rfl
theorem dX11_restore_25 : decode cX11_restore 25 = .ok (.getfield 56, 3) := dk_at dkB02decM2_19 19 rfl
theorem dX11_restore_28 : decode cX11_restore 28 = .ok (.iload_n 1, 1) := dk_at dkB02decM2_19 20 rfl
theorem dX11_restore_29 : decode cX11_restore 29 = .ok (.iaload, 1) := dk_at dkB02decM2_19 21 rfl
theorem dX11_restore_30 : decode cX11_restore 30 = .ok (.iastore, 1) := dk_at dkB02decM2_19 22 rfl
theorem dX11_restore_31 : decode cX11_restore 31 = .ok (.iinc 1 1, 3) := dk_at dkB02decM2_19 23 rfl
theorem dX11_restore_34 : decode cX11_restore 34 = .ok (.goto (-22), 3) := dk_at dkB02decM2_19 24 rfl
theorem dX11_restore_37 : decode cX11_restore 37 = .ok (.iconst 1, 1) := dk_at dkB02decM2_19 25 rfl
theorem dX11_restore_38 : decode cX11_restore 38 = .ok (.ireturn, 1) := dk_at dkB02decM2_19 26 rfl
theorem dX11_isSheet_0 : decode cX11_isSheet 0 = .ok (.iload_n 0, 1) := dk_at dkB02decM2_19 27 rfl
theorem dX11_isSheet_1 : decode cX11_isSheet 1 = .ok (.i2l, 1) := dk_at dkB02decM2_19 28 rfl
theorem dX11_isSheet_2 : decode cX11_isSheet 2 = .ok (.lconst 0, 1) := dk_at dkB02decM2_19 29 rfl
theorem dX11_isSheet_3 : decode cX11_isSheet 3 = .ok (.ldc2_w 346, 3) := dk_at dkB02decM2_19 30 rfl
theorem dX11_isSheet_6 : decode cX11_isSheet 6 = .ok (.invokestatic 70, 3) := dk_at dkB02decM2_19 31 rfl
theorem dX11_isSheet_9 : decode cX11_isSheet 9 = .ok (.ifCond .eq 19, 3) := dk_at dkB02decM2_19 32 rfl
theorem dX11_isSheet_12 : decode cX11_isSheet 12 = .ok (.iload_n 1, 1) := dk_at dkB02decM2_19 33 rfl
theorem dX11_isSheet_13 : decode cX11_isSheet 13 = .ok (.i2l, 1) := dk_at dkB02decM2_19 34 rfl
theorem dX11_isSheet_14 : decode cX11_isSheet 14 = .ok (.lconst 0, 1) := dk_at dkB02decM2_19 35 rfl
theorem dX11_isSheet_15 : decode cX11_isSheet 15 = .ok (.ldc2_w 180, 3) := dk_at dkB02decM2_19 36 rfl
theorem dX11_isSheet_18 : decode cX11_isSheet 18 = .ok (.invokestatic 70, 3) := dk_at dkB02decM2_19 37 rfl
theorem dX11_isSheet_21 : decode cX11_isSheet 21 = .ok (.ifCond .eq 7, 3) := dk_at dkB02decM2_19 38 rfl
theorem dX11_isSheet_24 : decode cX11_isSheet 24 = .ok (.iconst 1, 1) := dk_at dkB02decM2_19 39 rfl
theorem dX11_isSheet_25 : decode cX11_isSheet 25 = .ok (.goto 4, 3) := dk_at dkB02decM2_19 40 rfl
theorem dX11_isSheet_28 : decode cX11_isSheet 28 = .ok (.iconst 0, 1) := dk_at dkB02decM2_19 41 rfl
theorem dX11_isSheet_29 : decode cX11_isSheet 29 = .ok (.ireturn, 1) := dk_at dkB02decM2_19 42 rfl
theorem dX11_sheet_0 : decode cX11_sheet 0 = .ok (.iload_n 1, 1) := dk_at dkB02decM2_19 43 rfl
theorem dX11_sheet_1 : decode cX11_sheet 1 = .ok (.iload_n 2, 1) := dk_at dkB02decM2_19 44 rfl
theorem dX11_sheet_2 : decode cX11_sheet 2 = .ok (.invokestatic 276, 3) := dk_at dkB02decM2_19 45 rfl
theorem dX11_sheet_5 : decode cX11_sheet 5 = .ok (.ifCond .eq 9, 3) := dk_at dkB02decM2_19 46 rfl
theorem dX11_sheet_8 : decode cX11_sheet 8 = .ok (.iload_n 3, 1) := dk_at dkB02decM2_19 47 rfl
theorem dX11_sheet_9 : decode cX11_sheet 9 = .ok (.bipush 24, 2) := dk_at dkB02decM2_19 48 rfl
theorem dX11_sheet_11 : decode cX11_sheet 11 = .ok (.if_icmp .le 5, 3) := dk_at dkB02decM2_19 49 rfl
theorem dX11_sheet_14 : decode cX11_sheet 14 = .ok (.iconst (-1), 1) := dk_at dkB02decM2_19 50 rfl
theorem dX11_sheet_15 : decode cX11_sheet 15 = .ok (.ireturn, 1) := dk_at dkB02decM2_19 51 rfl
theorem dX11_sheet_16 : decode cX11_sheet 16 = .ok (.iload_n 3, 1) := dk_at dkB02decM2_19 52 rfl
theorem dX11_sheet_17 : decode cX11_sheet 17 = .ok (.ifCond .ge 6, 3) := dk_at dkB02decM2_19 53 rfl
theorem dX11_sheet_20 : decode cX11_sheet 20 = .ok (.bipush (-14), 2) := dk_at dkB02decM2_19 54 rfl
theorem dX11_sheet_22 : decode cX11_sheet 22 = .ok (.ireturn, 1) := dk_at dkB02decM2_19 55 rfl
theorem dX11_sheet_23 : decode cX11_sheet 23 = .ok (.aload_n 0, 1) := dk_at dkB02decM2_19 56 rfl
theorem dX11_sheet_24 : decode cX11_sheet 24 = .ok (.getfield 59, 3) := dk_at dkB02decM2_19 57 rfl
theorem dX11_sheet_27 : decode cX11_sheet 27 = .ok (.iload_n 1, 1) := dk_at dkB02decM2_19 58 rfl
theorem dX11_sheet_28 : decode cX11_sheet 28 = .ok (.iload_n 2, 1) := dk_at dkB02decM2_19 59 rfl
noncomputable def dkL02decM2_20 : List (ByteArray × Nat × Instr × Nat) := [(cX11_sheet, 29, (.iastore, 1)), (cX11_sheet, 30, (.aload_n 0, 1)), (cX11_sheet, 31, (.getfield 62, 3)), (cX11_sheet, 34, (.iload_n 1, 1)), (cX11_sheet, 35, (.iload_n 3, 1)), (cX11_sheet, 36, (.iastore, 1)), (cX11_sheet, 37, (.iconst 0, 1)), (cX11_sheet, 38, (.istore 4, 2)), (cX11_sheet, 40, (.iload 4, 2)), (cX11_sheet, 42, (.bipush 24, 2)), (cX11_sheet, 44, (.if_icmp .ge 22, 3)), (cX11_sheet, 47, (.aload_n 0, 1)), (cX11_sheet, 48, (.getfield 65, 3)), (cX11_sheet, 51, (.bipush 24, 2)), (cX11_sheet, 53, (.iload_n 1, 1)), (cX11_sheet, 54, (.imul, 1)), (cX11_sheet, 55, (.iload 4, 2)), (cX11_sheet, 57, (.iadd, 1)), (cX11_sheet, 58, (.iconst 0, 1)), (cX11_sheet, 59, (.iastore, 1)), (cX11_sheet, 60, (.iinc 4 1, 3)), (cX11_sheet, 63, (.goto (-23), 3)), (cX11_sheet, 66, (.iload_n 3, 1)), (cX11_sheet, 67, (.ireturn, 1)), (cX11_drop, 0, (.iload_n 1, 1)), (cX11_drop, 1, (.i2l, 1)), (cX11_drop, 2, (.lconst 0, 1)), (cX11_drop, 3, (.ldc2_w 346, 3)), (cX11_drop, 6, (.invokestatic 70, 3)), (cX11_drop, 9, (.ifCond .ne 5, 3)), (cX11_drop, 12, (.iconst (-1), 1)), (cX11_drop, 13, (.ireturn, 1)), (cX11_drop, 14, (.aload_n 0, 1)), (cX11_drop, 15, (.getfield 59, 3)), (cX11_drop, 18, (.iload_n 1, 1)), (cX11_drop, 19, (.iaload, 1)), (cX11_drop, 20, (.ifCond .ge 6, 3)), (cX11_drop, 23, (.bipush (-11), 2)), (cX11_drop, 25, (.ireturn, 1)), (cX11_drop, 26, (.aload_n 0, 1)), (cX11_drop, 27, (.getfield 59, 3)), (cX11_drop, 30, (.iload_n 1, 1)), (cX11_drop, 31, (.iconst (-1), 1)), (cX11_drop, 32, (.iastore, 1)), (cX11_drop, 33, (.aload_n 0, 1)), (cX11_drop, 34, (.getfield 62, 3)), (cX11_drop, 37, (.iload_n 1, 1)), (cX11_drop, 38, (.iaload, 1)), (cX11_drop, 39, (.ireturn, 1)), (cX11_lacksRow, 0, (.aload_n 0, 1)), (cX11_lacksRow, 1, (.getfield 59, 3)), (cX11_lacksRow, 4, (.iload_n 1, 1)), (cX11_lacksRow, 5, (.iaload, 1)), (cX11_lacksRow, 6, (.iload_n 2, 1)), (cX11_lacksRow, 7, (.if_icmp .eq 20, 3)), (cX11_lacksRow, 10, (.aload_n 0, 1)), (cX11_lacksRow, 11, (.getfield 59, 3)), (cX11_lacksRow, 14, (.iload_n 1, 1)), (cX11_lacksRow, 15, (.iaload, 1)), (cX11_lacksRow, 16, (.ifCond .ge 8, 3))]
theorem dkB02decM2_20 : dkL02decM2_20.all (fun q => decide (decode q.1 q.2.1 = .ok q.2.2)) = true := by decide +kernel
theorem dX11_sheet_29 : decode cX11_sheet 29 = .ok (.iastore, 1) := dk_at dkB02decM2_20 0 rfl
theorem dX11_sheet_30 : decode cX11_sheet 30 = .ok (.aload_n 0, 1) := dk_at dkB02decM2_20 1 rfl
theorem dX11_sheet_31 : decode cX11_sheet 31 = .ok (.getfield 62, 3) := dk_at dkB02decM2_20 2 rfl
theorem dX11_sheet_34 : decode cX11_sheet 34 = .ok (.iload_n 1, 1) := dk_at dkB02decM2_20 3 rfl
theorem dX11_sheet_35 : decode cX11_sheet 35 = .ok (.iload_n 3, 1) := dk_at dkB02decM2_20 4 rfl
theorem dX11_sheet_36 : decode cX11_sheet 36 = .ok (.iastore, 1) := dk_at dkB02decM2_20 5 rfl
theorem dX11_sheet_37 : decode cX11_sheet 37 = .ok (.iconst 0, 1) := dk_at dkB02decM2_20 6 rfl
theorem dX11_sheet_38 : decode cX11_sheet 38 = .ok (.istore 4, 2) := dk_at dkB02decM2_20 7 rfl
theorem dX11_sheet_40 : decode cX11_sheet 40 = .ok (.iload 4, 2) := dk_at dkB02decM2_20 8 rfl
theorem dX11_sheet_42 : decode cX11_sheet 42 = .ok (.bipush 24, 2) := dk_at dkB02decM2_20 9 rfl
theorem dX11_sheet_44 : decode cX11_sheet 44 = .ok (.if_icmp .ge 22, 3) := dk_at dkB02decM2_20 10 rfl
theorem dX11_sheet_47 : decode cX11_sheet 47 = .ok (.aload_n 0, 1) := dk_at dkB02decM2_20 11 rfl
theorem dX11_sheet_48 : decode cX11_sheet 48 = .ok (.getfield 65, 3) := dk_at dkB02decM2_20 12 rfl
theorem dX11_sheet_51 : decode cX11_sheet 51 = .ok (.bipush 24, 2) := dk_at dkB02decM2_20 13 rfl
theorem dX11_sheet_53 : decode cX11_sheet 53 = .ok (.iload_n 1, 1) := dk_at dkB02decM2_20 14 rfl
theorem dX11_sheet_54 : decode cX11_sheet 54 = .ok (.imul, 1) := dk_at dkB02decM2_20 15 rfl
theorem dX11_sheet_55 : decode cX11_sheet 55 = .ok (.iload 4, 2) := dk_at dkB02decM2_20 16 rfl
theorem dX11_sheet_57 : decode cX11_sheet 57 = .ok (.iadd, 1) := dk_at dkB02decM2_20 17 rfl
theorem dX11_sheet_58 : decode cX11_sheet 58 = .ok (.iconst 0, 1) := dk_at dkB02decM2_20 18 rfl
theorem dX11_sheet_59 : decode cX11_sheet 59 = .ok (.iastore, 1) := dk_at dkB02decM2_20 19 rfl
theorem dX11_sheet_60 : decode cX11_sheet 60 = .ok (.iinc 4 1, 3) := dk_at dkB02decM2_20 20 rfl
theorem dX11_sheet_63 : decode cX11_sheet 63 = .ok (.goto (-23), 3) := dk_at dkB02decM2_20 21 rfl
theorem dX11_sheet_66 : decode cX11_sheet 66 = .ok (.iload_n 3, 1) := dk_at dkB02decM2_20 22 rfl
theorem dX11_sheet_67 : decode cX11_sheet 67 = .ok (.ireturn, 1) := dk_at dkB02decM2_20 23 rfl
theorem dX11_drop_0 : decode cX11_drop 0 = .ok (.iload_n 1, 1) := dk_at dkB02decM2_20 24 rfl
theorem dX11_drop_1 : decode cX11_drop 1 = .ok (.i2l, 1) := dk_at dkB02decM2_20 25 rfl
theorem dX11_drop_2 : decode cX11_drop 2 = .ok (.lconst 0, 1) := dk_at dkB02decM2_20 26 rfl
theorem dX11_drop_3 : decode cX11_drop 3 = .ok (.ldc2_w 346, 3) := dk_at dkB02decM2_20 27 rfl
theorem dX11_drop_6 : decode cX11_drop 6 = .ok (.invokestatic 70, 3) := dk_at dkB02decM2_20 28 rfl
theorem dX11_drop_9 : decode cX11_drop 9 = .ok (.ifCond .ne 5, 3) := dk_at dkB02decM2_20 29 rfl
theorem dX11_drop_12 : decode cX11_drop 12 = .ok (.iconst (-1), 1) := dk_at dkB02decM2_20 30 rfl
theorem dX11_drop_13 : decode cX11_drop 13 = .ok (.ireturn, 1) := dk_at dkB02decM2_20 31 rfl
theorem dX11_drop_14 : decode cX11_drop 14 = .ok (.aload_n 0, 1) := dk_at dkB02decM2_20 32 rfl
theorem dX11_drop_15 : decode cX11_drop 15 = .ok (.getfield 59, 3) := dk_at dkB02decM2_20 33 rfl
theorem dX11_drop_18 : decode cX11_drop 18 = .ok (.iload_n 1, 1) := dk_at dkB02decM2_20 34 rfl
theorem dX11_drop_19 : decode cX11_drop 19 = .ok (.iaload, 1) := dk_at dkB02decM2_20 35 rfl
theorem dX11_drop_20 : decode cX11_drop 20 = .ok (.ifCond .ge 6, 3) := dk_at dkB02decM2_20 36 rfl
theorem dX11_drop_23 : decode cX11_drop 23 = .ok (.bipush (-11), 2) := dk_at dkB02decM2_20 37 rfl
theorem dX11_drop_25 : decode cX11_drop 25 = .ok (.ireturn, 1) := dk_at dkB02decM2_20 38 rfl
theorem dX11_drop_26 : decode cX11_drop 26 = .ok (.aload_n 0, 1) := dk_at dkB02decM2_20 39 rfl
theorem dX11_drop_27 : decode cX11_drop 27 = .ok (.getfield 59, 3) := dk_at dkB02decM2_20 40 rfl
theorem dX11_drop_30 : decode cX11_drop 30 = .ok (.iload_n 1, 1) := dk_at dkB02decM2_20 41 rfl
theorem dX11_drop_31 : decode cX11_drop 31 = .ok (.iconst (-1), 1) := dk_at dkB02decM2_20 42 rfl
theorem dX11_drop_32 : decode cX11_drop 32 = .ok (.iastore, 1) := dk_at dkB02decM2_20 43 rfl
theorem dX11_drop_33 : decode cX11_drop 33 = .ok (.aload_n 0, 1) := dk_at dkB02decM2_20 44 rfl
theorem dX11_drop_34 : decode cX11_drop 34 = .ok (.getfield 62, 3) := dk_at dkB02decM2_20 45 rfl
theorem dX11_drop_37 : decode cX11_drop 37 = .ok (.iload_n 1, 1) := dk_at dkB02decM2_20 46 rfl
theorem dX11_drop_38 : decode cX11_drop 38 = .ok (.iaload, 1) := dk_at dkB02decM2_20 47 rfl
theorem dX11_drop_39 : decode cX11_drop 39 = .ok (.ireturn, 1) := dk_at dkB02decM2_20 48 rfl
theorem dX11_lacksRow_0 : decode cX11_lacksRow 0 = .ok (.aload_n 0, 1) := dk_at dkB02decM2_20 49 rfl
theorem dX11_lacksRow_1 : decode cX11_lacksRow 1 = .ok (.getfield 59, 3) := dk_at dkB02decM2_20 50 rfl
theorem dX11_lacksRow_4 : decode cX11_lacksRow 4 = .ok (.iload_n 1, 1) := dk_at dkB02decM2_20 51 rfl
theorem dX11_lacksRow_5 : decode cX11_lacksRow 5 = .ok (.iaload, 1) := dk_at dkB02decM2_20 52 rfl
theorem dX11_lacksRow_6 : decode cX11_lacksRow 6 = .ok (.iload_n 2, 1) := dk_at dkB02decM2_20 53 rfl
theorem dX11_lacksRow_7 : decode cX11_lacksRow 7 = .ok (.if_icmp .eq 20, 3) := dk_at dkB02decM2_20 54 rfl
theorem dX11_lacksRow_10 : decode cX11_lacksRow 10 = .ok (.aload_n 0, 1) := dk_at dkB02decM2_20 55 rfl
theorem dX11_lacksRow_11 : decode cX11_lacksRow 11 = .ok (.getfield 59, 3) := dk_at dkB02decM2_20 56 rfl
theorem dX11_lacksRow_14 : decode cX11_lacksRow 14 = .ok (.iload_n 1, 1) := dk_at dkB02decM2_20 57 rfl
theorem dX11_lacksRow_15 : decode cX11_lacksRow 15 = .ok (.iaload, 1) := dk_at dkB02decM2_20 58 rfl
theorem dX11_lacksRow_16 : decode cX11_lacksRow 16 = .ok (.ifCond .ge 8, 3) := dk_at dkB02decM2_20 59 rfl
noncomputable def dkL02decM2_21 : List (ByteArray × Nat × Instr × Nat) := [(cX11_lacksRow, 19, (.bipush (-11), 2)), (cX11_lacksRow, 21, (.goto 5, 3)), (cX11_lacksRow, 24, (.bipush (-12), 2)), (cX11_lacksRow, 26, (.ireturn, 1)), (cX11_lacksRow, 27, (.iload_n 3, 1)), (cX11_lacksRow, 28, (.i2l, 1)), (cX11_lacksRow, 29, (.lconst 0, 1)), (cX11_lacksRow, 30, (.aload_n 0, 1)), (cX11_lacksRow, 31, (.getfield 62, 3)), (cX11_lacksRow, 34, (.iload_n 1, 1)), (cX11_lacksRow, 35, (.iaload, 1)), (cX11_lacksRow, 36, (.iload 4, 2)), (cX11_lacksRow, 38, (.isub, 1)), (cX11_lacksRow, 39, (.i2l, 1)), (cX11_lacksRow, 40, (.invokestatic 70, 3)), (cX11_lacksRow, 43, (.ifCond .eq 7, 3)), (cX11_lacksRow, 46, (.iconst 0, 1)), (cX11_lacksRow, 47, (.goto 5, 3)), (cX11_lacksRow, 50, (.bipush (-13), 2)), (cX11_lacksRow, 52, (.ireturn, 1)), (cX11_item, 0, (.iload_n 1, 1)), (cX11_item, 1, (.iload_n 2, 1)), (cX11_item, 2, (.invokestatic 276, 3)), (cX11_item, 5, (.ifCond .ne 5, 3)), (cX11_item, 8, (.iconst (-1), 1)), (cX11_item, 9, (.ireturn, 1)), (cX11_item, 10, (.aload_n 0, 1)), (cX11_item, 11, (.iload_n 1, 1)), (cX11_item, 12, (.iload_n 2, 1)), (cX11_item, 13, (.iload_n 3, 1)), (cX11_item, 14, (.iconst 1, 1)), (cX11_item, 15, (.invokevirtual 279, 3)), (cX11_item, 18, (.istore 5, 2)), (cX11_item, 20, (.iload 5, 2)), (cX11_item, 22, (.ifCond .ge 6, 3)), (cX11_item, 25, (.iload 5, 2)), (cX11_item, 27, (.ireturn, 1)), (cX11_item, 28, (.aload_n 0, 1)), (cX11_item, 29, (.getfield 65, 3)), (cX11_item, 32, (.bipush 24, 2)), (cX11_item, 34, (.iload_n 1, 1)), (cX11_item, 35, (.imul, 1)), (cX11_item, 36, (.iload_n 3, 1)), (cX11_item, 37, (.iadd, 1)), (cX11_item, 38, (.iload_n 2, 1)), (cX11_item, 39, (.ifCond .ne 14, 3)), (cX11_item, 42, (.iload 4, 2)), (cX11_item, 44, (.bipush 24, 2)), (cX11_item, 46, (.ishl, 1)), (cX11_item, 47, (.bipush 24, 2)), (cX11_item, 49, (.ishr, 1)), (cX11_item, 50, (.goto 21, 3)), (cX11_item, 53, (.iload_n 2, 1)), (cX11_item, 54, (.iconst 1, 1)), (cX11_item, 55, (.if_icmp .ne 14, 3)), (cX11_item, 58, (.iload 4, 2)), (cX11_item, 60, (.bipush 16, 2)), (cX11_item, 62, (.ishl, 1)), (cX11_item, 63, (.bipush 16, 2)), (cX11_item, 65, (.ishr, 1))]
theorem dkB02decM2_21 : dkL02decM2_21.all (fun q => decide (decode q.1 q.2.1 = .ok q.2.2)) = true := by decide +kernel
theorem dX11_lacksRow_19 : decode cX11_lacksRow 19 = .ok (.bipush (-11), 2) := dk_at dkB02decM2_21 0 rfl
theorem dX11_lacksRow_21 : decode cX11_lacksRow 21 = .ok (.goto 5, 3) := dk_at dkB02decM2_21 1 rfl
theorem dX11_lacksRow_24 : decode cX11_lacksRow 24 = .ok (.bipush (-12), 2) := dk_at dkB02decM2_21 2 rfl
theorem dX11_lacksRow_26 : decode cX11_lacksRow 26 = .ok (.ireturn, 1) := dk_at dkB02decM2_21 3 rfl
theorem dX11_lacksRow_27 : decode cX11_lacksRow 27 = .ok (.iload_n 3, 1) := dk_at dkB02decM2_21 4 rfl
theorem dX11_lacksRow_28 : decode cX11_lacksRow 28 = .ok (.i2l, 1) := dk_at dkB02decM2_21 5 rfl
theorem dX11_lacksRow_29 : decode cX11_lacksRow 29 = .ok (.lconst 0, 1) := dk_at dkB02decM2_21 6 rfl
theorem dX11_lacksRow_30 : decode cX11_lacksRow 30 = .ok (.aload_n 0, 1) := dk_at dkB02decM2_21 7 rfl
theorem dX11_lacksRow_31 : decode cX11_lacksRow 31 = .ok (.getfield 62, 3) := dk_at dkB02decM2_21 8 rfl
theorem dX11_lacksRow_34 : decode cX11_lacksRow 34 = .ok (.iload_n 1, 1) := dk_at dkB02decM2_21 9 rfl
theorem dX11_lacksRow_35 : decode cX11_lacksRow 35 = .ok (.iaload, 1) := dk_at dkB02decM2_21 10 rfl
theorem dX11_lacksRow_36 : decode cX11_lacksRow 36 = .ok (.iload 4, 2) := dk_at dkB02decM2_21 11 rfl
theorem dX11_lacksRow_38 : decode cX11_lacksRow 38 = .ok (.isub, 1) := dk_at dkB02decM2_21 12 rfl
theorem dX11_lacksRow_39 : decode cX11_lacksRow 39 = .ok (.i2l, 1) := dk_at dkB02decM2_21 13 rfl
theorem dX11_lacksRow_40 : decode cX11_lacksRow 40 = .ok (.invokestatic 70, 3) := dk_at dkB02decM2_21 14 rfl
theorem dX11_lacksRow_43 : decode cX11_lacksRow 43 = .ok (.ifCond .eq 7, 3) := dk_at dkB02decM2_21 15 rfl
theorem dX11_lacksRow_46 : decode cX11_lacksRow 46 = .ok (.iconst 0, 1) := dk_at dkB02decM2_21 16 rfl
theorem dX11_lacksRow_47 : decode cX11_lacksRow 47 = .ok (.goto 5, 3) := dk_at dkB02decM2_21 17 rfl
theorem dX11_lacksRow_50 : decode cX11_lacksRow 50 = .ok (.bipush (-13), 2) := dk_at dkB02decM2_21 18 rfl
theorem dX11_lacksRow_52 : decode cX11_lacksRow 52 = .ok (.ireturn, 1) := dk_at dkB02decM2_21 19 rfl
theorem dX11_item_0 : decode cX11_item 0 = .ok (.iload_n 1, 1) := dk_at dkB02decM2_21 20 rfl
theorem dX11_item_1 : decode cX11_item 1 = .ok (.iload_n 2, 1) := dk_at dkB02decM2_21 21 rfl
theorem dX11_item_2 : decode cX11_item 2 = .ok (.invokestatic 276, 3) := dk_at dkB02decM2_21 22 rfl
theorem dX11_item_5 : decode cX11_item 5 = .ok (.ifCond .ne 5, 3) := dk_at dkB02decM2_21 23 rfl
theorem dX11_item_8 : decode cX11_item 8 = .ok (.iconst (-1), 1) := dk_at dkB02decM2_21 24 rfl
theorem dX11_item_9 : decode cX11_item 9 = .ok (.ireturn, 1) := dk_at dkB02decM2_21 25 rfl
theorem dX11_item_10 : decode cX11_item 10 = .ok (.aload_n 0, 1) := dk_at dkB02decM2_21 26 rfl
theorem dX11_item_11 : decode cX11_item 11 = .ok (.iload_n 1, 1) := dk_at dkB02decM2_21 27 rfl
theorem dX11_item_12 : decode cX11_item 12 = .ok (.iload_n 2, 1) := dk_at dkB02decM2_21 28 rfl
theorem dX11_item_13 : decode cX11_item 13 = .ok (.iload_n 3, 1) := dk_at dkB02decM2_21 29 rfl
theorem dX11_item_14 : decode cX11_item 14 = .ok (.iconst 1, 1) := dk_at dkB02decM2_21 30 rfl
theorem dX11_item_15 : decode cX11_item 15 = .ok (.invokevirtual 279, 3) := dk_at dkB02decM2_21 31 rfl
theorem dX11_item_18 : decode cX11_item 18 = .ok (.istore 5, 2) := dk_at dkB02decM2_21 32 rfl
theorem dX11_item_20 : decode cX11_item 20 = .ok (.iload 5, 2) := dk_at dkB02decM2_21 33 rfl
theorem dX11_item_22 : decode cX11_item 22 = .ok (.ifCond .ge 6, 3) := dk_at dkB02decM2_21 34 rfl
theorem dX11_item_25 : decode cX11_item 25 = .ok (.iload 5, 2) := dk_at dkB02decM2_21 35 rfl
theorem dX11_item_27 : decode cX11_item 27 = .ok (.ireturn, 1) := dk_at dkB02decM2_21 36 rfl
theorem dX11_item_28 : decode cX11_item 28 = .ok (.aload_n 0, 1) := dk_at dkB02decM2_21 37 rfl
theorem dX11_item_29 : decode cX11_item 29 = .ok (.getfield 65, 3) := dk_at dkB02decM2_21 38 rfl
theorem dX11_item_32 : decode cX11_item 32 = .ok (.bipush 24, 2) := dk_at dkB02decM2_21 39 rfl
theorem dX11_item_34 : decode cX11_item 34 = .ok (.iload_n 1, 1) := dk_at dkB02decM2_21 40 rfl
theorem dX11_item_35 : decode cX11_item 35 = .ok (.imul, 1) := dk_at dkB02decM2_21 41 rfl
theorem dX11_item_36 : decode cX11_item 36 = .ok (.iload_n 3, 1) := dk_at dkB02decM2_21 42 rfl
theorem dX11_item_37 : decode cX11_item 37 = .ok (.iadd, 1) := dk_at dkB02decM2_21 43 rfl
theorem dX11_item_38 : decode cX11_item 38 = .ok (.iload_n 2, 1) := dk_at dkB02decM2_21 44 rfl
theorem dX11_item_39 : decode cX11_item 39 = .ok (.ifCond .ne 14, 3) := dk_at dkB02decM2_21 45 rfl
theorem dX11_item_42 : decode cX11_item 42 = .ok (.iload 4, 2) := dk_at dkB02decM2_21 46 rfl
theorem dX11_item_44 : decode cX11_item 44 = .ok (.bipush 24, 2) := dk_at dkB02decM2_21 47 rfl
theorem dX11_item_46 : decode cX11_item 46 = .ok (.ishl, 1) := dk_at dkB02decM2_21 48 rfl
theorem dX11_item_47 : decode cX11_item 47 = .ok (.bipush 24, 2) := dk_at dkB02decM2_21 49 rfl
theorem dX11_item_49 : decode cX11_item 49 = .ok (.ishr, 1) := dk_at dkB02decM2_21 50 rfl
theorem dX11_item_50 : decode cX11_item 50 = .ok (.goto 21, 3) := dk_at dkB02decM2_21 51 rfl
theorem dX11_item_53 : decode cX11_item 53 = .ok (.iload_n 2, 1) := dk_at dkB02decM2_21 52 rfl
theorem dX11_item_54 : decode cX11_item 54 = .ok (.iconst 1, 1) := dk_at dkB02decM2_21 53 rfl
theorem dX11_item_55 : decode cX11_item 55 = .ok (.if_icmp .ne 14, 3) := dk_at dkB02decM2_21 54 rfl
theorem dX11_item_58 : decode cX11_item 58 = .ok (.iload 4, 2) := dk_at dkB02decM2_21 55 rfl
theorem dX11_item_60 : decode cX11_item 60 = .ok (.bipush 16, 2) := dk_at dkB02decM2_21 56 rfl
theorem dX11_item_62 : decode cX11_item 62 = .ok (.ishl, 1) := dk_at dkB02decM2_21 57 rfl
theorem dX11_item_63 : decode cX11_item 63 = .ok (.bipush 16, 2) := dk_at dkB02decM2_21 58 rfl
theorem dX11_item_65 : decode cX11_item 65 = .ok (.ishr, 1) := dk_at dkB02decM2_21 59 rfl
noncomputable def dkL02decM2_22 : List (ByteArray × Nat × Instr × Nat) := [(cX11_item, 66, (.goto 5, 3)), (cX11_item, 69, (.iload 4, 2)), (cX11_item, 71, (.iastore, 1)), (cX11_item, 72, (.iconst 1, 1)), (cX11_item, 73, (.ireturn, 1)), (cX11_rains, 0, (.iload_n 1, 1)), (cX11_rains, 1, (.i2l, 1)), (cX11_rains, 2, (.lconst 0, 1)), (cX11_rains, 3, (.ldc2_w 180, 3)), (cX11_rains, 6, (.invokestatic 70, 3)), (cX11_rains, 9, (.ifCond .eq 24, 3)), (cX11_rains, 12, (.iload_n 2, 1)), (cX11_rains, 13, (.iload_n 3, 1)), (cX11_rains, 14, (.invokestatic 276, 3)), (cX11_rains, 17, (.ifCond .eq 16, 3)), (cX11_rains, 20, (.iload 5, 2)), (cX11_rains, 22, (.i2l, 1)), (cX11_rains, 23, (.lconst 1, 1)), (cX11_rains, 24, (.ldc2_w 348, 3)), (cX11_rains, 27, (.invokestatic 70, 3)), (cX11_rains, 30, (.ifCond .ne 5, 3)), (cX11_rains, 33, (.iconst (-1), 1)), (cX11_rains, 34, (.ireturn, 1)), (cX11_rains, 35, (.aload_n 0, 1)), (cX11_rains, 36, (.iload_n 2, 1)), (cX11_rains, 37, (.iload_n 3, 1)), (cX11_rains, 38, (.iload 4, 2)), (cX11_rains, 40, (.iload 5, 2)), (cX11_rains, 42, (.invokevirtual 279, 3)), (cX11_rains, 45, (.istore 6, 2)), (cX11_rains, 47, (.iload 6, 2)), (cX11_rains, 49, (.ifCond .ge 6, 3)), (cX11_rains, 52, (.iload 6, 2)), (cX11_rains, 54, (.ireturn, 1)), (cX11_rains, 55, (.bipush 24, 2)), (cX11_rains, 57, (.iload_n 2, 1)), (cX11_rains, 58, (.imul, 1)), (cX11_rains, 59, (.iload 4, 2)), (cX11_rains, 61, (.iadd, 1)), (cX11_rains, 62, (.istore 7, 2)), (cX11_rains, 64, (.iconst 0, 1)), (cX11_rains, 65, (.istore 8, 2)), (cX11_rains, 67, (.iload 8, 2)), (cX11_rains, 69, (.iload 5, 2)), (cX11_rains, 71, (.if_icmp .ge 29, 3)), (cX11_rains, 74, (.iload_n 1, 1)), (cX11_rains, 75, (.aload_n 0, 1)), (cX11_rains, 76, (.getfield 65, 3)), (cX11_rains, 79, (.iload 7, 2)), (cX11_rains, 81, (.iload 8, 2)), (cX11_rains, 83, (.iadd, 1)), (cX11_rains, 84, (.iaload, 1)), (cX11_rains, 85, (.invokestatic 84, 3)), (cX11_rains, 88, (.ifCond .ne 6, 3)), (cX11_rains, 91, (.bipush (-2), 2)), (cX11_rains, 93, (.ireturn, 1)), (cX11_rains, 94, (.iinc 8 1, 3)), (cX11_rains, 97, (.goto (-30), 3)), (cX11_rains, 100, (.iconst 0, 1)), (cX11_rains, 101, (.istore 8, 2))]
theorem dkB02decM2_22 : dkL02decM2_22.all (fun q => decide (decode q.1 q.2.1 = .ok q.2.2)) = true := by decide +kernel
theorem dX11_item_66 : decode cX11_item 66 = .ok (.goto 5, 3) := dk_at dkB02decM2_22 0 rfl
theorem dX11_item_69 : decode cX11_item 69 = .ok (.iload 4, 2) := dk_at dkB02decM2_22 1 rfl
theorem dX11_item_71 : decode cX11_item 71 = .ok (.iastore, 1) := dk_at dkB02decM2_22 2 rfl
theorem dX11_item_72 : decode cX11_item 72 = .ok (.iconst 1, 1) := dk_at dkB02decM2_22 3 rfl
theorem dX11_item_73 : decode cX11_item 73 = .ok (.ireturn, 1) := dk_at dkB02decM2_22 4 rfl
theorem dX11_rains_0 : decode cX11_rains 0 = .ok (.iload_n 1, 1) := dk_at dkB02decM2_22 5 rfl
theorem dX11_rains_1 : decode cX11_rains 1 = .ok (.i2l, 1) := dk_at dkB02decM2_22 6 rfl
theorem dX11_rains_2 : decode cX11_rains 2 = .ok (.lconst 0, 1) := dk_at dkB02decM2_22 7 rfl
theorem dX11_rains_3 : decode cX11_rains 3 = .ok (.ldc2_w 180, 3) := dk_at dkB02decM2_22 8 rfl
theorem dX11_rains_6 : decode cX11_rains 6 = .ok (.invokestatic 70, 3) := dk_at dkB02decM2_22 9 rfl
theorem dX11_rains_9 : decode cX11_rains 9 = .ok (.ifCond .eq 24, 3) := dk_at dkB02decM2_22 10 rfl
theorem dX11_rains_12 : decode cX11_rains 12 = .ok (.iload_n 2, 1) := dk_at dkB02decM2_22 11 rfl
theorem dX11_rains_13 : decode cX11_rains 13 = .ok (.iload_n 3, 1) := dk_at dkB02decM2_22 12 rfl
theorem dX11_rains_14 : decode cX11_rains 14 = .ok (.invokestatic 276, 3) := dk_at dkB02decM2_22 13 rfl
theorem dX11_rains_17 : decode cX11_rains 17 = .ok (.ifCond .eq 16, 3) := dk_at dkB02decM2_22 14 rfl
theorem dX11_rains_20 : decode cX11_rains 20 = .ok (.iload 5, 2) := dk_at dkB02decM2_22 15 rfl
theorem dX11_rains_22 : decode cX11_rains 22 = .ok (.i2l, 1) := dk_at dkB02decM2_22 16 rfl
theorem dX11_rains_23 : decode cX11_rains 23 = .ok (.lconst 1, 1) := dk_at dkB02decM2_22 17 rfl
theorem dX11_rains_24 : decode cX11_rains 24 = .ok (.ldc2_w 348, 3) := dk_at dkB02decM2_22 18 rfl
theorem dX11_rains_27 : decode cX11_rains 27 = .ok (.invokestatic 70, 3) := dk_at dkB02decM2_22 19 rfl
theorem dX11_rains_30 : decode cX11_rains 30 = .ok (.ifCond .ne 5, 3) := dk_at dkB02decM2_22 20 rfl
theorem dX11_rains_33 : decode cX11_rains 33 = .ok (.iconst (-1), 1) := dk_at dkB02decM2_22 21 rfl
theorem dX11_rains_34 : decode cX11_rains 34 = .ok (.ireturn, 1) := dk_at dkB02decM2_22 22 rfl
theorem dX11_rains_35 : decode cX11_rains 35 = .ok (.aload_n 0, 1) := dk_at dkB02decM2_22 23 rfl
theorem dX11_rains_36 : decode cX11_rains 36 = .ok (.iload_n 2, 1) := dk_at dkB02decM2_22 24 rfl
theorem dX11_rains_37 : decode cX11_rains 37 = .ok (.iload_n 3, 1) := dk_at dkB02decM2_22 25 rfl
theorem dX11_rains_38 : decode cX11_rains 38 = .ok (.iload 4, 2) := dk_at dkB02decM2_22 26 rfl
theorem dX11_rains_40 : decode cX11_rains 40 = .ok (.iload 5, 2) := dk_at dkB02decM2_22 27 rfl
theorem dX11_rains_42 : decode cX11_rains 42 = .ok (.invokevirtual 279, 3) := dk_at dkB02decM2_22 28 rfl
theorem dX11_rains_45 : decode cX11_rains 45 = .ok (.istore 6, 2) := dk_at dkB02decM2_22 29 rfl
theorem dX11_rains_47 : decode cX11_rains 47 = .ok (.iload 6, 2) := dk_at dkB02decM2_22 30 rfl
theorem dX11_rains_49 : decode cX11_rains 49 = .ok (.ifCond .ge 6, 3) := dk_at dkB02decM2_22 31 rfl
theorem dX11_rains_52 : decode cX11_rains 52 = .ok (.iload 6, 2) := dk_at dkB02decM2_22 32 rfl
theorem dX11_rains_54 : decode cX11_rains 54 = .ok (.ireturn, 1) := dk_at dkB02decM2_22 33 rfl
theorem dX11_rains_55 : decode cX11_rains 55 = .ok (.bipush 24, 2) := dk_at dkB02decM2_22 34 rfl
theorem dX11_rains_57 : decode cX11_rains 57 = .ok (.iload_n 2, 1) := dk_at dkB02decM2_22 35 rfl
theorem dX11_rains_58 : decode cX11_rains 58 = .ok (.imul, 1) := dk_at dkB02decM2_22 36 rfl
theorem dX11_rains_59 : decode cX11_rains 59 = .ok (.iload 4, 2) := dk_at dkB02decM2_22 37 rfl
theorem dX11_rains_61 : decode cX11_rains 61 = .ok (.iadd, 1) := dk_at dkB02decM2_22 38 rfl
theorem dX11_rains_62 : decode cX11_rains 62 = .ok (.istore 7, 2) := dk_at dkB02decM2_22 39 rfl
theorem dX11_rains_64 : decode cX11_rains 64 = .ok (.iconst 0, 1) := dk_at dkB02decM2_22 40 rfl
theorem dX11_rains_65 : decode cX11_rains 65 = .ok (.istore 8, 2) := dk_at dkB02decM2_22 41 rfl
theorem dX11_rains_67 : decode cX11_rains 67 = .ok (.iload 8, 2) := dk_at dkB02decM2_22 42 rfl
theorem dX11_rains_69 : decode cX11_rains 69 = .ok (.iload 5, 2) := dk_at dkB02decM2_22 43 rfl
theorem dX11_rains_71 : decode cX11_rains 71 = .ok (.if_icmp .ge 29, 3) := dk_at dkB02decM2_22 44 rfl
theorem dX11_rains_74 : decode cX11_rains 74 = .ok (.iload_n 1, 1) := dk_at dkB02decM2_22 45 rfl
theorem dX11_rains_75 : decode cX11_rains 75 = .ok (.aload_n 0, 1) := dk_at dkB02decM2_22 46 rfl
theorem dX11_rains_76 : decode cX11_rains 76 = .ok (.getfield 65, 3) := dk_at dkB02decM2_22 47 rfl
theorem dX11_rains_79 : decode cX11_rains 79 = .ok (.iload 7, 2) := dk_at dkB02decM2_22 48 rfl
theorem dX11_rains_81 : decode cX11_rains 81 = .ok (.iload 8, 2) := dk_at dkB02decM2_22 49 rfl
theorem dX11_rains_83 : decode cX11_rains 83 = .ok (.iadd, 1) := dk_at dkB02decM2_22 50 rfl
theorem dX11_rains_84 : decode cX11_rains 84 = .ok (.iaload, 1) := dk_at dkB02decM2_22 51 rfl
theorem dX11_rains_85 : decode cX11_rains 85 = .ok (.invokestatic 84, 3) := dk_at dkB02decM2_22 52 rfl
theorem dX11_rains_88 : decode cX11_rains 88 = .ok (.ifCond .ne 6, 3) := dk_at dkB02decM2_22 53 rfl
theorem dX11_rains_91 : decode cX11_rains 91 = .ok (.bipush (-2), 2) := dk_at dkB02decM2_22 54 rfl
theorem dX11_rains_93 : decode cX11_rains 93 = .ok (.ireturn, 1) := dk_at dkB02decM2_22 55 rfl
theorem dX11_rains_94 : decode cX11_rains 94 = .ok (.iinc 8 1, 3) := dk_at dkB02decM2_22 56 rfl
theorem dX11_rains_97 : decode cX11_rains 97 = .ok (.goto (-30), 3) := dk_at dkB02decM2_22 57 rfl
theorem dX11_rains_100 : decode cX11_rains 100 = .ok (.iconst 0, 1) := dk_at dkB02decM2_22 58 rfl
theorem dX11_rains_101 : decode cX11_rains 101 = .ok (.istore 8, 2) := dk_at dkB02decM2_22 59 rfl
noncomputable def dkL02decM2_23 : List (ByteArray × Nat × Instr × Nat) := [(cX11_rains, 103, (.iload 8, 2)), (cX11_rains, 105, (.iload 5, 2)), (cX11_rains, 107, (.if_icmp .ge 33, 3)), (cX11_rains, 110, (.aload_n 0, 1)), (cX11_rains, 111, (.getfield 7, 3)), (cX11_rains, 114, (.bipush 20, 2)), (cX11_rains, 116, (.iconst 3, 1)), (cX11_rains, 117, (.iload 8, 2)), (cX11_rains, 119, (.imul, 1)), (cX11_rains, 120, (.iadd, 1)), (cX11_rains, 121, (.iload_n 1, 1)), (cX11_rains, 122, (.iadd, 1)), (cX11_rains, 123, (.aload_n 0, 1)), (cX11_rains, 124, (.getfield 65, 3)), (cX11_rains, 127, (.iload 7, 2)), (cX11_rains, 129, (.iload 8, 2)), (cX11_rains, 131, (.iadd, 1)), (cX11_rains, 132, (.iaload, 1)), (cX11_rains, 133, (.iastore, 1)), (cX11_rains, 134, (.iinc 8 1, 3)), (cX11_rains, 137, (.goto (-34), 3)), (cX11_rains, 140, (.iload 5, 2)), (cX11_rains, 142, (.ireturn, 1)), (cX11_fits, 0, (.iconst 1, 1)), (cX11_fits, 1, (.istore 5, 2)), (cX11_fits, 3, (.iconst 0, 1)), (cX11_fits, 4, (.istore 6, 2)), (cX11_fits, 6, (.iload 6, 2)), (cX11_fits, 8, (.iload_n 2, 1)), (cX11_fits, 9, (.if_icmp .ge 105, 3)), (cX11_fits, 12, (.iload 5, 2)), (cX11_fits, 14, (.ifCond .eq 100, 3)), (cX11_fits, 17, (.aload_n 0, 1)), (cX11_fits, 18, (.getfield 65, 3)), (cX11_fits, 21, (.iload_n 1, 1)), (cX11_fits, 22, (.iconst 2, 1)), (cX11_fits, 23, (.iload 6, 2)), (cX11_fits, 25, (.imul, 1)), (cX11_fits, 26, (.iadd, 1)), (cX11_fits, 27, (.iaload, 1)), (cX11_fits, 28, (.istore 7, 2)), (cX11_fits, 30, (.aload_n 0, 1)), (cX11_fits, 31, (.iload 7, 2)), (cX11_fits, 33, (.iload_n 3, 1)), (cX11_fits, 34, (.invokevirtual 90, 3)), (cX11_fits, 37, (.ifCond .le 7, 3)), (cX11_fits, 40, (.iconst 1, 1)), (cX11_fits, 41, (.goto 4, 3)), (cX11_fits, 44, (.iconst 0, 1)), (cX11_fits, 45, (.istore 5, 2)), (cX11_fits, 47, (.iload 5, 2)), (cX11_fits, 49, (.ifCond .eq 29, 3)), (cX11_fits, 52, (.aload_n 0, 1)), (cX11_fits, 53, (.iload 7, 2)), (cX11_fits, 55, (.iload_n 3, 1)), (cX11_fits, 56, (.invokevirtual 94, 3)), (cX11_fits, 59, (.i2l, 1)), (cX11_fits, 60, (.aload_n 0, 1)), (cX11_fits, 61, (.getfield 65, 3)), (cX11_fits, 64, (.iload_n 1, 1))]
theorem dkB02decM2_23 : dkL02decM2_23.all (fun q => decide (decode q.1 q.2.1 = .ok q.2.2)) = true := by decide +kernel
theorem dX11_rains_103 : decode cX11_rains 103 = .ok (.iload 8, 2) := dk_at dkB02decM2_23 0 rfl
theorem dX11_rains_105 : decode cX11_rains 105 = .ok (.iload 5, 2) := dk_at dkB02decM2_23 1 rfl
theorem dX11_rains_107 : decode cX11_rains 107 = .ok (.if_icmp .ge 33, 3) := dk_at dkB02decM2_23 2 rfl
theorem dX11_rains_110 : decode cX11_rains 110 = .ok (.aload_n 0, 1) := dk_at dkB02decM2_23 3 rfl
theorem dX11_rains_111 : decode cX11_rains 111 = .ok (.getfield 7, 3) := dk_at dkB02decM2_23 4 rfl
theorem dX11_rains_114 : decode cX11_rains 114 = .ok (.bipush 20, 2) := dk_at dkB02decM2_23 5 rfl
theorem dX11_rains_116 : decode cX11_rains 116 = .ok (.iconst 3, 1) := dk_at dkB02decM2_23 6 rfl
theorem dX11_rains_117 : decode cX11_rains 117 = .ok (.iload 8, 2) := dk_at dkB02decM2_23 7 rfl
theorem dX11_rains_119 : decode cX11_rains 119 = .ok (.imul, 1) := dk_at dkB02decM2_23 8 rfl
theorem dX11_rains_120 : decode cX11_rains 120 = .ok (.iadd, 1) := dk_at dkB02decM2_23 9 rfl
theorem dX11_rains_121 : decode cX11_rains 121 = .ok (.iload_n 1, 1) := dk_at dkB02decM2_23 10 rfl
theorem dX11_rains_122 : decode cX11_rains 122 = .ok (.iadd, 1) := dk_at dkB02decM2_23 11 rfl
theorem dX11_rains_123 : decode cX11_rains 123 = .ok (.aload_n 0, 1) := dk_at dkB02decM2_23 12 rfl
theorem dX11_rains_124 : decode cX11_rains 124 = .ok (.getfield 65, 3) := dk_at dkB02decM2_23 13 rfl
theorem dX11_rains_127 : decode cX11_rains 127 = .ok (.iload 7, 2) := dk_at dkB02decM2_23 14 rfl
theorem dX11_rains_129 : decode cX11_rains 129 = .ok (.iload 8, 2) := dk_at dkB02decM2_23 15 rfl
theorem dX11_rains_131 : decode cX11_rains 131 = .ok (.iadd, 1) := dk_at dkB02decM2_23 16 rfl
theorem dX11_rains_132 : decode cX11_rains 132 = .ok (.iaload, 1) := dk_at dkB02decM2_23 17 rfl
theorem dX11_rains_133 : decode cX11_rains 133 = .ok (.iastore, 1) := dk_at dkB02decM2_23 18 rfl
theorem dX11_rains_134 : decode cX11_rains 134 = .ok (.iinc 8 1, 3) := dk_at dkB02decM2_23 19 rfl
theorem dX11_rains_137 : decode cX11_rains 137 = .ok (.goto (-34), 3) := dk_at dkB02decM2_23 20 rfl
theorem dX11_rains_140 : decode cX11_rains 140 = .ok (.iload 5, 2) := dk_at dkB02decM2_23 21 rfl
theorem dX11_rains_142 : decode cX11_rains 142 = .ok (.ireturn, 1) := dk_at dkB02decM2_23 22 rfl
theorem dX11_fits_0 : decode cX11_fits 0 = .ok (.iconst 1, 1) := dk_at dkB02decM2_23 23 rfl
theorem dX11_fits_1 : decode cX11_fits 1 = .ok (.istore 5, 2) := dk_at dkB02decM2_23 24 rfl
theorem dX11_fits_3 : decode cX11_fits 3 = .ok (.iconst 0, 1) := dk_at dkB02decM2_23 25 rfl
theorem dX11_fits_4 : decode cX11_fits 4 = .ok (.istore 6, 2) := dk_at dkB02decM2_23 26 rfl
theorem dX11_fits_6 : decode cX11_fits 6 = .ok (.iload 6, 2) := dk_at dkB02decM2_23 27 rfl
theorem dX11_fits_8 : decode cX11_fits 8 = .ok (.iload_n 2, 1) := dk_at dkB02decM2_23 28 rfl
theorem dX11_fits_9 : decode cX11_fits 9 = .ok (.if_icmp .ge 105, 3) := dk_at dkB02decM2_23 29 rfl
theorem dX11_fits_12 : decode cX11_fits 12 = .ok (.iload 5, 2) := dk_at dkB02decM2_23 30 rfl
theorem dX11_fits_14 : decode cX11_fits 14 = .ok (.ifCond .eq 100, 3) := dk_at dkB02decM2_23 31 rfl
theorem dX11_fits_17 : decode cX11_fits 17 = .ok (.aload_n 0, 1) := dk_at dkB02decM2_23 32 rfl
theorem dX11_fits_18 : decode cX11_fits 18 = .ok (.getfield 65, 3) := dk_at dkB02decM2_23 33 rfl
theorem dX11_fits_21 : decode cX11_fits 21 = .ok (.iload_n 1, 1) := dk_at dkB02decM2_23 34 rfl
theorem dX11_fits_22 : decode cX11_fits 22 = .ok (.iconst 2, 1) := dk_at dkB02decM2_23 35 rfl
theorem dX11_fits_23 : decode cX11_fits 23 = .ok (.iload 6, 2) := dk_at dkB02decM2_23 36 rfl
theorem dX11_fits_25 : decode cX11_fits 25 = .ok (.imul, 1) := dk_at dkB02decM2_23 37 rfl
theorem dX11_fits_26 : decode cX11_fits 26 = .ok (.iadd, 1) := dk_at dkB02decM2_23 38 rfl
theorem dX11_fits_27 : decode cX11_fits 27 = .ok (.iaload, 1) := dk_at dkB02decM2_23 39 rfl
theorem dX11_fits_28 : decode cX11_fits 28 = .ok (.istore 7, 2) := dk_at dkB02decM2_23 40 rfl
theorem dX11_fits_30 : decode cX11_fits 30 = .ok (.aload_n 0, 1) := dk_at dkB02decM2_23 41 rfl
theorem dX11_fits_31 : decode cX11_fits 31 = .ok (.iload 7, 2) := dk_at dkB02decM2_23 42 rfl
theorem dX11_fits_33 : decode cX11_fits 33 = .ok (.iload_n 3, 1) := dk_at dkB02decM2_23 43 rfl
theorem dX11_fits_34 : decode cX11_fits 34 = .ok (.invokevirtual 90, 3) := dk_at dkB02decM2_23 44 rfl
theorem dX11_fits_37 : decode cX11_fits 37 = .ok (.ifCond .le 7, 3) := dk_at dkB02decM2_23 45 rfl
theorem dX11_fits_40 : decode cX11_fits 40 = .ok (.iconst 1, 1) := dk_at dkB02decM2_23 46 rfl
theorem dX11_fits_41 : decode cX11_fits 41 = .ok (.goto 4, 3) := dk_at dkB02decM2_23 47 rfl
theorem dX11_fits_44 : decode cX11_fits 44 = .ok (.iconst 0, 1) := dk_at dkB02decM2_23 48 rfl
theorem dX11_fits_45 : decode cX11_fits 45 = .ok (.istore 5, 2) := dk_at dkB02decM2_23 49 rfl
theorem dX11_fits_47 : decode cX11_fits 47 = .ok (.iload 5, 2) := dk_at dkB02decM2_23 50 rfl
theorem dX11_fits_49 : decode cX11_fits 49 = .ok (.ifCond .eq 29, 3) := dk_at dkB02decM2_23 51 rfl
theorem dX11_fits_52 : decode cX11_fits 52 = .ok (.aload_n 0, 1) := dk_at dkB02decM2_23 52 rfl
theorem dX11_fits_53 : decode cX11_fits 53 = .ok (.iload 7, 2) := dk_at dkB02decM2_23 53 rfl
theorem dX11_fits_55 : decode cX11_fits 55 = .ok (.iload_n 3, 1) := dk_at dkB02decM2_23 54 rfl
theorem dX11_fits_56 : decode cX11_fits 56 = .ok (.invokevirtual 94, 3) := dk_at dkB02decM2_23 55 rfl
theorem dX11_fits_59 : decode cX11_fits 59 = .ok (.i2l, 1) := dk_at dkB02decM2_23 56 rfl
theorem dX11_fits_60 : decode cX11_fits 60 = .ok (.aload_n 0, 1) := dk_at dkB02decM2_23 57 rfl
theorem dX11_fits_61 : decode cX11_fits 61 = .ok (.getfield 65, 3) := dk_at dkB02decM2_23 58 rfl
theorem dX11_fits_64 : decode cX11_fits 64 = .ok (.iload_n 1, 1) := dk_at dkB02decM2_23 59 rfl
noncomputable def dkL02decM2_24 : List (ByteArray × Nat × Instr × Nat) := [(cX11_fits, 65, (.iconst 2, 1)), (cX11_fits, 66, (.iload 6, 2)), (cX11_fits, 68, (.imul, 1)), (cX11_fits, 69, (.iadd, 1)), (cX11_fits, 70, (.iconst 1, 1)), (cX11_fits, 71, (.iadd, 1)), (cX11_fits, 72, (.iaload, 1)), (cX11_fits, 73, (.i2l, 1)), (cX11_fits, 74, (.lsub, 1)), (cX11_fits, 75, (.goto 4, 3)), (cX11_fits, 78, (.lconst 0, 1)), (cX11_fits, 79, (.lstore 8, 2)), (cX11_fits, 81, (.iload 5, 2)), (cX11_fits, 83, (.ifCond .eq 22, 3)), (cX11_fits, 86, (.lload 8, 2)), (cX11_fits, 88, (.iload 4, 2)), (cX11_fits, 90, (.ineg, 1)), (cX11_fits, 91, (.i2l, 1)), (cX11_fits, 92, (.iload 4, 2)), (cX11_fits, 94, (.i2l, 1)), (cX11_fits, 95, (.invokestatic 70, 3)), (cX11_fits, 98, (.ifCond .eq 7, 3)), (cX11_fits, 101, (.iconst 1, 1)), (cX11_fits, 102, (.goto 4, 3)), (cX11_fits, 105, (.iconst 0, 1)), (cX11_fits, 106, (.istore 5, 2)), (cX11_fits, 108, (.iinc 6 1, 3)), (cX11_fits, 111, (.goto (-105), 3)), (cX11_fits, 114, (.iload 5, 2)), (cX11_fits, 116, (.ireturn, 1)), (cX11_learn, 0, (.iload_n 1, 1)), (cX11_learn, 1, (.iload_n 2, 1)), (cX11_learn, 2, (.invokestatic 276, 3)), (cX11_learn, 5, (.ifCond .eq 29, 3)), (cX11_learn, 8, (.iload 4, 2)), (cX11_learn, 10, (.i2l, 1)), (cX11_learn, 11, (.lconst 1, 1)), (cX11_learn, 12, (.ldc2_w 104, 3)), (cX11_learn, 15, (.invokestatic 70, 3)), (cX11_learn, 18, (.ifCond .eq 16, 3)), (cX11_learn, 21, (.iload 5, 2)), (cX11_learn, 23, (.i2l, 1)), (cX11_learn, 24, (.lconst 0, 1)), (cX11_learn, 25, (.ldc2_w 74, 3)), (cX11_learn, 28, (.invokestatic 70, 3)), (cX11_learn, 31, (.ifCond .ne 5, 3)), (cX11_learn, 34, (.iconst (-1), 1)), (cX11_learn, 35, (.ireturn, 1)), (cX11_learn, 36, (.aload_n 0, 1)), (cX11_learn, 37, (.iload_n 1, 1)), (cX11_learn, 38, (.iload_n 2, 1)), (cX11_learn, 39, (.iload_n 3, 1)), (cX11_learn, 40, (.iconst 2, 1)), (cX11_learn, 41, (.iload 4, 2)), (cX11_learn, 43, (.imul, 1)), (cX11_learn, 44, (.invokevirtual 279, 3)), (cX11_learn, 47, (.istore 6, 2)), (cX11_learn, 49, (.iload 6, 2)), (cX11_learn, 51, (.ifCond .ge 6, 3)), (cX11_learn, 54, (.iload 6, 2))]
theorem dkB02decM2_24 : dkL02decM2_24.all (fun q => decide (decode q.1 q.2.1 = .ok q.2.2)) = true := by decide +kernel
theorem dX11_fits_65 : decode cX11_fits 65 = .ok (.iconst 2, 1) := dk_at dkB02decM2_24 0 rfl
theorem dX11_fits_66 : decode cX11_fits 66 = .ok (.iload 6, 2) := dk_at dkB02decM2_24 1 rfl
theorem dX11_fits_68 : decode cX11_fits 68 = .ok (.imul, 1) := dk_at dkB02decM2_24 2 rfl
theorem dX11_fits_69 : decode cX11_fits 69 = .ok (.iadd, 1) := dk_at dkB02decM2_24 3 rfl
theorem dX11_fits_70 : decode cX11_fits 70 = .ok (.iconst 1, 1) := dk_at dkB02decM2_24 4 rfl
theorem dX11_fits_71 : decode cX11_fits 71 = .ok (.iadd, 1) := dk_at dkB02decM2_24 5 rfl
theorem dX11_fits_72 : decode cX11_fits 72 = .ok (.iaload, 1) := dk_at dkB02decM2_24 6 rfl
theorem dX11_fits_73 : decode cX11_fits 73 = .ok (.i2l, 1) := dk_at dkB02decM2_24 7 rfl
theorem dX11_fits_74 : decode cX11_fits 74 = .ok (.lsub, 1) := dk_at dkB02decM2_24 8 rfl
theorem dX11_fits_75 : decode cX11_fits 75 = .ok (.goto 4, 3) := dk_at dkB02decM2_24 9 rfl
theorem dX11_fits_78 : decode cX11_fits 78 = .ok (.lconst 0, 1) := dk_at dkB02decM2_24 10 rfl
theorem dX11_fits_79 : decode cX11_fits 79 = .ok (.lstore 8, 2) := dk_at dkB02decM2_24 11 rfl
theorem dX11_fits_81 : decode cX11_fits 81 = .ok (.iload 5, 2) := dk_at dkB02decM2_24 12 rfl
theorem dX11_fits_83 : decode cX11_fits 83 = .ok (.ifCond .eq 22, 3) := dk_at dkB02decM2_24 13 rfl
theorem dX11_fits_86 : decode cX11_fits 86 = .ok (.lload 8, 2) := dk_at dkB02decM2_24 14 rfl
theorem dX11_fits_88 : decode cX11_fits 88 = .ok (.iload 4, 2) := dk_at dkB02decM2_24 15 rfl
theorem dX11_fits_90 : decode cX11_fits 90 = .ok (.ineg, 1) := dk_at dkB02decM2_24 16 rfl
theorem dX11_fits_91 : decode cX11_fits 91 = .ok (.i2l, 1) := dk_at dkB02decM2_24 17 rfl
theorem dX11_fits_92 : decode cX11_fits 92 = .ok (.iload 4, 2) := dk_at dkB02decM2_24 18 rfl
theorem dX11_fits_94 : decode cX11_fits 94 = .ok (.i2l, 1) := dk_at dkB02decM2_24 19 rfl
theorem dX11_fits_95 : decode cX11_fits 95 = .ok (.invokestatic 70, 3) := dk_at dkB02decM2_24 20 rfl
theorem dX11_fits_98 : decode cX11_fits 98 = .ok (.ifCond .eq 7, 3) := dk_at dkB02decM2_24 21 rfl
theorem dX11_fits_101 : decode cX11_fits 101 = .ok (.iconst 1, 1) := dk_at dkB02decM2_24 22 rfl
theorem dX11_fits_102 : decode cX11_fits 102 = .ok (.goto 4, 3) := dk_at dkB02decM2_24 23 rfl
theorem dX11_fits_105 : decode cX11_fits 105 = .ok (.iconst 0, 1) := dk_at dkB02decM2_24 24 rfl
theorem dX11_fits_106 : decode cX11_fits 106 = .ok (.istore 5, 2) := dk_at dkB02decM2_24 25 rfl
theorem dX11_fits_108 : decode cX11_fits 108 = .ok (.iinc 6 1, 3) := dk_at dkB02decM2_24 26 rfl
theorem dX11_fits_111 : decode cX11_fits 111 = .ok (.goto (-105), 3) := dk_at dkB02decM2_24 27 rfl
theorem dX11_fits_114 : decode cX11_fits 114 = .ok (.iload 5, 2) := dk_at dkB02decM2_24 28 rfl
theorem dX11_fits_116 : decode cX11_fits 116 = .ok (.ireturn, 1) := dk_at dkB02decM2_24 29 rfl
theorem dX11_learn_0 : decode cX11_learn 0 = .ok (.iload_n 1, 1) := dk_at dkB02decM2_24 30 rfl
theorem dX11_learn_1 : decode cX11_learn 1 = .ok (.iload_n 2, 1) := dk_at dkB02decM2_24 31 rfl
theorem dX11_learn_2 : decode cX11_learn 2 = .ok (.invokestatic 276, 3) := dk_at dkB02decM2_24 32 rfl
theorem dX11_learn_5 : decode cX11_learn 5 = .ok (.ifCond .eq 29, 3) := dk_at dkB02decM2_24 33 rfl
theorem dX11_learn_8 : decode cX11_learn 8 = .ok (.iload 4, 2) := dk_at dkB02decM2_24 34 rfl
theorem dX11_learn_10 : decode cX11_learn 10 = .ok (.i2l, 1) := dk_at dkB02decM2_24 35 rfl
theorem dX11_learn_11 : decode cX11_learn 11 = .ok (.lconst 1, 1) := dk_at dkB02decM2_24 36 rfl
theorem dX11_learn_12 : decode cX11_learn 12 = .ok (.ldc2_w 104, 3) := dk_at dkB02decM2_24 37 rfl
theorem dX11_learn_15 : decode cX11_learn 15 = .ok (.invokestatic 70, 3) := dk_at dkB02decM2_24 38 rfl
theorem dX11_learn_18 : decode cX11_learn 18 = .ok (.ifCond .eq 16, 3) := dk_at dkB02decM2_24 39 rfl
theorem dX11_learn_21 : decode cX11_learn 21 = .ok (.iload 5, 2) := dk_at dkB02decM2_24 40 rfl
theorem dX11_learn_23 : decode cX11_learn 23 = .ok (.i2l, 1) := dk_at dkB02decM2_24 41 rfl
theorem dX11_learn_24 : decode cX11_learn 24 = .ok (.lconst 0, 1) := dk_at dkB02decM2_24 42 rfl
theorem dX11_learn_25 : decode cX11_learn 25 = .ok (.ldc2_w 74, 3) := dk_at dkB02decM2_24 43 rfl
theorem dX11_learn_28 : decode cX11_learn 28 = .ok (.invokestatic 70, 3) := dk_at dkB02decM2_24 44 rfl
theorem dX11_learn_31 : decode cX11_learn 31 = .ok (.ifCond .ne 5, 3) := dk_at dkB02decM2_24 45 rfl
theorem dX11_learn_34 : decode cX11_learn 34 = .ok (.iconst (-1), 1) := dk_at dkB02decM2_24 46 rfl
theorem dX11_learn_35 : decode cX11_learn 35 = .ok (.ireturn, 1) := dk_at dkB02decM2_24 47 rfl
theorem dX11_learn_36 : decode cX11_learn 36 = .ok (.aload_n 0, 1) := dk_at dkB02decM2_24 48 rfl
theorem dX11_learn_37 : decode cX11_learn 37 = .ok (.iload_n 1, 1) := dk_at dkB02decM2_24 49 rfl
theorem dX11_learn_38 : decode cX11_learn 38 = .ok (.iload_n 2, 1) := dk_at dkB02decM2_24 50 rfl
theorem dX11_learn_39 : decode cX11_learn 39 = .ok (.iload_n 3, 1) := dk_at dkB02decM2_24 51 rfl
theorem dX11_learn_40 : decode cX11_learn 40 = .ok (.iconst 2, 1) := dk_at dkB02decM2_24 52 rfl
theorem dX11_learn_41 : decode cX11_learn 41 = .ok (.iload 4, 2) := dk_at dkB02decM2_24 53 rfl
theorem dX11_learn_43 : decode cX11_learn 43 = .ok (.imul, 1) := dk_at dkB02decM2_24 54 rfl
theorem dX11_learn_44 : decode cX11_learn 44 = .ok (.invokevirtual 279, 3) := dk_at dkB02decM2_24 55 rfl
theorem dX11_learn_47 : decode cX11_learn 47 = .ok (.istore 6, 2) := dk_at dkB02decM2_24 56 rfl
theorem dX11_learn_49 : decode cX11_learn 49 = .ok (.iload 6, 2) := dk_at dkB02decM2_24 57 rfl
theorem dX11_learn_51 : decode cX11_learn 51 = .ok (.ifCond .ge 6, 3) := dk_at dkB02decM2_24 58 rfl
theorem dX11_learn_54 : decode cX11_learn 54 = .ok (.iload 6, 2) := dk_at dkB02decM2_24 59 rfl
noncomputable def dkL02decM2_25 : List (ByteArray × Nat × Instr × Nat) := [(cX11_learn, 56, (.ireturn, 1)), (cX11_learn, 57, (.bipush 24, 2)), (cX11_learn, 59, (.iload_n 1, 1)), (cX11_learn, 60, (.imul, 1)), (cX11_learn, 61, (.iload_n 3, 1)), (cX11_learn, 62, (.iadd, 1)), (cX11_learn, 63, (.istore 7, 2)), (cX11_learn, 65, (.iconst 0, 1)), (cX11_learn, 66, (.istore 8, 2)), (cX11_learn, 68, (.iload 8, 2)), (cX11_learn, 70, (.iload 4, 2)), (cX11_learn, 72, (.if_icmp .ge 30, 3)), (cX11_learn, 75, (.aload_n 0, 1)), (cX11_learn, 76, (.getfield 65, 3)), (cX11_learn, 79, (.iload 7, 2)), (cX11_learn, 81, (.iconst 2, 1)), (cX11_learn, 82, (.iload 8, 2)), (cX11_learn, 84, (.imul, 1)), (cX11_learn, 85, (.iadd, 1)), (cX11_learn, 86, (.iaload, 1)), (cX11_learn, 87, (.invokestatic 80, 3)), (cX11_learn, 90, (.ifCond .ne 6, 3)), (cX11_learn, 93, (.bipush (-2), 2)), (cX11_learn, 95, (.ireturn, 1)), (cX11_learn, 96, (.iinc 8 1, 3)), (cX11_learn, 99, (.goto (-31), 3)), (cX11_learn, 102, (.iconst 0, 1)), (cX11_learn, 103, (.istore 8, 2)), (cX11_learn, 105, (.iconst 1, 1)), (cX11_learn, 106, (.istore 9, 2)), (cX11_learn, 108, (.iload 9, 2)), (cX11_learn, 110, (.iconst 5, 1)), (cX11_learn, 111, (.if_icmp .gt 39, 3)), (cX11_learn, 114, (.iload 8, 2)), (cX11_learn, 116, (.aload_n 0, 1)), (cX11_learn, 117, (.iload 7, 2)), (cX11_learn, 119, (.iload 4, 2)), (cX11_learn, 121, (.iload 9, 2)), (cX11_learn, 123, (.iload 5, 2)), (cX11_learn, 125, (.invokevirtual 350, 3)), (cX11_learn, 128, (.ifCond .eq 12, 3)), (cX11_learn, 131, (.iconst 1, 1)), (cX11_learn, 132, (.iload 9, 2)), (cX11_learn, 134, (.iconst 1, 1)), (cX11_learn, 135, (.isub, 1)), (cX11_learn, 136, (.ishl, 1)), (cX11_learn, 137, (.goto 4, 3)), (cX11_learn, 140, (.iconst 0, 1)), (cX11_learn, 141, (.ior, 1)), (cX11_learn, 142, (.istore 8, 2)), (cX11_learn, 144, (.iinc 9 1, 3)), (cX11_learn, 147, (.goto (-39), 3)), (cX11_learn, 150, (.iload 8, 2)), (cX11_learn, 152, (.ifCond .ne 8, 3)), (cX11_learn, 155, (.bipush (-4), 2)), (cX11_learn, 157, (.goto 5, 3)), (cX11_learn, 160, (.iload 8, 2)), (cX11_learn, 162, (.ireturn, 1))]
theorem dkB02decM2_25 : dkL02decM2_25.all (fun q => decide (decode q.1 q.2.1 = .ok q.2.2)) = true := by decide +kernel
theorem dX11_learn_56 : decode cX11_learn 56 = .ok (.ireturn, 1) := dk_at dkB02decM2_25 0 rfl
theorem dX11_learn_57 : decode cX11_learn 57 = .ok (.bipush 24, 2) := dk_at dkB02decM2_25 1 rfl
theorem dX11_learn_59 : decode cX11_learn 59 = .ok (.iload_n 1, 1) := dk_at dkB02decM2_25 2 rfl
theorem dX11_learn_60 : decode cX11_learn 60 = .ok (.imul, 1) := dk_at dkB02decM2_25 3 rfl
theorem dX11_learn_61 : decode cX11_learn 61 = .ok (.iload_n 3, 1) := dk_at dkB02decM2_25 4 rfl
theorem dX11_learn_62 : decode cX11_learn 62 = .ok (.iadd, 1) := dk_at dkB02decM2_25 5 rfl
theorem dX11_learn_63 : decode cX11_learn 63 = .ok (.istore 7, 2) := dk_at dkB02decM2_25 6 rfl
theorem dX11_learn_65 : decode cX11_learn 65 = .ok (.iconst 0, 1) := dk_at dkB02decM2_25 7 rfl
theorem dX11_learn_66 : decode cX11_learn 66 = .ok (.istore 8, 2) := dk_at dkB02decM2_25 8 rfl
theorem dX11_learn_68 : decode cX11_learn 68 = .ok (.iload 8, 2) := dk_at dkB02decM2_25 9 rfl
theorem dX11_learn_70 : decode cX11_learn 70 = .ok (.iload 4, 2) := dk_at dkB02decM2_25 10 rfl
theorem dX11_learn_72 : decode cX11_learn 72 = .ok (.if_icmp .ge 30, 3) := dk_at dkB02decM2_25 11 rfl
theorem dX11_learn_75 : decode cX11_learn 75 = .ok (.aload_n 0, 1) := dk_at dkB02decM2_25 12 rfl
theorem dX11_learn_76 : decode cX11_learn 76 = .ok (.getfield 65, 3) := dk_at dkB02decM2_25 13 rfl
theorem dX11_learn_79 : decode cX11_learn 79 = .ok (.iload 7, 2) := dk_at dkB02decM2_25 14 rfl
theorem dX11_learn_81 : decode cX11_learn 81 = .ok (.iconst 2, 1) := dk_at dkB02decM2_25 15 rfl
theorem dX11_learn_82 : decode cX11_learn 82 = .ok (.iload 8, 2) := dk_at dkB02decM2_25 16 rfl
theorem dX11_learn_84 : decode cX11_learn 84 = .ok (.imul, 1) := dk_at dkB02decM2_25 17 rfl
theorem dX11_learn_85 : decode cX11_learn 85 = .ok (.iadd, 1) := dk_at dkB02decM2_25 18 rfl
theorem dX11_learn_86 : decode cX11_learn 86 = .ok (.iaload, 1) := dk_at dkB02decM2_25 19 rfl
theorem dX11_learn_87 : decode cX11_learn 87 = .ok (.invokestatic 80, 3) := dk_at dkB02decM2_25 20 rfl
theorem dX11_learn_90 : decode cX11_learn 90 = .ok (.ifCond .ne 6, 3) := dk_at dkB02decM2_25 21 rfl
theorem dX11_learn_93 : decode cX11_learn 93 = .ok (.bipush (-2), 2) := dk_at dkB02decM2_25 22 rfl
theorem dX11_learn_95 : decode cX11_learn 95 = .ok (.ireturn, 1) := dk_at dkB02decM2_25 23 rfl
theorem dX11_learn_96 : decode cX11_learn 96 = .ok (.iinc 8 1, 3) := dk_at dkB02decM2_25 24 rfl
theorem dX11_learn_99 : decode cX11_learn 99 = .ok (.goto (-31), 3) := dk_at dkB02decM2_25 25 rfl
theorem dX11_learn_102 : decode cX11_learn 102 = .ok (.iconst 0, 1) := dk_at dkB02decM2_25 26 rfl
theorem dX11_learn_103 : decode cX11_learn 103 = .ok (.istore 8, 2) := dk_at dkB02decM2_25 27 rfl
theorem dX11_learn_105 : decode cX11_learn 105 = .ok (.iconst 1, 1) := dk_at dkB02decM2_25 28 rfl
theorem dX11_learn_106 : decode cX11_learn 106 = .ok (.istore 9, 2) := dk_at dkB02decM2_25 29 rfl
theorem dX11_learn_108 : decode cX11_learn 108 = .ok (.iload 9, 2) := dk_at dkB02decM2_25 30 rfl
theorem dX11_learn_110 : decode cX11_learn 110 = .ok (.iconst 5, 1) := dk_at dkB02decM2_25 31 rfl
theorem dX11_learn_111 : decode cX11_learn 111 = .ok (.if_icmp .gt 39, 3) := dk_at dkB02decM2_25 32 rfl
theorem dX11_learn_114 : decode cX11_learn 114 = .ok (.iload 8, 2) := dk_at dkB02decM2_25 33 rfl
theorem dX11_learn_116 : decode cX11_learn 116 = .ok (.aload_n 0, 1) := dk_at dkB02decM2_25 34 rfl
theorem dX11_learn_117 : decode cX11_learn 117 = .ok (.iload 7, 2) := dk_at dkB02decM2_25 35 rfl
theorem dX11_learn_119 : decode cX11_learn 119 = .ok (.iload 4, 2) := dk_at dkB02decM2_25 36 rfl
theorem dX11_learn_121 : decode cX11_learn 121 = .ok (.iload 9, 2) := dk_at dkB02decM2_25 37 rfl
theorem dX11_learn_123 : decode cX11_learn 123 = .ok (.iload 5, 2) := dk_at dkB02decM2_25 38 rfl
theorem dX11_learn_125 : decode cX11_learn 125 = .ok (.invokevirtual 350, 3) := dk_at dkB02decM2_25 39 rfl
theorem dX11_learn_128 : decode cX11_learn 128 = .ok (.ifCond .eq 12, 3) := dk_at dkB02decM2_25 40 rfl
theorem dX11_learn_131 : decode cX11_learn 131 = .ok (.iconst 1, 1) := dk_at dkB02decM2_25 41 rfl
theorem dX11_learn_132 : decode cX11_learn 132 = .ok (.iload 9, 2) := dk_at dkB02decM2_25 42 rfl
theorem dX11_learn_134 : decode cX11_learn 134 = .ok (.iconst 1, 1) := dk_at dkB02decM2_25 43 rfl
theorem dX11_learn_135 : decode cX11_learn 135 = .ok (.isub, 1) := dk_at dkB02decM2_25 44 rfl
theorem dX11_learn_136 : decode cX11_learn 136 = .ok (.ishl, 1) := dk_at dkB02decM2_25 45 rfl
theorem dX11_learn_137 : decode cX11_learn 137 = .ok (.goto 4, 3) := dk_at dkB02decM2_25 46 rfl
theorem dX11_learn_140 : decode cX11_learn 140 = .ok (.iconst 0, 1) := dk_at dkB02decM2_25 47 rfl
theorem dX11_learn_141 : decode cX11_learn 141 = .ok (.ior, 1) := dk_at dkB02decM2_25 48 rfl
theorem dX11_learn_142 : decode cX11_learn 142 = .ok (.istore 8, 2) := dk_at dkB02decM2_25 49 rfl
theorem dX11_learn_144 : decode cX11_learn 144 = .ok (.iinc 9 1, 3) := dk_at dkB02decM2_25 50 rfl
theorem dX11_learn_147 : decode cX11_learn 147 = .ok (.goto (-39), 3) := dk_at dkB02decM2_25 51 rfl
theorem dX11_learn_150 : decode cX11_learn 150 = .ok (.iload 8, 2) := dk_at dkB02decM2_25 52 rfl
theorem dX11_learn_152 : decode cX11_learn 152 = .ok (.ifCond .ne 8, 3) := dk_at dkB02decM2_25 53 rfl
theorem dX11_learn_155 : decode cX11_learn 155 = .ok (.bipush (-4), 2) := dk_at dkB02decM2_25 54 rfl
theorem dX11_learn_157 : decode cX11_learn 157 = .ok (.goto 5, 3) := dk_at dkB02decM2_25 55 rfl
theorem dX11_learn_160 : decode cX11_learn 160 = .ok (.iload 8, 2) := dk_at dkB02decM2_25 56 rfl
theorem dX11_learn_162 : decode cX11_learn 162 = .ok (.ireturn, 1) := dk_at dkB02decM2_25 57 rfl
