theorem dX11_keepFirst_35 : decode cX11_keepFirst 35 = .ok (.iload_n 1, 1) := by decide +kernel
theorem dX11_keepFirst_36 : decode cX11_keepFirst 36 = .ok (.aload_n 0, 1) := by decide +kernel
theorem dX11_keepFirst_37 : decode cX11_keepFirst 37 = .ok (.getfield 19, 3) := by decide +kernel
theorem dX11_keepFirst_40 : decode cX11_keepFirst 40 = .ok (.iload_n 1, 1) := by decide +kernel
theorem dX11_keepFirst_41 : decode cX11_keepFirst 41 = .ok (.iaload, 1) := by decide +kernel
theorem dX11_keepFirst_42 : decode cX11_keepFirst 42 = .ok (.iastore, 1) := by decide +kernel
theorem dX11_keepFirst_43 : decode cX11_keepFirst 43 = .ok (.iconst 0, 1) := by decide +kernel
theorem dX11_keepFirst_44 : decode cX11_keepFirst 44 = .ok (.istore_n 2, 1) := by decide +kernel
theorem dX11_keepFirst_45 : decode cX11_keepFirst 45 = .ok (.iload_n 2, 1) := by decide +kernel
theorem dX11_keepFirst_46 : decode cX11_keepFirst 46 = .ok (.bipush 24, 2) := by decide +kernel
theorem dX11_keepFirst_48 : decode cX11_keepFirst 48 = .ok (.if_icmp .ge 26, 3) := by decide +kernel
theorem dX11_keepFirst_51 : decode cX11_keepFirst 51 = .ok (.aload_n 0, 1) := by decide +kernel
theorem dX11_keepFirst_52 : decode cX11_keepFirst 52 = .ok (.getfield 44, 3) := by decide +kernel
theorem dX11_keepFirst_55 : decode cX11_keepFirst 55 = .ok (.bipush 24, 2) := by decide +kernel
theorem dX11_keepFirst_57 : decode cX11_keepFirst 57 = .ok (.iload_n 1, 1) := by decide +kernel
theorem dX11_keepFirst_58 : decode cX11_keepFirst 58 = .ok (.imul, 1) := by decide +kernel
theorem dX11_keepFirst_59 : decode cX11_keepFirst 59 = .ok (.iload_n 2, 1) := by decide +kernel
theorem dX11_keepFirst_60 : decode cX11_keepFirst 60 = .ok (.iadd, 1) := by decide +kernel
theorem dX11_keepFirst_61 : decode cX11_keepFirst 61 = .ok (.aload_n 0, 1) := by decide +kernel
theorem dX11_keepFirst_62 : decode cX11_keepFirst 62 = .ok (.iload_n 1, 1) := by decide +kernel
theorem dX11_keepFirst_63 : decode cX11_keepFirst 63 = .ok (.iload_n 2, 1) := by decide +kernel
theorem dX11_keepFirst_64 : decode cX11_keepFirst 64 = .ok (.invokevirtual 243, 3) := by decide +kernel
theorem dX11_keepFirst_67 : decode cX11_keepFirst 67 = .ok (.lastore, 1) := by decide +kernel
theorem dX11_keepFirst_68 : decode cX11_keepFirst 68 = .ok (.iinc 2 1, 3) := by decide +kernel
theorem dX11_keepFirst_71 : decode cX11_keepFirst 71 = .ok (.goto (-26), 3) := by decide +kernel
theorem dX11_keepFirst_74 : decode cX11_keepFirst 74 = .ok (.iinc 1 1, 3) := by decide +kernel
theorem dX11_keepFirst_77 : decode cX11_keepFirst 77 = .ok (.goto (-54), 3) := by decide +kernel
theorem dX11_keepFirst_80 : decode cX11_keepFirst 80 = .ok (.return_, 1) := by decide +kernel
theorem dX11_together_0 : decode cX11_together 0 = .ok (.lconst 0, 1) := by decide +kernel
theorem dX11_together_1 : decode cX11_together 1 = .ok (.lstore_n 3, 1) := by decide +kernel
theorem dX11_together_2 : decode cX11_together 2 = .ok (.iconst 0, 1) := by decide +kernel
theorem dX11_together_3 : decode cX11_together 3 = .ok (.istore 5, 2) := by decide +kernel
theorem dX11_together_5 : decode cX11_together 5 = .ok (.iload 5, 2) := by decide +kernel
theorem dX11_together_7 : decode cX11_together 7 = .ok (.bipush 24, 2) := by decide +kernel
theorem dX11_together_9 : decode cX11_together 9 = .ok (.if_icmp .ge 32, 3) := by decide +kernel
theorem dX11_together_12 : decode cX11_together 12 = .ok (.lload_n 3, 1) := by decide +kernel
theorem dX11_together_13 : decode cX11_together 13 = .ok (.aload_n 0, 1) := by decide +kernel
theorem dX11_together_14 : decode cX11_together 14 = .ok (.getfield 44, 3) := by decide +kernel
theorem dX11_together_17 : decode cX11_together 17 = .ok (.bipush 24, 2) := by decide +kernel
theorem dX11_together_19 : decode cX11_together 19 = .ok (.iload_n 1, 1) := by decide +kernel
theorem dX11_together_20 : decode cX11_together 20 = .ok (.imul, 1) := by decide +kernel
theorem dX11_together_21 : decode cX11_together 21 = .ok (.iload 5, 2) := by decide +kernel
theorem dX11_together_23 : decode cX11_together 23 = .ok (.iadd, 1) := by decide +kernel
theorem dX11_together_24 : decode cX11_together 24 = .ok (.laload, 1) := by decide +kernel
theorem dX11_together_25 : decode cX11_together 25 = .ok (.aload_n 0, 1) := by decide +kernel
theorem dX11_together_26 : decode cX11_together 26 = .ok (.iload_n 2, 1) := by decide +kernel
theorem dX11_together_27 : decode cX11_together 27 = .ok (.iload 5, 2) := by decide +kernel
theorem dX11_together_29 : decode cX11_together 29 = .ok (.invokevirtual 243, 3) := by decide +kernel
theorem dX11_together_32 : decode cX11_together 32 = .ok (.lmul, 1) := by decide +kernel
theorem dX11_together_33 : decode cX11_together 33 = .ok (.ladd, 1) := by decide +kernel
theorem dX11_together_34 : decode cX11_together 34 = .ok (.lstore_n 3, 1) := by decide +kernel
theorem dX11_together_35 : decode cX11_together 35 = .ok (.iinc 5 1, 3) := by decide +kernel
theorem dX11_together_38 : decode cX11_together 38 = .ok (.goto (-33), 3) := by decide +kernel
theorem dX11_together_41 : decode cX11_together 41 = .ok (.lload_n 3, 1) := by decide +kernel
theorem dX11_together_42 : decode cX11_together 42 = .ok (.lreturn, 1) := by decide +kernel
theorem dX11_oneYear_0 : decode cX11_oneYear 0 = .ok (.aload_n 0, 1) := by decide +kernel
theorem dX11_oneYear_1 : decode cX11_oneYear 1 = .ok (.iconst 0, 1) := by decide +kernel
theorem dX11_oneYear_2 : decode cX11_oneYear 2 = .ok (.iload_n 1, 1) := by decide +kernel
theorem dX11_oneYear_3 : decode cX11_oneYear 3 = .ok (.invokevirtual 174, 3) := by decide +kernel
theorem dX11_oneYear_6 : decode cX11_oneYear 6 = .ok (.ifCond .eq 22, 3) := by decide +kernel
theorem dX11_oneYear_9 : decode cX11_oneYear 9 = .ok (.aload_n 0, 1) := by decide +kernel
theorem dX11_oneYear_10 : decode cX11_oneYear 10 = .ok (.iconst 1, 1) := by decide +kernel
theorem dX11_oneYear_11 : decode cX11_oneYear 11 = .ok (.iload_n 2, 1) := by decide +kernel
theorem dX11_oneYear_12 : decode cX11_oneYear 12 = .ok (.invokevirtual 174, 3) := by decide +kernel
theorem dX11_oneYear_15 : decode cX11_oneYear 15 = .ok (.ifCond .eq 13, 3) := by decide +kernel
theorem dX11_oneYear_18 : decode cX11_oneYear 18 = .ok (.iload_n 3, 1) := by decide +kernel
theorem dX11_oneYear_19 : decode cX11_oneYear 19 = .ok (.i2l, 1) := by decide +kernel
theorem dX11_oneYear_20 : decode cX11_oneYear 20 = .ok (.lconst 0, 1) := by decide +kernel
theorem dX11_oneYear_21 : decode cX11_oneYear 21 = .ok (.lconst 1, 1) := by decide +kernel
theorem dX11_oneYear_22 : decode cX11_oneYear 22 = .ok (.invokestatic 70, 3) := by decide +kernel
theorem dX11_oneYear_25 : decode cX11_oneYear 25 = .ok (.ifCond .ne 7, 3) := by decide +kernel
theorem dX11_oneYear_28 : decode cX11_oneYear 28 = .ok (.ldc2_w 236, 3) := by decide +kernel
theorem dX11_oneYear_31 : decode cX11_oneYear 31 = .ok (.lreturn, 1) := by decide +kernel
theorem dX11_oneYear_32 : decode cX11_oneYear 32 = .ok (.aload_n 0, 1) := by decide +kernel
theorem dX11_oneYear_33 : decode cX11_oneYear 33 = .ok (.iconst 0, 1) := by decide +kernel
theorem dX11_oneYear_34 : decode cX11_oneYear 34 = .ok (.iload_n 1, 1) := by decide +kernel
theorem dX11_oneYear_35 : decode cX11_oneYear 35 = .ok (.invokevirtual 177, 3) := by decide +kernel
theorem dX11_oneYear_38 : decode cX11_oneYear 38 = .ok (.iconst 2, 1) := by decide +kernel
theorem dX11_oneYear_39 : decode cX11_oneYear 39 = .ok (.if_icmp .eq 13, 3) := by decide +kernel
theorem dX11_oneYear_42 : decode cX11_oneYear 42 = .ok (.aload_n 0, 1) := by decide +kernel
theorem dX11_oneYear_43 : decode cX11_oneYear 43 = .ok (.iconst 1, 1) := by decide +kernel
theorem dX11_oneYear_44 : decode cX11_oneYear 44 = .ok (.iload_n 2, 1) := by decide +kernel
theorem dX11_oneYear_45 : decode cX11_oneYear 45 = .ok (.invokevirtual 177, 3) := by decide +kernel
theorem dX11_oneYear_48 : decode cX11_oneYear 48 = .ok (.iconst 2, 1) := by decide +kernel
theorem dX11_oneYear_49 : decode cX11_oneYear 49 = .ok (.if_icmp .ne 7, 3) := by decide +kernel
theorem dX11_oneYear_52 : decode cX11_oneYear 52 = .ok (.ldc2_w 288, 3) := by decide +kernel
theorem dX11_oneYear_55 : decode cX11_oneYear 55 = .ok (.lreturn, 1) := by decide +kernel
theorem dX11_oneYear_56 : decode cX11_oneYear 56 = .ok (.aload_n 0, 1) := by decide +kernel
theorem dX11_oneYear_57 : decode cX11_oneYear 57 = .ok (.invokevirtual 290, 3) := by decide +kernel
theorem dX11_oneYear_60 : decode cX11_oneYear 60 = .ok (.aload_n 0, 1) := by decide +kernel
theorem dX11_oneYear_61 : decode cX11_oneYear 61 = .ok (.iload_n 1, 1) := by decide +kernel
theorem dX11_oneYear_62 : decode cX11_oneYear 62 = .ok (.invokevirtual 206, 3) := by decide +kernel
theorem dX11_oneYear_65 : decode cX11_oneYear 65 = .ok (.istore 4, 2) := by decide +kernel
theorem dX11_oneYear_67 : decode cX11_oneYear 67 = .ok (.aload_n 0, 1) := by decide +kernel
theorem dX11_oneYear_68 : decode cX11_oneYear 68 = .ok (.iconst 1, 1) := by decide +kernel
theorem dX11_oneYear_69 : decode cX11_oneYear 69 = .ok (.invokevirtual 240, 3) := by decide +kernel
theorem dX11_oneYear_72 : decode cX11_oneYear 72 = .ok (.aload_n 0, 1) := by decide +kernel
theorem dX11_oneYear_73 : decode cX11_oneYear 73 = .ok (.getfield 285, 3) := by decide +kernel
theorem dX11_oneYear_76 : decode cX11_oneYear 76 = .ok (.lconst 0, 1) := by decide +kernel
theorem dX11_oneYear_77 : decode cX11_oneYear 77 = .ok (.lcmp, 1) := by decide +kernel
theorem dX11_oneYear_78 : decode cX11_oneYear 78 = .ok (.ifCond .eq 12, 3) := by decide +kernel
theorem dX11_oneYear_81 : decode cX11_oneYear 81 = .ok (.aload_n 0, 1) := by decide +kernel
theorem dX11_oneYear_82 : decode cX11_oneYear 82 = .ok (.getfield 217, 3) := by decide +kernel
theorem dX11_oneYear_85 : decode cX11_oneYear 85 = .ok (.lconst 0, 1) := by decide +kernel
theorem dX11_oneYear_86 : decode cX11_oneYear 86 = .ok (.lcmp, 1) := by decide +kernel
theorem dX11_oneYear_87 : decode cX11_oneYear 87 = .ok (.ifCond .ne 7, 3) := by decide +kernel
theorem dX11_oneYear_90 : decode cX11_oneYear 90 = .ok (.ldc2_w 293, 3) := by decide +kernel
theorem dX11_oneYear_93 : decode cX11_oneYear 93 = .ok (.lreturn, 1) := by decide +kernel
theorem dX11_oneYear_94 : decode cX11_oneYear 94 = .ok (.aload_n 0, 1) := by decide +kernel
theorem dX11_oneYear_95 : decode cX11_oneYear 95 = .ok (.iload 4, 2) := by decide +kernel
theorem dX11_oneYear_97 : decode cX11_oneYear 97 = .ok (.aload_n 0, 1) := by decide +kernel
theorem dX11_oneYear_98 : decode cX11_oneYear 98 = .ok (.iload_n 2, 1) := by decide +kernel
theorem dX11_oneYear_99 : decode cX11_oneYear 99 = .ok (.invokevirtual 206, 3) := by decide +kernel
theorem dX11_oneYear_102 : decode cX11_oneYear 102 = .ok (.invokevirtual 295, 3) := by decide +kernel
theorem dX11_oneYear_105 : decode cX11_oneYear 105 = .ok (.aload_n 0, 1) := by decide +kernel
theorem dX11_oneYear_106 : decode cX11_oneYear 106 = .ok (.getfield 285, 3) := by decide +kernel
theorem dX11_oneYear_109 : decode cX11_oneYear 109 = .ok (.aload_n 0, 1) := by decide +kernel
theorem dX11_oneYear_110 : decode cX11_oneYear 110 = .ok (.getfield 217, 3) := by decide +kernel
theorem dX11_oneYear_113 : decode cX11_oneYear 113 = .ok (.lmul, 1) := by decide +kernel
theorem dX11_oneYear_114 : decode cX11_oneYear 114 = .ok (.iload_n 3, 1) := by decide +kernel
theorem dX11_oneYear_115 : decode cX11_oneYear 115 = .ok (.invokestatic 257, 3) := by decide +kernel
theorem dX11_oneYear_118 : decode cX11_oneYear 118 = .ok (.lreturn, 1) := by decide +kernel
theorem dX11_tie_0 : decode cX11_tie 0 = .ok (.iload_n 1, 1) := by decide +kernel
theorem dX11_tie_1 : decode cX11_tie 1 = .ok (.i2l, 1) := by decide +kernel
theorem dX11_tie_2 : decode cX11_tie 2 = .ok (.lconst 0, 1) := by decide +kernel
theorem dX11_tie_3 : decode cX11_tie 3 = .ok (.ldc2_w 180, 3) := by decide +kernel
theorem dX11_tie_6 : decode cX11_tie 6 = .ok (.invokestatic 70, 3) := by decide +kernel
theorem dX11_tie_9 : decode cX11_tie 9 = .ok (.ifCond .ne 7, 3) := by decide +kernel
theorem dX11_tie_12 : decode cX11_tie 12 = .ok (.ldc2_w 236, 3) := by decide +kernel
theorem dX11_tie_15 : decode cX11_tie 15 = .ok (.lreturn, 1) := by decide +kernel
theorem dX11_tie_16 : decode cX11_tie 16 = .ok (.aload_n 0, 1) := by decide +kernel
theorem dX11_tie_17 : decode cX11_tie 17 = .ok (.iconst 0, 1) := by decide +kernel
theorem dX11_tie_18 : decode cX11_tie 18 = .ok (.invokevirtual 189, 3) := by decide +kernel
theorem dX11_tie_21 : decode cX11_tie 21 = .ok (.ifCond .eq 11, 3) := by decide +kernel
theorem dX11_tie_24 : decode cX11_tie 24 = .ok (.aload_n 0, 1) := by decide +kernel
theorem dX11_tie_25 : decode cX11_tie 25 = .ok (.iconst 1, 1) := by decide +kernel
theorem dX11_tie_26 : decode cX11_tie 26 = .ok (.invokevirtual 189, 3) := by decide +kernel
theorem dX11_tie_29 : decode cX11_tie 29 = .ok (.ifCond .ne 7, 3) := by decide +kernel
theorem dX11_tie_32 : decode cX11_tie 32 = .ok (.ldc2_w 238, 3) := by decide +kernel
theorem dX11_tie_35 : decode cX11_tie 35 = .ok (.lreturn, 1) := by decide +kernel
theorem dX11_tie_36 : decode cX11_tie 36 = .ok (.aload_n 0, 1) := by decide +kernel
theorem dX11_tie_37 : decode cX11_tie 37 = .ok (.invokevirtual 290, 3) := by decide +kernel
theorem dX11_tie_40 : decode cX11_tie 40 = .ok (.aload_n 0, 1) := by decide +kernel
theorem dX11_tie_41 : decode cX11_tie 41 = .ok (.iconst 1, 1) := by decide +kernel
theorem dX11_tie_42 : decode cX11_tie 42 = .ok (.invokevirtual 240, 3) := by decide +kernel
theorem dX11_tie_45 : decode cX11_tie 45 = .ok (.aload_n 0, 1) := by decide +kernel
theorem dX11_tie_46 : decode cX11_tie 46 = .ok (.getfield 285, 3) := by decide +kernel
theorem dX11_tie_49 : decode cX11_tie 49 = .ok (.lconst 0, 1) := by decide +kernel
theorem dX11_tie_50 : decode cX11_tie 50 = .ok (.lcmp, 1) := by decide +kernel
theorem dX11_tie_51 : decode cX11_tie 51 = .ok (.ifCond .eq 12, 3) := by decide +kernel
theorem dX11_tie_54 : decode cX11_tie 54 = .ok (.aload_n 0, 1) := by decide +kernel
theorem dX11_tie_55 : decode cX11_tie 55 = .ok (.getfield 217, 3) := by decide +kernel
theorem dX11_tie_58 : decode cX11_tie 58 = .ok (.lconst 0, 1) := by decide +kernel
theorem dX11_tie_59 : decode cX11_tie 59 = .ok (.lcmp, 1) := by decide +kernel
theorem dX11_tie_60 : decode cX11_tie 60 = .ok (.ifCond .ne 7, 3) := by decide +kernel
theorem dX11_tie_63 : decode cX11_tie 63 = .ok (.ldc2_w 293, 3) := by decide +kernel
theorem dX11_tie_66 : decode cX11_tie 66 = .ok (.lreturn, 1) := by decide +kernel
theorem dX11_tie_67 : decode cX11_tie 67 = .ok (.iconst 0, 1) := by decide +kernel
theorem dX11_tie_68 : decode cX11_tie 68 = .ok (.istore_n 2, 1) := by decide +kernel
theorem dX11_tie_69 : decode cX11_tie 69 = .ok (.iconst 0, 1) := by decide +kernel
theorem dX11_tie_70 : decode cX11_tie 70 = .ok (.istore_n 3, 1) := by decide +kernel
theorem dX11_tie_71 : decode cX11_tie 71 = .ok (.ldc2_w 236, 3) := by decide +kernel
theorem dX11_tie_74 : decode cX11_tie 74 = .ok (.lstore 4, 2) := by decide +kernel
theorem dX11_tie_76 : decode cX11_tie 76 = .ok (.iconst 0, 1) := by decide +kernel
theorem dX11_tie_77 : decode cX11_tie 77 = .ok (.istore 6, 2) := by decide +kernel
theorem dX11_tie_79 : decode cX11_tie 79 = .ok (.iload 6, 2) := by decide +kernel
theorem dX11_tie_81 : decode cX11_tie 81 = .ok (.aload_n 0, 1) := by decide +kernel
theorem dX11_tie_82 : decode cX11_tie 82 = .ok (.getfield 282, 3) := by decide +kernel
theorem dX11_tie_85 : decode cX11_tie 85 = .ok (.if_icmp .ge 67, 3) := by decide +kernel
theorem dX11_tie_88 : decode cX11_tie 88 = .ok (.iconst 0, 1) := by decide +kernel
theorem dX11_tie_89 : decode cX11_tie 89 = .ok (.istore 7, 2) := by decide +kernel
theorem dX11_tie_91 : decode cX11_tie 91 = .ok (.iload 7, 2) := by decide +kernel
theorem dX11_tie_93 : decode cX11_tie 93 = .ok (.aload_n 0, 1) := by decide +kernel
theorem dX11_tie_94 : decode cX11_tie 94 = .ok (.getfield 192, 3) := by decide +kernel
theorem dX11_tie_97 : decode cX11_tie 97 = .ok (.if_icmp .ge 49, 3) := by decide +kernel
theorem dX11_tie_100 : decode cX11_tie 100 = .ok (.aload_n 0, 1) := by decide +kernel
theorem dX11_tie_101 : decode cX11_tie 101 = .ok (.iload 6, 2) := by decide +kernel
theorem dX11_tie_103 : decode cX11_tie 103 = .ok (.iload 7, 2) := by decide +kernel
theorem dX11_tie_105 : decode cX11_tie 105 = .ok (.invokevirtual 295, 3) := by decide +kernel
theorem dX11_tie_108 : decode cX11_tie 108 = .ok (.lload 4, 2) := by decide +kernel
theorem dX11_tie_110 : decode cX11_tie 110 = .ok (.lcmp, 1) := by decide +kernel
theorem dX11_tie_111 : decode cX11_tie 111 = .ok (.ifCond .le 29, 3) := by decide +kernel
theorem dX11_tie_114 : decode cX11_tie 114 = .ok (.aload_n 0, 1) := by decide +kernel
theorem dX11_tie_115 : decode cX11_tie 115 = .ok (.iload 6, 2) := by decide +kernel
theorem dX11_tie_117 : decode cX11_tie 117 = .ok (.iload 7, 2) := by decide +kernel
theorem dX11_tie_119 : decode cX11_tie 119 = .ok (.invokevirtual 295, 3) := by decide +kernel
theorem dX11_tie_122 : decode cX11_tie 122 = .ok (.lstore 4, 2) := by decide +kernel
theorem dX11_tie_124 : decode cX11_tie 124 = .ok (.aload_n 0, 1) := by decide +kernel
theorem dX11_tie_125 : decode cX11_tie 125 = .ok (.getfield 47, 3) := by decide +kernel
theorem dX11_tie_128 : decode cX11_tie 128 = .ok (.iload 6, 2) := by decide +kernel
theorem dX11_tie_130 : decode cX11_tie 130 = .ok (.iaload, 1) := by decide +kernel
theorem dX11_tie_131 : decode cX11_tie 131 = .ok (.istore_n 2, 1) := by decide +kernel
theorem dX11_tie_132 : decode cX11_tie 132 = .ok (.aload_n 0, 1) := by decide +kernel
theorem dX11_tie_133 : decode cX11_tie 133 = .ok (.getfield 19, 3) := by decide +kernel
theorem dX11_tie_136 : decode cX11_tie 136 = .ok (.iload 7, 2) := by decide +kernel
theorem dX11_tie_138 : decode cX11_tie 138 = .ok (.iaload, 1) := by decide +kernel
theorem dX11_tie_139 : decode cX11_tie 139 = .ok (.istore_n 3, 1) := by decide +kernel
theorem dX11_tie_140 : decode cX11_tie 140 = .ok (.iinc 7 1, 3) := by decide +kernel
theorem dX11_tie_143 : decode cX11_tie 143 = .ok (.goto (-52), 3) := by decide +kernel
theorem dX11_tie_146 : decode cX11_tie 146 = .ok (.iinc 6 1, 3) := by decide +kernel
theorem dX11_tie_149 : decode cX11_tie 149 = .ok (.goto (-70), 3) := by decide +kernel
theorem dX11_tie_152 : decode cX11_tie 152 = .ok (.iload_n 1, 1) := by decide +kernel
theorem dX11_tie_153 : decode cX11_tie 153 = .ok (.ifCond .ne 8, 3) := by decide +kernel
theorem dX11_tie_156 : decode cX11_tie 156 = .ok (.iload_n 2, 1) := by decide +kernel
theorem dX11_tie_157 : decode cX11_tie 157 = .ok (.i2l, 1) := by decide +kernel
theorem dX11_tie_158 : decode cX11_tie 158 = .ok (.goto 15, 3) := by decide +kernel
theorem dX11_tie_161 : decode cX11_tie 161 = .ok (.iload_n 1, 1) := by decide +kernel
theorem dX11_tie_162 : decode cX11_tie 162 = .ok (.iconst 1, 1) := by decide +kernel
theorem dX11_tie_163 : decode cX11_tie 163 = .ok (.if_icmp .ne 8, 3) := by decide +kernel
theorem dX11_tie_166 : decode cX11_tie 166 = .ok (.iload_n 3, 1) := by decide +kernel
theorem dX11_tie_167 : decode cX11_tie 167 = .ok (.i2l, 1) := by decide +kernel
theorem dX11_tie_168 : decode cX11_tie 168 = .ok (.goto 5, 3) := by decide +kernel
theorem dX11_tie_171 : decode cX11_tie 171 = .ok (.lload 4, 2) := by decide +kernel
theorem dX11_tie_173 : decode cX11_tie 173 = .ok (.lreturn, 1) := by decide +kernel
theorem dX11_isClaim_0 : decode cX11_isClaim 0 = .ok (.iload_n 1, 1) := by decide +kernel
theorem dX11_isClaim_1 : decode cX11_isClaim 1 = .ok (.i2l, 1) := by decide +kernel
theorem dX11_isClaim_2 : decode cX11_isClaim 2 = .ok (.lconst 0, 1) := by decide +kernel
theorem dX11_isClaim_3 : decode cX11_isClaim 3 = .ok (.aload_n 0, 1) := by decide +kernel
theorem dX11_isClaim_4 : decode cX11_isClaim 4 = .ok (.getfield 7, 3) := by decide +kernel
theorem dX11_isClaim_7 : decode cX11_isClaim 7 = .ok (.bipush 12, 2) := by decide +kernel
theorem dX11_isClaim_9 : decode cX11_isClaim 9 = .ok (.iaload, 1) := by decide +kernel
theorem dX11_isClaim_10 : decode cX11_isClaim 10 = .ok (.iconst 1, 1) := by decide +kernel
theorem dX11_isClaim_11 : decode cX11_isClaim 11 = .ok (.isub, 1) := by decide +kernel
theorem dX11_isClaim_12 : decode cX11_isClaim 12 = .ok (.i2l, 1) := by decide +kernel
theorem dX11_isClaim_13 : decode cX11_isClaim 13 = .ok (.invokestatic 70, 3) := by decide +kernel
theorem dX11_isClaim_16 : decode cX11_isClaim 16 = .ok (.ireturn, 1) := by decide +kernel
theorem dX11_countsThing_0 : decode cX11_countsThing 0 = .ok (.aload_n 0, 1) := by decide +kernel
theorem dX11_countsThing_1 : decode cX11_countsThing 1 = .ok (.getfield 7, 3) := by decide +kernel
theorem dX11_countsThing_4 : decode cX11_countsThing 4 = .ok (.iload_n 1, 1) := by decide +kernel
theorem dX11_countsThing_5 : decode cX11_countsThing 5 = .ok (.iconst 1, 1) := by decide +kernel
theorem dX11_countsThing_6 : decode cX11_countsThing 6 = .ok (.iadd, 1) := by decide +kernel
theorem dX11_countsThing_7 : decode cX11_countsThing 7 = .ok (.iaload, 1) := by decide +kernel
theorem dX11_countsThing_8 : decode cX11_countsThing 8 = .ok (.istore 6, 2) := by decide +kernel
theorem dX11_countsThing_10 : decode cX11_countsThing 10 = .ok (.iload 6, 2) := by decide +kernel
theorem dX11_countsThing_12 : decode cX11_countsThing 12 = .ok (.ifCond .eq 55, 3) := by decide +kernel
theorem dX11_countsThing_15 : decode cX11_countsThing 15 = .ok (.aload_n 0, 1) := by decide +kernel
theorem dX11_countsThing_16 : decode cX11_countsThing 16 = .ok (.iload_n 2, 1) := by decide +kernel
theorem dX11_countsThing_17 : decode cX11_countsThing 17 = .ok (.iload_n 3, 1) := by decide +kernel
theorem dX11_countsThing_18 : decode cX11_countsThing 18 = .ok (.invokevirtual 177, 3) := by decide +kernel
theorem dX11_countsThing_21 : decode cX11_countsThing 21 = .ok (.ifCond .ne 50, 3) := by decide +kernel
theorem dX11_countsThing_24 : decode cX11_countsThing 24 = .ok (.iload 6, 2) := by decide +kernel
theorem dX11_countsThing_26 : decode cX11_countsThing 26 = .ok (.iconst 1, 1) := by decide +kernel
theorem dX11_countsThing_27 : decode cX11_countsThing 27 = .ok (.if_icmp .ne 23, 3) := by decide +kernel
theorem dX11_countsThing_30 : decode cX11_countsThing 30 = .ok (.aload_n 0, 1) := by decide +kernel
theorem dX11_countsThing_31 : decode cX11_countsThing 31 = .ok (.iload_n 2, 1) := by decide +kernel
theorem dX11_countsThing_32 : decode cX11_countsThing 32 = .ok (.iload_n 3, 1) := by decide +kernel
theorem dX11_countsThing_33 : decode cX11_countsThing 33 = .ok (.invokevirtual 186, 3) := by decide +kernel
theorem dX11_countsThing_36 : decode cX11_countsThing 36 = .ok (.aload_n 0, 1) := by decide +kernel
theorem dX11_countsThing_37 : decode cX11_countsThing 37 = .ok (.getfield 7, 3) := by decide +kernel
theorem dX11_countsThing_40 : decode cX11_countsThing 40 = .ok (.iload_n 1, 1) := by decide +kernel
theorem dX11_countsThing_41 : decode cX11_countsThing 41 = .ok (.iconst 2, 1) := by decide +kernel
theorem dX11_countsThing_42 : decode cX11_countsThing 42 = .ok (.iadd, 1) := by decide +kernel
theorem dX11_countsThing_43 : decode cX11_countsThing 43 = .ok (.iaload, 1) := by decide +kernel
theorem dX11_countsThing_44 : decode cX11_countsThing 44 = .ok (.if_icmp .ge 27, 3) := by decide +kernel
theorem dX11_countsThing_47 : decode cX11_countsThing 47 = .ok (.goto 20, 3) := by decide +kernel
theorem dX11_countsThing_50 : decode cX11_countsThing 50 = .ok (.aload_n 0, 1) := by decide +kernel
theorem dX11_countsThing_51 : decode cX11_countsThing 51 = .ok (.iload_n 2, 1) := by decide +kernel
theorem dX11_countsThing_52 : decode cX11_countsThing 52 = .ok (.iload_n 3, 1) := by decide +kernel
theorem dX11_countsThing_53 : decode cX11_countsThing 53 = .ok (.invokevirtual 186, 3) := by decide +kernel
theorem dX11_countsThing_56 : decode cX11_countsThing 56 = .ok (.aload_n 0, 1) := by decide +kernel
theorem dX11_countsThing_57 : decode cX11_countsThing 57 = .ok (.getfield 7, 3) := by decide +kernel
theorem dX11_countsThing_60 : decode cX11_countsThing 60 = .ok (.iload_n 1, 1) := by decide +kernel
theorem dX11_countsThing_61 : decode cX11_countsThing 61 = .ok (.iconst 2, 1) := by decide +kernel
theorem dX11_countsThing_62 : decode cX11_countsThing 62 = .ok (.iadd, 1) := by decide +kernel
theorem dX11_countsThing_63 : decode cX11_countsThing 63 = .ok (.iaload, 1) := by decide +kernel
theorem dX11_countsThing_64 : decode cX11_countsThing 64 = .ok (.if_icmp .le 7, 3) := by decide +kernel
theorem dX11_countsThing_67 : decode cX11_countsThing 67 = .ok (.iconst 1, 1) := by decide +kernel
theorem dX11_countsThing_68 : decode cX11_countsThing 68 = .ok (.goto 4, 3) := by decide +kernel
theorem dX11_countsThing_71 : decode cX11_countsThing 71 = .ok (.iconst 0, 1) := by decide +kernel
theorem dX11_countsThing_72 : decode cX11_countsThing 72 = .ok (.istore 7, 2) := by decide +kernel
theorem dX11_countsThing_74 : decode cX11_countsThing 74 = .ok (.iload 7, 2) := by decide +kernel
theorem dX11_countsThing_76 : decode cX11_countsThing 76 = .ok (.ifCond .eq 40, 3) := by decide +kernel
theorem dX11_countsThing_79 : decode cX11_countsThing 79 = .ok (.iload 4, 2) := by decide +kernel
theorem dX11_countsThing_81 : decode cX11_countsThing 81 = .ok (.i2l, 1) := by decide +kernel
theorem dX11_countsThing_82 : decode cX11_countsThing 82 = .ok (.aload_n 0, 1) := by decide +kernel
theorem dX11_countsThing_83 : decode cX11_countsThing 83 = .ok (.getfield 7, 3) := by decide +kernel
theorem dX11_countsThing_86 : decode cX11_countsThing 86 = .ok (.iload_n 1, 1) := by decide +kernel
theorem dX11_countsThing_87 : decode cX11_countsThing 87 = .ok (.iconst 3, 1) := by decide +kernel
theorem dX11_countsThing_88 : decode cX11_countsThing 88 = .ok (.iadd, 1) := by decide +kernel
theorem dX11_countsThing_89 : decode cX11_countsThing 89 = .ok (.iaload, 1) := by decide +kernel
theorem dX11_countsThing_90 : decode cX11_countsThing 90 = .ok (.iload 5, 2) := by decide +kernel
theorem dX11_countsThing_92 : decode cX11_countsThing 92 = .ok (.iadd, 1) := by decide +kernel
theorem dX11_countsThing_93 : decode cX11_countsThing 93 = .ok (.i2l, 1) := by decide +kernel
theorem dX11_countsThing_94 : decode cX11_countsThing 94 = .ok (.aload_n 0, 1) := by decide +kernel
theorem dX11_countsThing_95 : decode cX11_countsThing 95 = .ok (.getfield 7, 3) := by decide +kernel
theorem dX11_countsThing_98 : decode cX11_countsThing 98 = .ok (.iload_n 1, 1) := by decide +kernel
theorem dX11_countsThing_99 : decode cX11_countsThing 99 = .ok (.iconst 4, 1) := by decide +kernel
theorem dX11_countsThing_100 : decode cX11_countsThing 100 = .ok (.iadd, 1) := by decide +kernel
theorem dX11_countsThing_101 : decode cX11_countsThing 101 = .ok (.iaload, 1) := by decide +kernel
theorem dX11_countsThing_102 : decode cX11_countsThing 102 = .ok (.iload 5, 2) := by decide +kernel
theorem dX11_countsThing_104 : decode cX11_countsThing 104 = .ok (.iadd, 1) := by decide +kernel
theorem dX11_countsThing_105 : decode cX11_countsThing 105 = .ok (.i2l, 1) := by decide +kernel
theorem dX11_countsThing_106 : decode cX11_countsThing 106 = .ok (.invokestatic 70, 3) := by decide +kernel
theorem dX11_countsThing_109 : decode cX11_countsThing 109 = .ok (.ifCond .eq 7, 3) := by decide +kernel
theorem dX11_countsThing_112 : decode cX11_countsThing 112 = .ok (.iconst 1, 1) := by decide +kernel
theorem dX11_countsThing_113 : decode cX11_countsThing 113 = .ok (.goto 4, 3) := by decide +kernel
theorem dX11_countsThing_116 : decode cX11_countsThing 116 = .ok (.iconst 0, 1) := by decide +kernel
theorem dX11_countsThing_117 : decode cX11_countsThing 117 = .ok (.ireturn, 1) := by decide +kernel
theorem dX11_atomHolds_0 : decode cX11_atomHolds 0 = .ok (.iload_n 2, 1) := by decide +kernel
theorem dX11_atomHolds_1 : decode cX11_atomHolds 1 = .ok (.aload_n 0, 1) := by decide +kernel
theorem dX11_atomHolds_2 : decode cX11_atomHolds 2 = .ok (.getfield 7, 3) := by decide +kernel
theorem dX11_atomHolds_5 : decode cX11_atomHolds 5 = .ok (.iload_n 1, 1) := by decide +kernel
theorem dX11_atomHolds_6 : decode cX11_atomHolds 6 = .ok (.iconst 5, 1) := by decide +kernel
theorem dX11_atomHolds_7 : decode cX11_atomHolds 7 = .ok (.iadd, 1) := by decide +kernel
theorem dX11_atomHolds_8 : decode cX11_atomHolds 8 = .ok (.iaload, 1) := by decide +kernel
theorem dX11_atomHolds_9 : decode cX11_atomHolds 9 = .ok (.if_icmp .lt 7, 3) := by decide +kernel
theorem dX11_atomHolds_12 : decode cX11_atomHolds 12 = .ok (.iconst 1, 1) := by decide +kernel
theorem dX11_atomHolds_13 : decode cX11_atomHolds 13 = .ok (.goto 4, 3) := by decide +kernel
theorem dX11_atomHolds_16 : decode cX11_atomHolds 16 = .ok (.iconst 0, 1) := by decide +kernel
theorem dX11_atomHolds_17 : decode cX11_atomHolds 17 = .ok (.aload_n 0, 1) := by decide +kernel
theorem dX11_atomHolds_18 : decode cX11_atomHolds 18 = .ok (.getfield 7, 3) := by decide +kernel
theorem dX11_atomHolds_21 : decode cX11_atomHolds 21 = .ok (.iload_n 1, 1) := by decide +kernel
theorem dX11_atomHolds_22 : decode cX11_atomHolds 22 = .ok (.iaload, 1) := by decide +kernel
theorem dX11_atomHolds_23 : decode cX11_atomHolds 23 = .ok (.ifCond .ne 7, 3) := by decide +kernel
theorem dX11_atomHolds_26 : decode cX11_atomHolds 26 = .ok (.iconst 1, 1) := by decide +kernel
theorem dX11_atomHolds_27 : decode cX11_atomHolds 27 = .ok (.goto 4, 3) := by decide +kernel
theorem dX11_atomHolds_30 : decode cX11_atomHolds 30 = .ok (.iconst 0, 1) := by decide +kernel
theorem dX11_atomHolds_31 : decode cX11_atomHolds 31 = .ok (.if_icmp .ne 7, 3) := by decide +kernel
theorem dX11_atomHolds_34 : decode cX11_atomHolds 34 = .ok (.iconst 1, 1) := by decide +kernel
theorem dX11_atomHolds_35 : decode cX11_atomHolds 35 = .ok (.goto 4, 3) := by decide +kernel
theorem dX11_atomHolds_38 : decode cX11_atomHolds 38 = .ok (.iconst 0, 1) := by decide +kernel
theorem dX11_atomHolds_39 : decode cX11_atomHolds 39 = .ok (.ireturn, 1) := by decide +kernel
theorem dX11_claimHolds_0 : decode cX11_claimHolds 0 = .ok (.sipush 326, 3) := by decide +kernel
theorem dX11_claimHolds_3 : decode cX11_claimHolds 3 = .ok (.bipush 14, 2) := by decide +kernel
theorem dX11_claimHolds_5 : decode cX11_claimHolds 5 = .ok (.iload_n 1, 1) := by decide +kernel
theorem dX11_claimHolds_6 : decode cX11_claimHolds 6 = .ok (.imul, 1) := by decide +kernel
theorem dX11_claimHolds_7 : decode cX11_claimHolds 7 = .ok (.iadd, 1) := by decide +kernel
theorem dX11_claimHolds_8 : decode cX11_claimHolds 8 = .ok (.istore 4, 2) := by decide +kernel
theorem dX11_claimHolds_10 : decode cX11_claimHolds 10 = .ok (.aload_n 0, 1) := by decide +kernel
theorem dX11_claimHolds_11 : decode cX11_claimHolds 11 = .ok (.iload 4, 2) := by decide +kernel
theorem dX11_claimHolds_13 : decode cX11_claimHolds 13 = .ok (.iconst 2, 1) := by decide +kernel
theorem dX11_claimHolds_14 : decode cX11_claimHolds 14 = .ok (.iadd, 1) := by decide +kernel
theorem dX11_claimHolds_15 : decode cX11_claimHolds 15 = .ok (.iload_n 2, 1) := by decide +kernel
theorem dX11_claimHolds_16 : decode cX11_claimHolds 16 = .ok (.invokevirtual 298, 3) := by decide +kernel
theorem dX11_claimHolds_19 : decode cX11_claimHolds 19 = .ok (.istore 5, 2) := by decide +kernel
theorem dX11_claimHolds_21 : decode cX11_claimHolds 21 = .ok (.aload_n 0, 1) := by decide +kernel
theorem dX11_claimHolds_22 : decode cX11_claimHolds 22 = .ok (.getfield 7, 3) := by decide +kernel
theorem dX11_claimHolds_25 : decode cX11_claimHolds 25 = .ok (.iload 4, 2) := by decide +kernel
theorem dX11_claimHolds_27 : decode cX11_claimHolds 27 = .ok (.iaload, 1) := by decide +kernel
theorem dX11_claimHolds_28 : decode cX11_claimHolds 28 = .ok (.iconst 1, 1) := by decide +kernel
theorem dX11_claimHolds_29 : decode cX11_claimHolds 29 = .ok (.if_icmp .ne 6, 3) := by decide +kernel
theorem dX11_claimHolds_32 : decode cX11_claimHolds 32 = .ok (.iload 5, 2) := by decide +kernel
theorem dX11_claimHolds_34 : decode cX11_claimHolds 34 = .ok (.ireturn, 1) := by decide +kernel
theorem dX11_claimHolds_35 : decode cX11_claimHolds 35 = .ok (.aload_n 0, 1) := by decide +kernel
theorem dX11_claimHolds_36 : decode cX11_claimHolds 36 = .ok (.iload 4, 2) := by decide +kernel
theorem dX11_claimHolds_38 : decode cX11_claimHolds 38 = .ok (.bipush 8, 2) := by decide +kernel
theorem dX11_claimHolds_40 : decode cX11_claimHolds 40 = .ok (.iadd, 1) := by decide +kernel
theorem dX11_claimHolds_41 : decode cX11_claimHolds 41 = .ok (.iload_n 3, 1) := by decide +kernel
theorem dX11_claimHolds_42 : decode cX11_claimHolds 42 = .ok (.invokevirtual 298, 3) := by decide +kernel
theorem dX11_claimHolds_45 : decode cX11_claimHolds 45 = .ok (.istore 6, 2) := by decide +kernel
theorem dX11_claimHolds_47 : decode cX11_claimHolds 47 = .ok (.aload_n 0, 1) := by decide +kernel
theorem dX11_claimHolds_48 : decode cX11_claimHolds 48 = .ok (.getfield 7, 3) := by decide +kernel
theorem dX11_claimHolds_51 : decode cX11_claimHolds 51 = .ok (.iload 4, 2) := by decide +kernel
theorem dX11_claimHolds_53 : decode cX11_claimHolds 53 = .ok (.iconst 1, 1) := by decide +kernel
theorem dX11_claimHolds_54 : decode cX11_claimHolds 54 = .ok (.iadd, 1) := by decide +kernel
theorem dX11_claimHolds_55 : decode cX11_claimHolds 55 = .ok (.iaload, 1) := by decide +kernel
theorem dX11_claimHolds_56 : decode cX11_claimHolds 56 = .ok (.iconst 1, 1) := by decide +kernel
theorem dX11_claimHolds_57 : decode cX11_claimHolds 57 = .ok (.if_icmp .ne 21, 3) := by decide +kernel
theorem dX11_claimHolds_60 : decode cX11_claimHolds 60 = .ok (.iload 5, 2) := by decide +kernel
theorem dX11_claimHolds_62 : decode cX11_claimHolds 62 = .ok (.ifCond .eq 12, 3) := by decide +kernel
theorem dX11_claimHolds_65 : decode cX11_claimHolds 65 = .ok (.iload 6, 2) := by decide +kernel
theorem dX11_claimHolds_67 : decode cX11_claimHolds 67 = .ok (.ifCond .eq 7, 3) := by decide +kernel
theorem dX11_claimHolds_70 : decode cX11_claimHolds 70 = .ok (.iconst 1, 1) := by decide +kernel
theorem dX11_claimHolds_71 : decode cX11_claimHolds 71 = .ok (.goto 22, 3) := by decide +kernel
theorem dX11_claimHolds_74 : decode cX11_claimHolds 74 = .ok (.iconst 0, 1) := by decide +kernel
theorem dX11_claimHolds_75 : decode cX11_claimHolds 75 = .ok (.goto 18, 3) := by decide +kernel
theorem dX11_claimHolds_78 : decode cX11_claimHolds 78 = .ok (.iload 5, 2) := by decide +kernel
theorem dX11_claimHolds_80 : decode cX11_claimHolds 80 = .ok (.ifCond .ne 8, 3) := by decide +kernel
theorem dX11_claimHolds_83 : decode cX11_claimHolds 83 = .ok (.iload 6, 2) := by decide +kernel
theorem dX11_claimHolds_85 : decode cX11_claimHolds 85 = .ok (.ifCond .eq 7, 3) := by decide +kernel
theorem dX11_claimHolds_88 : decode cX11_claimHolds 88 = .ok (.iconst 1, 1) := by decide +kernel
theorem dX11_claimHolds_89 : decode cX11_claimHolds 89 = .ok (.goto 4, 3) := by decide +kernel
theorem dX11_claimHolds_92 : decode cX11_claimHolds 92 = .ok (.iconst 0, 1) := by decide +kernel
theorem dX11_claimHolds_93 : decode cX11_claimHolds 93 = .ok (.ireturn, 1) := by decide +kernel
theorem dX11_stateOf_0 : decode cX11_stateOf 0 = .ok (.iconst 5, 1) := by decide +kernel
theorem dX11_stateOf_1 : decode cX11_stateOf 1 = .ok (.iload_n 0, 1) := by decide +kernel
theorem dX11_stateOf_2 : decode cX11_stateOf 2 = .ok (.imul, 1) := by decide +kernel
theorem dX11_stateOf_3 : decode cX11_stateOf 3 = .ok (.iload_n 1, 1) := by decide +kernel
theorem dX11_stateOf_4 : decode cX11_stateOf 4 = .ok (.iadd, 1) := by decide +kernel
theorem dX11_stateOf_5 : decode cX11_stateOf 5 = .ok (.bipush 13, 2) := by decide +kernel
theorem dX11_stateOf_7 : decode cX11_stateOf 7 = .ok (.imul, 1) := by decide +kernel
theorem dX11_stateOf_8 : decode cX11_stateOf 8 = .ok (.iload_n 2, 1) := by decide +kernel
theorem dX11_stateOf_9 : decode cX11_stateOf 9 = .ok (.iadd, 1) := by decide +kernel
theorem dX11_stateOf_10 : decode cX11_stateOf 10 = .ok (.bipush 13, 2) := by decide +kernel
theorem dX11_stateOf_12 : decode cX11_stateOf 12 = .ok (.imul, 1) := by decide +kernel
theorem dX11_stateOf_13 : decode cX11_stateOf 13 = .ok (.iload_n 3, 1) := by decide +kernel
theorem dX11_stateOf_14 : decode cX11_stateOf 14 = .ok (.iadd, 1) := by decide +kernel
theorem dX11_stateOf_15 : decode cX11_stateOf 15 = .ok (.ireturn, 1) := by decide +kernel
theorem dX11_more_0 : decode cX11_more 0 = .ok (.sipush 326, 3) := by decide +kernel
theorem dX11_more_3 : decode cX11_more 3 = .ok (.bipush 14, 2) := by decide +kernel
theorem dX11_more_5 : decode cX11_more 5 = .ok (.iload_n 1, 1) := by decide +kernel
theorem dX11_more_6 : decode cX11_more 6 = .ok (.imul, 1) := by decide +kernel
theorem dX11_more_7 : decode cX11_more 7 = .ok (.iadd, 1) := by decide +kernel
theorem dX11_more_8 : decode cX11_more 8 = .ok (.iconst 2, 1) := by decide +kernel
theorem dX11_more_9 : decode cX11_more 9 = .ok (.iadd, 1) := by decide +kernel
theorem dX11_more_10 : decode cX11_more 10 = .ok (.bipush 6, 2) := by decide +kernel
theorem dX11_more_12 : decode cX11_more 12 = .ok (.iload_n 2, 1) := by decide +kernel
theorem dX11_more_13 : decode cX11_more 13 = .ok (.imul, 1) := by decide +kernel
theorem dX11_more_14 : decode cX11_more 14 = .ok (.iadd, 1) := by decide +kernel
theorem dX11_more_15 : decode cX11_more 15 = .ok (.istore 8, 2) := by decide +kernel
theorem dX11_more_17 : decode cX11_more 17 = .ok (.iload_n 2, 1) := by decide +kernel
theorem dX11_more_18 : decode cX11_more 18 = .ok (.aload_n 0, 1) := by decide +kernel
theorem dX11_more_19 : decode cX11_more 19 = .ok (.getfield 7, 3) := by decide +kernel
theorem dX11_more_22 : decode cX11_more 22 = .ok (.sipush 326, 3) := by decide +kernel
theorem dX11_more_25 : decode cX11_more 25 = .ok (.bipush 14, 2) := by decide +kernel
theorem dX11_more_27 : decode cX11_more 27 = .ok (.iload_n 1, 1) := by decide +kernel
theorem dX11_more_28 : decode cX11_more 28 = .ok (.imul, 1) := by decide +kernel
theorem dX11_more_29 : decode cX11_more 29 = .ok (.iadd, 1) := by decide +kernel
theorem dX11_more_30 : decode cX11_more 30 = .ok (.iaload, 1) := by decide +kernel
theorem dX11_more_31 : decode cX11_more 31 = .ok (.if_icmp .ge 28, 3) := by decide +kernel
theorem dX11_more_34 : decode cX11_more 34 = .ok (.aload_n 0, 1) := by decide +kernel
theorem dX11_more_35 : decode cX11_more 35 = .ok (.iload 8, 2) := by decide +kernel
theorem dX11_more_37 : decode cX11_more 37 = .ok (.iload_n 3, 1) := by decide +kernel
theorem dX11_more_38 : decode cX11_more 38 = .ok (.aload_n 0, 1) := by decide +kernel
theorem dX11_more_39 : decode cX11_more 39 = .ok (.getfield 19, 3) := by decide +kernel
theorem dX11_more_42 : decode cX11_more 42 = .ok (.iload 4, 2) := by decide +kernel
theorem dX11_more_44 : decode cX11_more 44 = .ok (.iaload, 1) := by decide +kernel
theorem dX11_more_45 : decode cX11_more 45 = .ok (.iload 5, 2) := by decide +kernel
theorem dX11_more_47 : decode cX11_more 47 = .ok (.iload 6, 2) := by decide +kernel
theorem dX11_more_49 : decode cX11_more 49 = .ok (.invokevirtual 301, 3) := by decide +kernel
theorem dX11_more_52 : decode cX11_more 52 = .ok (.ifCond .eq 7, 3) := by decide +kernel
theorem dX11_more_55 : decode cX11_more 55 = .ok (.iconst 1, 1) := by decide +kernel
theorem dX11_more_56 : decode cX11_more 56 = .ok (.goto 4, 3) := by decide +kernel
theorem dX11_more_59 : decode cX11_more 59 = .ok (.iconst 0, 1) := by decide +kernel
theorem dX11_more_60 : decode cX11_more 60 = .ok (.istore 9, 2) := by decide +kernel
theorem dX11_more_62 : decode cX11_more 62 = .ok (.iload 9, 2) := by decide +kernel
theorem dX11_more_64 : decode cX11_more 64 = .ok (.ifCond .eq 24, 3) := by decide +kernel
theorem dX11_more_67 : decode cX11_more 67 = .ok (.iload 7, 2) := by decide +kernel
theorem dX11_more_69 : decode cX11_more 69 = .ok (.aload_n 0, 1) := by decide +kernel
theorem dX11_more_70 : decode cX11_more 70 = .ok (.getfield 7, 3) := by decide +kernel
theorem dX11_more_73 : decode cX11_more 73 = .ok (.iload 8, 2) := by decide +kernel
theorem dX11_more_75 : decode cX11_more 75 = .ok (.iconst 5, 1) := by decide +kernel
theorem dX11_more_76 : decode cX11_more 76 = .ok (.iadd, 1) := by decide +kernel
theorem dX11_more_77 : decode cX11_more 77 = .ok (.iaload, 1) := by decide +kernel
theorem dX11_more_78 : decode cX11_more 78 = .ok (.if_icmp .ge 10, 3) := by decide +kernel
theorem dX11_more_81 : decode cX11_more 81 = .ok (.iload 7, 2) := by decide +kernel
theorem dX11_more_83 : decode cX11_more 83 = .ok (.iconst 1, 1) := by decide +kernel
theorem dX11_more_84 : decode cX11_more 84 = .ok (.iadd, 1) := by decide +kernel
theorem dX11_more_85 : decode cX11_more 85 = .ok (.goto 5, 3) := by decide +kernel
theorem dX11_more_88 : decode cX11_more 88 = .ok (.iload 7, 2) := by decide +kernel
theorem dX11_more_90 : decode cX11_more 90 = .ok (.ireturn, 1) := by decide +kernel
theorem dX11_clearThen_0 : decode cX11_clearThen 0 = .ok (.iconst 0, 1) := by decide +kernel
theorem dX11_clearThen_1 : decode cX11_clearThen 1 = .ok (.istore_n 1, 1) := by decide +kernel
theorem dX11_clearThen_2 : decode cX11_clearThen 2 = .ok (.iload_n 1, 1) := by decide +kernel
theorem dX11_clearThen_3 : decode cX11_clearThen 3 = .ok (.sipush 20280, 3) := by decide +kernel
theorem dX11_clearThen_6 : decode cX11_clearThen 6 = .ok (.if_icmp .ge 16, 3) := by decide +kernel
theorem dX11_clearThen_9 : decode cX11_clearThen 9 = .ok (.aload_n 0, 1) := by decide +kernel
theorem dX11_clearThen_10 : decode cX11_clearThen 10 = .ok (.getfield 53, 3) := by decide +kernel
theorem dX11_clearThen_13 : decode cX11_clearThen 13 = .ok (.iload_n 1, 1) := by decide +kernel
theorem dX11_clearThen_14 : decode cX11_clearThen 14 = .ok (.lconst 0, 1) := by decide +kernel
theorem dX11_clearThen_15 : decode cX11_clearThen 15 = .ok (.lastore, 1) := by decide +kernel
theorem dX11_clearThen_16 : decode cX11_clearThen 16 = .ok (.iinc 1 1, 3) := by decide +kernel
theorem dX11_clearThen_19 : decode cX11_clearThen 19 = .ok (.goto (-17), 3) := by decide +kernel
theorem dX11_clearThen_22 : decode cX11_clearThen 22 = .ok (.return_, 1) := by decide +kernel
theorem dX11_turn_0 : decode cX11_turn 0 = .ok (.iconst 0, 1) := by decide +kernel
theorem dX11_turn_1 : decode cX11_turn 1 = .ok (.istore_n 1, 1) := by decide +kernel
theorem dX11_turn_2 : decode cX11_turn 2 = .ok (.iload_n 1, 1) := by decide +kernel
theorem dX11_turn_3 : decode cX11_turn 3 = .ok (.sipush 20280, 3) := by decide +kernel
theorem dX11_turn_6 : decode cX11_turn 6 = .ok (.if_icmp .ge 21, 3) := by decide +kernel
theorem dX11_turn_9 : decode cX11_turn 9 = .ok (.aload_n 0, 1) := by decide +kernel
theorem dX11_turn_10 : decode cX11_turn 10 = .ok (.getfield 50, 3) := by decide +kernel
theorem dX11_turn_13 : decode cX11_turn 13 = .ok (.iload_n 1, 1) := by decide +kernel
theorem dX11_turn_14 : decode cX11_turn 14 = .ok (.aload_n 0, 1) := by decide +kernel
theorem dX11_turn_15 : decode cX11_turn 15 = .ok (.getfield 53, 3) := by decide +kernel
theorem dX11_turn_18 : decode cX11_turn 18 = .ok (.iload_n 1, 1) := by decide +kernel
theorem dX11_turn_19 : decode cX11_turn 19 = .ok (.laload, 1) := by decide +kernel
theorem dX11_turn_20 : decode cX11_turn 20 = .ok (.lastore, 1) := by decide +kernel
theorem dX11_turn_21 : decode cX11_turn 21 = .ok (.iinc 1 1, 3) := by decide +kernel
theorem dX11_turn_24 : decode cX11_turn 24 = .ok (.goto (-22), 3) := by decide +kernel
theorem dX11_turn_27 : decode cX11_turn 27 = .ok (.return_, 1) := by decide +kernel
theorem dX11_waysSo_0 : decode cX11_waysSo 0 = .ok (.aload_n 0, 1) := by decide +kernel
theorem dX11_waysSo_1 : decode cX11_waysSo 1 = .ok (.invokevirtual 305, 3) := by decide +kernel
theorem dX11_waysSo_4 : decode cX11_waysSo 4 = .ok (.iconst 0, 1) := by decide +kernel
theorem dX11_waysSo_5 : decode cX11_waysSo 5 = .ok (.istore 4, 2) := by decide +kernel
theorem dX11_waysSo_7 : decode cX11_waysSo 7 = .ok (.iload 4, 2) := by decide +kernel
theorem dX11_waysSo_9 : decode cX11_waysSo 9 = .ok (.bipush 24, 2) := by decide +kernel
theorem dX11_waysSo_11 : decode cX11_waysSo 11 = .ok (.if_icmp .ge 63, 3) := by decide +kernel
theorem dX11_waysSo_14 : decode cX11_waysSo 14 = .ok (.aload_n 0, 1) := by decide +kernel
theorem dX11_waysSo_15 : decode cX11_waysSo 15 = .ok (.getfield 22, 3) := by decide +kernel
theorem dX11_waysSo_18 : decode cX11_waysSo 18 = .ok (.iconst 0, 1) := by decide +kernel
theorem dX11_waysSo_19 : decode cX11_waysSo 19 = .ok (.iaload, 1) := by decide +kernel
theorem dX11_waysSo_20 : decode cX11_waysSo 20 = .ok (.iload 4, 2) := by decide +kernel
theorem dX11_waysSo_22 : decode cX11_waysSo 22 = .ok (.ishr, 1) := by decide +kernel
theorem dX11_waysSo_23 : decode cX11_waysSo 23 = .ok (.iconst 1, 1) := by decide +kernel
theorem dX11_waysSo_24 : decode cX11_waysSo 24 = .ok (.iand, 1) := by decide +kernel
theorem dX11_waysSo_25 : decode cX11_waysSo 25 = .ok (.iconst 1, 1) := by decide +kernel
theorem dX11_waysSo_26 : decode cX11_waysSo 26 = .ok (.if_icmp .ne 42, 3) := by decide +kernel
theorem dX11_waysSo_29 : decode cX11_waysSo 29 = .ok (.aload_n 0, 1) := by decide +kernel
theorem dX11_waysSo_30 : decode cX11_waysSo 30 = .ok (.getfield 53, 3) := by decide +kernel
theorem dX11_waysSo_33 : decode cX11_waysSo 33 = .ok (.iload 4, 2) := by decide +kernel
theorem dX11_waysSo_35 : decode cX11_waysSo 35 = .ok (.iconst 1, 1) := by decide +kernel
theorem dX11_waysSo_36 : decode cX11_waysSo 36 = .ok (.aload_n 0, 1) := by decide +kernel
theorem dX11_waysSo_37 : decode cX11_waysSo 37 = .ok (.iload_n 1, 1) := by decide +kernel
theorem dX11_waysSo_38 : decode cX11_waysSo 38 = .ok (.iconst 0, 1) := by decide +kernel
theorem dX11_waysSo_39 : decode cX11_waysSo 39 = .ok (.iload_n 2, 1) := by decide +kernel
theorem dX11_waysSo_40 : decode cX11_waysSo 40 = .ok (.iconst 0, 1) := by decide +kernel
theorem dX11_waysSo_41 : decode cX11_waysSo 41 = .ok (.iload 4, 2) := by decide +kernel
theorem dX11_waysSo_43 : decode cX11_waysSo 43 = .ok (.iload_n 3, 1) := by decide +kernel
theorem dX11_waysSo_44 : decode cX11_waysSo 44 = .ok (.iconst 0, 1) := by decide +kernel
theorem dX11_waysSo_45 : decode cX11_waysSo 45 = .ok (.invokevirtual 308, 3) := by decide +kernel
theorem dX11_waysSo_48 : decode cX11_waysSo 48 = .ok (.aload_n 0, 1) := by decide +kernel
theorem dX11_waysSo_49 : decode cX11_waysSo 49 = .ok (.iload_n 1, 1) := by decide +kernel
theorem dX11_waysSo_50 : decode cX11_waysSo 50 = .ok (.iconst 1, 1) := by decide +kernel
theorem dX11_waysSo_51 : decode cX11_waysSo 51 = .ok (.iload_n 2, 1) := by decide +kernel
theorem dX11_waysSo_52 : decode cX11_waysSo 52 = .ok (.iconst 0, 1) := by decide +kernel
theorem dX11_waysSo_53 : decode cX11_waysSo 53 = .ok (.iload 4, 2) := by decide +kernel
theorem dX11_waysSo_55 : decode cX11_waysSo 55 = .ok (.iload_n 3, 1) := by decide +kernel
theorem dX11_waysSo_56 : decode cX11_waysSo 56 = .ok (.iconst 0, 1) := by decide +kernel
theorem dX11_waysSo_57 : decode cX11_waysSo 57 = .ok (.invokevirtual 308, 3) := by decide +kernel
theorem dX11_waysSo_60 : decode cX11_waysSo 60 = .ok (.invokestatic 312, 3) := by decide +kernel
theorem dX11_waysSo_63 : decode cX11_waysSo 63 = .ok (.dup2, 1) := by decide +kernel
theorem dX11_waysSo_64 : decode cX11_waysSo 64 = .ok (.laload, 1) := by decide +kernel
theorem dX11_waysSo_65 : decode cX11_waysSo 65 = .ok (.lconst 1, 1) := by decide +kernel
theorem dX11_waysSo_66 : decode cX11_waysSo 66 = .ok (.ladd, 1) := by decide +kernel
theorem dX11_waysSo_67 : decode cX11_waysSo 67 = .ok (.lastore, 1) := by decide +kernel
theorem dX11_waysSo_68 : decode cX11_waysSo 68 = .ok (.iinc 4 1, 3) := by decide +kernel
theorem dX11_waysSo_71 : decode cX11_waysSo 71 = .ok (.goto (-64), 3) := by decide +kernel
theorem dX11_waysSo_74 : decode cX11_waysSo 74 = .ok (.iconst 1, 1) := by decide +kernel
theorem dX11_waysSo_75 : decode cX11_waysSo 75 = .ok (.istore 4, 2) := by decide +kernel
theorem dX11_waysSo_77 : decode cX11_waysSo 77 = .ok (.iload 4, 2) := by decide +kernel
theorem dX11_waysSo_79 : decode cX11_waysSo 79 = .ok (.aload_n 0, 1) := by decide +kernel
theorem dX11_waysSo_80 : decode cX11_waysSo 80 = .ok (.getfield 192, 3) := by decide +kernel
theorem dX11_waysSo_83 : decode cX11_waysSo 83 = .ok (.if_icmp .ge 57, 3) := by decide +kernel
theorem dX11_waysSo_86 : decode cX11_waysSo 86 = .ok (.aload_n 0, 1) := by decide +kernel
theorem dX11_waysSo_87 : decode cX11_waysSo 87 = .ok (.invokevirtual 315, 3) := by decide +kernel
theorem dX11_waysSo_90 : decode cX11_waysSo 90 = .ok (.aload_n 0, 1) := by decide +kernel
theorem dX11_waysSo_91 : decode cX11_waysSo 91 = .ok (.invokevirtual 305, 3) := by decide +kernel
theorem dX11_waysSo_94 : decode cX11_waysSo 94 = .ok (.iconst 0, 1) := by decide +kernel
theorem dX11_waysSo_95 : decode cX11_waysSo 95 = .ok (.istore 5, 2) := by decide +kernel
theorem dX11_waysSo_97 : decode cX11_waysSo 97 = .ok (.iload 5, 2) := by decide +kernel
theorem dX11_waysSo_99 : decode cX11_waysSo 99 = .ok (.sipush 20280, 3) := by decide +kernel
theorem dX11_waysSo_102 : decode cX11_waysSo 102 = .ok (.if_icmp .ge 32, 3) := by decide +kernel
theorem dX11_waysSo_105 : decode cX11_waysSo 105 = .ok (.aload_n 0, 1) := by decide +kernel
theorem dX11_waysSo_106 : decode cX11_waysSo 106 = .ok (.getfield 50, 3) := by decide +kernel
theorem dX11_waysSo_109 : decode cX11_waysSo 109 = .ok (.iload 5, 2) := by decide +kernel
theorem dX11_waysSo_111 : decode cX11_waysSo 111 = .ok (.laload, 1) := by decide +kernel
theorem dX11_waysSo_112 : decode cX11_waysSo 112 = .ok (.lconst 0, 1) := by decide +kernel
theorem dX11_waysSo_113 : decode cX11_waysSo 113 = .ok (.lcmp, 1) := by decide +kernel
theorem dX11_waysSo_114 : decode cX11_waysSo 114 = .ok (.ifCond .le 14, 3) := by decide +kernel
theorem dX11_waysSo_117 : decode cX11_waysSo 117 = .ok (.aload_n 0, 1) := by decide +kernel
theorem dX11_waysSo_118 : decode cX11_waysSo 118 = .ok (.iload_n 1, 1) := by decide +kernel
theorem dX11_waysSo_119 : decode cX11_waysSo 119 = .ok (.iload_n 2, 1) := by decide +kernel
theorem dX11_waysSo_120 : decode cX11_waysSo 120 = .ok (.iload_n 3, 1) := by decide +kernel
theorem dX11_waysSo_121 : decode cX11_waysSo 121 = .ok (.iload 4, 2) := by decide +kernel
theorem dX11_waysSo_123 : decode cX11_waysSo 123 = .ok (.iload 5, 2) := by decide +kernel
theorem dX11_waysSo_125 : decode cX11_waysSo 125 = .ok (.invokevirtual 318, 3) := by decide +kernel
theorem dX11_waysSo_128 : decode cX11_waysSo 128 = .ok (.iinc 5 1, 3) := by decide +kernel
theorem dX11_waysSo_131 : decode cX11_waysSo 131 = .ok (.goto (-34), 3) := by decide +kernel
theorem dX11_waysSo_134 : decode cX11_waysSo 134 = .ok (.iinc 4 1, 3) := by decide +kernel
theorem dX11_waysSo_137 : decode cX11_waysSo 137 = .ok (.goto (-60), 3) := by decide +kernel
theorem dX11_waysSo_140 : decode cX11_waysSo 140 = .ok (.lconst 0, 1) := by decide +kernel
theorem dX11_waysSo_141 : decode cX11_waysSo 141 = .ok (.lstore 4, 2) := by decide +kernel
theorem dX11_waysSo_143 : decode cX11_waysSo 143 = .ok (.iconst 0, 1) := by decide +kernel
theorem dX11_waysSo_144 : decode cX11_waysSo 144 = .ok (.istore 6, 2) := by decide +kernel
theorem dX11_waysSo_146 : decode cX11_waysSo 146 = .ok (.iload 6, 2) := by decide +kernel
theorem dX11_waysSo_148 : decode cX11_waysSo 148 = .ok (.sipush 20280, 3) := by decide +kernel
theorem dX11_waysSo_151 : decode cX11_waysSo 151 = .ok (.if_icmp .ge 58, 3) := by decide +kernel
theorem dX11_waysSo_154 : decode cX11_waysSo 154 = .ok (.lload 4, 2) := by decide +kernel
theorem dX11_waysSo_156 : decode cX11_waysSo 156 = .ok (.aload_n 0, 1) := by decide +kernel
theorem dX11_waysSo_157 : decode cX11_waysSo 157 = .ok (.getfield 53, 3) := by decide +kernel
theorem dX11_waysSo_160 : decode cX11_waysSo 160 = .ok (.iload 6, 2) := by decide +kernel
theorem dX11_waysSo_162 : decode cX11_waysSo 162 = .ok (.laload, 1) := by decide +kernel
theorem dX11_waysSo_163 : decode cX11_waysSo 163 = .ok (.lconst 0, 1) := by decide +kernel
theorem dX11_waysSo_164 : decode cX11_waysSo 164 = .ok (.lcmp, 1) := by decide +kernel
theorem dX11_waysSo_165 : decode cX11_waysSo 165 = .ok (.ifCond .le 34, 3) := by decide +kernel
theorem dX11_waysSo_168 : decode cX11_waysSo 168 = .ok (.aload_n 0, 1) := by decide +kernel
theorem dX11_waysSo_169 : decode cX11_waysSo 169 = .ok (.iload_n 1, 1) := by decide +kernel
theorem dX11_waysSo_170 : decode cX11_waysSo 170 = .ok (.iload 6, 2) := by decide +kernel
theorem dX11_waysSo_172 : decode cX11_waysSo 172 = .ok (.bipush 13, 2) := by decide +kernel
theorem dX11_waysSo_174 : decode cX11_waysSo 174 = .ok (.idiv, 1) := by decide +kernel
theorem dX11_waysSo_175 : decode cX11_waysSo 175 = .ok (.bipush 13, 2) := by decide +kernel
theorem dX11_waysSo_177 : decode cX11_waysSo 177 = .ok (.irem, 1) := by decide +kernel
theorem dX11_waysSo_178 : decode cX11_waysSo 178 = .ok (.iload 6, 2) := by decide +kernel
theorem dX11_waysSo_180 : decode cX11_waysSo 180 = .ok (.bipush 13, 2) := by decide +kernel
theorem dX11_waysSo_182 : decode cX11_waysSo 182 = .ok (.irem, 1) := by decide +kernel
theorem dX11_waysSo_183 : decode cX11_waysSo 183 = .ok (.invokevirtual 322, 3) := by decide +kernel
theorem dX11_waysSo_186 : decode cX11_waysSo 186 = .ok (.ifCond .eq 13, 3) := by decide +kernel
theorem dX11_waysSo_189 : decode cX11_waysSo 189 = .ok (.aload_n 0, 1) := by decide +kernel
theorem dX11_waysSo_190 : decode cX11_waysSo 190 = .ok (.getfield 53, 3) := by decide +kernel
theorem dX11_waysSo_193 : decode cX11_waysSo 193 = .ok (.iload 6, 2) := by decide +kernel
theorem dX11_waysSo_195 : decode cX11_waysSo 195 = .ok (.laload, 1) := by decide +kernel
theorem dX11_waysSo_196 : decode cX11_waysSo 196 = .ok (.goto 4, 3) := by decide +kernel
theorem dX11_waysSo_199 : decode cX11_waysSo 199 = .ok (.lconst 0, 1) := by decide +kernel
theorem dX11_waysSo_200 : decode cX11_waysSo 200 = .ok (.ladd, 1) := by decide +kernel
theorem dX11_waysSo_201 : decode cX11_waysSo 201 = .ok (.lstore 4, 2) := by decide +kernel
theorem dX11_waysSo_203 : decode cX11_waysSo 203 = .ok (.iinc 6 1, 3) := by decide +kernel
theorem dX11_waysSo_206 : decode cX11_waysSo 206 = .ok (.goto (-60), 3) := by decide +kernel
theorem dX11_waysSo_209 : decode cX11_waysSo 209 = .ok (.lload 4, 2) := by decide +kernel
theorem dX11_waysSo_211 : decode cX11_waysSo 211 = .ok (.lreturn, 1) := by decide +kernel
theorem dX11_goOn_0 : decode cX11_goOn 0 = .ok (.iload 5, 2) := by decide +kernel
theorem dX11_goOn_2 : decode cX11_goOn 2 = .ok (.bipush 13, 2) := by decide +kernel
theorem dX11_goOn_4 : decode cX11_goOn 4 = .ok (.irem, 1) := by decide +kernel
theorem dX11_goOn_5 : decode cX11_goOn 5 = .ok (.istore 6, 2) := by decide +kernel
theorem dX11_goOn_7 : decode cX11_goOn 7 = .ok (.iload 5, 2) := by decide +kernel
theorem dX11_goOn_9 : decode cX11_goOn 9 = .ok (.bipush 13, 2) := by decide +kernel
theorem dX11_goOn_11 : decode cX11_goOn 11 = .ok (.idiv, 1) := by decide +kernel
theorem dX11_goOn_12 : decode cX11_goOn 12 = .ok (.bipush 13, 2) := by decide +kernel
theorem dX11_goOn_14 : decode cX11_goOn 14 = .ok (.irem, 1) := by decide +kernel
theorem dX11_goOn_15 : decode cX11_goOn 15 = .ok (.istore 7, 2) := by decide +kernel
theorem dX11_goOn_17 : decode cX11_goOn 17 = .ok (.iload 5, 2) := by decide +kernel
theorem dX11_goOn_19 : decode cX11_goOn 19 = .ok (.sipush 169, 3) := by decide +kernel
theorem dX11_goOn_22 : decode cX11_goOn 22 = .ok (.idiv, 1) := by decide +kernel
theorem dX11_goOn_23 : decode cX11_goOn 23 = .ok (.iconst 5, 1) := by decide +kernel
theorem dX11_goOn_24 : decode cX11_goOn 24 = .ok (.irem, 1) := by decide +kernel
theorem dX11_goOn_25 : decode cX11_goOn 25 = .ok (.istore 8, 2) := by decide +kernel
theorem dX11_goOn_27 : decode cX11_goOn 27 = .ok (.iload 5, 2) := by decide +kernel
theorem dX11_goOn_29 : decode cX11_goOn 29 = .ok (.sipush 845, 3) := by decide +kernel
theorem dX11_goOn_32 : decode cX11_goOn 32 = .ok (.idiv, 1) := by decide +kernel
theorem dX11_goOn_33 : decode cX11_goOn 33 = .ok (.istore 9, 2) := by decide +kernel
theorem dX11_goOn_35 : decode cX11_goOn 35 = .ok (.iload 9, 2) := by decide +kernel
theorem dX11_goOn_37 : decode cX11_goOn 37 = .ok (.istore 10, 2) := by decide +kernel
theorem dX11_goOn_39 : decode cX11_goOn 39 = .ok (.iload 10, 2) := by decide +kernel
theorem dX11_goOn_41 : decode cX11_goOn 41 = .ok (.bipush 24, 2) := by decide +kernel
theorem dX11_goOn_43 : decode cX11_goOn 43 = .ok (.if_icmp .ge 78, 3) := by decide +kernel
theorem dX11_goOn_46 : decode cX11_goOn 46 = .ok (.aload_n 0, 1) := by decide +kernel
theorem dX11_goOn_47 : decode cX11_goOn 47 = .ok (.iload 4, 2) := by decide +kernel
theorem dX11_goOn_49 : decode cX11_goOn 49 = .ok (.iload 9, 2) := by decide +kernel
theorem dX11_goOn_51 : decode cX11_goOn 51 = .ok (.iload 8, 2) := by decide +kernel
theorem dX11_goOn_53 : decode cX11_goOn 53 = .ok (.iload 10, 2) := by decide +kernel
theorem dX11_goOn_55 : decode cX11_goOn 55 = .ok (.invokevirtual 213, 3) := by decide +kernel
theorem dX11_goOn_58 : decode cX11_goOn 58 = .ok (.istore 11, 2) := by decide +kernel
theorem dX11_goOn_60 : decode cX11_goOn 60 = .ok (.iload 11, 2) := by decide +kernel
theorem dX11_goOn_62 : decode cX11_goOn 62 = .ok (.ifCond .le 53, 3) := by decide +kernel
theorem dX11_goOn_65 : decode cX11_goOn 65 = .ok (.aload_n 0, 1) := by decide +kernel
theorem dX11_goOn_66 : decode cX11_goOn 66 = .ok (.getfield 53, 3) := by decide +kernel
theorem dX11_goOn_69 : decode cX11_goOn 69 = .ok (.iload 10, 2) := by decide +kernel
theorem dX11_goOn_71 : decode cX11_goOn 71 = .ok (.iload 11, 2) := by decide +kernel
theorem dX11_goOn_73 : decode cX11_goOn 73 = .ok (.aload_n 0, 1) := by decide +kernel
theorem dX11_goOn_74 : decode cX11_goOn 74 = .ok (.iload_n 1, 1) := by decide +kernel
theorem dX11_goOn_75 : decode cX11_goOn 75 = .ok (.iconst 0, 1) := by decide +kernel
theorem dX11_goOn_76 : decode cX11_goOn 76 = .ok (.iload_n 2, 1) := by decide +kernel
theorem dX11_goOn_77 : decode cX11_goOn 77 = .ok (.iload 4, 2) := by decide +kernel
theorem dX11_goOn_79 : decode cX11_goOn 79 = .ok (.iload 10, 2) := by decide +kernel
theorem dX11_goOn_81 : decode cX11_goOn 81 = .ok (.iload_n 3, 1) := by decide +kernel
theorem dX11_goOn_82 : decode cX11_goOn 82 = .ok (.iload 7, 2) := by decide +kernel
theorem dX11_goOn_84 : decode cX11_goOn 84 = .ok (.invokevirtual 308, 3) := by decide +kernel
theorem dX11_goOn_87 : decode cX11_goOn 87 = .ok (.aload_n 0, 1) := by decide +kernel
theorem dX11_goOn_88 : decode cX11_goOn 88 = .ok (.iload_n 1, 1) := by decide +kernel
theorem dX11_goOn_89 : decode cX11_goOn 89 = .ok (.iconst 1, 1) := by decide +kernel
theorem dX11_goOn_90 : decode cX11_goOn 90 = .ok (.iload_n 2, 1) := by decide +kernel
theorem dX11_goOn_91 : decode cX11_goOn 91 = .ok (.iload 4, 2) := by decide +kernel
theorem dX11_goOn_93 : decode cX11_goOn 93 = .ok (.iload 10, 2) := by decide +kernel
theorem dX11_goOn_95 : decode cX11_goOn 95 = .ok (.iload_n 3, 1) := by decide +kernel
theorem dX11_goOn_96 : decode cX11_goOn 96 = .ok (.iload 6, 2) := by decide +kernel
theorem dX11_goOn_98 : decode cX11_goOn 98 = .ok (.invokevirtual 308, 3) := by decide +kernel
theorem dX11_goOn_101 : decode cX11_goOn 101 = .ok (.invokestatic 312, 3) := by decide +kernel
theorem dX11_goOn_104 : decode cX11_goOn 104 = .ok (.dup2, 1) := by decide +kernel
theorem dX11_goOn_105 : decode cX11_goOn 105 = .ok (.laload, 1) := by decide +kernel
theorem dX11_goOn_106 : decode cX11_goOn 106 = .ok (.aload_n 0, 1) := by decide +kernel
theorem dX11_goOn_107 : decode cX11_goOn 107 = .ok (.getfield 50, 3) := by decide +kernel
theorem dX11_goOn_110 : decode cX11_goOn 110 = .ok (.iload 5, 2) := by decide +kernel
theorem dX11_goOn_112 : decode cX11_goOn 112 = .ok (.laload, 1) := by decide +kernel
theorem dX11_goOn_113 : decode cX11_goOn 113 = .ok (.ladd, 1) := by decide +kernel
theorem dX11_goOn_114 : decode cX11_goOn 114 = .ok (.lastore, 1) := by decide +kernel
theorem dX11_goOn_115 : decode cX11_goOn 115 = .ok (.iinc 10 1, 3) := by decide +kernel
theorem dX11_goOn_118 : decode cX11_goOn 118 = .ok (.goto (-79), 3) := by decide +kernel
theorem dX11_goOn_121 : decode cX11_goOn 121 = .ok (.return_, 1) := by decide +kernel
theorem dX11_chance_0 : decode cX11_chance 0 = .ok (.aload_n 0, 1) := by decide +kernel
theorem dX11_chance_1 : decode cX11_chance 1 = .ok (.iload_n 1, 1) := by decide +kernel
theorem dX11_chance_2 : decode cX11_chance 2 = .ok (.invokevirtual 326, 3) := by decide +kernel
theorem dX11_chance_5 : decode cX11_chance 5 = .ok (.ifCond .eq 20, 3) := by decide +kernel
theorem dX11_chance_8 : decode cX11_chance 8 = .ok (.iload_n 2, 1) := by decide +kernel
theorem dX11_chance_9 : decode cX11_chance 9 = .ok (.invokestatic 160, 3) := by decide +kernel
theorem dX11_chance_12 : decode cX11_chance 12 = .ok (.ifCond .eq 13, 3) := by decide +kernel
theorem dX11_chance_15 : decode cX11_chance 15 = .ok (.iload_n 3, 1) := by decide +kernel
theorem dX11_chance_16 : decode cX11_chance 16 = .ok (.i2l, 1) := by decide +kernel
theorem dX11_chance_17 : decode cX11_chance 17 = .ok (.lconst 0, 1) := by decide +kernel
theorem dX11_chance_18 : decode cX11_chance 18 = .ok (.lconst 1, 1) := by decide +kernel
theorem dX11_chance_19 : decode cX11_chance 19 = .ok (.invokestatic 70, 3) := by decide +kernel
theorem dX11_chance_22 : decode cX11_chance 22 = .ok (.ifCond .ne 7, 3) := by decide +kernel
theorem dX11_chance_25 : decode cX11_chance 25 = .ok (.ldc2_w 236, 3) := by decide +kernel
theorem dX11_chance_28 : decode cX11_chance 28 = .ok (.lreturn, 1) := by decide +kernel
theorem dX11_chance_29 : decode cX11_chance 29 = .ok (.aload_n 0, 1) := by decide +kernel
theorem dX11_chance_30 : decode cX11_chance 30 = .ok (.iload_n 2, 1) := by decide +kernel
theorem dX11_chance_31 : decode cX11_chance 31 = .ok (.invokevirtual 267, 3) := by decide +kernel
theorem dX11_chance_34 : decode cX11_chance 34 = .ok (.istore 4, 2) := by decide +kernel
theorem dX11_chance_36 : decode cX11_chance 36 = .ok (.iload 4, 2) := by decide +kernel
theorem dX11_chance_38 : decode cX11_chance 38 = .ok (.ifCond .ge 9, 3) := by decide +kernel
theorem dX11_chance_41 : decode cX11_chance 41 = .ok (.iload 4, 2) := by decide +kernel
theorem dX11_chance_43 : decode cX11_chance 43 = .ok (.i2l, 1) := by decide +kernel
theorem dX11_chance_44 : decode cX11_chance 44 = .ok (.goto 18, 3) := by decide +kernel
theorem dX11_chance_47 : decode cX11_chance 47 = .ok (.aload_n 0, 1) := by decide +kernel
theorem dX11_chance_48 : decode cX11_chance 48 = .ok (.iload_n 1, 1) := by decide +kernel
theorem dX11_chance_49 : decode cX11_chance 49 = .ok (.iload_n 2, 1) := by decide +kernel
theorem dX11_chance_50 : decode cX11_chance 50 = .ok (.iconst 0, 1) := by decide +kernel
theorem dX11_chance_51 : decode cX11_chance 51 = .ok (.invokevirtual 329, 3) := by decide +kernel
theorem dX11_chance_54 : decode cX11_chance 54 = .ok (.aload_n 0, 1) := by decide +kernel
theorem dX11_chance_55 : decode cX11_chance 55 = .ok (.getfield 217, 3) := by decide +kernel
theorem dX11_chance_58 : decode cX11_chance 58 = .ok (.iload_n 3, 1) := by decide +kernel
theorem dX11_chance_59 : decode cX11_chance 59 = .ok (.invokestatic 257, 3) := by decide +kernel
theorem dX11_chance_62 : decode cX11_chance 62 = .ok (.lreturn, 1) := by decide +kernel
theorem dX11_holds_0 : decode cX11_holds 0 = .ok (.aload_n 0, 1) := by decide +kernel
theorem dX11_holds_1 : decode cX11_holds 1 = .ok (.iload_n 1, 1) := by decide +kernel
theorem dX11_holds_2 : decode cX11_holds 2 = .ok (.invokevirtual 326, 3) := by decide +kernel
theorem dX11_holds_5 : decode cX11_holds 5 = .ok (.ifCond .eq 10, 3) := by decide +kernel
theorem dX11_holds_8 : decode cX11_holds 8 = .ok (.iload_n 2, 1) := by decide +kernel
theorem dX11_holds_9 : decode cX11_holds 9 = .ok (.invokestatic 160, 3) := by decide +kernel
theorem dX11_holds_12 : decode cX11_holds 12 = .ok (.ifCond .ne 5, 3) := by decide +kernel
theorem dX11_holds_15 : decode cX11_holds 15 = .ok (.iconst (-1), 1) := by decide +kernel
theorem dX11_holds_16 : decode cX11_holds 16 = .ok (.ireturn, 1) := by decide +kernel
theorem dX11_holds_17 : decode cX11_holds 17 = .ok (.aload_n 0, 1) := by decide +kernel
theorem dX11_holds_18 : decode cX11_holds 18 = .ok (.getfield 7, 3) := by decide +kernel
theorem dX11_holds_21 : decode cX11_holds 21 = .ok (.bipush 7, 2) := by decide +kernel
theorem dX11_holds_23 : decode cX11_holds 23 = .ok (.iload_n 2, 1) := by decide +kernel
theorem dX11_holds_24 : decode cX11_holds 24 = .ok (.iadd, 1) := by decide +kernel
theorem dX11_holds_25 : decode cX11_holds 25 = .ok (.iaload, 1) := by decide +kernel
theorem dX11_holds_26 : decode cX11_holds 26 = .ok (.ifCond .ne 6, 3) := by decide +kernel
theorem dX11_holds_29 : decode cX11_holds 29 = .ok (.bipush (-2), 2) := by decide +kernel
theorem dX11_holds_31 : decode cX11_holds 31 = .ok (.ireturn, 1) := by decide +kernel
theorem dX11_holds_32 : decode cX11_holds 32 = .ok (.sipush 326, 3) := by decide +kernel
theorem dX11_holds_35 : decode cX11_holds 35 = .ok (.bipush 14, 2) := by decide +kernel
theorem dX11_holds_37 : decode cX11_holds 37 = .ok (.iload_n 1, 1) := by decide +kernel
theorem dX11_holds_38 : decode cX11_holds 38 = .ok (.imul, 1) := by decide +kernel
theorem dX11_holds_39 : decode cX11_holds 39 = .ok (.iadd, 1) := by decide +kernel
theorem dX11_holds_40 : decode cX11_holds 40 = .ok (.istore_n 3, 1) := by decide +kernel
theorem dX11_holds_41 : decode cX11_holds 41 = .ok (.iconst 0, 1) := by decide +kernel
theorem dX11_holds_42 : decode cX11_holds 42 = .ok (.istore 4, 2) := by decide +kernel
theorem dX11_holds_44 : decode cX11_holds 44 = .ok (.iconst 0, 1) := by decide +kernel
theorem dX11_holds_45 : decode cX11_holds 45 = .ok (.istore 5, 2) := by decide +kernel
theorem dX11_holds_47 : decode cX11_holds 47 = .ok (.iconst 0, 1) := by decide +kernel
theorem dX11_holds_48 : decode cX11_holds 48 = .ok (.istore 6, 2) := by decide +kernel
theorem dX11_holds_50 : decode cX11_holds 50 = .ok (.iload 6, 2) := by decide +kernel
theorem dX11_holds_52 : decode cX11_holds 52 = .ok (.aload_n 0, 1) := by decide +kernel
theorem dX11_holds_53 : decode cX11_holds 53 = .ok (.getfield 7, 3) := by decide +kernel
theorem dX11_holds_56 : decode cX11_holds 56 = .ok (.iconst 5, 1) := by decide +kernel
theorem dX11_holds_57 : decode cX11_holds 57 = .ok (.iload_n 2, 1) := by decide +kernel
theorem dX11_holds_58 : decode cX11_holds 58 = .ok (.iadd, 1) := by decide +kernel
theorem dX11_holds_59 : decode cX11_holds 59 = .ok (.iaload, 1) := by decide +kernel
theorem dX11_holds_60 : decode cX11_holds 60 = .ok (.if_icmp .ge 101, 3) := by decide +kernel
theorem dX11_holds_63 : decode cX11_holds 63 = .ok (.aload_n 0, 1) := by decide +kernel
theorem dX11_holds_64 : decode cX11_holds 64 = .ok (.iload_n 2, 1) := by decide +kernel
theorem dX11_holds_65 : decode cX11_holds 65 = .ok (.iload 6, 2) := by decide +kernel
theorem dX11_holds_67 : decode cX11_holds 67 = .ok (.invokevirtual 177, 3) := by decide +kernel
theorem dX11_holds_70 : decode cX11_holds 70 = .ok (.iconst 2, 1) := by decide +kernel
theorem dX11_holds_71 : decode cX11_holds 71 = .ok (.if_icmp .eq 84, 3) := by decide +kernel
theorem dX11_holds_74 : decode cX11_holds 74 = .ok (.aload_n 0, 1) := by decide +kernel
theorem dX11_holds_75 : decode cX11_holds 75 = .ok (.getfield 7, 3) := by decide +kernel
theorem dX11_holds_78 : decode cX11_holds 78 = .ok (.sipush 206, 3) := by decide +kernel
theorem dX11_holds_81 : decode cX11_holds 81 = .ok (.bipush 12, 2) := by decide +kernel
theorem dX11_holds_83 : decode cX11_holds 83 = .ok (.iload_n 2, 1) := by decide +kernel
theorem dX11_holds_84 : decode cX11_holds 84 = .ok (.imul, 1) := by decide +kernel
theorem dX11_holds_85 : decode cX11_holds 85 = .ok (.iadd, 1) := by decide +kernel
theorem dX11_holds_86 : decode cX11_holds 86 = .ok (.iload 6, 2) := by decide +kernel
theorem dX11_holds_88 : decode cX11_holds 88 = .ok (.iadd, 1) := by decide +kernel
theorem dX11_holds_89 : decode cX11_holds 89 = .ok (.iaload, 1) := by decide +kernel
theorem dX11_holds_90 : decode cX11_holds 90 = .ok (.istore 7, 2) := by decide +kernel
theorem dX11_holds_92 : decode cX11_holds 92 = .ok (.iload 4, 2) := by decide +kernel
theorem dX11_holds_94 : decode cX11_holds 94 = .ok (.aload_n 0, 1) := by decide +kernel
theorem dX11_holds_95 : decode cX11_holds 95 = .ok (.iload_n 3, 1) := by decide +kernel
theorem dX11_holds_96 : decode cX11_holds 96 = .ok (.iconst 2, 1) := by decide +kernel
theorem dX11_holds_97 : decode cX11_holds 97 = .ok (.iadd, 1) := by decide +kernel
theorem dX11_holds_98 : decode cX11_holds 98 = .ok (.iload_n 2, 1) := by decide +kernel
theorem dX11_holds_99 : decode cX11_holds 99 = .ok (.iload 6, 2) := by decide +kernel
theorem dX11_holds_101 : decode cX11_holds 101 = .ok (.iload 7, 2) := by decide +kernel
theorem dX11_holds_103 : decode cX11_holds 103 = .ok (.iconst 0, 1) := by decide +kernel
theorem dX11_holds_104 : decode cX11_holds 104 = .ok (.invokevirtual 301, 3) := by decide +kernel
theorem dX11_holds_107 : decode cX11_holds 107 = .ok (.ifCond .eq 7, 3) := by decide +kernel
theorem dX11_holds_110 : decode cX11_holds 110 = .ok (.iconst 1, 1) := by decide +kernel
theorem dX11_holds_111 : decode cX11_holds 111 = .ok (.goto 4, 3) := by decide +kernel
theorem dX11_holds_114 : decode cX11_holds 114 = .ok (.iconst 0, 1) := by decide +kernel
theorem dX11_holds_115 : decode cX11_holds 115 = .ok (.iadd, 1) := by decide +kernel
theorem dX11_holds_116 : decode cX11_holds 116 = .ok (.istore 4, 2) := by decide +kernel
theorem dX11_holds_118 : decode cX11_holds 118 = .ok (.iload 5, 2) := by decide +kernel
theorem dX11_holds_120 : decode cX11_holds 120 = .ok (.aload_n 0, 1) := by decide +kernel
theorem dX11_holds_121 : decode cX11_holds 121 = .ok (.getfield 7, 3) := by decide +kernel
theorem dX11_holds_124 : decode cX11_holds 124 = .ok (.iload_n 3, 1) := by decide +kernel
theorem dX11_holds_125 : decode cX11_holds 125 = .ok (.iaload, 1) := by decide +kernel
theorem dX11_holds_126 : decode cX11_holds 126 = .ok (.iconst 2, 1) := by decide +kernel
theorem dX11_holds_127 : decode cX11_holds 127 = .ok (.if_icmp .ne 24, 3) := by decide +kernel
theorem dX11_holds_130 : decode cX11_holds 130 = .ok (.aload_n 0, 1) := by decide +kernel
theorem dX11_holds_131 : decode cX11_holds 131 = .ok (.iload_n 3, 1) := by decide +kernel
theorem dX11_holds_132 : decode cX11_holds 132 = .ok (.bipush 8, 2) := by decide +kernel
theorem dX11_holds_134 : decode cX11_holds 134 = .ok (.iadd, 1) := by decide +kernel
theorem dX11_holds_135 : decode cX11_holds 135 = .ok (.iload_n 2, 1) := by decide +kernel
theorem dX11_holds_136 : decode cX11_holds 136 = .ok (.iload 6, 2) := by decide +kernel
theorem dX11_holds_138 : decode cX11_holds 138 = .ok (.iload 7, 2) := by decide +kernel
theorem dX11_holds_140 : decode cX11_holds 140 = .ok (.iconst 0, 1) := by decide +kernel
theorem dX11_holds_141 : decode cX11_holds 141 = .ok (.invokevirtual 301, 3) := by decide +kernel
theorem dX11_holds_144 : decode cX11_holds 144 = .ok (.ifCond .eq 7, 3) := by decide +kernel
theorem dX11_holds_147 : decode cX11_holds 147 = .ok (.iconst 1, 1) := by decide +kernel
theorem dX11_holds_148 : decode cX11_holds 148 = .ok (.goto 4, 3) := by decide +kernel
theorem dX11_holds_151 : decode cX11_holds 151 = .ok (.iconst 0, 1) := by decide +kernel
theorem dX11_holds_152 : decode cX11_holds 152 = .ok (.iadd, 1) := by decide +kernel
theorem dX11_holds_153 : decode cX11_holds 153 = .ok (.istore 5, 2) := by decide +kernel
theorem dX11_holds_155 : decode cX11_holds 155 = .ok (.iinc 6 1, 3) := by decide +kernel
theorem dX11_holds_158 : decode cX11_holds 158 = .ok (.goto (-108), 3) := by decide +kernel
theorem dX11_holds_161 : decode cX11_holds 161 = .ok (.aload_n 0, 1) := by decide +kernel
theorem dX11_holds_162 : decode cX11_holds 162 = .ok (.iload_n 1, 1) := by decide +kernel
theorem dX11_holds_163 : decode cX11_holds 163 = .ok (.iload 4, 2) := by decide +kernel
theorem dX11_holds_165 : decode cX11_holds 165 = .ok (.iload 5, 2) := by decide +kernel
theorem dX11_holds_167 : decode cX11_holds 167 = .ok (.invokevirtual 322, 3) := by decide +kernel
theorem dX11_holds_170 : decode cX11_holds 170 = .ok (.ifCond .eq 7, 3) := by decide +kernel
theorem dX11_holds_173 : decode cX11_holds 173 = .ok (.iconst 1, 1) := by decide +kernel
theorem dX11_holds_174 : decode cX11_holds 174 = .ok (.goto 4, 3) := by decide +kernel
theorem dX11_holds_177 : decode cX11_holds 177 = .ok (.iconst 0, 1) := by decide +kernel
theorem dX11_holds_178 : decode cX11_holds 178 = .ok (.ireturn, 1) := by decide +kernel
theorem dX11_looked_0 : decode cX11_looked 0 = .ok (.aload_n 0, 1) := by decide +kernel
theorem dX11_looked_1 : decode cX11_looked 1 = .ok (.iload_n 1, 1) := by decide +kernel
theorem dX11_looked_2 : decode cX11_looked 2 = .ok (.invokevirtual 326, 3) := by decide +kernel
theorem dX11_looked_5 : decode cX11_looked 5 = .ok (.ifCond .eq 46, 3) := by decide +kernel
theorem dX11_looked_8 : decode cX11_looked 8 = .ok (.iload_n 2, 1) := by decide +kernel
theorem dX11_looked_9 : decode cX11_looked 9 = .ok (.invokestatic 160, 3) := by decide +kernel
theorem dX11_looked_12 : decode cX11_looked 12 = .ok (.ifCond .eq 39, 3) := by decide +kernel
theorem dX11_looked_15 : decode cX11_looked 15 = .ok (.iload 4, 2) := by decide +kernel
theorem dX11_looked_17 : decode cX11_looked 17 = .ok (.i2l, 1) := by decide +kernel
theorem dX11_looked_18 : decode cX11_looked 18 = .ok (.lconst 1, 1) := by decide +kernel
theorem dX11_looked_19 : decode cX11_looked 19 = .ok (.ldc2_w 333, 3) := by decide +kernel
theorem dX11_looked_22 : decode cX11_looked 22 = .ok (.invokestatic 70, 3) := by decide +kernel
theorem dX11_looked_25 : decode cX11_looked 25 = .ok (.ifCond .eq 26, 3) := by decide +kernel
theorem dX11_looked_28 : decode cX11_looked 28 = .ok (.iload_n 3, 1) := by decide +kernel
theorem dX11_looked_29 : decode cX11_looked 29 = .ok (.i2l, 1) := by decide +kernel
theorem dX11_looked_30 : decode cX11_looked 30 = .ok (.lconst 0, 1) := by decide +kernel
theorem dX11_looked_31 : decode cX11_looked 31 = .ok (.iload 4, 2) := by decide +kernel
theorem dX11_looked_33 : decode cX11_looked 33 = .ok (.i2l, 1) := by decide +kernel
theorem dX11_looked_34 : decode cX11_looked 34 = .ok (.invokestatic 70, 3) := by decide +kernel
theorem dX11_looked_37 : decode cX11_looked 37 = .ok (.ifCond .eq 14, 3) := by decide +kernel
theorem dX11_looked_40 : decode cX11_looked 40 = .ok (.iload 5, 2) := by decide +kernel
theorem dX11_looked_42 : decode cX11_looked 42 = .ok (.i2l, 1) := by decide +kernel
theorem dX11_looked_43 : decode cX11_looked 43 = .ok (.lconst 0, 1) := by decide +kernel
theorem dX11_looked_44 : decode cX11_looked 44 = .ok (.lconst 1, 1) := by decide +kernel
theorem dX11_looked_45 : decode cX11_looked 45 = .ok (.invokestatic 70, 3) := by decide +kernel
theorem dX11_looked_48 : decode cX11_looked 48 = .ok (.ifCond .ne 5, 3) := by decide +kernel
theorem dX11_looked_51 : decode cX11_looked 51 = .ok (.iconst (-1), 1) := by decide +kernel
theorem dX11_looked_52 : decode cX11_looked 52 = .ok (.ireturn, 1) := by decide +kernel
theorem dX11_looked_53 : decode cX11_looked 53 = .ok (.aload_n 0, 1) := by decide +kernel
theorem dX11_looked_54 : decode cX11_looked 54 = .ok (.iload_n 2, 1) := by decide +kernel
theorem dX11_looked_55 : decode cX11_looked 55 = .ok (.invokevirtual 267, 3) := by decide +kernel
theorem dX11_looked_58 : decode cX11_looked 58 = .ok (.istore 6, 2) := by decide +kernel
theorem dX11_looked_60 : decode cX11_looked 60 = .ok (.iload 6, 2) := by decide +kernel
theorem dX11_looked_62 : decode cX11_looked 62 = .ok (.ifCond .ge 6, 3) := by decide +kernel
theorem dX11_looked_65 : decode cX11_looked 65 = .ok (.iload 6, 2) := by decide +kernel
theorem dX11_looked_67 : decode cX11_looked 67 = .ok (.ireturn, 1) := by decide +kernel
theorem dX11_looked_68 : decode cX11_looked 68 = .ok (.sipush 326, 3) := by decide +kernel
theorem dX11_looked_71 : decode cX11_looked 71 = .ok (.bipush 14, 2) := by decide +kernel
theorem dX11_looked_73 : decode cX11_looked 73 = .ok (.iload_n 1, 1) := by decide +kernel
theorem dX11_looked_74 : decode cX11_looked 74 = .ok (.imul, 1) := by decide +kernel
theorem dX11_looked_75 : decode cX11_looked 75 = .ok (.iadd, 1) := by decide +kernel
theorem dX11_looked_76 : decode cX11_looked 76 = .ok (.istore 7, 2) := by decide +kernel
theorem dX11_looked_78 : decode cX11_looked 78 = .ok (.aload_n 0, 1) := by decide +kernel
theorem dX11_looked_79 : decode cX11_looked 79 = .ok (.getfield 7, 3) := by decide +kernel
theorem dX11_looked_82 : decode cX11_looked 82 = .ok (.iload 7, 2) := by decide +kernel
theorem dX11_looked_84 : decode cX11_looked 84 = .ok (.bipush 6, 2) := by decide +kernel
theorem dX11_looked_86 : decode cX11_looked 86 = .ok (.iadd, 1) := by decide +kernel
theorem dX11_looked_87 : decode cX11_looked 87 = .ok (.iaload, 1) := by decide +kernel
theorem dX11_looked_88 : decode cX11_looked 88 = .ok (.istore 8, 2) := by decide +kernel
theorem dX11_looked_90 : decode cX11_looked 90 = .ok (.aload_n 0, 1) := by decide +kernel
theorem dX11_looked_91 : decode cX11_looked 91 = .ok (.getfield 7, 3) := by decide +kernel
theorem dX11_looked_94 : decode cX11_looked 94 = .ok (.iload 7, 2) := by decide +kernel
theorem dX11_looked_96 : decode cX11_looked 96 = .ok (.iaload, 1) := by decide +kernel
theorem dX11_looked_97 : decode cX11_looked 97 = .ok (.iconst 2, 1) := by decide +kernel
theorem dX11_looked_98 : decode cX11_looked 98 = .ok (.if_icmp .ne 31, 3) := by decide +kernel
theorem dX11_looked_101 : decode cX11_looked 101 = .ok (.aload_n 0, 1) := by decide +kernel
theorem dX11_looked_102 : decode cX11_looked 102 = .ok (.getfield 7, 3) := by decide +kernel
theorem dX11_looked_105 : decode cX11_looked 105 = .ok (.iload 7, 2) := by decide +kernel
theorem dX11_looked_107 : decode cX11_looked 107 = .ok (.bipush 12, 2) := by decide +kernel
theorem dX11_looked_109 : decode cX11_looked 109 = .ok (.iadd, 1) := by decide +kernel
theorem dX11_looked_110 : decode cX11_looked 110 = .ok (.iaload, 1) := by decide +kernel
theorem dX11_looked_111 : decode cX11_looked 111 = .ok (.iload 8, 2) := by decide +kernel
theorem dX11_looked_113 : decode cX11_looked 113 = .ok (.if_icmp .le 16, 3) := by decide +kernel
theorem dX11_looked_116 : decode cX11_looked 116 = .ok (.aload_n 0, 1) := by decide +kernel
theorem dX11_looked_117 : decode cX11_looked 117 = .ok (.getfield 7, 3) := by decide +kernel
theorem dX11_looked_120 : decode cX11_looked 120 = .ok (.iload 7, 2) := by decide +kernel
theorem dX11_looked_122 : decode cX11_looked 122 = .ok (.bipush 12, 2) := by decide +kernel
theorem dX11_looked_124 : decode cX11_looked 124 = .ok (.iadd, 1) := by decide +kernel
theorem dX11_looked_125 : decode cX11_looked 125 = .ok (.iaload, 1) := by decide +kernel
theorem dX11_looked_126 : decode cX11_looked 126 = .ok (.goto 5, 3) := by decide +kernel
theorem dX11_looked_129 : decode cX11_looked 129 = .ok (.iload 8, 2) := by decide +kernel
theorem dX11_looked_131 : decode cX11_looked 131 = .ok (.istore 8, 2) := by decide +kernel
theorem dX11_looked_133 : decode cX11_looked 133 = .ok (.iload 5, 2) := by decide +kernel
theorem dX11_looked_135 : decode cX11_looked 135 = .ok (.ifCond .ne 9, 3) := by decide +kernel
theorem dX11_looked_138 : decode cX11_looked 138 = .ok (.bipush 24, 2) := by decide +kernel
theorem dX11_looked_140 : decode cX11_looked 140 = .ok (.iload 8, 2) := by decide +kernel
theorem dX11_looked_142 : decode cX11_looked 142 = .ok (.isub, 1) := by decide +kernel
theorem dX11_looked_143 : decode cX11_looked 143 = .ok (.ireturn, 1) := by decide +kernel
theorem dX11_looked_144 : decode cX11_looked 144 = .ok (.iconst 0, 1) := by decide +kernel
theorem dX11_looked_145 : decode cX11_looked 145 = .ok (.istore 9, 2) := by decide +kernel
theorem dX11_looked_147 : decode cX11_looked 147 = .ok (.iconst 0, 1) := by decide +kernel
theorem dX11_looked_148 : decode cX11_looked 148 = .ok (.istore 10, 2) := by decide +kernel
theorem dX11_looked_150 : decode cX11_looked 150 = .ok (.iload 10, 2) := by decide +kernel
theorem dX11_looked_152 : decode cX11_looked 152 = .ok (.bipush 24, 2) := by decide +kernel
theorem dX11_looked_154 : decode cX11_looked 154 = .ok (.iload 8, 2) := by decide +kernel
theorem dX11_looked_156 : decode cX11_looked 156 = .ok (.isub, 1) := by decide +kernel
theorem dX11_looked_157 : decode cX11_looked 157 = .ok (.if_icmp .ge 42, 3) := by decide +kernel
theorem dX11_looked_160 : decode cX11_looked 160 = .ok (.iload 9, 2) := by decide +kernel
theorem dX11_looked_162 : decode cX11_looked 162 = .ok (.aload_n 0, 1) := by decide +kernel
theorem dX11_looked_163 : decode cX11_looked 163 = .ok (.iload_n 1, 1) := by decide +kernel
theorem dX11_looked_164 : decode cX11_looked 164 = .ok (.iload_n 2, 1) := by decide +kernel
theorem dX11_looked_165 : decode cX11_looked 165 = .ok (.iload 10, 2) := by decide +kernel
theorem dX11_looked_167 : decode cX11_looked 167 = .ok (.invokevirtual 329, 3) := by decide +kernel
theorem dX11_looked_170 : decode cX11_looked 170 = .ok (.iload 4, 2) := by decide +kernel
theorem dX11_looked_172 : decode cX11_looked 172 = .ok (.i2l, 1) := by decide +kernel
theorem dX11_looked_173 : decode cX11_looked 173 = .ok (.lmul, 1) := by decide +kernel
theorem dX11_looked_174 : decode cX11_looked 174 = .ok (.aload_n 0, 1) := by decide +kernel
theorem dX11_looked_175 : decode cX11_looked 175 = .ok (.getfield 217, 3) := by decide +kernel
theorem dX11_looked_178 : decode cX11_looked 178 = .ok (.iload_n 3, 1) := by decide +kernel
theorem dX11_looked_179 : decode cX11_looked 179 = .ok (.i2l, 1) := by decide +kernel
theorem dX11_looked_180 : decode cX11_looked 180 = .ok (.lmul, 1) := by decide +kernel
theorem dX11_looked_181 : decode cX11_looked 181 = .ok (.lcmp, 1) := by decide +kernel
theorem dX11_looked_182 : decode cX11_looked 182 = .ok (.ifCond .lt 7, 3) := by decide +kernel
theorem dX11_looked_185 : decode cX11_looked 185 = .ok (.iconst 1, 1) := by decide +kernel
theorem dX11_looked_186 : decode cX11_looked 186 = .ok (.goto 4, 3) := by decide +kernel
theorem dX11_looked_189 : decode cX11_looked 189 = .ok (.iconst 0, 1) := by decide +kernel
theorem dX11_looked_190 : decode cX11_looked 190 = .ok (.iadd, 1) := by decide +kernel
theorem dX11_looked_191 : decode cX11_looked 191 = .ok (.istore 9, 2) := by decide +kernel
theorem dX11_looked_193 : decode cX11_looked 193 = .ok (.iinc 10 1, 3) := by decide +kernel
theorem dX11_looked_196 : decode cX11_looked 196 = .ok (.goto (-46), 3) := by decide +kernel
theorem dX11_looked_199 : decode cX11_looked 199 = .ok (.iload 9, 2) := by decide +kernel
theorem dX11_looked_201 : decode cX11_looked 201 = .ok (.ireturn, 1) := by decide +kernel
theorem dX11_cause_0 : decode cX11_cause 0 = .ok (.iload_n 1, 1) := by decide +kernel
theorem dX11_cause_1 : decode cX11_cause 1 = .ok (.i2l, 1) := by decide +kernel
theorem dX11_cause_2 : decode cX11_cause 2 = .ok (.ldc2_w 335, 3) := by decide +kernel
theorem dX11_cause_5 : decode cX11_cause 5 = .ok (.ldc2_w 337, 3) := by decide +kernel
theorem dX11_cause_8 : decode cX11_cause 8 = .ok (.invokestatic 70, 3) := by decide +kernel
theorem dX11_cause_11 : decode cX11_cause 11 = .ok (.ifCond .eq 16, 3) := by decide +kernel
theorem dX11_cause_14 : decode cX11_cause 14 = .ok (.iload_n 2, 1) := by decide +kernel
theorem dX11_cause_15 : decode cX11_cause 15 = .ok (.i2l, 1) := by decide +kernel
theorem dX11_cause_16 : decode cX11_cause 16 = .ok (.iload_n 1, 1) := by decide +kernel
theorem dX11_cause_17 : decode cX11_cause 17 = .ok (.i2l, 1) := by decide +kernel
theorem dX11_cause_18 : decode cX11_cause 18 = .ok (.ldc2_w 337, 3) := by decide +kernel
theorem dX11_cause_21 : decode cX11_cause 21 = .ok (.invokestatic 70, 3) := by decide +kernel
theorem dX11_cause_24 : decode cX11_cause 24 = .ok (.ifCond .ne 5, 3) := by decide +kernel
theorem dX11_cause_27 : decode cX11_cause 27 = .ok (.iconst (-1), 1) := by decide +kernel
theorem dX11_cause_28 : decode cX11_cause 28 = .ok (.ireturn, 1) := by decide +kernel
theorem dX11_cause_29 : decode cX11_cause 29 = .ok (.aload_n 0, 1) := by decide +kernel
theorem dX11_cause_30 : decode cX11_cause 30 = .ok (.getfield 7, 3) := by decide +kernel
theorem dX11_cause_33 : decode cX11_cause 33 = .ok (.bipush 13, 2) := by decide +kernel
theorem dX11_cause_35 : decode cX11_cause 35 = .ok (.iaload, 1) := by decide +kernel
theorem dX11_cause_36 : decode cX11_cause 36 = .ok (.iconst 5, 1) := by decide +kernel
theorem dX11_cause_37 : decode cX11_cause 37 = .ok (.if_icmp .ne 6, 3) := by decide +kernel
theorem dX11_cause_40 : decode cX11_cause 40 = .ok (.bipush (-3), 2) := by decide +kernel
theorem dX11_cause_42 : decode cX11_cause 42 = .ok (.ireturn, 1) := by decide +kernel
theorem dX11_cause_43 : decode cX11_cause 43 = .ok (.aload_n 0, 1) := by decide +kernel
theorem dX11_cause_44 : decode cX11_cause 44 = .ok (.getfield 7, 3) := by decide +kernel
theorem dX11_cause_47 : decode cX11_cause 47 = .ok (.sipush 382, 3) := by decide +kernel
theorem dX11_cause_50 : decode cX11_cause 50 = .ok (.iconst 2, 1) := by decide +kernel
theorem dX11_cause_51 : decode cX11_cause 51 = .ok (.aload_n 0, 1) := by decide +kernel
theorem dX11_cause_52 : decode cX11_cause 52 = .ok (.getfield 7, 3) := by decide +kernel
theorem dX11_cause_55 : decode cX11_cause 55 = .ok (.bipush 13, 2) := by decide +kernel
theorem dX11_cause_57 : decode cX11_cause 57 = .ok (.iaload, 1) := by decide +kernel
theorem dX11_cause_58 : decode cX11_cause 58 = .ok (.imul, 1) := by decide +kernel
theorem dX11_cause_59 : decode cX11_cause 59 = .ok (.iadd, 1) := by decide +kernel
theorem dX11_cause_60 : decode cX11_cause 60 = .ok (.iload_n 1, 1) := by decide +kernel
theorem dX11_cause_61 : decode cX11_cause 61 = .ok (.iastore, 1) := by decide +kernel
theorem dX11_cause_62 : decode cX11_cause 62 = .ok (.aload_n 0, 1) := by decide +kernel
theorem dX11_cause_63 : decode cX11_cause 63 = .ok (.getfield 7, 3) := by decide +kernel
theorem dX11_cause_66 : decode cX11_cause 66 = .ok (.sipush 382, 3) := by decide +kernel
theorem dX11_cause_69 : decode cX11_cause 69 = .ok (.iconst 2, 1) := by decide +kernel
theorem dX11_cause_70 : decode cX11_cause 70 = .ok (.aload_n 0, 1) := by decide +kernel
theorem dX11_cause_71 : decode cX11_cause 71 = .ok (.getfield 7, 3) := by decide +kernel
theorem dX11_cause_74 : decode cX11_cause 74 = .ok (.bipush 13, 2) := by decide +kernel
theorem dX11_cause_76 : decode cX11_cause 76 = .ok (.iaload, 1) := by decide +kernel
theorem dX11_cause_77 : decode cX11_cause 77 = .ok (.imul, 1) := by decide +kernel
theorem dX11_cause_78 : decode cX11_cause 78 = .ok (.iadd, 1) := by decide +kernel
theorem dX11_cause_79 : decode cX11_cause 79 = .ok (.iconst 1, 1) := by decide +kernel
theorem dX11_cause_80 : decode cX11_cause 80 = .ok (.iadd, 1) := by decide +kernel
theorem dX11_cause_81 : decode cX11_cause 81 = .ok (.iload_n 2, 1) := by decide +kernel
theorem dX11_cause_82 : decode cX11_cause 82 = .ok (.iastore, 1) := by decide +kernel
theorem dX11_cause_83 : decode cX11_cause 83 = .ok (.aload_n 0, 1) := by decide +kernel
theorem dX11_cause_84 : decode cX11_cause 84 = .ok (.getfield 7, 3) := by decide +kernel
theorem dX11_cause_87 : decode cX11_cause 87 = .ok (.bipush 13, 2) := by decide +kernel
theorem dX11_cause_89 : decode cX11_cause 89 = .ok (.dup2, 1) := by decide +kernel
theorem dX11_cause_90 : decode cX11_cause 90 = .ok (.iaload, 1) := by decide +kernel
theorem dX11_cause_91 : decode cX11_cause 91 = .ok (.iconst 1, 1) := by decide +kernel
theorem dX11_cause_92 : decode cX11_cause 92 = .ok (.iadd, 1) := by decide +kernel
theorem dX11_cause_93 : decode cX11_cause 93 = .ok (.iastore, 1) := by decide +kernel
theorem dX11_cause_94 : decode cX11_cause 94 = .ok (.aload_n 0, 1) := by decide +kernel
theorem dX11_cause_95 : decode cX11_cause 95 = .ok (.getfield 7, 3) := by decide +kernel
theorem dX11_cause_98 : decode cX11_cause 98 = .ok (.bipush 13, 2) := by decide +kernel
theorem dX11_cause_100 : decode cX11_cause 100 = .ok (.iaload, 1) := by decide +kernel
theorem dX11_cause_101 : decode cX11_cause 101 = .ok (.iconst 1, 1) := by decide +kernel
theorem dX11_cause_102 : decode cX11_cause 102 = .ok (.isub, 1) := by decide +kernel
theorem dX11_cause_103 : decode cX11_cause 103 = .ok (.ireturn, 1) := by decide +kernel
theorem dX11_canSay_0 : decode cX11_canSay 0 = .ok (.iconst 0, 1) := by decide +kernel
theorem dX11_canSay_1 : decode cX11_canSay 1 = .ok (.istore_n 3, 1) := by decide +kernel
theorem dX11_canSay_2 : decode cX11_canSay 2 = .ok (.iconst 0, 1) := by decide +kernel
theorem dX11_canSay_3 : decode cX11_canSay 3 = .ok (.istore 4, 2) := by decide +kernel
theorem dX11_canSay_5 : decode cX11_canSay 5 = .ok (.iconst 0, 1) := by decide +kernel
theorem dX11_canSay_6 : decode cX11_canSay 6 = .ok (.istore 5, 2) := by decide +kernel
theorem dX11_canSay_8 : decode cX11_canSay 8 = .ok (.iload 5, 2) := by decide +kernel
theorem dX11_canSay_10 : decode cX11_canSay 10 = .ok (.aload_n 0, 1) := by decide +kernel
theorem dX11_canSay_11 : decode cX11_canSay 11 = .ok (.getfield 7, 3) := by decide +kernel
theorem dX11_canSay_14 : decode cX11_canSay 14 = .ok (.bipush 13, 2) := by decide +kernel
theorem dX11_canSay_16 : decode cX11_canSay 16 = .ok (.iaload, 1) := by decide +kernel
theorem dX11_canSay_17 : decode cX11_canSay 17 = .ok (.if_icmp .ge 55, 3) := by decide +kernel
theorem dX11_canSay_20 : decode cX11_canSay 20 = .ok (.iload_n 1, 1) := by decide +kernel
theorem dX11_canSay_21 : decode cX11_canSay 21 = .ok (.iload 5, 2) := by decide +kernel
theorem dX11_canSay_23 : decode cX11_canSay 23 = .ok (.ishr, 1) := by decide +kernel
theorem dX11_canSay_24 : decode cX11_canSay 24 = .ok (.iconst 1, 1) := by decide +kernel
theorem dX11_canSay_25 : decode cX11_canSay 25 = .ok (.iand, 1) := by decide +kernel
theorem dX11_canSay_26 : decode cX11_canSay 26 = .ok (.iconst 1, 1) := by decide +kernel
theorem dX11_canSay_27 : decode cX11_canSay 27 = .ok (.if_icmp .ne 39, 3) := by decide +kernel
theorem dX11_canSay_30 : decode cX11_canSay 30 = .ok (.iload_n 3, 1) := by decide +kernel
theorem dX11_canSay_31 : decode cX11_canSay 31 = .ok (.aload_n 0, 1) := by decide +kernel
theorem dX11_canSay_32 : decode cX11_canSay 32 = .ok (.getfield 7, 3) := by decide +kernel
theorem dX11_canSay_35 : decode cX11_canSay 35 = .ok (.sipush 382, 3) := by decide +kernel
theorem dX11_canSay_38 : decode cX11_canSay 38 = .ok (.iconst 2, 1) := by decide +kernel
theorem dX11_canSay_39 : decode cX11_canSay 39 = .ok (.iload 5, 2) := by decide +kernel
theorem dX11_canSay_41 : decode cX11_canSay 41 = .ok (.imul, 1) := by decide +kernel
theorem dX11_canSay_42 : decode cX11_canSay 42 = .ok (.iadd, 1) := by decide +kernel
theorem dX11_canSay_43 : decode cX11_canSay 43 = .ok (.iaload, 1) := by decide +kernel
theorem dX11_canSay_44 : decode cX11_canSay 44 = .ok (.iadd, 1) := by decide +kernel
theorem dX11_canSay_45 : decode cX11_canSay 45 = .ok (.istore_n 3, 1) := by decide +kernel
theorem dX11_canSay_46 : decode cX11_canSay 46 = .ok (.iload 4, 2) := by decide +kernel
theorem dX11_canSay_48 : decode cX11_canSay 48 = .ok (.aload_n 0, 1) := by decide +kernel
theorem dX11_canSay_49 : decode cX11_canSay 49 = .ok (.getfield 7, 3) := by decide +kernel
theorem dX11_canSay_52 : decode cX11_canSay 52 = .ok (.sipush 382, 3) := by decide +kernel
theorem dX11_canSay_55 : decode cX11_canSay 55 = .ok (.iconst 2, 1) := by decide +kernel
theorem dX11_canSay_56 : decode cX11_canSay 56 = .ok (.iload 5, 2) := by decide +kernel
theorem dX11_canSay_58 : decode cX11_canSay 58 = .ok (.imul, 1) := by decide +kernel
theorem dX11_canSay_59 : decode cX11_canSay 59 = .ok (.iadd, 1) := by decide +kernel
theorem dX11_canSay_60 : decode cX11_canSay 60 = .ok (.iconst 1, 1) := by decide +kernel
theorem dX11_canSay_61 : decode cX11_canSay 61 = .ok (.iadd, 1) := by decide +kernel
theorem dX11_canSay_62 : decode cX11_canSay 62 = .ok (.iaload, 1) := by decide +kernel
theorem dX11_canSay_63 : decode cX11_canSay 63 = .ok (.iadd, 1) := by decide +kernel
theorem dX11_canSay_64 : decode cX11_canSay 64 = .ok (.istore 4, 2) := by decide +kernel
theorem dX11_canSay_66 : decode cX11_canSay 66 = .ok (.iinc 5 1, 3) := by decide +kernel
theorem dX11_canSay_69 : decode cX11_canSay 69 = .ok (.goto (-61), 3) := by decide +kernel
theorem dX11_canSay_72 : decode cX11_canSay 72 = .ok (.iload_n 2, 1) := by decide +kernel
theorem dX11_canSay_73 : decode cX11_canSay 73 = .ok (.i2l, 1) := by decide +kernel
theorem dX11_canSay_74 : decode cX11_canSay 74 = .ok (.iload_n 3, 1) := by decide +kernel
theorem dX11_canSay_75 : decode cX11_canSay 75 = .ok (.i2l, 1) := by decide +kernel
theorem dX11_canSay_76 : decode cX11_canSay 76 = .ok (.iload 4, 2) := by decide +kernel
theorem dX11_canSay_78 : decode cX11_canSay 78 = .ok (.i2l, 1) := by decide +kernel
theorem dX11_canSay_79 : decode cX11_canSay 79 = .ok (.invokestatic 70, 3) := by decide +kernel
theorem dX11_canSay_82 : decode cX11_canSay 82 = .ok (.ireturn, 1) := by decide +kernel
theorem dX11_says_0 : decode cX11_says 0 = .ok (.iload_n 1, 1) := by decide +kernel
theorem dX11_says_1 : decode cX11_says 1 = .ok (.invokestatic 160, 3) := by decide +kernel
theorem dX11_says_4 : decode cX11_says 4 = .ok (.ifCond .eq 39, 3) := by decide +kernel
theorem dX11_says_7 : decode cX11_says 7 = .ok (.aload_n 0, 1) := by decide +kernel
theorem dX11_says_8 : decode cX11_says 8 = .ok (.iload_n 1, 1) := by decide +kernel
theorem dX11_says_9 : decode cX11_says 9 = .ok (.iload_n 2, 1) := by decide +kernel
theorem dX11_says_10 : decode cX11_says 10 = .ok (.invokevirtual 174, 3) := by decide +kernel
theorem dX11_says_13 : decode cX11_says 13 = .ok (.ifCond .eq 30, 3) := by decide +kernel
theorem dX11_says_16 : decode cX11_says 16 = .ok (.aload_n 0, 1) := by decide +kernel
theorem dX11_says_17 : decode cX11_says 17 = .ok (.iload_n 1, 1) := by decide +kernel
theorem dX11_says_18 : decode cX11_says 18 = .ok (.iload_n 3, 1) := by decide +kernel
theorem dX11_says_19 : decode cX11_says 19 = .ok (.invokevirtual 174, 3) := by decide +kernel
theorem dX11_says_22 : decode cX11_says 22 = .ok (.ifCond .eq 21, 3) := by decide +kernel
theorem dX11_says_25 : decode cX11_says 25 = .ok (.iload_n 3, 1) := by decide +kernel
theorem dX11_says_26 : decode cX11_says 26 = .ok (.iload_n 2, 1) := by decide +kernel
theorem dX11_says_27 : decode cX11_says 27 = .ok (.if_icmp .le 16, 3) := by decide +kernel
theorem dX11_says_30 : decode cX11_says 30 = .ok (.iload 4, 2) := by decide +kernel
theorem dX11_says_32 : decode cX11_says 32 = .ok (.i2l, 1) := by decide +kernel
theorem dX11_says_33 : decode cX11_says 33 = .ok (.lconst 0, 1) := by decide +kernel
theorem dX11_says_34 : decode cX11_says 34 = .ok (.ldc2_w 180, 3) := by decide +kernel
theorem dX11_says_37 : decode cX11_says 37 = .ok (.invokestatic 70, 3) := by decide +kernel
theorem dX11_says_40 : decode cX11_says 40 = .ok (.ifCond .ne 5, 3) := by decide +kernel
theorem dX11_says_43 : decode cX11_says 43 = .ok (.iconst (-1), 1) := by decide +kernel
theorem dX11_says_44 : decode cX11_says 44 = .ok (.ireturn, 1) := by decide +kernel
theorem dX11_says_45 : decode cX11_says 45 = .ok (.aload_n 0, 1) := by decide +kernel
theorem dX11_says_46 : decode cX11_says 46 = .ok (.iload_n 1, 1) := by decide +kernel
theorem dX11_says_47 : decode cX11_says 47 = .ok (.iload_n 2, 1) := by decide +kernel
theorem dX11_says_48 : decode cX11_says 48 = .ok (.invokevirtual 177, 3) := by decide +kernel
theorem dX11_says_51 : decode cX11_says 51 = .ok (.ifCond .ne 12, 3) := by decide +kernel
theorem dX11_says_54 : decode cX11_says 54 = .ok (.aload_n 0, 1) := by decide +kernel
theorem dX11_says_55 : decode cX11_says 55 = .ok (.iload_n 1, 1) := by decide +kernel
theorem dX11_says_56 : decode cX11_says 56 = .ok (.iload_n 3, 1) := by decide +kernel
theorem dX11_says_57 : decode cX11_says 57 = .ok (.invokevirtual 177, 3) := by decide +kernel
theorem dX11_says_60 : decode cX11_says 60 = .ok (.ifCond .eq 6, 3) := by decide +kernel
theorem dX11_says_63 : decode cX11_says 63 = .ok (.bipush (-12), 2) := by decide +kernel
theorem dX11_says_65 : decode cX11_says 65 = .ok (.ireturn, 1) := by decide +kernel
theorem dX11_says_66 : decode cX11_says 66 = .ok (.aload_n 0, 1) := by decide +kernel
theorem dX11_says_67 : decode cX11_says 67 = .ok (.iload_n 1, 1) := by decide +kernel
theorem dX11_says_68 : decode cX11_says 68 = .ok (.iload_n 3, 1) := by decide +kernel
theorem dX11_says_69 : decode cX11_says 69 = .ok (.invokevirtual 186, 3) := by decide +kernel
theorem dX11_says_72 : decode cX11_says 72 = .ok (.aload_n 0, 1) := by decide +kernel
theorem dX11_says_73 : decode cX11_says 73 = .ok (.iload_n 1, 1) := by decide +kernel
theorem dX11_says_74 : decode cX11_says 74 = .ok (.iload_n 2, 1) := by decide +kernel
theorem dX11_says_75 : decode cX11_says 75 = .ok (.invokevirtual 186, 3) := by decide +kernel
theorem dX11_says_78 : decode cX11_says 78 = .ok (.isub, 1) := by decide +kernel
theorem dX11_says_79 : decode cX11_says 79 = .ok (.istore 5, 2) := by decide +kernel
theorem dX11_says_81 : decode cX11_says 81 = .ok (.iconst 0, 1) := by decide +kernel
theorem dX11_says_82 : decode cX11_says 82 = .ok (.istore 6, 2) := by decide +kernel
theorem dX11_says_84 : decode cX11_says 84 = .ok (.bipush (-4), 2) := by decide +kernel
theorem dX11_says_86 : decode cX11_says 86 = .ok (.istore 7, 2) := by decide +kernel
theorem dX11_says_88 : decode cX11_says 88 = .ok (.iconst (-1), 1) := by decide +kernel
theorem dX11_says_89 : decode cX11_says 89 = .ok (.istore 8, 2) := by decide +kernel
theorem dX11_says_91 : decode cX11_says 91 = .ok (.iconst 1, 1) := by decide +kernel
theorem dX11_says_92 : decode cX11_says 92 = .ok (.istore 9, 2) := by decide +kernel
theorem dX11_says_94 : decode cX11_says 94 = .ok (.iload 9, 2) := by decide +kernel
theorem dX11_says_96 : decode cX11_says 96 = .ok (.iconst 1, 1) := by decide +kernel
theorem dX11_says_97 : decode cX11_says 97 = .ok (.aload_n 0, 1) := by decide +kernel
theorem dX11_says_98 : decode cX11_says 98 = .ok (.getfield 7, 3) := by decide +kernel
theorem dX11_says_101 : decode cX11_says 101 = .ok (.bipush 13, 2) := by decide +kernel
theorem dX11_says_103 : decode cX11_says 103 = .ok (.iaload, 1) := by decide +kernel
theorem dX11_says_104 : decode cX11_says 104 = .ok (.ishl, 1) := by decide +kernel
theorem dX11_says_105 : decode cX11_says 105 = .ok (.if_icmp .ge 57, 3) := by decide +kernel
theorem dX11_says_108 : decode cX11_says 108 = .ok (.aload_n 0, 1) := by decide +kernel
theorem dX11_says_109 : decode cX11_says 109 = .ok (.iload 9, 2) := by decide +kernel
theorem dX11_says_111 : decode cX11_says 111 = .ok (.iload 5, 2) := by decide +kernel
theorem dX11_says_113 : decode cX11_says 113 = .ok (.invokevirtual 339, 3) := by decide +kernel
theorem dX11_says_116 : decode cX11_says 116 = .ok (.ifCond .eq 40, 3) := by decide +kernel
theorem dX11_says_119 : decode cX11_says 119 = .ok (.iinc 6 1, 3) := by decide +kernel
theorem dX11_says_122 : decode cX11_says 122 = .ok (.iload 7, 2) := by decide +kernel
theorem dX11_says_124 : decode cX11_says 124 = .ok (.ifCond .lt 16, 3) := by decide +kernel
theorem dX11_says_127 : decode cX11_says 127 = .ok (.iload 9, 2) := by decide +kernel
theorem dX11_says_129 : decode cX11_says 129 = .ok (.invokestatic 270, 3) := by decide +kernel
theorem dX11_says_132 : decode cX11_says 132 = .ok (.iload 7, 2) := by decide +kernel
theorem dX11_says_134 : decode cX11_says 134 = .ok (.invokestatic 270, 3) := by decide +kernel
theorem dX11_says_137 : decode cX11_says 137 = .ok (.if_icmp .ge 8, 3) := by decide +kernel
theorem dX11_says_140 : decode cX11_says 140 = .ok (.iload 9, 2) := by decide +kernel
theorem dX11_says_142 : decode cX11_says 142 = .ok (.goto 5, 3) := by decide +kernel
theorem dX11_says_145 : decode cX11_says 145 = .ok (.iload 7, 2) := by decide +kernel
theorem dX11_says_147 : decode cX11_says 147 = .ok (.istore 7, 2) := by decide +kernel
theorem dX11_says_149 : decode cX11_says 149 = .ok (.iload 8, 2) := by decide +kernel
theorem dX11_says_151 : decode cX11_says 151 = .ok (.iload 9, 2) := by decide +kernel
theorem dX11_says_153 : decode cX11_says 153 = .ok (.iand, 1) := by decide +kernel
theorem dX11_says_154 : decode cX11_says 154 = .ok (.istore 8, 2) := by decide +kernel
theorem dX11_says_156 : decode cX11_says 156 = .ok (.iinc 9 1, 3) := by decide +kernel
theorem dX11_says_159 : decode cX11_says 159 = .ok (.goto (-65), 3) := by decide +kernel
theorem dX11_says_162 : decode cX11_says 162 = .ok (.iload 4, 2) := by decide +kernel
theorem dX11_says_164 : decode cX11_says 164 = .ok (.ifCond .ne 8, 3) := by decide +kernel
theorem dX11_says_167 : decode cX11_says 167 = .ok (.iload 6, 2) := by decide +kernel
theorem dX11_says_169 : decode cX11_says 169 = .ok (.goto 26, 3) := by decide +kernel
theorem dX11_says_172 : decode cX11_says 172 = .ok (.iload 6, 2) := by decide +kernel
theorem dX11_says_174 : decode cX11_says 174 = .ok (.ifCond .ne 8, 3) := by decide +kernel
theorem dX11_says_177 : decode cX11_says 177 = .ok (.bipush (-4), 2) := by decide +kernel
theorem dX11_says_179 : decode cX11_says 179 = .ok (.goto 16, 3) := by decide +kernel
theorem dX11_says_182 : decode cX11_says 182 = .ok (.iload 4, 2) := by decide +kernel
theorem dX11_says_184 : decode cX11_says 184 = .ok (.iconst 1, 1) := by decide +kernel
theorem dX11_says_185 : decode cX11_says 185 = .ok (.if_icmp .ne 8, 3) := by decide +kernel
theorem dX11_says_188 : decode cX11_says 188 = .ok (.iload 7, 2) := by decide +kernel
theorem dX11_says_190 : decode cX11_says 190 = .ok (.goto 5, 3) := by decide +kernel
theorem dX11_says_193 : decode cX11_says 193 = .ok (.iload 8, 2) := by decide +kernel
theorem dX11_says_195 : decode cX11_says 195 = .ok (.ireturn, 1) := by decide +kernel
theorem dX11_image_0 : decode cX11_image 0 = .ok (.iconst 0, 1) := by decide +kernel
theorem dX11_image_1 : decode cX11_image 1 = .ok (.istore_n 1, 1) := by decide +kernel
theorem dX11_image_2 : decode cX11_image 2 = .ok (.iload_n 1, 1) := by decide +kernel
theorem dX11_image_3 : decode cX11_image 3 = .ok (.sipush 392, 3) := by decide +kernel
theorem dX11_image_6 : decode cX11_image 6 = .ok (.if_icmp .ge 21, 3) := by decide +kernel
theorem dX11_image_9 : decode cX11_image 9 = .ok (.aload_n 0, 1) := by decide +kernel
theorem dX11_image_10 : decode cX11_image 10 = .ok (.getfield 56, 3) := by decide +kernel
theorem dX11_image_13 : decode cX11_image 13 = .ok (.iload_n 1, 1) := by decide +kernel
theorem dX11_image_14 : decode cX11_image 14 = .ok (.aload_n 0, 1) := by decide +kernel
theorem dX11_image_15 : decode cX11_image 15 = .ok (.getfield 7, 3) := by decide +kernel
theorem dX11_image_18 : decode cX11_image 18 = .ok (.iload_n 1, 1) := by decide +kernel
theorem dX11_image_19 : decode cX11_image 19 = .ok (.iaload, 1) := by decide +kernel
theorem dX11_image_20 : decode cX11_image 20 = .ok (.iastore, 1) := by decide +kernel
theorem dX11_image_21 : decode cX11_image 21 = .ok (.iinc 1 1, 3) := by decide +kernel
theorem dX11_image_24 : decode cX11_image 24 = .ok (.goto (-22), 3) := by decide +kernel
theorem dX11_image_27 : decode cX11_image 27 = .ok (.aload_n 0, 1) := by decide +kernel
theorem dX11_image_28 : decode cX11_image 28 = .ok (.iconst 1, 1) := by decide +kernel
theorem dX11_image_29 : decode cX11_image 29 = .ok (.putfield 342, 3) := by decide +kernel
theorem dX11_image_32 : decode cX11_image 32 = .ok (.iconst 1, 1) := by decide +kernel
theorem dX11_image_33 : decode cX11_image 33 = .ok (.ireturn, 1) := by decide +kernel
theorem dX11_restore_0 : decode cX11_restore 0 = .ok (.aload_n 0, 1) := by decide +kernel
theorem dX11_restore_1 : decode cX11_restore 1 = .ok (.getfield 342, 3) := by decide +kernel
theorem dX11_restore_4 : decode cX11_restore 4 = .ok (.ifCond .ne 6, 3) := by decide +kernel
theorem dX11_restore_7 : decode cX11_restore 7 = .ok (.bipush (-4), 2) := by decide +kernel
theorem dX11_restore_9 : decode cX11_restore 9 = .ok (.ireturn, 1) := by decide +kernel
theorem dX11_restore_10 : decode cX11_restore 10 = .ok (.iconst 0, 1) := by decide +kernel
theorem dX11_restore_11 : decode cX11_restore 11 = .ok (.istore_n 1, 1) := by decide +kernel
theorem dX11_restore_12 : decode cX11_restore 12 = .ok (.iload_n 1, 1) := by decide +kernel
theorem dX11_restore_13 : decode cX11_restore 13 = .ok (.sipush 392, 3) := by decide +kernel
theorem dX11_restore_16 : decode cX11_restore 16 = .ok (.if_icmp .ge 21, 3) := by decide +kernel
theorem dX11_restore_19 : decode cX11_restore 19 = .ok (.aload_n 0, 1) := by decide +kernel
theorem dX11_restore_20 : decode cX11_restore 20 = .ok (.getfield 7, 3) := by decide +kernel
theorem dX11_restore_23 : decode cX11_restore 23 = .ok (.iload_n 1, 1) := by decide +kernel
theorem dX11_restore_24 : decode cX11_restore 24 = .ok (.aload_n 0, 1) := by decide +kernel
theorem dX11_restore_25 : decode cX11_restore 25 = .ok (.getfield 56, 3) := by decide +kernel
theorem dX11_restore_28 : decode cX11_restore 28 = .ok (.iload_n 1, 1) := by decide +kernel
theorem dX11_restore_29 : decode cX11_restore 29 = .ok (.iaload, 1) := by decide +kernel
theorem dX11_restore_30 : decode cX11_restore 30 = .ok (.iastore, 1) := by decide +kernel
theorem dX11_restore_31 : decode cX11_restore 31 = .ok (.iinc 1 1, 3) := by decide +kernel
theorem dX11_restore_34 : decode cX11_restore 34 = .ok (.goto (-22), 3) := by decide +kernel
theorem dX11_restore_37 : decode cX11_restore 37 = .ok (.iconst 1, 1) := by decide +kernel
theorem dX11_restore_38 : decode cX11_restore 38 = .ok (.ireturn, 1) := by decide +kernel
theorem dX11_isSheet_0 : decode cX11_isSheet 0 = .ok (.iload_n 0, 1) := by decide +kernel
theorem dX11_isSheet_1 : decode cX11_isSheet 1 = .ok (.i2l, 1) := by decide +kernel
theorem dX11_isSheet_2 : decode cX11_isSheet 2 = .ok (.lconst 0, 1) := by decide +kernel
theorem dX11_isSheet_3 : decode cX11_isSheet 3 = .ok (.ldc2_w 346, 3) := by decide +kernel
theorem dX11_isSheet_6 : decode cX11_isSheet 6 = .ok (.invokestatic 70, 3) := by decide +kernel
theorem dX11_isSheet_9 : decode cX11_isSheet 9 = .ok (.ifCond .eq 19, 3) := by decide +kernel
theorem dX11_isSheet_12 : decode cX11_isSheet 12 = .ok (.iload_n 1, 1) := by decide +kernel
theorem dX11_isSheet_13 : decode cX11_isSheet 13 = .ok (.i2l, 1) := by decide +kernel
theorem dX11_isSheet_14 : decode cX11_isSheet 14 = .ok (.lconst 0, 1) := by decide +kernel
theorem dX11_isSheet_15 : decode cX11_isSheet 15 = .ok (.ldc2_w 180, 3) := by decide +kernel
theorem dX11_isSheet_18 : decode cX11_isSheet 18 = .ok (.invokestatic 70, 3) := by decide +kernel
theorem dX11_isSheet_21 : decode cX11_isSheet 21 = .ok (.ifCond .eq 7, 3) := by decide +kernel
theorem dX11_isSheet_24 : decode cX11_isSheet 24 = .ok (.iconst 1, 1) := by decide +kernel
theorem dX11_isSheet_25 : decode cX11_isSheet 25 = .ok (.goto 4, 3) := by decide +kernel
theorem dX11_isSheet_28 : decode cX11_isSheet 28 = .ok (.iconst 0, 1) := by decide +kernel
theorem dX11_isSheet_29 : decode cX11_isSheet 29 = .ok (.ireturn, 1) := by decide +kernel
theorem dX11_sheet_0 : decode cX11_sheet 0 = .ok (.iload_n 1, 1) := by decide +kernel
theorem dX11_sheet_1 : decode cX11_sheet 1 = .ok (.iload_n 2, 1) := by decide +kernel
theorem dX11_sheet_2 : decode cX11_sheet 2 = .ok (.invokestatic 276, 3) := by decide +kernel
theorem dX11_sheet_5 : decode cX11_sheet 5 = .ok (.ifCond .eq 9, 3) := by decide +kernel
theorem dX11_sheet_8 : decode cX11_sheet 8 = .ok (.iload_n 3, 1) := by decide +kernel
theorem dX11_sheet_9 : decode cX11_sheet 9 = .ok (.bipush 24, 2) := by decide +kernel
theorem dX11_sheet_11 : decode cX11_sheet 11 = .ok (.if_icmp .le 5, 3) := by decide +kernel
theorem dX11_sheet_14 : decode cX11_sheet 14 = .ok (.iconst (-1), 1) := by decide +kernel
theorem dX11_sheet_15 : decode cX11_sheet 15 = .ok (.ireturn, 1) := by decide +kernel
theorem dX11_sheet_16 : decode cX11_sheet 16 = .ok (.iload_n 3, 1) := by decide +kernel
theorem dX11_sheet_17 : decode cX11_sheet 17 = .ok (.ifCond .ge 6, 3) := by decide +kernel
theorem dX11_sheet_20 : decode cX11_sheet 20 = .ok (.bipush (-14), 2) := by decide +kernel
theorem dX11_sheet_22 : decode cX11_sheet 22 = .ok (.ireturn, 1) := by decide +kernel
theorem dX11_sheet_23 : decode cX11_sheet 23 = .ok (.aload_n 0, 1) := by decide +kernel
theorem dX11_sheet_24 : decode cX11_sheet 24 = .ok (.getfield 59, 3) := by decide +kernel
theorem dX11_sheet_27 : decode cX11_sheet 27 = .ok (.iload_n 1, 1) := by decide +kernel
theorem dX11_sheet_28 : decode cX11_sheet 28 = .ok (.iload_n 2, 1) := by decide +kernel
theorem dX11_sheet_29 : decode cX11_sheet 29 = .ok (.iastore, 1) := by decide +kernel
theorem dX11_sheet_30 : decode cX11_sheet 30 = .ok (.aload_n 0, 1) := by decide +kernel
theorem dX11_sheet_31 : decode cX11_sheet 31 = .ok (.getfield 62, 3) := by decide +kernel
theorem dX11_sheet_34 : decode cX11_sheet 34 = .ok (.iload_n 1, 1) := by decide +kernel
theorem dX11_sheet_35 : decode cX11_sheet 35 = .ok (.iload_n 3, 1) := by decide +kernel
theorem dX11_sheet_36 : decode cX11_sheet 36 = .ok (.iastore, 1) := by decide +kernel
theorem dX11_sheet_37 : decode cX11_sheet 37 = .ok (.iconst 0, 1) := by decide +kernel
theorem dX11_sheet_38 : decode cX11_sheet 38 = .ok (.istore 4, 2) := by decide +kernel
theorem dX11_sheet_40 : decode cX11_sheet 40 = .ok (.iload 4, 2) := by decide +kernel
theorem dX11_sheet_42 : decode cX11_sheet 42 = .ok (.bipush 24, 2) := by decide +kernel
theorem dX11_sheet_44 : decode cX11_sheet 44 = .ok (.if_icmp .ge 22, 3) := by decide +kernel
theorem dX11_sheet_47 : decode cX11_sheet 47 = .ok (.aload_n 0, 1) := by decide +kernel
theorem dX11_sheet_48 : decode cX11_sheet 48 = .ok (.getfield 65, 3) := by decide +kernel
theorem dX11_sheet_51 : decode cX11_sheet 51 = .ok (.bipush 24, 2) := by decide +kernel
theorem dX11_sheet_53 : decode cX11_sheet 53 = .ok (.iload_n 1, 1) := by decide +kernel
theorem dX11_sheet_54 : decode cX11_sheet 54 = .ok (.imul, 1) := by decide +kernel
theorem dX11_sheet_55 : decode cX11_sheet 55 = .ok (.iload 4, 2) := by decide +kernel
theorem dX11_sheet_57 : decode cX11_sheet 57 = .ok (.iadd, 1) := by decide +kernel
theorem dX11_sheet_58 : decode cX11_sheet 58 = .ok (.iconst 0, 1) := by decide +kernel
theorem dX11_sheet_59 : decode cX11_sheet 59 = .ok (.iastore, 1) := by decide +kernel
theorem dX11_sheet_60 : decode cX11_sheet 60 = .ok (.iinc 4 1, 3) := by decide +kernel
theorem dX11_sheet_63 : decode cX11_sheet 63 = .ok (.goto (-23), 3) := by decide +kernel
theorem dX11_sheet_66 : decode cX11_sheet 66 = .ok (.iload_n 3, 1) := by decide +kernel
theorem dX11_sheet_67 : decode cX11_sheet 67 = .ok (.ireturn, 1) := by decide +kernel
theorem dX11_drop_0 : decode cX11_drop 0 = .ok (.iload_n 1, 1) := by decide +kernel
theorem dX11_drop_1 : decode cX11_drop 1 = .ok (.i2l, 1) := by decide +kernel
theorem dX11_drop_2 : decode cX11_drop 2 = .ok (.lconst 0, 1) := by decide +kernel
theorem dX11_drop_3 : decode cX11_drop 3 = .ok (.ldc2_w 346, 3) := by decide +kernel
theorem dX11_drop_6 : decode cX11_drop 6 = .ok (.invokestatic 70, 3) := by decide +kernel
theorem dX11_drop_9 : decode cX11_drop 9 = .ok (.ifCond .ne 5, 3) := by decide +kernel
theorem dX11_drop_12 : decode cX11_drop 12 = .ok (.iconst (-1), 1) := by decide +kernel
theorem dX11_drop_13 : decode cX11_drop 13 = .ok (.ireturn, 1) := by decide +kernel
theorem dX11_drop_14 : decode cX11_drop 14 = .ok (.aload_n 0, 1) := by decide +kernel
theorem dX11_drop_15 : decode cX11_drop 15 = .ok (.getfield 59, 3) := by decide +kernel
theorem dX11_drop_18 : decode cX11_drop 18 = .ok (.iload_n 1, 1) := by decide +kernel
theorem dX11_drop_19 : decode cX11_drop 19 = .ok (.iaload, 1) := by decide +kernel
theorem dX11_drop_20 : decode cX11_drop 20 = .ok (.ifCond .ge 6, 3) := by decide +kernel
theorem dX11_drop_23 : decode cX11_drop 23 = .ok (.bipush (-11), 2) := by decide +kernel
theorem dX11_drop_25 : decode cX11_drop 25 = .ok (.ireturn, 1) := by decide +kernel
theorem dX11_drop_26 : decode cX11_drop 26 = .ok (.aload_n 0, 1) := by decide +kernel
theorem dX11_drop_27 : decode cX11_drop 27 = .ok (.getfield 59, 3) := by decide +kernel
theorem dX11_drop_30 : decode cX11_drop 30 = .ok (.iload_n 1, 1) := by decide +kernel
theorem dX11_drop_31 : decode cX11_drop 31 = .ok (.iconst (-1), 1) := by decide +kernel
theorem dX11_drop_32 : decode cX11_drop 32 = .ok (.iastore, 1) := by decide +kernel
theorem dX11_drop_33 : decode cX11_drop 33 = .ok (.aload_n 0, 1) := by decide +kernel
theorem dX11_drop_34 : decode cX11_drop 34 = .ok (.getfield 62, 3) := by decide +kernel
theorem dX11_drop_37 : decode cX11_drop 37 = .ok (.iload_n 1, 1) := by decide +kernel
theorem dX11_drop_38 : decode cX11_drop 38 = .ok (.iaload, 1) := by decide +kernel
theorem dX11_drop_39 : decode cX11_drop 39 = .ok (.ireturn, 1) := by decide +kernel
theorem dX11_lacksRow_0 : decode cX11_lacksRow 0 = .ok (.aload_n 0, 1) := by decide +kernel
theorem dX11_lacksRow_1 : decode cX11_lacksRow 1 = .ok (.getfield 59, 3) := by decide +kernel
theorem dX11_lacksRow_4 : decode cX11_lacksRow 4 = .ok (.iload_n 1, 1) := by decide +kernel
theorem dX11_lacksRow_5 : decode cX11_lacksRow 5 = .ok (.iaload, 1) := by decide +kernel
theorem dX11_lacksRow_6 : decode cX11_lacksRow 6 = .ok (.iload_n 2, 1) := by decide +kernel
theorem dX11_lacksRow_7 : decode cX11_lacksRow 7 = .ok (.if_icmp .eq 20, 3) := by decide +kernel
theorem dX11_lacksRow_10 : decode cX11_lacksRow 10 = .ok (.aload_n 0, 1) := by decide +kernel
theorem dX11_lacksRow_11 : decode cX11_lacksRow 11 = .ok (.getfield 59, 3) := by decide +kernel
theorem dX11_lacksRow_14 : decode cX11_lacksRow 14 = .ok (.iload_n 1, 1) := by decide +kernel
theorem dX11_lacksRow_15 : decode cX11_lacksRow 15 = .ok (.iaload, 1) := by decide +kernel
theorem dX11_lacksRow_16 : decode cX11_lacksRow 16 = .ok (.ifCond .ge 8, 3) := by decide +kernel
theorem dX11_lacksRow_19 : decode cX11_lacksRow 19 = .ok (.bipush (-11), 2) := by decide +kernel
theorem dX11_lacksRow_21 : decode cX11_lacksRow 21 = .ok (.goto 5, 3) := by decide +kernel
theorem dX11_lacksRow_24 : decode cX11_lacksRow 24 = .ok (.bipush (-12), 2) := by decide +kernel
theorem dX11_lacksRow_26 : decode cX11_lacksRow 26 = .ok (.ireturn, 1) := by decide +kernel
theorem dX11_lacksRow_27 : decode cX11_lacksRow 27 = .ok (.iload_n 3, 1) := by decide +kernel
theorem dX11_lacksRow_28 : decode cX11_lacksRow 28 = .ok (.i2l, 1) := by decide +kernel
theorem dX11_lacksRow_29 : decode cX11_lacksRow 29 = .ok (.lconst 0, 1) := by decide +kernel
theorem dX11_lacksRow_30 : decode cX11_lacksRow 30 = .ok (.aload_n 0, 1) := by decide +kernel
theorem dX11_lacksRow_31 : decode cX11_lacksRow 31 = .ok (.getfield 62, 3) := by decide +kernel
theorem dX11_lacksRow_34 : decode cX11_lacksRow 34 = .ok (.iload_n 1, 1) := by decide +kernel
theorem dX11_lacksRow_35 : decode cX11_lacksRow 35 = .ok (.iaload, 1) := by decide +kernel
theorem dX11_lacksRow_36 : decode cX11_lacksRow 36 = .ok (.iload 4, 2) := by decide +kernel
theorem dX11_lacksRow_38 : decode cX11_lacksRow 38 = .ok (.isub, 1) := by decide +kernel
theorem dX11_lacksRow_39 : decode cX11_lacksRow 39 = .ok (.i2l, 1) := by decide +kernel
theorem dX11_lacksRow_40 : decode cX11_lacksRow 40 = .ok (.invokestatic 70, 3) := by decide +kernel
theorem dX11_lacksRow_43 : decode cX11_lacksRow 43 = .ok (.ifCond .eq 7, 3) := by decide +kernel
theorem dX11_lacksRow_46 : decode cX11_lacksRow 46 = .ok (.iconst 0, 1) := by decide +kernel
theorem dX11_lacksRow_47 : decode cX11_lacksRow 47 = .ok (.goto 5, 3) := by decide +kernel
theorem dX11_lacksRow_50 : decode cX11_lacksRow 50 = .ok (.bipush (-13), 2) := by decide +kernel
theorem dX11_lacksRow_52 : decode cX11_lacksRow 52 = .ok (.ireturn, 1) := by decide +kernel
theorem dX11_item_0 : decode cX11_item 0 = .ok (.iload_n 1, 1) := by decide +kernel
theorem dX11_item_1 : decode cX11_item 1 = .ok (.iload_n 2, 1) := by decide +kernel
theorem dX11_item_2 : decode cX11_item 2 = .ok (.invokestatic 276, 3) := by decide +kernel
theorem dX11_item_5 : decode cX11_item 5 = .ok (.ifCond .ne 5, 3) := by decide +kernel
theorem dX11_item_8 : decode cX11_item 8 = .ok (.iconst (-1), 1) := by decide +kernel
theorem dX11_item_9 : decode cX11_item 9 = .ok (.ireturn, 1) := by decide +kernel
theorem dX11_item_10 : decode cX11_item 10 = .ok (.aload_n 0, 1) := by decide +kernel
theorem dX11_item_11 : decode cX11_item 11 = .ok (.iload_n 1, 1) := by decide +kernel
theorem dX11_item_12 : decode cX11_item 12 = .ok (.iload_n 2, 1) := by decide +kernel
theorem dX11_item_13 : decode cX11_item 13 = .ok (.iload_n 3, 1) := by decide +kernel
theorem dX11_item_14 : decode cX11_item 14 = .ok (.iconst 1, 1) := by decide +kernel
theorem dX11_item_15 : decode cX11_item 15 = .ok (.invokevirtual 279, 3) := by decide +kernel
theorem dX11_item_18 : decode cX11_item 18 = .ok (.istore 5, 2) := by decide +kernel
theorem dX11_item_20 : decode cX11_item 20 = .ok (.iload 5, 2) := by decide +kernel
theorem dX11_item_22 : decode cX11_item 22 = .ok (.ifCond .ge 6, 3) := by decide +kernel
theorem dX11_item_25 : decode cX11_item 25 = .ok (.iload 5, 2) := by decide +kernel
theorem dX11_item_27 : decode cX11_item 27 = .ok (.ireturn, 1) := by decide +kernel
theorem dX11_item_28 : decode cX11_item 28 = .ok (.aload_n 0, 1) := by decide +kernel
theorem dX11_item_29 : decode cX11_item 29 = .ok (.getfield 65, 3) := by decide +kernel
theorem dX11_item_32 : decode cX11_item 32 = .ok (.bipush 24, 2) := by decide +kernel
theorem dX11_item_34 : decode cX11_item 34 = .ok (.iload_n 1, 1) := by decide +kernel
theorem dX11_item_35 : decode cX11_item 35 = .ok (.imul, 1) := by decide +kernel
theorem dX11_item_36 : decode cX11_item 36 = .ok (.iload_n 3, 1) := by decide +kernel
theorem dX11_item_37 : decode cX11_item 37 = .ok (.iadd, 1) := by decide +kernel
theorem dX11_item_38 : decode cX11_item 38 = .ok (.iload_n 2, 1) := by decide +kernel
theorem dX11_item_39 : decode cX11_item 39 = .ok (.ifCond .ne 14, 3) := by decide +kernel
theorem dX11_item_42 : decode cX11_item 42 = .ok (.iload 4, 2) := by decide +kernel
theorem dX11_item_44 : decode cX11_item 44 = .ok (.bipush 24, 2) := by decide +kernel
theorem dX11_item_46 : decode cX11_item 46 = .ok (.ishl, 1) := by decide +kernel
theorem dX11_item_47 : decode cX11_item 47 = .ok (.bipush 24, 2) := by decide +kernel
theorem dX11_item_49 : decode cX11_item 49 = .ok (.ishr, 1) := by decide +kernel
theorem dX11_item_50 : decode cX11_item 50 = .ok (.goto 21, 3) := by decide +kernel
theorem dX11_item_53 : decode cX11_item 53 = .ok (.iload_n 2, 1) := by decide +kernel
theorem dX11_item_54 : decode cX11_item 54 = .ok (.iconst 1, 1) := by decide +kernel
theorem dX11_item_55 : decode cX11_item 55 = .ok (.if_icmp .ne 14, 3) := by decide +kernel
theorem dX11_item_58 : decode cX11_item 58 = .ok (.iload 4, 2) := by decide +kernel
theorem dX11_item_60 : decode cX11_item 60 = .ok (.bipush 16, 2) := by decide +kernel
theorem dX11_item_62 : decode cX11_item 62 = .ok (.ishl, 1) := by decide +kernel
theorem dX11_item_63 : decode cX11_item 63 = .ok (.bipush 16, 2) := by decide +kernel
theorem dX11_item_65 : decode cX11_item 65 = .ok (.ishr, 1) := by decide +kernel
theorem dX11_item_66 : decode cX11_item 66 = .ok (.goto 5, 3) := by decide +kernel
theorem dX11_item_69 : decode cX11_item 69 = .ok (.iload 4, 2) := by decide +kernel
theorem dX11_item_71 : decode cX11_item 71 = .ok (.iastore, 1) := by decide +kernel
theorem dX11_item_72 : decode cX11_item 72 = .ok (.iconst 1, 1) := by decide +kernel
theorem dX11_item_73 : decode cX11_item 73 = .ok (.ireturn, 1) := by decide +kernel
theorem dX11_rains_0 : decode cX11_rains 0 = .ok (.iload_n 1, 1) := by decide +kernel
theorem dX11_rains_1 : decode cX11_rains 1 = .ok (.i2l, 1) := by decide +kernel
theorem dX11_rains_2 : decode cX11_rains 2 = .ok (.lconst 0, 1) := by decide +kernel
theorem dX11_rains_3 : decode cX11_rains 3 = .ok (.ldc2_w 180, 3) := by decide +kernel
theorem dX11_rains_6 : decode cX11_rains 6 = .ok (.invokestatic 70, 3) := by decide +kernel
theorem dX11_rains_9 : decode cX11_rains 9 = .ok (.ifCond .eq 24, 3) := by decide +kernel
theorem dX11_rains_12 : decode cX11_rains 12 = .ok (.iload_n 2, 1) := by decide +kernel
theorem dX11_rains_13 : decode cX11_rains 13 = .ok (.iload_n 3, 1) := by decide +kernel
theorem dX11_rains_14 : decode cX11_rains 14 = .ok (.invokestatic 276, 3) := by decide +kernel
theorem dX11_rains_17 : decode cX11_rains 17 = .ok (.ifCond .eq 16, 3) := by decide +kernel
theorem dX11_rains_20 : decode cX11_rains 20 = .ok (.iload 5, 2) := by decide +kernel
theorem dX11_rains_22 : decode cX11_rains 22 = .ok (.i2l, 1) := by decide +kernel
theorem dX11_rains_23 : decode cX11_rains 23 = .ok (.lconst 1, 1) := by decide +kernel
theorem dX11_rains_24 : decode cX11_rains 24 = .ok (.ldc2_w 348, 3) := by decide +kernel
theorem dX11_rains_27 : decode cX11_rains 27 = .ok (.invokestatic 70, 3) := by decide +kernel
theorem dX11_rains_30 : decode cX11_rains 30 = .ok (.ifCond .ne 5, 3) := by decide +kernel
theorem dX11_rains_33 : decode cX11_rains 33 = .ok (.iconst (-1), 1) := by decide +kernel
theorem dX11_rains_34 : decode cX11_rains 34 = .ok (.ireturn, 1) := by decide +kernel
theorem dX11_rains_35 : decode cX11_rains 35 = .ok (.aload_n 0, 1) := by decide +kernel
theorem dX11_rains_36 : decode cX11_rains 36 = .ok (.iload_n 2, 1) := by decide +kernel
theorem dX11_rains_37 : decode cX11_rains 37 = .ok (.iload_n 3, 1) := by decide +kernel
theorem dX11_rains_38 : decode cX11_rains 38 = .ok (.iload 4, 2) := by decide +kernel
theorem dX11_rains_40 : decode cX11_rains 40 = .ok (.iload 5, 2) := by decide +kernel
theorem dX11_rains_42 : decode cX11_rains 42 = .ok (.invokevirtual 279, 3) := by decide +kernel
theorem dX11_rains_45 : decode cX11_rains 45 = .ok (.istore 6, 2) := by decide +kernel
theorem dX11_rains_47 : decode cX11_rains 47 = .ok (.iload 6, 2) := by decide +kernel
theorem dX11_rains_49 : decode cX11_rains 49 = .ok (.ifCond .ge 6, 3) := by decide +kernel
theorem dX11_rains_52 : decode cX11_rains 52 = .ok (.iload 6, 2) := by decide +kernel
theorem dX11_rains_54 : decode cX11_rains 54 = .ok (.ireturn, 1) := by decide +kernel
theorem dX11_rains_55 : decode cX11_rains 55 = .ok (.bipush 24, 2) := by decide +kernel
theorem dX11_rains_57 : decode cX11_rains 57 = .ok (.iload_n 2, 1) := by decide +kernel
theorem dX11_rains_58 : decode cX11_rains 58 = .ok (.imul, 1) := by decide +kernel
theorem dX11_rains_59 : decode cX11_rains 59 = .ok (.iload 4, 2) := by decide +kernel
theorem dX11_rains_61 : decode cX11_rains 61 = .ok (.iadd, 1) := by decide +kernel
theorem dX11_rains_62 : decode cX11_rains 62 = .ok (.istore 7, 2) := by decide +kernel
theorem dX11_rains_64 : decode cX11_rains 64 = .ok (.iconst 0, 1) := by decide +kernel
theorem dX11_rains_65 : decode cX11_rains 65 = .ok (.istore 8, 2) := by decide +kernel
theorem dX11_rains_67 : decode cX11_rains 67 = .ok (.iload 8, 2) := by decide +kernel
theorem dX11_rains_69 : decode cX11_rains 69 = .ok (.iload 5, 2) := by decide +kernel
theorem dX11_rains_71 : decode cX11_rains 71 = .ok (.if_icmp .ge 29, 3) := by decide +kernel
theorem dX11_rains_74 : decode cX11_rains 74 = .ok (.iload_n 1, 1) := by decide +kernel
theorem dX11_rains_75 : decode cX11_rains 75 = .ok (.aload_n 0, 1) := by decide +kernel
theorem dX11_rains_76 : decode cX11_rains 76 = .ok (.getfield 65, 3) := by decide +kernel
theorem dX11_rains_79 : decode cX11_rains 79 = .ok (.iload 7, 2) := by decide +kernel
theorem dX11_rains_81 : decode cX11_rains 81 = .ok (.iload 8, 2) := by decide +kernel
theorem dX11_rains_83 : decode cX11_rains 83 = .ok (.iadd, 1) := by decide +kernel
theorem dX11_rains_84 : decode cX11_rains 84 = .ok (.iaload, 1) := by decide +kernel
theorem dX11_rains_85 : decode cX11_rains 85 = .ok (.invokestatic 84, 3) := by decide +kernel
theorem dX11_rains_88 : decode cX11_rains 88 = .ok (.ifCond .ne 6, 3) := by decide +kernel
theorem dX11_rains_91 : decode cX11_rains 91 = .ok (.bipush (-2), 2) := by decide +kernel
theorem dX11_rains_93 : decode cX11_rains 93 = .ok (.ireturn, 1) := by decide +kernel
theorem dX11_rains_94 : decode cX11_rains 94 = .ok (.iinc 8 1, 3) := by decide +kernel
theorem dX11_rains_97 : decode cX11_rains 97 = .ok (.goto (-30), 3) := by decide +kernel
theorem dX11_rains_100 : decode cX11_rains 100 = .ok (.iconst 0, 1) := by decide +kernel
theorem dX11_rains_101 : decode cX11_rains 101 = .ok (.istore 8, 2) := by decide +kernel
theorem dX11_rains_103 : decode cX11_rains 103 = .ok (.iload 8, 2) := by decide +kernel
theorem dX11_rains_105 : decode cX11_rains 105 = .ok (.iload 5, 2) := by decide +kernel
theorem dX11_rains_107 : decode cX11_rains 107 = .ok (.if_icmp .ge 33, 3) := by decide +kernel
theorem dX11_rains_110 : decode cX11_rains 110 = .ok (.aload_n 0, 1) := by decide +kernel
theorem dX11_rains_111 : decode cX11_rains 111 = .ok (.getfield 7, 3) := by decide +kernel
theorem dX11_rains_114 : decode cX11_rains 114 = .ok (.bipush 20, 2) := by decide +kernel
theorem dX11_rains_116 : decode cX11_rains 116 = .ok (.iconst 3, 1) := by decide +kernel
theorem dX11_rains_117 : decode cX11_rains 117 = .ok (.iload 8, 2) := by decide +kernel
theorem dX11_rains_119 : decode cX11_rains 119 = .ok (.imul, 1) := by decide +kernel
theorem dX11_rains_120 : decode cX11_rains 120 = .ok (.iadd, 1) := by decide +kernel
theorem dX11_rains_121 : decode cX11_rains 121 = .ok (.iload_n 1, 1) := by decide +kernel
theorem dX11_rains_122 : decode cX11_rains 122 = .ok (.iadd, 1) := by decide +kernel
theorem dX11_rains_123 : decode cX11_rains 123 = .ok (.aload_n 0, 1) := by decide +kernel
theorem dX11_rains_124 : decode cX11_rains 124 = .ok (.getfield 65, 3) := by decide +kernel
theorem dX11_rains_127 : decode cX11_rains 127 = .ok (.iload 7, 2) := by decide +kernel
theorem dX11_rains_129 : decode cX11_rains 129 = .ok (.iload 8, 2) := by decide +kernel
theorem dX11_rains_131 : decode cX11_rains 131 = .ok (.iadd, 1) := by decide +kernel
theorem dX11_rains_132 : decode cX11_rains 132 = .ok (.iaload, 1) := by decide +kernel
theorem dX11_rains_133 : decode cX11_rains 133 = .ok (.iastore, 1) := by decide +kernel
theorem dX11_rains_134 : decode cX11_rains 134 = .ok (.iinc 8 1, 3) := by decide +kernel
theorem dX11_rains_137 : decode cX11_rains 137 = .ok (.goto (-34), 3) := by decide +kernel
theorem dX11_rains_140 : decode cX11_rains 140 = .ok (.iload 5, 2) := by decide +kernel
theorem dX11_rains_142 : decode cX11_rains 142 = .ok (.ireturn, 1) := by decide +kernel
theorem dX11_fits_0 : decode cX11_fits 0 = .ok (.iconst 1, 1) := by decide +kernel
theorem dX11_fits_1 : decode cX11_fits 1 = .ok (.istore 5, 2) := by decide +kernel
theorem dX11_fits_3 : decode cX11_fits 3 = .ok (.iconst 0, 1) := by decide +kernel
theorem dX11_fits_4 : decode cX11_fits 4 = .ok (.istore 6, 2) := by decide +kernel
theorem dX11_fits_6 : decode cX11_fits 6 = .ok (.iload 6, 2) := by decide +kernel
theorem dX11_fits_8 : decode cX11_fits 8 = .ok (.iload_n 2, 1) := by decide +kernel
theorem dX11_fits_9 : decode cX11_fits 9 = .ok (.if_icmp .ge 105, 3) := by decide +kernel
theorem dX11_fits_12 : decode cX11_fits 12 = .ok (.iload 5, 2) := by decide +kernel
theorem dX11_fits_14 : decode cX11_fits 14 = .ok (.ifCond .eq 100, 3) := by decide +kernel
theorem dX11_fits_17 : decode cX11_fits 17 = .ok (.aload_n 0, 1) := by decide +kernel
theorem dX11_fits_18 : decode cX11_fits 18 = .ok (.getfield 65, 3) := by decide +kernel
theorem dX11_fits_21 : decode cX11_fits 21 = .ok (.iload_n 1, 1) := by decide +kernel
theorem dX11_fits_22 : decode cX11_fits 22 = .ok (.iconst 2, 1) := by decide +kernel
theorem dX11_fits_23 : decode cX11_fits 23 = .ok (.iload 6, 2) := by decide +kernel
theorem dX11_fits_25 : decode cX11_fits 25 = .ok (.imul, 1) := by decide +kernel
theorem dX11_fits_26 : decode cX11_fits 26 = .ok (.iadd, 1) := by decide +kernel
theorem dX11_fits_27 : decode cX11_fits 27 = .ok (.iaload, 1) := by decide +kernel
theorem dX11_fits_28 : decode cX11_fits 28 = .ok (.istore 7, 2) := by decide +kernel
theorem dX11_fits_30 : decode cX11_fits 30 = .ok (.aload_n 0, 1) := by decide +kernel
theorem dX11_fits_31 : decode cX11_fits 31 = .ok (.iload 7, 2) := by decide +kernel
theorem dX11_fits_33 : decode cX11_fits 33 = .ok (.iload_n 3, 1) := by decide +kernel
theorem dX11_fits_34 : decode cX11_fits 34 = .ok (.invokevirtual 90, 3) := by decide +kernel
theorem dX11_fits_37 : decode cX11_fits 37 = .ok (.ifCond .le 7, 3) := by decide +kernel
theorem dX11_fits_40 : decode cX11_fits 40 = .ok (.iconst 1, 1) := by decide +kernel
theorem dX11_fits_41 : decode cX11_fits 41 = .ok (.goto 4, 3) := by decide +kernel
theorem dX11_fits_44 : decode cX11_fits 44 = .ok (.iconst 0, 1) := by decide +kernel
theorem dX11_fits_45 : decode cX11_fits 45 = .ok (.istore 5, 2) := by decide +kernel
theorem dX11_fits_47 : decode cX11_fits 47 = .ok (.iload 5, 2) := by decide +kernel
theorem dX11_fits_49 : decode cX11_fits 49 = .ok (.ifCond .eq 29, 3) := by decide +kernel
theorem dX11_fits_52 : decode cX11_fits 52 = .ok (.aload_n 0, 1) := by decide +kernel
theorem dX11_fits_53 : decode cX11_fits 53 = .ok (.iload 7, 2) := by decide +kernel
theorem dX11_fits_55 : decode cX11_fits 55 = .ok (.iload_n 3, 1) := by decide +kernel
theorem dX11_fits_56 : decode cX11_fits 56 = .ok (.invokevirtual 94, 3) := by decide +kernel
theorem dX11_fits_59 : decode cX11_fits 59 = .ok (.i2l, 1) := by decide +kernel
theorem dX11_fits_60 : decode cX11_fits 60 = .ok (.aload_n 0, 1) := by decide +kernel
theorem dX11_fits_61 : decode cX11_fits 61 = .ok (.getfield 65, 3) := by decide +kernel
theorem dX11_fits_64 : decode cX11_fits 64 = .ok (.iload_n 1, 1) := by decide +kernel
theorem dX11_fits_65 : decode cX11_fits 65 = .ok (.iconst 2, 1) := by decide +kernel
theorem dX11_fits_66 : decode cX11_fits 66 = .ok (.iload 6, 2) := by decide +kernel
theorem dX11_fits_68 : decode cX11_fits 68 = .ok (.imul, 1) := by decide +kernel
theorem dX11_fits_69 : decode cX11_fits 69 = .ok (.iadd, 1) := by decide +kernel
theorem dX11_fits_70 : decode cX11_fits 70 = .ok (.iconst 1, 1) := by decide +kernel
theorem dX11_fits_71 : decode cX11_fits 71 = .ok (.iadd, 1) := by decide +kernel
theorem dX11_fits_72 : decode cX11_fits 72 = .ok (.iaload, 1) := by decide +kernel
theorem dX11_fits_73 : decode cX11_fits 73 = .ok (.i2l, 1) := by decide +kernel
theorem dX11_fits_74 : decode cX11_fits 74 = .ok (.lsub, 1) := by decide +kernel
theorem dX11_fits_75 : decode cX11_fits 75 = .ok (.goto 4, 3) := by decide +kernel
theorem dX11_fits_78 : decode cX11_fits 78 = .ok (.lconst 0, 1) := by decide +kernel
theorem dX11_fits_79 : decode cX11_fits 79 = .ok (.lstore 8, 2) := by decide +kernel
theorem dX11_fits_81 : decode cX11_fits 81 = .ok (.iload 5, 2) := by decide +kernel
theorem dX11_fits_83 : decode cX11_fits 83 = .ok (.ifCond .eq 22, 3) := by decide +kernel
theorem dX11_fits_86 : decode cX11_fits 86 = .ok (.lload 8, 2) := by decide +kernel
theorem dX11_fits_88 : decode cX11_fits 88 = .ok (.iload 4, 2) := by decide +kernel
theorem dX11_fits_90 : decode cX11_fits 90 = .ok (.ineg, 1) := by decide +kernel
theorem dX11_fits_91 : decode cX11_fits 91 = .ok (.i2l, 1) := by decide +kernel
theorem dX11_fits_92 : decode cX11_fits 92 = .ok (.iload 4, 2) := by decide +kernel
theorem dX11_fits_94 : decode cX11_fits 94 = .ok (.i2l, 1) := by decide +kernel
theorem dX11_fits_95 : decode cX11_fits 95 = .ok (.invokestatic 70, 3) := by decide +kernel
theorem dX11_fits_98 : decode cX11_fits 98 = .ok (.ifCond .eq 7, 3) := by decide +kernel
theorem dX11_fits_101 : decode cX11_fits 101 = .ok (.iconst 1, 1) := by decide +kernel
theorem dX11_fits_102 : decode cX11_fits 102 = .ok (.goto 4, 3) := by decide +kernel
theorem dX11_fits_105 : decode cX11_fits 105 = .ok (.iconst 0, 1) := by decide +kernel
theorem dX11_fits_106 : decode cX11_fits 106 = .ok (.istore 5, 2) := by decide +kernel
theorem dX11_fits_108 : decode cX11_fits 108 = .ok (.iinc 6 1, 3) := by decide +kernel
theorem dX11_fits_111 : decode cX11_fits 111 = .ok (.goto (-105), 3) := by decide +kernel
theorem dX11_fits_114 : decode cX11_fits 114 = .ok (.iload 5, 2) := by decide +kernel
theorem dX11_fits_116 : decode cX11_fits 116 = .ok (.ireturn, 1) := by decide +kernel
theorem dX11_learn_0 : decode cX11_learn 0 = .ok (.iload_n 1, 1) := by decide +kernel
theorem dX11_learn_1 : decode cX11_learn 1 = .ok (.iload_n 2, 1) := by decide +kernel
theorem dX11_learn_2 : decode cX11_learn 2 = .ok (.invokestatic 276, 3) := by decide +kernel
theorem dX11_learn_5 : decode cX11_learn 5 = .ok (.ifCond .eq 29, 3) := by decide +kernel
theorem dX11_learn_8 : decode cX11_learn 8 = .ok (.iload 4, 2) := by decide +kernel
theorem dX11_learn_10 : decode cX11_learn 10 = .ok (.i2l, 1) := by decide +kernel
theorem dX11_learn_11 : decode cX11_learn 11 = .ok (.lconst 1, 1) := by decide +kernel
theorem dX11_learn_12 : decode cX11_learn 12 = .ok (.ldc2_w 104, 3) := by decide +kernel
theorem dX11_learn_15 : decode cX11_learn 15 = .ok (.invokestatic 70, 3) := by decide +kernel
theorem dX11_learn_18 : decode cX11_learn 18 = .ok (.ifCond .eq 16, 3) := by decide +kernel
theorem dX11_learn_21 : decode cX11_learn 21 = .ok (.iload 5, 2) := by decide +kernel
theorem dX11_learn_23 : decode cX11_learn 23 = .ok (.i2l, 1) := by decide +kernel
theorem dX11_learn_24 : decode cX11_learn 24 = .ok (.lconst 0, 1) := by decide +kernel
theorem dX11_learn_25 : decode cX11_learn 25 = .ok (.ldc2_w 74, 3) := by decide +kernel
theorem dX11_learn_28 : decode cX11_learn 28 = .ok (.invokestatic 70, 3) := by decide +kernel
theorem dX11_learn_31 : decode cX11_learn 31 = .ok (.ifCond .ne 5, 3) := by decide +kernel
theorem dX11_learn_34 : decode cX11_learn 34 = .ok (.iconst (-1), 1) := by decide +kernel
theorem dX11_learn_35 : decode cX11_learn 35 = .ok (.ireturn, 1) := by decide +kernel
theorem dX11_learn_36 : decode cX11_learn 36 = .ok (.aload_n 0, 1) := by decide +kernel
theorem dX11_learn_37 : decode cX11_learn 37 = .ok (.iload_n 1, 1) := by decide +kernel
theorem dX11_learn_38 : decode cX11_learn 38 = .ok (.iload_n 2, 1) := by decide +kernel
theorem dX11_learn_39 : decode cX11_learn 39 = .ok (.iload_n 3, 1) := by decide +kernel
theorem dX11_learn_40 : decode cX11_learn 40 = .ok (.iconst 2, 1) := by decide +kernel
theorem dX11_learn_41 : decode cX11_learn 41 = .ok (.iload 4, 2) := by decide +kernel
theorem dX11_learn_43 : decode cX11_learn 43 = .ok (.imul, 1) := by decide +kernel
theorem dX11_learn_44 : decode cX11_learn 44 = .ok (.invokevirtual 279, 3) := by decide +kernel
theorem dX11_learn_47 : decode cX11_learn 47 = .ok (.istore 6, 2) := by decide +kernel
theorem dX11_learn_49 : decode cX11_learn 49 = .ok (.iload 6, 2) := by decide +kernel
theorem dX11_learn_51 : decode cX11_learn 51 = .ok (.ifCond .ge 6, 3) := by decide +kernel
theorem dX11_learn_54 : decode cX11_learn 54 = .ok (.iload 6, 2) := by decide +kernel
theorem dX11_learn_56 : decode cX11_learn 56 = .ok (.ireturn, 1) := by decide +kernel
theorem dX11_learn_57 : decode cX11_learn 57 = .ok (.bipush 24, 2) := by decide +kernel
theorem dX11_learn_59 : decode cX11_learn 59 = .ok (.iload_n 1, 1) := by decide +kernel
theorem dX11_learn_60 : decode cX11_learn 60 = .ok (.imul, 1) := by decide +kernel
theorem dX11_learn_61 : decode cX11_learn 61 = .ok (.iload_n 3, 1) := by decide +kernel
theorem dX11_learn_62 : decode cX11_learn 62 = .ok (.iadd, 1) := by decide +kernel
theorem dX11_learn_63 : decode cX11_learn 63 = .ok (.istore 7, 2) := by decide +kernel
theorem dX11_learn_65 : decode cX11_learn 65 = .ok (.iconst 0, 1) := by decide +kernel
theorem dX11_learn_66 : decode cX11_learn 66 = .ok (.istore 8, 2) := by decide +kernel
theorem dX11_learn_68 : decode cX11_learn 68 = .ok (.iload 8, 2) := by decide +kernel
theorem dX11_learn_70 : decode cX11_learn 70 = .ok (.iload 4, 2) := by decide +kernel
theorem dX11_learn_72 : decode cX11_learn 72 = .ok (.if_icmp .ge 30, 3) := by decide +kernel
theorem dX11_learn_75 : decode cX11_learn 75 = .ok (.aload_n 0, 1) := by decide +kernel
theorem dX11_learn_76 : decode cX11_learn 76 = .ok (.getfield 65, 3) := by decide +kernel
theorem dX11_learn_79 : decode cX11_learn 79 = .ok (.iload 7, 2) := by decide +kernel
theorem dX11_learn_81 : decode cX11_learn 81 = .ok (.iconst 2, 1) := by decide +kernel
theorem dX11_learn_82 : decode cX11_learn 82 = .ok (.iload 8, 2) := by decide +kernel
theorem dX11_learn_84 : decode cX11_learn 84 = .ok (.imul, 1) := by decide +kernel
theorem dX11_learn_85 : decode cX11_learn 85 = .ok (.iadd, 1) := by decide +kernel
theorem dX11_learn_86 : decode cX11_learn 86 = .ok (.iaload, 1) := by decide +kernel
theorem dX11_learn_87 : decode cX11_learn 87 = .ok (.invokestatic 80, 3) := by decide +kernel
theorem dX11_learn_90 : decode cX11_learn 90 = .ok (.ifCond .ne 6, 3) := by decide +kernel
theorem dX11_learn_93 : decode cX11_learn 93 = .ok (.bipush (-2), 2) := by decide +kernel
theorem dX11_learn_95 : decode cX11_learn 95 = .ok (.ireturn, 1) := by decide +kernel
theorem dX11_learn_96 : decode cX11_learn 96 = .ok (.iinc 8 1, 3) := by decide +kernel
theorem dX11_learn_99 : decode cX11_learn 99 = .ok (.goto (-31), 3) := by decide +kernel
theorem dX11_learn_102 : decode cX11_learn 102 = .ok (.iconst 0, 1) := by decide +kernel
theorem dX11_learn_103 : decode cX11_learn 103 = .ok (.istore 8, 2) := by decide +kernel
theorem dX11_learn_105 : decode cX11_learn 105 = .ok (.iconst 1, 1) := by decide +kernel
theorem dX11_learn_106 : decode cX11_learn 106 = .ok (.istore 9, 2) := by decide +kernel
theorem dX11_learn_108 : decode cX11_learn 108 = .ok (.iload 9, 2) := by decide +kernel
theorem dX11_learn_110 : decode cX11_learn 110 = .ok (.iconst 5, 1) := by decide +kernel
theorem dX11_learn_111 : decode cX11_learn 111 = .ok (.if_icmp .gt 39, 3) := by decide +kernel
theorem dX11_learn_114 : decode cX11_learn 114 = .ok (.iload 8, 2) := by decide +kernel
theorem dX11_learn_116 : decode cX11_learn 116 = .ok (.aload_n 0, 1) := by decide +kernel
theorem dX11_learn_117 : decode cX11_learn 117 = .ok (.iload 7, 2) := by decide +kernel
theorem dX11_learn_119 : decode cX11_learn 119 = .ok (.iload 4, 2) := by decide +kernel
theorem dX11_learn_121 : decode cX11_learn 121 = .ok (.iload 9, 2) := by decide +kernel
theorem dX11_learn_123 : decode cX11_learn 123 = .ok (.iload 5, 2) := by decide +kernel
theorem dX11_learn_125 : decode cX11_learn 125 = .ok (.invokevirtual 350, 3) := by decide +kernel
theorem dX11_learn_128 : decode cX11_learn 128 = .ok (.ifCond .eq 12, 3) := by decide +kernel
theorem dX11_learn_131 : decode cX11_learn 131 = .ok (.iconst 1, 1) := by decide +kernel
theorem dX11_learn_132 : decode cX11_learn 132 = .ok (.iload 9, 2) := by decide +kernel
theorem dX11_learn_134 : decode cX11_learn 134 = .ok (.iconst 1, 1) := by decide +kernel
theorem dX11_learn_135 : decode cX11_learn 135 = .ok (.isub, 1) := by decide +kernel
theorem dX11_learn_136 : decode cX11_learn 136 = .ok (.ishl, 1) := by decide +kernel
theorem dX11_learn_137 : decode cX11_learn 137 = .ok (.goto 4, 3) := by decide +kernel
theorem dX11_learn_140 : decode cX11_learn 140 = .ok (.iconst 0, 1) := by decide +kernel
theorem dX11_learn_141 : decode cX11_learn 141 = .ok (.ior, 1) := by decide +kernel
theorem dX11_learn_142 : decode cX11_learn 142 = .ok (.istore 8, 2) := by decide +kernel
theorem dX11_learn_144 : decode cX11_learn 144 = .ok (.iinc 9 1, 3) := by decide +kernel
theorem dX11_learn_147 : decode cX11_learn 147 = .ok (.goto (-39), 3) := by decide +kernel
theorem dX11_learn_150 : decode cX11_learn 150 = .ok (.iload 8, 2) := by decide +kernel
theorem dX11_learn_152 : decode cX11_learn 152 = .ok (.ifCond .ne 8, 3) := by decide +kernel
theorem dX11_learn_155 : decode cX11_learn 155 = .ok (.bipush (-4), 2) := by decide +kernel
theorem dX11_learn_157 : decode cX11_learn 157 = .ok (.goto 5, 3) := by decide +kernel
theorem dX11_learn_160 : decode cX11_learn 160 = .ok (.iload 8, 2) := by decide +kernel
theorem dX11_learn_162 : decode cX11_learn 162 = .ok (.ireturn, 1) := by decide +kernel
