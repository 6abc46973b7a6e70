theorem dX11_in_0 : decode cX11_in 0 = .ok (.lload_n 0, 1) := by decide +kernel
theorem dX11_in_1 : decode cX11_in 1 = .ok (.lload_n 2, 1) := by decide +kernel
theorem dX11_in_2 : decode cX11_in 2 = .ok (.lcmp, 1) := by decide +kernel
theorem dX11_in_3 : decode cX11_in 3 = .ok (.ifCond .lt 14, 3) := by decide +kernel
theorem dX11_in_6 : decode cX11_in 6 = .ok (.lload_n 0, 1) := by decide +kernel
theorem dX11_in_7 : decode cX11_in 7 = .ok (.lload 4, 2) := by decide +kernel
theorem dX11_in_9 : decode cX11_in 9 = .ok (.lcmp, 1) := by decide +kernel
theorem dX11_in_10 : decode cX11_in 10 = .ok (.ifCond .gt 7, 3) := by decide +kernel
theorem dX11_in_13 : decode cX11_in 13 = .ok (.iconst 1, 1) := by decide +kernel
theorem dX11_in_14 : decode cX11_in 14 = .ok (.goto 4, 3) := by decide +kernel
theorem dX11_in_17 : decode cX11_in 17 = .ok (.iconst 0, 1) := by decide +kernel
theorem dX11_in_18 : decode cX11_in 18 = .ok (.ireturn, 1) := by decide +kernel
theorem dX11_init_0 : decode cX11_init 0 = .ok (.aload_n 0, 1) := by decide +kernel
theorem dX11_init_1 : decode cX11_init 1 = .ok (.invokespecial 1, 3) := by decide +kernel
theorem dX11_init_4 : decode cX11_init 4 = .ok (.aload_n 0, 1) := by decide +kernel
theorem dX11_init_5 : decode cX11_init 5 = .ok (.sipush 392, 3) := by decide +kernel
theorem dX11_init_8 : decode cX11_init 8 = .ok (.newarray .int, 2) := by decide +kernel
theorem dX11_init_10 : decode cX11_init 10 = .ok (.putfield 7, 3) := by decide +kernel
theorem dX11_init_13 : decode cX11_init 13 = .ok (.aload_n 0, 1) := by decide +kernel
theorem dX11_init_14 : decode cX11_init 14 = .ok (.bipush 80, 2) := by decide +kernel
theorem dX11_init_16 : decode cX11_init 16 = .ok (.newarray .int, 2) := by decide +kernel
theorem dX11_init_18 : decode cX11_init 18 = .ok (.putfield 13, 3) := by decide +kernel
theorem dX11_init_21 : decode cX11_init 21 = .ok (.aload_n 0, 1) := by decide +kernel
theorem dX11_init_22 : decode cX11_init 22 = .ok (.bipush 66, 2) := by decide +kernel
theorem dX11_init_24 : decode cX11_init 24 = .ok (.newarray .int, 2) := by decide +kernel
theorem dX11_init_26 : decode cX11_init 26 = .ok (.putfield 16, 3) := by decide +kernel
theorem dX11_init_29 : decode cX11_init 29 = .ok (.aload_n 0, 1) := by decide +kernel
theorem dX11_init_30 : decode cX11_init 30 = .ok (.bipush 12, 2) := by decide +kernel
theorem dX11_init_32 : decode cX11_init 32 = .ok (.newarray .int, 2) := by decide +kernel
theorem dX11_init_34 : decode cX11_init 34 = .ok (.putfield 19, 3) := by decide +kernel
theorem dX11_init_37 : decode cX11_init 37 = .ok (.aload_n 0, 1) := by decide +kernel
theorem dX11_init_38 : decode cX11_init 38 = .ok (.bipush 12, 2) := by decide +kernel
theorem dX11_init_40 : decode cX11_init 40 = .ok (.newarray .int, 2) := by decide +kernel
theorem dX11_init_42 : decode cX11_init 42 = .ok (.putfield 22, 3) := by decide +kernel
theorem dX11_init_45 : decode cX11_init 45 = .ok (.aload_n 0, 1) := by decide +kernel
theorem dX11_init_46 : decode cX11_init 46 = .ok (.bipush 12, 2) := by decide +kernel
theorem dX11_init_48 : decode cX11_init 48 = .ok (.newarray .int, 2) := by decide +kernel
theorem dX11_init_50 : decode cX11_init 50 = .ok (.putfield 25, 3) := by decide +kernel
theorem dX11_init_53 : decode cX11_init 53 = .ok (.aload_n 0, 1) := by decide +kernel
theorem dX11_init_54 : decode cX11_init 54 = .ok (.bipush 12, 2) := by decide +kernel
theorem dX11_init_56 : decode cX11_init 56 = .ok (.newarray .int, 2) := by decide +kernel
theorem dX11_init_58 : decode cX11_init 58 = .ok (.putfield 28, 3) := by decide +kernel
theorem dX11_init_61 : decode cX11_init 61 = .ok (.aload_n 0, 1) := by decide +kernel
theorem dX11_init_62 : decode cX11_init 62 = .ok (.bipush 12, 2) := by decide +kernel
theorem dX11_init_64 : decode cX11_init 64 = .ok (.newarray .int, 2) := by decide +kernel
theorem dX11_init_66 : decode cX11_init 66 = .ok (.putfield 31, 3) := by decide +kernel
theorem dX11_init_69 : decode cX11_init 69 = .ok (.aload_n 0, 1) := by decide +kernel
theorem dX11_init_70 : decode cX11_init 70 = .ok (.sipush 1440, 3) := by decide +kernel
theorem dX11_init_73 : decode cX11_init 73 = .ok (.newarray .long, 2) := by decide +kernel
theorem dX11_init_75 : decode cX11_init 75 = .ok (.putfield 34, 3) := by decide +kernel
theorem dX11_init_78 : decode cX11_init 78 = .ok (.aload_n 0, 1) := by decide +kernel
theorem dX11_init_79 : decode cX11_init 79 = .ok (.sipush 1440, 3) := by decide +kernel
theorem dX11_init_82 : decode cX11_init 82 = .ok (.newarray .long, 2) := by decide +kernel
theorem dX11_init_84 : decode cX11_init 84 = .ok (.putfield 38, 3) := by decide +kernel
theorem dX11_init_87 : decode cX11_init 87 = .ok (.aload_n 0, 1) := by decide +kernel
theorem dX11_init_88 : decode cX11_init 88 = .ok (.bipush 24, 2) := by decide +kernel
theorem dX11_init_90 : decode cX11_init 90 = .ok (.newarray .long, 2) := by decide +kernel
theorem dX11_init_92 : decode cX11_init 92 = .ok (.putfield 41, 3) := by decide +kernel
theorem dX11_init_95 : decode cX11_init 95 = .ok (.aload_n 0, 1) := by decide +kernel
theorem dX11_init_96 : decode cX11_init 96 = .ok (.sipush 288, 3) := by decide +kernel
theorem dX11_init_99 : decode cX11_init 99 = .ok (.newarray .long, 2) := by decide +kernel
theorem dX11_init_101 : decode cX11_init 101 = .ok (.putfield 44, 3) := by decide +kernel
theorem dX11_init_104 : decode cX11_init 104 = .ok (.aload_n 0, 1) := by decide +kernel
theorem dX11_init_105 : decode cX11_init 105 = .ok (.bipush 12, 2) := by decide +kernel
theorem dX11_init_107 : decode cX11_init 107 = .ok (.newarray .int, 2) := by decide +kernel
theorem dX11_init_109 : decode cX11_init 109 = .ok (.putfield 47, 3) := by decide +kernel
theorem dX11_init_112 : decode cX11_init 112 = .ok (.aload_n 0, 1) := by decide +kernel
theorem dX11_init_113 : decode cX11_init 113 = .ok (.sipush 20280, 3) := by decide +kernel
theorem dX11_init_116 : decode cX11_init 116 = .ok (.newarray .long, 2) := by decide +kernel
theorem dX11_init_118 : decode cX11_init 118 = .ok (.putfield 50, 3) := by decide +kernel
theorem dX11_init_121 : decode cX11_init 121 = .ok (.aload_n 0, 1) := by decide +kernel
theorem dX11_init_122 : decode cX11_init 122 = .ok (.sipush 20280, 3) := by decide +kernel
theorem dX11_init_125 : decode cX11_init 125 = .ok (.newarray .long, 2) := by decide +kernel
theorem dX11_init_127 : decode cX11_init 127 = .ok (.putfield 53, 3) := by decide +kernel
theorem dX11_init_130 : decode cX11_init 130 = .ok (.aload_n 0, 1) := by decide +kernel
theorem dX11_init_131 : decode cX11_init 131 = .ok (.sipush 392, 3) := by decide +kernel
theorem dX11_init_134 : decode cX11_init 134 = .ok (.newarray .int, 2) := by decide +kernel
theorem dX11_init_136 : decode cX11_init 136 = .ok (.putfield 56, 3) := by decide +kernel
theorem dX11_init_139 : decode cX11_init 139 = .ok (.aload_n 0, 1) := by decide +kernel
theorem dX11_init_140 : decode cX11_init 140 = .ok (.iconst 4, 1) := by decide +kernel
theorem dX11_init_141 : decode cX11_init 141 = .ok (.newarray .int, 2) := by decide +kernel
theorem dX11_init_143 : decode cX11_init 143 = .ok (.putfield 59, 3) := by decide +kernel
theorem dX11_init_146 : decode cX11_init 146 = .ok (.aload_n 0, 1) := by decide +kernel
theorem dX11_init_147 : decode cX11_init 147 = .ok (.iconst 4, 1) := by decide +kernel
theorem dX11_init_148 : decode cX11_init 148 = .ok (.newarray .int, 2) := by decide +kernel
theorem dX11_init_150 : decode cX11_init 150 = .ok (.putfield 62, 3) := by decide +kernel
theorem dX11_init_153 : decode cX11_init 153 = .ok (.aload_n 0, 1) := by decide +kernel
theorem dX11_init_154 : decode cX11_init 154 = .ok (.bipush 96, 2) := by decide +kernel
theorem dX11_init_156 : decode cX11_init 156 = .ok (.newarray .int, 2) := by decide +kernel
theorem dX11_init_158 : decode cX11_init 158 = .ok (.putfield 65, 3) := by decide +kernel
theorem dX11_init_161 : decode cX11_init 161 = .ok (.iconst 0, 1) := by decide +kernel
theorem dX11_init_162 : decode cX11_init 162 = .ok (.istore_n 1, 1) := by decide +kernel
theorem dX11_init_163 : decode cX11_init 163 = .ok (.iload_n 1, 1) := by decide +kernel
theorem dX11_init_164 : decode cX11_init 164 = .ok (.iconst 4, 1) := by decide +kernel
theorem dX11_init_165 : decode cX11_init 165 = .ok (.if_icmp .ge 16, 3) := by decide +kernel
theorem dX11_init_168 : decode cX11_init 168 = .ok (.aload_n 0, 1) := by decide +kernel
theorem dX11_init_169 : decode cX11_init 169 = .ok (.getfield 59, 3) := by decide +kernel
theorem dX11_init_172 : decode cX11_init 172 = .ok (.iload_n 1, 1) := by decide +kernel
theorem dX11_init_173 : decode cX11_init 173 = .ok (.iconst (-1), 1) := by decide +kernel
theorem dX11_init_174 : decode cX11_init 174 = .ok (.iastore, 1) := by decide +kernel
theorem dX11_init_175 : decode cX11_init 175 = .ok (.iinc 1 1, 3) := by decide +kernel
theorem dX11_init_178 : decode cX11_init 178 = .ok (.goto (-15), 3) := by decide +kernel
theorem dX11_init_181 : decode cX11_init 181 = .ok (.aload_n 0, 1) := by decide +kernel
theorem dX11_init_182 : decode cX11_init 182 = .ok (.getfield 7, 3) := by decide +kernel
theorem dX11_init_185 : decode cX11_init 185 = .ok (.iconst 0, 1) := by decide +kernel
theorem dX11_init_186 : decode cX11_init 186 = .ok (.iconst 1, 1) := by decide +kernel
theorem dX11_init_187 : decode cX11_init 187 = .ok (.iastore, 1) := by decide +kernel
theorem dX11_init_188 : decode cX11_init 188 = .ok (.aload_n 0, 1) := by decide +kernel
theorem dX11_init_189 : decode cX11_init 189 = .ok (.getfield 7, 3) := by decide +kernel
theorem dX11_init_192 : decode cX11_init 192 = .ok (.iconst 1, 1) := by decide +kernel
theorem dX11_init_193 : decode cX11_init 193 = .ok (.iconst 3, 1) := by decide +kernel
theorem dX11_init_194 : decode cX11_init 194 = .ok (.iastore, 1) := by decide +kernel
theorem dX11_init_195 : decode cX11_init 195 = .ok (.aload_n 0, 1) := by decide +kernel
theorem dX11_init_196 : decode cX11_init 196 = .ok (.getfield 7, 3) := by decide +kernel
theorem dX11_init_199 : decode cX11_init 199 = .ok (.iconst 3, 1) := by decide +kernel
theorem dX11_init_200 : decode cX11_init 200 = .ok (.iconst 2, 1) := by decide +kernel
theorem dX11_init_201 : decode cX11_init 201 = .ok (.iastore, 1) := by decide +kernel
theorem dX11_init_202 : decode cX11_init 202 = .ok (.aload_n 0, 1) := by decide +kernel
theorem dX11_init_203 : decode cX11_init 203 = .ok (.getfield 7, 3) := by decide +kernel
theorem dX11_init_206 : decode cX11_init 206 = .ok (.iconst 4, 1) := by decide +kernel
theorem dX11_init_207 : decode cX11_init 207 = .ok (.iconst 2, 1) := by decide +kernel
theorem dX11_init_208 : decode cX11_init 208 = .ok (.iastore, 1) := by decide +kernel
theorem dX11_init_209 : decode cX11_init 209 = .ok (.return_, 1) := by decide +kernel
theorem dX11_isYear_0 : decode cX11_isYear 0 = .ok (.iload_n 0, 1) := by decide +kernel
theorem dX11_isYear_1 : decode cX11_isYear 1 = .ok (.i2l, 1) := by decide +kernel
theorem dX11_isYear_2 : decode cX11_isYear 2 = .ok (.lconst 0, 1) := by decide +kernel
theorem dX11_isYear_3 : decode cX11_isYear 3 = .ok (.ldc2_w 68, 3) := by decide +kernel
theorem dX11_isYear_6 : decode cX11_isYear 6 = .ok (.invokestatic 70, 3) := by decide +kernel
theorem dX11_isYear_9 : decode cX11_isYear 9 = .ok (.ireturn, 1) := by decide +kernel
theorem dX11_isCandle_0 : decode cX11_isCandle 0 = .ok (.iload_n 0, 1) := by decide +kernel
theorem dX11_isCandle_1 : decode cX11_isCandle 1 = .ok (.i2l, 1) := by decide +kernel
theorem dX11_isCandle_2 : decode cX11_isCandle 2 = .ok (.lconst 0, 1) := by decide +kernel
theorem dX11_isCandle_3 : decode cX11_isCandle 3 = .ok (.lconst 1, 1) := by decide +kernel
theorem dX11_isCandle_4 : decode cX11_isCandle 4 = .ok (.invokestatic 70, 3) := by decide +kernel
theorem dX11_isCandle_7 : decode cX11_isCandle 7 = .ok (.ireturn, 1) := by decide +kernel
theorem dX11_isThing_0 : decode cX11_isThing 0 = .ok (.iload_n 2, 1) := by decide +kernel
theorem dX11_isThing_1 : decode cX11_isThing 1 = .ok (.i2l, 1) := by decide +kernel
theorem dX11_isThing_2 : decode cX11_isThing 2 = .ok (.lconst 0, 1) := by decide +kernel
theorem dX11_isThing_3 : decode cX11_isThing 3 = .ok (.aload_n 0, 1) := by decide +kernel
theorem dX11_isThing_4 : decode cX11_isThing 4 = .ok (.getfield 7, 3) := by decide +kernel
theorem dX11_isThing_7 : decode cX11_isThing 7 = .ok (.iconst 5, 1) := by decide +kernel
theorem dX11_isThing_8 : decode cX11_isThing 8 = .ok (.iload_n 1, 1) := by decide +kernel
theorem dX11_isThing_9 : decode cX11_isThing 9 = .ok (.iadd, 1) := by decide +kernel
theorem dX11_isThing_10 : decode cX11_isThing 10 = .ok (.iaload, 1) := by decide +kernel
theorem dX11_isThing_11 : decode cX11_isThing 11 = .ok (.iconst 1, 1) := by decide +kernel
theorem dX11_isThing_12 : decode cX11_isThing 12 = .ok (.isub, 1) := by decide +kernel
theorem dX11_isThing_13 : decode cX11_isThing 13 = .ok (.i2l, 1) := by decide +kernel
theorem dX11_isThing_14 : decode cX11_isThing 14 = .ok (.invokestatic 70, 3) := by decide +kernel
theorem dX11_isThing_17 : decode cX11_isThing 17 = .ok (.ireturn, 1) := by decide +kernel
theorem dX11_mayRain_0 : decode cX11_mayRain 0 = .ok (.iload_n 0, 1) := by decide +kernel
theorem dX11_mayRain_1 : decode cX11_mayRain 1 = .ok (.ifCond .eq 8, 3) := by decide +kernel
theorem dX11_mayRain_4 : decode cX11_mayRain 4 = .ok (.iload_n 0, 1) := by decide +kernel
theorem dX11_mayRain_5 : decode cX11_mayRain 5 = .ok (.iconst 2, 1) := by decide +kernel
theorem dX11_mayRain_6 : decode cX11_mayRain 6 = .ok (.if_icmp .ne 15, 3) := by decide +kernel
theorem dX11_mayRain_9 : decode cX11_mayRain 9 = .ok (.iload_n 1, 1) := by decide +kernel
theorem dX11_mayRain_10 : decode cX11_mayRain 10 = .ok (.i2l, 1) := by decide +kernel
theorem dX11_mayRain_11 : decode cX11_mayRain 11 = .ok (.lconst 0, 1) := by decide +kernel
theorem dX11_mayRain_12 : decode cX11_mayRain 12 = .ok (.ldc2_w 74, 3) := by decide +kernel
theorem dX11_mayRain_15 : decode cX11_mayRain 15 = .ok (.invokestatic 70, 3) := by decide +kernel
theorem dX11_mayRain_18 : decode cX11_mayRain 18 = .ok (.goto 27, 3) := by decide +kernel
theorem dX11_mayRain_21 : decode cX11_mayRain 21 = .ok (.iload_n 0, 1) := by decide +kernel
theorem dX11_mayRain_22 : decode cX11_mayRain 22 = .ok (.iconst 1, 1) := by decide +kernel
theorem dX11_mayRain_23 : decode cX11_mayRain 23 = .ok (.if_icmp .ne 21, 3) := by decide +kernel
theorem dX11_mayRain_26 : decode cX11_mayRain 26 = .ok (.iload_n 1, 1) := by decide +kernel
theorem dX11_mayRain_27 : decode cX11_mayRain 27 = .ok (.i2l, 1) := by decide +kernel
theorem dX11_mayRain_28 : decode cX11_mayRain 28 = .ok (.ldc2_w 76, 3) := by decide +kernel
theorem dX11_mayRain_31 : decode cX11_mayRain 31 = .ok (.ldc2_w 78, 3) := by decide +kernel
theorem dX11_mayRain_34 : decode cX11_mayRain 34 = .ok (.invokestatic 70, 3) := by decide +kernel
theorem dX11_mayRain_37 : decode cX11_mayRain 37 = .ok (.ifCond .eq 7, 3) := by decide +kernel
theorem dX11_mayRain_40 : decode cX11_mayRain 40 = .ok (.iconst 1, 1) := by decide +kernel
theorem dX11_mayRain_41 : decode cX11_mayRain 41 = .ok (.goto 4, 3) := by decide +kernel
theorem dX11_mayRain_44 : decode cX11_mayRain 44 = .ok (.iconst 0, 1) := by decide +kernel
theorem dX11_mayRain_45 : decode cX11_mayRain 45 = .ok (.ireturn, 1) := by decide +kernel
theorem dX11_rain_0 : decode cX11_rain 0 = .ok (.iload_n 1, 1) := by decide +kernel
theorem dX11_rain_1 : decode cX11_rain 1 = .ok (.invokestatic 80, 3) := by decide +kernel
theorem dX11_rain_4 : decode cX11_rain 4 = .ok (.ifCond .eq 11, 3) := by decide +kernel
theorem dX11_rain_7 : decode cX11_rain 7 = .ok (.iload_n 2, 1) := by decide +kernel
theorem dX11_rain_8 : decode cX11_rain 8 = .ok (.iload_n 3, 1) := by decide +kernel
theorem dX11_rain_9 : decode cX11_rain 9 = .ok (.invokestatic 84, 3) := by decide +kernel
theorem dX11_rain_12 : decode cX11_rain 12 = .ok (.ifCond .ne 7, 3) := by decide +kernel
theorem dX11_rain_15 : decode cX11_rain 15 = .ok (.sipush (-1001), 3) := by decide +kernel
theorem dX11_rain_18 : decode cX11_rain 18 = .ok (.ireturn, 1) := by decide +kernel
theorem dX11_rain_19 : decode cX11_rain 19 = .ok (.aload_n 0, 1) := by decide +kernel
theorem dX11_rain_20 : decode cX11_rain 20 = .ok (.getfield 7, 3) := by decide +kernel
theorem dX11_rain_23 : decode cX11_rain 23 = .ok (.bipush 20, 2) := by decide +kernel
theorem dX11_rain_25 : decode cX11_rain 25 = .ok (.iconst 3, 1) := by decide +kernel
theorem dX11_rain_26 : decode cX11_rain 26 = .ok (.iload_n 1, 1) := by decide +kernel
theorem dX11_rain_27 : decode cX11_rain 27 = .ok (.imul, 1) := by decide +kernel
theorem dX11_rain_28 : decode cX11_rain 28 = .ok (.iadd, 1) := by decide +kernel
theorem dX11_rain_29 : decode cX11_rain 29 = .ok (.iload_n 2, 1) := by decide +kernel
theorem dX11_rain_30 : decode cX11_rain 30 = .ok (.iadd, 1) := by decide +kernel
theorem dX11_rain_31 : decode cX11_rain 31 = .ok (.iaload, 1) := by decide +kernel
theorem dX11_rain_32 : decode cX11_rain 32 = .ok (.istore 4, 2) := by decide +kernel
theorem dX11_rain_34 : decode cX11_rain 34 = .ok (.aload_n 0, 1) := by decide +kernel
theorem dX11_rain_35 : decode cX11_rain 35 = .ok (.getfield 7, 3) := by decide +kernel
theorem dX11_rain_38 : decode cX11_rain 38 = .ok (.bipush 20, 2) := by decide +kernel
theorem dX11_rain_40 : decode cX11_rain 40 = .ok (.iconst 3, 1) := by decide +kernel
theorem dX11_rain_41 : decode cX11_rain 41 = .ok (.iload_n 1, 1) := by decide +kernel
theorem dX11_rain_42 : decode cX11_rain 42 = .ok (.imul, 1) := by decide +kernel
theorem dX11_rain_43 : decode cX11_rain 43 = .ok (.iadd, 1) := by decide +kernel
theorem dX11_rain_44 : decode cX11_rain 44 = .ok (.iload_n 2, 1) := by decide +kernel
theorem dX11_rain_45 : decode cX11_rain 45 = .ok (.iadd, 1) := by decide +kernel
theorem dX11_rain_46 : decode cX11_rain 46 = .ok (.iload_n 3, 1) := by decide +kernel
theorem dX11_rain_47 : decode cX11_rain 47 = .ok (.iastore, 1) := by decide +kernel
theorem dX11_rain_48 : decode cX11_rain 48 = .ok (.iload 4, 2) := by decide +kernel
theorem dX11_rain_50 : decode cX11_rain 50 = .ok (.ireturn, 1) := by decide +kernel
theorem dX11_set_0 : decode cX11_set 0 = .ok (.iload_n 1, 1) := by decide +kernel
theorem dX11_set_1 : decode cX11_set 1 = .ok (.ifCond .ne 18, 3) := by decide +kernel
theorem dX11_set_4 : decode cX11_set 4 = .ok (.iload_n 2, 1) := by decide +kernel
theorem dX11_set_5 : decode cX11_set 5 = .ok (.i2l, 1) := by decide +kernel
theorem dX11_set_6 : decode cX11_set 6 = .ok (.lconst 1, 1) := by decide +kernel
theorem dX11_set_7 : decode cX11_set 7 = .ok (.ldc2_w 88, 3) := by decide +kernel
theorem dX11_set_10 : decode cX11_set 10 = .ok (.invokestatic 70, 3) := by decide +kernel
theorem dX11_set_13 : decode cX11_set 13 = .ok (.ifCond .ne 25, 3) := by decide +kernel
theorem dX11_set_16 : decode cX11_set 16 = .ok (.goto 20, 3) := by decide +kernel
theorem dX11_set_19 : decode cX11_set 19 = .ok (.iload_n 1, 1) := by decide +kernel
theorem dX11_set_20 : decode cX11_set 20 = .ok (.iconst 1, 1) := by decide +kernel
theorem dX11_set_21 : decode cX11_set 21 = .ok (.if_icmp .ne 15, 3) := by decide +kernel
theorem dX11_set_24 : decode cX11_set 24 = .ok (.iload_n 2, 1) := by decide +kernel
theorem dX11_set_25 : decode cX11_set 25 = .ok (.i2l, 1) := by decide +kernel
theorem dX11_set_26 : decode cX11_set 26 = .ok (.lconst 1, 1) := by decide +kernel
theorem dX11_set_27 : decode cX11_set 27 = .ok (.ldc2_w 74, 3) := by decide +kernel
theorem dX11_set_30 : decode cX11_set 30 = .ok (.invokestatic 70, 3) := by decide +kernel
theorem dX11_set_33 : decode cX11_set 33 = .ok (.ifCond .ne 5, 3) := by decide +kernel
theorem dX11_set_36 : decode cX11_set 36 = .ok (.iconst (-1), 1) := by decide +kernel
theorem dX11_set_37 : decode cX11_set 37 = .ok (.ireturn, 1) := by decide +kernel
theorem dX11_set_38 : decode cX11_set 38 = .ok (.aload_n 0, 1) := by decide +kernel
theorem dX11_set_39 : decode cX11_set 39 = .ok (.getfield 7, 3) := by decide +kernel
theorem dX11_set_42 : decode cX11_set 42 = .ok (.iconst 0, 1) := by decide +kernel
theorem dX11_set_43 : decode cX11_set 43 = .ok (.iload_n 1, 1) := by decide +kernel
theorem dX11_set_44 : decode cX11_set 44 = .ok (.iadd, 1) := by decide +kernel
theorem dX11_set_45 : decode cX11_set 45 = .ok (.iaload, 1) := by decide +kernel
theorem dX11_set_46 : decode cX11_set 46 = .ok (.istore_n 3, 1) := by decide +kernel
theorem dX11_set_47 : decode cX11_set 47 = .ok (.aload_n 0, 1) := by decide +kernel
theorem dX11_set_48 : decode cX11_set 48 = .ok (.getfield 7, 3) := by decide +kernel
theorem dX11_set_51 : decode cX11_set 51 = .ok (.iconst 0, 1) := by decide +kernel
theorem dX11_set_52 : decode cX11_set 52 = .ok (.iload_n 1, 1) := by decide +kernel
theorem dX11_set_53 : decode cX11_set 53 = .ok (.iadd, 1) := by decide +kernel
theorem dX11_set_54 : decode cX11_set 54 = .ok (.iload_n 2, 1) := by decide +kernel
theorem dX11_set_55 : decode cX11_set 55 = .ok (.iastore, 1) := by decide +kernel
theorem dX11_set_56 : decode cX11_set 56 = .ok (.iload_n 3, 1) := by decide +kernel
theorem dX11_set_57 : decode cX11_set 57 = .ok (.ireturn, 1) := by decide +kernel
theorem dX11_wetBy_0 : decode cX11_wetBy 0 = .ok (.iconst 0, 1) := by decide +kernel
theorem dX11_wetBy_1 : decode cX11_wetBy 1 = .ok (.istore_n 3, 1) := by decide +kernel
theorem dX11_wetBy_2 : decode cX11_wetBy 2 = .ok (.iload_n 1, 1) := by decide +kernel
theorem dX11_wetBy_3 : decode cX11_wetBy 3 = .ok (.istore 4, 2) := by decide +kernel
theorem dX11_wetBy_5 : decode cX11_wetBy 5 = .ok (.iload 4, 2) := by decide +kernel
theorem dX11_wetBy_7 : decode cX11_wetBy 7 = .ok (.iload_n 1, 1) := by decide +kernel
theorem dX11_wetBy_8 : decode cX11_wetBy 8 = .ok (.iload_n 2, 1) := by decide +kernel
theorem dX11_wetBy_9 : decode cX11_wetBy 9 = .ok (.isub, 1) := by decide +kernel
theorem dX11_wetBy_10 : decode cX11_wetBy 10 = .ok (.if_icmp .le 29, 3) := by decide +kernel
theorem dX11_wetBy_13 : decode cX11_wetBy 13 = .ok (.iload 4, 2) := by decide +kernel
theorem dX11_wetBy_15 : decode cX11_wetBy 15 = .ok (.ifCond .lt 24, 3) := by decide +kernel
theorem dX11_wetBy_18 : decode cX11_wetBy 18 = .ok (.iload_n 3, 1) := by decide +kernel
theorem dX11_wetBy_19 : decode cX11_wetBy 19 = .ok (.aload_n 0, 1) := by decide +kernel
theorem dX11_wetBy_20 : decode cX11_wetBy 20 = .ok (.getfield 7, 3) := by decide +kernel
theorem dX11_wetBy_23 : decode cX11_wetBy 23 = .ok (.bipush 20, 2) := by decide +kernel
theorem dX11_wetBy_25 : decode cX11_wetBy 25 = .ok (.iconst 3, 1) := by decide +kernel
theorem dX11_wetBy_26 : decode cX11_wetBy 26 = .ok (.iload 4, 2) := by decide +kernel
theorem dX11_wetBy_28 : decode cX11_wetBy 28 = .ok (.imul, 1) := by decide +kernel
theorem dX11_wetBy_29 : decode cX11_wetBy 29 = .ok (.iadd, 1) := by decide +kernel
theorem dX11_wetBy_30 : decode cX11_wetBy 30 = .ok (.iaload, 1) := by decide +kernel
theorem dX11_wetBy_31 : decode cX11_wetBy 31 = .ok (.iadd, 1) := by decide +kernel
theorem dX11_wetBy_32 : decode cX11_wetBy 32 = .ok (.istore_n 3, 1) := by decide +kernel
theorem dX11_wetBy_33 : decode cX11_wetBy 33 = .ok (.iinc 4 (-1), 3) := by decide +kernel
theorem dX11_wetBy_36 : decode cX11_wetBy 36 = .ok (.goto (-31), 3) := by decide +kernel
theorem dX11_wetBy_39 : decode cX11_wetBy 39 = .ok (.iload_n 3, 1) := by decide +kernel
theorem dX11_wetBy_40 : decode cX11_wetBy 40 = .ok (.ireturn, 1) := by decide +kernel
theorem dX11_wet_0 : decode cX11_wet 0 = .ok (.iload_n 1, 1) := by decide +kernel
theorem dX11_wet_1 : decode cX11_wet 1 = .ok (.invokestatic 80, 3) := by decide +kernel
theorem dX11_wet_4 : decode cX11_wet 4 = .ok (.ifCond .eq 17, 3) := by decide +kernel
theorem dX11_wet_7 : decode cX11_wet 7 = .ok (.aload_n 0, 1) := by decide +kernel
theorem dX11_wet_8 : decode cX11_wet 8 = .ok (.iload_n 1, 1) := by decide +kernel
theorem dX11_wet_9 : decode cX11_wet 9 = .ok (.aload_n 0, 1) := by decide +kernel
theorem dX11_wet_10 : decode cX11_wet 10 = .ok (.getfield 7, 3) := by decide +kernel
theorem dX11_wet_13 : decode cX11_wet 13 = .ok (.iconst 0, 1) := by decide +kernel
theorem dX11_wet_14 : decode cX11_wet 14 = .ok (.iaload, 1) := by decide +kernel
theorem dX11_wet_15 : decode cX11_wet 15 = .ok (.invokevirtual 90, 3) := by decide +kernel
theorem dX11_wet_18 : decode cX11_wet 18 = .ok (.goto 4, 3) := by decide +kernel
theorem dX11_wet_21 : decode cX11_wet 21 = .ok (.iconst (-1), 1) := by decide +kernel
theorem dX11_wet_22 : decode cX11_wet 22 = .ok (.ireturn, 1) := by decide +kernel
theorem dX11_water_0 : decode cX11_water 0 = .ok (.iload_n 1, 1) := by decide +kernel
theorem dX11_water_1 : decode cX11_water 1 = .ok (.invokestatic 80, 3) := by decide +kernel
theorem dX11_water_4 : decode cX11_water 4 = .ok (.ifCond .ne 7, 3) := by decide +kernel
theorem dX11_water_7 : decode cX11_water 7 = .ok (.sipush (-1001), 3) := by decide +kernel
theorem dX11_water_10 : decode cX11_water 10 = .ok (.ireturn, 1) := by decide +kernel
theorem dX11_water_11 : decode cX11_water 11 = .ok (.aload_n 0, 1) := by decide +kernel
theorem dX11_water_12 : decode cX11_water 12 = .ok (.iload_n 1, 1) := by decide +kernel
theorem dX11_water_13 : decode cX11_water 13 = .ok (.aload_n 0, 1) := by decide +kernel
theorem dX11_water_14 : decode cX11_water 14 = .ok (.getfield 7, 3) := by decide +kernel
theorem dX11_water_17 : decode cX11_water 17 = .ok (.iconst 0, 1) := by decide +kernel
theorem dX11_water_18 : decode cX11_water 18 = .ok (.iaload, 1) := by decide +kernel
theorem dX11_water_19 : decode cX11_water 19 = .ok (.invokevirtual 90, 3) := by decide +kernel
theorem dX11_water_22 : decode cX11_water 22 = .ok (.ifCond .ne 9, 3) := by decide +kernel
theorem dX11_water_25 : decode cX11_water 25 = .ok (.sipush (-1004), 3) := by decide +kernel
theorem dX11_water_28 : decode cX11_water 28 = .ok (.goto 14, 3) := by decide +kernel
theorem dX11_water_31 : decode cX11_water 31 = .ok (.aload_n 0, 1) := by decide +kernel
theorem dX11_water_32 : decode cX11_water 32 = .ok (.iload_n 1, 1) := by decide +kernel
theorem dX11_water_33 : decode cX11_water 33 = .ok (.aload_n 0, 1) := by decide +kernel
theorem dX11_water_34 : decode cX11_water 34 = .ok (.getfield 7, 3) := by decide +kernel
theorem dX11_water_37 : decode cX11_water 37 = .ok (.iconst 0, 1) := by decide +kernel
theorem dX11_water_38 : decode cX11_water 38 = .ok (.iaload, 1) := by decide +kernel
theorem dX11_water_39 : decode cX11_water 39 = .ok (.invokevirtual 94, 3) := by decide +kernel
theorem dX11_water_42 : decode cX11_water 42 = .ok (.ireturn, 1) := by decide +kernel
theorem dX11_growthOf_0 : decode cX11_growthOf 0 = .ok (.aload_n 0, 1) := by decide +kernel
theorem dX11_growthOf_1 : decode cX11_growthOf 1 = .ok (.iload_n 1, 1) := by decide +kernel
theorem dX11_growthOf_2 : decode cX11_growthOf 2 = .ok (.aload_n 0, 1) := by decide +kernel
theorem dX11_growthOf_3 : decode cX11_growthOf 3 = .ok (.getfield 7, 3) := by decide +kernel
theorem dX11_growthOf_6 : decode cX11_growthOf 6 = .ok (.iconst 0, 1) := by decide +kernel
theorem dX11_growthOf_7 : decode cX11_growthOf 7 = .ok (.iaload, 1) := by decide +kernel
theorem dX11_growthOf_8 : decode cX11_growthOf 8 = .ok (.invokevirtual 90, 3) := by decide +kernel
theorem dX11_growthOf_11 : decode cX11_growthOf 11 = .ok (.ifCond .ne 5, 3) := by decide +kernel
theorem dX11_growthOf_14 : decode cX11_growthOf 14 = .ok (.iconst 0, 1) := by decide +kernel
theorem dX11_growthOf_15 : decode cX11_growthOf 15 = .ok (.ireturn, 1) := by decide +kernel
theorem dX11_growthOf_16 : decode cX11_growthOf 16 = .ok (.iconst 0, 1) := by decide +kernel
theorem dX11_growthOf_17 : decode cX11_growthOf 17 = .ok (.istore_n 2, 1) := by decide +kernel
theorem dX11_growthOf_18 : decode cX11_growthOf 18 = .ok (.iload_n 2, 1) := by decide +kernel
theorem dX11_growthOf_19 : decode cX11_growthOf 19 = .ok (.aload_n 0, 1) := by decide +kernel
theorem dX11_growthOf_20 : decode cX11_growthOf 20 = .ok (.getfield 7, 3) := by decide +kernel
theorem dX11_growthOf_23 : decode cX11_growthOf 23 = .ok (.iconst 2, 1) := by decide +kernel
theorem dX11_growthOf_24 : decode cX11_growthOf 24 = .ok (.iaload, 1) := by decide +kernel
theorem dX11_growthOf_25 : decode cX11_growthOf 25 = .ok (.if_icmp .ge 39, 3) := by decide +kernel
theorem dX11_growthOf_28 : decode cX11_growthOf 28 = .ok (.aload_n 0, 1) := by decide +kernel
theorem dX11_growthOf_29 : decode cX11_growthOf 29 = .ok (.bipush 92, 2) := by decide +kernel
theorem dX11_growthOf_31 : decode cX11_growthOf 31 = .ok (.bipush 11, 2) := by decide +kernel
theorem dX11_growthOf_33 : decode cX11_growthOf 33 = .ok (.iload_n 2, 1) := by decide +kernel
theorem dX11_growthOf_34 : decode cX11_growthOf 34 = .ok (.imul, 1) := by decide +kernel
theorem dX11_growthOf_35 : decode cX11_growthOf 35 = .ok (.iadd, 1) := by decide +kernel
theorem dX11_growthOf_36 : decode cX11_growthOf 36 = .ok (.iload_n 1, 1) := by decide +kernel
theorem dX11_growthOf_37 : decode cX11_growthOf 37 = .ok (.invokevirtual 97, 3) := by decide +kernel
theorem dX11_growthOf_40 : decode cX11_growthOf 40 = .ok (.ifCond .eq 18, 3) := by decide +kernel
theorem dX11_growthOf_43 : decode cX11_growthOf 43 = .ok (.aload_n 0, 1) := by decide +kernel
theorem dX11_growthOf_44 : decode cX11_growthOf 44 = .ok (.getfield 7, 3) := by decide +kernel
theorem dX11_growthOf_47 : decode cX11_growthOf 47 = .ok (.bipush 92, 2) := by decide +kernel
theorem dX11_growthOf_49 : decode cX11_growthOf 49 = .ok (.bipush 11, 2) := by decide +kernel
theorem dX11_growthOf_51 : decode cX11_growthOf 51 = .ok (.iload_n 2, 1) := by decide +kernel
theorem dX11_growthOf_52 : decode cX11_growthOf 52 = .ok (.imul, 1) := by decide +kernel
theorem dX11_growthOf_53 : decode cX11_growthOf 53 = .ok (.iadd, 1) := by decide +kernel
theorem dX11_growthOf_54 : decode cX11_growthOf 54 = .ok (.iconst 1, 1) := by decide +kernel
theorem dX11_growthOf_55 : decode cX11_growthOf 55 = .ok (.iadd, 1) := by decide +kernel
theorem dX11_growthOf_56 : decode cX11_growthOf 56 = .ok (.iaload, 1) := by decide +kernel
theorem dX11_growthOf_57 : decode cX11_growthOf 57 = .ok (.ireturn, 1) := by decide +kernel
theorem dX11_growthOf_58 : decode cX11_growthOf 58 = .ok (.iinc 2 1, 3) := by decide +kernel
theorem dX11_growthOf_61 : decode cX11_growthOf 61 = .ok (.goto (-43), 3) := by decide +kernel
theorem dX11_growthOf_64 : decode cX11_growthOf 64 = .ok (.iconst 0, 1) := by decide +kernel
theorem dX11_growthOf_65 : decode cX11_growthOf 65 = .ok (.ireturn, 1) := by decide +kernel
theorem dX11_grows_0 : decode cX11_grows 0 = .ok (.iload_n 1, 1) := by decide +kernel
theorem dX11_grows_1 : decode cX11_grows 1 = .ok (.invokestatic 80, 3) := by decide +kernel
theorem dX11_grows_4 : decode cX11_grows 4 = .ok (.ifCond .eq 11, 3) := by decide +kernel
theorem dX11_grows_7 : decode cX11_grows 7 = .ok (.aload_n 0, 1) := by decide +kernel
theorem dX11_grows_8 : decode cX11_grows 8 = .ok (.iload_n 1, 1) := by decide +kernel
theorem dX11_grows_9 : decode cX11_grows 9 = .ok (.invokevirtual 100, 3) := by decide +kernel
theorem dX11_grows_12 : decode cX11_grows 12 = .ok (.goto 4, 3) := by decide +kernel
theorem dX11_grows_15 : decode cX11_grows 15 = .ok (.iconst (-1), 1) := by decide +kernel
theorem dX11_grows_16 : decode cX11_grows 16 = .ok (.ireturn, 1) := by decide +kernel
theorem dX11_type_0 : decode cX11_type 0 = .ok (.iload_n 3, 1) := by decide +kernel
theorem dX11_type_1 : decode cX11_type 1 = .ok (.i2l, 1) := by decide +kernel
theorem dX11_type_2 : decode cX11_type 2 = .ok (.lconst 1, 1) := by decide +kernel
theorem dX11_type_3 : decode cX11_type 3 = .ok (.ldc2_w 104, 3) := by decide +kernel
theorem dX11_type_6 : decode cX11_type 6 = .ok (.invokestatic 70, 3) := by decide +kernel
theorem dX11_type_9 : decode cX11_type 9 = .ok (.ifCond .ne 5, 3) := by decide +kernel
theorem dX11_type_12 : decode cX11_type 12 = .ok (.iconst (-1), 1) := by decide +kernel
theorem dX11_type_13 : decode cX11_type 13 = .ok (.ireturn, 1) := by decide +kernel
theorem dX11_type_14 : decode cX11_type 14 = .ok (.iload_n 3, 1) := by decide +kernel
theorem dX11_type_15 : decode cX11_type 15 = .ok (.iconst 1, 1) := by decide +kernel
theorem dX11_type_16 : decode cX11_type 16 = .ok (.isub, 1) := by decide +kernel
theorem dX11_type_17 : decode cX11_type 17 = .ok (.istore 4, 2) := by decide +kernel
theorem dX11_type_19 : decode cX11_type 19 = .ok (.iload 4, 2) := by decide +kernel
theorem dX11_type_21 : decode cX11_type 21 = .ok (.ifCond .lt 34, 3) := by decide +kernel
theorem dX11_type_24 : decode cX11_type 24 = .ok (.lload_n 1, 1) := by decide +kernel
theorem dX11_type_25 : decode cX11_type 25 = .ok (.bipush 8, 2) := by decide +kernel
theorem dX11_type_27 : decode cX11_type 27 = .ok (.iload 4, 2) := by decide +kernel
theorem dX11_type_29 : decode cX11_type 29 = .ok (.imul, 1) := by decide +kernel
theorem dX11_type_30 : decode cX11_type 30 = .ok (.lshr, 1) := by decide +kernel
theorem dX11_type_31 : decode cX11_type 31 = .ok (.ldc2_w 106, 3) := by decide +kernel
theorem dX11_type_34 : decode cX11_type 34 = .ok (.land, 1) := by decide +kernel
theorem dX11_type_35 : decode cX11_type 35 = .ok (.ldc2_w 108, 3) := by decide +kernel
theorem dX11_type_38 : decode cX11_type 38 = .ok (.ldc2_w 110, 3) := by decide +kernel
theorem dX11_type_41 : decode cX11_type 41 = .ok (.invokestatic 70, 3) := by decide +kernel
theorem dX11_type_44 : decode cX11_type 44 = .ok (.ifCond .ne 5, 3) := by decide +kernel
theorem dX11_type_47 : decode cX11_type 47 = .ok (.iconst (-1), 1) := by decide +kernel
theorem dX11_type_48 : decode cX11_type 48 = .ok (.ireturn, 1) := by decide +kernel
theorem dX11_type_49 : decode cX11_type 49 = .ok (.iinc 4 (-1), 3) := by decide +kernel
theorem dX11_type_52 : decode cX11_type 52 = .ok (.goto (-33), 3) := by decide +kernel
theorem dX11_type_55 : decode cX11_type 55 = .ok (.aload_n 0, 1) := by decide +kernel
theorem dX11_type_56 : decode cX11_type 56 = .ok (.getfield 112, 3) := by decide +kernel
theorem dX11_type_59 : decode cX11_type 59 = .ok (.iload_n 3, 1) := by decide +kernel
theorem dX11_type_60 : decode cX11_type 60 = .ok (.iadd, 1) := by decide +kernel
theorem dX11_type_61 : decode cX11_type 61 = .ok (.bipush 80, 2) := by decide +kernel
theorem dX11_type_63 : decode cX11_type 63 = .ok (.if_icmp .le 6, 3) := by decide +kernel
theorem dX11_type_66 : decode cX11_type 66 = .ok (.bipush (-3), 2) := by decide +kernel
theorem dX11_type_68 : decode cX11_type 68 = .ok (.ireturn, 1) := by decide +kernel
theorem dX11_type_69 : decode cX11_type 69 = .ok (.iload_n 3, 1) := by decide +kernel
theorem dX11_type_70 : decode cX11_type 70 = .ok (.iconst 1, 1) := by decide +kernel
theorem dX11_type_71 : decode cX11_type 71 = .ok (.isub, 1) := by decide +kernel
theorem dX11_type_72 : decode cX11_type 72 = .ok (.istore 4, 2) := by decide +kernel
theorem dX11_type_74 : decode cX11_type 74 = .ok (.iload 4, 2) := by decide +kernel
theorem dX11_type_76 : decode cX11_type 76 = .ok (.ifCond .lt 40, 3) := by decide +kernel
theorem dX11_type_79 : decode cX11_type 79 = .ok (.aload_n 0, 1) := by decide +kernel
theorem dX11_type_80 : decode cX11_type 80 = .ok (.getfield 13, 3) := by decide +kernel
theorem dX11_type_83 : decode cX11_type 83 = .ok (.aload_n 0, 1) := by decide +kernel
theorem dX11_type_84 : decode cX11_type 84 = .ok (.getfield 112, 3) := by decide +kernel
theorem dX11_type_87 : decode cX11_type 87 = .ok (.lload_n 1, 1) := by decide +kernel
theorem dX11_type_88 : decode cX11_type 88 = .ok (.bipush 8, 2) := by decide +kernel
theorem dX11_type_90 : decode cX11_type 90 = .ok (.iload 4, 2) := by decide +kernel
theorem dX11_type_92 : decode cX11_type 92 = .ok (.imul, 1) := by decide +kernel
theorem dX11_type_93 : decode cX11_type 93 = .ok (.lshr, 1) := by decide +kernel
theorem dX11_type_94 : decode cX11_type 94 = .ok (.ldc2_w 106, 3) := by decide +kernel
theorem dX11_type_97 : decode cX11_type 97 = .ok (.land, 1) := by decide +kernel
theorem dX11_type_98 : decode cX11_type 98 = .ok (.l2i, 1) := by decide +kernel
theorem dX11_type_99 : decode cX11_type 99 = .ok (.iastore, 1) := by decide +kernel
theorem dX11_type_100 : decode cX11_type 100 = .ok (.aload_n 0, 1) := by decide +kernel
theorem dX11_type_101 : decode cX11_type 101 = .ok (.dup, 1) := by decide +kernel
theorem dX11_type_102 : decode cX11_type 102 = .ok (.getfield 112, 3) := by decide +kernel
theorem dX11_type_105 : decode cX11_type 105 = .ok (.iconst 1, 1) := by decide +kernel
theorem dX11_type_106 : decode cX11_type 106 = .ok (.iadd, 1) := by decide +kernel
theorem dX11_type_107 : decode cX11_type 107 = .ok (.putfield 112, 3) := by decide +kernel
theorem dX11_type_110 : decode cX11_type 110 = .ok (.iinc 4 (-1), 3) := by decide +kernel
theorem dX11_type_113 : decode cX11_type 113 = .ok (.goto (-39), 3) := by decide +kernel
theorem dX11_type_116 : decode cX11_type 116 = .ok (.aload_n 0, 1) := by decide +kernel
theorem dX11_type_117 : decode cX11_type 117 = .ok (.getfield 112, 3) := by decide +kernel
theorem dX11_type_120 : decode cX11_type 120 = .ok (.ireturn, 1) := by decide +kernel
theorem dX11_nextByte_0 : decode cX11_nextByte 0 = .ok (.aload_n 0, 1) := by decide +kernel
theorem dX11_nextByte_1 : decode cX11_nextByte 1 = .ok (.getfield 116, 3) := by decide +kernel
theorem dX11_nextByte_4 : decode cX11_nextByte 4 = .ok (.aload_n 0, 1) := by decide +kernel
theorem dX11_nextByte_5 : decode cX11_nextByte 5 = .ok (.getfield 112, 3) := by decide +kernel
theorem dX11_nextByte_8 : decode cX11_nextByte 8 = .ok (.if_icmp .ge 30, 3) := by decide +kernel
theorem dX11_nextByte_11 : decode cX11_nextByte 11 = .ok (.aload_n 0, 1) := by decide +kernel
theorem dX11_nextByte_12 : decode cX11_nextByte 12 = .ok (.getfield 13, 3) := by decide +kernel
theorem dX11_nextByte_15 : decode cX11_nextByte 15 = .ok (.aload_n 0, 1) := by decide +kernel
theorem dX11_nextByte_16 : decode cX11_nextByte 16 = .ok (.getfield 116, 3) := by decide +kernel
theorem dX11_nextByte_19 : decode cX11_nextByte 19 = .ok (.iaload, 1) := by decide +kernel
theorem dX11_nextByte_20 : decode cX11_nextByte 20 = .ok (.bipush 32, 2) := by decide +kernel
theorem dX11_nextByte_22 : decode cX11_nextByte 22 = .ok (.if_icmp .ne 16, 3) := by decide +kernel
theorem dX11_nextByte_25 : decode cX11_nextByte 25 = .ok (.aload_n 0, 1) := by decide +kernel
theorem dX11_nextByte_26 : decode cX11_nextByte 26 = .ok (.dup, 1) := by decide +kernel
theorem dX11_nextByte_27 : decode cX11_nextByte 27 = .ok (.getfield 116, 3) := by decide +kernel
theorem dX11_nextByte_30 : decode cX11_nextByte 30 = .ok (.iconst 1, 1) := by decide +kernel
theorem dX11_nextByte_31 : decode cX11_nextByte 31 = .ok (.iadd, 1) := by decide +kernel
theorem dX11_nextByte_32 : decode cX11_nextByte 32 = .ok (.putfield 116, 3) := by decide +kernel
theorem dX11_nextByte_35 : decode cX11_nextByte 35 = .ok (.goto (-35), 3) := by decide +kernel
theorem dX11_nextByte_38 : decode cX11_nextByte 38 = .ok (.aload_n 0, 1) := by decide +kernel
theorem dX11_nextByte_39 : decode cX11_nextByte 39 = .ok (.getfield 116, 3) := by decide +kernel
theorem dX11_nextByte_42 : decode cX11_nextByte 42 = .ok (.aload_n 0, 1) := by decide +kernel
theorem dX11_nextByte_43 : decode cX11_nextByte 43 = .ok (.getfield 112, 3) := by decide +kernel
theorem dX11_nextByte_46 : decode cX11_nextByte 46 = .ok (.if_icmp .ge 15, 3) := by decide +kernel
theorem dX11_nextByte_49 : decode cX11_nextByte 49 = .ok (.aload_n 0, 1) := by decide +kernel
theorem dX11_nextByte_50 : decode cX11_nextByte 50 = .ok (.getfield 13, 3) := by decide +kernel
theorem dX11_nextByte_53 : decode cX11_nextByte 53 = .ok (.aload_n 0, 1) := by decide +kernel
theorem dX11_nextByte_54 : decode cX11_nextByte 54 = .ok (.getfield 116, 3) := by decide +kernel
theorem dX11_nextByte_57 : decode cX11_nextByte 57 = .ok (.iaload, 1) := by decide +kernel
theorem dX11_nextByte_58 : decode cX11_nextByte 58 = .ok (.goto 4, 3) := by decide +kernel
theorem dX11_nextByte_61 : decode cX11_nextByte 61 = .ok (.iconst (-1), 1) := by decide +kernel
theorem dX11_nextByte_62 : decode cX11_nextByte 62 = .ok (.ireturn, 1) := by decide +kernel
theorem dX11_takes_0 : decode cX11_takes 0 = .ok (.aload_n 0, 1) := by decide +kernel
theorem dX11_takes_1 : decode cX11_takes 1 = .ok (.invokevirtual 119, 3) := by decide +kernel
theorem dX11_takes_4 : decode cX11_takes 4 = .ok (.iload_n 1, 1) := by decide +kernel
theorem dX11_takes_5 : decode cX11_takes 5 = .ok (.if_icmp .ne 7, 3) := by decide +kernel
theorem dX11_takes_8 : decode cX11_takes 8 = .ok (.iconst 1, 1) := by decide +kernel
theorem dX11_takes_9 : decode cX11_takes 9 = .ok (.goto 4, 3) := by decide +kernel
theorem dX11_takes_12 : decode cX11_takes 12 = .ok (.iconst 0, 1) := by decide +kernel
theorem dX11_takes_13 : decode cX11_takes 13 = .ok (.istore_n 2, 1) := by decide +kernel
theorem dX11_takes_14 : decode cX11_takes 14 = .ok (.aload_n 0, 1) := by decide +kernel
theorem dX11_takes_15 : decode cX11_takes 15 = .ok (.dup, 1) := by decide +kernel
theorem dX11_takes_16 : decode cX11_takes 16 = .ok (.getfield 116, 3) := by decide +kernel
theorem dX11_takes_19 : decode cX11_takes 19 = .ok (.iload_n 2, 1) := by decide +kernel
theorem dX11_takes_20 : decode cX11_takes 20 = .ok (.ifCond .eq 7, 3) := by decide +kernel
theorem dX11_takes_23 : decode cX11_takes 23 = .ok (.iconst 1, 1) := by decide +kernel
theorem dX11_takes_24 : decode cX11_takes 24 = .ok (.goto 4, 3) := by decide +kernel
theorem dX11_takes_27 : decode cX11_takes 27 = .ok (.iconst 0, 1) := by decide +kernel
theorem dX11_takes_28 : decode cX11_takes 28 = .ok (.iadd, 1) := by decide +kernel
theorem dX11_takes_29 : decode cX11_takes 29 = .ok (.putfield 116, 3) := by decide +kernel
theorem dX11_takes_32 : decode cX11_takes 32 = .ok (.iload_n 2, 1) := by decide +kernel
theorem dX11_takes_33 : decode cX11_takes 33 = .ok (.ireturn, 1) := by decide +kernel
theorem dX11_readCondition_0 : decode cX11_readCondition 0 = .ok (.aload_n 0, 1) := by decide +kernel
theorem dX11_readCondition_1 : decode cX11_readCondition 1 = .ok (.invokevirtual 119, 3) := by decide +kernel
theorem dX11_readCondition_4 : decode cX11_readCondition 4 = .ok (.istore_n 2, 1) := by decide +kernel
theorem dX11_readCondition_5 : decode cX11_readCondition 5 = .ok (.iload_n 2, 1) := by decide +kernel
theorem dX11_readCondition_6 : decode cX11_readCondition 6 = .ok (.bipush 97, 2) := by decide +kernel
theorem dX11_readCondition_8 : decode cX11_readCondition 8 = .ok (.if_icmp .eq 17, 3) := by decide +kernel
theorem dX11_readCondition_11 : decode cX11_readCondition 11 = .ok (.iload_n 2, 1) := by decide +kernel
theorem dX11_readCondition_12 : decode cX11_readCondition 12 = .ok (.bipush 104, 2) := by decide +kernel
theorem dX11_readCondition_14 : decode cX11_readCondition 14 = .ok (.if_icmp .eq 11, 3) := by decide +kernel
theorem dX11_readCondition_17 : decode cX11_readCondition 17 = .ok (.iload_n 2, 1) := by decide +kernel
theorem dX11_readCondition_18 : decode cX11_readCondition 18 = .ok (.bipush 119, 2) := by decide +kernel
theorem dX11_readCondition_20 : decode cX11_readCondition 20 = .ok (.if_icmp .eq 5, 3) := by decide +kernel
theorem dX11_readCondition_23 : decode cX11_readCondition 23 = .ok (.iconst 0, 1) := by decide +kernel
theorem dX11_readCondition_24 : decode cX11_readCondition 24 = .ok (.ireturn, 1) := by decide +kernel
theorem dX11_readCondition_25 : decode cX11_readCondition 25 = .ok (.aload_n 0, 1) := by decide +kernel
theorem dX11_readCondition_26 : decode cX11_readCondition 26 = .ok (.dup, 1) := by decide +kernel
theorem dX11_readCondition_27 : decode cX11_readCondition 27 = .ok (.getfield 116, 3) := by decide +kernel
theorem dX11_readCondition_30 : decode cX11_readCondition 30 = .ok (.iconst 1, 1) := by decide +kernel
theorem dX11_readCondition_31 : decode cX11_readCondition 31 = .ok (.iadd, 1) := by decide +kernel
theorem dX11_readCondition_32 : decode cX11_readCondition 32 = .ok (.putfield 116, 3) := by decide +kernel
theorem dX11_readCondition_35 : decode cX11_readCondition 35 = .ok (.aload_n 0, 1) := by decide +kernel
theorem dX11_readCondition_36 : decode cX11_readCondition 36 = .ok (.invokevirtual 119, 3) := by decide +kernel
theorem dX11_readCondition_39 : decode cX11_readCondition 39 = .ok (.istore_n 3, 1) := by decide +kernel
theorem dX11_readCondition_40 : decode cX11_readCondition 40 = .ok (.iload_n 3, 1) := by decide +kernel
theorem dX11_readCondition_41 : decode cX11_readCondition 41 = .ok (.bipush 60, 2) := by decide +kernel
theorem dX11_readCondition_43 : decode cX11_readCondition 43 = .ok (.if_icmp .eq 17, 3) := by decide +kernel
theorem dX11_readCondition_46 : decode cX11_readCondition 46 = .ok (.iload_n 3, 1) := by decide +kernel
theorem dX11_readCondition_47 : decode cX11_readCondition 47 = .ok (.bipush 62, 2) := by decide +kernel
theorem dX11_readCondition_49 : decode cX11_readCondition 49 = .ok (.if_icmp .eq 11, 3) := by decide +kernel
theorem dX11_readCondition_52 : decode cX11_readCondition 52 = .ok (.iload_n 3, 1) := by decide +kernel
theorem dX11_readCondition_53 : decode cX11_readCondition 53 = .ok (.bipush 61, 2) := by decide +kernel
theorem dX11_readCondition_55 : decode cX11_readCondition 55 = .ok (.if_icmp .eq 5, 3) := by decide +kernel
theorem dX11_readCondition_58 : decode cX11_readCondition 58 = .ok (.iconst 0, 1) := by decide +kernel
theorem dX11_readCondition_59 : decode cX11_readCondition 59 = .ok (.ireturn, 1) := by decide +kernel
theorem dX11_readCondition_60 : decode cX11_readCondition 60 = .ok (.aload_n 0, 1) := by decide +kernel
theorem dX11_readCondition_61 : decode cX11_readCondition 61 = .ok (.dup, 1) := by decide +kernel
theorem dX11_readCondition_62 : decode cX11_readCondition 62 = .ok (.getfield 116, 3) := by decide +kernel
theorem dX11_readCondition_65 : decode cX11_readCondition 65 = .ok (.iconst 1, 1) := by decide +kernel
theorem dX11_readCondition_66 : decode cX11_readCondition 66 = .ok (.iadd, 1) := by decide +kernel
theorem dX11_readCondition_67 : decode cX11_readCondition 67 = .ok (.putfield 116, 3) := by decide +kernel
theorem dX11_readCondition_70 : decode cX11_readCondition 70 = .ok (.aload_n 0, 1) := by decide +kernel
theorem dX11_readCondition_71 : decode cX11_readCondition 71 = .ok (.iconst 0, 1) := by decide +kernel
theorem dX11_readCondition_72 : decode cX11_readCondition 72 = .ok (.bipush 99, 2) := by decide +kernel
theorem dX11_readCondition_74 : decode cX11_readCondition 74 = .ok (.invokevirtual 127, 3) := by decide +kernel
theorem dX11_readCondition_77 : decode cX11_readCondition 77 = .ok (.istore 4, 2) := by decide +kernel
theorem dX11_readCondition_79 : decode cX11_readCondition 79 = .ok (.iload 4, 2) := by decide +kernel
theorem dX11_readCondition_81 : decode cX11_readCondition 81 = .ok (.ifCond .ge 5, 3) := by decide +kernel
theorem dX11_readCondition_84 : decode cX11_readCondition 84 = .ok (.iconst 0, 1) := by decide +kernel
theorem dX11_readCondition_85 : decode cX11_readCondition 85 = .ok (.ireturn, 1) := by decide +kernel
theorem dX11_readCondition_86 : decode cX11_readCondition 86 = .ok (.aload_n 0, 1) := by decide +kernel
theorem dX11_readCondition_87 : decode cX11_readCondition 87 = .ok (.getfield 16, 3) := by decide +kernel
theorem dX11_readCondition_90 : decode cX11_readCondition 90 = .ok (.iload_n 1, 1) := by decide +kernel
theorem dX11_readCondition_91 : decode cX11_readCondition 91 = .ok (.iload_n 2, 1) := by decide +kernel
theorem dX11_readCondition_92 : decode cX11_readCondition 92 = .ok (.iastore, 1) := by decide +kernel
theorem dX11_readCondition_93 : decode cX11_readCondition 93 = .ok (.aload_n 0, 1) := by decide +kernel
theorem dX11_readCondition_94 : decode cX11_readCondition 94 = .ok (.getfield 16, 3) := by decide +kernel
theorem dX11_readCondition_97 : decode cX11_readCondition 97 = .ok (.iload_n 1, 1) := by decide +kernel
theorem dX11_readCondition_98 : decode cX11_readCondition 98 = .ok (.iconst 1, 1) := by decide +kernel
theorem dX11_readCondition_99 : decode cX11_readCondition 99 = .ok (.iadd, 1) := by decide +kernel
theorem dX11_readCondition_100 : decode cX11_readCondition 100 = .ok (.iload_n 3, 1) := by decide +kernel
theorem dX11_readCondition_101 : decode cX11_readCondition 101 = .ok (.iastore, 1) := by decide +kernel
theorem dX11_readCondition_102 : decode cX11_readCondition 102 = .ok (.aload_n 0, 1) := by decide +kernel
theorem dX11_readCondition_103 : decode cX11_readCondition 103 = .ok (.getfield 16, 3) := by decide +kernel
theorem dX11_readCondition_106 : decode cX11_readCondition 106 = .ok (.iload_n 1, 1) := by decide +kernel
theorem dX11_readCondition_107 : decode cX11_readCondition 107 = .ok (.iconst 2, 1) := by decide +kernel
theorem dX11_readCondition_108 : decode cX11_readCondition 108 = .ok (.iadd, 1) := by decide +kernel
theorem dX11_readCondition_109 : decode cX11_readCondition 109 = .ok (.iload 4, 2) := by decide +kernel
theorem dX11_readCondition_111 : decode cX11_readCondition 111 = .ok (.iastore, 1) := by decide +kernel
theorem dX11_readCondition_112 : decode cX11_readCondition 112 = .ok (.iconst 1, 1) := by decide +kernel
theorem dX11_readCondition_113 : decode cX11_readCondition 113 = .ok (.ireturn, 1) := by decide +kernel
theorem dX11_readClause_0 : decode cX11_readClause 0 = .ok (.bipush 11, 2) := by decide +kernel
theorem dX11_readClause_2 : decode cX11_readClause 2 = .ok (.iload_n 1, 1) := by decide +kernel
theorem dX11_readClause_3 : decode cX11_readClause 3 = .ok (.imul, 1) := by decide +kernel
theorem dX11_readClause_4 : decode cX11_readClause 4 = .ok (.istore_n 2, 1) := by decide +kernel
theorem dX11_readClause_5 : decode cX11_readClause 5 = .ok (.aload_n 0, 1) := by decide +kernel
theorem dX11_readClause_6 : decode cX11_readClause 6 = .ok (.getfield 16, 3) := by decide +kernel
theorem dX11_readClause_9 : decode cX11_readClause 9 = .ok (.iload_n 2, 1) := by decide +kernel
theorem dX11_readClause_10 : decode cX11_readClause 10 = .ok (.iconst 0, 1) := by decide +kernel
theorem dX11_readClause_11 : decode cX11_readClause 11 = .ok (.iastore, 1) := by decide +kernel
theorem dX11_readClause_12 : decode cX11_readClause 12 = .ok (.aload_n 0, 1) := by decide +kernel
theorem dX11_readClause_13 : decode cX11_readClause 13 = .ok (.bipush 42, 2) := by decide +kernel
theorem dX11_readClause_15 : decode cX11_readClause 15 = .ok (.invokevirtual 130, 3) := by decide +kernel
theorem dX11_readClause_18 : decode cX11_readClause 18 = .ok (.ifCond .ne 86, 3) := by decide +kernel
theorem dX11_readClause_21 : decode cX11_readClause 21 = .ok (.iconst 1, 1) := by decide +kernel
theorem dX11_readClause_22 : decode cX11_readClause 22 = .ok (.istore_n 3, 1) := by decide +kernel
theorem dX11_readClause_23 : decode cX11_readClause 23 = .ok (.iload_n 3, 1) := by decide +kernel
theorem dX11_readClause_24 : decode cX11_readClause 24 = .ok (.ifCond .eq 80, 3) := by decide +kernel
theorem dX11_readClause_27 : decode cX11_readClause 27 = .ok (.aload_n 0, 1) := by decide +kernel
theorem dX11_readClause_28 : decode cX11_readClause 28 = .ok (.iload_n 2, 1) := by decide +kernel
theorem dX11_readClause_29 : decode cX11_readClause 29 = .ok (.iconst 2, 1) := by decide +kernel
theorem dX11_readClause_30 : decode cX11_readClause 30 = .ok (.iadd, 1) := by decide +kernel
theorem dX11_readClause_31 : decode cX11_readClause 31 = .ok (.iconst 3, 1) := by decide +kernel
theorem dX11_readClause_32 : decode cX11_readClause 32 = .ok (.aload_n 0, 1) := by decide +kernel
theorem dX11_readClause_33 : decode cX11_readClause 33 = .ok (.getfield 16, 3) := by decide +kernel
theorem dX11_readClause_36 : decode cX11_readClause 36 = .ok (.iload_n 2, 1) := by decide +kernel
theorem dX11_readClause_37 : decode cX11_readClause 37 = .ok (.iaload, 1) := by decide +kernel
theorem dX11_readClause_38 : decode cX11_readClause 38 = .ok (.imul, 1) := by decide +kernel
theorem dX11_readClause_39 : decode cX11_readClause 39 = .ok (.iadd, 1) := by decide +kernel
theorem dX11_readClause_40 : decode cX11_readClause 40 = .ok (.invokevirtual 133, 3) := by decide +kernel
theorem dX11_readClause_43 : decode cX11_readClause 43 = .ok (.ifCond .ne 5, 3) := by decide +kernel
theorem dX11_readClause_46 : decode cX11_readClause 46 = .ok (.iconst 0, 1) := by decide +kernel
theorem dX11_readClause_47 : decode cX11_readClause 47 = .ok (.ireturn, 1) := by decide +kernel
theorem dX11_readClause_48 : decode cX11_readClause 48 = .ok (.aload_n 0, 1) := by decide +kernel
theorem dX11_readClause_49 : decode cX11_readClause 49 = .ok (.getfield 16, 3) := by decide +kernel
theorem dX11_readClause_52 : decode cX11_readClause 52 = .ok (.iload_n 2, 1) := by decide +kernel
theorem dX11_readClause_53 : decode cX11_readClause 53 = .ok (.dup2, 1) := by decide +kernel
theorem dX11_readClause_54 : decode cX11_readClause 54 = .ok (.iaload, 1) := by decide +kernel
theorem dX11_readClause_55 : decode cX11_readClause 55 = .ok (.iconst 1, 1) := by decide +kernel
theorem dX11_readClause_56 : decode cX11_readClause 56 = .ok (.iadd, 1) := by decide +kernel
theorem dX11_readClause_57 : decode cX11_readClause 57 = .ok (.iastore, 1) := by decide +kernel
theorem dX11_readClause_58 : decode cX11_readClause 58 = .ok (.aload_n 0, 1) := by decide +kernel
theorem dX11_readClause_59 : decode cX11_readClause 59 = .ok (.invokevirtual 119, 3) := by decide +kernel
theorem dX11_readClause_62 : decode cX11_readClause 62 = .ok (.bipush 38, 2) := by decide +kernel
theorem dX11_readClause_64 : decode cX11_readClause 64 = .ok (.if_icmp .ne 17, 3) := by decide +kernel
theorem dX11_readClause_67 : decode cX11_readClause 67 = .ok (.aload_n 0, 1) := by decide +kernel
theorem dX11_readClause_68 : decode cX11_readClause 68 = .ok (.getfield 16, 3) := by decide +kernel
theorem dX11_readClause_71 : decode cX11_readClause 71 = .ok (.iload_n 2, 1) := by decide +kernel
theorem dX11_readClause_72 : decode cX11_readClause 72 = .ok (.iaload, 1) := by decide +kernel
theorem dX11_readClause_73 : decode cX11_readClause 73 = .ok (.iconst 3, 1) := by decide +kernel
theorem dX11_readClause_74 : decode cX11_readClause 74 = .ok (.if_icmp .ge 7, 3) := by decide +kernel
theorem dX11_readClause_77 : decode cX11_readClause 77 = .ok (.iconst 1, 1) := by decide +kernel
theorem dX11_readClause_78 : decode cX11_readClause 78 = .ok (.goto 4, 3) := by decide +kernel
theorem dX11_readClause_81 : decode cX11_readClause 81 = .ok (.iconst 0, 1) := by decide +kernel
theorem dX11_readClause_82 : decode cX11_readClause 82 = .ok (.istore_n 3, 1) := by decide +kernel
theorem dX11_readClause_83 : decode cX11_readClause 83 = .ok (.aload_n 0, 1) := by decide +kernel
theorem dX11_readClause_84 : decode cX11_readClause 84 = .ok (.dup, 1) := by decide +kernel
theorem dX11_readClause_85 : decode cX11_readClause 85 = .ok (.getfield 116, 3) := by decide +kernel
theorem dX11_readClause_88 : decode cX11_readClause 88 = .ok (.iload_n 3, 1) := by decide +kernel
theorem dX11_readClause_89 : decode cX11_readClause 89 = .ok (.ifCond .eq 7, 3) := by decide +kernel
theorem dX11_readClause_92 : decode cX11_readClause 92 = .ok (.iconst 1, 1) := by decide +kernel
theorem dX11_readClause_93 : decode cX11_readClause 93 = .ok (.goto 4, 3) := by decide +kernel
theorem dX11_readClause_96 : decode cX11_readClause 96 = .ok (.iconst 0, 1) := by decide +kernel
theorem dX11_readClause_97 : decode cX11_readClause 97 = .ok (.iadd, 1) := by decide +kernel
theorem dX11_readClause_98 : decode cX11_readClause 98 = .ok (.putfield 116, 3) := by decide +kernel
theorem dX11_readClause_101 : decode cX11_readClause 101 = .ok (.goto (-78), 3) := by decide +kernel
theorem dX11_readClause_104 : decode cX11_readClause 104 = .ok (.aload_n 0, 1) := by decide +kernel
theorem dX11_readClause_105 : decode cX11_readClause 105 = .ok (.bipush 58, 2) := by decide +kernel
theorem dX11_readClause_107 : decode cX11_readClause 107 = .ok (.invokevirtual 130, 3) := by decide +kernel
theorem dX11_readClause_110 : decode cX11_readClause 110 = .ok (.ifCond .ne 5, 3) := by decide +kernel
theorem dX11_readClause_113 : decode cX11_readClause 113 = .ok (.iconst 0, 1) := by decide +kernel
theorem dX11_readClause_114 : decode cX11_readClause 114 = .ok (.ireturn, 1) := by decide +kernel
theorem dX11_readClause_115 : decode cX11_readClause 115 = .ok (.aload_n 0, 1) := by decide +kernel
theorem dX11_readClause_116 : decode cX11_readClause 116 = .ok (.invokevirtual 119, 3) := by decide +kernel
theorem dX11_readClause_119 : decode cX11_readClause 119 = .ok (.bipush 48, 2) := by decide +kernel
theorem dX11_readClause_121 : decode cX11_readClause 121 = .ok (.isub, 1) := by decide +kernel
theorem dX11_readClause_122 : decode cX11_readClause 122 = .ok (.istore_n 3, 1) := by decide +kernel
theorem dX11_readClause_123 : decode cX11_readClause 123 = .ok (.iload_n 3, 1) := by decide +kernel
theorem dX11_readClause_124 : decode cX11_readClause 124 = .ok (.i2l, 1) := by decide +kernel
theorem dX11_readClause_125 : decode cX11_readClause 125 = .ok (.lconst 0, 1) := by decide +kernel
theorem dX11_readClause_126 : decode cX11_readClause 126 = .ok (.ldc2_w 136, 3) := by decide +kernel
theorem dX11_readClause_129 : decode cX11_readClause 129 = .ok (.invokestatic 70, 3) := by decide +kernel
theorem dX11_readClause_132 : decode cX11_readClause 132 = .ok (.ifCond .ne 5, 3) := by decide +kernel
theorem dX11_readClause_135 : decode cX11_readClause 135 = .ok (.iconst 0, 1) := by decide +kernel
theorem dX11_readClause_136 : decode cX11_readClause 136 = .ok (.ireturn, 1) := by decide +kernel
theorem dX11_readClause_137 : decode cX11_readClause 137 = .ok (.aload_n 0, 1) := by decide +kernel
theorem dX11_readClause_138 : decode cX11_readClause 138 = .ok (.dup, 1) := by decide +kernel
theorem dX11_readClause_139 : decode cX11_readClause 139 = .ok (.getfield 116, 3) := by decide +kernel
theorem dX11_readClause_142 : decode cX11_readClause 142 = .ok (.iconst 1, 1) := by decide +kernel
theorem dX11_readClause_143 : decode cX11_readClause 143 = .ok (.iadd, 1) := by decide +kernel
theorem dX11_readClause_144 : decode cX11_readClause 144 = .ok (.putfield 116, 3) := by decide +kernel
theorem dX11_readClause_147 : decode cX11_readClause 147 = .ok (.aload_n 0, 1) := by decide +kernel
theorem dX11_readClause_148 : decode cX11_readClause 148 = .ok (.getfield 16, 3) := by decide +kernel
theorem dX11_readClause_151 : decode cX11_readClause 151 = .ok (.iload_n 2, 1) := by decide +kernel
theorem dX11_readClause_152 : decode cX11_readClause 152 = .ok (.iconst 1, 1) := by decide +kernel
theorem dX11_readClause_153 : decode cX11_readClause 153 = .ok (.iadd, 1) := by decide +kernel
theorem dX11_readClause_154 : decode cX11_readClause 154 = .ok (.iload_n 3, 1) := by decide +kernel
theorem dX11_readClause_155 : decode cX11_readClause 155 = .ok (.iastore, 1) := by decide +kernel
theorem dX11_readClause_156 : decode cX11_readClause 156 = .ok (.iconst 1, 1) := by decide +kernel
theorem dX11_readClause_157 : decode cX11_readClause 157 = .ok (.ireturn, 1) := by decide +kernel
theorem dX11_readLaw_0 : decode cX11_readLaw 0 = .ok (.aload_n 0, 1) := by decide +kernel
theorem dX11_readLaw_1 : decode cX11_readLaw 1 = .ok (.iconst 0, 1) := by decide +kernel
theorem dX11_readLaw_2 : decode cX11_readLaw 2 = .ok (.putfield 116, 3) := by decide +kernel
theorem dX11_readLaw_5 : decode cX11_readLaw 5 = .ok (.iconst 0, 1) := by decide +kernel
theorem dX11_readLaw_6 : decode cX11_readLaw 6 = .ok (.istore_n 1, 1) := by decide +kernel
theorem dX11_readLaw_7 : decode cX11_readLaw 7 = .ok (.iload_n 1, 1) := by decide +kernel
theorem dX11_readLaw_8 : decode cX11_readLaw 8 = .ok (.bipush 6, 2) := by decide +kernel
theorem dX11_readLaw_10 : decode cX11_readLaw 10 = .ok (.if_icmp .ge 60, 3) := by decide +kernel
theorem dX11_readLaw_13 : decode cX11_readLaw 13 = .ok (.aload_n 0, 1) := by decide +kernel
theorem dX11_readLaw_14 : decode cX11_readLaw 14 = .ok (.iload_n 1, 1) := by decide +kernel
theorem dX11_readLaw_15 : decode cX11_readLaw 15 = .ok (.invokevirtual 138, 3) := by decide +kernel
theorem dX11_readLaw_18 : decode cX11_readLaw 18 = .ok (.ifCond .ne 5, 3) := by decide +kernel
theorem dX11_readLaw_21 : decode cX11_readLaw 21 = .ok (.iconst 0, 1) := by decide +kernel
theorem dX11_readLaw_22 : decode cX11_readLaw 22 = .ok (.ireturn, 1) := by decide +kernel
theorem dX11_readLaw_23 : decode cX11_readLaw 23 = .ok (.aload_n 0, 1) := by decide +kernel
theorem dX11_readLaw_24 : decode cX11_readLaw 24 = .ok (.iload_n 1, 1) := by decide +kernel
theorem dX11_readLaw_25 : decode cX11_readLaw 25 = .ok (.iconst 1, 1) := by decide +kernel
theorem dX11_readLaw_26 : decode cX11_readLaw 26 = .ok (.iadd, 1) := by decide +kernel
theorem dX11_readLaw_27 : decode cX11_readLaw 27 = .ok (.putfield 141, 3) := by decide +kernel
theorem dX11_readLaw_30 : decode cX11_readLaw 30 = .ok (.aload_n 0, 1) := by decide +kernel
theorem dX11_readLaw_31 : decode cX11_readLaw 31 = .ok (.invokevirtual 119, 3) := by decide +kernel
theorem dX11_readLaw_34 : decode cX11_readLaw 34 = .ok (.istore_n 2, 1) := by decide +kernel
theorem dX11_readLaw_35 : decode cX11_readLaw 35 = .ok (.iload_n 2, 1) := by decide +kernel
theorem dX11_readLaw_36 : decode cX11_readLaw 36 = .ok (.ifCond .ge 5, 3) := by decide +kernel
theorem dX11_readLaw_39 : decode cX11_readLaw 39 = .ok (.iconst 1, 1) := by decide +kernel
theorem dX11_readLaw_40 : decode cX11_readLaw 40 = .ok (.ireturn, 1) := by decide +kernel
theorem dX11_readLaw_41 : decode cX11_readLaw 41 = .ok (.iload_n 2, 1) := by decide +kernel
theorem dX11_readLaw_42 : decode cX11_readLaw 42 = .ok (.bipush 59, 2) := by decide +kernel
theorem dX11_readLaw_44 : decode cX11_readLaw 44 = .ok (.if_icmp .ne 8, 3) := by decide +kernel
theorem dX11_readLaw_47 : decode cX11_readLaw 47 = .ok (.iload_n 1, 1) := by decide +kernel
theorem dX11_readLaw_48 : decode cX11_readLaw 48 = .ok (.iconst 5, 1) := by decide +kernel
theorem dX11_readLaw_49 : decode cX11_readLaw 49 = .ok (.if_icmp .ne 5, 3) := by decide +kernel
theorem dX11_readLaw_52 : decode cX11_readLaw 52 = .ok (.iconst 0, 1) := by decide +kernel
theorem dX11_readLaw_53 : decode cX11_readLaw 53 = .ok (.ireturn, 1) := by decide +kernel
theorem dX11_readLaw_54 : decode cX11_readLaw 54 = .ok (.aload_n 0, 1) := by decide +kernel
theorem dX11_readLaw_55 : decode cX11_readLaw 55 = .ok (.dup, 1) := by decide +kernel
theorem dX11_readLaw_56 : decode cX11_readLaw 56 = .ok (.getfield 116, 3) := by decide +kernel
theorem dX11_readLaw_59 : decode cX11_readLaw 59 = .ok (.iconst 1, 1) := by decide +kernel
theorem dX11_readLaw_60 : decode cX11_readLaw 60 = .ok (.iadd, 1) := by decide +kernel
theorem dX11_readLaw_61 : decode cX11_readLaw 61 = .ok (.putfield 116, 3) := by decide +kernel
theorem dX11_readLaw_64 : decode cX11_readLaw 64 = .ok (.iinc 1 1, 3) := by decide +kernel
theorem dX11_readLaw_67 : decode cX11_readLaw 67 = .ok (.goto (-60), 3) := by decide +kernel
theorem dX11_readLaw_70 : decode cX11_readLaw 70 = .ok (.iconst 0, 1) := by decide +kernel
theorem dX11_readLaw_71 : decode cX11_readLaw 71 = .ok (.ireturn, 1) := by decide +kernel
theorem dX11_law_0 : decode cX11_law 0 = .ok (.aload_n 0, 1) := by decide +kernel
theorem dX11_law_1 : decode cX11_law 1 = .ok (.invokevirtual 144, 3) := by decide +kernel
theorem dX11_law_4 : decode cX11_law 4 = .ok (.istore_n 1, 1) := by decide +kernel
theorem dX11_law_5 : decode cX11_law 5 = .ok (.aload_n 0, 1) := by decide +kernel
theorem dX11_law_6 : decode cX11_law 6 = .ok (.iconst 0, 1) := by decide +kernel
theorem dX11_law_7 : decode cX11_law 7 = .ok (.putfield 112, 3) := by decide +kernel
theorem dX11_law_10 : decode cX11_law 10 = .ok (.iload_n 1, 1) := by decide +kernel
theorem dX11_law_11 : decode cX11_law 11 = .ok (.ifCond .ne 11, 3) := by decide +kernel
theorem dX11_law_14 : decode cX11_law 14 = .ok (.bipush (-20), 2) := by decide +kernel
theorem dX11_law_16 : decode cX11_law 16 = .ok (.aload_n 0, 1) := by decide +kernel
theorem dX11_law_17 : decode cX11_law 17 = .ok (.getfield 116, 3) := by decide +kernel
theorem dX11_law_20 : decode cX11_law 20 = .ok (.isub, 1) := by decide +kernel
theorem dX11_law_21 : decode cX11_law 21 = .ok (.ireturn, 1) := by decide +kernel
theorem dX11_law_22 : decode cX11_law 22 = .ok (.iconst 0, 1) := by decide +kernel
theorem dX11_law_23 : decode cX11_law 23 = .ok (.istore_n 2, 1) := by decide +kernel
theorem dX11_law_24 : decode cX11_law 24 = .ok (.iload_n 2, 1) := by decide +kernel
theorem dX11_law_25 : decode cX11_law 25 = .ok (.bipush 66, 2) := by decide +kernel
theorem dX11_law_27 : decode cX11_law 27 = .ok (.if_icmp .ge 24, 3) := by decide +kernel
theorem dX11_law_30 : decode cX11_law 30 = .ok (.aload_n 0, 1) := by decide +kernel
theorem dX11_law_31 : decode cX11_law 31 = .ok (.getfield 7, 3) := by decide +kernel
theorem dX11_law_34 : decode cX11_law 34 = .ok (.bipush 92, 2) := by decide +kernel
theorem dX11_law_36 : decode cX11_law 36 = .ok (.iload_n 2, 1) := by decide +kernel
theorem dX11_law_37 : decode cX11_law 37 = .ok (.iadd, 1) := by decide +kernel
theorem dX11_law_38 : decode cX11_law 38 = .ok (.aload_n 0, 1) := by decide +kernel
theorem dX11_law_39 : decode cX11_law 39 = .ok (.getfield 16, 3) := by decide +kernel
theorem dX11_law_42 : decode cX11_law 42 = .ok (.iload_n 2, 1) := by decide +kernel
theorem dX11_law_43 : decode cX11_law 43 = .ok (.iaload, 1) := by decide +kernel
theorem dX11_law_44 : decode cX11_law 44 = .ok (.iastore, 1) := by decide +kernel
theorem dX11_law_45 : decode cX11_law 45 = .ok (.iinc 2 1, 3) := by decide +kernel
theorem dX11_law_48 : decode cX11_law 48 = .ok (.goto (-24), 3) := by decide +kernel
theorem dX11_law_51 : decode cX11_law 51 = .ok (.aload_n 0, 1) := by decide +kernel
theorem dX11_law_52 : decode cX11_law 52 = .ok (.getfield 7, 3) := by decide +kernel
theorem dX11_law_55 : decode cX11_law 55 = .ok (.iconst 2, 1) := by decide +kernel
theorem dX11_law_56 : decode cX11_law 56 = .ok (.aload_n 0, 1) := by decide +kernel
theorem dX11_law_57 : decode cX11_law 57 = .ok (.getfield 141, 3) := by decide +kernel
theorem dX11_law_60 : decode cX11_law 60 = .ok (.iastore, 1) := by decide +kernel
theorem dX11_law_61 : decode cX11_law 61 = .ok (.aload_n 0, 1) := by decide +kernel
theorem dX11_law_62 : decode cX11_law 62 = .ok (.getfield 141, 3) := by decide +kernel
theorem dX11_law_65 : decode cX11_law 65 = .ok (.ireturn, 1) := by decide +kernel
theorem dX11_readAtom_0 : decode cX11_readAtom 0 = .ok (.aload_n 0, 1) := by decide +kernel
theorem dX11_readAtom_1 : decode cX11_readAtom 1 = .ok (.getfield 16, 3) := by decide +kernel
theorem dX11_readAtom_4 : decode cX11_readAtom 4 = .ok (.iload_n 1, 1) := by decide +kernel
theorem dX11_readAtom_5 : decode cX11_readAtom 5 = .ok (.aload_n 0, 1) := by decide +kernel
theorem dX11_readAtom_6 : decode cX11_readAtom 6 = .ok (.bipush 33, 2) := by decide +kernel
theorem dX11_readAtom_8 : decode cX11_readAtom 8 = .ok (.invokevirtual 130, 3) := by decide +kernel
theorem dX11_readAtom_11 : decode cX11_readAtom 11 = .ok (.ifCond .eq 7, 3) := by decide +kernel
theorem dX11_readAtom_14 : decode cX11_readAtom 14 = .ok (.iconst 1, 1) := by decide +kernel
theorem dX11_readAtom_15 : decode cX11_readAtom 15 = .ok (.goto 4, 3) := by decide +kernel
theorem dX11_readAtom_18 : decode cX11_readAtom 18 = .ok (.iconst 0, 1) := by decide +kernel
theorem dX11_readAtom_19 : decode cX11_readAtom 19 = .ok (.iastore, 1) := by decide +kernel
theorem dX11_readAtom_20 : decode cX11_readAtom 20 = .ok (.aload_n 0, 1) := by decide +kernel
theorem dX11_readAtom_21 : decode cX11_readAtom 21 = .ok (.getfield 16, 3) := by decide +kernel
theorem dX11_readAtom_24 : decode cX11_readAtom 24 = .ok (.iload_n 1, 1) := by decide +kernel
theorem dX11_readAtom_25 : decode cX11_readAtom 25 = .ok (.iconst 1, 1) := by decide +kernel
theorem dX11_readAtom_26 : decode cX11_readAtom 26 = .ok (.iadd, 1) := by decide +kernel
theorem dX11_readAtom_27 : decode cX11_readAtom 27 = .ok (.iconst 0, 1) := by decide +kernel
theorem dX11_readAtom_28 : decode cX11_readAtom 28 = .ok (.iastore, 1) := by decide +kernel
theorem dX11_readAtom_29 : decode cX11_readAtom 29 = .ok (.aload_n 0, 1) := by decide +kernel
theorem dX11_readAtom_30 : decode cX11_readAtom 30 = .ok (.getfield 16, 3) := by decide +kernel
theorem dX11_readAtom_33 : decode cX11_readAtom 33 = .ok (.iload_n 1, 1) := by decide +kernel
theorem dX11_readAtom_34 : decode cX11_readAtom 34 = .ok (.iconst 2, 1) := by decide +kernel
theorem dX11_readAtom_35 : decode cX11_readAtom 35 = .ok (.iadd, 1) := by decide +kernel
theorem dX11_readAtom_36 : decode cX11_readAtom 36 = .ok (.iconst 0, 1) := by decide +kernel
theorem dX11_readAtom_37 : decode cX11_readAtom 37 = .ok (.iastore, 1) := by decide +kernel
theorem dX11_readAtom_38 : decode cX11_readAtom 38 = .ok (.aload_n 0, 1) := by decide +kernel
theorem dX11_readAtom_39 : decode cX11_readAtom 39 = .ok (.bipush 42, 2) := by decide +kernel
theorem dX11_readAtom_41 : decode cX11_readAtom 41 = .ok (.invokevirtual 130, 3) := by decide +kernel
theorem dX11_readAtom_44 : decode cX11_readAtom 44 = .ok (.ifCond .ne 185, 3) := by decide +kernel
theorem dX11_readAtom_47 : decode cX11_readAtom 47 = .ok (.aload_n 0, 1) := by decide +kernel
theorem dX11_readAtom_48 : decode cX11_readAtom 48 = .ok (.bipush 119, 2) := by decide +kernel
theorem dX11_readAtom_50 : decode cX11_readAtom 50 = .ok (.invokevirtual 130, 3) := by decide +kernel
theorem dX11_readAtom_53 : decode cX11_readAtom 53 = .ok (.ifCond .ne 5, 3) := by decide +kernel
theorem dX11_readAtom_56 : decode cX11_readAtom 56 = .ok (.iconst 0, 1) := by decide +kernel
theorem dX11_readAtom_57 : decode cX11_readAtom 57 = .ok (.ireturn, 1) := by decide +kernel
theorem dX11_readAtom_58 : decode cX11_readAtom 58 = .ok (.aload_n 0, 1) := by decide +kernel
theorem dX11_readAtom_59 : decode cX11_readAtom 59 = .ok (.getfield 16, 3) := by decide +kernel
theorem dX11_readAtom_62 : decode cX11_readAtom 62 = .ok (.iload_n 1, 1) := by decide +kernel
theorem dX11_readAtom_63 : decode cX11_readAtom 63 = .ok (.iconst 1, 1) := by decide +kernel
theorem dX11_readAtom_64 : decode cX11_readAtom 64 = .ok (.iadd, 1) := by decide +kernel
theorem dX11_readAtom_65 : decode cX11_readAtom 65 = .ok (.aload_n 0, 1) := by decide +kernel
theorem dX11_readAtom_66 : decode cX11_readAtom 66 = .ok (.bipush 60, 2) := by decide +kernel
theorem dX11_readAtom_68 : decode cX11_readAtom 68 = .ok (.invokevirtual 130, 3) := by decide +kernel
theorem dX11_readAtom_71 : decode cX11_readAtom 71 = .ok (.ifCond .eq 7, 3) := by decide +kernel
theorem dX11_readAtom_74 : decode cX11_readAtom 74 = .ok (.iconst 1, 1) := by decide +kernel
theorem dX11_readAtom_75 : decode cX11_readAtom 75 = .ok (.goto 17, 3) := by decide +kernel
theorem dX11_readAtom_78 : decode cX11_readAtom 78 = .ok (.aload_n 0, 1) := by decide +kernel
theorem dX11_readAtom_79 : decode cX11_readAtom 79 = .ok (.bipush 62, 2) := by decide +kernel
theorem dX11_readAtom_81 : decode cX11_readAtom 81 = .ok (.invokevirtual 130, 3) := by decide +kernel
theorem dX11_readAtom_84 : decode cX11_readAtom 84 = .ok (.ifCond .eq 7, 3) := by decide +kernel
theorem dX11_readAtom_87 : decode cX11_readAtom 87 = .ok (.iconst 2, 1) := by decide +kernel
theorem dX11_readAtom_88 : decode cX11_readAtom 88 = .ok (.goto 4, 3) := by decide +kernel
theorem dX11_readAtom_91 : decode cX11_readAtom 91 = .ok (.iconst 0, 1) := by decide +kernel
theorem dX11_readAtom_92 : decode cX11_readAtom 92 = .ok (.iastore, 1) := by decide +kernel
theorem dX11_readAtom_93 : decode cX11_readAtom 93 = .ok (.aload_n 0, 1) := by decide +kernel
theorem dX11_readAtom_94 : decode cX11_readAtom 94 = .ok (.getfield 16, 3) := by decide +kernel
theorem dX11_readAtom_97 : decode cX11_readAtom 97 = .ok (.iload_n 1, 1) := by decide +kernel
theorem dX11_readAtom_98 : decode cX11_readAtom 98 = .ok (.iconst 1, 1) := by decide +kernel
theorem dX11_readAtom_99 : decode cX11_readAtom 99 = .ok (.iadd, 1) := by decide +kernel
theorem dX11_readAtom_100 : decode cX11_readAtom 100 = .ok (.iaload, 1) := by decide +kernel
theorem dX11_readAtom_101 : decode cX11_readAtom 101 = .ok (.ifCond .ne 5, 3) := by decide +kernel
theorem dX11_readAtom_104 : decode cX11_readAtom 104 = .ok (.iconst 0, 1) := by decide +kernel
theorem dX11_readAtom_105 : decode cX11_readAtom 105 = .ok (.ireturn, 1) := by decide +kernel
theorem dX11_readAtom_106 : decode cX11_readAtom 106 = .ok (.aload_n 0, 1) := by decide +kernel
theorem dX11_readAtom_107 : decode cX11_readAtom 107 = .ok (.invokevirtual 119, 3) := by decide +kernel
theorem dX11_readAtom_110 : decode cX11_readAtom 110 = .ok (.bipush 45, 2) := by decide +kernel
theorem dX11_readAtom_112 : decode cX11_readAtom 112 = .ok (.if_icmp .ne 7, 3) := by decide +kernel
theorem dX11_readAtom_115 : decode cX11_readAtom 115 = .ok (.iconst 1, 1) := by decide +kernel
theorem dX11_readAtom_116 : decode cX11_readAtom 116 = .ok (.goto 4, 3) := by decide +kernel
theorem dX11_readAtom_119 : decode cX11_readAtom 119 = .ok (.iconst 0, 1) := by decide +kernel
theorem dX11_readAtom_120 : decode cX11_readAtom 120 = .ok (.istore_n 2, 1) := by decide +kernel
theorem dX11_readAtom_121 : decode cX11_readAtom 121 = .ok (.aload_n 0, 1) := by decide +kernel
theorem dX11_readAtom_122 : decode cX11_readAtom 122 = .ok (.getfield 116, 3) := by decide +kernel
theorem dX11_readAtom_125 : decode cX11_readAtom 125 = .ok (.istore_n 3, 1) := by decide +kernel
theorem dX11_readAtom_126 : decode cX11_readAtom 126 = .ok (.aload_n 0, 1) := by decide +kernel
theorem dX11_readAtom_127 : decode cX11_readAtom 127 = .ok (.dup, 1) := by decide +kernel
theorem dX11_readAtom_128 : decode cX11_readAtom 128 = .ok (.getfield 116, 3) := by decide +kernel
theorem dX11_readAtom_131 : decode cX11_readAtom 131 = .ok (.iload_n 2, 1) := by decide +kernel
theorem dX11_readAtom_132 : decode cX11_readAtom 132 = .ok (.ifCond .eq 7, 3) := by decide +kernel
theorem dX11_readAtom_135 : decode cX11_readAtom 135 = .ok (.iconst 1, 1) := by decide +kernel
theorem dX11_readAtom_136 : decode cX11_readAtom 136 = .ok (.goto 4, 3) := by decide +kernel
theorem dX11_readAtom_139 : decode cX11_readAtom 139 = .ok (.iconst 0, 1) := by decide +kernel
theorem dX11_readAtom_140 : decode cX11_readAtom 140 = .ok (.iadd, 1) := by decide +kernel
theorem dX11_readAtom_141 : decode cX11_readAtom 141 = .ok (.putfield 116, 3) := by decide +kernel
theorem dX11_readAtom_144 : decode cX11_readAtom 144 = .ok (.aload_n 0, 1) := by decide +kernel
theorem dX11_readAtom_145 : decode cX11_readAtom 145 = .ok (.iconst 0, 1) := by decide +kernel
theorem dX11_readAtom_146 : decode cX11_readAtom 146 = .ok (.bipush 50, 2) := by decide +kernel
theorem dX11_readAtom_148 : decode cX11_readAtom 148 = .ok (.invokevirtual 127, 3) := by decide +kernel
theorem dX11_readAtom_151 : decode cX11_readAtom 151 = .ok (.istore 4, 2) := by decide +kernel
theorem dX11_readAtom_153 : decode cX11_readAtom 153 = .ok (.iload 4, 2) := by decide +kernel
theorem dX11_readAtom_155 : decode cX11_readAtom 155 = .ok (.ifCond .ge 54, 3) := by decide +kernel
theorem dX11_readAtom_158 : decode cX11_readAtom 158 = .ok (.aload_n 0, 1) := by decide +kernel
theorem dX11_readAtom_159 : decode cX11_readAtom 159 = .ok (.iload_n 2, 1) := by decide +kernel
theorem dX11_readAtom_160 : decode cX11_readAtom 160 = .ok (.ifCond .eq 40, 3) := by decide +kernel
theorem dX11_readAtom_163 : decode cX11_readAtom 163 = .ok (.aload_n 0, 1) := by decide +kernel
theorem dX11_readAtom_164 : decode cX11_readAtom 164 = .ok (.getfield 116, 3) := by decide +kernel
theorem dX11_readAtom_167 : decode cX11_readAtom 167 = .ok (.aload_n 0, 1) := by decide +kernel
theorem dX11_readAtom_168 : decode cX11_readAtom 168 = .ok (.getfield 112, 3) := by decide +kernel
theorem dX11_readAtom_171 : decode cX11_readAtom 171 = .ok (.if_icmp .ge 29, 3) := by decide +kernel
theorem dX11_readAtom_174 : decode cX11_readAtom 174 = .ok (.aload_n 0, 1) := by decide +kernel
theorem dX11_readAtom_175 : decode cX11_readAtom 175 = .ok (.getfield 13, 3) := by decide +kernel
theorem dX11_readAtom_178 : decode cX11_readAtom 178 = .ok (.aload_n 0, 1) := by decide +kernel
theorem dX11_readAtom_179 : decode cX11_readAtom 179 = .ok (.getfield 116, 3) := by decide +kernel
theorem dX11_readAtom_182 : decode cX11_readAtom 182 = .ok (.iaload, 1) := by decide +kernel
theorem dX11_readAtom_183 : decode cX11_readAtom 183 = .ok (.i2l, 1) := by decide +kernel
theorem dX11_readAtom_184 : decode cX11_readAtom 184 = .ok (.ldc2_w 123, 3) := by decide +kernel
theorem dX11_readAtom_187 : decode cX11_readAtom 187 = .ok (.ldc2_w 125, 3) := by decide +kernel
theorem dX11_readAtom_190 : decode cX11_readAtom 190 = .ok (.invokestatic 70, 3) := by decide +kernel
theorem dX11_readAtom_193 : decode cX11_readAtom 193 = .ok (.ifCond .eq 7, 3) := by decide +kernel
theorem dX11_readAtom_196 : decode cX11_readAtom 196 = .ok (.iload_n 3, 1) := by decide +kernel
theorem dX11_readAtom_197 : decode cX11_readAtom 197 = .ok (.goto 7, 3) := by decide +kernel
theorem dX11_readAtom_200 : decode cX11_readAtom 200 = .ok (.aload_n 0, 1) := by decide +kernel
theorem dX11_readAtom_201 : decode cX11_readAtom 201 = .ok (.getfield 116, 3) := by decide +kernel
theorem dX11_readAtom_204 : decode cX11_readAtom 204 = .ok (.putfield 116, 3) := by decide +kernel
theorem dX11_readAtom_207 : decode cX11_readAtom 207 = .ok (.iconst 0, 1) := by decide +kernel
theorem dX11_readAtom_208 : decode cX11_readAtom 208 = .ok (.ireturn, 1) := by decide +kernel
theorem dX11_readAtom_209 : decode cX11_readAtom 209 = .ok (.aload_n 0, 1) := by decide +kernel
theorem dX11_readAtom_210 : decode cX11_readAtom 210 = .ok (.getfield 16, 3) := by decide +kernel
theorem dX11_readAtom_213 : decode cX11_readAtom 213 = .ok (.iload_n 1, 1) := by decide +kernel
theorem dX11_readAtom_214 : decode cX11_readAtom 214 = .ok (.iconst 2, 1) := by decide +kernel
theorem dX11_readAtom_215 : decode cX11_readAtom 215 = .ok (.iadd, 1) := by decide +kernel
theorem dX11_readAtom_216 : decode cX11_readAtom 216 = .ok (.iload_n 2, 1) := by decide +kernel
theorem dX11_readAtom_217 : decode cX11_readAtom 217 = .ok (.ifCond .eq 9, 3) := by decide +kernel
theorem dX11_readAtom_220 : decode cX11_readAtom 220 = .ok (.iload 4, 2) := by decide +kernel
theorem dX11_readAtom_222 : decode cX11_readAtom 222 = .ok (.ineg, 1) := by decide +kernel
theorem dX11_readAtom_223 : decode cX11_readAtom 223 = .ok (.goto 5, 3) := by decide +kernel
theorem dX11_readAtom_226 : decode cX11_readAtom 226 = .ok (.iload 4, 2) := by decide +kernel
theorem dX11_readAtom_228 : decode cX11_readAtom 228 = .ok (.iastore, 1) := by decide +kernel
theorem dX11_readAtom_229 : decode cX11_readAtom 229 = .ok (.aload_n 0, 1) := by decide +kernel
theorem dX11_readAtom_230 : decode cX11_readAtom 230 = .ok (.bipush 64, 2) := by decide +kernel
theorem dX11_readAtom_232 : decode cX11_readAtom 232 = .ok (.invokevirtual 130, 3) := by decide +kernel
theorem dX11_readAtom_235 : decode cX11_readAtom 235 = .ok (.ifCond .ne 5, 3) := by decide +kernel
theorem dX11_readAtom_238 : decode cX11_readAtom 238 = .ok (.iconst 0, 1) := by decide +kernel
theorem dX11_readAtom_239 : decode cX11_readAtom 239 = .ok (.ireturn, 1) := by decide +kernel
theorem dX11_readAtom_240 : decode cX11_readAtom 240 = .ok (.aload_n 0, 1) := by decide +kernel
theorem dX11_readAtom_241 : decode cX11_readAtom 241 = .ok (.getfield 16, 3) := by decide +kernel
theorem dX11_readAtom_244 : decode cX11_readAtom 244 = .ok (.iload_n 1, 1) := by decide +kernel
theorem dX11_readAtom_245 : decode cX11_readAtom 245 = .ok (.iconst 3, 1) := by decide +kernel
theorem dX11_readAtom_246 : decode cX11_readAtom 246 = .ok (.iadd, 1) := by decide +kernel
theorem dX11_readAtom_247 : decode cX11_readAtom 247 = .ok (.aload_n 0, 1) := by decide +kernel
theorem dX11_readAtom_248 : decode cX11_readAtom 248 = .ok (.iconst 0, 1) := by decide +kernel
theorem dX11_readAtom_249 : decode cX11_readAtom 249 = .ok (.bipush 23, 2) := by decide +kernel
theorem dX11_readAtom_251 : decode cX11_readAtom 251 = .ok (.invokevirtual 127, 3) := by decide +kernel
theorem dX11_readAtom_254 : decode cX11_readAtom 254 = .ok (.iastore, 1) := by decide +kernel
theorem dX11_readAtom_255 : decode cX11_readAtom 255 = .ok (.aload_n 0, 1) := by decide +kernel
theorem dX11_readAtom_256 : decode cX11_readAtom 256 = .ok (.getfield 16, 3) := by decide +kernel
theorem dX11_readAtom_259 : decode cX11_readAtom 259 = .ok (.iload_n 1, 1) := by decide +kernel
theorem dX11_readAtom_260 : decode cX11_readAtom 260 = .ok (.iconst 3, 1) := by decide +kernel
theorem dX11_readAtom_261 : decode cX11_readAtom 261 = .ok (.iadd, 1) := by decide +kernel
theorem dX11_readAtom_262 : decode cX11_readAtom 262 = .ok (.iaload, 1) := by decide +kernel
theorem dX11_readAtom_263 : decode cX11_readAtom 263 = .ok (.ifCond .lt 12, 3) := by decide +kernel
theorem dX11_readAtom_266 : decode cX11_readAtom 266 = .ok (.aload_n 0, 1) := by decide +kernel
theorem dX11_readAtom_267 : decode cX11_readAtom 267 = .ok (.bipush 45, 2) := by decide +kernel
theorem dX11_readAtom_269 : decode cX11_readAtom 269 = .ok (.invokevirtual 130, 3) := by decide +kernel
theorem dX11_readAtom_272 : decode cX11_readAtom 272 = .ok (.ifCond .ne 5, 3) := by decide +kernel
theorem dX11_readAtom_275 : decode cX11_readAtom 275 = .ok (.iconst 0, 1) := by decide +kernel
theorem dX11_readAtom_276 : decode cX11_readAtom 276 = .ok (.ireturn, 1) := by decide +kernel
theorem dX11_readAtom_277 : decode cX11_readAtom 277 = .ok (.aload_n 0, 1) := by decide +kernel
theorem dX11_readAtom_278 : decode cX11_readAtom 278 = .ok (.getfield 16, 3) := by decide +kernel
theorem dX11_readAtom_281 : decode cX11_readAtom 281 = .ok (.iload_n 1, 1) := by decide +kernel
theorem dX11_readAtom_282 : decode cX11_readAtom 282 = .ok (.iconst 4, 1) := by decide +kernel
theorem dX11_readAtom_283 : decode cX11_readAtom 283 = .ok (.iadd, 1) := by decide +kernel
theorem dX11_readAtom_284 : decode cX11_readAtom 284 = .ok (.aload_n 0, 1) := by decide +kernel
theorem dX11_readAtom_285 : decode cX11_readAtom 285 = .ok (.aload_n 0, 1) := by decide +kernel
theorem dX11_readAtom_286 : decode cX11_readAtom 286 = .ok (.getfield 16, 3) := by decide +kernel
theorem dX11_readAtom_289 : decode cX11_readAtom 289 = .ok (.iload_n 1, 1) := by decide +kernel
theorem dX11_readAtom_290 : decode cX11_readAtom 290 = .ok (.iconst 3, 1) := by decide +kernel
theorem dX11_readAtom_291 : decode cX11_readAtom 291 = .ok (.iadd, 1) := by decide +kernel
theorem dX11_readAtom_292 : decode cX11_readAtom 292 = .ok (.iaload, 1) := by decide +kernel
theorem dX11_readAtom_293 : decode cX11_readAtom 293 = .ok (.bipush 23, 2) := by decide +kernel
theorem dX11_readAtom_295 : decode cX11_readAtom 295 = .ok (.invokevirtual 127, 3) := by decide +kernel
theorem dX11_readAtom_298 : decode cX11_readAtom 298 = .ok (.iastore, 1) := by decide +kernel
theorem dX11_readAtom_299 : decode cX11_readAtom 299 = .ok (.aload_n 0, 1) := by decide +kernel
theorem dX11_readAtom_300 : decode cX11_readAtom 300 = .ok (.getfield 16, 3) := by decide +kernel
theorem dX11_readAtom_303 : decode cX11_readAtom 303 = .ok (.iload_n 1, 1) := by decide +kernel
theorem dX11_readAtom_304 : decode cX11_readAtom 304 = .ok (.iconst 4, 1) := by decide +kernel
theorem dX11_readAtom_305 : decode cX11_readAtom 305 = .ok (.iadd, 1) := by decide +kernel
theorem dX11_readAtom_306 : decode cX11_readAtom 306 = .ok (.iaload, 1) := by decide +kernel
theorem dX11_readAtom_307 : decode cX11_readAtom 307 = .ok (.ifCond .lt 12, 3) := by decide +kernel
theorem dX11_readAtom_310 : decode cX11_readAtom 310 = .ok (.aload_n 0, 1) := by decide +kernel
theorem dX11_readAtom_311 : decode cX11_readAtom 311 = .ok (.bipush 35, 2) := by decide +kernel
theorem dX11_readAtom_313 : decode cX11_readAtom 313 = .ok (.invokevirtual 130, 3) := by decide +kernel
theorem dX11_readAtom_316 : decode cX11_readAtom 316 = .ok (.ifCond .ne 5, 3) := by decide +kernel
theorem dX11_readAtom_319 : decode cX11_readAtom 319 = .ok (.iconst 0, 1) := by decide +kernel
theorem dX11_readAtom_320 : decode cX11_readAtom 320 = .ok (.ireturn, 1) := by decide +kernel
theorem dX11_readAtom_321 : decode cX11_readAtom 321 = .ok (.aload_n 0, 1) := by decide +kernel
theorem dX11_readAtom_322 : decode cX11_readAtom 322 = .ok (.getfield 16, 3) := by decide +kernel
theorem dX11_readAtom_325 : decode cX11_readAtom 325 = .ok (.iload_n 1, 1) := by decide +kernel
theorem dX11_readAtom_326 : decode cX11_readAtom 326 = .ok (.iconst 5, 1) := by decide +kernel
theorem dX11_readAtom_327 : decode cX11_readAtom 327 = .ok (.iadd, 1) := by decide +kernel
theorem dX11_readAtom_328 : decode cX11_readAtom 328 = .ok (.aload_n 0, 1) := by decide +kernel
theorem dX11_readAtom_329 : decode cX11_readAtom 329 = .ok (.iconst 1, 1) := by decide +kernel
theorem dX11_readAtom_330 : decode cX11_readAtom 330 = .ok (.bipush 12, 2) := by decide +kernel
theorem dX11_readAtom_332 : decode cX11_readAtom 332 = .ok (.invokevirtual 127, 3) := by decide +kernel
theorem dX11_readAtom_335 : decode cX11_readAtom 335 = .ok (.iastore, 1) := by decide +kernel
theorem dX11_readAtom_336 : decode cX11_readAtom 336 = .ok (.aload_n 0, 1) := by decide +kernel
theorem dX11_readAtom_337 : decode cX11_readAtom 337 = .ok (.getfield 16, 3) := by decide +kernel
theorem dX11_readAtom_340 : decode cX11_readAtom 340 = .ok (.iload_n 1, 1) := by decide +kernel
theorem dX11_readAtom_341 : decode cX11_readAtom 341 = .ok (.iconst 5, 1) := by decide +kernel
theorem dX11_readAtom_342 : decode cX11_readAtom 342 = .ok (.iadd, 1) := by decide +kernel
theorem dX11_readAtom_343 : decode cX11_readAtom 343 = .ok (.iaload, 1) := by decide +kernel
theorem dX11_readAtom_344 : decode cX11_readAtom 344 = .ok (.ifCond .le 7, 3) := by decide +kernel
theorem dX11_readAtom_347 : decode cX11_readAtom 347 = .ok (.iconst 1, 1) := by decide +kernel
theorem dX11_readAtom_348 : decode cX11_readAtom 348 = .ok (.goto 4, 3) := by decide +kernel
theorem dX11_readAtom_351 : decode cX11_readAtom 351 = .ok (.iconst 0, 1) := by decide +kernel
theorem dX11_readAtom_352 : decode cX11_readAtom 352 = .ok (.ireturn, 1) := by decide +kernel
theorem dX11_readClaim_0 : decode cX11_readClaim 0 = .ok (.aload_n 0, 1) := by decide +kernel
theorem dX11_readClaim_1 : decode cX11_readClaim 1 = .ok (.iconst 0, 1) := by decide +kernel
theorem dX11_readClaim_2 : decode cX11_readClaim 2 = .ok (.putfield 116, 3) := by decide +kernel
theorem dX11_readClaim_5 : decode cX11_readClaim 5 = .ok (.aload_n 0, 1) := by decide +kernel
theorem dX11_readClaim_6 : decode cX11_readClaim 6 = .ok (.getfield 16, 3) := by decide +kernel
theorem dX11_readClaim_9 : decode cX11_readClaim 9 = .ok (.iconst 0, 1) := by decide +kernel
theorem dX11_readClaim_10 : decode cX11_readClaim 10 = .ok (.iconst 1, 1) := by decide +kernel
theorem dX11_readClaim_11 : decode cX11_readClaim 11 = .ok (.iastore, 1) := by decide +kernel
theorem dX11_readClaim_12 : decode cX11_readClaim 12 = .ok (.aload_n 0, 1) := by decide +kernel
theorem dX11_readClaim_13 : decode cX11_readClaim 13 = .ok (.getfield 16, 3) := by decide +kernel
theorem dX11_readClaim_16 : decode cX11_readClaim 16 = .ok (.iconst 1, 1) := by decide +kernel
theorem dX11_readClaim_17 : decode cX11_readClaim 17 = .ok (.iconst 0, 1) := by decide +kernel
theorem dX11_readClaim_18 : decode cX11_readClaim 18 = .ok (.iastore, 1) := by decide +kernel
theorem dX11_readClaim_19 : decode cX11_readClaim 19 = .ok (.aload_n 0, 1) := by decide +kernel
theorem dX11_readClaim_20 : decode cX11_readClaim 20 = .ok (.iconst 2, 1) := by decide +kernel
theorem dX11_readClaim_21 : decode cX11_readClaim 21 = .ok (.invokevirtual 148, 3) := by decide +kernel
theorem dX11_readClaim_24 : decode cX11_readClaim 24 = .ok (.ifCond .ne 5, 3) := by decide +kernel
theorem dX11_readClaim_27 : decode cX11_readClaim 27 = .ok (.iconst 0, 1) := by decide +kernel
theorem dX11_readClaim_28 : decode cX11_readClaim 28 = .ok (.ireturn, 1) := by decide +kernel
theorem dX11_readClaim_29 : decode cX11_readClaim 29 = .ok (.aload_n 0, 1) := by decide +kernel
theorem dX11_readClaim_30 : decode cX11_readClaim 30 = .ok (.invokevirtual 119, 3) := by decide +kernel
theorem dX11_readClaim_33 : decode cX11_readClaim 33 = .ok (.istore_n 1, 1) := by decide +kernel
theorem dX11_readClaim_34 : decode cX11_readClaim 34 = .ok (.iload_n 1, 1) := by decide +kernel
theorem dX11_readClaim_35 : decode cX11_readClaim 35 = .ok (.bipush 38, 2) := by decide +kernel
theorem dX11_readClaim_37 : decode cX11_readClaim 37 = .ok (.if_icmp .eq 9, 3) := by decide +kernel
theorem dX11_readClaim_40 : decode cX11_readClaim 40 = .ok (.iload_n 1, 1) := by decide +kernel
theorem dX11_readClaim_41 : decode cX11_readClaim 41 = .ok (.bipush 124, 2) := by decide +kernel
theorem dX11_readClaim_43 : decode cX11_readClaim 43 = .ok (.if_icmp .ne 48, 3) := by decide +kernel
theorem dX11_readClaim_46 : decode cX11_readClaim 46 = .ok (.aload_n 0, 1) := by decide +kernel
theorem dX11_readClaim_47 : decode cX11_readClaim 47 = .ok (.dup, 1) := by decide +kernel
theorem dX11_readClaim_48 : decode cX11_readClaim 48 = .ok (.getfield 116, 3) := by decide +kernel
theorem dX11_readClaim_51 : decode cX11_readClaim 51 = .ok (.iconst 1, 1) := by decide +kernel
theorem dX11_readClaim_52 : decode cX11_readClaim 52 = .ok (.iadd, 1) := by decide +kernel
theorem dX11_readClaim_53 : decode cX11_readClaim 53 = .ok (.putfield 116, 3) := by decide +kernel
theorem dX11_readClaim_56 : decode cX11_readClaim 56 = .ok (.aload_n 0, 1) := by decide +kernel
theorem dX11_readClaim_57 : decode cX11_readClaim 57 = .ok (.getfield 16, 3) := by decide +kernel
theorem dX11_readClaim_60 : decode cX11_readClaim 60 = .ok (.iconst 0, 1) := by decide +kernel
theorem dX11_readClaim_61 : decode cX11_readClaim 61 = .ok (.iconst 2, 1) := by decide +kernel
theorem dX11_readClaim_62 : decode cX11_readClaim 62 = .ok (.iastore, 1) := by decide +kernel
theorem dX11_readClaim_63 : decode cX11_readClaim 63 = .ok (.aload_n 0, 1) := by decide +kernel
theorem dX11_readClaim_64 : decode cX11_readClaim 64 = .ok (.getfield 16, 3) := by decide +kernel
theorem dX11_readClaim_67 : decode cX11_readClaim 67 = .ok (.iconst 1, 1) := by decide +kernel
theorem dX11_readClaim_68 : decode cX11_readClaim 68 = .ok (.iload_n 1, 1) := by decide +kernel
theorem dX11_readClaim_69 : decode cX11_readClaim 69 = .ok (.bipush 38, 2) := by decide +kernel
theorem dX11_readClaim_71 : decode cX11_readClaim 71 = .ok (.if_icmp .ne 7, 3) := by decide +kernel
theorem dX11_readClaim_74 : decode cX11_readClaim 74 = .ok (.iconst 1, 1) := by decide +kernel
theorem dX11_readClaim_75 : decode cX11_readClaim 75 = .ok (.goto 4, 3) := by decide +kernel
theorem dX11_readClaim_78 : decode cX11_readClaim 78 = .ok (.iconst 0, 1) := by decide +kernel
theorem dX11_readClaim_79 : decode cX11_readClaim 79 = .ok (.iastore, 1) := by decide +kernel
theorem dX11_readClaim_80 : decode cX11_readClaim 80 = .ok (.aload_n 0, 1) := by decide +kernel
theorem dX11_readClaim_81 : decode cX11_readClaim 81 = .ok (.bipush 8, 2) := by decide +kernel
theorem dX11_readClaim_83 : decode cX11_readClaim 83 = .ok (.invokevirtual 148, 3) := by decide +kernel
theorem dX11_readClaim_86 : decode cX11_readClaim 86 = .ok (.ifCond .ne 5, 3) := by decide +kernel
theorem dX11_readClaim_89 : decode cX11_readClaim 89 = .ok (.iconst 0, 1) := by decide +kernel
theorem dX11_readClaim_90 : decode cX11_readClaim 90 = .ok (.ireturn, 1) := by decide +kernel
theorem dX11_readClaim_91 : decode cX11_readClaim 91 = .ok (.aload_n 0, 1) := by decide +kernel
theorem dX11_readClaim_92 : decode cX11_readClaim 92 = .ok (.invokevirtual 119, 3) := by decide +kernel
theorem dX11_readClaim_95 : decode cX11_readClaim 95 = .ok (.ifCond .ge 7, 3) := by decide +kernel
theorem dX11_readClaim_98 : decode cX11_readClaim 98 = .ok (.iconst 1, 1) := by decide +kernel
theorem dX11_readClaim_99 : decode cX11_readClaim 99 = .ok (.goto 4, 3) := by decide +kernel
theorem dX11_readClaim_102 : decode cX11_readClaim 102 = .ok (.iconst 0, 1) := by decide +kernel
theorem dX11_readClaim_103 : decode cX11_readClaim 103 = .ok (.ireturn, 1) := by decide +kernel
theorem dX11_claim_0 : decode cX11_claim 0 = .ok (.aload_n 0, 1) := by decide +kernel
theorem dX11_claim_1 : decode cX11_claim 1 = .ok (.invokevirtual 151, 3) := by decide +kernel
theorem dX11_claim_4 : decode cX11_claim 4 = .ok (.istore_n 1, 1) := by decide +kernel
theorem dX11_claim_5 : decode cX11_claim 5 = .ok (.aload_n 0, 1) := by decide +kernel
theorem dX11_claim_6 : decode cX11_claim 6 = .ok (.iconst 0, 1) := by decide +kernel
theorem dX11_claim_7 : decode cX11_claim 7 = .ok (.putfield 112, 3) := by decide +kernel
theorem dX11_claim_10 : decode cX11_claim 10 = .ok (.iload_n 1, 1) := by decide +kernel
theorem dX11_claim_11 : decode cX11_claim 11 = .ok (.ifCond .ne 11, 3) := by decide +kernel
theorem dX11_claim_14 : decode cX11_claim 14 = .ok (.bipush (-20), 2) := by decide +kernel
theorem dX11_claim_16 : decode cX11_claim 16 = .ok (.aload_n 0, 1) := by decide +kernel
theorem dX11_claim_17 : decode cX11_claim 17 = .ok (.getfield 116, 3) := by decide +kernel
theorem dX11_claim_20 : decode cX11_claim 20 = .ok (.isub, 1) := by decide +kernel
theorem dX11_claim_21 : decode cX11_claim 21 = .ok (.ireturn, 1) := by decide +kernel
theorem dX11_claim_22 : decode cX11_claim 22 = .ok (.aload_n 0, 1) := by decide +kernel
theorem dX11_claim_23 : decode cX11_claim 23 = .ok (.getfield 7, 3) := by decide +kernel
theorem dX11_claim_26 : decode cX11_claim 26 = .ok (.bipush 12, 2) := by decide +kernel
theorem dX11_claim_28 : decode cX11_claim 28 = .ok (.iaload, 1) := by decide +kernel
theorem dX11_claim_29 : decode cX11_claim 29 = .ok (.iconst 4, 1) := by decide +kernel
theorem dX11_claim_30 : decode cX11_claim 30 = .ok (.if_icmp .ne 6, 3) := by decide +kernel
theorem dX11_claim_33 : decode cX11_claim 33 = .ok (.bipush (-3), 2) := by decide +kernel
theorem dX11_claim_35 : decode cX11_claim 35 = .ok (.ireturn, 1) := by decide +kernel
theorem dX11_claim_36 : decode cX11_claim 36 = .ok (.iconst 0, 1) := by decide +kernel
theorem dX11_claim_37 : decode cX11_claim 37 = .ok (.istore_n 2, 1) := by decide +kernel
theorem dX11_claim_38 : decode cX11_claim 38 = .ok (.iload_n 2, 1) := by decide +kernel
theorem dX11_claim_39 : decode cX11_claim 39 = .ok (.bipush 14, 2) := by decide +kernel
theorem dX11_claim_41 : decode cX11_claim 41 = .ok (.if_icmp .ge 36, 3) := by decide +kernel
theorem dX11_claim_44 : decode cX11_claim 44 = .ok (.aload_n 0, 1) := by decide +kernel
theorem dX11_claim_45 : decode cX11_claim 45 = .ok (.getfield 7, 3) := by decide +kernel
theorem dX11_claim_48 : decode cX11_claim 48 = .ok (.sipush 326, 3) := by decide +kernel
theorem dX11_claim_51 : decode cX11_claim 51 = .ok (.bipush 14, 2) := by decide +kernel
theorem dX11_claim_53 : decode cX11_claim 53 = .ok (.aload_n 0, 1) := by decide +kernel
theorem dX11_claim_54 : decode cX11_claim 54 = .ok (.getfield 7, 3) := by decide +kernel
theorem dX11_claim_57 : decode cX11_claim 57 = .ok (.bipush 12, 2) := by decide +kernel
theorem dX11_claim_59 : decode cX11_claim 59 = .ok (.iaload, 1) := by decide +kernel
theorem dX11_claim_60 : decode cX11_claim 60 = .ok (.imul, 1) := by decide +kernel
theorem dX11_claim_61 : decode cX11_claim 61 = .ok (.iadd, 1) := by decide +kernel
theorem dX11_claim_62 : decode cX11_claim 62 = .ok (.iload_n 2, 1) := by decide +kernel
theorem dX11_claim_63 : decode cX11_claim 63 = .ok (.iadd, 1) := by decide +kernel
theorem dX11_claim_64 : decode cX11_claim 64 = .ok (.aload_n 0, 1) := by decide +kernel
theorem dX11_claim_65 : decode cX11_claim 65 = .ok (.getfield 16, 3) := by decide +kernel
theorem dX11_claim_68 : decode cX11_claim 68 = .ok (.iload_n 2, 1) := by decide +kernel
theorem dX11_claim_69 : decode cX11_claim 69 = .ok (.iaload, 1) := by decide +kernel
theorem dX11_claim_70 : decode cX11_claim 70 = .ok (.iastore, 1) := by decide +kernel
theorem dX11_claim_71 : decode cX11_claim 71 = .ok (.iinc 2 1, 3) := by decide +kernel
theorem dX11_claim_74 : decode cX11_claim 74 = .ok (.goto (-36), 3) := by decide +kernel
theorem dX11_claim_77 : decode cX11_claim 77 = .ok (.aload_n 0, 1) := by decide +kernel
theorem dX11_claim_78 : decode cX11_claim 78 = .ok (.getfield 7, 3) := by decide +kernel
theorem dX11_claim_81 : decode cX11_claim 81 = .ok (.bipush 12, 2) := by decide +kernel
theorem dX11_claim_83 : decode cX11_claim 83 = .ok (.dup2, 1) := by decide +kernel
theorem dX11_claim_84 : decode cX11_claim 84 = .ok (.iaload, 1) := by decide +kernel
theorem dX11_claim_85 : decode cX11_claim 85 = .ok (.iconst 1, 1) := by decide +kernel
theorem dX11_claim_86 : decode cX11_claim 86 = .ok (.iadd, 1) := by decide +kernel
theorem dX11_claim_87 : decode cX11_claim 87 = .ok (.iastore, 1) := by decide +kernel
theorem dX11_claim_88 : decode cX11_claim 88 = .ok (.aload_n 0, 1) := by decide +kernel
theorem dX11_claim_89 : decode cX11_claim 89 = .ok (.getfield 7, 3) := by decide +kernel
theorem dX11_claim_92 : decode cX11_claim 92 = .ok (.bipush 12, 2) := by decide +kernel
theorem dX11_claim_94 : decode cX11_claim 94 = .ok (.iaload, 1) := by decide +kernel
theorem dX11_claim_95 : decode cX11_claim 95 = .ok (.iconst 1, 1) := by decide +kernel
theorem dX11_claim_96 : decode cX11_claim 96 = .ok (.isub, 1) := by decide +kernel
theorem dX11_claim_97 : decode cX11_claim 97 = .ok (.ireturn, 1) := by decide +kernel
theorem dX11_addThing_0 : decode cX11_addThing 0 = .ok (.aload_n 0, 1) := by decide +kernel
theorem dX11_addThing_1 : decode cX11_addThing 1 = .ok (.getfield 7, 3) := by decide +kernel
theorem dX11_addThing_4 : decode cX11_addThing 4 = .ok (.iconst 5, 1) := by decide +kernel
theorem dX11_addThing_5 : decode cX11_addThing 5 = .ok (.iload_n 1, 1) := by decide +kernel
theorem dX11_addThing_6 : decode cX11_addThing 6 = .ok (.iadd, 1) := by decide +kernel
theorem dX11_addThing_7 : decode cX11_addThing 7 = .ok (.iaload, 1) := by decide +kernel
theorem dX11_addThing_8 : decode cX11_addThing 8 = .ok (.istore 5, 2) := by decide +kernel
theorem dX11_addThing_10 : decode cX11_addThing 10 = .ok (.iload 5, 2) := by decide +kernel
theorem dX11_addThing_12 : decode cX11_addThing 12 = .ok (.bipush 12, 2) := by decide +kernel
theorem dX11_addThing_14 : decode cX11_addThing 14 = .ok (.if_icmp .ge 67, 3) := by decide +kernel
theorem dX11_addThing_17 : decode cX11_addThing 17 = .ok (.aload_n 0, 1) := by decide +kernel
theorem dX11_addThing_18 : decode cX11_addThing 18 = .ok (.getfield 7, 3) := by decide +kernel
theorem dX11_addThing_21 : decode cX11_addThing 21 = .ok (.sipush 158, 3) := by decide +kernel
theorem dX11_addThing_24 : decode cX11_addThing 24 = .ok (.bipush 12, 2) := by decide +kernel
theorem dX11_addThing_26 : decode cX11_addThing 26 = .ok (.iload_n 1, 1) := by decide +kernel
theorem dX11_addThing_27 : decode cX11_addThing 27 = .ok (.imul, 1) := by decide +kernel
theorem dX11_addThing_28 : decode cX11_addThing 28 = .ok (.iadd, 1) := by decide +kernel
theorem dX11_addThing_29 : decode cX11_addThing 29 = .ok (.iload 5, 2) := by decide +kernel
theorem dX11_addThing_31 : decode cX11_addThing 31 = .ok (.iadd, 1) := by decide +kernel
theorem dX11_addThing_32 : decode cX11_addThing 32 = .ok (.iload_n 2, 1) := by decide +kernel
theorem dX11_addThing_33 : decode cX11_addThing 33 = .ok (.iastore, 1) := by decide +kernel
theorem dX11_addThing_34 : decode cX11_addThing 34 = .ok (.aload_n 0, 1) := by decide +kernel
theorem dX11_addThing_35 : decode cX11_addThing 35 = .ok (.getfield 7, 3) := by decide +kernel
theorem dX11_addThing_38 : decode cX11_addThing 38 = .ok (.sipush 182, 3) := by decide +kernel
theorem dX11_addThing_41 : decode cX11_addThing 41 = .ok (.bipush 12, 2) := by decide +kernel
theorem dX11_addThing_43 : decode cX11_addThing 43 = .ok (.iload_n 1, 1) := by decide +kernel
theorem dX11_addThing_44 : decode cX11_addThing 44 = .ok (.imul, 1) := by decide +kernel
theorem dX11_addThing_45 : decode cX11_addThing 45 = .ok (.iadd, 1) := by decide +kernel
theorem dX11_addThing_46 : decode cX11_addThing 46 = .ok (.iload 5, 2) := by decide +kernel
theorem dX11_addThing_48 : decode cX11_addThing 48 = .ok (.iadd, 1) := by decide +kernel
theorem dX11_addThing_49 : decode cX11_addThing 49 = .ok (.iload_n 3, 1) := by decide +kernel
theorem dX11_addThing_50 : decode cX11_addThing 50 = .ok (.iastore, 1) := by decide +kernel
theorem dX11_addThing_51 : decode cX11_addThing 51 = .ok (.aload_n 0, 1) := by decide +kernel
theorem dX11_addThing_52 : decode cX11_addThing 52 = .ok (.getfield 7, 3) := by decide +kernel
theorem dX11_addThing_55 : decode cX11_addThing 55 = .ok (.sipush 206, 3) := by decide +kernel
theorem dX11_addThing_58 : decode cX11_addThing 58 = .ok (.bipush 12, 2) := by decide +kernel
theorem dX11_addThing_60 : decode cX11_addThing 60 = .ok (.iload_n 1, 1) := by decide +kernel
theorem dX11_addThing_61 : decode cX11_addThing 61 = .ok (.imul, 1) := by decide +kernel
theorem dX11_addThing_62 : decode cX11_addThing 62 = .ok (.iadd, 1) := by decide +kernel
theorem dX11_addThing_63 : decode cX11_addThing 63 = .ok (.iload 5, 2) := by decide +kernel
theorem dX11_addThing_65 : decode cX11_addThing 65 = .ok (.iadd, 1) := by decide +kernel
theorem dX11_addThing_66 : decode cX11_addThing 66 = .ok (.iload 4, 2) := by decide +kernel
theorem dX11_addThing_68 : decode cX11_addThing 68 = .ok (.iastore, 1) := by decide +kernel
theorem dX11_addThing_69 : decode cX11_addThing 69 = .ok (.aload_n 0, 1) := by decide +kernel
theorem dX11_addThing_70 : decode cX11_addThing 70 = .ok (.getfield 7, 3) := by decide +kernel
theorem dX11_addThing_73 : decode cX11_addThing 73 = .ok (.iconst 5, 1) := by decide +kernel
theorem dX11_addThing_74 : decode cX11_addThing 74 = .ok (.iload_n 1, 1) := by decide +kernel
theorem dX11_addThing_75 : decode cX11_addThing 75 = .ok (.iadd, 1) := by decide +kernel
theorem dX11_addThing_76 : decode cX11_addThing 76 = .ok (.dup2, 1) := by decide +kernel
theorem dX11_addThing_77 : decode cX11_addThing 77 = .ok (.iaload, 1) := by decide +kernel
theorem dX11_addThing_78 : decode cX11_addThing 78 = .ok (.iconst 1, 1) := by decide +kernel
theorem dX11_addThing_79 : decode cX11_addThing 79 = .ok (.iadd, 1) := by decide +kernel
theorem dX11_addThing_80 : decode cX11_addThing 80 = .ok (.iastore, 1) := by decide +kernel
theorem dX11_addThing_81 : decode cX11_addThing 81 = .ok (.return_, 1) := by decide +kernel
theorem dX11_make_0 : decode cX11_make 0 = .ok (.iload_n 1, 1) := by decide +kernel
theorem dX11_make_1 : decode cX11_make 1 = .ok (.invokestatic 160, 3) := by decide +kernel
theorem dX11_make_4 : decode cX11_make 4 = .ok (.ifCond .ne 5, 3) := by decide +kernel
theorem dX11_make_7 : decode cX11_make 7 = .ok (.iconst (-1), 1) := by decide +kernel
theorem dX11_make_8 : decode cX11_make 8 = .ok (.ireturn, 1) := by decide +kernel
theorem dX11_make_9 : decode cX11_make 9 = .ok (.aload_n 0, 1) := by decide +kernel
theorem dX11_make_10 : decode cX11_make 10 = .ok (.getfield 7, 3) := by decide +kernel
theorem dX11_make_13 : decode cX11_make 13 = .ok (.iconst 2, 1) := by decide +kernel
theorem dX11_make_14 : decode cX11_make 14 = .ok (.iaload, 1) := by decide +kernel
theorem dX11_make_15 : decode cX11_make 15 = .ok (.ifCond .ne 6, 3) := by decide +kernel
theorem dX11_make_18 : decode cX11_make 18 = .ok (.bipush (-2), 2) := by decide +kernel
theorem dX11_make_20 : decode cX11_make 20 = .ok (.ireturn, 1) := by decide +kernel
theorem dX11_make_21 : decode cX11_make 21 = .ok (.aload_n 0, 1) := by decide +kernel
theorem dX11_make_22 : decode cX11_make 22 = .ok (.iload_n 1, 1) := by decide +kernel
theorem dX11_make_23 : decode cX11_make 23 = .ok (.iconst 0, 1) := by decide +kernel
theorem dX11_make_24 : decode cX11_make 24 = .ok (.invokevirtual 163, 3) := by decide +kernel
theorem dX11_make_27 : decode cX11_make 27 = .ok (.aload_n 0, 1) := by decide +kernel
theorem dX11_make_28 : decode cX11_make 28 = .ok (.iload_n 1, 1) := by decide +kernel
theorem dX11_make_29 : decode cX11_make 29 = .ok (.iconst 0, 1) := by decide +kernel
theorem dX11_make_30 : decode cX11_make 30 = .ok (.invokevirtual 167, 3) := by decide +kernel
theorem dX11_make_33 : decode cX11_make 33 = .ok (.aload_n 0, 1) := by decide +kernel
theorem dX11_make_34 : decode cX11_make 34 = .ok (.getfield 7, 3) := by decide +kernel
theorem dX11_make_37 : decode cX11_make 37 = .ok (.iconst 5, 1) := by decide +kernel
theorem dX11_make_38 : decode cX11_make 38 = .ok (.iload_n 1, 1) := by decide +kernel
theorem dX11_make_39 : decode cX11_make 39 = .ok (.iadd, 1) := by decide +kernel
theorem dX11_make_40 : decode cX11_make 40 = .ok (.iconst 0, 1) := by decide +kernel
theorem dX11_make_41 : decode cX11_make 41 = .ok (.iastore, 1) := by decide +kernel
theorem dX11_make_42 : decode cX11_make 42 = .ok (.bipush (-4), 2) := by decide +kernel
theorem dX11_make_44 : decode cX11_make 44 = .ok (.istore_n 2, 1) := by decide +kernel
theorem dX11_make_45 : decode cX11_make 45 = .ok (.iconst 0, 1) := by decide +kernel
theorem dX11_make_46 : decode cX11_make 46 = .ok (.istore_n 3, 1) := by decide +kernel
theorem dX11_make_47 : decode cX11_make 47 = .ok (.iload_n 3, 1) := by decide +kernel
theorem dX11_make_48 : decode cX11_make 48 = .ok (.bipush 24, 2) := by decide +kernel
theorem dX11_make_50 : decode cX11_make 50 = .ok (.if_icmp .ge 106, 3) := by decide +kernel
theorem dX11_make_53 : decode cX11_make 53 = .ok (.aload_n 0, 1) := by decide +kernel
theorem dX11_make_54 : decode cX11_make 54 = .ok (.iload_n 3, 1) := by decide +kernel
theorem dX11_make_55 : decode cX11_make 55 = .ok (.invokevirtual 100, 3) := by decide +kernel
theorem dX11_make_58 : decode cX11_make 58 = .ok (.istore 4, 2) := by decide +kernel
theorem dX11_make_60 : decode cX11_make 60 = .ok (.iload 4, 2) := by decide +kernel
theorem dX11_make_62 : decode cX11_make 62 = .ok (.ifCond .le 29, 3) := by decide +kernel
theorem dX11_make_65 : decode cX11_make 65 = .ok (.iload_n 2, 1) := by decide +kernel
theorem dX11_make_66 : decode cX11_make 66 = .ok (.ifCond .lt 25, 3) := by decide +kernel
theorem dX11_make_69 : decode cX11_make 69 = .ok (.iload_n 3, 1) := by decide +kernel
theorem dX11_make_70 : decode cX11_make 70 = .ok (.iload_n 2, 1) := by decide +kernel
theorem dX11_make_71 : decode cX11_make 71 = .ok (.isub, 1) := by decide +kernel
theorem dX11_make_72 : decode cX11_make 72 = .ok (.iconst 1, 1) := by decide +kernel
theorem dX11_make_73 : decode cX11_make 73 = .ok (.isub, 1) := by decide +kernel
theorem dX11_make_74 : decode cX11_make 74 = .ok (.aload_n 0, 1) := by decide +kernel
theorem dX11_make_75 : decode cX11_make 75 = .ok (.getfield 7, 3) := by decide +kernel
theorem dX11_make_78 : decode cX11_make 78 = .ok (.iconst 1, 1) := by decide +kernel
theorem dX11_make_79 : decode cX11_make 79 = .ok (.iaload, 1) := by decide +kernel
theorem dX11_make_80 : decode cX11_make 80 = .ok (.if_icmp .lt 11, 3) := by decide +kernel
theorem dX11_make_83 : decode cX11_make 83 = .ok (.aload_n 0, 1) := by decide +kernel
theorem dX11_make_84 : decode cX11_make 84 = .ok (.iload_n 1, 1) := by decide +kernel
theorem dX11_make_85 : decode cX11_make 85 = .ok (.iconst 2, 1) := by decide +kernel
theorem dX11_make_86 : decode cX11_make 86 = .ok (.iconst 0, 1) := by decide +kernel
theorem dX11_make_87 : decode cX11_make 87 = .ok (.iconst 0, 1) := by decide +kernel
theorem dX11_make_88 : decode cX11_make 88 = .ok (.invokevirtual 170, 3) := by decide +kernel
theorem dX11_make_91 : decode cX11_make 91 = .ok (.iconst 0, 1) := by decide +kernel
theorem dX11_make_92 : decode cX11_make 92 = .ok (.istore 5, 2) := by decide +kernel
theorem dX11_make_94 : decode cX11_make 94 = .ok (.iload 5, 2) := by decide +kernel
theorem dX11_make_96 : decode cX11_make 96 = .ok (.iload 4, 2) := by decide +kernel
theorem dX11_make_98 : decode cX11_make 98 = .ok (.if_icmp .ge 41, 3) := by decide +kernel
theorem dX11_make_101 : decode cX11_make 101 = .ok (.aload_n 0, 1) := by decide +kernel
theorem dX11_make_102 : decode cX11_make 102 = .ok (.iload_n 1, 1) := by decide +kernel
theorem dX11_make_103 : decode cX11_make 103 = .ok (.iconst 0, 1) := by decide +kernel
theorem dX11_make_104 : decode cX11_make 104 = .ok (.aload_n 0, 1) := by decide +kernel
theorem dX11_make_105 : decode cX11_make 105 = .ok (.iload_n 3, 1) := by decide +kernel
theorem dX11_make_106 : decode cX11_make 106 = .ok (.aload_n 0, 1) := by decide +kernel
theorem dX11_make_107 : decode cX11_make 107 = .ok (.getfield 7, 3) := by decide +kernel
theorem dX11_make_110 : decode cX11_make 110 = .ok (.iconst 0, 1) := by decide +kernel
theorem dX11_make_111 : decode cX11_make 111 = .ok (.iaload, 1) := by decide +kernel
theorem dX11_make_112 : decode cX11_make 112 = .ok (.invokevirtual 94, 3) := by decide +kernel
theorem dX11_make_115 : decode cX11_make 115 = .ok (.aload_n 0, 1) := by decide +kernel
theorem dX11_make_116 : decode cX11_make 116 = .ok (.getfield 7, 3) := by decide +kernel
theorem dX11_make_119 : decode cX11_make 119 = .ok (.bipush 20, 2) := by decide +kernel
theorem dX11_make_121 : decode cX11_make 121 = .ok (.iconst 3, 1) := by decide +kernel
theorem dX11_make_122 : decode cX11_make 122 = .ok (.iload_n 3, 1) := by decide +kernel
theorem dX11_make_123 : decode cX11_make 123 = .ok (.imul, 1) := by decide +kernel
theorem dX11_make_124 : decode cX11_make 124 = .ok (.iadd, 1) := by decide +kernel
theorem dX11_make_125 : decode cX11_make 125 = .ok (.iconst 2, 1) := by decide +kernel
theorem dX11_make_126 : decode cX11_make 126 = .ok (.iadd, 1) := by decide +kernel
theorem dX11_make_127 : decode cX11_make 127 = .ok (.iaload, 1) := by decide +kernel
theorem dX11_make_128 : decode cX11_make 128 = .ok (.isub, 1) := by decide +kernel
theorem dX11_make_129 : decode cX11_make 129 = .ok (.iload_n 3, 1) := by decide +kernel
theorem dX11_make_130 : decode cX11_make 130 = .ok (.invokevirtual 170, 3) := by decide +kernel
theorem dX11_make_133 : decode cX11_make 133 = .ok (.iinc 5 1, 3) := by decide +kernel
theorem dX11_make_136 : decode cX11_make 136 = .ok (.goto (-42), 3) := by decide +kernel
theorem dX11_make_139 : decode cX11_make 139 = .ok (.iload 4, 2) := by decide +kernel
theorem dX11_make_141 : decode cX11_make 141 = .ok (.ifCond .le 7, 3) := by decide +kernel
theorem dX11_make_144 : decode cX11_make 144 = .ok (.iload_n 3, 1) := by decide +kernel
theorem dX11_make_145 : decode cX11_make 145 = .ok (.goto 4, 3) := by decide +kernel
theorem dX11_make_148 : decode cX11_make 148 = .ok (.iload_n 2, 1) := by decide +kernel
theorem dX11_make_149 : decode cX11_make 149 = .ok (.istore_n 2, 1) := by decide +kernel
theorem dX11_make_150 : decode cX11_make 150 = .ok (.iinc 3 1, 3) := by decide +kernel
theorem dX11_make_153 : decode cX11_make 153 = .ok (.goto (-106), 3) := by decide +kernel
theorem dX11_make_156 : decode cX11_make 156 = .ok (.aload_n 0, 1) := by decide +kernel
theorem dX11_make_157 : decode cX11_make 157 = .ok (.getfield 7, 3) := by decide +kernel
theorem dX11_make_160 : decode cX11_make 160 = .ok (.bipush 7, 2) := by decide +kernel
theorem dX11_make_162 : decode cX11_make 162 = .ok (.iload_n 1, 1) := by decide +kernel
theorem dX11_make_163 : decode cX11_make 163 = .ok (.iadd, 1) := by decide +kernel
theorem dX11_make_164 : decode cX11_make 164 = .ok (.iconst 1, 1) := by decide +kernel
theorem dX11_make_165 : decode cX11_make 165 = .ok (.iastore, 1) := by decide +kernel
theorem dX11_make_166 : decode cX11_make 166 = .ok (.aload_n 0, 1) := by decide +kernel
theorem dX11_make_167 : decode cX11_make 167 = .ok (.getfield 7, 3) := by decide +kernel
theorem dX11_make_170 : decode cX11_make 170 = .ok (.iconst 5, 1) := by decide +kernel
theorem dX11_make_171 : decode cX11_make 171 = .ok (.iload_n 1, 1) := by decide +kernel
theorem dX11_make_172 : decode cX11_make 172 = .ok (.iadd, 1) := by decide +kernel
theorem dX11_make_173 : decode cX11_make 173 = .ok (.iaload, 1) := by decide +kernel
theorem dX11_make_174 : decode cX11_make 174 = .ok (.ireturn, 1) := by decide +kernel
theorem dX11_truth_0 : decode cX11_truth 0 = .ok (.iload_n 1, 1) := by decide +kernel
theorem dX11_truth_1 : decode cX11_truth 1 = .ok (.invokestatic 160, 3) := by decide +kernel
theorem dX11_truth_4 : decode cX11_truth 4 = .ok (.ifCond .eq 12, 3) := by decide +kernel
theorem dX11_truth_7 : decode cX11_truth 7 = .ok (.aload_n 0, 1) := by decide +kernel
theorem dX11_truth_8 : decode cX11_truth 8 = .ok (.iload_n 1, 1) := by decide +kernel
theorem dX11_truth_9 : decode cX11_truth 9 = .ok (.iload_n 2, 1) := by decide +kernel
theorem dX11_truth_10 : decode cX11_truth 10 = .ok (.invokevirtual 174, 3) := by decide +kernel
theorem dX11_truth_13 : decode cX11_truth 13 = .ok (.ifCond .ne 5, 3) := by decide +kernel
theorem dX11_truth_16 : decode cX11_truth 16 = .ok (.iconst (-1), 1) := by decide +kernel
theorem dX11_truth_17 : decode cX11_truth 17 = .ok (.ireturn, 1) := by decide +kernel
theorem dX11_truth_18 : decode cX11_truth 18 = .ok (.aload_n 0, 1) := by decide +kernel
theorem dX11_truth_19 : decode cX11_truth 19 = .ok (.getfield 7, 3) := by decide +kernel
theorem dX11_truth_22 : decode cX11_truth 22 = .ok (.bipush 7, 2) := by decide +kernel
theorem dX11_truth_24 : decode cX11_truth 24 = .ok (.iload_n 1, 1) := by decide +kernel
theorem dX11_truth_25 : decode cX11_truth 25 = .ok (.iadd, 1) := by decide +kernel
theorem dX11_truth_26 : decode cX11_truth 26 = .ok (.iaload, 1) := by decide +kernel
theorem dX11_truth_27 : decode cX11_truth 27 = .ok (.ifCond .ne 8, 3) := by decide +kernel
theorem dX11_truth_30 : decode cX11_truth 30 = .ok (.bipush (-2), 2) := by decide +kernel
theorem dX11_truth_32 : decode cX11_truth 32 = .ok (.goto 33, 3) := by decide +kernel
theorem dX11_truth_35 : decode cX11_truth 35 = .ok (.aload_n 0, 1) := by decide +kernel
theorem dX11_truth_36 : decode cX11_truth 36 = .ok (.iload_n 1, 1) := by decide +kernel
theorem dX11_truth_37 : decode cX11_truth 37 = .ok (.iload_n 2, 1) := by decide +kernel
theorem dX11_truth_38 : decode cX11_truth 38 = .ok (.invokevirtual 177, 3) := by decide +kernel
theorem dX11_truth_41 : decode cX11_truth 41 = .ok (.iconst 2, 1) := by decide +kernel
theorem dX11_truth_42 : decode cX11_truth 42 = .ok (.if_icmp .ne 8, 3) := by decide +kernel
theorem dX11_truth_45 : decode cX11_truth 45 = .ok (.bipush (-12), 2) := by decide +kernel
theorem dX11_truth_47 : decode cX11_truth 47 = .ok (.goto 18, 3) := by decide +kernel
theorem dX11_truth_50 : decode cX11_truth 50 = .ok (.aload_n 0, 1) := by decide +kernel
theorem dX11_truth_51 : decode cX11_truth 51 = .ok (.getfield 7, 3) := by decide +kernel
theorem dX11_truth_54 : decode cX11_truth 54 = .ok (.sipush 206, 3) := by decide +kernel
theorem dX11_truth_57 : decode cX11_truth 57 = .ok (.bipush 12, 2) := by decide +kernel
theorem dX11_truth_59 : decode cX11_truth 59 = .ok (.iload_n 1, 1) := by decide +kernel
theorem dX11_truth_60 : decode cX11_truth 60 = .ok (.imul, 1) := by decide +kernel
theorem dX11_truth_61 : decode cX11_truth 61 = .ok (.iadd, 1) := by decide +kernel
theorem dX11_truth_62 : decode cX11_truth 62 = .ok (.iload_n 2, 1) := by decide +kernel
theorem dX11_truth_63 : decode cX11_truth 63 = .ok (.iadd, 1) := by decide +kernel
theorem dX11_truth_64 : decode cX11_truth 64 = .ok (.iaload, 1) := by decide +kernel
theorem dX11_truth_65 : decode cX11_truth 65 = .ok (.ireturn, 1) := by decide +kernel
theorem dX11_put_0 : decode cX11_put 0 = .ok (.iload_n 1, 1) := by decide +kernel
theorem dX11_put_1 : decode cX11_put 1 = .ok (.invokestatic 160, 3) := by decide +kernel
theorem dX11_put_4 : decode cX11_put 4 = .ok (.ifCond .eq 37, 3) := by decide +kernel
theorem dX11_put_7 : decode cX11_put 7 = .ok (.iload_n 2, 1) := by decide +kernel
theorem dX11_put_8 : decode cX11_put 8 = .ok (.i2l, 1) := by decide +kernel
theorem dX11_put_9 : decode cX11_put 9 = .ok (.lconst 0, 1) := by decide +kernel
theorem dX11_put_10 : decode cX11_put 10 = .ok (.ldc2_w 180, 3) := by decide +kernel
theorem dX11_put_13 : decode cX11_put 13 = .ok (.invokestatic 70, 3) := by decide +kernel
theorem dX11_put_16 : decode cX11_put 16 = .ok (.ifCond .eq 25, 3) := by decide +kernel
theorem dX11_put_19 : decode cX11_put 19 = .ok (.iload_n 3, 1) := by decide +kernel
theorem dX11_put_20 : decode cX11_put 20 = .ok (.i2l, 1) := by decide +kernel
theorem dX11_put_21 : decode cX11_put 21 = .ok (.ldc2_w 182, 3) := by decide +kernel
theorem dX11_put_24 : decode cX11_put 24 = .ok (.ldc2_w 184, 3) := by decide +kernel
theorem dX11_put_27 : decode cX11_put 27 = .ok (.invokestatic 70, 3) := by decide +kernel
theorem dX11_put_30 : decode cX11_put 30 = .ok (.ifCond .eq 11, 3) := by decide +kernel
theorem dX11_put_33 : decode cX11_put 33 = .ok (.iload_n 2, 1) := by decide +kernel
theorem dX11_put_34 : decode cX11_put 34 = .ok (.ifCond .eq 9, 3) := by decide +kernel
theorem dX11_put_37 : decode cX11_put 37 = .ok (.iload_n 3, 1) := by decide +kernel
theorem dX11_put_38 : decode cX11_put 38 = .ok (.ifCond .eq 5, 3) := by decide +kernel
theorem dX11_put_41 : decode cX11_put 41 = .ok (.iconst (-1), 1) := by decide +kernel
theorem dX11_put_42 : decode cX11_put 42 = .ok (.ireturn, 1) := by decide +kernel
theorem dX11_put_43 : decode cX11_put 43 = .ok (.aload_n 0, 1) := by decide +kernel
theorem dX11_put_44 : decode cX11_put 44 = .ok (.getfield 7, 3) := by decide +kernel
theorem dX11_put_47 : decode cX11_put 47 = .ok (.iconst 5, 1) := by decide +kernel
theorem dX11_put_48 : decode cX11_put 48 = .ok (.iload_n 1, 1) := by decide +kernel
theorem dX11_put_49 : decode cX11_put 49 = .ok (.iadd, 1) := by decide +kernel
theorem dX11_put_50 : decode cX11_put 50 = .ok (.iaload, 1) := by decide +kernel
theorem dX11_put_51 : decode cX11_put 51 = .ok (.bipush 12, 2) := by decide +kernel
theorem dX11_put_53 : decode cX11_put 53 = .ok (.if_icmp .ne 6, 3) := by decide +kernel
theorem dX11_put_56 : decode cX11_put 56 = .ok (.bipush (-3), 2) := by decide +kernel
theorem dX11_put_58 : decode cX11_put 58 = .ok (.ireturn, 1) := by decide +kernel
theorem dX11_put_59 : decode cX11_put 59 = .ok (.aload_n 0, 1) := by decide +kernel
theorem dX11_put_60 : decode cX11_put 60 = .ok (.iload_n 1, 1) := by decide +kernel
theorem dX11_put_61 : decode cX11_put 61 = .ok (.iload_n 2, 1) := by decide +kernel
theorem dX11_put_62 : decode cX11_put 62 = .ok (.iload_n 3, 1) := by decide +kernel
theorem dX11_put_63 : decode cX11_put 63 = .ok (.iconst 0, 1) := by decide +kernel
theorem dX11_put_64 : decode cX11_put 64 = .ok (.invokevirtual 170, 3) := by decide +kernel
theorem dX11_put_67 : decode cX11_put 67 = .ok (.aload_n 0, 1) := by decide +kernel
theorem dX11_put_68 : decode cX11_put 68 = .ok (.getfield 7, 3) := by decide +kernel
theorem dX11_put_71 : decode cX11_put 71 = .ok (.bipush 7, 2) := by decide +kernel
theorem dX11_put_73 : decode cX11_put 73 = .ok (.iload_n 1, 1) := by decide +kernel
theorem dX11_put_74 : decode cX11_put 74 = .ok (.iadd, 1) := by decide +kernel
theorem dX11_put_75 : decode cX11_put 75 = .ok (.iconst 0, 1) := by decide +kernel
theorem dX11_put_76 : decode cX11_put 76 = .ok (.iastore, 1) := by decide +kernel
theorem dX11_put_77 : decode cX11_put 77 = .ok (.aload_n 0, 1) := by decide +kernel
theorem dX11_put_78 : decode cX11_put 78 = .ok (.getfield 7, 3) := by decide +kernel
theorem dX11_put_81 : decode cX11_put 81 = .ok (.iconst 5, 1) := by decide +kernel
theorem dX11_put_82 : decode cX11_put 82 = .ok (.iload_n 1, 1) := by decide +kernel
theorem dX11_put_83 : decode cX11_put 83 = .ok (.iadd, 1) := by decide +kernel
theorem dX11_put_84 : decode cX11_put 84 = .ok (.iaload, 1) := by decide +kernel
theorem dX11_put_85 : decode cX11_put 85 = .ok (.iconst 1, 1) := by decide +kernel
theorem dX11_put_86 : decode cX11_put 86 = .ok (.isub, 1) := by decide +kernel
theorem dX11_put_87 : decode cX11_put 87 = .ok (.ireturn, 1) := by decide +kernel
theorem dX11_cut_0 : decode cX11_cut 0 = .ok (.iload_n 1, 1) := by decide +kernel
theorem dX11_cut_1 : decode cX11_cut 1 = .ok (.invokestatic 160, 3) := by decide +kernel
theorem dX11_cut_4 : decode cX11_cut 4 = .ok (.ifCond .eq 12, 3) := by decide +kernel
theorem dX11_cut_7 : decode cX11_cut 7 = .ok (.aload_n 0, 1) := by decide +kernel
theorem dX11_cut_8 : decode cX11_cut 8 = .ok (.iload_n 1, 1) := by decide +kernel
theorem dX11_cut_9 : decode cX11_cut 9 = .ok (.iload_n 2, 1) := by decide +kernel
theorem dX11_cut_10 : decode cX11_cut 10 = .ok (.invokevirtual 174, 3) := by decide +kernel
theorem dX11_cut_13 : decode cX11_cut 13 = .ok (.ifCond .ne 5, 3) := by decide +kernel
theorem dX11_cut_16 : decode cX11_cut 16 = .ok (.iconst (-1), 1) := by decide +kernel
theorem dX11_cut_17 : decode cX11_cut 17 = .ok (.ireturn, 1) := by decide +kernel
theorem dX11_cut_18 : decode cX11_cut 18 = .ok (.aload_n 0, 1) := by decide +kernel
theorem dX11_cut_19 : decode cX11_cut 19 = .ok (.iload_n 1, 1) := by decide +kernel
theorem dX11_cut_20 : decode cX11_cut 20 = .ok (.iload_n 2, 1) := by decide +kernel
theorem dX11_cut_21 : decode cX11_cut 21 = .ok (.invokevirtual 163, 3) := by decide +kernel
theorem dX11_cut_24 : decode cX11_cut 24 = .ok (.aload_n 0, 1) := by decide +kernel
theorem dX11_cut_25 : decode cX11_cut 25 = .ok (.iload_n 1, 1) := by decide +kernel
theorem dX11_cut_26 : decode cX11_cut 26 = .ok (.iload_n 2, 1) := by decide +kernel
theorem dX11_cut_27 : decode cX11_cut 27 = .ok (.invokevirtual 167, 3) := by decide +kernel
theorem dX11_cut_30 : decode cX11_cut 30 = .ok (.aload_n 0, 1) := by decide +kernel
theorem dX11_cut_31 : decode cX11_cut 31 = .ok (.getfield 7, 3) := by decide +kernel
theorem dX11_cut_34 : decode cX11_cut 34 = .ok (.iconst 5, 1) := by decide +kernel
theorem dX11_cut_35 : decode cX11_cut 35 = .ok (.iload_n 1, 1) := by decide +kernel
theorem dX11_cut_36 : decode cX11_cut 36 = .ok (.iadd, 1) := by decide +kernel
theorem dX11_cut_37 : decode cX11_cut 37 = .ok (.iload_n 2, 1) := by decide +kernel
theorem dX11_cut_38 : decode cX11_cut 38 = .ok (.iastore, 1) := by decide +kernel
theorem dX11_cut_39 : decode cX11_cut 39 = .ok (.aload_n 0, 1) := by decide +kernel
theorem dX11_cut_40 : decode cX11_cut 40 = .ok (.getfield 7, 3) := by decide +kernel
theorem dX11_cut_43 : decode cX11_cut 43 = .ok (.bipush 7, 2) := by decide +kernel
theorem dX11_cut_45 : decode cX11_cut 45 = .ok (.iload_n 1, 1) := by decide +kernel
theorem dX11_cut_46 : decode cX11_cut 46 = .ok (.iadd, 1) := by decide +kernel
theorem dX11_cut_47 : decode cX11_cut 47 = .ok (.iconst 0, 1) := by decide +kernel
theorem dX11_cut_48 : decode cX11_cut 48 = .ok (.iastore, 1) := by decide +kernel
theorem dX11_cut_49 : decode cX11_cut 49 = .ok (.iload_n 2, 1) := by decide +kernel
theorem dX11_cut_50 : decode cX11_cut 50 = .ok (.ireturn, 1) := by decide +kernel
theorem dX11_thing_0 : decode cX11_thing 0 = .ok (.iload_n 1, 1) := by decide +kernel
theorem dX11_thing_1 : decode cX11_thing 1 = .ok (.invokestatic 160, 3) := by decide +kernel
theorem dX11_thing_4 : decode cX11_thing 4 = .ok (.ifCond .eq 22, 3) := by decide +kernel
theorem dX11_thing_7 : decode cX11_thing 7 = .ok (.aload_n 0, 1) := by decide +kernel
theorem dX11_thing_8 : decode cX11_thing 8 = .ok (.iload_n 1, 1) := by decide +kernel
theorem dX11_thing_9 : decode cX11_thing 9 = .ok (.iload_n 2, 1) := by decide +kernel
theorem dX11_thing_10 : decode cX11_thing 10 = .ok (.invokevirtual 174, 3) := by decide +kernel
theorem dX11_thing_13 : decode cX11_thing 13 = .ok (.ifCond .eq 13, 3) := by decide +kernel
theorem dX11_thing_16 : decode cX11_thing 16 = .ok (.iload_n 3, 1) := by decide +kernel
theorem dX11_thing_17 : decode cX11_thing 17 = .ok (.i2l, 1) := by decide +kernel
theorem dX11_thing_18 : decode cX11_thing 18 = .ok (.lconst 0, 1) := by decide +kernel
theorem dX11_thing_19 : decode cX11_thing 19 = .ok (.lconst 1, 1) := by decide +kernel
theorem dX11_thing_20 : decode cX11_thing 20 = .ok (.invokestatic 70, 3) := by decide +kernel
theorem dX11_thing_23 : decode cX11_thing 23 = .ok (.ifCond .ne 7, 3) := by decide +kernel
theorem dX11_thing_26 : decode cX11_thing 26 = .ok (.sipush (-1001), 3) := by decide +kernel
theorem dX11_thing_29 : decode cX11_thing 29 = .ok (.ireturn, 1) := by decide +kernel
theorem dX11_thing_30 : decode cX11_thing 30 = .ok (.iload_n 3, 1) := by decide +kernel
theorem dX11_thing_31 : decode cX11_thing 31 = .ok (.ifCond .ne 12, 3) := by decide +kernel
theorem dX11_thing_34 : decode cX11_thing 34 = .ok (.aload_n 0, 1) := by decide +kernel
theorem dX11_thing_35 : decode cX11_thing 35 = .ok (.iload_n 1, 1) := by decide +kernel
theorem dX11_thing_36 : decode cX11_thing 36 = .ok (.iload_n 2, 1) := by decide +kernel
theorem dX11_thing_37 : decode cX11_thing 37 = .ok (.invokevirtual 177, 3) := by decide +kernel
theorem dX11_thing_40 : decode cX11_thing 40 = .ok (.goto 24, 3) := by decide +kernel
theorem dX11_thing_43 : decode cX11_thing 43 = .ok (.aload_n 0, 1) := by decide +kernel
theorem dX11_thing_44 : decode cX11_thing 44 = .ok (.iload_n 1, 1) := by decide +kernel
theorem dX11_thing_45 : decode cX11_thing 45 = .ok (.iload_n 2, 1) := by decide +kernel
theorem dX11_thing_46 : decode cX11_thing 46 = .ok (.invokevirtual 177, 3) := by decide +kernel
theorem dX11_thing_49 : decode cX11_thing 49 = .ok (.ifCond .ne 12, 3) := by decide +kernel
theorem dX11_thing_52 : decode cX11_thing 52 = .ok (.aload_n 0, 1) := by decide +kernel
theorem dX11_thing_53 : decode cX11_thing 53 = .ok (.iload_n 1, 1) := by decide +kernel
theorem dX11_thing_54 : decode cX11_thing 54 = .ok (.iload_n 2, 1) := by decide +kernel
theorem dX11_thing_55 : decode cX11_thing 55 = .ok (.invokevirtual 186, 3) := by decide +kernel
theorem dX11_thing_58 : decode cX11_thing 58 = .ok (.goto 6, 3) := by decide +kernel
theorem dX11_thing_61 : decode cX11_thing 61 = .ok (.sipush (-1012), 3) := by decide +kernel
theorem dX11_thing_64 : decode cX11_thing 64 = .ok (.ireturn, 1) := by decide +kernel
theorem dX11_most_0 : decode cX11_most 0 = .ok (.iload_n 1, 1) := by decide +kernel
theorem dX11_most_1 : decode cX11_most 1 = .ok (.invokestatic 160, 3) := by decide +kernel
theorem dX11_most_4 : decode cX11_most 4 = .ok (.ifCond .eq 15, 3) := by decide +kernel
theorem dX11_most_7 : decode cX11_most 7 = .ok (.iload_n 2, 1) := by decide +kernel
theorem dX11_most_8 : decode cX11_most 8 = .ok (.i2l, 1) := by decide +kernel
theorem dX11_most_9 : decode cX11_most 9 = .ok (.lconst 1, 1) := by decide +kernel
theorem dX11_most_10 : decode cX11_most 10 = .ok (.ldc2_w 136, 3) := by decide +kernel
theorem dX11_most_13 : decode cX11_most 13 = .ok (.invokestatic 70, 3) := by decide +kernel
theorem dX11_most_16 : decode cX11_most 16 = .ok (.ifCond .ne 5, 3) := by decide +kernel
theorem dX11_most_19 : decode cX11_most 19 = .ok (.iconst (-1), 1) := by decide +kernel
theorem dX11_most_20 : decode cX11_most 20 = .ok (.ireturn, 1) := by decide +kernel
theorem dX11_most_21 : decode cX11_most 21 = .ok (.aload_n 0, 1) := by decide +kernel
theorem dX11_most_22 : decode cX11_most 22 = .ok (.getfield 7, 3) := by decide +kernel
theorem dX11_most_25 : decode cX11_most 25 = .ok (.iconst 3, 1) := by decide +kernel
theorem dX11_most_26 : decode cX11_most 26 = .ok (.iload_n 1, 1) := by decide +kernel
theorem dX11_most_27 : decode cX11_most 27 = .ok (.iadd, 1) := by decide +kernel
theorem dX11_most_28 : decode cX11_most 28 = .ok (.iaload, 1) := by decide +kernel
theorem dX11_most_29 : decode cX11_most 29 = .ok (.istore_n 3, 1) := by decide +kernel
theorem dX11_most_30 : decode cX11_most 30 = .ok (.aload_n 0, 1) := by decide +kernel
theorem dX11_most_31 : decode cX11_most 31 = .ok (.getfield 7, 3) := by decide +kernel
theorem dX11_most_34 : decode cX11_most 34 = .ok (.iconst 3, 1) := by decide +kernel
theorem dX11_most_35 : decode cX11_most 35 = .ok (.iload_n 1, 1) := by decide +kernel
theorem dX11_most_36 : decode cX11_most 36 = .ok (.iadd, 1) := by decide +kernel
theorem dX11_most_37 : decode cX11_most 37 = .ok (.iload_n 2, 1) := by decide +kernel
theorem dX11_most_38 : decode cX11_most 38 = .ok (.iastore, 1) := by decide +kernel
theorem dX11_most_39 : decode cX11_most 39 = .ok (.iload_n 3, 1) := by decide +kernel
theorem dX11_most_40 : decode cX11_most 40 = .ok (.ireturn, 1) := by decide +kernel
theorem dX11_stretch_0 : decode cX11_stretch 0 = .ok (.iload_n 1, 1) := by decide +kernel
theorem dX11_stretch_1 : decode cX11_stretch 1 = .ok (.invokestatic 160, 3) := by decide +kernel
theorem dX11_stretch_4 : decode cX11_stretch 4 = .ok (.ifCond .eq 80, 3) := by decide +kernel
theorem dX11_stretch_7 : decode cX11_stretch 7 = .ok (.iload_n 2, 1) := by decide +kernel
theorem dX11_stretch_8 : decode cX11_stretch 8 = .ok (.i2l, 1) := by decide +kernel
theorem dX11_stretch_9 : decode cX11_stretch 9 = .ok (.lconst 0, 1) := by decide +kernel
theorem dX11_stretch_10 : decode cX11_stretch 10 = .ok (.ldc2_w 180, 3) := by decide +kernel
theorem dX11_stretch_13 : decode cX11_stretch 13 = .ok (.invokestatic 70, 3) := by decide +kernel
theorem dX11_stretch_16 : decode cX11_stretch 16 = .ok (.ifCond .eq 68, 3) := by decide +kernel
theorem dX11_stretch_19 : decode cX11_stretch 19 = .ok (.aload_n 0, 1) := by decide +kernel
theorem dX11_stretch_20 : decode cX11_stretch 20 = .ok (.iload_n 1, 1) := by decide +kernel
theorem dX11_stretch_21 : decode cX11_stretch 21 = .ok (.iload_n 3, 1) := by decide +kernel
theorem dX11_stretch_22 : decode cX11_stretch 22 = .ok (.invokevirtual 174, 3) := by decide +kernel
theorem dX11_stretch_25 : decode cX11_stretch 25 = .ok (.ifCond .eq 59, 3) := by decide +kernel
theorem dX11_stretch_28 : decode cX11_stretch 28 = .ok (.aload_n 0, 1) := by decide +kernel
theorem dX11_stretch_29 : decode cX11_stretch 29 = .ok (.iload_n 1, 1) := by decide +kernel
theorem dX11_stretch_30 : decode cX11_stretch 30 = .ok (.iload 4, 2) := by decide +kernel
theorem dX11_stretch_32 : decode cX11_stretch 32 = .ok (.invokevirtual 174, 3) := by decide +kernel
theorem dX11_stretch_35 : decode cX11_stretch 35 = .ok (.ifCond .eq 49, 3) := by decide +kernel
theorem dX11_stretch_38 : decode cX11_stretch 38 = .ok (.iload_n 3, 1) := by decide +kernel
theorem dX11_stretch_39 : decode cX11_stretch 39 = .ok (.iload 4, 2) := by decide +kernel
theorem dX11_stretch_41 : decode cX11_stretch 41 = .ok (.if_icmp .gt 43, 3) := by decide +kernel
theorem dX11_stretch_44 : decode cX11_stretch 44 = .ok (.iload 5, 2) := by decide +kernel
theorem dX11_stretch_46 : decode cX11_stretch 46 = .ok (.i2l, 1) := by decide +kernel
theorem dX11_stretch_47 : decode cX11_stretch 47 = .ok (.iload_n 2, 1) := by decide +kernel
theorem dX11_stretch_48 : decode cX11_stretch 48 = .ok (.ifCond .ne 7, 3) := by decide +kernel
theorem dX11_stretch_51 : decode cX11_stretch 51 = .ok (.lconst 0, 1) := by decide +kernel
theorem dX11_stretch_52 : decode cX11_stretch 52 = .ok (.goto 4, 3) := by decide +kernel
theorem dX11_stretch_55 : decode cX11_stretch 55 = .ok (.lconst 1, 1) := by decide +kernel
theorem dX11_stretch_56 : decode cX11_stretch 56 = .ok (.iload_n 2, 1) := by decide +kernel
theorem dX11_stretch_57 : decode cX11_stretch 57 = .ok (.ifCond .ne 7, 3) := by decide +kernel
theorem dX11_stretch_60 : decode cX11_stretch 60 = .ok (.lconst 0, 1) := by decide +kernel
theorem dX11_stretch_61 : decode cX11_stretch 61 = .ok (.goto 17, 3) := by decide +kernel
theorem dX11_stretch_64 : decode cX11_stretch 64 = .ok (.iload_n 2, 1) := by decide +kernel
theorem dX11_stretch_65 : decode cX11_stretch 65 = .ok (.iconst 1, 1) := by decide +kernel
theorem dX11_stretch_66 : decode cX11_stretch 66 = .ok (.if_icmp .ne 9, 3) := by decide +kernel
theorem dX11_stretch_69 : decode cX11_stretch 69 = .ok (.ldc2_w 136, 3) := by decide +kernel
theorem dX11_stretch_72 : decode cX11_stretch 72 = .ok (.goto 6, 3) := by decide +kernel
theorem dX11_stretch_75 : decode cX11_stretch 75 = .ok (.ldc2_w 78, 3) := by decide +kernel
theorem dX11_stretch_78 : decode cX11_stretch 78 = .ok (.invokestatic 70, 3) := by decide +kernel
theorem dX11_stretch_81 : decode cX11_stretch 81 = .ok (.ifCond .ne 5, 3) := by decide +kernel
theorem dX11_stretch_84 : decode cX11_stretch 84 = .ok (.iconst (-1), 1) := by decide +kernel
theorem dX11_stretch_85 : decode cX11_stretch 85 = .ok (.ireturn, 1) := by decide +kernel
theorem dX11_stretch_86 : decode cX11_stretch 86 = .ok (.aload_n 0, 1) := by decide +kernel
theorem dX11_stretch_87 : decode cX11_stretch 87 = .ok (.iload_n 1, 1) := by decide +kernel
theorem dX11_stretch_88 : decode cX11_stretch 88 = .ok (.iload_n 3, 1) := by decide +kernel
theorem dX11_stretch_89 : decode cX11_stretch 89 = .ok (.invokevirtual 177, 3) := by decide +kernel
theorem dX11_stretch_92 : decode cX11_stretch 92 = .ok (.iconst 2, 1) := by decide +kernel
theorem dX11_stretch_93 : decode cX11_stretch 93 = .ok (.if_icmp .eq 14, 3) := by decide +kernel
theorem dX11_stretch_96 : decode cX11_stretch 96 = .ok (.aload_n 0, 1) := by decide +kernel
theorem dX11_stretch_97 : decode cX11_stretch 97 = .ok (.iload_n 1, 1) := by decide +kernel
theorem dX11_stretch_98 : decode cX11_stretch 98 = .ok (.iload 4, 2) := by decide +kernel
theorem dX11_stretch_100 : decode cX11_stretch 100 = .ok (.invokevirtual 177, 3) := by decide +kernel
theorem dX11_stretch_103 : decode cX11_stretch 103 = .ok (.iconst 2, 1) := by decide +kernel
theorem dX11_stretch_104 : decode cX11_stretch 104 = .ok (.if_icmp .ne 6, 3) := by decide +kernel
theorem dX11_stretch_107 : decode cX11_stretch 107 = .ok (.bipush (-12), 2) := by decide +kernel
theorem dX11_stretch_109 : decode cX11_stretch 109 = .ok (.ireturn, 1) := by decide +kernel
theorem dX11_stretch_110 : decode cX11_stretch 110 = .ok (.aload_n 0, 1) := by decide +kernel
theorem dX11_stretch_111 : decode cX11_stretch 111 = .ok (.getfield 7, 3) := by decide +kernel
theorem dX11_stretch_114 : decode cX11_stretch 114 = .ok (.bipush 9, 2) := by decide +kernel
theorem dX11_stretch_116 : decode cX11_stretch 116 = .ok (.iload_n 1, 1) := by decide +kernel
theorem dX11_stretch_117 : decode cX11_stretch 117 = .ok (.iadd, 1) := by decide +kernel
theorem dX11_stretch_118 : decode cX11_stretch 118 = .ok (.iaload, 1) := by decide +kernel
theorem dX11_stretch_119 : decode cX11_stretch 119 = .ok (.bipush 6, 2) := by decide +kernel
theorem dX11_stretch_121 : decode cX11_stretch 121 = .ok (.if_icmp .ne 6, 3) := by decide +kernel
theorem dX11_stretch_124 : decode cX11_stretch 124 = .ok (.bipush (-3), 2) := by decide +kernel
theorem dX11_stretch_126 : decode cX11_stretch 126 = .ok (.ireturn, 1) := by decide +kernel
theorem dX11_stretch_127 : decode cX11_stretch 127 = .ok (.aload_n 0, 1) := by decide +kernel
theorem dX11_stretch_128 : decode cX11_stretch 128 = .ok (.iload_n 1, 1) := by decide +kernel
theorem dX11_stretch_129 : decode cX11_stretch 129 = .ok (.aload_n 0, 1) := by decide +kernel
theorem dX11_stretch_130 : decode cX11_stretch 130 = .ok (.getfield 7, 3) := by decide +kernel
theorem dX11_stretch_133 : decode cX11_stretch 133 = .ok (.bipush 9, 2) := by decide +kernel
theorem dX11_stretch_135 : decode cX11_stretch 135 = .ok (.iload_n 1, 1) := by decide +kernel
theorem dX11_stretch_136 : decode cX11_stretch 136 = .ok (.iadd, 1) := by decide +kernel
theorem dX11_stretch_137 : decode cX11_stretch 137 = .ok (.iaload, 1) := by decide +kernel
theorem dX11_stretch_138 : decode cX11_stretch 138 = .ok (.invokevirtual 157, 3) := by decide +kernel
theorem dX11_stretch_141 : decode cX11_stretch 141 = .ok (.istore 6, 2) := by decide +kernel
theorem dX11_stretch_143 : decode cX11_stretch 143 = .ok (.aload_n 0, 1) := by decide +kernel
theorem dX11_stretch_144 : decode cX11_stretch 144 = .ok (.getfield 7, 3) := by decide +kernel
theorem dX11_stretch_147 : decode cX11_stretch 147 = .ok (.iload 6, 2) := by decide +kernel
theorem dX11_stretch_149 : decode cX11_stretch 149 = .ok (.iload_n 2, 1) := by decide +kernel
theorem dX11_stretch_150 : decode cX11_stretch 150 = .ok (.iastore, 1) := by decide +kernel
theorem dX11_stretch_151 : decode cX11_stretch 151 = .ok (.aload_n 0, 1) := by decide +kernel
theorem dX11_stretch_152 : decode cX11_stretch 152 = .ok (.getfield 7, 3) := by decide +kernel
theorem dX11_stretch_155 : decode cX11_stretch 155 = .ok (.iload 6, 2) := by decide +kernel
theorem dX11_stretch_157 : decode cX11_stretch 157 = .ok (.iconst 1, 1) := by decide +kernel
theorem dX11_stretch_158 : decode cX11_stretch 158 = .ok (.iadd, 1) := by decide +kernel
theorem dX11_stretch_159 : decode cX11_stretch 159 = .ok (.iload_n 3, 1) := by decide +kernel
theorem dX11_stretch_160 : decode cX11_stretch 160 = .ok (.iastore, 1) := by decide +kernel
theorem dX11_stretch_161 : decode cX11_stretch 161 = .ok (.aload_n 0, 1) := by decide +kernel
theorem dX11_stretch_162 : decode cX11_stretch 162 = .ok (.getfield 7, 3) := by decide +kernel
theorem dX11_stretch_165 : decode cX11_stretch 165 = .ok (.iload 6, 2) := by decide +kernel
theorem dX11_stretch_167 : decode cX11_stretch 167 = .ok (.iconst 2, 1) := by decide +kernel
theorem dX11_stretch_168 : decode cX11_stretch 168 = .ok (.iadd, 1) := by decide +kernel
theorem dX11_stretch_169 : decode cX11_stretch 169 = .ok (.iload 4, 2) := by decide +kernel
theorem dX11_stretch_171 : decode cX11_stretch 171 = .ok (.iastore, 1) := by decide +kernel
theorem dX11_stretch_172 : decode cX11_stretch 172 = .ok (.aload_n 0, 1) := by decide +kernel
theorem dX11_stretch_173 : decode cX11_stretch 173 = .ok (.getfield 7, 3) := by decide +kernel
theorem dX11_stretch_176 : decode cX11_stretch 176 = .ok (.iload 6, 2) := by decide +kernel
theorem dX11_stretch_178 : decode cX11_stretch 178 = .ok (.iconst 3, 1) := by decide +kernel
theorem dX11_stretch_179 : decode cX11_stretch 179 = .ok (.iadd, 1) := by decide +kernel
theorem dX11_stretch_180 : decode cX11_stretch 180 = .ok (.iload 5, 2) := by decide +kernel
theorem dX11_stretch_182 : decode cX11_stretch 182 = .ok (.iastore, 1) := by decide +kernel
theorem dX11_stretch_183 : decode cX11_stretch 183 = .ok (.aload_n 0, 1) := by decide +kernel
theorem dX11_stretch_184 : decode cX11_stretch 184 = .ok (.getfield 7, 3) := by decide +kernel
theorem dX11_stretch_187 : decode cX11_stretch 187 = .ok (.bipush 9, 2) := by decide +kernel
theorem dX11_stretch_189 : decode cX11_stretch 189 = .ok (.iload_n 1, 1) := by decide +kernel
theorem dX11_stretch_190 : decode cX11_stretch 190 = .ok (.iadd, 1) := by decide +kernel
theorem dX11_stretch_191 : decode cX11_stretch 191 = .ok (.dup2, 1) := by decide +kernel
theorem dX11_stretch_192 : decode cX11_stretch 192 = .ok (.iaload, 1) := by decide +kernel
theorem dX11_stretch_193 : decode cX11_stretch 193 = .ok (.iconst 1, 1) := by decide +kernel
theorem dX11_stretch_194 : decode cX11_stretch 194 = .ok (.iadd, 1) := by decide +kernel
theorem dX11_stretch_195 : decode cX11_stretch 195 = .ok (.iastore, 1) := by decide +kernel
theorem dX11_stretch_196 : decode cX11_stretch 196 = .ok (.aload_n 0, 1) := by decide +kernel
theorem dX11_stretch_197 : decode cX11_stretch 197 = .ok (.getfield 7, 3) := by decide +kernel
theorem dX11_stretch_200 : decode cX11_stretch 200 = .ok (.bipush 9, 2) := by decide +kernel
theorem dX11_stretch_202 : decode cX11_stretch 202 = .ok (.iload_n 1, 1) := by decide +kernel
theorem dX11_stretch_203 : decode cX11_stretch 203 = .ok (.iadd, 1) := by decide +kernel
theorem dX11_stretch_204 : decode cX11_stretch 204 = .ok (.iaload, 1) := by decide +kernel
theorem dX11_stretch_205 : decode cX11_stretch 205 = .ok (.ireturn, 1) := by decide +kernel
theorem dX11_date_0 : decode cX11_date 0 = .ok (.iload_n 1, 1) := by decide +kernel
theorem dX11_date_1 : decode cX11_date 1 = .ok (.invokestatic 160, 3) := by decide +kernel
theorem dX11_date_4 : decode cX11_date 4 = .ok (.ifCond .eq 44, 3) := by decide +kernel
theorem dX11_date_7 : decode cX11_date 7 = .ok (.aload_n 0, 1) := by decide +kernel
theorem dX11_date_8 : decode cX11_date 8 = .ok (.iload_n 1, 1) := by decide +kernel
theorem dX11_date_9 : decode cX11_date 9 = .ok (.iload_n 2, 1) := by decide +kernel
theorem dX11_date_10 : decode cX11_date 10 = .ok (.invokevirtual 174, 3) := by decide +kernel
theorem dX11_date_13 : decode cX11_date 13 = .ok (.ifCond .eq 35, 3) := by decide +kernel
theorem dX11_date_16 : decode cX11_date 16 = .ok (.iload_n 3, 1) := by decide +kernel
theorem dX11_date_17 : decode cX11_date 17 = .ok (.invokestatic 80, 3) := by decide +kernel
theorem dX11_date_20 : decode cX11_date 20 = .ok (.ifCond .eq 28, 3) := by decide +kernel
theorem dX11_date_23 : decode cX11_date 23 = .ok (.iload 4, 2) := by decide +kernel
theorem dX11_date_25 : decode cX11_date 25 = .ok (.invokestatic 80, 3) := by decide +kernel
theorem dX11_date_28 : decode cX11_date 28 = .ok (.ifCond .eq 20, 3) := by decide +kernel
theorem dX11_date_31 : decode cX11_date 31 = .ok (.iload_n 3, 1) := by decide +kernel
theorem dX11_date_32 : decode cX11_date 32 = .ok (.iload 4, 2) := by decide +kernel
theorem dX11_date_34 : decode cX11_date 34 = .ok (.if_icmp .gt 14, 3) := by decide +kernel
theorem dX11_date_37 : decode cX11_date 37 = .ok (.iload 5, 2) := by decide +kernel
theorem dX11_date_39 : decode cX11_date 39 = .ok (.i2l, 1) := by decide +kernel
theorem dX11_date_40 : decode cX11_date 40 = .ok (.lconst 0, 1) := by decide +kernel
theorem dX11_date_41 : decode cX11_date 41 = .ok (.lconst 1, 1) := by decide +kernel
theorem dX11_date_42 : decode cX11_date 42 = .ok (.invokestatic 70, 3) := by decide +kernel
theorem dX11_date_45 : decode cX11_date 45 = .ok (.ifCond .ne 5, 3) := by decide +kernel
theorem dX11_date_48 : decode cX11_date 48 = .ok (.iconst (-1), 1) := by decide +kernel
theorem dX11_date_49 : decode cX11_date 49 = .ok (.ireturn, 1) := by decide +kernel
theorem dX11_date_50 : decode cX11_date 50 = .ok (.aload_n 0, 1) := by decide +kernel
theorem dX11_date_51 : decode cX11_date 51 = .ok (.iload_n 1, 1) := by decide +kernel
theorem dX11_date_52 : decode cX11_date 52 = .ok (.iload_n 2, 1) := by decide +kernel
theorem dX11_date_53 : decode cX11_date 53 = .ok (.invokevirtual 177, 3) := by decide +kernel
theorem dX11_date_56 : decode cX11_date 56 = .ok (.iconst 2, 1) := by decide +kernel
theorem dX11_date_57 : decode cX11_date 57 = .ok (.if_icmp .ne 6, 3) := by decide +kernel
theorem dX11_date_60 : decode cX11_date 60 = .ok (.bipush (-12), 2) := by decide +kernel
theorem dX11_date_62 : decode cX11_date 62 = .ok (.ireturn, 1) := by decide +kernel
theorem dX11_date_63 : decode cX11_date 63 = .ok (.aload_n 0, 1) := by decide +kernel
theorem dX11_date_64 : decode cX11_date 64 = .ok (.getfield 7, 3) := by decide +kernel
theorem dX11_date_67 : decode cX11_date 67 = .ok (.bipush 11, 2) := by decide +kernel
theorem dX11_date_69 : decode cX11_date 69 = .ok (.iaload, 1) := by decide +kernel
theorem dX11_date_70 : decode cX11_date 70 = .ok (.bipush 8, 2) := by decide +kernel
theorem dX11_date_72 : decode cX11_date 72 = .ok (.if_icmp .ne 6, 3) := by decide +kernel
theorem dX11_date_75 : decode cX11_date 75 = .ok (.bipush (-3), 2) := by decide +kernel
theorem dX11_date_77 : decode cX11_date 77 = .ok (.ireturn, 1) := by decide +kernel
theorem dX11_date_78 : decode cX11_date 78 = .ok (.aload_n 0, 1) := by decide +kernel
theorem dX11_date_79 : decode cX11_date 79 = .ok (.aload_n 0, 1) := by decide +kernel
theorem dX11_date_80 : decode cX11_date 80 = .ok (.getfield 7, 3) := by decide +kernel
theorem dX11_date_83 : decode cX11_date 83 = .ok (.bipush 11, 2) := by decide +kernel
theorem dX11_date_85 : decode cX11_date 85 = .ok (.iaload, 1) := by decide +kernel
theorem dX11_date_86 : decode cX11_date 86 = .ok (.invokevirtual 154, 3) := by decide +kernel
theorem dX11_date_89 : decode cX11_date 89 = .ok (.istore 6, 2) := by decide +kernel
theorem dX11_date_91 : decode cX11_date 91 = .ok (.aload_n 0, 1) := by decide +kernel
theorem dX11_date_92 : decode cX11_date 92 = .ok (.getfield 7, 3) := by decide +kernel
theorem dX11_date_95 : decode cX11_date 95 = .ok (.iload 6, 2) := by decide +kernel
theorem dX11_date_97 : decode cX11_date 97 = .ok (.iload_n 1, 1) := by decide +kernel
theorem dX11_date_98 : decode cX11_date 98 = .ok (.iastore, 1) := by decide +kernel
theorem dX11_date_99 : decode cX11_date 99 = .ok (.aload_n 0, 1) := by decide +kernel
theorem dX11_date_100 : decode cX11_date 100 = .ok (.getfield 7, 3) := by decide +kernel
theorem dX11_date_103 : decode cX11_date 103 = .ok (.iload 6, 2) := by decide +kernel
theorem dX11_date_105 : decode cX11_date 105 = .ok (.iconst 1, 1) := by decide +kernel
theorem dX11_date_106 : decode cX11_date 106 = .ok (.iadd, 1) := by decide +kernel
theorem dX11_date_107 : decode cX11_date 107 = .ok (.iload_n 2, 1) := by decide +kernel
theorem dX11_date_108 : decode cX11_date 108 = .ok (.iastore, 1) := by decide +kernel
theorem dX11_date_109 : decode cX11_date 109 = .ok (.aload_n 0, 1) := by decide +kernel
theorem dX11_date_110 : decode cX11_date 110 = .ok (.getfield 7, 3) := by decide +kernel
theorem dX11_date_113 : decode cX11_date 113 = .ok (.iload 6, 2) := by decide +kernel
theorem dX11_date_115 : decode cX11_date 115 = .ok (.iconst 2, 1) := by decide +kernel
theorem dX11_date_116 : decode cX11_date 116 = .ok (.iadd, 1) := by decide +kernel
theorem dX11_date_117 : decode cX11_date 117 = .ok (.iload_n 3, 1) := by decide +kernel
theorem dX11_date_118 : decode cX11_date 118 = .ok (.iastore, 1) := by decide +kernel
theorem dX11_date_119 : decode cX11_date 119 = .ok (.aload_n 0, 1) := by decide +kernel
theorem dX11_date_120 : decode cX11_date 120 = .ok (.getfield 7, 3) := by decide +kernel
theorem dX11_date_123 : decode cX11_date 123 = .ok (.iload 6, 2) := by decide +kernel
theorem dX11_date_125 : decode cX11_date 125 = .ok (.iconst 3, 1) := by decide +kernel
theorem dX11_date_126 : decode cX11_date 126 = .ok (.iadd, 1) := by decide +kernel
theorem dX11_date_127 : decode cX11_date 127 = .ok (.iload 4, 2) := by decide +kernel
theorem dX11_date_129 : decode cX11_date 129 = .ok (.iastore, 1) := by decide +kernel
theorem dX11_date_130 : decode cX11_date 130 = .ok (.aload_n 0, 1) := by decide +kernel
theorem dX11_date_131 : decode cX11_date 131 = .ok (.getfield 7, 3) := by decide +kernel
theorem dX11_date_134 : decode cX11_date 134 = .ok (.iload 6, 2) := by decide +kernel
theorem dX11_date_136 : decode cX11_date 136 = .ok (.iconst 4, 1) := by decide +kernel
theorem dX11_date_137 : decode cX11_date 137 = .ok (.iadd, 1) := by decide +kernel
theorem dX11_date_138 : decode cX11_date 138 = .ok (.iload 5, 2) := by decide +kernel
theorem dX11_date_140 : decode cX11_date 140 = .ok (.iastore, 1) := by decide +kernel
theorem dX11_date_141 : decode cX11_date 141 = .ok (.aload_n 0, 1) := by decide +kernel
theorem dX11_date_142 : decode cX11_date 142 = .ok (.getfield 7, 3) := by decide +kernel
theorem dX11_date_145 : decode cX11_date 145 = .ok (.iload 6, 2) := by decide +kernel
theorem dX11_date_147 : decode cX11_date 147 = .ok (.iconst 5, 1) := by decide +kernel
theorem dX11_date_148 : decode cX11_date 148 = .ok (.iadd, 1) := by decide +kernel
theorem dX11_date_149 : decode cX11_date 149 = .ok (.iconst 0, 1) := by decide +kernel
theorem dX11_date_150 : decode cX11_date 150 = .ok (.iastore, 1) := by decide +kernel
theorem dX11_date_151 : decode cX11_date 151 = .ok (.aload_n 0, 1) := by decide +kernel
theorem dX11_date_152 : decode cX11_date 152 = .ok (.getfield 7, 3) := by decide +kernel
theorem dX11_date_155 : decode cX11_date 155 = .ok (.bipush 11, 2) := by decide +kernel
theorem dX11_date_157 : decode cX11_date 157 = .ok (.dup2, 1) := by decide +kernel
theorem dX11_date_158 : decode cX11_date 158 = .ok (.iaload, 1) := by decide +kernel
theorem dX11_date_159 : decode cX11_date 159 = .ok (.iconst 1, 1) := by decide +kernel
theorem dX11_date_160 : decode cX11_date 160 = .ok (.iadd, 1) := by decide +kernel
theorem dX11_date_161 : decode cX11_date 161 = .ok (.iastore, 1) := by decide +kernel
theorem dX11_date_162 : decode cX11_date 162 = .ok (.aload_n 0, 1) := by decide +kernel
theorem dX11_date_163 : decode cX11_date 163 = .ok (.getfield 7, 3) := by decide +kernel
theorem dX11_date_166 : decode cX11_date 166 = .ok (.bipush 11, 2) := by decide +kernel
theorem dX11_date_168 : decode cX11_date 168 = .ok (.iaload, 1) := by decide +kernel
theorem dX11_date_169 : decode cX11_date 169 = .ok (.iconst 1, 1) := by decide +kernel
theorem dX11_date_170 : decode cX11_date 170 = .ok (.isub, 1) := by decide +kernel
theorem dX11_date_171 : decode cX11_date 171 = .ok (.ireturn, 1) := by decide +kernel
theorem dX11_throwOut_0 : decode cX11_throwOut 0 = .ok (.iload_n 1, 1) := by decide +kernel
theorem dX11_throwOut_1 : decode cX11_throwOut 1 = .ok (.i2l, 1) := by decide +kernel
theorem dX11_throwOut_2 : decode cX11_throwOut 2 = .ok (.lconst 0, 1) := by decide +kernel
theorem dX11_throwOut_3 : decode cX11_throwOut 3 = .ok (.aload_n 0, 1) := by decide +kernel
theorem dX11_throwOut_4 : decode cX11_throwOut 4 = .ok (.getfield 7, 3) := by decide +kernel
theorem dX11_throwOut_7 : decode cX11_throwOut 7 = .ok (.bipush 11, 2) := by decide +kernel
theorem dX11_throwOut_9 : decode cX11_throwOut 9 = .ok (.iaload, 1) := by decide +kernel
theorem dX11_throwOut_10 : decode cX11_throwOut 10 = .ok (.iconst 1, 1) := by decide +kernel
theorem dX11_throwOut_11 : decode cX11_throwOut 11 = .ok (.isub, 1) := by decide +kernel
theorem dX11_throwOut_12 : decode cX11_throwOut 12 = .ok (.i2l, 1) := by decide +kernel
theorem dX11_throwOut_13 : decode cX11_throwOut 13 = .ok (.invokestatic 70, 3) := by decide +kernel
theorem dX11_throwOut_16 : decode cX11_throwOut 16 = .ok (.ifCond .eq 15, 3) := by decide +kernel
theorem dX11_throwOut_19 : decode cX11_throwOut 19 = .ok (.iload_n 2, 1) := by decide +kernel
theorem dX11_throwOut_20 : decode cX11_throwOut 20 = .ok (.i2l, 1) := by decide +kernel
theorem dX11_throwOut_21 : decode cX11_throwOut 21 = .ok (.lconst 0, 1) := by decide +kernel
theorem dX11_throwOut_22 : decode cX11_throwOut 22 = .ok (.ldc2_w 74, 3) := by decide +kernel
theorem dX11_throwOut_25 : decode cX11_throwOut 25 = .ok (.invokestatic 70, 3) := by decide +kernel
theorem dX11_throwOut_28 : decode cX11_throwOut 28 = .ok (.ifCond .ne 5, 3) := by decide +kernel
theorem dX11_throwOut_31 : decode cX11_throwOut 31 = .ok (.iconst (-1), 1) := by decide +kernel
theorem dX11_throwOut_32 : decode cX11_throwOut 32 = .ok (.ireturn, 1) := by decide +kernel
theorem dX11_throwOut_33 : decode cX11_throwOut 33 = .ok (.aload_n 0, 1) := by decide +kernel
theorem dX11_throwOut_34 : decode cX11_throwOut 34 = .ok (.getfield 7, 3) := by decide +kernel
theorem dX11_throwOut_37 : decode cX11_throwOut 37 = .ok (.aload_n 0, 1) := by decide +kernel
theorem dX11_throwOut_38 : decode cX11_throwOut 38 = .ok (.iload_n 1, 1) := by decide +kernel
theorem dX11_throwOut_39 : decode cX11_throwOut 39 = .ok (.invokevirtual 154, 3) := by decide +kernel
theorem dX11_throwOut_42 : decode cX11_throwOut 42 = .ok (.iconst 5, 1) := by decide +kernel
theorem dX11_throwOut_43 : decode cX11_throwOut 43 = .ok (.iadd, 1) := by decide +kernel
theorem dX11_throwOut_44 : decode cX11_throwOut 44 = .ok (.iaload, 1) := by decide +kernel
theorem dX11_throwOut_45 : decode cX11_throwOut 45 = .ok (.istore_n 3, 1) := by decide +kernel
theorem dX11_throwOut_46 : decode cX11_throwOut 46 = .ok (.aload_n 0, 1) := by decide +kernel
theorem dX11_throwOut_47 : decode cX11_throwOut 47 = .ok (.getfield 7, 3) := by decide +kernel
theorem dX11_throwOut_50 : decode cX11_throwOut 50 = .ok (.aload_n 0, 1) := by decide +kernel
theorem dX11_throwOut_51 : decode cX11_throwOut 51 = .ok (.iload_n 1, 1) := by decide +kernel
theorem dX11_throwOut_52 : decode cX11_throwOut 52 = .ok (.invokevirtual 154, 3) := by decide +kernel
theorem dX11_throwOut_55 : decode cX11_throwOut 55 = .ok (.iconst 5, 1) := by decide +kernel
theorem dX11_throwOut_56 : decode cX11_throwOut 56 = .ok (.iadd, 1) := by decide +kernel
theorem dX11_throwOut_57 : decode cX11_throwOut 57 = .ok (.iload_n 2, 1) := by decide +kernel
theorem dX11_throwOut_58 : decode cX11_throwOut 58 = .ok (.iastore, 1) := by decide +kernel
theorem dX11_throwOut_59 : decode cX11_throwOut 59 = .ok (.iload_n 3, 1) := by decide +kernel
theorem dX11_throwOut_60 : decode cX11_throwOut 60 = .ok (.ireturn, 1) := by decide +kernel
theorem dX11_placesOf_0 : decode cX11_placesOf 0 = .ok (.iconst 0, 1) := by decide +kernel
theorem dX11_placesOf_1 : decode cX11_placesOf 1 = .ok (.istore_n 2, 1) := by decide +kernel
theorem dX11_placesOf_2 : decode cX11_placesOf 2 = .ok (.iconst 0, 1) := by decide +kernel
theorem dX11_placesOf_3 : decode cX11_placesOf 3 = .ok (.istore_n 3, 1) := by decide +kernel
theorem dX11_placesOf_4 : decode cX11_placesOf 4 = .ok (.iload_n 3, 1) := by decide +kernel
theorem dX11_placesOf_5 : decode cX11_placesOf 5 = .ok (.aload_n 0, 1) := by decide +kernel
theorem dX11_placesOf_6 : decode cX11_placesOf 6 = .ok (.getfield 7, 3) := by decide +kernel
theorem dX11_placesOf_9 : decode cX11_placesOf 9 = .ok (.iconst 5, 1) := by decide +kernel
theorem dX11_placesOf_10 : decode cX11_placesOf 10 = .ok (.iload_n 1, 1) := by decide +kernel
theorem dX11_placesOf_11 : decode cX11_placesOf 11 = .ok (.iadd, 1) := by decide +kernel
theorem dX11_placesOf_12 : decode cX11_placesOf 12 = .ok (.iaload, 1) := by decide +kernel
theorem dX11_placesOf_13 : decode cX11_placesOf 13 = .ok (.if_icmp .ge 27, 3) := by decide +kernel
theorem dX11_placesOf_16 : decode cX11_placesOf 16 = .ok (.iload_n 2, 1) := by decide +kernel
theorem dX11_placesOf_17 : decode cX11_placesOf 17 = .ok (.aload_n 0, 1) := by decide +kernel
theorem dX11_placesOf_18 : decode cX11_placesOf 18 = .ok (.iload_n 1, 1) := by decide +kernel
theorem dX11_placesOf_19 : decode cX11_placesOf 19 = .ok (.iload_n 3, 1) := by decide +kernel
theorem dX11_placesOf_20 : decode cX11_placesOf 20 = .ok (.invokevirtual 177, 3) := by decide +kernel
theorem dX11_placesOf_23 : decode cX11_placesOf 23 = .ok (.iconst 2, 1) := by decide +kernel
theorem dX11_placesOf_24 : decode cX11_placesOf 24 = .ok (.if_icmp .ne 7, 3) := by decide +kernel
theorem dX11_placesOf_27 : decode cX11_placesOf 27 = .ok (.iconst 0, 1) := by decide +kernel
theorem dX11_placesOf_28 : decode cX11_placesOf 28 = .ok (.goto 4, 3) := by decide +kernel
theorem dX11_placesOf_31 : decode cX11_placesOf 31 = .ok (.iconst 1, 1) := by decide +kernel
theorem dX11_placesOf_32 : decode cX11_placesOf 32 = .ok (.iadd, 1) := by decide +kernel
theorem dX11_placesOf_33 : decode cX11_placesOf 33 = .ok (.istore_n 2, 1) := by decide +kernel
theorem dX11_placesOf_34 : decode cX11_placesOf 34 = .ok (.iinc 3 1, 3) := by decide +kernel
theorem dX11_placesOf_37 : decode cX11_placesOf 37 = .ok (.goto (-33), 3) := by decide +kernel
theorem dX11_placesOf_40 : decode cX11_placesOf 40 = .ok (.iload_n 2, 1) := by decide +kernel
theorem dX11_placesOf_41 : decode cX11_placesOf 41 = .ok (.ireturn, 1) := by decide +kernel
theorem dX11_count_0 : decode cX11_count 0 = .ok (.iload_n 1, 1) := by decide +kernel
theorem dX11_count_1 : decode cX11_count 1 = .ok (.tableswitch 137 0 7 #[47, 55, 101, 109, 117, 117, 128, 128], 47) := by decide +kernel
theorem dX11_count_48 : decode cX11_count 48 = .ok (.aload_n 0, 1) := by decide +kernel
theorem dX11_count_49 : decode cX11_count 49 = .ok (.getfield 7, 3) := by decide +kernel
theorem dX11_count_52 : decode cX11_count 52 = .ok (.bipush 11, 2) := by decide +kernel
theorem dX11_count_54 : decode cX11_count 54 = .ok (.iaload, 1) := by decide +kernel
theorem dX11_count_55 : decode cX11_count 55 = .ok (.ireturn, 1) := by decide +kernel
theorem dX11_count_56 : decode cX11_count 56 = .ok (.iconst 0, 1) := by decide +kernel
theorem dX11_count_57 : decode cX11_count 57 = .ok (.istore_n 2, 1) := by decide +kernel
theorem dX11_count_58 : decode cX11_count 58 = .ok (.iconst 0, 1) := by decide +kernel
theorem dX11_count_59 : decode cX11_count 59 = .ok (.istore_n 3, 1) := by decide +kernel
theorem dX11_count_60 : decode cX11_count 60 = .ok (.iload_n 3, 1) := by decide +kernel
theorem dX11_count_61 : decode cX11_count 61 = .ok (.aload_n 0, 1) := by decide +kernel
theorem dX11_count_62 : decode cX11_count 62 = .ok (.getfield 7, 3) := by decide +kernel
theorem dX11_count_65 : decode cX11_count 65 = .ok (.bipush 11, 2) := by decide +kernel
theorem dX11_count_67 : decode cX11_count 67 = .ok (.iaload, 1) := by decide +kernel
theorem dX11_count_68 : decode cX11_count 68 = .ok (.if_icmp .ge 32, 3) := by decide +kernel
theorem dX11_count_71 : decode cX11_count 71 = .ok (.iload_n 2, 1) := by decide +kernel
theorem dX11_count_72 : decode cX11_count 72 = .ok (.aload_n 0, 1) := by decide +kernel
theorem dX11_count_73 : decode cX11_count 73 = .ok (.getfield 7, 3) := by decide +kernel
theorem dX11_count_76 : decode cX11_count 76 = .ok (.aload_n 0, 1) := by decide +kernel
theorem dX11_count_77 : decode cX11_count 77 = .ok (.iload_n 3, 1) := by decide +kernel
theorem dX11_count_78 : decode cX11_count 78 = .ok (.invokevirtual 154, 3) := by decide +kernel
theorem dX11_count_81 : decode cX11_count 81 = .ok (.iconst 5, 1) := by decide +kernel
theorem dX11_count_82 : decode cX11_count 82 = .ok (.iadd, 1) := by decide +kernel
theorem dX11_count_83 : decode cX11_count 83 = .ok (.iaload, 1) := by decide +kernel
theorem dX11_count_84 : decode cX11_count 84 = .ok (.ifCond .le 7, 3) := by decide +kernel
theorem dX11_count_87 : decode cX11_count 87 = .ok (.iconst 1, 1) := by decide +kernel
theorem dX11_count_88 : decode cX11_count 88 = .ok (.goto 4, 3) := by decide +kernel
theorem dX11_count_91 : decode cX11_count 91 = .ok (.iconst 0, 1) := by decide +kernel
theorem dX11_count_92 : decode cX11_count 92 = .ok (.iadd, 1) := by decide +kernel
theorem dX11_count_93 : decode cX11_count 93 = .ok (.istore_n 2, 1) := by decide +kernel
theorem dX11_count_94 : decode cX11_count 94 = .ok (.iinc 3 1, 3) := by decide +kernel
theorem dX11_count_97 : decode cX11_count 97 = .ok (.goto (-37), 3) := by decide +kernel
theorem dX11_count_100 : decode cX11_count 100 = .ok (.iload_n 2, 1) := by decide +kernel
theorem dX11_count_101 : decode cX11_count 101 = .ok (.ireturn, 1) := by decide +kernel
theorem dX11_count_102 : decode cX11_count 102 = .ok (.aload_n 0, 1) := by decide +kernel
theorem dX11_count_103 : decode cX11_count 103 = .ok (.getfield 7, 3) := by decide +kernel
theorem dX11_count_106 : decode cX11_count 106 = .ok (.bipush 12, 2) := by decide +kernel
theorem dX11_count_108 : decode cX11_count 108 = .ok (.iaload, 1) := by decide +kernel
theorem dX11_count_109 : decode cX11_count 109 = .ok (.ireturn, 1) := by decide +kernel
theorem dX11_count_110 : decode cX11_count 110 = .ok (.aload_n 0, 1) := by decide +kernel
theorem dX11_count_111 : decode cX11_count 111 = .ok (.getfield 7, 3) := by decide +kernel
theorem dX11_count_114 : decode cX11_count 114 = .ok (.bipush 13, 2) := by decide +kernel
theorem dX11_count_116 : decode cX11_count 116 = .ok (.iaload, 1) := by decide +kernel
theorem dX11_count_117 : decode cX11_count 117 = .ok (.ireturn, 1) := by decide +kernel
theorem dX11_count_118 : decode cX11_count 118 = .ok (.aload_n 0, 1) := by decide +kernel
theorem dX11_count_119 : decode cX11_count 119 = .ok (.getfield 7, 3) := by decide +kernel
theorem dX11_count_122 : decode cX11_count 122 = .ok (.iconst 5, 1) := by decide +kernel
theorem dX11_count_123 : decode cX11_count 123 = .ok (.iload_n 1, 1) := by decide +kernel
theorem dX11_count_124 : decode cX11_count 124 = .ok (.iadd, 1) := by decide +kernel
theorem dX11_count_125 : decode cX11_count 125 = .ok (.iconst 4, 1) := by decide +kernel
theorem dX11_count_126 : decode cX11_count 126 = .ok (.isub, 1) := by decide +kernel
theorem dX11_count_127 : decode cX11_count 127 = .ok (.iaload, 1) := by decide +kernel
theorem dX11_count_128 : decode cX11_count 128 = .ok (.ireturn, 1) := by decide +kernel
theorem dX11_count_129 : decode cX11_count 129 = .ok (.aload_n 0, 1) := by decide +kernel
theorem dX11_count_130 : decode cX11_count 130 = .ok (.iload_n 1, 1) := by decide +kernel
theorem dX11_count_131 : decode cX11_count 131 = .ok (.bipush 6, 2) := by decide +kernel
theorem dX11_count_133 : decode cX11_count 133 = .ok (.isub, 1) := by decide +kernel
theorem dX11_count_134 : decode cX11_count 134 = .ok (.invokevirtual 189, 3) := by decide +kernel
theorem dX11_count_137 : decode cX11_count 137 = .ok (.ireturn, 1) := by decide +kernel
theorem dX11_count_138 : decode cX11_count 138 = .ok (.iconst (-1), 1) := by decide +kernel
theorem dX11_count_139 : decode cX11_count 139 = .ok (.ireturn, 1) := by decide +kernel
theorem dX11_ways_0 : decode cX11_ways 0 = .ok (.iload_n 1, 1) := by decide +kernel
theorem dX11_ways_1 : decode cX11_ways 1 = .ok (.invokestatic 160, 3) := by decide +kernel
theorem dX11_ways_4 : decode cX11_ways 4 = .ok (.ifCond .ne 7, 3) := by decide +kernel
theorem dX11_ways_7 : decode cX11_ways 7 = .ok (.ldc2_w 236, 3) := by decide +kernel
theorem dX11_ways_10 : decode cX11_ways 10 = .ok (.lreturn, 1) := by decide +kernel
theorem dX11_ways_11 : decode cX11_ways 11 = .ok (.aload_n 0, 1) := by decide +kernel
theorem dX11_ways_12 : decode cX11_ways 12 = .ok (.iload_n 1, 1) := by decide +kernel
theorem dX11_ways_13 : decode cX11_ways 13 = .ok (.invokevirtual 189, 3) := by decide +kernel
theorem dX11_ways_16 : decode cX11_ways 16 = .ok (.ifCond .ne 7, 3) := by decide +kernel
theorem dX11_ways_19 : decode cX11_ways 19 = .ok (.ldc2_w 238, 3) := by decide +kernel
theorem dX11_ways_22 : decode cX11_ways 22 = .ok (.lreturn, 1) := by decide +kernel
theorem dX11_ways_23 : decode cX11_ways 23 = .ok (.aload_n 0, 1) := by decide +kernel
theorem dX11_ways_24 : decode cX11_ways 24 = .ok (.iload_n 1, 1) := by decide +kernel
theorem dX11_ways_25 : decode cX11_ways 25 = .ok (.invokevirtual 240, 3) := by decide +kernel
theorem dX11_ways_28 : decode cX11_ways 28 = .ok (.aload_n 0, 1) := by decide +kernel
theorem dX11_ways_29 : decode cX11_ways 29 = .ok (.getfield 217, 3) := by decide +kernel
theorem dX11_ways_32 : decode cX11_ways 32 = .ok (.lreturn, 1) := by decide +kernel
theorem dX11_lacksWays_0 : decode cX11_lacksWays 0 = .ok (.iload_n 1, 1) := by decide +kernel
theorem dX11_lacksWays_1 : decode cX11_lacksWays 1 = .ok (.invokestatic 160, 3) := by decide +kernel
theorem dX11_lacksWays_4 : decode cX11_lacksWays 4 = .ok (.ifCond .eq 12, 3) := by decide +kernel
theorem dX11_lacksWays_7 : decode cX11_lacksWays 7 = .ok (.aload_n 0, 1) := by decide +kernel
theorem dX11_lacksWays_8 : decode cX11_lacksWays 8 = .ok (.iload_n 1, 1) := by decide +kernel
theorem dX11_lacksWays_9 : decode cX11_lacksWays 9 = .ok (.iload_n 2, 1) := by decide +kernel
theorem dX11_lacksWays_10 : decode cX11_lacksWays 10 = .ok (.invokevirtual 174, 3) := by decide +kernel
theorem dX11_lacksWays_13 : decode cX11_lacksWays 13 = .ok (.ifCond .ne 5, 3) := by decide +kernel
theorem dX11_lacksWays_16 : decode cX11_lacksWays 16 = .ok (.iconst (-1), 1) := by decide +kernel
theorem dX11_lacksWays_17 : decode cX11_lacksWays 17 = .ok (.ireturn, 1) := by decide +kernel
theorem dX11_lacksWays_18 : decode cX11_lacksWays 18 = .ok (.aload_n 0, 1) := by decide +kernel
theorem dX11_lacksWays_19 : decode cX11_lacksWays 19 = .ok (.iload_n 1, 1) := by decide +kernel
theorem dX11_lacksWays_20 : decode cX11_lacksWays 20 = .ok (.iload_n 2, 1) := by decide +kernel
theorem dX11_lacksWays_21 : decode cX11_lacksWays 21 = .ok (.invokevirtual 177, 3) := by decide +kernel
theorem dX11_lacksWays_24 : decode cX11_lacksWays 24 = .ok (.iconst 2, 1) := by decide +kernel
theorem dX11_lacksWays_25 : decode cX11_lacksWays 25 = .ok (.if_icmp .ne 6, 3) := by decide +kernel
theorem dX11_lacksWays_28 : decode cX11_lacksWays 28 = .ok (.bipush (-12), 2) := by decide +kernel
theorem dX11_lacksWays_30 : decode cX11_lacksWays 30 = .ok (.ireturn, 1) := by decide +kernel
theorem dX11_lacksWays_31 : decode cX11_lacksWays 31 = .ok (.aload_n 0, 1) := by decide +kernel
theorem dX11_lacksWays_32 : decode cX11_lacksWays 32 = .ok (.iload_n 1, 1) := by decide +kernel
theorem dX11_lacksWays_33 : decode cX11_lacksWays 33 = .ok (.invokevirtual 240, 3) := by decide +kernel
theorem dX11_lacksWays_36 : decode cX11_lacksWays 36 = .ok (.aload_n 0, 1) := by decide +kernel
theorem dX11_lacksWays_37 : decode cX11_lacksWays 37 = .ok (.getfield 217, 3) := by decide +kernel
theorem dX11_lacksWays_40 : decode cX11_lacksWays 40 = .ok (.lconst 0, 1) := by decide +kernel
theorem dX11_lacksWays_41 : decode cX11_lacksWays 41 = .ok (.lcmp, 1) := by decide +kernel
theorem dX11_lacksWays_42 : decode cX11_lacksWays 42 = .ok (.ifCond .ne 8, 3) := by decide +kernel
theorem dX11_lacksWays_45 : decode cX11_lacksWays 45 = .ok (.bipush (-4), 2) := by decide +kernel
theorem dX11_lacksWays_47 : decode cX11_lacksWays 47 = .ok (.goto 4, 3) := by decide +kernel
theorem dX11_lacksWays_50 : decode cX11_lacksWays 50 = .ok (.iconst 0, 1) := by decide +kernel
theorem dX11_lacksWays_51 : decode cX11_lacksWays 51 = .ok (.ireturn, 1) := by decide +kernel
theorem dX11_ends_0 : decode cX11_ends 0 = .ok (.iload_n 3, 1) := by decide +kernel
theorem dX11_ends_1 : decode cX11_ends 1 = .ok (.i2l, 1) := by decide +kernel
theorem dX11_ends_2 : decode cX11_ends 2 = .ok (.lconst 0, 1) := by decide +kernel
theorem dX11_ends_3 : decode cX11_ends 3 = .ok (.lconst 1, 1) := by decide +kernel
theorem dX11_ends_4 : decode cX11_ends 4 = .ok (.invokestatic 70, 3) := by decide +kernel
theorem dX11_ends_7 : decode cX11_ends 7 = .ok (.ifCond .ne 5, 3) := by decide +kernel
theorem dX11_ends_10 : decode cX11_ends 10 = .ok (.iconst (-1), 1) := by decide +kernel
theorem dX11_ends_11 : decode cX11_ends 11 = .ok (.ireturn, 1) := by decide +kernel
theorem dX11_ends_12 : decode cX11_ends 12 = .ok (.aload_n 0, 1) := by decide +kernel
theorem dX11_ends_13 : decode cX11_ends 13 = .ok (.iload_n 1, 1) := by decide +kernel
theorem dX11_ends_14 : decode cX11_ends 14 = .ok (.iload_n 2, 1) := by decide +kernel
theorem dX11_ends_15 : decode cX11_ends 15 = .ok (.invokevirtual 247, 3) := by decide +kernel
theorem dX11_ends_18 : decode cX11_ends 18 = .ok (.istore 4, 2) := by decide +kernel
theorem dX11_ends_20 : decode cX11_ends 20 = .ok (.iload 4, 2) := by decide +kernel
theorem dX11_ends_22 : decode cX11_ends 22 = .ok (.ifCond .ge 8, 3) := by decide +kernel
theorem dX11_ends_25 : decode cX11_ends 25 = .ok (.iload 4, 2) := by decide +kernel
theorem dX11_ends_27 : decode cX11_ends 27 = .ok (.goto 13, 3) := by decide +kernel
theorem dX11_ends_30 : decode cX11_ends 30 = .ok (.aload_n 0, 1) := by decide +kernel
theorem dX11_ends_31 : decode cX11_ends 31 = .ok (.aload_n 0, 1) := by decide +kernel
theorem dX11_ends_32 : decode cX11_ends 32 = .ok (.iload_n 2, 1) := by decide +kernel
theorem dX11_ends_33 : decode cX11_ends 33 = .ok (.invokevirtual 206, 3) := by decide +kernel
theorem dX11_ends_36 : decode cX11_ends 36 = .ok (.iload_n 3, 1) := by decide +kernel
theorem dX11_ends_37 : decode cX11_ends 37 = .ok (.invokevirtual 250, 3) := by decide +kernel
theorem dX11_ends_40 : decode cX11_ends 40 = .ok (.ireturn, 1) := by decide +kernel
theorem dX11_odds_0 : decode cX11_odds 0 = .ok (.iload_n 3, 1) := by decide +kernel
theorem dX11_odds_1 : decode cX11_odds 1 = .ok (.invokestatic 80, 3) := by decide +kernel
theorem dX11_odds_4 : decode cX11_odds 4 = .ok (.ifCond .eq 14, 3) := by decide +kernel
theorem dX11_odds_7 : decode cX11_odds 7 = .ok (.iload 4, 2) := by decide +kernel
theorem dX11_odds_9 : decode cX11_odds 9 = .ok (.i2l, 1) := by decide +kernel
theorem dX11_odds_10 : decode cX11_odds 10 = .ok (.lconst 0, 1) := by decide +kernel
theorem dX11_odds_11 : decode cX11_odds 11 = .ok (.lconst 1, 1) := by decide +kernel
theorem dX11_odds_12 : decode cX11_odds 12 = .ok (.invokestatic 70, 3) := by decide +kernel
theorem dX11_odds_15 : decode cX11_odds 15 = .ok (.ifCond .ne 7, 3) := by decide +kernel
theorem dX11_odds_18 : decode cX11_odds 18 = .ok (.ldc2_w 236, 3) := by decide +kernel
theorem dX11_odds_21 : decode cX11_odds 21 = .ok (.lreturn, 1) := by decide +kernel
theorem dX11_odds_22 : decode cX11_odds 22 = .ok (.aload_n 0, 1) := by decide +kernel
theorem dX11_odds_23 : decode cX11_odds 23 = .ok (.iload_n 1, 1) := by decide +kernel
theorem dX11_odds_24 : decode cX11_odds 24 = .ok (.iload_n 2, 1) := by decide +kernel
theorem dX11_odds_25 : decode cX11_odds 25 = .ok (.invokevirtual 247, 3) := by decide +kernel
theorem dX11_odds_28 : decode cX11_odds 28 = .ok (.istore 5, 2) := by decide +kernel
theorem dX11_odds_30 : decode cX11_odds 30 = .ok (.iload 5, 2) := by decide +kernel
theorem dX11_odds_32 : decode cX11_odds 32 = .ok (.ifCond .ge 9, 3) := by decide +kernel
theorem dX11_odds_35 : decode cX11_odds 35 = .ok (.iload 5, 2) := by decide +kernel
theorem dX11_odds_37 : decode cX11_odds 37 = .ok (.i2l, 1) := by decide +kernel
theorem dX11_odds_38 : decode cX11_odds 38 = .ok (.goto 22, 3) := by decide +kernel
theorem dX11_odds_41 : decode cX11_odds 41 = .ok (.aload_n 0, 1) := by decide +kernel
theorem dX11_odds_42 : decode cX11_odds 42 = .ok (.aload_n 0, 1) := by decide +kernel
theorem dX11_odds_43 : decode cX11_odds 43 = .ok (.iload_n 2, 1) := by decide +kernel
theorem dX11_odds_44 : decode cX11_odds 44 = .ok (.invokevirtual 206, 3) := by decide +kernel
theorem dX11_odds_47 : decode cX11_odds 47 = .ok (.iload_n 3, 1) := by decide +kernel
theorem dX11_odds_48 : decode cX11_odds 48 = .ok (.invokevirtual 243, 3) := by decide +kernel
theorem dX11_odds_51 : decode cX11_odds 51 = .ok (.aload_n 0, 1) := by decide +kernel
theorem dX11_odds_52 : decode cX11_odds 52 = .ok (.getfield 217, 3) := by decide +kernel
theorem dX11_odds_55 : decode cX11_odds 55 = .ok (.iload 4, 2) := by decide +kernel
theorem dX11_odds_57 : decode cX11_odds 57 = .ok (.invokestatic 257, 3) := by decide +kernel
theorem dX11_odds_60 : decode cX11_odds 60 = .ok (.lreturn, 1) := by decide +kernel
theorem dX11_lacksTwo_0 : decode cX11_lacksTwo 0 = .ok (.iload_n 1, 1) := by decide +kernel
theorem dX11_lacksTwo_1 : decode cX11_lacksTwo 1 = .ok (.invokestatic 160, 3) := by decide +kernel
theorem dX11_lacksTwo_4 : decode cX11_lacksTwo 4 = .ok (.ifCond .eq 26, 3) := by decide +kernel
theorem dX11_lacksTwo_7 : decode cX11_lacksTwo 7 = .ok (.aload_n 0, 1) := by decide +kernel
theorem dX11_lacksTwo_8 : decode cX11_lacksTwo 8 = .ok (.iload_n 1, 1) := by decide +kernel
theorem dX11_lacksTwo_9 : decode cX11_lacksTwo 9 = .ok (.iload_n 2, 1) := by decide +kernel
theorem dX11_lacksTwo_10 : decode cX11_lacksTwo 10 = .ok (.invokevirtual 174, 3) := by decide +kernel
theorem dX11_lacksTwo_13 : decode cX11_lacksTwo 13 = .ok (.ifCond .eq 17, 3) := by decide +kernel
theorem dX11_lacksTwo_16 : decode cX11_lacksTwo 16 = .ok (.aload_n 0, 1) := by decide +kernel
theorem dX11_lacksTwo_17 : decode cX11_lacksTwo 17 = .ok (.iload_n 1, 1) := by decide +kernel
theorem dX11_lacksTwo_18 : decode cX11_lacksTwo 18 = .ok (.iload_n 3, 1) := by decide +kernel
theorem dX11_lacksTwo_19 : decode cX11_lacksTwo 19 = .ok (.invokevirtual 174, 3) := by decide +kernel
theorem dX11_lacksTwo_22 : decode cX11_lacksTwo 22 = .ok (.ifCond .eq 8, 3) := by decide +kernel
theorem dX11_lacksTwo_25 : decode cX11_lacksTwo 25 = .ok (.iload_n 3, 1) := by decide +kernel
theorem dX11_lacksTwo_26 : decode cX11_lacksTwo 26 = .ok (.iload_n 2, 1) := by decide +kernel
theorem dX11_lacksTwo_27 : decode cX11_lacksTwo 27 = .ok (.if_icmp .gt 5, 3) := by decide +kernel
theorem dX11_lacksTwo_30 : decode cX11_lacksTwo 30 = .ok (.iconst (-1), 1) := by decide +kernel
theorem dX11_lacksTwo_31 : decode cX11_lacksTwo 31 = .ok (.ireturn, 1) := by decide +kernel
theorem dX11_lacksTwo_32 : decode cX11_lacksTwo 32 = .ok (.aload_n 0, 1) := by decide +kernel
theorem dX11_lacksTwo_33 : decode cX11_lacksTwo 33 = .ok (.iload_n 1, 1) := by decide +kernel
theorem dX11_lacksTwo_34 : decode cX11_lacksTwo 34 = .ok (.iload_n 2, 1) := by decide +kernel
theorem dX11_lacksTwo_35 : decode cX11_lacksTwo 35 = .ok (.invokevirtual 177, 3) := by decide +kernel
theorem dX11_lacksTwo_38 : decode cX11_lacksTwo 38 = .ok (.iconst 2, 1) := by decide +kernel
theorem dX11_lacksTwo_39 : decode cX11_lacksTwo 39 = .ok (.if_icmp .eq 13, 3) := by decide +kernel
theorem dX11_lacksTwo_42 : decode cX11_lacksTwo 42 = .ok (.aload_n 0, 1) := by decide +kernel
theorem dX11_lacksTwo_43 : decode cX11_lacksTwo 43 = .ok (.iload_n 1, 1) := by decide +kernel
theorem dX11_lacksTwo_44 : decode cX11_lacksTwo 44 = .ok (.iload_n 3, 1) := by decide +kernel
theorem dX11_lacksTwo_45 : decode cX11_lacksTwo 45 = .ok (.invokevirtual 177, 3) := by decide +kernel
theorem dX11_lacksTwo_48 : decode cX11_lacksTwo 48 = .ok (.iconst 2, 1) := by decide +kernel
theorem dX11_lacksTwo_49 : decode cX11_lacksTwo 49 = .ok (.if_icmp .ne 6, 3) := by decide +kernel
theorem dX11_lacksTwo_52 : decode cX11_lacksTwo 52 = .ok (.bipush (-12), 2) := by decide +kernel
theorem dX11_lacksTwo_54 : decode cX11_lacksTwo 54 = .ok (.ireturn, 1) := by decide +kernel
theorem dX11_lacksTwo_55 : decode cX11_lacksTwo 55 = .ok (.aload_n 0, 1) := by decide +kernel
theorem dX11_lacksTwo_56 : decode cX11_lacksTwo 56 = .ok (.iload_n 1, 1) := by decide +kernel
theorem dX11_lacksTwo_57 : decode cX11_lacksTwo 57 = .ok (.invokevirtual 240, 3) := by decide +kernel
theorem dX11_lacksTwo_60 : decode cX11_lacksTwo 60 = .ok (.aload_n 0, 1) := by decide +kernel
theorem dX11_lacksTwo_61 : decode cX11_lacksTwo 61 = .ok (.getfield 217, 3) := by decide +kernel
theorem dX11_lacksTwo_64 : decode cX11_lacksTwo 64 = .ok (.lconst 0, 1) := by decide +kernel
theorem dX11_lacksTwo_65 : decode cX11_lacksTwo 65 = .ok (.lcmp, 1) := by decide +kernel
theorem dX11_lacksTwo_66 : decode cX11_lacksTwo 66 = .ok (.ifCond .ne 8, 3) := by decide +kernel
theorem dX11_lacksTwo_69 : decode cX11_lacksTwo 69 = .ok (.bipush (-4), 2) := by decide +kernel
theorem dX11_lacksTwo_71 : decode cX11_lacksTwo 71 = .ok (.goto 4, 3) := by decide +kernel
theorem dX11_lacksTwo_74 : decode cX11_lacksTwo 74 = .ok (.iconst 0, 1) := by decide +kernel
theorem dX11_lacksTwo_75 : decode cX11_lacksTwo 75 = .ok (.ireturn, 1) := by decide +kernel
theorem dX11_span_0 : decode cX11_span 0 = .ok (.iload 4, 2) := by decide +kernel
theorem dX11_span_2 : decode cX11_span 2 = .ok (.i2l, 1) := by decide +kernel
theorem dX11_span_3 : decode cX11_span 3 = .ok (.lconst 0, 1) := by decide +kernel
theorem dX11_span_4 : decode cX11_span 4 = .ok (.lconst 1, 1) := by decide +kernel
theorem dX11_span_5 : decode cX11_span 5 = .ok (.invokestatic 70, 3) := by decide +kernel
theorem dX11_span_8 : decode cX11_span 8 = .ok (.ifCond .ne 5, 3) := by decide +kernel
theorem dX11_span_11 : decode cX11_span 11 = .ok (.iconst (-1), 1) := by decide +kernel
theorem dX11_span_12 : decode cX11_span 12 = .ok (.ireturn, 1) := by decide +kernel
theorem dX11_span_13 : decode cX11_span 13 = .ok (.aload_n 0, 1) := by decide +kernel
theorem dX11_span_14 : decode cX11_span 14 = .ok (.iload_n 1, 1) := by decide +kernel
theorem dX11_span_15 : decode cX11_span 15 = .ok (.iload_n 2, 1) := by decide +kernel
theorem dX11_span_16 : decode cX11_span 16 = .ok (.iload_n 3, 1) := by decide +kernel
theorem dX11_span_17 : decode cX11_span 17 = .ok (.invokevirtual 261, 3) := by decide +kernel
theorem dX11_span_20 : decode cX11_span 20 = .ok (.istore 5, 2) := by decide +kernel
theorem dX11_span_22 : decode cX11_span 22 = .ok (.iload 5, 2) := by decide +kernel
theorem dX11_span_24 : decode cX11_span 24 = .ok (.ifCond .ge 6, 3) := by decide +kernel
theorem dX11_span_27 : decode cX11_span 27 = .ok (.iload 5, 2) := by decide +kernel
theorem dX11_span_29 : decode cX11_span 29 = .ok (.ireturn, 1) := by decide +kernel
theorem dX11_span_30 : decode cX11_span 30 = .ok (.aload_n 0, 1) := by decide +kernel
theorem dX11_span_31 : decode cX11_span 31 = .ok (.aload_n 0, 1) := by decide +kernel
theorem dX11_span_32 : decode cX11_span 32 = .ok (.iload_n 2, 1) := by decide +kernel
theorem dX11_span_33 : decode cX11_span 33 = .ok (.invokevirtual 206, 3) := by decide +kernel
theorem dX11_span_36 : decode cX11_span 36 = .ok (.aload_n 0, 1) := by decide +kernel
theorem dX11_span_37 : decode cX11_span 37 = .ok (.iload_n 3, 1) := by decide +kernel
theorem dX11_span_38 : decode cX11_span 38 = .ok (.invokevirtual 206, 3) := by decide +kernel
theorem dX11_span_41 : decode cX11_span 41 = .ok (.invokevirtual 264, 3) := by decide +kernel
theorem dX11_span_44 : decode cX11_span 44 = .ok (.bipush (-4), 2) := by decide +kernel
theorem dX11_span_46 : decode cX11_span 46 = .ok (.istore 6, 2) := by decide +kernel
theorem dX11_span_48 : decode cX11_span 48 = .ok (.iconst 0, 1) := by decide +kernel
theorem dX11_span_49 : decode cX11_span 49 = .ok (.istore 7, 2) := by decide +kernel
theorem dX11_span_51 : decode cX11_span 51 = .ok (.iload 7, 2) := by decide +kernel
theorem dX11_span_53 : decode cX11_span 53 = .ok (.bipush 24, 2) := by decide +kernel
theorem dX11_span_55 : decode cX11_span 55 = .ok (.if_icmp .ge 47, 3) := by decide +kernel
theorem dX11_span_58 : decode cX11_span 58 = .ok (.iload 4, 2) := by decide +kernel
theorem dX11_span_60 : decode cX11_span 60 = .ok (.ifCond .ne 11, 3) := by decide +kernel
theorem dX11_span_63 : decode cX11_span 63 = .ok (.bipush 23, 2) := by decide +kernel
theorem dX11_span_65 : decode cX11_span 65 = .ok (.iload 7, 2) := by decide +kernel
theorem dX11_span_67 : decode cX11_span 67 = .ok (.isub, 1) := by decide +kernel
theorem dX11_span_68 : decode cX11_span 68 = .ok (.goto 5, 3) := by decide +kernel
theorem dX11_span_71 : decode cX11_span 71 = .ok (.iload 7, 2) := by decide +kernel
theorem dX11_span_73 : decode cX11_span 73 = .ok (.istore 8, 2) := by decide +kernel
theorem dX11_span_75 : decode cX11_span 75 = .ok (.aload_n 0, 1) := by decide +kernel
theorem dX11_span_76 : decode cX11_span 76 = .ok (.getfield 41, 3) := by decide +kernel
theorem dX11_span_79 : decode cX11_span 79 = .ok (.iload 8, 2) := by decide +kernel
theorem dX11_span_81 : decode cX11_span 81 = .ok (.laload, 1) := by decide +kernel
theorem dX11_span_82 : decode cX11_span 82 = .ok (.lconst 0, 1) := by decide +kernel
theorem dX11_span_83 : decode cX11_span 83 = .ok (.lcmp, 1) := by decide +kernel
theorem dX11_span_84 : decode cX11_span 84 = .ok (.ifCond .le 8, 3) := by decide +kernel
theorem dX11_span_87 : decode cX11_span 87 = .ok (.iload 8, 2) := by decide +kernel
theorem dX11_span_89 : decode cX11_span 89 = .ok (.goto 5, 3) := by decide +kernel
theorem dX11_span_92 : decode cX11_span 92 = .ok (.iload 6, 2) := by decide +kernel
theorem dX11_span_94 : decode cX11_span 94 = .ok (.istore 6, 2) := by decide +kernel
theorem dX11_span_96 : decode cX11_span 96 = .ok (.iinc 7 1, 3) := by decide +kernel
theorem dX11_span_99 : decode cX11_span 99 = .ok (.goto (-48), 3) := by decide +kernel
theorem dX11_span_102 : decode cX11_span 102 = .ok (.iload 6, 2) := by decide +kernel
theorem dX11_span_104 : decode cX11_span 104 = .ok (.ireturn, 1) := by decide +kernel
theorem dX11_apart_0 : decode cX11_apart 0 = .ok (.iload 4, 2) := by decide +kernel
theorem dX11_apart_2 : decode cX11_apart 2 = .ok (.invokestatic 80, 3) := by decide +kernel
theorem dX11_apart_5 : decode cX11_apart 5 = .ok (.ifCond .eq 14, 3) := by decide +kernel
theorem dX11_apart_8 : decode cX11_apart 8 = .ok (.iload 5, 2) := by decide +kernel
theorem dX11_apart_10 : decode cX11_apart 10 = .ok (.i2l, 1) := by decide +kernel
theorem dX11_apart_11 : decode cX11_apart 11 = .ok (.lconst 0, 1) := by decide +kernel
theorem dX11_apart_12 : decode cX11_apart 12 = .ok (.lconst 1, 1) := by decide +kernel
theorem dX11_apart_13 : decode cX11_apart 13 = .ok (.invokestatic 70, 3) := by decide +kernel
theorem dX11_apart_16 : decode cX11_apart 16 = .ok (.ifCond .ne 7, 3) := by decide +kernel
theorem dX11_apart_19 : decode cX11_apart 19 = .ok (.ldc2_w 236, 3) := by decide +kernel
theorem dX11_apart_22 : decode cX11_apart 22 = .ok (.lreturn, 1) := by decide +kernel
theorem dX11_apart_23 : decode cX11_apart 23 = .ok (.aload_n 0, 1) := by decide +kernel
theorem dX11_apart_24 : decode cX11_apart 24 = .ok (.iload_n 1, 1) := by decide +kernel
theorem dX11_apart_25 : decode cX11_apart 25 = .ok (.iload_n 2, 1) := by decide +kernel
theorem dX11_apart_26 : decode cX11_apart 26 = .ok (.iload_n 3, 1) := by decide +kernel
theorem dX11_apart_27 : decode cX11_apart 27 = .ok (.invokevirtual 261, 3) := by decide +kernel
theorem dX11_apart_30 : decode cX11_apart 30 = .ok (.istore 6, 2) := by decide +kernel
theorem dX11_apart_32 : decode cX11_apart 32 = .ok (.iload 6, 2) := by decide +kernel
theorem dX11_apart_34 : decode cX11_apart 34 = .ok (.ifCond .ge 7, 3) := by decide +kernel
theorem dX11_apart_37 : decode cX11_apart 37 = .ok (.iload 6, 2) := by decide +kernel
theorem dX11_apart_39 : decode cX11_apart 39 = .ok (.i2l, 1) := by decide +kernel
theorem dX11_apart_40 : decode cX11_apart 40 = .ok (.lreturn, 1) := by decide +kernel
theorem dX11_apart_41 : decode cX11_apart 41 = .ok (.aload_n 0, 1) := by decide +kernel
theorem dX11_apart_42 : decode cX11_apart 42 = .ok (.aload_n 0, 1) := by decide +kernel
theorem dX11_apart_43 : decode cX11_apart 43 = .ok (.iload_n 2, 1) := by decide +kernel
theorem dX11_apart_44 : decode cX11_apart 44 = .ok (.invokevirtual 206, 3) := by decide +kernel
theorem dX11_apart_47 : decode cX11_apart 47 = .ok (.aload_n 0, 1) := by decide +kernel
theorem dX11_apart_48 : decode cX11_apart 48 = .ok (.iload_n 3, 1) := by decide +kernel
theorem dX11_apart_49 : decode cX11_apart 49 = .ok (.invokevirtual 206, 3) := by decide +kernel
theorem dX11_apart_52 : decode cX11_apart 52 = .ok (.invokevirtual 264, 3) := by decide +kernel
theorem dX11_apart_55 : decode cX11_apart 55 = .ok (.lconst 0, 1) := by decide +kernel
theorem dX11_apart_56 : decode cX11_apart 56 = .ok (.lstore 7, 2) := by decide +kernel
theorem dX11_apart_58 : decode cX11_apart 58 = .ok (.iload 4, 2) := by decide +kernel
theorem dX11_apart_60 : decode cX11_apart 60 = .ok (.istore 9, 2) := by decide +kernel
theorem dX11_apart_62 : decode cX11_apart 62 = .ok (.iload 9, 2) := by decide +kernel
theorem dX11_apart_64 : decode cX11_apart 64 = .ok (.bipush 24, 2) := by decide +kernel
theorem dX11_apart_66 : decode cX11_apart 66 = .ok (.if_icmp .ge 21, 3) := by decide +kernel
theorem dX11_apart_69 : decode cX11_apart 69 = .ok (.lload 7, 2) := by decide +kernel
theorem dX11_apart_71 : decode cX11_apart 71 = .ok (.aload_n 0, 1) := by decide +kernel
theorem dX11_apart_72 : decode cX11_apart 72 = .ok (.getfield 41, 3) := by decide +kernel
theorem dX11_apart_75 : decode cX11_apart 75 = .ok (.iload 9, 2) := by decide +kernel
theorem dX11_apart_77 : decode cX11_apart 77 = .ok (.laload, 1) := by decide +kernel
theorem dX11_apart_78 : decode cX11_apart 78 = .ok (.ladd, 1) := by decide +kernel
theorem dX11_apart_79 : decode cX11_apart 79 = .ok (.lstore 7, 2) := by decide +kernel
theorem dX11_apart_81 : decode cX11_apart 81 = .ok (.iinc 9 1, 3) := by decide +kernel
theorem dX11_apart_84 : decode cX11_apart 84 = .ok (.goto (-22), 3) := by decide +kernel
theorem dX11_apart_87 : decode cX11_apart 87 = .ok (.lload 7, 2) := by decide +kernel
theorem dX11_apart_89 : decode cX11_apart 89 = .ok (.aload_n 0, 1) := by decide +kernel
theorem dX11_apart_90 : decode cX11_apart 90 = .ok (.getfield 217, 3) := by decide +kernel
theorem dX11_apart_93 : decode cX11_apart 93 = .ok (.iload 5, 2) := by decide +kernel
theorem dX11_apart_95 : decode cX11_apart 95 = .ok (.invokestatic 257, 3) := by decide +kernel
theorem dX11_apart_98 : decode cX11_apart 98 = .ok (.lreturn, 1) := by decide +kernel
theorem dX11_lacksAny_0 : decode cX11_lacksAny 0 = .ok (.aload_n 0, 1) := by decide +kernel
theorem dX11_lacksAny_1 : decode cX11_lacksAny 1 = .ok (.iload_n 1, 1) := by decide +kernel
theorem dX11_lacksAny_2 : decode cX11_lacksAny 2 = .ok (.invokevirtual 189, 3) := by decide +kernel
theorem dX11_lacksAny_5 : decode cX11_lacksAny 5 = .ok (.ifCond .ne 6, 3) := by decide +kernel
theorem dX11_lacksAny_8 : decode cX11_lacksAny 8 = .ok (.bipush (-2), 2) := by decide +kernel
theorem dX11_lacksAny_10 : decode cX11_lacksAny 10 = .ok (.ireturn, 1) := by decide +kernel
theorem dX11_lacksAny_11 : decode cX11_lacksAny 11 = .ok (.aload_n 0, 1) := by decide +kernel
theorem dX11_lacksAny_12 : decode cX11_lacksAny 12 = .ok (.iload_n 1, 1) := by decide +kernel
theorem dX11_lacksAny_13 : decode cX11_lacksAny 13 = .ok (.invokevirtual 240, 3) := by decide +kernel
theorem dX11_lacksAny_16 : decode cX11_lacksAny 16 = .ok (.aload_n 0, 1) := by decide +kernel
theorem dX11_lacksAny_17 : decode cX11_lacksAny 17 = .ok (.getfield 217, 3) := by decide +kernel
theorem dX11_lacksAny_20 : decode cX11_lacksAny 20 = .ok (.lconst 0, 1) := by decide +kernel
theorem dX11_lacksAny_21 : decode cX11_lacksAny 21 = .ok (.lcmp, 1) := by decide +kernel
theorem dX11_lacksAny_22 : decode cX11_lacksAny 22 = .ok (.ifCond .ne 8, 3) := by decide +kernel
theorem dX11_lacksAny_25 : decode cX11_lacksAny 25 = .ok (.bipush (-4), 2) := by decide +kernel
theorem dX11_lacksAny_27 : decode cX11_lacksAny 27 = .ok (.goto 4, 3) := by decide +kernel
theorem dX11_lacksAny_30 : decode cX11_lacksAny 30 = .ok (.iconst 0, 1) := by decide +kernel
theorem dX11_lacksAny_31 : decode cX11_lacksAny 31 = .ok (.ireturn, 1) := by decide +kernel
theorem dX11_next_0 : decode cX11_next 0 = .ok (.iload_n 1, 1) := by decide +kernel
theorem dX11_next_1 : decode cX11_next 1 = .ok (.invokestatic 160, 3) := by decide +kernel
theorem dX11_next_4 : decode cX11_next 4 = .ok (.ifCond .eq 13, 3) := by decide +kernel
theorem dX11_next_7 : decode cX11_next 7 = .ok (.iload_n 2, 1) := by decide +kernel
theorem dX11_next_8 : decode cX11_next 8 = .ok (.i2l, 1) := by decide +kernel
theorem dX11_next_9 : decode cX11_next 9 = .ok (.lconst 0, 1) := by decide +kernel
theorem dX11_next_10 : decode cX11_next 10 = .ok (.lconst 1, 1) := by decide +kernel
theorem dX11_next_11 : decode cX11_next 11 = .ok (.invokestatic 70, 3) := by decide +kernel
theorem dX11_next_14 : decode cX11_next 14 = .ok (.ifCond .ne 7, 3) := by decide +kernel
theorem dX11_next_17 : decode cX11_next 17 = .ok (.ldc2_w 236, 3) := by decide +kernel
theorem dX11_next_20 : decode cX11_next 20 = .ok (.lreturn, 1) := by decide +kernel
theorem dX11_next_21 : decode cX11_next 21 = .ok (.aload_n 0, 1) := by decide +kernel
theorem dX11_next_22 : decode cX11_next 22 = .ok (.iload_n 1, 1) := by decide +kernel
theorem dX11_next_23 : decode cX11_next 23 = .ok (.invokevirtual 267, 3) := by decide +kernel
theorem dX11_next_26 : decode cX11_next 26 = .ok (.istore_n 3, 1) := by decide +kernel
theorem dX11_next_27 : decode cX11_next 27 = .ok (.iload_n 3, 1) := by decide +kernel
theorem dX11_next_28 : decode cX11_next 28 = .ok (.ifCond .ge 6, 3) := by decide +kernel
theorem dX11_next_31 : decode cX11_next 31 = .ok (.iload_n 3, 1) := by decide +kernel
theorem dX11_next_32 : decode cX11_next 32 = .ok (.i2l, 1) := by decide +kernel
theorem dX11_next_33 : decode cX11_next 33 = .ok (.lreturn, 1) := by decide +kernel
theorem dX11_next_34 : decode cX11_next 34 = .ok (.iconst 0, 1) := by decide +kernel
theorem dX11_next_35 : decode cX11_next 35 = .ok (.istore 4, 2) := by decide +kernel
theorem dX11_next_37 : decode cX11_next 37 = .ok (.lconst 0, 1) := by decide +kernel
theorem dX11_next_38 : decode cX11_next 38 = .ok (.lstore 5, 2) := by decide +kernel
theorem dX11_next_40 : decode cX11_next 40 = .ok (.iconst 0, 1) := by decide +kernel
theorem dX11_next_41 : decode cX11_next 41 = .ok (.istore 7, 2) := by decide +kernel
theorem dX11_next_43 : decode cX11_next 43 = .ok (.iload 7, 2) := by decide +kernel
theorem dX11_next_45 : decode cX11_next 45 = .ok (.aload_n 0, 1) := by decide +kernel
theorem dX11_next_46 : decode cX11_next 46 = .ok (.getfield 192, 3) := by decide +kernel
theorem dX11_next_49 : decode cX11_next 49 = .ok (.if_icmp .ge 78, 3) := by decide +kernel
theorem dX11_next_52 : decode cX11_next 52 = .ok (.lconst 0, 1) := by decide +kernel
theorem dX11_next_53 : decode cX11_next 53 = .ok (.lstore 8, 2) := by decide +kernel
theorem dX11_next_55 : decode cX11_next 55 = .ok (.iconst 0, 1) := by decide +kernel
theorem dX11_next_56 : decode cX11_next 56 = .ok (.istore 10, 2) := by decide +kernel
theorem dX11_next_58 : decode cX11_next 58 = .ok (.iload 10, 2) := by decide +kernel
theorem dX11_next_60 : decode cX11_next 60 = .ok (.bipush 24, 2) := by decide +kernel
theorem dX11_next_62 : decode cX11_next 62 = .ok (.if_icmp .ge 38, 3) := by decide +kernel
theorem dX11_next_65 : decode cX11_next 65 = .ok (.aload_n 0, 1) := by decide +kernel
theorem dX11_next_66 : decode cX11_next 66 = .ok (.iload 7, 2) := by decide +kernel
theorem dX11_next_68 : decode cX11_next 68 = .ok (.iload 10, 2) := by decide +kernel
theorem dX11_next_70 : decode cX11_next 70 = .ok (.invokevirtual 243, 3) := by decide +kernel
theorem dX11_next_73 : decode cX11_next 73 = .ok (.lload 8, 2) := by decide +kernel
theorem dX11_next_75 : decode cX11_next 75 = .ok (.lcmp, 1) := by decide +kernel
theorem dX11_next_76 : decode cX11_next 76 = .ok (.ifCond .le 14, 3) := by decide +kernel
theorem dX11_next_79 : decode cX11_next 79 = .ok (.aload_n 0, 1) := by decide +kernel
theorem dX11_next_80 : decode cX11_next 80 = .ok (.iload 7, 2) := by decide +kernel
theorem dX11_next_82 : decode cX11_next 82 = .ok (.iload 10, 2) := by decide +kernel
theorem dX11_next_84 : decode cX11_next 84 = .ok (.invokevirtual 243, 3) := by decide +kernel
theorem dX11_next_87 : decode cX11_next 87 = .ok (.goto 5, 3) := by decide +kernel
theorem dX11_next_90 : decode cX11_next 90 = .ok (.lload 8, 2) := by decide +kernel
theorem dX11_next_92 : decode cX11_next 92 = .ok (.lstore 8, 2) := by decide +kernel
theorem dX11_next_94 : decode cX11_next 94 = .ok (.iinc 10 1, 3) := by decide +kernel
theorem dX11_next_97 : decode cX11_next 97 = .ok (.goto (-39), 3) := by decide +kernel
theorem dX11_next_100 : decode cX11_next 100 = .ok (.iload 7, 2) := by decide +kernel
theorem dX11_next_102 : decode cX11_next 102 = .ok (.ifCond .eq 11, 3) := by decide +kernel
theorem dX11_next_105 : decode cX11_next 105 = .ok (.lload 8, 2) := by decide +kernel
theorem dX11_next_107 : decode cX11_next 107 = .ok (.lload 5, 2) := by decide +kernel
theorem dX11_next_109 : decode cX11_next 109 = .ok (.lcmp, 1) := by decide +kernel
theorem dX11_next_110 : decode cX11_next 110 = .ok (.ifCond .ge 11, 3) := by decide +kernel
theorem dX11_next_113 : decode cX11_next 113 = .ok (.iload 7, 2) := by decide +kernel
theorem dX11_next_115 : decode cX11_next 115 = .ok (.istore 4, 2) := by decide +kernel
theorem dX11_next_117 : decode cX11_next 117 = .ok (.lload 8, 2) := by decide +kernel
theorem dX11_next_119 : decode cX11_next 119 = .ok (.lstore 5, 2) := by decide +kernel
theorem dX11_next_121 : decode cX11_next 121 = .ok (.iinc 7 1, 3) := by decide +kernel
theorem dX11_next_124 : decode cX11_next 124 = .ok (.goto (-81), 3) := by decide +kernel
theorem dX11_next_127 : decode cX11_next 127 = .ok (.iload_n 2, 1) := by decide +kernel
theorem dX11_next_128 : decode cX11_next 128 = .ok (.ifCond .ne 14, 3) := by decide +kernel
theorem dX11_next_131 : decode cX11_next 131 = .ok (.aload_n 0, 1) := by decide +kernel
theorem dX11_next_132 : decode cX11_next 132 = .ok (.getfield 19, 3) := by decide +kernel
theorem dX11_next_135 : decode cX11_next 135 = .ok (.iload 4, 2) := by decide +kernel
theorem dX11_next_137 : decode cX11_next 137 = .ok (.iaload, 1) := by decide +kernel
theorem dX11_next_138 : decode cX11_next 138 = .ok (.i2l, 1) := by decide +kernel
theorem dX11_next_139 : decode cX11_next 139 = .ok (.goto 5, 3) := by decide +kernel
theorem dX11_next_142 : decode cX11_next 142 = .ok (.lload 5, 2) := by decide +kernel
theorem dX11_next_144 : decode cX11_next 144 = .ok (.lreturn, 1) := by decide +kernel
theorem dX11_mustGo_0 : decode cX11_mustGo 0 = .ok (.iload_n 1, 1) := by decide +kernel
theorem dX11_mustGo_1 : decode cX11_mustGo 1 = .ok (.invokestatic 160, 3) := by decide +kernel
theorem dX11_mustGo_4 : decode cX11_mustGo 4 = .ok (.ifCond .ne 5, 3) := by decide +kernel
theorem dX11_mustGo_7 : decode cX11_mustGo 7 = .ok (.iconst (-1), 1) := by decide +kernel
theorem dX11_mustGo_8 : decode cX11_mustGo 8 = .ok (.ireturn, 1) := by decide +kernel
theorem dX11_mustGo_9 : decode cX11_mustGo 9 = .ok (.aload_n 0, 1) := by decide +kernel
theorem dX11_mustGo_10 : decode cX11_mustGo 10 = .ok (.iload_n 1, 1) := by decide +kernel
theorem dX11_mustGo_11 : decode cX11_mustGo 11 = .ok (.invokevirtual 189, 3) := by decide +kernel
theorem dX11_mustGo_14 : decode cX11_mustGo 14 = .ok (.ifCond .ne 6, 3) := by decide +kernel
theorem dX11_mustGo_17 : decode cX11_mustGo 17 = .ok (.bipush (-2), 2) := by decide +kernel
theorem dX11_mustGo_19 : decode cX11_mustGo 19 = .ok (.ireturn, 1) := by decide +kernel
theorem dX11_mustGo_20 : decode cX11_mustGo 20 = .ok (.aload_n 0, 1) := by decide +kernel
theorem dX11_mustGo_21 : decode cX11_mustGo 21 = .ok (.iload_n 1, 1) := by decide +kernel
theorem dX11_mustGo_22 : decode cX11_mustGo 22 = .ok (.invokevirtual 230, 3) := by decide +kernel
theorem dX11_mustGo_25 : decode cX11_mustGo 25 = .ok (.istore_n 2, 1) := by decide +kernel
theorem dX11_mustGo_26 : decode cX11_mustGo 26 = .ok (.bipush (-4), 2) := by decide +kernel
theorem dX11_mustGo_28 : decode cX11_mustGo 28 = .ok (.istore_n 3, 1) := by decide +kernel
theorem dX11_mustGo_29 : decode cX11_mustGo 29 = .ok (.iconst 0, 1) := by decide +kernel
theorem dX11_mustGo_30 : decode cX11_mustGo 30 = .ok (.istore 4, 2) := by decide +kernel
theorem dX11_mustGo_32 : decode cX11_mustGo 32 = .ok (.iload 4, 2) := by decide +kernel
theorem dX11_mustGo_34 : decode cX11_mustGo 34 = .ok (.iload_n 2, 1) := by decide +kernel
theorem dX11_mustGo_35 : decode cX11_mustGo 35 = .ok (.if_icmp .gt 63, 3) := by decide +kernel
theorem dX11_mustGo_38 : decode cX11_mustGo 38 = .ok (.iload_n 3, 1) := by decide +kernel
theorem dX11_mustGo_39 : decode cX11_mustGo 39 = .ok (.ifCond .lt 15, 3) := by decide +kernel
theorem dX11_mustGo_42 : decode cX11_mustGo 42 = .ok (.iload 4, 2) := by decide +kernel
theorem dX11_mustGo_44 : decode cX11_mustGo 44 = .ok (.invokestatic 270, 3) := by decide +kernel
theorem dX11_mustGo_47 : decode cX11_mustGo 47 = .ok (.iload_n 3, 1) := by decide +kernel
theorem dX11_mustGo_48 : decode cX11_mustGo 48 = .ok (.invokestatic 270, 3) := by decide +kernel
theorem dX11_mustGo_51 : decode cX11_mustGo 51 = .ok (.if_icmp .ge 7, 3) := by decide +kernel
theorem dX11_mustGo_54 : decode cX11_mustGo 54 = .ok (.iconst 1, 1) := by decide +kernel
theorem dX11_mustGo_55 : decode cX11_mustGo 55 = .ok (.goto 4, 3) := by decide +kernel
theorem dX11_mustGo_58 : decode cX11_mustGo 58 = .ok (.iconst 0, 1) := by decide +kernel
theorem dX11_mustGo_59 : decode cX11_mustGo 59 = .ok (.istore 5, 2) := by decide +kernel
theorem dX11_mustGo_61 : decode cX11_mustGo 61 = .ok (.iload 4, 2) := by decide +kernel
theorem dX11_mustGo_63 : decode cX11_mustGo 63 = .ok (.iload_n 2, 1) := by decide +kernel
theorem dX11_mustGo_64 : decode cX11_mustGo 64 = .ok (.iconst (-1), 1) := by decide +kernel
theorem dX11_mustGo_65 : decode cX11_mustGo 65 = .ok (.ixor, 1) := by decide +kernel
theorem dX11_mustGo_66 : decode cX11_mustGo 66 = .ok (.iand, 1) := by decide +kernel
theorem dX11_mustGo_67 : decode cX11_mustGo 67 = .ok (.ifCond .ne 25, 3) := by decide +kernel
theorem dX11_mustGo_70 : decode cX11_mustGo 70 = .ok (.iload 5, 2) := by decide +kernel
theorem dX11_mustGo_72 : decode cX11_mustGo 72 = .ok (.ifCond .eq 20, 3) := by decide +kernel
theorem dX11_mustGo_75 : decode cX11_mustGo 75 = .ok (.aload_n 0, 1) := by decide +kernel
theorem dX11_mustGo_76 : decode cX11_mustGo 76 = .ok (.iload_n 1, 1) := by decide +kernel
theorem dX11_mustGo_77 : decode cX11_mustGo 77 = .ok (.iload_n 2, 1) := by decide +kernel
theorem dX11_mustGo_78 : decode cX11_mustGo 78 = .ok (.iload 4, 2) := by decide +kernel
theorem dX11_mustGo_80 : decode cX11_mustGo 80 = .ok (.iconst (-1), 1) := by decide +kernel
theorem dX11_mustGo_81 : decode cX11_mustGo 81 = .ok (.ixor, 1) := by decide +kernel
theorem dX11_mustGo_82 : decode cX11_mustGo 82 = .ok (.iand, 1) := by decide +kernel
theorem dX11_mustGo_83 : decode cX11_mustGo 83 = .ok (.invokevirtual 273, 3) := by decide +kernel
theorem dX11_mustGo_86 : decode cX11_mustGo 86 = .ok (.ifCond .eq 6, 3) := by decide +kernel
theorem dX11_mustGo_89 : decode cX11_mustGo 89 = .ok (.iload 4, 2) := by decide +kernel
theorem dX11_mustGo_91 : decode cX11_mustGo 91 = .ok (.istore_n 3, 1) := by decide +kernel
theorem dX11_mustGo_92 : decode cX11_mustGo 92 = .ok (.iinc 4 1, 3) := by decide +kernel
theorem dX11_mustGo_95 : decode cX11_mustGo 95 = .ok (.goto (-63), 3) := by decide +kernel
theorem dX11_mustGo_98 : decode cX11_mustGo 98 = .ok (.iload_n 3, 1) := by decide +kernel
theorem dX11_mustGo_99 : decode cX11_mustGo 99 = .ok (.ireturn, 1) := by decide +kernel
theorem dX11_leans_0 : decode cX11_leans 0 = .ok (.iload_n 1, 1) := by decide +kernel
theorem dX11_leans_1 : decode cX11_leans 1 = .ok (.i2l, 1) := by decide +kernel
theorem dX11_leans_2 : decode cX11_leans 2 = .ok (.lconst 0, 1) := by decide +kernel
theorem dX11_leans_3 : decode cX11_leans 3 = .ok (.aload_n 0, 1) := by decide +kernel
theorem dX11_leans_4 : decode cX11_leans 4 = .ok (.getfield 7, 3) := by decide +kernel
theorem dX11_leans_7 : decode cX11_leans 7 = .ok (.bipush 11, 2) := by decide +kernel
theorem dX11_leans_9 : decode cX11_leans 9 = .ok (.iaload, 1) := by decide +kernel
theorem dX11_leans_10 : decode cX11_leans 10 = .ok (.iconst 1, 1) := by decide +kernel
theorem dX11_leans_11 : decode cX11_leans 11 = .ok (.isub, 1) := by decide +kernel
theorem dX11_leans_12 : decode cX11_leans 12 = .ok (.i2l, 1) := by decide +kernel
theorem dX11_leans_13 : decode cX11_leans 13 = .ok (.invokestatic 70, 3) := by decide +kernel
theorem dX11_leans_16 : decode cX11_leans 16 = .ok (.ifCond .eq 31, 3) := by decide +kernel
theorem dX11_leans_19 : decode cX11_leans 19 = .ok (.iload_n 3, 1) := by decide +kernel
theorem dX11_leans_20 : decode cX11_leans 20 = .ok (.i2l, 1) := by decide +kernel
theorem dX11_leans_21 : decode cX11_leans 21 = .ok (.lconst 0, 1) := by decide +kernel
theorem dX11_leans_22 : decode cX11_leans 22 = .ok (.lconst 1, 1) := by decide +kernel
theorem dX11_leans_23 : decode cX11_leans 23 = .ok (.invokestatic 70, 3) := by decide +kernel
theorem dX11_leans_26 : decode cX11_leans 26 = .ok (.ifCond .eq 21, 3) := by decide +kernel
theorem dX11_leans_29 : decode cX11_leans 29 = .ok (.aload_n 0, 1) := by decide +kernel
theorem dX11_leans_30 : decode cX11_leans 30 = .ok (.aload_n 0, 1) := by decide +kernel
theorem dX11_leans_31 : decode cX11_leans 31 = .ok (.getfield 7, 3) := by decide +kernel
theorem dX11_leans_34 : decode cX11_leans 34 = .ok (.aload_n 0, 1) := by decide +kernel
theorem dX11_leans_35 : decode cX11_leans 35 = .ok (.iload_n 1, 1) := by decide +kernel
theorem dX11_leans_36 : decode cX11_leans 36 = .ok (.invokevirtual 154, 3) := by decide +kernel
theorem dX11_leans_39 : decode cX11_leans 39 = .ok (.iaload, 1) := by decide +kernel
theorem dX11_leans_40 : decode cX11_leans 40 = .ok (.iload_n 2, 1) := by decide +kernel
theorem dX11_leans_41 : decode cX11_leans 41 = .ok (.invokevirtual 174, 3) := by decide +kernel
theorem dX11_leans_44 : decode cX11_leans 44 = .ok (.ifCond .ne 7, 3) := by decide +kernel
theorem dX11_leans_47 : decode cX11_leans 47 = .ok (.sipush (-1001), 3) := by decide +kernel
theorem dX11_leans_50 : decode cX11_leans 50 = .ok (.ireturn, 1) := by decide +kernel
theorem dX11_leans_51 : decode cX11_leans 51 = .ok (.aload_n 0, 1) := by decide +kernel
theorem dX11_leans_52 : decode cX11_leans 52 = .ok (.getfield 7, 3) := by decide +kernel
theorem dX11_leans_55 : decode cX11_leans 55 = .ok (.aload_n 0, 1) := by decide +kernel
theorem dX11_leans_56 : decode cX11_leans 56 = .ok (.iload_n 1, 1) := by decide +kernel
theorem dX11_leans_57 : decode cX11_leans 57 = .ok (.invokevirtual 154, 3) := by decide +kernel
theorem dX11_leans_60 : decode cX11_leans 60 = .ok (.iaload, 1) := by decide +kernel
theorem dX11_leans_61 : decode cX11_leans 61 = .ok (.istore 4, 2) := by decide +kernel
theorem dX11_leans_63 : decode cX11_leans 63 = .ok (.aload_n 0, 1) := by decide +kernel
theorem dX11_leans_64 : decode cX11_leans 64 = .ok (.iload 4, 2) := by decide +kernel
theorem dX11_leans_66 : decode cX11_leans 66 = .ok (.iload_n 2, 1) := by decide +kernel
theorem dX11_leans_67 : decode cX11_leans 67 = .ok (.invokevirtual 177, 3) := by decide +kernel
theorem dX11_leans_70 : decode cX11_leans 70 = .ok (.iconst 2, 1) := by decide +kernel
theorem dX11_leans_71 : decode cX11_leans 71 = .ok (.if_icmp .ne 7, 3) := by decide +kernel
theorem dX11_leans_74 : decode cX11_leans 74 = .ok (.sipush (-1012), 3) := by decide +kernel
theorem dX11_leans_77 : decode cX11_leans 77 = .ok (.ireturn, 1) := by decide +kernel
theorem dX11_leans_78 : decode cX11_leans 78 = .ok (.aload_n 0, 1) := by decide +kernel
theorem dX11_leans_79 : decode cX11_leans 79 = .ok (.iload 4, 2) := by decide +kernel
theorem dX11_leans_81 : decode cX11_leans 81 = .ok (.invokevirtual 230, 3) := by decide +kernel
theorem dX11_leans_84 : decode cX11_leans 84 = .ok (.iconst 1, 1) := by decide +kernel
theorem dX11_leans_85 : decode cX11_leans 85 = .ok (.iload_n 1, 1) := by decide +kernel
theorem dX11_leans_86 : decode cX11_leans 86 = .ok (.ishl, 1) := by decide +kernel
theorem dX11_leans_87 : decode cX11_leans 87 = .ok (.iconst (-1), 1) := by decide +kernel
theorem dX11_leans_88 : decode cX11_leans 88 = .ok (.ixor, 1) := by decide +kernel
theorem dX11_leans_89 : decode cX11_leans 89 = .ok (.iand, 1) := by decide +kernel
theorem dX11_leans_90 : decode cX11_leans 90 = .ok (.istore 5, 2) := by decide +kernel
theorem dX11_leans_92 : decode cX11_leans 92 = .ok (.aload_n 0, 1) := by decide +kernel
theorem dX11_leans_93 : decode cX11_leans 93 = .ok (.iload 4, 2) := by decide +kernel
theorem dX11_leans_95 : decode cX11_leans 95 = .ok (.iload 5, 2) := by decide +kernel
theorem dX11_leans_97 : decode cX11_leans 97 = .ok (.iconst 1, 1) := by decide +kernel
theorem dX11_leans_98 : decode cX11_leans 98 = .ok (.iload_n 1, 1) := by decide +kernel
theorem dX11_leans_99 : decode cX11_leans 99 = .ok (.ishl, 1) := by decide +kernel
theorem dX11_leans_100 : decode cX11_leans 100 = .ok (.ior, 1) := by decide +kernel
theorem dX11_leans_101 : decode cX11_leans 101 = .ok (.invokevirtual 233, 3) := by decide +kernel
theorem dX11_leans_104 : decode cX11_leans 104 = .ok (.aload_n 0, 1) := by decide +kernel
theorem dX11_leans_105 : decode cX11_leans 105 = .ok (.aload_n 0, 1) := by decide +kernel
theorem dX11_leans_106 : decode cX11_leans 106 = .ok (.iload_n 2, 1) := by decide +kernel
theorem dX11_leans_107 : decode cX11_leans 107 = .ok (.invokevirtual 206, 3) := by decide +kernel
theorem dX11_leans_110 : decode cX11_leans 110 = .ok (.iload_n 3, 1) := by decide +kernel
theorem dX11_leans_111 : decode cX11_leans 111 = .ok (.invokevirtual 250, 3) := by decide +kernel
theorem dX11_leans_114 : decode cX11_leans 114 = .ok (.istore 6, 2) := by decide +kernel
theorem dX11_leans_116 : decode cX11_leans 116 = .ok (.aload_n 0, 1) := by decide +kernel
theorem dX11_leans_117 : decode cX11_leans 117 = .ok (.iload 4, 2) := by decide +kernel
theorem dX11_leans_119 : decode cX11_leans 119 = .ok (.iload 5, 2) := by decide +kernel
theorem dX11_leans_121 : decode cX11_leans 121 = .ok (.invokevirtual 233, 3) := by decide +kernel
theorem dX11_leans_124 : decode cX11_leans 124 = .ok (.aload_n 0, 1) := by decide +kernel
theorem dX11_leans_125 : decode cX11_leans 125 = .ok (.aload_n 0, 1) := by decide +kernel
theorem dX11_leans_126 : decode cX11_leans 126 = .ok (.iload_n 2, 1) := by decide +kernel
theorem dX11_leans_127 : decode cX11_leans 127 = .ok (.invokevirtual 206, 3) := by decide +kernel
theorem dX11_leans_130 : decode cX11_leans 130 = .ok (.iload_n 3, 1) := by decide +kernel
theorem dX11_leans_131 : decode cX11_leans 131 = .ok (.invokevirtual 250, 3) := by decide +kernel
theorem dX11_leans_134 : decode cX11_leans 134 = .ok (.istore 7, 2) := by decide +kernel
theorem dX11_leans_136 : decode cX11_leans 136 = .ok (.iload 6, 2) := by decide +kernel
theorem dX11_leans_138 : decode cX11_leans 138 = .ok (.ifCond .lt 8, 3) := by decide +kernel
theorem dX11_leans_141 : decode cX11_leans 141 = .ok (.iload 7, 2) := by decide +kernel
theorem dX11_leans_143 : decode cX11_leans 143 = .ok (.ifCond .ge 9, 3) := by decide +kernel
theorem dX11_leans_146 : decode cX11_leans 146 = .ok (.sipush (-1004), 3) := by decide +kernel
theorem dX11_leans_149 : decode cX11_leans 149 = .ok (.goto 8, 3) := by decide +kernel
theorem dX11_leans_152 : decode cX11_leans 152 = .ok (.iload 7, 2) := by decide +kernel
theorem dX11_leans_154 : decode cX11_leans 154 = .ok (.iload 6, 2) := by decide +kernel
theorem dX11_leans_156 : decode cX11_leans 156 = .ok (.isub, 1) := by decide +kernel
theorem dX11_leans_157 : decode cX11_leans 157 = .ok (.ireturn, 1) := by decide +kernel
theorem dX11_judge_0 : decode cX11_judge 0 = .ok (.iload_n 1, 1) := by decide +kernel
theorem dX11_judge_1 : decode cX11_judge 1 = .ok (.invokestatic 160, 3) := by decide +kernel
theorem dX11_judge_4 : decode cX11_judge 4 = .ok (.ifCond .eq 11, 3) := by decide +kernel
theorem dX11_judge_7 : decode cX11_judge 7 = .ok (.iload_n 2, 1) := by decide +kernel
theorem dX11_judge_8 : decode cX11_judge 8 = .ok (.iload_n 3, 1) := by decide +kernel
theorem dX11_judge_9 : decode cX11_judge 9 = .ok (.invokestatic 276, 3) := by decide +kernel
theorem dX11_judge_12 : decode cX11_judge 12 = .ok (.ifCond .ne 5, 3) := by decide +kernel
theorem dX11_judge_15 : decode cX11_judge 15 = .ok (.iconst (-1), 1) := by decide +kernel
theorem dX11_judge_16 : decode cX11_judge 16 = .ok (.ireturn, 1) := by decide +kernel
theorem dX11_judge_17 : decode cX11_judge 17 = .ok (.aload_n 0, 1) := by decide +kernel
theorem dX11_judge_18 : decode cX11_judge 18 = .ok (.iload_n 1, 1) := by decide +kernel
theorem dX11_judge_19 : decode cX11_judge 19 = .ok (.invokevirtual 189, 3) := by decide +kernel
theorem dX11_judge_22 : decode cX11_judge 22 = .ok (.ifCond .ne 6, 3) := by decide +kernel
theorem dX11_judge_25 : decode cX11_judge 25 = .ok (.bipush (-2), 2) := by decide +kernel
theorem dX11_judge_27 : decode cX11_judge 27 = .ok (.ireturn, 1) := by decide +kernel
theorem dX11_judge_28 : decode cX11_judge 28 = .ok (.aload_n 0, 1) := by decide +kernel
theorem dX11_judge_29 : decode cX11_judge 29 = .ok (.iload_n 2, 1) := by decide +kernel
theorem dX11_judge_30 : decode cX11_judge 30 = .ok (.iload_n 3, 1) := by decide +kernel
theorem dX11_judge_31 : decode cX11_judge 31 = .ok (.iload 4, 2) := by decide +kernel
theorem dX11_judge_33 : decode cX11_judge 33 = .ok (.aload_n 0, 1) := by decide +kernel
theorem dX11_judge_34 : decode cX11_judge 34 = .ok (.iload_n 1, 1) := by decide +kernel
theorem dX11_judge_35 : decode cX11_judge 35 = .ok (.invokevirtual 189, 3) := by decide +kernel
theorem dX11_judge_38 : decode cX11_judge 38 = .ok (.invokevirtual 279, 3) := by decide +kernel
theorem dX11_judge_41 : decode cX11_judge 41 = .ok (.istore 5, 2) := by decide +kernel
theorem dX11_judge_43 : decode cX11_judge 43 = .ok (.iload 5, 2) := by decide +kernel
theorem dX11_judge_45 : decode cX11_judge 45 = .ok (.ifCond .ge 6, 3) := by decide +kernel
theorem dX11_judge_48 : decode cX11_judge 48 = .ok (.iload 5, 2) := by decide +kernel
theorem dX11_judge_50 : decode cX11_judge 50 = .ok (.ireturn, 1) := by decide +kernel
theorem dX11_judge_51 : decode cX11_judge 51 = .ok (.aload_n 0, 1) := by decide +kernel
theorem dX11_judge_52 : decode cX11_judge 52 = .ok (.iload_n 1, 1) := by decide +kernel
theorem dX11_judge_53 : decode cX11_judge 53 = .ok (.aload_n 0, 1) := by decide +kernel
theorem dX11_judge_54 : decode cX11_judge 54 = .ok (.iload_n 1, 1) := by decide +kernel
theorem dX11_judge_55 : decode cX11_judge 55 = .ok (.invokevirtual 230, 3) := by decide +kernel
theorem dX11_judge_58 : decode cX11_judge 58 = .ok (.invokevirtual 221, 3) := by decide +kernel
theorem dX11_judge_61 : decode cX11_judge 61 = .ok (.iconst 1, 1) := by decide +kernel
theorem dX11_judge_62 : decode cX11_judge 62 = .ok (.istore 6, 2) := by decide +kernel
theorem dX11_judge_64 : decode cX11_judge 64 = .ok (.iconst 0, 1) := by decide +kernel
theorem dX11_judge_65 : decode cX11_judge 65 = .ok (.istore 7, 2) := by decide +kernel
theorem dX11_judge_67 : decode cX11_judge 67 = .ok (.iload 7, 2) := by decide +kernel
theorem dX11_judge_69 : decode cX11_judge 69 = .ok (.aload_n 0, 1) := by decide +kernel
theorem dX11_judge_70 : decode cX11_judge 70 = .ok (.getfield 192, 3) := by decide +kernel
theorem dX11_judge_73 : decode cX11_judge 73 = .ok (.if_icmp .ge 121, 3) := by decide +kernel
theorem dX11_judge_76 : decode cX11_judge 76 = .ok (.aload_n 0, 1) := by decide +kernel
theorem dX11_judge_77 : decode cX11_judge 77 = .ok (.getfield 65, 3) := by decide +kernel
theorem dX11_judge_80 : decode cX11_judge 80 = .ok (.bipush 24, 2) := by decide +kernel
theorem dX11_judge_82 : decode cX11_judge 82 = .ok (.iload_n 2, 1) := by decide +kernel
theorem dX11_judge_83 : decode cX11_judge 83 = .ok (.imul, 1) := by decide +kernel
theorem dX11_judge_84 : decode cX11_judge 84 = .ok (.iload 4, 2) := by decide +kernel
theorem dX11_judge_86 : decode cX11_judge 86 = .ok (.iadd, 1) := by decide +kernel
theorem dX11_judge_87 : decode cX11_judge 87 = .ok (.iload 7, 2) := by decide +kernel
theorem dX11_judge_89 : decode cX11_judge 89 = .ok (.iadd, 1) := by decide +kernel
theorem dX11_judge_90 : decode cX11_judge 90 = .ok (.iaload, 1) := by decide +kernel
theorem dX11_judge_91 : decode cX11_judge 91 = .ok (.istore 8, 2) := by decide +kernel
theorem dX11_judge_93 : decode cX11_judge 93 = .ok (.iload 8, 2) := by decide +kernel
theorem dX11_judge_95 : decode cX11_judge 95 = .ok (.invokestatic 80, 3) := by decide +kernel
theorem dX11_judge_98 : decode cX11_judge 98 = .ok (.ifCond .eq 23, 3) := by decide +kernel
theorem dX11_judge_101 : decode cX11_judge 101 = .ok (.aload_n 0, 1) := by decide +kernel
theorem dX11_judge_102 : decode cX11_judge 102 = .ok (.getfield 22, 3) := by decide +kernel
theorem dX11_judge_105 : decode cX11_judge 105 = .ok (.iload 7, 2) := by decide +kernel
theorem dX11_judge_107 : decode cX11_judge 107 = .ok (.iaload, 1) := by decide +kernel
theorem dX11_judge_108 : decode cX11_judge 108 = .ok (.iload 8, 2) := by decide +kernel
theorem dX11_judge_110 : decode cX11_judge 110 = .ok (.ishr, 1) := by decide +kernel
theorem dX11_judge_111 : decode cX11_judge 111 = .ok (.iconst 1, 1) := by decide +kernel
theorem dX11_judge_112 : decode cX11_judge 112 = .ok (.iand, 1) := by decide +kernel
theorem dX11_judge_113 : decode cX11_judge 113 = .ok (.iconst 1, 1) := by decide +kernel
theorem dX11_judge_114 : decode cX11_judge 114 = .ok (.if_icmp .ne 7, 3) := by decide +kernel
theorem dX11_judge_117 : decode cX11_judge 117 = .ok (.iconst 1, 1) := by decide +kernel
theorem dX11_judge_118 : decode cX11_judge 118 = .ok (.goto 4, 3) := by decide +kernel
theorem dX11_judge_121 : decode cX11_judge 121 = .ok (.iconst 0, 1) := by decide +kernel
theorem dX11_judge_122 : decode cX11_judge 122 = .ok (.istore 9, 2) := by decide +kernel
theorem dX11_judge_124 : decode cX11_judge 124 = .ok (.iload 9, 2) := by decide +kernel
theorem dX11_judge_126 : decode cX11_judge 126 = .ok (.ifCond .eq 49, 3) := by decide +kernel
theorem dX11_judge_129 : decode cX11_judge 129 = .ok (.iload 7, 2) := by decide +kernel
theorem dX11_judge_131 : decode cX11_judge 131 = .ok (.ifCond .le 44, 3) := by decide +kernel
theorem dX11_judge_134 : decode cX11_judge 134 = .ok (.aload_n 0, 1) := by decide +kernel
theorem dX11_judge_135 : decode cX11_judge 135 = .ok (.iload 7, 2) := by decide +kernel
theorem dX11_judge_137 : decode cX11_judge 137 = .ok (.aload_n 0, 1) := by decide +kernel
theorem dX11_judge_138 : decode cX11_judge 138 = .ok (.getfield 65, 3) := by decide +kernel
theorem dX11_judge_141 : decode cX11_judge 141 = .ok (.bipush 24, 2) := by decide +kernel
theorem dX11_judge_143 : decode cX11_judge 143 = .ok (.iload_n 2, 1) := by decide +kernel
theorem dX11_judge_144 : decode cX11_judge 144 = .ok (.imul, 1) := by decide +kernel
theorem dX11_judge_145 : decode cX11_judge 145 = .ok (.iload 4, 2) := by decide +kernel
theorem dX11_judge_147 : decode cX11_judge 147 = .ok (.iadd, 1) := by decide +kernel
theorem dX11_judge_148 : decode cX11_judge 148 = .ok (.iload 7, 2) := by decide +kernel
theorem dX11_judge_150 : decode cX11_judge 150 = .ok (.iadd, 1) := by decide +kernel
theorem dX11_judge_151 : decode cX11_judge 151 = .ok (.iconst 1, 1) := by decide +kernel
theorem dX11_judge_152 : decode cX11_judge 152 = .ok (.isub, 1) := by decide +kernel
theorem dX11_judge_153 : decode cX11_judge 153 = .ok (.iaload, 1) := by decide +kernel
theorem dX11_judge_154 : decode cX11_judge 154 = .ok (.iload 6, 2) := by decide +kernel
theorem dX11_judge_156 : decode cX11_judge 156 = .ok (.iload 8, 2) := by decide +kernel
theorem dX11_judge_158 : decode cX11_judge 158 = .ok (.invokevirtual 213, 3) := by decide +kernel
theorem dX11_judge_161 : decode cX11_judge 161 = .ok (.istore 6, 2) := by decide +kernel
theorem dX11_judge_163 : decode cX11_judge 163 = .ok (.iload 6, 2) := by decide +kernel
theorem dX11_judge_165 : decode cX11_judge 165 = .ok (.ifCond .le 7, 3) := by decide +kernel
theorem dX11_judge_168 : decode cX11_judge 168 = .ok (.iconst 1, 1) := by decide +kernel
theorem dX11_judge_169 : decode cX11_judge 169 = .ok (.goto 4, 3) := by decide +kernel
theorem dX11_judge_172 : decode cX11_judge 172 = .ok (.iconst 0, 1) := by decide +kernel
theorem dX11_judge_173 : decode cX11_judge 173 = .ok (.istore 9, 2) := by decide +kernel
theorem dX11_judge_175 : decode cX11_judge 175 = .ok (.iload 9, 2) := by decide +kernel
theorem dX11_judge_177 : decode cX11_judge 177 = .ok (.ifCond .ne 11, 3) := by decide +kernel
theorem dX11_judge_180 : decode cX11_judge 180 = .ok (.aload_n 0, 1) := by decide +kernel
theorem dX11_judge_181 : decode cX11_judge 181 = .ok (.getfield 19, 3) := by decide +kernel
theorem dX11_judge_184 : decode cX11_judge 184 = .ok (.iload 7, 2) := by decide +kernel
theorem dX11_judge_186 : decode cX11_judge 186 = .ok (.iaload, 1) := by decide +kernel
theorem dX11_judge_187 : decode cX11_judge 187 = .ok (.ireturn, 1) := by decide +kernel
theorem dX11_judge_188 : decode cX11_judge 188 = .ok (.iinc 7 1, 3) := by decide +kernel
theorem dX11_judge_191 : decode cX11_judge 191 = .ok (.goto (-124), 3) := by decide +kernel
theorem dX11_judge_194 : decode cX11_judge 194 = .ok (.bipush (-4), 2) := by decide +kernel
theorem dX11_judge_196 : decode cX11_judge 196 = .ok (.ireturn, 1) := by decide +kernel
theorem dX11_oneYear_0 : decode cX11_oneYear 0 = .ok (.aload_n 0, 1) := by decide +kernel
theorem dX11_oneYear_1 : decode cX11_oneYear 1 = .ok (.iconst 0, 1) := by decide +kernel
theorem dX11_oneYear_2 : decode cX11_oneYear 2 = .ok (.iload_n 1, 1) := by decide +kernel
theorem dX11_oneYear_3 : decode cX11_oneYear 3 = .ok (.invokevirtual 174, 3) := by decide +kernel
theorem dX11_oneYear_6 : decode cX11_oneYear 6 = .ok (.ifCond .eq 22, 3) := by decide +kernel
theorem dX11_oneYear_9 : decode cX11_oneYear 9 = .ok (.aload_n 0, 1) := by decide +kernel
theorem dX11_oneYear_10 : decode cX11_oneYear 10 = .ok (.iconst 1, 1) := by decide +kernel
theorem dX11_oneYear_11 : decode cX11_oneYear 11 = .ok (.iload_n 2, 1) := by decide +kernel
theorem dX11_oneYear_12 : decode cX11_oneYear 12 = .ok (.invokevirtual 174, 3) := by decide +kernel
theorem dX11_oneYear_15 : decode cX11_oneYear 15 = .ok (.ifCond .eq 13, 3) := by decide +kernel
theorem dX11_oneYear_18 : decode cX11_oneYear 18 = .ok (.iload_n 3, 1) := by decide +kernel
theorem dX11_oneYear_19 : decode cX11_oneYear 19 = .ok (.i2l, 1) := by decide +kernel
theorem dX11_oneYear_20 : decode cX11_oneYear 20 = .ok (.lconst 0, 1) := by decide +kernel
theorem dX11_oneYear_21 : decode cX11_oneYear 21 = .ok (.lconst 1, 1) := by decide +kernel
theorem dX11_oneYear_22 : decode cX11_oneYear 22 = .ok (.invokestatic 70, 3) := by decide +kernel
theorem dX11_oneYear_25 : decode cX11_oneYear 25 = .ok (.ifCond .ne 7, 3) := by decide +kernel
theorem dX11_oneYear_28 : decode cX11_oneYear 28 = .ok (.ldc2_w 236, 3) := by decide +kernel
theorem dX11_oneYear_31 : decode cX11_oneYear 31 = .ok (.lreturn, 1) := by decide +kernel
theorem dX11_oneYear_32 : decode cX11_oneYear 32 = .ok (.aload_n 0, 1) := by decide +kernel
theorem dX11_oneYear_33 : decode cX11_oneYear 33 = .ok (.iconst 0, 1) := by decide +kernel
theorem dX11_oneYear_34 : decode cX11_oneYear 34 = .ok (.iload_n 1, 1) := by decide +kernel
theorem dX11_oneYear_35 : decode cX11_oneYear 35 = .ok (.invokevirtual 177, 3) := by decide +kernel
theorem dX11_oneYear_38 : decode cX11_oneYear 38 = .ok (.iconst 2, 1) := by decide +kernel
theorem dX11_oneYear_39 : decode cX11_oneYear 39 = .ok (.if_icmp .eq 13, 3) := by decide +kernel
theorem dX11_oneYear_42 : decode cX11_oneYear 42 = .ok (.aload_n 0, 1) := by decide +kernel
theorem dX11_oneYear_43 : decode cX11_oneYear 43 = .ok (.iconst 1, 1) := by decide +kernel
theorem dX11_oneYear_44 : decode cX11_oneYear 44 = .ok (.iload_n 2, 1) := by decide +kernel
theorem dX11_oneYear_45 : decode cX11_oneYear 45 = .ok (.invokevirtual 177, 3) := by decide +kernel
theorem dX11_oneYear_48 : decode cX11_oneYear 48 = .ok (.iconst 2, 1) := by decide +kernel
theorem dX11_oneYear_49 : decode cX11_oneYear 49 = .ok (.if_icmp .ne 7, 3) := by decide +kernel
theorem dX11_oneYear_52 : decode cX11_oneYear 52 = .ok (.ldc2_w 288, 3) := by decide +kernel
theorem dX11_oneYear_55 : decode cX11_oneYear 55 = .ok (.lreturn, 1) := by decide +kernel
theorem dX11_oneYear_56 : decode cX11_oneYear 56 = .ok (.aload_n 0, 1) := by decide +kernel
theorem dX11_oneYear_57 : decode cX11_oneYear 57 = .ok (.invokevirtual 290, 3) := by decide +kernel
theorem dX11_oneYear_60 : decode cX11_oneYear 60 = .ok (.aload_n 0, 1) := by decide +kernel
theorem dX11_oneYear_61 : decode cX11_oneYear 61 = .ok (.iload_n 1, 1) := by decide +kernel
theorem dX11_oneYear_62 : decode cX11_oneYear 62 = .ok (.invokevirtual 206, 3) := by decide +kernel
theorem dX11_oneYear_65 : decode cX11_oneYear 65 = .ok (.istore 4, 2) := by decide +kernel
theorem dX11_oneYear_67 : decode cX11_oneYear 67 = .ok (.aload_n 0, 1) := by decide +kernel
theorem dX11_oneYear_68 : decode cX11_oneYear 68 = .ok (.iconst 1, 1) := by decide +kernel
theorem dX11_oneYear_69 : decode cX11_oneYear 69 = .ok (.invokevirtual 240, 3) := by decide +kernel
theorem dX11_oneYear_72 : decode cX11_oneYear 72 = .ok (.aload_n 0, 1) := by decide +kernel
theorem dX11_oneYear_73 : decode cX11_oneYear 73 = .ok (.getfield 285, 3) := by decide +kernel
theorem dX11_oneYear_76 : decode cX11_oneYear 76 = .ok (.lconst 0, 1) := by decide +kernel
theorem dX11_oneYear_77 : decode cX11_oneYear 77 = .ok (.lcmp, 1) := by decide +kernel
theorem dX11_oneYear_78 : decode cX11_oneYear 78 = .ok (.ifCond .eq 12, 3) := by decide +kernel
theorem dX11_oneYear_81 : decode cX11_oneYear 81 = .ok (.aload_n 0, 1) := by decide +kernel
theorem dX11_oneYear_82 : decode cX11_oneYear 82 = .ok (.getfield 217, 3) := by decide +kernel
theorem dX11_oneYear_85 : decode cX11_oneYear 85 = .ok (.lconst 0, 1) := by decide +kernel
theorem dX11_oneYear_86 : decode cX11_oneYear 86 = .ok (.lcmp, 1) := by decide +kernel
theorem dX11_oneYear_87 : decode cX11_oneYear 87 = .ok (.ifCond .ne 7, 3) := by decide +kernel
theorem dX11_oneYear_90 : decode cX11_oneYear 90 = .ok (.ldc2_w 293, 3) := by decide +kernel
theorem dX11_oneYear_93 : decode cX11_oneYear 93 = .ok (.lreturn, 1) := by decide +kernel
theorem dX11_oneYear_94 : decode cX11_oneYear 94 = .ok (.aload_n 0, 1) := by decide +kernel
theorem dX11_oneYear_95 : decode cX11_oneYear 95 = .ok (.iload 4, 2) := by decide +kernel
theorem dX11_oneYear_97 : decode cX11_oneYear 97 = .ok (.aload_n 0, 1) := by decide +kernel
theorem dX11_oneYear_98 : decode cX11_oneYear 98 = .ok (.iload_n 2, 1) := by decide +kernel
theorem dX11_oneYear_99 : decode cX11_oneYear 99 = .ok (.invokevirtual 206, 3) := by decide +kernel
theorem dX11_oneYear_102 : decode cX11_oneYear 102 = .ok (.invokevirtual 295, 3) := by decide +kernel
theorem dX11_oneYear_105 : decode cX11_oneYear 105 = .ok (.aload_n 0, 1) := by decide +kernel
theorem dX11_oneYear_106 : decode cX11_oneYear 106 = .ok (.getfield 285, 3) := by decide +kernel
theorem dX11_oneYear_109 : decode cX11_oneYear 109 = .ok (.aload_n 0, 1) := by decide +kernel
theorem dX11_oneYear_110 : decode cX11_oneYear 110 = .ok (.getfield 217, 3) := by decide +kernel
theorem dX11_oneYear_113 : decode cX11_oneYear 113 = .ok (.lmul, 1) := by decide +kernel
theorem dX11_oneYear_114 : decode cX11_oneYear 114 = .ok (.iload_n 3, 1) := by decide +kernel
theorem dX11_oneYear_115 : decode cX11_oneYear 115 = .ok (.invokestatic 257, 3) := by decide +kernel
theorem dX11_oneYear_118 : decode cX11_oneYear 118 = .ok (.lreturn, 1) := by decide +kernel
theorem dX11_tie_0 : decode cX11_tie 0 = .ok (.iload_n 1, 1) := by decide +kernel
theorem dX11_tie_1 : decode cX11_tie 1 = .ok (.i2l, 1) := by decide +kernel
theorem dX11_tie_2 : decode cX11_tie 2 = .ok (.lconst 0, 1) := by decide +kernel
theorem dX11_tie_3 : decode cX11_tie 3 = .ok (.ldc2_w 180, 3) := by decide +kernel
theorem dX11_tie_6 : decode cX11_tie 6 = .ok (.invokestatic 70, 3) := by decide +kernel
theorem dX11_tie_9 : decode cX11_tie 9 = .ok (.ifCond .ne 7, 3) := by decide +kernel
theorem dX11_tie_12 : decode cX11_tie 12 = .ok (.ldc2_w 236, 3) := by decide +kernel
theorem dX11_tie_15 : decode cX11_tie 15 = .ok (.lreturn, 1) := by decide +kernel
theorem dX11_tie_16 : decode cX11_tie 16 = .ok (.aload_n 0, 1) := by decide +kernel
theorem dX11_tie_17 : decode cX11_tie 17 = .ok (.iconst 0, 1) := by decide +kernel
theorem dX11_tie_18 : decode cX11_tie 18 = .ok (.invokevirtual 189, 3) := by decide +kernel
theorem dX11_tie_21 : decode cX11_tie 21 = .ok (.ifCond .eq 11, 3) := by decide +kernel
theorem dX11_tie_24 : decode cX11_tie 24 = .ok (.aload_n 0, 1) := by decide +kernel
theorem dX11_tie_25 : decode cX11_tie 25 = .ok (.iconst 1, 1) := by decide +kernel
theorem dX11_tie_26 : decode cX11_tie 26 = .ok (.invokevirtual 189, 3) := by decide +kernel
theorem dX11_tie_29 : decode cX11_tie 29 = .ok (.ifCond .ne 7, 3) := by decide +kernel
theorem dX11_tie_32 : decode cX11_tie 32 = .ok (.ldc2_w 238, 3) := by decide +kernel
theorem dX11_tie_35 : decode cX11_tie 35 = .ok (.lreturn, 1) := by decide +kernel
theorem dX11_tie_36 : decode cX11_tie 36 = .ok (.aload_n 0, 1) := by decide +kernel
theorem dX11_tie_37 : decode cX11_tie 37 = .ok (.invokevirtual 290, 3) := by decide +kernel
theorem dX11_tie_40 : decode cX11_tie 40 = .ok (.aload_n 0, 1) := by decide +kernel
theorem dX11_tie_41 : decode cX11_tie 41 = .ok (.iconst 1, 1) := by decide +kernel
theorem dX11_tie_42 : decode cX11_tie 42 = .ok (.invokevirtual 240, 3) := by decide +kernel
theorem dX11_tie_45 : decode cX11_tie 45 = .ok (.aload_n 0, 1) := by decide +kernel
theorem dX11_tie_46 : decode cX11_tie 46 = .ok (.getfield 285, 3) := by decide +kernel
theorem dX11_tie_49 : decode cX11_tie 49 = .ok (.lconst 0, 1) := by decide +kernel
theorem dX11_tie_50 : decode cX11_tie 50 = .ok (.lcmp, 1) := by decide +kernel
theorem dX11_tie_51 : decode cX11_tie 51 = .ok (.ifCond .eq 12, 3) := by decide +kernel
theorem dX11_tie_54 : decode cX11_tie 54 = .ok (.aload_n 0, 1) := by decide +kernel
theorem dX11_tie_55 : decode cX11_tie 55 = .ok (.getfield 217, 3) := by decide +kernel
theorem dX11_tie_58 : decode cX11_tie 58 = .ok (.lconst 0, 1) := by decide +kernel
theorem dX11_tie_59 : decode cX11_tie 59 = .ok (.lcmp, 1) := by decide +kernel
theorem dX11_tie_60 : decode cX11_tie 60 = .ok (.ifCond .ne 7, 3) := by decide +kernel
theorem dX11_tie_63 : decode cX11_tie 63 = .ok (.ldc2_w 293, 3) := by decide +kernel
theorem dX11_tie_66 : decode cX11_tie 66 = .ok (.lreturn, 1) := by decide +kernel
theorem dX11_tie_67 : decode cX11_tie 67 = .ok (.iconst 0, 1) := by decide +kernel
theorem dX11_tie_68 : decode cX11_tie 68 = .ok (.istore_n 2, 1) := by decide +kernel
theorem dX11_tie_69 : decode cX11_tie 69 = .ok (.iconst 0, 1) := by decide +kernel
theorem dX11_tie_70 : decode cX11_tie 70 = .ok (.istore_n 3, 1) := by decide +kernel
theorem dX11_tie_71 : decode cX11_tie 71 = .ok (.ldc2_w 236, 3) := by decide +kernel
theorem dX11_tie_74 : decode cX11_tie 74 = .ok (.lstore 4, 2) := by decide +kernel
theorem dX11_tie_76 : decode cX11_tie 76 = .ok (.iconst 0, 1) := by decide +kernel
theorem dX11_tie_77 : decode cX11_tie 77 = .ok (.istore 6, 2) := by decide +kernel
theorem dX11_tie_79 : decode cX11_tie 79 = .ok (.iload 6, 2) := by decide +kernel
theorem dX11_tie_81 : decode cX11_tie 81 = .ok (.aload_n 0, 1) := by decide +kernel
theorem dX11_tie_82 : decode cX11_tie 82 = .ok (.getfield 282, 3) := by decide +kernel
theorem dX11_tie_85 : decode cX11_tie 85 = .ok (.if_icmp .ge 67, 3) := by decide +kernel
theorem dX11_tie_88 : decode cX11_tie 88 = .ok (.iconst 0, 1) := by decide +kernel
theorem dX11_tie_89 : decode cX11_tie 89 = .ok (.istore 7, 2) := by decide +kernel
theorem dX11_tie_91 : decode cX11_tie 91 = .ok (.iload 7, 2) := by decide +kernel
theorem dX11_tie_93 : decode cX11_tie 93 = .ok (.aload_n 0, 1) := by decide +kernel
theorem dX11_tie_94 : decode cX11_tie 94 = .ok (.getfield 192, 3) := by decide +kernel
theorem dX11_tie_97 : decode cX11_tie 97 = .ok (.if_icmp .ge 49, 3) := by decide +kernel
theorem dX11_tie_100 : decode cX11_tie 100 = .ok (.aload_n 0, 1) := by decide +kernel
theorem dX11_tie_101 : decode cX11_tie 101 = .ok (.iload 6, 2) := by decide +kernel
theorem dX11_tie_103 : decode cX11_tie 103 = .ok (.iload 7, 2) := by decide +kernel
theorem dX11_tie_105 : decode cX11_tie 105 = .ok (.invokevirtual 295, 3) := by decide +kernel
theorem dX11_tie_108 : decode cX11_tie 108 = .ok (.lload 4, 2) := by decide +kernel
theorem dX11_tie_110 : decode cX11_tie 110 = .ok (.lcmp, 1) := by decide +kernel
theorem dX11_tie_111 : decode cX11_tie 111 = .ok (.ifCond .le 29, 3) := by decide +kernel
theorem dX11_tie_114 : decode cX11_tie 114 = .ok (.aload_n 0, 1) := by decide +kernel
theorem dX11_tie_115 : decode cX11_tie 115 = .ok (.iload 6, 2) := by decide +kernel
theorem dX11_tie_117 : decode cX11_tie 117 = .ok (.iload 7, 2) := by decide +kernel
theorem dX11_tie_119 : decode cX11_tie 119 = .ok (.invokevirtual 295, 3) := by decide +kernel
theorem dX11_tie_122 : decode cX11_tie 122 = .ok (.lstore 4, 2) := by decide +kernel
theorem dX11_tie_124 : decode cX11_tie 124 = .ok (.aload_n 0, 1) := by decide +kernel
theorem dX11_tie_125 : decode cX11_tie 125 = .ok (.getfield 47, 3) := by decide +kernel
theorem dX11_tie_128 : decode cX11_tie 128 = .ok (.iload 6, 2) := by decide +kernel
theorem dX11_tie_130 : decode cX11_tie 130 = .ok (.iaload, 1) := by decide +kernel
theorem dX11_tie_131 : decode cX11_tie 131 = .ok (.istore_n 2, 1) := by decide +kernel
theorem dX11_tie_132 : decode cX11_tie 132 = .ok (.aload_n 0, 1) := by decide +kernel
theorem dX11_tie_133 : decode cX11_tie 133 = .ok (.getfield 19, 3) := by decide +kernel
theorem dX11_tie_136 : decode cX11_tie 136 = .ok (.iload 7, 2) := by decide +kernel
theorem dX11_tie_138 : decode cX11_tie 138 = .ok (.iaload, 1) := by decide +kernel
theorem dX11_tie_139 : decode cX11_tie 139 = .ok (.istore_n 3, 1) := by decide +kernel
theorem dX11_tie_140 : decode cX11_tie 140 = .ok (.iinc 7 1, 3) := by decide +kernel
theorem dX11_tie_143 : decode cX11_tie 143 = .ok (.goto (-52), 3) := by decide +kernel
theorem dX11_tie_146 : decode cX11_tie 146 = .ok (.iinc 6 1, 3) := by decide +kernel
theorem dX11_tie_149 : decode cX11_tie 149 = .ok (.goto (-70), 3) := by decide +kernel
theorem dX11_tie_152 : decode cX11_tie 152 = .ok (.iload_n 1, 1) := by decide +kernel
theorem dX11_tie_153 : decode cX11_tie 153 = .ok (.ifCond .ne 8, 3) := by decide +kernel
theorem dX11_tie_156 : decode cX11_tie 156 = .ok (.iload_n 2, 1) := by decide +kernel
theorem dX11_tie_157 : decode cX11_tie 157 = .ok (.i2l, 1) := by decide +kernel
theorem dX11_tie_158 : decode cX11_tie 158 = .ok (.goto 15, 3) := by decide +kernel
theorem dX11_tie_161 : decode cX11_tie 161 = .ok (.iload_n 1, 1) := by decide +kernel
theorem dX11_tie_162 : decode cX11_tie 162 = .ok (.iconst 1, 1) := by decide +kernel
theorem dX11_tie_163 : decode cX11_tie 163 = .ok (.if_icmp .ne 8, 3) := by decide +kernel
theorem dX11_tie_166 : decode cX11_tie 166 = .ok (.iload_n 3, 1) := by decide +kernel
theorem dX11_tie_167 : decode cX11_tie 167 = .ok (.i2l, 1) := by decide +kernel
theorem dX11_tie_168 : decode cX11_tie 168 = .ok (.goto 5, 3) := by decide +kernel
theorem dX11_tie_171 : decode cX11_tie 171 = .ok (.lload 4, 2) := by decide +kernel
theorem dX11_tie_173 : decode cX11_tie 173 = .ok (.lreturn, 1) := by decide +kernel
theorem dX11_isClaim_0 : decode cX11_isClaim 0 = .ok (.iload_n 1, 1) := by decide +kernel
theorem dX11_isClaim_1 : decode cX11_isClaim 1 = .ok (.i2l, 1) := by decide +kernel
theorem dX11_isClaim_2 : decode cX11_isClaim 2 = .ok (.lconst 0, 1) := by decide +kernel
theorem dX11_isClaim_3 : decode cX11_isClaim 3 = .ok (.aload_n 0, 1) := by decide +kernel
theorem dX11_isClaim_4 : decode cX11_isClaim 4 = .ok (.getfield 7, 3) := by decide +kernel
theorem dX11_isClaim_7 : decode cX11_isClaim 7 = .ok (.bipush 12, 2) := by decide +kernel
theorem dX11_isClaim_9 : decode cX11_isClaim 9 = .ok (.iaload, 1) := by decide +kernel
theorem dX11_isClaim_10 : decode cX11_isClaim 10 = .ok (.iconst 1, 1) := by decide +kernel
theorem dX11_isClaim_11 : decode cX11_isClaim 11 = .ok (.isub, 1) := by decide +kernel
theorem dX11_isClaim_12 : decode cX11_isClaim 12 = .ok (.i2l, 1) := by decide +kernel
theorem dX11_isClaim_13 : decode cX11_isClaim 13 = .ok (.invokestatic 70, 3) := by decide +kernel
theorem dX11_isClaim_16 : decode cX11_isClaim 16 = .ok (.ireturn, 1) := by decide +kernel
theorem dX11_chance_0 : decode cX11_chance 0 = .ok (.aload_n 0, 1) := by decide +kernel
theorem dX11_chance_1 : decode cX11_chance 1 = .ok (.iload_n 1, 1) := by decide +kernel
theorem dX11_chance_2 : decode cX11_chance 2 = .ok (.invokevirtual 326, 3) := by decide +kernel
theorem dX11_chance_5 : decode cX11_chance 5 = .ok (.ifCond .eq 20, 3) := by decide +kernel
theorem dX11_chance_8 : decode cX11_chance 8 = .ok (.iload_n 2, 1) := by decide +kernel
theorem dX11_chance_9 : decode cX11_chance 9 = .ok (.invokestatic 160, 3) := by decide +kernel
theorem dX11_chance_12 : decode cX11_chance 12 = .ok (.ifCond .eq 13, 3) := by decide +kernel
theorem dX11_chance_15 : decode cX11_chance 15 = .ok (.iload_n 3, 1) := by decide +kernel
theorem dX11_chance_16 : decode cX11_chance 16 = .ok (.i2l, 1) := by decide +kernel
theorem dX11_chance_17 : decode cX11_chance 17 = .ok (.lconst 0, 1) := by decide +kernel
theorem dX11_chance_18 : decode cX11_chance 18 = .ok (.lconst 1, 1) := by decide +kernel
theorem dX11_chance_19 : decode cX11_chance 19 = .ok (.invokestatic 70, 3) := by decide +kernel
theorem dX11_chance_22 : decode cX11_chance 22 = .ok (.ifCond .ne 7, 3) := by decide +kernel
theorem dX11_chance_25 : decode cX11_chance 25 = .ok (.ldc2_w 236, 3) := by decide +kernel
theorem dX11_chance_28 : decode cX11_chance 28 = .ok (.lreturn, 1) := by decide +kernel
theorem dX11_chance_29 : decode cX11_chance 29 = .ok (.aload_n 0, 1) := by decide +kernel
theorem dX11_chance_30 : decode cX11_chance 30 = .ok (.iload_n 2, 1) := by decide +kernel
theorem dX11_chance_31 : decode cX11_chance 31 = .ok (.invokevirtual 267, 3) := by decide +kernel
theorem dX11_chance_34 : decode cX11_chance 34 = .ok (.istore 4, 2) := by decide +kernel
theorem dX11_chance_36 : decode cX11_chance 36 = .ok (.iload 4, 2) := by decide +kernel
theorem dX11_chance_38 : decode cX11_chance 38 = .ok (.ifCond .ge 9, 3) := by decide +kernel
theorem dX11_chance_41 : decode cX11_chance 41 = .ok (.iload 4, 2) := by decide +kernel
theorem dX11_chance_43 : decode cX11_chance 43 = .ok (.i2l, 1) := by decide +kernel
theorem dX11_chance_44 : decode cX11_chance 44 = .ok (.goto 18, 3) := by decide +kernel
theorem dX11_chance_47 : decode cX11_chance 47 = .ok (.aload_n 0, 1) := by decide +kernel
theorem dX11_chance_48 : decode cX11_chance 48 = .ok (.iload_n 1, 1) := by decide +kernel
theorem dX11_chance_49 : decode cX11_chance 49 = .ok (.iload_n 2, 1) := by decide +kernel
theorem dX11_chance_50 : decode cX11_chance 50 = .ok (.iconst 0, 1) := by decide +kernel
theorem dX11_chance_51 : decode cX11_chance 51 = .ok (.invokevirtual 329, 3) := by decide +kernel
theorem dX11_chance_54 : decode cX11_chance 54 = .ok (.aload_n 0, 1) := by decide +kernel
theorem dX11_chance_55 : decode cX11_chance 55 = .ok (.getfield 217, 3) := by decide +kernel
theorem dX11_chance_58 : decode cX11_chance 58 = .ok (.iload_n 3, 1) := by decide +kernel
theorem dX11_chance_59 : decode cX11_chance 59 = .ok (.invokestatic 257, 3) := by decide +kernel
theorem dX11_chance_62 : decode cX11_chance 62 = .ok (.lreturn, 1) := by decide +kernel
theorem dX11_holds_0 : decode cX11_holds 0 = .ok (.aload_n 0, 1) := by decide +kernel
theorem dX11_holds_1 : decode cX11_holds 1 = .ok (.iload_n 1, 1) := by decide +kernel
theorem dX11_holds_2 : decode cX11_holds 2 = .ok (.invokevirtual 326, 3) := by decide +kernel
theorem dX11_holds_5 : decode cX11_holds 5 = .ok (.ifCond .eq 10, 3) := by decide +kernel
theorem dX11_holds_8 : decode cX11_holds 8 = .ok (.iload_n 2, 1) := by decide +kernel
theorem dX11_holds_9 : decode cX11_holds 9 = .ok (.invokestatic 160, 3) := by decide +kernel
theorem dX11_holds_12 : decode cX11_holds 12 = .ok (.ifCond .ne 5, 3) := by decide +kernel
theorem dX11_holds_15 : decode cX11_holds 15 = .ok (.iconst (-1), 1) := by decide +kernel
theorem dX11_holds_16 : decode cX11_holds 16 = .ok (.ireturn, 1) := by decide +kernel
theorem dX11_holds_17 : decode cX11_holds 17 = .ok (.aload_n 0, 1) := by decide +kernel
theorem dX11_holds_18 : decode cX11_holds 18 = .ok (.getfield 7, 3) := by decide +kernel
theorem dX11_holds_21 : decode cX11_holds 21 = .ok (.bipush 7, 2) := by decide +kernel
theorem dX11_holds_23 : decode cX11_holds 23 = .ok (.iload_n 2, 1) := by decide +kernel
theorem dX11_holds_24 : decode cX11_holds 24 = .ok (.iadd, 1) := by decide +kernel
theorem dX11_holds_25 : decode cX11_holds 25 = .ok (.iaload, 1) := by decide +kernel
theorem dX11_holds_26 : decode cX11_holds 26 = .ok (.ifCond .ne 6, 3) := by decide +kernel
theorem dX11_holds_29 : decode cX11_holds 29 = .ok (.bipush (-2), 2) := by decide +kernel
theorem dX11_holds_31 : decode cX11_holds 31 = .ok (.ireturn, 1) := by decide +kernel
theorem dX11_holds_32 : decode cX11_holds 32 = .ok (.sipush 326, 3) := by decide +kernel
theorem dX11_holds_35 : decode cX11_holds 35 = .ok (.bipush 14, 2) := by decide +kernel
theorem dX11_holds_37 : decode cX11_holds 37 = .ok (.iload_n 1, 1) := by decide +kernel
theorem dX11_holds_38 : decode cX11_holds 38 = .ok (.imul, 1) := by decide +kernel
theorem dX11_holds_39 : decode cX11_holds 39 = .ok (.iadd, 1) := by decide +kernel
theorem dX11_holds_40 : decode cX11_holds 40 = .ok (.istore_n 3, 1) := by decide +kernel
theorem dX11_holds_41 : decode cX11_holds 41 = .ok (.iconst 0, 1) := by decide +kernel
theorem dX11_holds_42 : decode cX11_holds 42 = .ok (.istore 4, 2) := by decide +kernel
theorem dX11_holds_44 : decode cX11_holds 44 = .ok (.iconst 0, 1) := by decide +kernel
theorem dX11_holds_45 : decode cX11_holds 45 = .ok (.istore 5, 2) := by decide +kernel
theorem dX11_holds_47 : decode cX11_holds 47 = .ok (.iconst 0, 1) := by decide +kernel
theorem dX11_holds_48 : decode cX11_holds 48 = .ok (.istore 6, 2) := by decide +kernel
theorem dX11_holds_50 : decode cX11_holds 50 = .ok (.iload 6, 2) := by decide +kernel
theorem dX11_holds_52 : decode cX11_holds 52 = .ok (.aload_n 0, 1) := by decide +kernel
theorem dX11_holds_53 : decode cX11_holds 53 = .ok (.getfield 7, 3) := by decide +kernel
theorem dX11_holds_56 : decode cX11_holds 56 = .ok (.iconst 5, 1) := by decide +kernel
theorem dX11_holds_57 : decode cX11_holds 57 = .ok (.iload_n 2, 1) := by decide +kernel
theorem dX11_holds_58 : decode cX11_holds 58 = .ok (.iadd, 1) := by decide +kernel
theorem dX11_holds_59 : decode cX11_holds 59 = .ok (.iaload, 1) := by decide +kernel
theorem dX11_holds_60 : decode cX11_holds 60 = .ok (.if_icmp .ge 101, 3) := by decide +kernel
theorem dX11_holds_63 : decode cX11_holds 63 = .ok (.aload_n 0, 1) := by decide +kernel
theorem dX11_holds_64 : decode cX11_holds 64 = .ok (.iload_n 2, 1) := by decide +kernel
theorem dX11_holds_65 : decode cX11_holds 65 = .ok (.iload 6, 2) := by decide +kernel
theorem dX11_holds_67 : decode cX11_holds 67 = .ok (.invokevirtual 177, 3) := by decide +kernel
theorem dX11_holds_70 : decode cX11_holds 70 = .ok (.iconst 2, 1) := by decide +kernel
theorem dX11_holds_71 : decode cX11_holds 71 = .ok (.if_icmp .eq 84, 3) := by decide +kernel
theorem dX11_holds_74 : decode cX11_holds 74 = .ok (.aload_n 0, 1) := by decide +kernel
theorem dX11_holds_75 : decode cX11_holds 75 = .ok (.getfield 7, 3) := by decide +kernel
theorem dX11_holds_78 : decode cX11_holds 78 = .ok (.sipush 206, 3) := by decide +kernel
theorem dX11_holds_81 : decode cX11_holds 81 = .ok (.bipush 12, 2) := by decide +kernel
theorem dX11_holds_83 : decode cX11_holds 83 = .ok (.iload_n 2, 1) := by decide +kernel
theorem dX11_holds_84 : decode cX11_holds 84 = .ok (.imul, 1) := by decide +kernel
theorem dX11_holds_85 : decode cX11_holds 85 = .ok (.iadd, 1) := by decide +kernel
theorem dX11_holds_86 : decode cX11_holds 86 = .ok (.iload 6, 2) := by decide +kernel
theorem dX11_holds_88 : decode cX11_holds 88 = .ok (.iadd, 1) := by decide +kernel
theorem dX11_holds_89 : decode cX11_holds 89 = .ok (.iaload, 1) := by decide +kernel
theorem dX11_holds_90 : decode cX11_holds 90 = .ok (.istore 7, 2) := by decide +kernel
theorem dX11_holds_92 : decode cX11_holds 92 = .ok (.iload 4, 2) := by decide +kernel
theorem dX11_holds_94 : decode cX11_holds 94 = .ok (.aload_n 0, 1) := by decide +kernel
theorem dX11_holds_95 : decode cX11_holds 95 = .ok (.iload_n 3, 1) := by decide +kernel
theorem dX11_holds_96 : decode cX11_holds 96 = .ok (.iconst 2, 1) := by decide +kernel
theorem dX11_holds_97 : decode cX11_holds 97 = .ok (.iadd, 1) := by decide +kernel
theorem dX11_holds_98 : decode cX11_holds 98 = .ok (.iload_n 2, 1) := by decide +kernel
theorem dX11_holds_99 : decode cX11_holds 99 = .ok (.iload 6, 2) := by decide +kernel
theorem dX11_holds_101 : decode cX11_holds 101 = .ok (.iload 7, 2) := by decide +kernel
theorem dX11_holds_103 : decode cX11_holds 103 = .ok (.iconst 0, 1) := by decide +kernel
theorem dX11_holds_104 : decode cX11_holds 104 = .ok (.invokevirtual 301, 3) := by decide +kernel
theorem dX11_holds_107 : decode cX11_holds 107 = .ok (.ifCond .eq 7, 3) := by decide +kernel
theorem dX11_holds_110 : decode cX11_holds 110 = .ok (.iconst 1, 1) := by decide +kernel
theorem dX11_holds_111 : decode cX11_holds 111 = .ok (.goto 4, 3) := by decide +kernel
theorem dX11_holds_114 : decode cX11_holds 114 = .ok (.iconst 0, 1) := by decide +kernel
theorem dX11_holds_115 : decode cX11_holds 115 = .ok (.iadd, 1) := by decide +kernel
theorem dX11_holds_116 : decode cX11_holds 116 = .ok (.istore 4, 2) := by decide +kernel
theorem dX11_holds_118 : decode cX11_holds 118 = .ok (.iload 5, 2) := by decide +kernel
theorem dX11_holds_120 : decode cX11_holds 120 = .ok (.aload_n 0, 1) := by decide +kernel
theorem dX11_holds_121 : decode cX11_holds 121 = .ok (.getfield 7, 3) := by decide +kernel
theorem dX11_holds_124 : decode cX11_holds 124 = .ok (.iload_n 3, 1) := by decide +kernel
theorem dX11_holds_125 : decode cX11_holds 125 = .ok (.iaload, 1) := by decide +kernel
theorem dX11_holds_126 : decode cX11_holds 126 = .ok (.iconst 2, 1) := by decide +kernel
theorem dX11_holds_127 : decode cX11_holds 127 = .ok (.if_icmp .ne 24, 3) := by decide +kernel
theorem dX11_holds_130 : decode cX11_holds 130 = .ok (.aload_n 0, 1) := by decide +kernel
theorem dX11_holds_131 : decode cX11_holds 131 = .ok (.iload_n 3, 1) := by decide +kernel
theorem dX11_holds_132 : decode cX11_holds 132 = .ok (.bipush 8, 2) := by decide +kernel
theorem dX11_holds_134 : decode cX11_holds 134 = .ok (.iadd, 1) := by decide +kernel
theorem dX11_holds_135 : decode cX11_holds 135 = .ok (.iload_n 2, 1) := by decide +kernel
theorem dX11_holds_136 : decode cX11_holds 136 = .ok (.iload 6, 2) := by decide +kernel
theorem dX11_holds_138 : decode cX11_holds 138 = .ok (.iload 7, 2) := by decide +kernel
theorem dX11_holds_140 : decode cX11_holds 140 = .ok (.iconst 0, 1) := by decide +kernel
theorem dX11_holds_141 : decode cX11_holds 141 = .ok (.invokevirtual 301, 3) := by decide +kernel
theorem dX11_holds_144 : decode cX11_holds 144 = .ok (.ifCond .eq 7, 3) := by decide +kernel
theorem dX11_holds_147 : decode cX11_holds 147 = .ok (.iconst 1, 1) := by decide +kernel
theorem dX11_holds_148 : decode cX11_holds 148 = .ok (.goto 4, 3) := by decide +kernel
theorem dX11_holds_151 : decode cX11_holds 151 = .ok (.iconst 0, 1) := by decide +kernel
theorem dX11_holds_152 : decode cX11_holds 152 = .ok (.iadd, 1) := by decide +kernel
theorem dX11_holds_153 : decode cX11_holds 153 = .ok (.istore 5, 2) := by decide +kernel
theorem dX11_holds_155 : decode cX11_holds 155 = .ok (.iinc 6 1, 3) := by decide +kernel
theorem dX11_holds_158 : decode cX11_holds 158 = .ok (.goto (-108), 3) := by decide +kernel
theorem dX11_holds_161 : decode cX11_holds 161 = .ok (.aload_n 0, 1) := by decide +kernel
theorem dX11_holds_162 : decode cX11_holds 162 = .ok (.iload_n 1, 1) := by decide +kernel
theorem dX11_holds_163 : decode cX11_holds 163 = .ok (.iload 4, 2) := by decide +kernel
theorem dX11_holds_165 : decode cX11_holds 165 = .ok (.iload 5, 2) := by decide +kernel
theorem dX11_holds_167 : decode cX11_holds 167 = .ok (.invokevirtual 322, 3) := by decide +kernel
theorem dX11_holds_170 : decode cX11_holds 170 = .ok (.ifCond .eq 7, 3) := by decide +kernel
theorem dX11_holds_173 : decode cX11_holds 173 = .ok (.iconst 1, 1) := by decide +kernel
theorem dX11_holds_174 : decode cX11_holds 174 = .ok (.goto 4, 3) := by decide +kernel
theorem dX11_holds_177 : decode cX11_holds 177 = .ok (.iconst 0, 1) := by decide +kernel
theorem dX11_holds_178 : decode cX11_holds 178 = .ok (.ireturn, 1) := by decide +kernel
theorem dX11_looked_0 : decode cX11_looked 0 = .ok (.aload_n 0, 1) := by decide +kernel
theorem dX11_looked_1 : decode cX11_looked 1 = .ok (.iload_n 1, 1) := by decide +kernel
theorem dX11_looked_2 : decode cX11_looked 2 = .ok (.invokevirtual 326, 3) := by decide +kernel
theorem dX11_looked_5 : decode cX11_looked 5 = .ok (.ifCond .eq 46, 3) := by decide +kernel
theorem dX11_looked_8 : decode cX11_looked 8 = .ok (.iload_n 2, 1) := by decide +kernel
theorem dX11_looked_9 : decode cX11_looked 9 = .ok (.invokestatic 160, 3) := by decide +kernel
theorem dX11_looked_12 : decode cX11_looked 12 = .ok (.ifCond .eq 39, 3) := by decide +kernel
theorem dX11_looked_15 : decode cX11_looked 15 = .ok (.iload 4, 2) := by decide +kernel
theorem dX11_looked_17 : decode cX11_looked 17 = .ok (.i2l, 1) := by decide +kernel
theorem dX11_looked_18 : decode cX11_looked 18 = .ok (.lconst 1, 1) := by decide +kernel
theorem dX11_looked_19 : decode cX11_looked 19 = .ok (.ldc2_w 333, 3) := by decide +kernel
theorem dX11_looked_22 : decode cX11_looked 22 = .ok (.invokestatic 70, 3) := by decide +kernel
theorem dX11_looked_25 : decode cX11_looked 25 = .ok (.ifCond .eq 26, 3) := by decide +kernel
theorem dX11_looked_28 : decode cX11_looked 28 = .ok (.iload_n 3, 1) := by decide +kernel
theorem dX11_looked_29 : decode cX11_looked 29 = .ok (.i2l, 1) := by decide +kernel
theorem dX11_looked_30 : decode cX11_looked 30 = .ok (.lconst 0, 1) := by decide +kernel
theorem dX11_looked_31 : decode cX11_looked 31 = .ok (.iload 4, 2) := by decide +kernel
theorem dX11_looked_33 : decode cX11_looked 33 = .ok (.i2l, 1) := by decide +kernel
theorem dX11_looked_34 : decode cX11_looked 34 = .ok (.invokestatic 70, 3) := by decide +kernel
theorem dX11_looked_37 : decode cX11_looked 37 = .ok (.ifCond .eq 14, 3) := by decide +kernel
theorem dX11_looked_40 : decode cX11_looked 40 = .ok (.iload 5, 2) := by decide +kernel
theorem dX11_looked_42 : decode cX11_looked 42 = .ok (.i2l, 1) := by decide +kernel
theorem dX11_looked_43 : decode cX11_looked 43 = .ok (.lconst 0, 1) := by decide +kernel
theorem dX11_looked_44 : decode cX11_looked 44 = .ok (.lconst 1, 1) := by decide +kernel
theorem dX11_looked_45 : decode cX11_looked 45 = .ok (.invokestatic 70, 3) := by decide +kernel
theorem dX11_looked_48 : decode cX11_looked 48 = .ok (.ifCond .ne 5, 3) := by decide +kernel
theorem dX11_looked_51 : decode cX11_looked 51 = .ok (.iconst (-1), 1) := by decide +kernel
theorem dX11_looked_52 : decode cX11_looked 52 = .ok (.ireturn, 1) := by decide +kernel
theorem dX11_looked_53 : decode cX11_looked 53 = .ok (.aload_n 0, 1) := by decide +kernel
theorem dX11_looked_54 : decode cX11_looked 54 = .ok (.iload_n 2, 1) := by decide +kernel
theorem dX11_looked_55 : decode cX11_looked 55 = .ok (.invokevirtual 267, 3) := by decide +kernel
theorem dX11_looked_58 : decode cX11_looked 58 = .ok (.istore 6, 2) := by decide +kernel
theorem dX11_looked_60 : decode cX11_looked 60 = .ok (.iload 6, 2) := by decide +kernel
theorem dX11_looked_62 : decode cX11_looked 62 = .ok (.ifCond .ge 6, 3) := by decide +kernel
theorem dX11_looked_65 : decode cX11_looked 65 = .ok (.iload 6, 2) := by decide +kernel
theorem dX11_looked_67 : decode cX11_looked 67 = .ok (.ireturn, 1) := by decide +kernel
theorem dX11_looked_68 : decode cX11_looked 68 = .ok (.sipush 326, 3) := by decide +kernel
theorem dX11_looked_71 : decode cX11_looked 71 = .ok (.bipush 14, 2) := by decide +kernel
theorem dX11_looked_73 : decode cX11_looked 73 = .ok (.iload_n 1, 1) := by decide +kernel
theorem dX11_looked_74 : decode cX11_looked 74 = .ok (.imul, 1) := by decide +kernel
theorem dX11_looked_75 : decode cX11_looked 75 = .ok (.iadd, 1) := by decide +kernel
theorem dX11_looked_76 : decode cX11_looked 76 = .ok (.istore 7, 2) := by decide +kernel
theorem dX11_looked_78 : decode cX11_looked 78 = .ok (.aload_n 0, 1) := by decide +kernel
theorem dX11_looked_79 : decode cX11_looked 79 = .ok (.getfield 7, 3) := by decide +kernel
theorem dX11_looked_82 : decode cX11_looked 82 = .ok (.iload 7, 2) := by decide +kernel
theorem dX11_looked_84 : decode cX11_looked 84 = .ok (.bipush 6, 2) := by decide +kernel
theorem dX11_looked_86 : decode cX11_looked 86 = .ok (.iadd, 1) := by decide +kernel
theorem dX11_looked_87 : decode cX11_looked 87 = .ok (.iaload, 1) := by decide +kernel
theorem dX11_looked_88 : decode cX11_looked 88 = .ok (.istore 8, 2) := by decide +kernel
theorem dX11_looked_90 : decode cX11_looked 90 = .ok (.aload_n 0, 1) := by decide +kernel
theorem dX11_looked_91 : decode cX11_looked 91 = .ok (.getfield 7, 3) := by decide +kernel
theorem dX11_looked_94 : decode cX11_looked 94 = .ok (.iload 7, 2) := by decide +kernel
theorem dX11_looked_96 : decode cX11_looked 96 = .ok (.iaload, 1) := by decide +kernel
theorem dX11_looked_97 : decode cX11_looked 97 = .ok (.iconst 2, 1) := by decide +kernel
theorem dX11_looked_98 : decode cX11_looked 98 = .ok (.if_icmp .ne 31, 3) := by decide +kernel
theorem dX11_looked_101 : decode cX11_looked 101 = .ok (.aload_n 0, 1) := by decide +kernel
theorem dX11_looked_102 : decode cX11_looked 102 = .ok (.getfield 7, 3) := by decide +kernel
theorem dX11_looked_105 : decode cX11_looked 105 = .ok (.iload 7, 2) := by decide +kernel
theorem dX11_looked_107 : decode cX11_looked 107 = .ok (.bipush 12, 2) := by decide +kernel
theorem dX11_looked_109 : decode cX11_looked 109 = .ok (.iadd, 1) := by decide +kernel
theorem dX11_looked_110 : decode cX11_looked 110 = .ok (.iaload, 1) := by decide +kernel
theorem dX11_looked_111 : decode cX11_looked 111 = .ok (.iload 8, 2) := by decide +kernel
theorem dX11_looked_113 : decode cX11_looked 113 = .ok (.if_icmp .le 16, 3) := by decide +kernel
theorem dX11_looked_116 : decode cX11_looked 116 = .ok (.aload_n 0, 1) := by decide +kernel
theorem dX11_looked_117 : decode cX11_looked 117 = .ok (.getfield 7, 3) := by decide +kernel
theorem dX11_looked_120 : decode cX11_looked 120 = .ok (.iload 7, 2) := by decide +kernel
theorem dX11_looked_122 : decode cX11_looked 122 = .ok (.bipush 12, 2) := by decide +kernel
theorem dX11_looked_124 : decode cX11_looked 124 = .ok (.iadd, 1) := by decide +kernel
theorem dX11_looked_125 : decode cX11_looked 125 = .ok (.iaload, 1) := by decide +kernel
theorem dX11_looked_126 : decode cX11_looked 126 = .ok (.goto 5, 3) := by decide +kernel
theorem dX11_looked_129 : decode cX11_looked 129 = .ok (.iload 8, 2) := by decide +kernel
theorem dX11_looked_131 : decode cX11_looked 131 = .ok (.istore 8, 2) := by decide +kernel
theorem dX11_looked_133 : decode cX11_looked 133 = .ok (.iload 5, 2) := by decide +kernel
theorem dX11_looked_135 : decode cX11_looked 135 = .ok (.ifCond .ne 9, 3) := by decide +kernel
theorem dX11_looked_138 : decode cX11_looked 138 = .ok (.bipush 24, 2) := by decide +kernel
theorem dX11_looked_140 : decode cX11_looked 140 = .ok (.iload 8, 2) := by decide +kernel
theorem dX11_looked_142 : decode cX11_looked 142 = .ok (.isub, 1) := by decide +kernel
theorem dX11_looked_143 : decode cX11_looked 143 = .ok (.ireturn, 1) := by decide +kernel
theorem dX11_looked_144 : decode cX11_looked 144 = .ok (.iconst 0, 1) := by decide +kernel
theorem dX11_looked_145 : decode cX11_looked 145 = .ok (.istore 9, 2) := by decide +kernel
theorem dX11_looked_147 : decode cX11_looked 147 = .ok (.iconst 0, 1) := by decide +kernel
theorem dX11_looked_148 : decode cX11_looked 148 = .ok (.istore 10, 2) := by decide +kernel
theorem dX11_looked_150 : decode cX11_looked 150 = .ok (.iload 10, 2) := by decide +kernel
theorem dX11_looked_152 : decode cX11_looked 152 = .ok (.bipush 24, 2) := by decide +kernel
theorem dX11_looked_154 : decode cX11_looked 154 = .ok (.iload 8, 2) := by decide +kernel
theorem dX11_looked_156 : decode cX11_looked 156 = .ok (.isub, 1) := by decide +kernel
theorem dX11_looked_157 : decode cX11_looked 157 = .ok (.if_icmp .ge 42, 3) := by decide +kernel
theorem dX11_looked_160 : decode cX11_looked 160 = .ok (.iload 9, 2) := by decide +kernel
theorem dX11_looked_162 : decode cX11_looked 162 = .ok (.aload_n 0, 1) := by decide +kernel
theorem dX11_looked_163 : decode cX11_looked 163 = .ok (.iload_n 1, 1) := by decide +kernel
theorem dX11_looked_164 : decode cX11_looked 164 = .ok (.iload_n 2, 1) := by decide +kernel
theorem dX11_looked_165 : decode cX11_looked 165 = .ok (.iload 10, 2) := by decide +kernel
theorem dX11_looked_167 : decode cX11_looked 167 = .ok (.invokevirtual 329, 3) := by decide +kernel
theorem dX11_looked_170 : decode cX11_looked 170 = .ok (.iload 4, 2) := by decide +kernel
theorem dX11_looked_172 : decode cX11_looked 172 = .ok (.i2l, 1) := by decide +kernel
theorem dX11_looked_173 : decode cX11_looked 173 = .ok (.lmul, 1) := by decide +kernel
theorem dX11_looked_174 : decode cX11_looked 174 = .ok (.aload_n 0, 1) := by decide +kernel
theorem dX11_looked_175 : decode cX11_looked 175 = .ok (.getfield 217, 3) := by decide +kernel
theorem dX11_looked_178 : decode cX11_looked 178 = .ok (.iload_n 3, 1) := by decide +kernel
theorem dX11_looked_179 : decode cX11_looked 179 = .ok (.i2l, 1) := by decide +kernel
theorem dX11_looked_180 : decode cX11_looked 180 = .ok (.lmul, 1) := by decide +kernel
theorem dX11_looked_181 : decode cX11_looked 181 = .ok (.lcmp, 1) := by decide +kernel
theorem dX11_looked_182 : decode cX11_looked 182 = .ok (.ifCond .lt 7, 3) := by decide +kernel
theorem dX11_looked_185 : decode cX11_looked 185 = .ok (.iconst 1, 1) := by decide +kernel
theorem dX11_looked_186 : decode cX11_looked 186 = .ok (.goto 4, 3) := by decide +kernel
theorem dX11_looked_189 : decode cX11_looked 189 = .ok (.iconst 0, 1) := by decide +kernel
theorem dX11_looked_190 : decode cX11_looked 190 = .ok (.iadd, 1) := by decide +kernel
theorem dX11_looked_191 : decode cX11_looked 191 = .ok (.istore 9, 2) := by decide +kernel
theorem dX11_looked_193 : decode cX11_looked 193 = .ok (.iinc 10 1, 3) := by decide +kernel
theorem dX11_looked_196 : decode cX11_looked 196 = .ok (.goto (-46), 3) := by decide +kernel
theorem dX11_looked_199 : decode cX11_looked 199 = .ok (.iload 9, 2) := by decide +kernel
theorem dX11_looked_201 : decode cX11_looked 201 = .ok (.ireturn, 1) := by decide +kernel
theorem dX11_cause_0 : decode cX11_cause 0 = .ok (.iload_n 1, 1) := by decide +kernel
theorem dX11_cause_1 : decode cX11_cause 1 = .ok (.i2l, 1) := by decide +kernel
theorem dX11_cause_2 : decode cX11_cause 2 = .ok (.ldc2_w 335, 3) := by decide +kernel
theorem dX11_cause_5 : decode cX11_cause 5 = .ok (.ldc2_w 337, 3) := by decide +kernel
theorem dX11_cause_8 : decode cX11_cause 8 = .ok (.invokestatic 70, 3) := by decide +kernel
theorem dX11_cause_11 : decode cX11_cause 11 = .ok (.ifCond .eq 16, 3) := by decide +kernel
theorem dX11_cause_14 : decode cX11_cause 14 = .ok (.iload_n 2, 1) := by decide +kernel
theorem dX11_cause_15 : decode cX11_cause 15 = .ok (.i2l, 1) := by decide +kernel
theorem dX11_cause_16 : decode cX11_cause 16 = .ok (.iload_n 1, 1) := by decide +kernel
theorem dX11_cause_17 : decode cX11_cause 17 = .ok (.i2l, 1) := by decide +kernel
theorem dX11_cause_18 : decode cX11_cause 18 = .ok (.ldc2_w 337, 3) := by decide +kernel
theorem dX11_cause_21 : decode cX11_cause 21 = .ok (.invokestatic 70, 3) := by decide +kernel
theorem dX11_cause_24 : decode cX11_cause 24 = .ok (.ifCond .ne 5, 3) := by decide +kernel
theorem dX11_cause_27 : decode cX11_cause 27 = .ok (.iconst (-1), 1) := by decide +kernel
theorem dX11_cause_28 : decode cX11_cause 28 = .ok (.ireturn, 1) := by decide +kernel
theorem dX11_cause_29 : decode cX11_cause 29 = .ok (.aload_n 0, 1) := by decide +kernel
theorem dX11_cause_30 : decode cX11_cause 30 = .ok (.getfield 7, 3) := by decide +kernel
theorem dX11_cause_33 : decode cX11_cause 33 = .ok (.bipush 13, 2) := by decide +kernel
theorem dX11_cause_35 : decode cX11_cause 35 = .ok (.iaload, 1) := by decide +kernel
theorem dX11_cause_36 : decode cX11_cause 36 = .ok (.iconst 5, 1) := by decide +kernel
theorem dX11_cause_37 : decode cX11_cause 37 = .ok (.if_icmp .ne 6, 3) := by decide +kernel
theorem dX11_cause_40 : decode cX11_cause 40 = .ok (.bipush (-3), 2) := by decide +kernel
theorem dX11_cause_42 : decode cX11_cause 42 = .ok (.ireturn, 1) := by decide +kernel
theorem dX11_cause_43 : decode cX11_cause 43 = .ok (.aload_n 0, 1) := by decide +kernel
theorem dX11_cause_44 : decode cX11_cause 44 = .ok (.getfield 7, 3) := by decide +kernel
theorem dX11_cause_47 : decode cX11_cause 47 = .ok (.sipush 382, 3) := by decide +kernel
theorem dX11_cause_50 : decode cX11_cause 50 = .ok (.iconst 2, 1) := by decide +kernel
theorem dX11_cause_51 : decode cX11_cause 51 = .ok (.aload_n 0, 1) := by decide +kernel
theorem dX11_cause_52 : decode cX11_cause 52 = .ok (.getfield 7, 3) := by decide +kernel
theorem dX11_cause_55 : decode cX11_cause 55 = .ok (.bipush 13, 2) := by decide +kernel
theorem dX11_cause_57 : decode cX11_cause 57 = .ok (.iaload, 1) := by decide +kernel
theorem dX11_cause_58 : decode cX11_cause 58 = .ok (.imul, 1) := by decide +kernel
theorem dX11_cause_59 : decode cX11_cause 59 = .ok (.iadd, 1) := by decide +kernel
theorem dX11_cause_60 : decode cX11_cause 60 = .ok (.iload_n 1, 1) := by decide +kernel
theorem dX11_cause_61 : decode cX11_cause 61 = .ok (.iastore, 1) := by decide +kernel
theorem dX11_cause_62 : decode cX11_cause 62 = .ok (.aload_n 0, 1) := by decide +kernel
theorem dX11_cause_63 : decode cX11_cause 63 = .ok (.getfield 7, 3) := by decide +kernel
theorem dX11_cause_66 : decode cX11_cause 66 = .ok (.sipush 382, 3) := by decide +kernel
theorem dX11_cause_69 : decode cX11_cause 69 = .ok (.iconst 2, 1) := by decide +kernel
theorem dX11_cause_70 : decode cX11_cause 70 = .ok (.aload_n 0, 1) := by decide +kernel
theorem dX11_cause_71 : decode cX11_cause 71 = .ok (.getfield 7, 3) := by decide +kernel
theorem dX11_cause_74 : decode cX11_cause 74 = .ok (.bipush 13, 2) := by decide +kernel
theorem dX11_cause_76 : decode cX11_cause 76 = .ok (.iaload, 1) := by decide +kernel
theorem dX11_cause_77 : decode cX11_cause 77 = .ok (.imul, 1) := by decide +kernel
theorem dX11_cause_78 : decode cX11_cause 78 = .ok (.iadd, 1) := by decide +kernel
theorem dX11_cause_79 : decode cX11_cause 79 = .ok (.iconst 1, 1) := by decide +kernel
theorem dX11_cause_80 : decode cX11_cause 80 = .ok (.iadd, 1) := by decide +kernel
theorem dX11_cause_81 : decode cX11_cause 81 = .ok (.iload_n 2, 1) := by decide +kernel
theorem dX11_cause_82 : decode cX11_cause 82 = .ok (.iastore, 1) := by decide +kernel
theorem dX11_cause_83 : decode cX11_cause 83 = .ok (.aload_n 0, 1) := by decide +kernel
theorem dX11_cause_84 : decode cX11_cause 84 = .ok (.getfield 7, 3) := by decide +kernel
theorem dX11_cause_87 : decode cX11_cause 87 = .ok (.bipush 13, 2) := by decide +kernel
theorem dX11_cause_89 : decode cX11_cause 89 = .ok (.dup2, 1) := by decide +kernel
theorem dX11_cause_90 : decode cX11_cause 90 = .ok (.iaload, 1) := by decide +kernel
theorem dX11_cause_91 : decode cX11_cause 91 = .ok (.iconst 1, 1) := by decide +kernel
theorem dX11_cause_92 : decode cX11_cause 92 = .ok (.iadd, 1) := by decide +kernel
theorem dX11_cause_93 : decode cX11_cause 93 = .ok (.iastore, 1) := by decide +kernel
theorem dX11_cause_94 : decode cX11_cause 94 = .ok (.aload_n 0, 1) := by decide +kernel
theorem dX11_cause_95 : decode cX11_cause 95 = .ok (.getfield 7, 3) := by decide +kernel
theorem dX11_cause_98 : decode cX11_cause 98 = .ok (.bipush 13, 2) := by decide +kernel
theorem dX11_cause_100 : decode cX11_cause 100 = .ok (.iaload, 1) := by decide +kernel
theorem dX11_cause_101 : decode cX11_cause 101 = .ok (.iconst 1, 1) := by decide +kernel
theorem dX11_cause_102 : decode cX11_cause 102 = .ok (.isub, 1) := by decide +kernel
theorem dX11_cause_103 : decode cX11_cause 103 = .ok (.ireturn, 1) := by decide +kernel
theorem dX11_says_0 : decode cX11_says 0 = .ok (.iload_n 1, 1) := by decide +kernel
theorem dX11_says_1 : decode cX11_says 1 = .ok (.invokestatic 160, 3) := by decide +kernel
theorem dX11_says_4 : decode cX11_says 4 = .ok (.ifCond .eq 39, 3) := by decide +kernel
theorem dX11_says_7 : decode cX11_says 7 = .ok (.aload_n 0, 1) := by decide +kernel
theorem dX11_says_8 : decode cX11_says 8 = .ok (.iload_n 1, 1) := by decide +kernel
theorem dX11_says_9 : decode cX11_says 9 = .ok (.iload_n 2, 1) := by decide +kernel
theorem dX11_says_10 : decode cX11_says 10 = .ok (.invokevirtual 174, 3) := by decide +kernel
theorem dX11_says_13 : decode cX11_says 13 = .ok (.ifCond .eq 30, 3) := by decide +kernel
theorem dX11_says_16 : decode cX11_says 16 = .ok (.aload_n 0, 1) := by decide +kernel
theorem dX11_says_17 : decode cX11_says 17 = .ok (.iload_n 1, 1) := by decide +kernel
theorem dX11_says_18 : decode cX11_says 18 = .ok (.iload_n 3, 1) := by decide +kernel
theorem dX11_says_19 : decode cX11_says 19 = .ok (.invokevirtual 174, 3) := by decide +kernel
theorem dX11_says_22 : decode cX11_says 22 = .ok (.ifCond .eq 21, 3) := by decide +kernel
theorem dX11_says_25 : decode cX11_says 25 = .ok (.iload_n 3, 1) := by decide +kernel
theorem dX11_says_26 : decode cX11_says 26 = .ok (.iload_n 2, 1) := by decide +kernel
theorem dX11_says_27 : decode cX11_says 27 = .ok (.if_icmp .le 16, 3) := by decide +kernel
theorem dX11_says_30 : decode cX11_says 30 = .ok (.iload 4, 2) := by decide +kernel
theorem dX11_says_32 : decode cX11_says 32 = .ok (.i2l, 1) := by decide +kernel
theorem dX11_says_33 : decode cX11_says 33 = .ok (.lconst 0, 1) := by decide +kernel
theorem dX11_says_34 : decode cX11_says 34 = .ok (.ldc2_w 180, 3) := by decide +kernel
theorem dX11_says_37 : decode cX11_says 37 = .ok (.invokestatic 70, 3) := by decide +kernel
theorem dX11_says_40 : decode cX11_says 40 = .ok (.ifCond .ne 5, 3) := by decide +kernel
theorem dX11_says_43 : decode cX11_says 43 = .ok (.iconst (-1), 1) := by decide +kernel
theorem dX11_says_44 : decode cX11_says 44 = .ok (.ireturn, 1) := by decide +kernel
theorem dX11_says_45 : decode cX11_says 45 = .ok (.aload_n 0, 1) := by decide +kernel
theorem dX11_says_46 : decode cX11_says 46 = .ok (.iload_n 1, 1) := by decide +kernel
theorem dX11_says_47 : decode cX11_says 47 = .ok (.iload_n 2, 1) := by decide +kernel
theorem dX11_says_48 : decode cX11_says 48 = .ok (.invokevirtual 177, 3) := by decide +kernel
theorem dX11_says_51 : decode cX11_says 51 = .ok (.ifCond .ne 12, 3) := by decide +kernel
theorem dX11_says_54 : decode cX11_says 54 = .ok (.aload_n 0, 1) := by decide +kernel
theorem dX11_says_55 : decode cX11_says 55 = .ok (.iload_n 1, 1) := by decide +kernel
theorem dX11_says_56 : decode cX11_says 56 = .ok (.iload_n 3, 1) := by decide +kernel
theorem dX11_says_57 : decode cX11_says 57 = .ok (.invokevirtual 177, 3) := by decide +kernel
theorem dX11_says_60 : decode cX11_says 60 = .ok (.ifCond .eq 6, 3) := by decide +kernel
theorem dX11_says_63 : decode cX11_says 63 = .ok (.bipush (-12), 2) := by decide +kernel
theorem dX11_says_65 : decode cX11_says 65 = .ok (.ireturn, 1) := by decide +kernel
theorem dX11_says_66 : decode cX11_says 66 = .ok (.aload_n 0, 1) := by decide +kernel
theorem dX11_says_67 : decode cX11_says 67 = .ok (.iload_n 1, 1) := by decide +kernel
theorem dX11_says_68 : decode cX11_says 68 = .ok (.iload_n 3, 1) := by decide +kernel
theorem dX11_says_69 : decode cX11_says 69 = .ok (.invokevirtual 186, 3) := by decide +kernel
theorem dX11_says_72 : decode cX11_says 72 = .ok (.aload_n 0, 1) := by decide +kernel
theorem dX11_says_73 : decode cX11_says 73 = .ok (.iload_n 1, 1) := by decide +kernel
theorem dX11_says_74 : decode cX11_says 74 = .ok (.iload_n 2, 1) := by decide +kernel
theorem dX11_says_75 : decode cX11_says 75 = .ok (.invokevirtual 186, 3) := by decide +kernel
theorem dX11_says_78 : decode cX11_says 78 = .ok (.isub, 1) := by decide +kernel
theorem dX11_says_79 : decode cX11_says 79 = .ok (.istore 5, 2) := by decide +kernel
theorem dX11_says_81 : decode cX11_says 81 = .ok (.iconst 0, 1) := by decide +kernel
theorem dX11_says_82 : decode cX11_says 82 = .ok (.istore 6, 2) := by decide +kernel
theorem dX11_says_84 : decode cX11_says 84 = .ok (.bipush (-4), 2) := by decide +kernel
theorem dX11_says_86 : decode cX11_says 86 = .ok (.istore 7, 2) := by decide +kernel
theorem dX11_says_88 : decode cX11_says 88 = .ok (.iconst (-1), 1) := by decide +kernel
theorem dX11_says_89 : decode cX11_says 89 = .ok (.istore 8, 2) := by decide +kernel
theorem dX11_says_91 : decode cX11_says 91 = .ok (.iconst 1, 1) := by decide +kernel
theorem dX11_says_92 : decode cX11_says 92 = .ok (.istore 9, 2) := by decide +kernel
theorem dX11_says_94 : decode cX11_says 94 = .ok (.iload 9, 2) := by decide +kernel
theorem dX11_says_96 : decode cX11_says 96 = .ok (.iconst 1, 1) := by decide +kernel
theorem dX11_says_97 : decode cX11_says 97 = .ok (.aload_n 0, 1) := by decide +kernel
theorem dX11_says_98 : decode cX11_says 98 = .ok (.getfield 7, 3) := by decide +kernel
theorem dX11_says_101 : decode cX11_says 101 = .ok (.bipush 13, 2) := by decide +kernel
theorem dX11_says_103 : decode cX11_says 103 = .ok (.iaload, 1) := by decide +kernel
theorem dX11_says_104 : decode cX11_says 104 = .ok (.ishl, 1) := by decide +kernel
theorem dX11_says_105 : decode cX11_says 105 = .ok (.if_icmp .ge 57, 3) := by decide +kernel
theorem dX11_says_108 : decode cX11_says 108 = .ok (.aload_n 0, 1) := by decide +kernel
theorem dX11_says_109 : decode cX11_says 109 = .ok (.iload 9, 2) := by decide +kernel
theorem dX11_says_111 : decode cX11_says 111 = .ok (.iload 5, 2) := by decide +kernel
theorem dX11_says_113 : decode cX11_says 113 = .ok (.invokevirtual 339, 3) := by decide +kernel
theorem dX11_says_116 : decode cX11_says 116 = .ok (.ifCond .eq 40, 3) := by decide +kernel
theorem dX11_says_119 : decode cX11_says 119 = .ok (.iinc 6 1, 3) := by decide +kernel
theorem dX11_says_122 : decode cX11_says 122 = .ok (.iload 7, 2) := by decide +kernel
theorem dX11_says_124 : decode cX11_says 124 = .ok (.ifCond .lt 16, 3) := by decide +kernel
theorem dX11_says_127 : decode cX11_says 127 = .ok (.iload 9, 2) := by decide +kernel
theorem dX11_says_129 : decode cX11_says 129 = .ok (.invokestatic 270, 3) := by decide +kernel
theorem dX11_says_132 : decode cX11_says 132 = .ok (.iload 7, 2) := by decide +kernel
theorem dX11_says_134 : decode cX11_says 134 = .ok (.invokestatic 270, 3) := by decide +kernel
theorem dX11_says_137 : decode cX11_says 137 = .ok (.if_icmp .ge 8, 3) := by decide +kernel
theorem dX11_says_140 : decode cX11_says 140 = .ok (.iload 9, 2) := by decide +kernel
theorem dX11_says_142 : decode cX11_says 142 = .ok (.goto 5, 3) := by decide +kernel
theorem dX11_says_145 : decode cX11_says 145 = .ok (.iload 7, 2) := by decide +kernel
theorem dX11_says_147 : decode cX11_says 147 = .ok (.istore 7, 2) := by decide +kernel
theorem dX11_says_149 : decode cX11_says 149 = .ok (.iload 8, 2) := by decide +kernel
theorem dX11_says_151 : decode cX11_says 151 = .ok (.iload 9, 2) := by decide +kernel
theorem dX11_says_153 : decode cX11_says 153 = .ok (.iand, 1) := by decide +kernel
theorem dX11_says_154 : decode cX11_says 154 = .ok (.istore 8, 2) := by decide +kernel
theorem dX11_says_156 : decode cX11_says 156 = .ok (.iinc 9 1, 3) := by decide +kernel
theorem dX11_says_159 : decode cX11_says 159 = .ok (.goto (-65), 3) := by decide +kernel
theorem dX11_says_162 : decode cX11_says 162 = .ok (.iload 4, 2) := by decide +kernel
theorem dX11_says_164 : decode cX11_says 164 = .ok (.ifCond .ne 8, 3) := by decide +kernel
theorem dX11_says_167 : decode cX11_says 167 = .ok (.iload 6, 2) := by decide +kernel
theorem dX11_says_169 : decode cX11_says 169 = .ok (.goto 26, 3) := by decide +kernel
theorem dX11_says_172 : decode cX11_says 172 = .ok (.iload 6, 2) := by decide +kernel
theorem dX11_says_174 : decode cX11_says 174 = .ok (.ifCond .ne 8, 3) := by decide +kernel
theorem dX11_says_177 : decode cX11_says 177 = .ok (.bipush (-4), 2) := by decide +kernel
theorem dX11_says_179 : decode cX11_says 179 = .ok (.goto 16, 3) := by decide +kernel
theorem dX11_says_182 : decode cX11_says 182 = .ok (.iload 4, 2) := by decide +kernel
theorem dX11_says_184 : decode cX11_says 184 = .ok (.iconst 1, 1) := by decide +kernel
theorem dX11_says_185 : decode cX11_says 185 = .ok (.if_icmp .ne 8, 3) := by decide +kernel
theorem dX11_says_188 : decode cX11_says 188 = .ok (.iload 7, 2) := by decide +kernel
theorem dX11_says_190 : decode cX11_says 190 = .ok (.goto 5, 3) := by decide +kernel
theorem dX11_says_193 : decode cX11_says 193 = .ok (.iload 8, 2) := by decide +kernel
theorem dX11_says_195 : decode cX11_says 195 = .ok (.ireturn, 1) := by decide +kernel
theorem dX11_image_0 : decode cX11_image 0 = .ok (.iconst 0, 1) := by decide +kernel
theorem dX11_image_1 : decode cX11_image 1 = .ok (.istore_n 1, 1) := by decide +kernel
theorem dX11_image_2 : decode cX11_image 2 = .ok (.iload_n 1, 1) := by decide +kernel
theorem dX11_image_3 : decode cX11_image 3 = .ok (.sipush 392, 3) := by decide +kernel
theorem dX11_image_6 : decode cX11_image 6 = .ok (.if_icmp .ge 21, 3) := by decide +kernel
theorem dX11_image_9 : decode cX11_image 9 = .ok (.aload_n 0, 1) := by decide +kernel
theorem dX11_image_10 : decode cX11_image 10 = .ok (.getfield 56, 3) := by decide +kernel
theorem dX11_image_13 : decode cX11_image 13 = .ok (.iload_n 1, 1) := by decide +kernel
theorem dX11_image_14 : decode cX11_image 14 = .ok (.aload_n 0, 1) := by decide +kernel
theorem dX11_image_15 : decode cX11_image 15 = .ok (.getfield 7, 3) := by decide +kernel
theorem dX11_image_18 : decode cX11_image 18 = .ok (.iload_n 1, 1) := by decide +kernel
theorem dX11_image_19 : decode cX11_image 19 = .ok (.iaload, 1) := by decide +kernel
theorem dX11_image_20 : decode cX11_image 20 = .ok (.iastore, 1) := by decide +kernel
theorem dX11_image_21 : decode cX11_image 21 = .ok (.iinc 1 1, 3) := by decide +kernel
theorem dX11_image_24 : decode cX11_image 24 = .ok (.goto (-22), 3) := by decide +kernel
theorem dX11_image_27 : decode cX11_image 27 = .ok (.aload_n 0, 1) := by decide +kernel
theorem dX11_image_28 : decode cX11_image 28 = .ok (.iconst 1, 1) := by decide +kernel
theorem dX11_image_29 : decode cX11_image 29 = .ok (.putfield 342, 3) := by decide +kernel
theorem dX11_image_32 : decode cX11_image 32 = .ok (.iconst 1, 1) := by decide +kernel
theorem dX11_image_33 : decode cX11_image 33 = .ok (.ireturn, 1) := by decide +kernel
theorem dX11_restore_0 : decode cX11_restore 0 = .ok (.aload_n 0, 1) := by decide +kernel
theorem dX11_restore_1 : decode cX11_restore 1 = .ok (.getfield 342, 3) := by decide +kernel
theorem dX11_restore_4 : decode cX11_restore 4 = .ok (.ifCond .ne 6, 3) := by decide +kernel
theorem dX11_restore_7 : decode cX11_restore 7 = .ok (.bipush (-4), 2) := by decide +kernel
theorem dX11_restore_9 : decode cX11_restore 9 = .ok (.ireturn, 1) := by decide +kernel
theorem dX11_restore_10 : decode cX11_restore 10 = .ok (.iconst 0, 1) := by decide +kernel
theorem dX11_restore_11 : decode cX11_restore 11 = .ok (.istore_n 1, 1) := by decide +kernel
theorem dX11_restore_12 : decode cX11_restore 12 = .ok (.iload_n 1, 1) := by decide +kernel
theorem dX11_restore_13 : decode cX11_restore 13 = .ok (.sipush 392, 3) := by decide +kernel
theorem dX11_restore_16 : decode cX11_restore 16 = .ok (.if_icmp .ge 21, 3) := by decide +kernel
theorem dX11_restore_19 : decode cX11_restore 19 = .ok (.aload_n 0, 1) := by decide +kernel
theorem dX11_restore_20 : decode cX11_restore 20 = .ok (.getfield 7, 3) := by decide +kernel
theorem dX11_restore_23 : decode cX11_restore 23 = .ok (.iload_n 1, 1) := by decide +kernel
theorem dX11_restore_24 : decode cX11_restore 24 = .ok (.aload_n 0, 1) := by decide +kernel
theorem dX11_restore_25 : decode cX11_restore 25 = .ok (.getfield 56, 3) := by decide +kernel
theorem dX11_restore_28 : decode cX11_restore 28 = .ok (.iload_n 1, 1) := by decide +kernel
theorem dX11_restore_29 : decode cX11_restore 29 = .ok (.iaload, 1) := by decide +kernel
theorem dX11_restore_30 : decode cX11_restore 30 = .ok (.iastore, 1) := by decide +kernel
theorem dX11_restore_31 : decode cX11_restore 31 = .ok (.iinc 1 1, 3) := by decide +kernel
theorem dX11_restore_34 : decode cX11_restore 34 = .ok (.goto (-22), 3) := by decide +kernel
theorem dX11_restore_37 : decode cX11_restore 37 = .ok (.iconst 1, 1) := by decide +kernel
theorem dX11_restore_38 : decode cX11_restore 38 = .ok (.ireturn, 1) := by decide +kernel
theorem dX11_isSheet_0 : decode cX11_isSheet 0 = .ok (.iload_n 0, 1) := by decide +kernel
theorem dX11_isSheet_1 : decode cX11_isSheet 1 = .ok (.i2l, 1) := by decide +kernel
theorem dX11_isSheet_2 : decode cX11_isSheet 2 = .ok (.lconst 0, 1) := by decide +kernel
theorem dX11_isSheet_3 : decode cX11_isSheet 3 = .ok (.ldc2_w 346, 3) := by decide +kernel
theorem dX11_isSheet_6 : decode cX11_isSheet 6 = .ok (.invokestatic 70, 3) := by decide +kernel
theorem dX11_isSheet_9 : decode cX11_isSheet 9 = .ok (.ifCond .eq 19, 3) := by decide +kernel
theorem dX11_isSheet_12 : decode cX11_isSheet 12 = .ok (.iload_n 1, 1) := by decide +kernel
theorem dX11_isSheet_13 : decode cX11_isSheet 13 = .ok (.i2l, 1) := by decide +kernel
theorem dX11_isSheet_14 : decode cX11_isSheet 14 = .ok (.lconst 0, 1) := by decide +kernel
theorem dX11_isSheet_15 : decode cX11_isSheet 15 = .ok (.ldc2_w 180, 3) := by decide +kernel
theorem dX11_isSheet_18 : decode cX11_isSheet 18 = .ok (.invokestatic 70, 3) := by decide +kernel
theorem dX11_isSheet_21 : decode cX11_isSheet 21 = .ok (.ifCond .eq 7, 3) := by decide +kernel
theorem dX11_isSheet_24 : decode cX11_isSheet 24 = .ok (.iconst 1, 1) := by decide +kernel
theorem dX11_isSheet_25 : decode cX11_isSheet 25 = .ok (.goto 4, 3) := by decide +kernel
theorem dX11_isSheet_28 : decode cX11_isSheet 28 = .ok (.iconst 0, 1) := by decide +kernel
theorem dX11_isSheet_29 : decode cX11_isSheet 29 = .ok (.ireturn, 1) := by decide +kernel
theorem dX11_sheet_0 : decode cX11_sheet 0 = .ok (.iload_n 1, 1) := by decide +kernel
theorem dX11_sheet_1 : decode cX11_sheet 1 = .ok (.iload_n 2, 1) := by decide +kernel
theorem dX11_sheet_2 : decode cX11_sheet 2 = .ok (.invokestatic 276, 3) := by decide +kernel
theorem dX11_sheet_5 : decode cX11_sheet 5 = .ok (.ifCond .eq 9, 3) := by decide +kernel
theorem dX11_sheet_8 : decode cX11_sheet 8 = .ok (.iload_n 3, 1) := by decide +kernel
theorem dX11_sheet_9 : decode cX11_sheet 9 = .ok (.bipush 24, 2) := by decide +kernel
theorem dX11_sheet_11 : decode cX11_sheet 11 = .ok (.if_icmp .le 5, 3) := by decide +kernel
theorem dX11_sheet_14 : decode cX11_sheet 14 = .ok (.iconst (-1), 1) := by decide +kernel
theorem dX11_sheet_15 : decode cX11_sheet 15 = .ok (.ireturn, 1) := by decide +kernel
theorem dX11_sheet_16 : decode cX11_sheet 16 = .ok (.iload_n 3, 1) := by decide +kernel
theorem dX11_sheet_17 : decode cX11_sheet 17 = .ok (.ifCond .ge 6, 3) := by decide +kernel
theorem dX11_sheet_20 : decode cX11_sheet 20 = .ok (.bipush (-14), 2) := by decide +kernel
theorem dX11_sheet_22 : decode cX11_sheet 22 = .ok (.ireturn, 1) := by decide +kernel
theorem dX11_sheet_23 : decode cX11_sheet 23 = .ok (.aload_n 0, 1) := by decide +kernel
theorem dX11_sheet_24 : decode cX11_sheet 24 = .ok (.getfield 59, 3) := by decide +kernel
theorem dX11_sheet_27 : decode cX11_sheet 27 = .ok (.iload_n 1, 1) := by decide +kernel
theorem dX11_sheet_28 : decode cX11_sheet 28 = .ok (.iload_n 2, 1) := by decide +kernel
theorem dX11_sheet_29 : decode cX11_sheet 29 = .ok (.iastore, 1) := by decide +kernel
theorem dX11_sheet_30 : decode cX11_sheet 30 = .ok (.aload_n 0, 1) := by decide +kernel
theorem dX11_sheet_31 : decode cX11_sheet 31 = .ok (.getfield 62, 3) := by decide +kernel
theorem dX11_sheet_34 : decode cX11_sheet 34 = .ok (.iload_n 1, 1) := by decide +kernel
theorem dX11_sheet_35 : decode cX11_sheet 35 = .ok (.iload_n 3, 1) := by decide +kernel
theorem dX11_sheet_36 : decode cX11_sheet 36 = .ok (.iastore, 1) := by decide +kernel
theorem dX11_sheet_37 : decode cX11_sheet 37 = .ok (.iconst 0, 1) := by decide +kernel
theorem dX11_sheet_38 : decode cX11_sheet 38 = .ok (.istore 4, 2) := by decide +kernel
theorem dX11_sheet_40 : decode cX11_sheet 40 = .ok (.iload 4, 2) := by decide +kernel
theorem dX11_sheet_42 : decode cX11_sheet 42 = .ok (.bipush 24, 2) := by decide +kernel
theorem dX11_sheet_44 : decode cX11_sheet 44 = .ok (.if_icmp .ge 22, 3) := by decide +kernel
theorem dX11_sheet_47 : decode cX11_sheet 47 = .ok (.aload_n 0, 1) := by decide +kernel
theorem dX11_sheet_48 : decode cX11_sheet 48 = .ok (.getfield 65, 3) := by decide +kernel
theorem dX11_sheet_51 : decode cX11_sheet 51 = .ok (.bipush 24, 2) := by decide +kernel
theorem dX11_sheet_53 : decode cX11_sheet 53 = .ok (.iload_n 1, 1) := by decide +kernel
theorem dX11_sheet_54 : decode cX11_sheet 54 = .ok (.imul, 1) := by decide +kernel
theorem dX11_sheet_55 : decode cX11_sheet 55 = .ok (.iload 4, 2) := by decide +kernel
theorem dX11_sheet_57 : decode cX11_sheet 57 = .ok (.iadd, 1) := by decide +kernel
theorem dX11_sheet_58 : decode cX11_sheet 58 = .ok (.iconst 0, 1) := by decide +kernel
theorem dX11_sheet_59 : decode cX11_sheet 59 = .ok (.iastore, 1) := by decide +kernel
theorem dX11_sheet_60 : decode cX11_sheet 60 = .ok (.iinc 4 1, 3) := by decide +kernel
theorem dX11_sheet_63 : decode cX11_sheet 63 = .ok (.goto (-23), 3) := by decide +kernel
theorem dX11_sheet_66 : decode cX11_sheet 66 = .ok (.iload_n 3, 1) := by decide +kernel
theorem dX11_sheet_67 : decode cX11_sheet 67 = .ok (.ireturn, 1) := by decide +kernel
theorem dX11_drop_0 : decode cX11_drop 0 = .ok (.iload_n 1, 1) := by decide +kernel
theorem dX11_drop_1 : decode cX11_drop 1 = .ok (.i2l, 1) := by decide +kernel
theorem dX11_drop_2 : decode cX11_drop 2 = .ok (.lconst 0, 1) := by decide +kernel
theorem dX11_drop_3 : decode cX11_drop 3 = .ok (.ldc2_w 346, 3) := by decide +kernel
theorem dX11_drop_6 : decode cX11_drop 6 = .ok (.invokestatic 70, 3) := by decide +kernel
theorem dX11_drop_9 : decode cX11_drop 9 = .ok (.ifCond .ne 5, 3) := by decide +kernel
theorem dX11_drop_12 : decode cX11_drop 12 = .ok (.iconst (-1), 1) := by decide +kernel
theorem dX11_drop_13 : decode cX11_drop 13 = .ok (.ireturn, 1) := by decide +kernel
theorem dX11_drop_14 : decode cX11_drop 14 = .ok (.aload_n 0, 1) := by decide +kernel
theorem dX11_drop_15 : decode cX11_drop 15 = .ok (.getfield 59, 3) := by decide +kernel
theorem dX11_drop_18 : decode cX11_drop 18 = .ok (.iload_n 1, 1) := by decide +kernel
theorem dX11_drop_19 : decode cX11_drop 19 = .ok (.iaload, 1) := by decide +kernel
theorem dX11_drop_20 : decode cX11_drop 20 = .ok (.ifCond .ge 6, 3) := by decide +kernel
theorem dX11_drop_23 : decode cX11_drop 23 = .ok (.bipush (-11), 2) := by decide +kernel
theorem dX11_drop_25 : decode cX11_drop 25 = .ok (.ireturn, 1) := by decide +kernel
theorem dX11_drop_26 : decode cX11_drop 26 = .ok (.aload_n 0, 1) := by decide +kernel
theorem dX11_drop_27 : decode cX11_drop 27 = .ok (.getfield 59, 3) := by decide +kernel
theorem dX11_drop_30 : decode cX11_drop 30 = .ok (.iload_n 1, 1) := by decide +kernel
theorem dX11_drop_31 : decode cX11_drop 31 = .ok (.iconst (-1), 1) := by decide +kernel
theorem dX11_drop_32 : decode cX11_drop 32 = .ok (.iastore, 1) := by decide +kernel
theorem dX11_drop_33 : decode cX11_drop 33 = .ok (.aload_n 0, 1) := by decide +kernel
theorem dX11_drop_34 : decode cX11_drop 34 = .ok (.getfield 62, 3) := by decide +kernel
theorem dX11_drop_37 : decode cX11_drop 37 = .ok (.iload_n 1, 1) := by decide +kernel
theorem dX11_drop_38 : decode cX11_drop 38 = .ok (.iaload, 1) := by decide +kernel
theorem dX11_drop_39 : decode cX11_drop 39 = .ok (.ireturn, 1) := by decide +kernel
theorem dX11_lacksRow_0 : decode cX11_lacksRow 0 = .ok (.aload_n 0, 1) := by decide +kernel
theorem dX11_lacksRow_1 : decode cX11_lacksRow 1 = .ok (.getfield 59, 3) := by decide +kernel
theorem dX11_lacksRow_4 : decode cX11_lacksRow 4 = .ok (.iload_n 1, 1) := by decide +kernel
theorem dX11_lacksRow_5 : decode cX11_lacksRow 5 = .ok (.iaload, 1) := by decide +kernel
theorem dX11_lacksRow_6 : decode cX11_lacksRow 6 = .ok (.iload_n 2, 1) := by decide +kernel
theorem dX11_lacksRow_7 : decode cX11_lacksRow 7 = .ok (.if_icmp .eq 20, 3) := by decide +kernel
theorem dX11_lacksRow_10 : decode cX11_lacksRow 10 = .ok (.aload_n 0, 1) := by decide +kernel
theorem dX11_lacksRow_11 : decode cX11_lacksRow 11 = .ok (.getfield 59, 3) := by decide +kernel
theorem dX11_lacksRow_14 : decode cX11_lacksRow 14 = .ok (.iload_n 1, 1) := by decide +kernel
theorem dX11_lacksRow_15 : decode cX11_lacksRow 15 = .ok (.iaload, 1) := by decide +kernel
theorem dX11_lacksRow_16 : decode cX11_lacksRow 16 = .ok (.ifCond .ge 8, 3) := by decide +kernel
theorem dX11_lacksRow_19 : decode cX11_lacksRow 19 = .ok (.bipush (-11), 2) := by decide +kernel
theorem dX11_lacksRow_21 : decode cX11_lacksRow 21 = .ok (.goto 5, 3) := by decide +kernel
theorem dX11_lacksRow_24 : decode cX11_lacksRow 24 = .ok (.bipush (-12), 2) := by decide +kernel
theorem dX11_lacksRow_26 : decode cX11_lacksRow 26 = .ok (.ireturn, 1) := by decide +kernel
theorem dX11_lacksRow_27 : decode cX11_lacksRow 27 = .ok (.iload_n 3, 1) := by decide +kernel
theorem dX11_lacksRow_28 : decode cX11_lacksRow 28 = .ok (.i2l, 1) := by decide +kernel
theorem dX11_lacksRow_29 : decode cX11_lacksRow 29 = .ok (.lconst 0, 1) := by decide +kernel
theorem dX11_lacksRow_30 : decode cX11_lacksRow 30 = .ok (.aload_n 0, 1) := by decide +kernel
theorem dX11_lacksRow_31 : decode cX11_lacksRow 31 = .ok (.getfield 62, 3) := by decide +kernel
theorem dX11_lacksRow_34 : decode cX11_lacksRow 34 = .ok (.iload_n 1, 1) := by decide +kernel
theorem dX11_lacksRow_35 : decode cX11_lacksRow 35 = .ok (.iaload, 1) := by decide +kernel
theorem dX11_lacksRow_36 : decode cX11_lacksRow 36 = .ok (.iload 4, 2) := by decide +kernel
theorem dX11_lacksRow_38 : decode cX11_lacksRow 38 = .ok (.isub, 1) := by decide +kernel
theorem dX11_lacksRow_39 : decode cX11_lacksRow 39 = .ok (.i2l, 1) := by decide +kernel
theorem dX11_lacksRow_40 : decode cX11_lacksRow 40 = .ok (.invokestatic 70, 3) := by decide +kernel
theorem dX11_lacksRow_43 : decode cX11_lacksRow 43 = .ok (.ifCond .eq 7, 3) := by decide +kernel
theorem dX11_lacksRow_46 : decode cX11_lacksRow 46 = .ok (.iconst 0, 1) := by decide +kernel
theorem dX11_lacksRow_47 : decode cX11_lacksRow 47 = .ok (.goto 5, 3) := by decide +kernel
theorem dX11_lacksRow_50 : decode cX11_lacksRow 50 = .ok (.bipush (-13), 2) := by decide +kernel
theorem dX11_lacksRow_52 : decode cX11_lacksRow 52 = .ok (.ireturn, 1) := by decide +kernel
theorem dX11_item_0 : decode cX11_item 0 = .ok (.iload_n 1, 1) := by decide +kernel
theorem dX11_item_1 : decode cX11_item 1 = .ok (.iload_n 2, 1) := by decide +kernel
theorem dX11_item_2 : decode cX11_item 2 = .ok (.invokestatic 276, 3) := by decide +kernel
theorem dX11_item_5 : decode cX11_item 5 = .ok (.ifCond .ne 5, 3) := by decide +kernel
theorem dX11_item_8 : decode cX11_item 8 = .ok (.iconst (-1), 1) := by decide +kernel
theorem dX11_item_9 : decode cX11_item 9 = .ok (.ireturn, 1) := by decide +kernel
theorem dX11_item_10 : decode cX11_item 10 = .ok (.aload_n 0, 1) := by decide +kernel
theorem dX11_item_11 : decode cX11_item 11 = .ok (.iload_n 1, 1) := by decide +kernel
theorem dX11_item_12 : decode cX11_item 12 = .ok (.iload_n 2, 1) := by decide +kernel
theorem dX11_item_13 : decode cX11_item 13 = .ok (.iload_n 3, 1) := by decide +kernel
theorem dX11_item_14 : decode cX11_item 14 = .ok (.iconst 1, 1) := by decide +kernel
theorem dX11_item_15 : decode cX11_item 15 = .ok (.invokevirtual 279, 3) := by decide +kernel
theorem dX11_item_18 : decode cX11_item 18 = .ok (.istore 5, 2) := by decide +kernel
theorem dX11_item_20 : decode cX11_item 20 = .ok (.iload 5, 2) := by decide +kernel
theorem dX11_item_22 : decode cX11_item 22 = .ok (.ifCond .ge 6, 3) := by decide +kernel
theorem dX11_item_25 : decode cX11_item 25 = .ok (.iload 5, 2) := by decide +kernel
theorem dX11_item_27 : decode cX11_item 27 = .ok (.ireturn, 1) := by decide +kernel
theorem dX11_item_28 : decode cX11_item 28 = .ok (.aload_n 0, 1) := by decide +kernel
theorem dX11_item_29 : decode cX11_item 29 = .ok (.getfield 65, 3) := by decide +kernel
theorem dX11_item_32 : decode cX11_item 32 = .ok (.bipush 24, 2) := by decide +kernel
theorem dX11_item_34 : decode cX11_item 34 = .ok (.iload_n 1, 1) := by decide +kernel
theorem dX11_item_35 : decode cX11_item 35 = .ok (.imul, 1) := by decide +kernel
theorem dX11_item_36 : decode cX11_item 36 = .ok (.iload_n 3, 1) := by decide +kernel
theorem dX11_item_37 : decode cX11_item 37 = .ok (.iadd, 1) := by decide +kernel
theorem dX11_item_38 : decode cX11_item 38 = .ok (.iload_n 2, 1) := by decide +kernel
theorem dX11_item_39 : decode cX11_item 39 = .ok (.ifCond .ne 14, 3) := by decide +kernel
theorem dX11_item_42 : decode cX11_item 42 = .ok (.iload 4, 2) := by decide +kernel
theorem dX11_item_44 : decode cX11_item 44 = .ok (.bipush 24, 2) := by decide +kernel
theorem dX11_item_46 : decode cX11_item 46 = .ok (.ishl, 1) := by decide +kernel
theorem dX11_item_47 : decode cX11_item 47 = .ok (.bipush 24, 2) := by decide +kernel
theorem dX11_item_49 : decode cX11_item 49 = .ok (.ishr, 1) := by decide +kernel
theorem dX11_item_50 : decode cX11_item 50 = .ok (.goto 21, 3) := by decide +kernel
theorem dX11_item_53 : decode cX11_item 53 = .ok (.iload_n 2, 1) := by decide +kernel
theorem dX11_item_54 : decode cX11_item 54 = .ok (.iconst 1, 1) := by decide +kernel
theorem dX11_item_55 : decode cX11_item 55 = .ok (.if_icmp .ne 14, 3) := by decide +kernel
theorem dX11_item_58 : decode cX11_item 58 = .ok (.iload 4, 2) := by decide +kernel
theorem dX11_item_60 : decode cX11_item 60 = .ok (.bipush 16, 2) := by decide +kernel
theorem dX11_item_62 : decode cX11_item 62 = .ok (.ishl, 1) := by decide +kernel
theorem dX11_item_63 : decode cX11_item 63 = .ok (.bipush 16, 2) := by decide +kernel
theorem dX11_item_65 : decode cX11_item 65 = .ok (.ishr, 1) := by decide +kernel
theorem dX11_item_66 : decode cX11_item 66 = .ok (.goto 5, 3) := by decide +kernel
theorem dX11_item_69 : decode cX11_item 69 = .ok (.iload 4, 2) := by decide +kernel
theorem dX11_item_71 : decode cX11_item 71 = .ok (.iastore, 1) := by decide +kernel
theorem dX11_item_72 : decode cX11_item 72 = .ok (.iconst 1, 1) := by decide +kernel
theorem dX11_item_73 : decode cX11_item 73 = .ok (.ireturn, 1) := by decide +kernel
theorem dX11_rains_0 : decode cX11_rains 0 = .ok (.iload_n 1, 1) := by decide +kernel
theorem dX11_rains_1 : decode cX11_rains 1 = .ok (.i2l, 1) := by decide +kernel
theorem dX11_rains_2 : decode cX11_rains 2 = .ok (.lconst 0, 1) := by decide +kernel
theorem dX11_rains_3 : decode cX11_rains 3 = .ok (.ldc2_w 180, 3) := by decide +kernel
theorem dX11_rains_6 : decode cX11_rains 6 = .ok (.invokestatic 70, 3) := by decide +kernel
theorem dX11_rains_9 : decode cX11_rains 9 = .ok (.ifCond .eq 24, 3) := by decide +kernel
theorem dX11_rains_12 : decode cX11_rains 12 = .ok (.iload_n 2, 1) := by decide +kernel
theorem dX11_rains_13 : decode cX11_rains 13 = .ok (.iload_n 3, 1) := by decide +kernel
theorem dX11_rains_14 : decode cX11_rains 14 = .ok (.invokestatic 276, 3) := by decide +kernel
theorem dX11_rains_17 : decode cX11_rains 17 = .ok (.ifCond .eq 16, 3) := by decide +kernel
theorem dX11_rains_20 : decode cX11_rains 20 = .ok (.iload 5, 2) := by decide +kernel
theorem dX11_rains_22 : decode cX11_rains 22 = .ok (.i2l, 1) := by decide +kernel
theorem dX11_rains_23 : decode cX11_rains 23 = .ok (.lconst 1, 1) := by decide +kernel
theorem dX11_rains_24 : decode cX11_rains 24 = .ok (.ldc2_w 348, 3) := by decide +kernel
theorem dX11_rains_27 : decode cX11_rains 27 = .ok (.invokestatic 70, 3) := by decide +kernel
theorem dX11_rains_30 : decode cX11_rains 30 = .ok (.ifCond .ne 5, 3) := by decide +kernel
theorem dX11_rains_33 : decode cX11_rains 33 = .ok (.iconst (-1), 1) := by decide +kernel
theorem dX11_rains_34 : decode cX11_rains 34 = .ok (.ireturn, 1) := by decide +kernel
theorem dX11_rains_35 : decode cX11_rains 35 = .ok (.aload_n 0, 1) := by decide +kernel
theorem dX11_rains_36 : decode cX11_rains 36 = .ok (.iload_n 2, 1) := by decide +kernel
theorem dX11_rains_37 : decode cX11_rains 37 = .ok (.iload_n 3, 1) := by decide +kernel
theorem dX11_rains_38 : decode cX11_rains 38 = .ok (.iload 4, 2) := by decide +kernel
theorem dX11_rains_40 : decode cX11_rains 40 = .ok (.iload 5, 2) := by decide +kernel
theorem dX11_rains_42 : decode cX11_rains 42 = .ok (.invokevirtual 279, 3) := by decide +kernel
theorem dX11_rains_45 : decode cX11_rains 45 = .ok (.istore 6, 2) := by decide +kernel
theorem dX11_rains_47 : decode cX11_rains 47 = .ok (.iload 6, 2) := by decide +kernel
theorem dX11_rains_49 : decode cX11_rains 49 = .ok (.ifCond .ge 6, 3) := by decide +kernel
theorem dX11_rains_52 : decode cX11_rains 52 = .ok (.iload 6, 2) := by decide +kernel
theorem dX11_rains_54 : decode cX11_rains 54 = .ok (.ireturn, 1) := by decide +kernel
theorem dX11_rains_55 : decode cX11_rains 55 = .ok (.bipush 24, 2) := by decide +kernel
theorem dX11_rains_57 : decode cX11_rains 57 = .ok (.iload_n 2, 1) := by decide +kernel
theorem dX11_rains_58 : decode cX11_rains 58 = .ok (.imul, 1) := by decide +kernel
theorem dX11_rains_59 : decode cX11_rains 59 = .ok (.iload 4, 2) := by decide +kernel
theorem dX11_rains_61 : decode cX11_rains 61 = .ok (.iadd, 1) := by decide +kernel
theorem dX11_rains_62 : decode cX11_rains 62 = .ok (.istore 7, 2) := by decide +kernel
theorem dX11_rains_64 : decode cX11_rains 64 = .ok (.iconst 0, 1) := by decide +kernel
theorem dX11_rains_65 : decode cX11_rains 65 = .ok (.istore 8, 2) := by decide +kernel
theorem dX11_rains_67 : decode cX11_rains 67 = .ok (.iload 8, 2) := by decide +kernel
theorem dX11_rains_69 : decode cX11_rains 69 = .ok (.iload 5, 2) := by decide +kernel
theorem dX11_rains_71 : decode cX11_rains 71 = .ok (.if_icmp .ge 29, 3) := by decide +kernel
theorem dX11_rains_74 : decode cX11_rains 74 = .ok (.iload_n 1, 1) := by decide +kernel
theorem dX11_rains_75 : decode cX11_rains 75 = .ok (.aload_n 0, 1) := by decide +kernel
theorem dX11_rains_76 : decode cX11_rains 76 = .ok (.getfield 65, 3) := by decide +kernel
theorem dX11_rains_79 : decode cX11_rains 79 = .ok (.iload 7, 2) := by decide +kernel
theorem dX11_rains_81 : decode cX11_rains 81 = .ok (.iload 8, 2) := by decide +kernel
theorem dX11_rains_83 : decode cX11_rains 83 = .ok (.iadd, 1) := by decide +kernel
theorem dX11_rains_84 : decode cX11_rains 84 = .ok (.iaload, 1) := by decide +kernel
theorem dX11_rains_85 : decode cX11_rains 85 = .ok (.invokestatic 84, 3) := by decide +kernel
theorem dX11_rains_88 : decode cX11_rains 88 = .ok (.ifCond .ne 6, 3) := by decide +kernel
theorem dX11_rains_91 : decode cX11_rains 91 = .ok (.bipush (-2), 2) := by decide +kernel
theorem dX11_rains_93 : decode cX11_rains 93 = .ok (.ireturn, 1) := by decide +kernel
theorem dX11_rains_94 : decode cX11_rains 94 = .ok (.iinc 8 1, 3) := by decide +kernel
theorem dX11_rains_97 : decode cX11_rains 97 = .ok (.goto (-30), 3) := by decide +kernel
theorem dX11_rains_100 : decode cX11_rains 100 = .ok (.iconst 0, 1) := by decide +kernel
theorem dX11_rains_101 : decode cX11_rains 101 = .ok (.istore 8, 2) := by decide +kernel
theorem dX11_rains_103 : decode cX11_rains 103 = .ok (.iload 8, 2) := by decide +kernel
theorem dX11_rains_105 : decode cX11_rains 105 = .ok (.iload 5, 2) := by decide +kernel
theorem dX11_rains_107 : decode cX11_rains 107 = .ok (.if_icmp .ge 33, 3) := by decide +kernel
theorem dX11_rains_110 : decode cX11_rains 110 = .ok (.aload_n 0, 1) := by decide +kernel
theorem dX11_rains_111 : decode cX11_rains 111 = .ok (.getfield 7, 3) := by decide +kernel
theorem dX11_rains_114 : decode cX11_rains 114 = .ok (.bipush 20, 2) := by decide +kernel
theorem dX11_rains_116 : decode cX11_rains 116 = .ok (.iconst 3, 1) := by decide +kernel
theorem dX11_rains_117 : decode cX11_rains 117 = .ok (.iload 8, 2) := by decide +kernel
theorem dX11_rains_119 : decode cX11_rains 119 = .ok (.imul, 1) := by decide +kernel
theorem dX11_rains_120 : decode cX11_rains 120 = .ok (.iadd, 1) := by decide +kernel
theorem dX11_rains_121 : decode cX11_rains 121 = .ok (.iload_n 1, 1) := by decide +kernel
theorem dX11_rains_122 : decode cX11_rains 122 = .ok (.iadd, 1) := by decide +kernel
theorem dX11_rains_123 : decode cX11_rains 123 = .ok (.aload_n 0, 1) := by decide +kernel
theorem dX11_rains_124 : decode cX11_rains 124 = .ok (.getfield 65, 3) := by decide +kernel
theorem dX11_rains_127 : decode cX11_rains 127 = .ok (.iload 7, 2) := by decide +kernel
theorem dX11_rains_129 : decode cX11_rains 129 = .ok (.iload 8, 2) := by decide +kernel
theorem dX11_rains_131 : decode cX11_rains 131 = .ok (.iadd, 1) := by decide +kernel
theorem dX11_rains_132 : decode cX11_rains 132 = .ok (.iaload, 1) := by decide +kernel
theorem dX11_rains_133 : decode cX11_rains 133 = .ok (.iastore, 1) := by decide +kernel
theorem dX11_rains_134 : decode cX11_rains 134 = .ok (.iinc 8 1, 3) := by decide +kernel
theorem dX11_rains_137 : decode cX11_rains 137 = .ok (.goto (-34), 3) := by decide +kernel
theorem dX11_rains_140 : decode cX11_rains 140 = .ok (.iload 5, 2) := by decide +kernel
theorem dX11_rains_142 : decode cX11_rains 142 = .ok (.ireturn, 1) := by decide +kernel
theorem dX11_learn_0 : decode cX11_learn 0 = .ok (.iload_n 1, 1) := by decide +kernel
theorem dX11_learn_1 : decode cX11_learn 1 = .ok (.iload_n 2, 1) := by decide +kernel
theorem dX11_learn_2 : decode cX11_learn 2 = .ok (.invokestatic 276, 3) := by decide +kernel
theorem dX11_learn_5 : decode cX11_learn 5 = .ok (.ifCond .eq 29, 3) := by decide +kernel
theorem dX11_learn_8 : decode cX11_learn 8 = .ok (.iload 4, 2) := by decide +kernel
theorem dX11_learn_10 : decode cX11_learn 10 = .ok (.i2l, 1) := by decide +kernel
theorem dX11_learn_11 : decode cX11_learn 11 = .ok (.lconst 1, 1) := by decide +kernel
theorem dX11_learn_12 : decode cX11_learn 12 = .ok (.ldc2_w 104, 3) := by decide +kernel
theorem dX11_learn_15 : decode cX11_learn 15 = .ok (.invokestatic 70, 3) := by decide +kernel
theorem dX11_learn_18 : decode cX11_learn 18 = .ok (.ifCond .eq 16, 3) := by decide +kernel
theorem dX11_learn_21 : decode cX11_learn 21 = .ok (.iload 5, 2) := by decide +kernel
theorem dX11_learn_23 : decode cX11_learn 23 = .ok (.i2l, 1) := by decide +kernel
theorem dX11_learn_24 : decode cX11_learn 24 = .ok (.lconst 0, 1) := by decide +kernel
theorem dX11_learn_25 : decode cX11_learn 25 = .ok (.ldc2_w 74, 3) := by decide +kernel
theorem dX11_learn_28 : decode cX11_learn 28 = .ok (.invokestatic 70, 3) := by decide +kernel
theorem dX11_learn_31 : decode cX11_learn 31 = .ok (.ifCond .ne 5, 3) := by decide +kernel
theorem dX11_learn_34 : decode cX11_learn 34 = .ok (.iconst (-1), 1) := by decide +kernel
theorem dX11_learn_35 : decode cX11_learn 35 = .ok (.ireturn, 1) := by decide +kernel
theorem dX11_learn_36 : decode cX11_learn 36 = .ok (.aload_n 0, 1) := by decide +kernel
theorem dX11_learn_37 : decode cX11_learn 37 = .ok (.iload_n 1, 1) := by decide +kernel
theorem dX11_learn_38 : decode cX11_learn 38 = .ok (.iload_n 2, 1) := by decide +kernel
theorem dX11_learn_39 : decode cX11_learn 39 = .ok (.iload_n 3, 1) := by decide +kernel
theorem dX11_learn_40 : decode cX11_learn 40 = .ok (.iconst 2, 1) := by decide +kernel
theorem dX11_learn_41 : decode cX11_learn 41 = .ok (.iload 4, 2) := by decide +kernel
theorem dX11_learn_43 : decode cX11_learn 43 = .ok (.imul, 1) := by decide +kernel
theorem dX11_learn_44 : decode cX11_learn 44 = .ok (.invokevirtual 279, 3) := by decide +kernel
theorem dX11_learn_47 : decode cX11_learn 47 = .ok (.istore 6, 2) := by decide +kernel
theorem dX11_learn_49 : decode cX11_learn 49 = .ok (.iload 6, 2) := by decide +kernel
theorem dX11_learn_51 : decode cX11_learn 51 = .ok (.ifCond .ge 6, 3) := by decide +kernel
theorem dX11_learn_54 : decode cX11_learn 54 = .ok (.iload 6, 2) := by decide +kernel
theorem dX11_learn_56 : decode cX11_learn 56 = .ok (.ireturn, 1) := by decide +kernel
theorem dX11_learn_57 : decode cX11_learn 57 = .ok (.bipush 24, 2) := by decide +kernel
theorem dX11_learn_59 : decode cX11_learn 59 = .ok (.iload_n 1, 1) := by decide +kernel
theorem dX11_learn_60 : decode cX11_learn 60 = .ok (.imul, 1) := by decide +kernel
theorem dX11_learn_61 : decode cX11_learn 61 = .ok (.iload_n 3, 1) := by decide +kernel
theorem dX11_learn_62 : decode cX11_learn 62 = .ok (.iadd, 1) := by decide +kernel
theorem dX11_learn_63 : decode cX11_learn 63 = .ok (.istore 7, 2) := by decide +kernel
theorem dX11_learn_65 : decode cX11_learn 65 = .ok (.iconst 0, 1) := by decide +kernel
theorem dX11_learn_66 : decode cX11_learn 66 = .ok (.istore 8, 2) := by decide +kernel
theorem dX11_learn_68 : decode cX11_learn 68 = .ok (.iload 8, 2) := by decide +kernel
theorem dX11_learn_70 : decode cX11_learn 70 = .ok (.iload 4, 2) := by decide +kernel
theorem dX11_learn_72 : decode cX11_learn 72 = .ok (.if_icmp .ge 30, 3) := by decide +kernel
theorem dX11_learn_75 : decode cX11_learn 75 = .ok (.aload_n 0, 1) := by decide +kernel
theorem dX11_learn_76 : decode cX11_learn 76 = .ok (.getfield 65, 3) := by decide +kernel
theorem dX11_learn_79 : decode cX11_learn 79 = .ok (.iload 7, 2) := by decide +kernel
theorem dX11_learn_81 : decode cX11_learn 81 = .ok (.iconst 2, 1) := by decide +kernel
theorem dX11_learn_82 : decode cX11_learn 82 = .ok (.iload 8, 2) := by decide +kernel
theorem dX11_learn_84 : decode cX11_learn 84 = .ok (.imul, 1) := by decide +kernel
theorem dX11_learn_85 : decode cX11_learn 85 = .ok (.iadd, 1) := by decide +kernel
theorem dX11_learn_86 : decode cX11_learn 86 = .ok (.iaload, 1) := by decide +kernel
theorem dX11_learn_87 : decode cX11_learn 87 = .ok (.invokestatic 80, 3) := by decide +kernel
theorem dX11_learn_90 : decode cX11_learn 90 = .ok (.ifCond .ne 6, 3) := by decide +kernel
theorem dX11_learn_93 : decode cX11_learn 93 = .ok (.bipush (-2), 2) := by decide +kernel
theorem dX11_learn_95 : decode cX11_learn 95 = .ok (.ireturn, 1) := by decide +kernel
theorem dX11_learn_96 : decode cX11_learn 96 = .ok (.iinc 8 1, 3) := by decide +kernel
theorem dX11_learn_99 : decode cX11_learn 99 = .ok (.goto (-31), 3) := by decide +kernel
theorem dX11_learn_102 : decode cX11_learn 102 = .ok (.iconst 0, 1) := by decide +kernel
theorem dX11_learn_103 : decode cX11_learn 103 = .ok (.istore 8, 2) := by decide +kernel
theorem dX11_learn_105 : decode cX11_learn 105 = .ok (.iconst 1, 1) := by decide +kernel
theorem dX11_learn_106 : decode cX11_learn 106 = .ok (.istore 9, 2) := by decide +kernel
theorem dX11_learn_108 : decode cX11_learn 108 = .ok (.iload 9, 2) := by decide +kernel
theorem dX11_learn_110 : decode cX11_learn 110 = .ok (.iconst 5, 1) := by decide +kernel
theorem dX11_learn_111 : decode cX11_learn 111 = .ok (.if_icmp .gt 39, 3) := by decide +kernel
theorem dX11_learn_114 : decode cX11_learn 114 = .ok (.iload 8, 2) := by decide +kernel
theorem dX11_learn_116 : decode cX11_learn 116 = .ok (.aload_n 0, 1) := by decide +kernel
theorem dX11_learn_117 : decode cX11_learn 117 = .ok (.iload 7, 2) := by decide +kernel
theorem dX11_learn_119 : decode cX11_learn 119 = .ok (.iload 4, 2) := by decide +kernel
theorem dX11_learn_121 : decode cX11_learn 121 = .ok (.iload 9, 2) := by decide +kernel
theorem dX11_learn_123 : decode cX11_learn 123 = .ok (.iload 5, 2) := by decide +kernel
theorem dX11_learn_125 : decode cX11_learn 125 = .ok (.invokevirtual 350, 3) := by decide +kernel
theorem dX11_learn_128 : decode cX11_learn 128 = .ok (.ifCond .eq 12, 3) := by decide +kernel
theorem dX11_learn_131 : decode cX11_learn 131 = .ok (.iconst 1, 1) := by decide +kernel
theorem dX11_learn_132 : decode cX11_learn 132 = .ok (.iload 9, 2) := by decide +kernel
theorem dX11_learn_134 : decode cX11_learn 134 = .ok (.iconst 1, 1) := by decide +kernel
theorem dX11_learn_135 : decode cX11_learn 135 = .ok (.isub, 1) := by decide +kernel
theorem dX11_learn_136 : decode cX11_learn 136 = .ok (.ishl, 1) := by decide +kernel
theorem dX11_learn_137 : decode cX11_learn 137 = .ok (.goto 4, 3) := by decide +kernel
theorem dX11_learn_140 : decode cX11_learn 140 = .ok (.iconst 0, 1) := by decide +kernel
theorem dX11_learn_141 : decode cX11_learn 141 = .ok (.ior, 1) := by decide +kernel
theorem dX11_learn_142 : decode cX11_learn 142 = .ok (.istore 8, 2) := by decide +kernel
theorem dX11_learn_144 : decode cX11_learn 144 = .ok (.iinc 9 1, 3) := by decide +kernel
theorem dX11_learn_147 : decode cX11_learn 147 = .ok (.goto (-39), 3) := by decide +kernel
theorem dX11_learn_150 : decode cX11_learn 150 = .ok (.iload 8, 2) := by decide +kernel
theorem dX11_learn_152 : decode cX11_learn 152 = .ok (.ifCond .ne 8, 3) := by decide +kernel
theorem dX11_learn_155 : decode cX11_learn 155 = .ok (.bipush (-4), 2) := by decide +kernel
theorem dX11_learn_157 : decode cX11_learn 157 = .ok (.goto 5, 3) := by decide +kernel
theorem dX11_learn_160 : decode cX11_learn 160 = .ok (.iload 8, 2) := by decide +kernel
theorem dX11_learn_162 : decode cX11_learn 162 = .ok (.ireturn, 1) := by decide +kernel
