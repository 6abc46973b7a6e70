theorem dX0_init_0 : decode cX0_init 0 = .ok (.aload_n 0, 1) := by decide +kernel
theorem dX0_init_1 : decode cX0_init 1 = .ok (.invokespecial 3, 3) := by decide +kernel
theorem dX0_init_4 : decode cX0_init 4 = .ok (.aload_n 0, 1) := by decide +kernel
theorem dX0_init_5 : decode cX0_init 5 = .ok (.bipush 12, 2) := by decide +kernel
theorem dX0_init_7 : decode cX0_init 7 = .ok (.newarray .int, 2) := by decide +kernel
theorem dX0_init_9 : decode cX0_init 9 = .ok (.putfield 9, 3) := by decide +kernel
theorem dX0_init_12 : decode cX0_init 12 = .ok (.aload_n 0, 1) := by decide +kernel
theorem dX0_init_13 : decode cX0_init 13 = .ok (.bipush 12, 2) := by decide +kernel
theorem dX0_init_15 : decode cX0_init 15 = .ok (.newarray .int, 2) := by decide +kernel
theorem dX0_init_17 : decode cX0_init 17 = .ok (.putfield 15, 3) := by decide +kernel
theorem dX0_init_20 : decode cX0_init 20 = .ok (.aload_n 0, 1) := by decide +kernel
theorem dX0_init_21 : decode cX0_init 21 = .ok (.bipush 12, 2) := by decide +kernel
theorem dX0_init_23 : decode cX0_init 23 = .ok (.newarray .int, 2) := by decide +kernel
theorem dX0_init_25 : decode cX0_init 25 = .ok (.putfield 18, 3) := by decide +kernel
theorem dX0_init_28 : decode cX0_init 28 = .ok (.aload_n 0, 1) := by decide +kernel
theorem dX0_init_29 : decode cX0_init 29 = .ok (.bipush 6, 2) := by decide +kernel
theorem dX0_init_31 : decode cX0_init 31 = .ok (.newarray .int, 2) := by decide +kernel
theorem dX0_init_33 : decode cX0_init 33 = .ok (.putfield 21, 3) := by decide +kernel
theorem dX0_init_36 : decode cX0_init 36 = .ok (.aload_n 0, 1) := by decide +kernel
theorem dX0_init_37 : decode cX0_init 37 = .ok (.bipush 6, 2) := by decide +kernel
theorem dX0_init_39 : decode cX0_init 39 = .ok (.newarray .int, 2) := by decide +kernel
theorem dX0_init_41 : decode cX0_init 41 = .ok (.putfield 24, 3) := by decide +kernel
theorem dX0_init_44 : decode cX0_init 44 = .ok (.aload_n 0, 1) := by decide +kernel
theorem dX0_init_45 : decode cX0_init 45 = .ok (.bipush 6, 2) := by decide +kernel
theorem dX0_init_47 : decode cX0_init 47 = .ok (.newarray .int, 2) := by decide +kernel
theorem dX0_init_49 : decode cX0_init 49 = .ok (.putfield 27, 3) := by decide +kernel
theorem dX0_init_52 : decode cX0_init 52 = .ok (.aload_n 0, 1) := by decide +kernel
theorem dX0_init_53 : decode cX0_init 53 = .ok (.bipush 6, 2) := by decide +kernel
theorem dX0_init_55 : decode cX0_init 55 = .ok (.newarray .int, 2) := by decide +kernel
theorem dX0_init_57 : decode cX0_init 57 = .ok (.putfield 30, 3) := by decide +kernel
theorem dX0_init_60 : decode cX0_init 60 = .ok (.aload_n 0, 1) := by decide +kernel
theorem dX0_init_61 : decode cX0_init 61 = .ok (.iconst 2, 1) := by decide +kernel
theorem dX0_init_62 : decode cX0_init 62 = .ok (.putfield 33, 3) := by decide +kernel
theorem dX0_init_65 : decode cX0_init 65 = .ok (.return_, 1) := by decide +kernel
theorem dX0_places_0 : decode cX0_places 0 = .ok (.iconst 0, 1) := by decide +kernel
theorem dX0_places_1 : decode cX0_places 1 = .ok (.istore_n 1, 1) := by decide +kernel
theorem dX0_places_2 : decode cX0_places 2 = .ok (.iconst 0, 1) := by decide +kernel
theorem dX0_places_3 : decode cX0_places 3 = .ok (.istore_n 2, 1) := by decide +kernel
theorem dX0_places_4 : decode cX0_places 4 = .ok (.iload_n 2, 1) := by decide +kernel
theorem dX0_places_5 : decode cX0_places 5 = .ok (.aload_n 0, 1) := by decide +kernel
theorem dX0_places_6 : decode cX0_places 6 = .ok (.getfield 37, 3) := by decide +kernel
theorem dX0_places_9 : decode cX0_places 9 = .ok (.if_icmp .ge 25, 3) := by decide +kernel
theorem dX0_places_12 : decode cX0_places 12 = .ok (.iload_n 1, 1) := by decide +kernel
theorem dX0_places_13 : decode cX0_places 13 = .ok (.aload_n 0, 1) := by decide +kernel
theorem dX0_places_14 : decode cX0_places 14 = .ok (.iload_n 2, 1) := by decide +kernel
theorem dX0_places_15 : decode cX0_places 15 = .ok (.invokevirtual 40, 3) := by decide +kernel
theorem dX0_places_18 : decode cX0_places 18 = .ok (.ifCond .eq 7, 3) := by decide +kernel
theorem dX0_places_21 : decode cX0_places 21 = .ok (.iconst 1, 1) := by decide +kernel
theorem dX0_places_22 : decode cX0_places 22 = .ok (.goto 4, 3) := by decide +kernel
theorem dX0_places_25 : decode cX0_places 25 = .ok (.iconst 0, 1) := by decide +kernel
theorem dX0_places_26 : decode cX0_places 26 = .ok (.iadd, 1) := by decide +kernel
theorem dX0_places_27 : decode cX0_places 27 = .ok (.istore_n 1, 1) := by decide +kernel
theorem dX0_places_28 : decode cX0_places 28 = .ok (.iinc 2 1, 3) := by decide +kernel
theorem dX0_places_31 : decode cX0_places 31 = .ok (.goto (-27), 3) := by decide +kernel
theorem dX0_places_34 : decode cX0_places 34 = .ok (.iload_n 1, 1) := by decide +kernel
theorem dX0_places_35 : decode cX0_places 35 = .ok (.ireturn, 1) := by decide +kernel
theorem dX0_add_0 : decode cX0_add 0 = .ok (.aload_n 0, 1) := by decide +kernel
theorem dX0_add_1 : decode cX0_add 1 = .ok (.getfield 37, 3) := by decide +kernel
theorem dX0_add_4 : decode cX0_add 4 = .ok (.bipush 12, 2) := by decide +kernel
theorem dX0_add_6 : decode cX0_add 6 = .ok (.if_icmp .ge 43, 3) := by decide +kernel
theorem dX0_add_9 : decode cX0_add 9 = .ok (.aload_n 0, 1) := by decide +kernel
theorem dX0_add_10 : decode cX0_add 10 = .ok (.getfield 9, 3) := by decide +kernel
theorem dX0_add_13 : decode cX0_add 13 = .ok (.aload_n 0, 1) := by decide +kernel
theorem dX0_add_14 : decode cX0_add 14 = .ok (.getfield 37, 3) := by decide +kernel
theorem dX0_add_17 : decode cX0_add 17 = .ok (.iload_n 1, 1) := by decide +kernel
theorem dX0_add_18 : decode cX0_add 18 = .ok (.iastore, 1) := by decide +kernel
theorem dX0_add_19 : decode cX0_add 19 = .ok (.aload_n 0, 1) := by decide +kernel
theorem dX0_add_20 : decode cX0_add 20 = .ok (.getfield 15, 3) := by decide +kernel
theorem dX0_add_23 : decode cX0_add 23 = .ok (.aload_n 0, 1) := by decide +kernel
theorem dX0_add_24 : decode cX0_add 24 = .ok (.getfield 37, 3) := by decide +kernel
theorem dX0_add_27 : decode cX0_add 27 = .ok (.iload_n 2, 1) := by decide +kernel
theorem dX0_add_28 : decode cX0_add 28 = .ok (.iastore, 1) := by decide +kernel
theorem dX0_add_29 : decode cX0_add 29 = .ok (.aload_n 0, 1) := by decide +kernel
theorem dX0_add_30 : decode cX0_add 30 = .ok (.getfield 18, 3) := by decide +kernel
theorem dX0_add_33 : decode cX0_add 33 = .ok (.aload_n 0, 1) := by decide +kernel
theorem dX0_add_34 : decode cX0_add 34 = .ok (.getfield 37, 3) := by decide +kernel
theorem dX0_add_37 : decode cX0_add 37 = .ok (.iload_n 3, 1) := by decide +kernel
theorem dX0_add_38 : decode cX0_add 38 = .ok (.iastore, 1) := by decide +kernel
theorem dX0_add_39 : decode cX0_add 39 = .ok (.aload_n 0, 1) := by decide +kernel
theorem dX0_add_40 : decode cX0_add 40 = .ok (.dup, 1) := by decide +kernel
theorem dX0_add_41 : decode cX0_add 41 = .ok (.getfield 37, 3) := by decide +kernel
theorem dX0_add_44 : decode cX0_add 44 = .ok (.iconst 1, 1) := by decide +kernel
theorem dX0_add_45 : decode cX0_add 45 = .ok (.iadd, 1) := by decide +kernel
theorem dX0_add_46 : decode cX0_add 46 = .ok (.putfield 37, 3) := by decide +kernel
theorem dX0_add_49 : decode cX0_add 49 = .ok (.return_, 1) := by decide +kernel
theorem dX0_take_0 : decode cX0_take 0 = .ok (.aload_n 1, 1) := by decide +kernel
theorem dX0_take_1 : decode cX0_take 1 = .ok (.getfield 9, 3) := by decide +kernel
theorem dX0_take_4 : decode cX0_take 4 = .ok (.aload_n 0, 1) := by decide +kernel
theorem dX0_take_5 : decode cX0_take 5 = .ok (.getfield 9, 3) := by decide +kernel
theorem dX0_take_8 : decode cX0_take 8 = .ok (.invokestatic 81, 3) := by decide +kernel
theorem dX0_take_11 : decode cX0_take 11 = .ok (.aload_n 1, 1) := by decide +kernel
theorem dX0_take_12 : decode cX0_take 12 = .ok (.getfield 15, 3) := by decide +kernel
theorem dX0_take_15 : decode cX0_take 15 = .ok (.aload_n 0, 1) := by decide +kernel
theorem dX0_take_16 : decode cX0_take 16 = .ok (.getfield 15, 3) := by decide +kernel
theorem dX0_take_19 : decode cX0_take 19 = .ok (.invokestatic 81, 3) := by decide +kernel
theorem dX0_take_22 : decode cX0_take 22 = .ok (.aload_n 1, 1) := by decide +kernel
theorem dX0_take_23 : decode cX0_take 23 = .ok (.getfield 18, 3) := by decide +kernel
theorem dX0_take_26 : decode cX0_take 26 = .ok (.aload_n 0, 1) := by decide +kernel
theorem dX0_take_27 : decode cX0_take 27 = .ok (.getfield 18, 3) := by decide +kernel
theorem dX0_take_30 : decode cX0_take 30 = .ok (.invokestatic 81, 3) := by decide +kernel
theorem dX0_take_33 : decode cX0_take 33 = .ok (.aload_n 1, 1) := by decide +kernel
theorem dX0_take_34 : decode cX0_take 34 = .ok (.getfield 21, 3) := by decide +kernel
theorem dX0_take_37 : decode cX0_take 37 = .ok (.aload_n 0, 1) := by decide +kernel
theorem dX0_take_38 : decode cX0_take 38 = .ok (.getfield 21, 3) := by decide +kernel
theorem dX0_take_41 : decode cX0_take 41 = .ok (.invokestatic 81, 3) := by decide +kernel
theorem dX0_take_44 : decode cX0_take 44 = .ok (.aload_n 1, 1) := by decide +kernel
theorem dX0_take_45 : decode cX0_take 45 = .ok (.getfield 24, 3) := by decide +kernel
theorem dX0_take_48 : decode cX0_take 48 = .ok (.aload_n 0, 1) := by decide +kernel
theorem dX0_take_49 : decode cX0_take 49 = .ok (.getfield 24, 3) := by decide +kernel
theorem dX0_take_52 : decode cX0_take 52 = .ok (.invokestatic 81, 3) := by decide +kernel
theorem dX0_take_55 : decode cX0_take 55 = .ok (.aload_n 1, 1) := by decide +kernel
theorem dX0_take_56 : decode cX0_take 56 = .ok (.getfield 27, 3) := by decide +kernel
theorem dX0_take_59 : decode cX0_take 59 = .ok (.aload_n 0, 1) := by decide +kernel
theorem dX0_take_60 : decode cX0_take 60 = .ok (.getfield 27, 3) := by decide +kernel
theorem dX0_take_63 : decode cX0_take 63 = .ok (.invokestatic 81, 3) := by decide +kernel
theorem dX0_take_66 : decode cX0_take 66 = .ok (.aload_n 1, 1) := by decide +kernel
theorem dX0_take_67 : decode cX0_take 67 = .ok (.getfield 30, 3) := by decide +kernel
theorem dX0_take_70 : decode cX0_take 70 = .ok (.aload_n 0, 1) := by decide +kernel
theorem dX0_take_71 : decode cX0_take 71 = .ok (.getfield 30, 3) := by decide +kernel
theorem dX0_take_74 : decode cX0_take 74 = .ok (.invokestatic 81, 3) := by decide +kernel
theorem dX0_take_77 : decode cX0_take 77 = .ok (.aload_n 0, 1) := by decide +kernel
theorem dX0_take_78 : decode cX0_take 78 = .ok (.aload_n 1, 1) := by decide +kernel
theorem dX0_take_79 : decode cX0_take 79 = .ok (.getfield 37, 3) := by decide +kernel
theorem dX0_take_82 : decode cX0_take 82 = .ok (.putfield 37, 3) := by decide +kernel
theorem dX0_take_85 : decode cX0_take 85 = .ok (.aload_n 0, 1) := by decide +kernel
theorem dX0_take_86 : decode cX0_take 86 = .ok (.aload_n 1, 1) := by decide +kernel
theorem dX0_take_87 : decode cX0_take 87 = .ok (.getfield 44, 3) := by decide +kernel
theorem dX0_take_90 : decode cX0_take 90 = .ok (.putfield 44, 3) := by decide +kernel
theorem dX0_take_93 : decode cX0_take 93 = .ok (.aload_n 0, 1) := by decide +kernel
theorem dX0_take_94 : decode cX0_take 94 = .ok (.aload_n 1, 1) := by decide +kernel
theorem dX0_take_95 : decode cX0_take 95 = .ok (.getfield 33, 3) := by decide +kernel
theorem dX0_take_98 : decode cX0_take 98 = .ok (.putfield 33, 3) := by decide +kernel
theorem dX0_take_101 : decode cX0_take 101 = .ok (.aload_n 0, 1) := by decide +kernel
theorem dX0_take_102 : decode cX0_take 102 = .ok (.aload_n 1, 1) := by decide +kernel
theorem dX0_take_103 : decode cX0_take 103 = .ok (.getfield 47, 3) := by decide +kernel
theorem dX0_take_106 : decode cX0_take 106 = .ok (.putfield 47, 3) := by decide +kernel
theorem dX0_take_109 : decode cX0_take 109 = .ok (.return_, 1) := by decide +kernel
theorem dX1_init_0 : decode cX1_init 0 = .ok (.aload_n 0, 1) := by decide +kernel
theorem dX1_init_1 : decode cX1_init 1 = .ok (.invokespecial 3, 3) := by decide +kernel
theorem dX1_init_4 : decode cX1_init 4 = .ok (.aload_n 0, 1) := by decide +kernel
theorem dX1_init_5 : decode cX1_init 5 = .ok (.iconst 2, 1) := by decide +kernel
theorem dX1_init_6 : decode cX1_init 6 = .ok (.newarray .int, 2) := by decide +kernel
theorem dX1_init_8 : decode cX1_init 8 = .ok (.putfield 9, 3) := by decide +kernel
theorem dX1_init_11 : decode cX1_init 11 = .ok (.aload_n 0, 1) := by decide +kernel
theorem dX1_init_12 : decode cX1_init 12 = .ok (.iconst 2, 1) := by decide +kernel
theorem dX1_init_13 : decode cX1_init 13 = .ok (.newarray .int, 2) := by decide +kernel
theorem dX1_init_15 : decode cX1_init 15 = .ok (.putfield 15, 3) := by decide +kernel
theorem dX1_init_18 : decode cX1_init 18 = .ok (.aload_n 0, 1) := by decide +kernel
theorem dX1_init_19 : decode cX1_init 19 = .ok (.iconst 2, 1) := by decide +kernel
theorem dX1_init_20 : decode cX1_init 20 = .ok (.newarray .int, 2) := by decide +kernel
theorem dX1_init_22 : decode cX1_init 22 = .ok (.putfield 18, 3) := by decide +kernel
theorem dX1_init_25 : decode cX1_init 25 = .ok (.aload_n 0, 1) := by decide +kernel
theorem dX1_init_26 : decode cX1_init 26 = .ok (.iconst 2, 1) := by decide +kernel
theorem dX1_init_27 : decode cX1_init 27 = .ok (.newarray .int, 2) := by decide +kernel
theorem dX1_init_29 : decode cX1_init 29 = .ok (.putfield 21, 3) := by decide +kernel
theorem dX1_init_32 : decode cX1_init 32 = .ok (.aload_n 0, 1) := by decide +kernel
theorem dX1_init_33 : decode cX1_init 33 = .ok (.iconst 2, 1) := by decide +kernel
theorem dX1_init_34 : decode cX1_init 34 = .ok (.newarray .int, 2) := by decide +kernel
theorem dX1_init_36 : decode cX1_init 36 = .ok (.putfield 24, 3) := by decide +kernel
theorem dX1_init_39 : decode cX1_init 39 = .ok (.aload_n 0, 1) := by decide +kernel
theorem dX1_init_40 : decode cX1_init 40 = .ok (.iconst 2, 1) := by decide +kernel
theorem dX1_init_41 : decode cX1_init 41 = .ok (.newarray .boolean, 2) := by decide +kernel
theorem dX1_init_43 : decode cX1_init 43 = .ok (.putfield 27, 3) := by decide +kernel
theorem dX1_init_46 : decode cX1_init 46 = .ok (.return_, 1) := by decide +kernel
theorem dX1_take_0 : decode cX1_take 0 = .ok (.aload_n 1, 1) := by decide +kernel
theorem dX1_take_1 : decode cX1_take 1 = .ok (.getfield 9, 3) := by decide +kernel
theorem dX1_take_4 : decode cX1_take 4 = .ok (.aload_n 0, 1) := by decide +kernel
theorem dX1_take_5 : decode cX1_take 5 = .ok (.getfield 9, 3) := by decide +kernel
theorem dX1_take_8 : decode cX1_take 8 = .ok (.invokestatic 69, 3) := by decide +kernel
theorem dX1_take_11 : decode cX1_take 11 = .ok (.aload_n 1, 1) := by decide +kernel
theorem dX1_take_12 : decode cX1_take 12 = .ok (.getfield 15, 3) := by decide +kernel
theorem dX1_take_15 : decode cX1_take 15 = .ok (.aload_n 0, 1) := by decide +kernel
theorem dX1_take_16 : decode cX1_take 16 = .ok (.getfield 15, 3) := by decide +kernel
theorem dX1_take_19 : decode cX1_take 19 = .ok (.invokestatic 69, 3) := by decide +kernel
theorem dX1_take_22 : decode cX1_take 22 = .ok (.aload_n 1, 1) := by decide +kernel
theorem dX1_take_23 : decode cX1_take 23 = .ok (.getfield 18, 3) := by decide +kernel
theorem dX1_take_26 : decode cX1_take 26 = .ok (.aload_n 0, 1) := by decide +kernel
theorem dX1_take_27 : decode cX1_take 27 = .ok (.getfield 18, 3) := by decide +kernel
theorem dX1_take_30 : decode cX1_take 30 = .ok (.invokestatic 69, 3) := by decide +kernel
theorem dX1_take_33 : decode cX1_take 33 = .ok (.aload_n 1, 1) := by decide +kernel
theorem dX1_take_34 : decode cX1_take 34 = .ok (.getfield 21, 3) := by decide +kernel
theorem dX1_take_37 : decode cX1_take 37 = .ok (.aload_n 0, 1) := by decide +kernel
theorem dX1_take_38 : decode cX1_take 38 = .ok (.getfield 21, 3) := by decide +kernel
theorem dX1_take_41 : decode cX1_take 41 = .ok (.invokestatic 69, 3) := by decide +kernel
theorem dX1_take_44 : decode cX1_take 44 = .ok (.aload_n 1, 1) := by decide +kernel
theorem dX1_take_45 : decode cX1_take 45 = .ok (.getfield 24, 3) := by decide +kernel
theorem dX1_take_48 : decode cX1_take 48 = .ok (.aload_n 0, 1) := by decide +kernel
theorem dX1_take_49 : decode cX1_take 49 = .ok (.getfield 24, 3) := by decide +kernel
theorem dX1_take_52 : decode cX1_take 52 = .ok (.invokestatic 69, 3) := by decide +kernel
theorem dX1_take_55 : decode cX1_take 55 = .ok (.iconst 0, 1) := by decide +kernel
theorem dX1_take_56 : decode cX1_take 56 = .ok (.istore_n 2, 1) := by decide +kernel
theorem dX1_take_57 : decode cX1_take 57 = .ok (.iload_n 2, 1) := by decide +kernel
theorem dX1_take_58 : decode cX1_take 58 = .ok (.iconst 2, 1) := by decide +kernel
theorem dX1_take_59 : decode cX1_take 59 = .ok (.if_icmp .ge 21, 3) := by decide +kernel
theorem dX1_take_62 : decode cX1_take 62 = .ok (.aload_n 0, 1) := by decide +kernel
theorem dX1_take_63 : decode cX1_take 63 = .ok (.getfield 27, 3) := by decide +kernel
theorem dX1_take_66 : decode cX1_take 66 = .ok (.iload_n 2, 1) := by decide +kernel
theorem dX1_take_67 : decode cX1_take 67 = .ok (.aload_n 1, 1) := by decide +kernel
theorem dX1_take_68 : decode cX1_take 68 = .ok (.getfield 27, 3) := by decide +kernel
theorem dX1_take_71 : decode cX1_take 71 = .ok (.iload_n 2, 1) := by decide +kernel
theorem dX1_take_72 : decode cX1_take 72 = .ok (.baload, 1) := by decide +kernel
theorem dX1_take_73 : decode cX1_take 73 = .ok (.bastore, 1) := by decide +kernel
theorem dX1_take_74 : decode cX1_take 74 = .ok (.iinc 2 1, 3) := by decide +kernel
theorem dX1_take_77 : decode cX1_take 77 = .ok (.goto (-20), 3) := by decide +kernel
theorem dX1_take_80 : decode cX1_take 80 = .ok (.aload_n 0, 1) := by decide +kernel
theorem dX1_take_81 : decode cX1_take 81 = .ok (.aload_n 1, 1) := by decide +kernel
theorem dX1_take_82 : decode cX1_take 82 = .ok (.getfield 56, 3) := by decide +kernel
theorem dX1_take_85 : decode cX1_take 85 = .ok (.putfield 56, 3) := by decide +kernel
theorem dX1_take_88 : decode cX1_take 88 = .ok (.aload_n 0, 1) := by decide +kernel
theorem dX1_take_89 : decode cX1_take 89 = .ok (.aload_n 1, 1) := by decide +kernel
theorem dX1_take_90 : decode cX1_take 90 = .ok (.getfield 59, 3) := by decide +kernel
theorem dX1_take_93 : decode cX1_take 93 = .ok (.putfield 59, 3) := by decide +kernel
theorem dX1_take_96 : decode cX1_take 96 = .ok (.return_, 1) := by decide +kernel
theorem dX2_init_0 : decode cX2_init 0 = .ok (.aload_n 0, 1) := by decide +kernel
theorem dX2_init_1 : decode cX2_init 1 = .ok (.invokespecial 3, 3) := by decide +kernel
theorem dX2_init_4 : decode cX2_init 4 = .ok (.aload_n 0, 1) := by decide +kernel
theorem dX2_init_5 : decode cX2_init 5 = .ok (.bipush 8, 2) := by decide +kernel
theorem dX2_init_7 : decode cX2_init 7 = .ok (.newarray .int, 2) := by decide +kernel
theorem dX2_init_9 : decode cX2_init 9 = .ok (.putfield 9, 3) := by decide +kernel
theorem dX2_init_12 : decode cX2_init 12 = .ok (.aload_n 0, 1) := by decide +kernel
theorem dX2_init_13 : decode cX2_init 13 = .ok (.bipush 8, 2) := by decide +kernel
theorem dX2_init_15 : decode cX2_init 15 = .ok (.newarray .int, 2) := by decide +kernel
theorem dX2_init_17 : decode cX2_init 17 = .ok (.putfield 15, 3) := by decide +kernel
theorem dX2_init_20 : decode cX2_init 20 = .ok (.aload_n 0, 1) := by decide +kernel
theorem dX2_init_21 : decode cX2_init 21 = .ok (.bipush 8, 2) := by decide +kernel
theorem dX2_init_23 : decode cX2_init 23 = .ok (.newarray .int, 2) := by decide +kernel
theorem dX2_init_25 : decode cX2_init 25 = .ok (.putfield 18, 3) := by decide +kernel
theorem dX2_init_28 : decode cX2_init 28 = .ok (.aload_n 0, 1) := by decide +kernel
theorem dX2_init_29 : decode cX2_init 29 = .ok (.bipush 8, 2) := by decide +kernel
theorem dX2_init_31 : decode cX2_init 31 = .ok (.newarray .int, 2) := by decide +kernel
theorem dX2_init_33 : decode cX2_init 33 = .ok (.putfield 21, 3) := by decide +kernel
theorem dX2_init_36 : decode cX2_init 36 = .ok (.aload_n 0, 1) := by decide +kernel
theorem dX2_init_37 : decode cX2_init 37 = .ok (.bipush 8, 2) := by decide +kernel
theorem dX2_init_39 : decode cX2_init 39 = .ok (.newarray .int, 2) := by decide +kernel
theorem dX2_init_41 : decode cX2_init 41 = .ok (.putfield 24, 3) := by decide +kernel
theorem dX2_init_44 : decode cX2_init 44 = .ok (.aload_n 0, 1) := by decide +kernel
theorem dX2_init_45 : decode cX2_init 45 = .ok (.bipush 8, 2) := by decide +kernel
theorem dX2_init_47 : decode cX2_init 47 = .ok (.newarray .int, 2) := by decide +kernel
theorem dX2_init_49 : decode cX2_init 49 = .ok (.putfield 27, 3) := by decide +kernel
theorem dX2_init_52 : decode cX2_init 52 = .ok (.return_, 1) := by decide +kernel
theorem dX2_thrown_0 : decode cX2_thrown 0 = .ok (.iconst 0, 1) := by decide +kernel
theorem dX2_thrown_1 : decode cX2_thrown 1 = .ok (.istore_n 1, 1) := by decide +kernel
theorem dX2_thrown_2 : decode cX2_thrown 2 = .ok (.iconst 0, 1) := by decide +kernel
theorem dX2_thrown_3 : decode cX2_thrown 3 = .ok (.istore_n 2, 1) := by decide +kernel
theorem dX2_thrown_4 : decode cX2_thrown 4 = .ok (.iload_n 2, 1) := by decide +kernel
theorem dX2_thrown_5 : decode cX2_thrown 5 = .ok (.aload_n 0, 1) := by decide +kernel
theorem dX2_thrown_6 : decode cX2_thrown 6 = .ok (.getfield 30, 3) := by decide +kernel
theorem dX2_thrown_9 : decode cX2_thrown 9 = .ok (.if_icmp .ge 26, 3) := by decide +kernel
theorem dX2_thrown_12 : decode cX2_thrown 12 = .ok (.iload_n 1, 1) := by decide +kernel
theorem dX2_thrown_13 : decode cX2_thrown 13 = .ok (.aload_n 0, 1) := by decide +kernel
theorem dX2_thrown_14 : decode cX2_thrown 14 = .ok (.getfield 27, 3) := by decide +kernel
theorem dX2_thrown_17 : decode cX2_thrown 17 = .ok (.iload_n 2, 1) := by decide +kernel
theorem dX2_thrown_18 : decode cX2_thrown 18 = .ok (.iaload, 1) := by decide +kernel
theorem dX2_thrown_19 : decode cX2_thrown 19 = .ok (.ifCond .ne 7, 3) := by decide +kernel
theorem dX2_thrown_22 : decode cX2_thrown 22 = .ok (.iconst 0, 1) := by decide +kernel
theorem dX2_thrown_23 : decode cX2_thrown 23 = .ok (.goto 4, 3) := by decide +kernel
theorem dX2_thrown_26 : decode cX2_thrown 26 = .ok (.iconst 1, 1) := by decide +kernel
theorem dX2_thrown_27 : decode cX2_thrown 27 = .ok (.iadd, 1) := by decide +kernel
theorem dX2_thrown_28 : decode cX2_thrown 28 = .ok (.istore_n 1, 1) := by decide +kernel
theorem dX2_thrown_29 : decode cX2_thrown 29 = .ok (.iinc 2 1, 3) := by decide +kernel
theorem dX2_thrown_32 : decode cX2_thrown 32 = .ok (.goto (-28), 3) := by decide +kernel
theorem dX2_thrown_35 : decode cX2_thrown 35 = .ok (.iload_n 1, 1) := by decide +kernel
theorem dX2_thrown_36 : decode cX2_thrown 36 = .ok (.ireturn, 1) := by decide +kernel
theorem dX2_take_0 : decode cX2_take 0 = .ok (.aload_n 1, 1) := by decide +kernel
theorem dX2_take_1 : decode cX2_take 1 = .ok (.getfield 9, 3) := by decide +kernel
theorem dX2_take_4 : decode cX2_take 4 = .ok (.aload_n 0, 1) := by decide +kernel
theorem dX2_take_5 : decode cX2_take 5 = .ok (.getfield 9, 3) := by decide +kernel
theorem dX2_take_8 : decode cX2_take 8 = .ok (.invokestatic 38, 3) := by decide +kernel
theorem dX2_take_11 : decode cX2_take 11 = .ok (.aload_n 1, 1) := by decide +kernel
theorem dX2_take_12 : decode cX2_take 12 = .ok (.getfield 15, 3) := by decide +kernel
theorem dX2_take_15 : decode cX2_take 15 = .ok (.aload_n 0, 1) := by decide +kernel
theorem dX2_take_16 : decode cX2_take 16 = .ok (.getfield 15, 3) := by decide +kernel
theorem dX2_take_19 : decode cX2_take 19 = .ok (.invokestatic 38, 3) := by decide +kernel
theorem dX2_take_22 : decode cX2_take 22 = .ok (.aload_n 1, 1) := by decide +kernel
theorem dX2_take_23 : decode cX2_take 23 = .ok (.getfield 18, 3) := by decide +kernel
theorem dX2_take_26 : decode cX2_take 26 = .ok (.aload_n 0, 1) := by decide +kernel
theorem dX2_take_27 : decode cX2_take 27 = .ok (.getfield 18, 3) := by decide +kernel
theorem dX2_take_30 : decode cX2_take 30 = .ok (.invokestatic 38, 3) := by decide +kernel
theorem dX2_take_33 : decode cX2_take 33 = .ok (.aload_n 1, 1) := by decide +kernel
theorem dX2_take_34 : decode cX2_take 34 = .ok (.getfield 21, 3) := by decide +kernel
theorem dX2_take_37 : decode cX2_take 37 = .ok (.aload_n 0, 1) := by decide +kernel
theorem dX2_take_38 : decode cX2_take 38 = .ok (.getfield 21, 3) := by decide +kernel
theorem dX2_take_41 : decode cX2_take 41 = .ok (.invokestatic 38, 3) := by decide +kernel
theorem dX2_take_44 : decode cX2_take 44 = .ok (.aload_n 1, 1) := by decide +kernel
theorem dX2_take_45 : decode cX2_take 45 = .ok (.getfield 24, 3) := by decide +kernel
theorem dX2_take_48 : decode cX2_take 48 = .ok (.aload_n 0, 1) := by decide +kernel
theorem dX2_take_49 : decode cX2_take 49 = .ok (.getfield 24, 3) := by decide +kernel
theorem dX2_take_52 : decode cX2_take 52 = .ok (.invokestatic 38, 3) := by decide +kernel
theorem dX2_take_55 : decode cX2_take 55 = .ok (.aload_n 1, 1) := by decide +kernel
theorem dX2_take_56 : decode cX2_take 56 = .ok (.getfield 27, 3) := by decide +kernel
theorem dX2_take_59 : decode cX2_take 59 = .ok (.aload_n 0, 1) := by decide +kernel
theorem dX2_take_60 : decode cX2_take 60 = .ok (.getfield 27, 3) := by decide +kernel
theorem dX2_take_63 : decode cX2_take 63 = .ok (.invokestatic 38, 3) := by decide +kernel
theorem dX2_take_66 : decode cX2_take 66 = .ok (.aload_n 0, 1) := by decide +kernel
theorem dX2_take_67 : decode cX2_take 67 = .ok (.aload_n 1, 1) := by decide +kernel
theorem dX2_take_68 : decode cX2_take 68 = .ok (.getfield 30, 3) := by decide +kernel
theorem dX2_take_71 : decode cX2_take 71 = .ok (.putfield 30, 3) := by decide +kernel
theorem dX2_take_74 : decode cX2_take 74 = .ok (.return_, 1) := by decide +kernel
theorem dX3_init_0 : decode cX3_init 0 = .ok (.aload_n 0, 1) := by decide +kernel
theorem dX3_init_1 : decode cX3_init 1 = .ok (.invokespecial 3, 3) := by decide +kernel
theorem dX3_init_4 : decode cX3_init 4 = .ok (.aload_n 0, 1) := by decide +kernel
theorem dX3_init_5 : decode cX3_init 5 = .ok (.iconst 3, 1) := by decide +kernel
theorem dX3_init_6 : decode cX3_init 6 = .ok (.bipush 24, 2) := by decide +kernel
theorem dX3_init_8 : decode cX3_init 8 = .ok (.multianewarray 9 2, 4) := by decide +kernel
theorem dX3_init_12 : decode cX3_init 12 = .ok (.putfield 11, 3) := by decide +kernel
theorem dX3_init_15 : decode cX3_init 15 = .ok (.aload_n 0, 1) := by decide +kernel
theorem dX3_init_16 : decode cX3_init 16 = .ok (.iconst 1, 1) := by decide +kernel
theorem dX3_init_17 : decode cX3_init 17 = .ok (.putfield 16, 3) := by decide +kernel
theorem dX3_init_20 : decode cX3_init 20 = .ok (.aload_n 0, 1) := by decide +kernel
theorem dX3_init_21 : decode cX3_init 21 = .ok (.iconst 3, 1) := by decide +kernel
theorem dX3_init_22 : decode cX3_init 22 = .ok (.putfield 20, 3) := by decide +kernel
theorem dX3_init_25 : decode cX3_init 25 = .ok (.return_, 1) := by decide +kernel
theorem dX3_fits_0 : decode cX3_fits 0 = .ok (.iload_n 0, 1) := by decide +kernel
theorem dX3_fits_1 : decode cX3_fits 1 = .ok (.iconst 1, 1) := by decide +kernel
theorem dX3_fits_2 : decode cX3_fits 2 = .ok (.if_icmp .ne 14, 3) := by decide +kernel
theorem dX3_fits_5 : decode cX3_fits 5 = .ok (.iload_n 1, 1) := by decide +kernel
theorem dX3_fits_6 : decode cX3_fits 6 = .ok (.bipush (-20), 2) := by decide +kernel
theorem dX3_fits_8 : decode cX3_fits 8 = .ok (.bipush 20, 2) := by decide +kernel
theorem dX3_fits_10 : decode cX3_fits 10 = .ok (.invokestatic 23, 3) := by decide +kernel
theorem dX3_fits_13 : decode cX3_fits 13 = .ok (.goto 10, 3) := by decide +kernel
theorem dX3_fits_16 : decode cX3_fits 16 = .ok (.iload_n 1, 1) := by decide +kernel
theorem dX3_fits_17 : decode cX3_fits 17 = .ok (.iconst 0, 1) := by decide +kernel
theorem dX3_fits_18 : decode cX3_fits 18 = .ok (.bipush 9, 2) := by decide +kernel
theorem dX3_fits_20 : decode cX3_fits 20 = .ok (.invokestatic 23, 3) := by decide +kernel
theorem dX3_fits_23 : decode cX3_fits 23 = .ok (.ireturn, 1) := by decide +kernel
theorem dX3_wetBy_0 : decode cX3_wetBy 0 = .ok (.iconst 0, 1) := by decide +kernel
theorem dX3_wetBy_1 : decode cX3_wetBy 1 = .ok (.istore_n 3, 1) := by decide +kernel
theorem dX3_wetBy_2 : decode cX3_wetBy 2 = .ok (.iconst 0, 1) := by decide +kernel
theorem dX3_wetBy_3 : decode cX3_wetBy 3 = .ok (.iload_n 1, 1) := by decide +kernel
theorem dX3_wetBy_4 : decode cX3_wetBy 4 = .ok (.iload_n 2, 1) := by decide +kernel
theorem dX3_wetBy_5 : decode cX3_wetBy 5 = .ok (.isub, 1) := by decide +kernel
theorem dX3_wetBy_6 : decode cX3_wetBy 6 = .ok (.iconst 1, 1) := by decide +kernel
theorem dX3_wetBy_7 : decode cX3_wetBy 7 = .ok (.iadd, 1) := by decide +kernel
theorem dX3_wetBy_8 : decode cX3_wetBy 8 = .ok (.invokestatic 27, 3) := by decide +kernel
theorem dX3_wetBy_11 : decode cX3_wetBy 11 = .ok (.istore 4, 2) := by decide +kernel
theorem dX3_wetBy_13 : decode cX3_wetBy 13 = .ok (.iload 4, 2) := by decide +kernel
theorem dX3_wetBy_15 : decode cX3_wetBy 15 = .ok (.iload_n 1, 1) := by decide +kernel
theorem dX3_wetBy_16 : decode cX3_wetBy 16 = .ok (.if_icmp .gt 21, 3) := by decide +kernel
theorem dX3_wetBy_19 : decode cX3_wetBy 19 = .ok (.iload_n 3, 1) := by decide +kernel
theorem dX3_wetBy_20 : decode cX3_wetBy 20 = .ok (.aload_n 0, 1) := by decide +kernel
theorem dX3_wetBy_21 : decode cX3_wetBy 21 = .ok (.getfield 11, 3) := by decide +kernel
theorem dX3_wetBy_24 : decode cX3_wetBy 24 = .ok (.iconst 0, 1) := by decide +kernel
theorem dX3_wetBy_25 : decode cX3_wetBy 25 = .ok (.aaload, 1) := by decide +kernel
theorem dX3_wetBy_26 : decode cX3_wetBy 26 = .ok (.iload 4, 2) := by decide +kernel
theorem dX3_wetBy_28 : decode cX3_wetBy 28 = .ok (.iaload, 1) := by decide +kernel
theorem dX3_wetBy_29 : decode cX3_wetBy 29 = .ok (.iadd, 1) := by decide +kernel
theorem dX3_wetBy_30 : decode cX3_wetBy 30 = .ok (.istore_n 3, 1) := by decide +kernel
theorem dX3_wetBy_31 : decode cX3_wetBy 31 = .ok (.iinc 4 1, 3) := by decide +kernel
theorem dX3_wetBy_34 : decode cX3_wetBy 34 = .ok (.goto (-21), 3) := by decide +kernel
theorem dX3_wetBy_37 : decode cX3_wetBy 37 = .ok (.iload_n 3, 1) := by decide +kernel
theorem dX3_wetBy_38 : decode cX3_wetBy 38 = .ok (.ireturn, 1) := by decide +kernel
theorem dX3_waterBy_0 : decode cX3_waterBy 0 = .ok (.aload_n 0, 1) := by decide +kernel
theorem dX3_waterBy_1 : decode cX3_waterBy 1 = .ok (.iload_n 1, 1) := by decide +kernel
theorem dX3_waterBy_2 : decode cX3_waterBy 2 = .ok (.iload_n 2, 1) := by decide +kernel
theorem dX3_waterBy_3 : decode cX3_waterBy 3 = .ok (.invokevirtual 33, 3) := by decide +kernel
theorem dX3_waterBy_6 : decode cX3_waterBy 6 = .ok (.istore_n 3, 1) := by decide +kernel
theorem dX3_waterBy_7 : decode cX3_waterBy 7 = .ok (.iload_n 3, 1) := by decide +kernel
theorem dX3_waterBy_8 : decode cX3_waterBy 8 = .ok (.ifCond .ne 7, 3) := by decide +kernel
theorem dX3_waterBy_11 : decode cX3_waterBy 11 = .ok (.sipush (-1004), 3) := by decide +kernel
theorem dX3_waterBy_14 : decode cX3_waterBy 14 = .ok (.ireturn, 1) := by decide +kernel
theorem dX3_waterBy_15 : decode cX3_waterBy 15 = .ok (.iconst 0, 1) := by decide +kernel
theorem dX3_waterBy_16 : decode cX3_waterBy 16 = .ok (.istore 4, 2) := by decide +kernel
theorem dX3_waterBy_18 : decode cX3_waterBy 18 = .ok (.iconst 0, 1) := by decide +kernel
theorem dX3_waterBy_19 : decode cX3_waterBy 19 = .ok (.iload_n 1, 1) := by decide +kernel
theorem dX3_waterBy_20 : decode cX3_waterBy 20 = .ok (.iload_n 2, 1) := by decide +kernel
theorem dX3_waterBy_21 : decode cX3_waterBy 21 = .ok (.isub, 1) := by decide +kernel
theorem dX3_waterBy_22 : decode cX3_waterBy 22 = .ok (.iconst 1, 1) := by decide +kernel
theorem dX3_waterBy_23 : decode cX3_waterBy 23 = .ok (.iadd, 1) := by decide +kernel
theorem dX3_waterBy_24 : decode cX3_waterBy 24 = .ok (.invokestatic 27, 3) := by decide +kernel
theorem dX3_waterBy_27 : decode cX3_waterBy 27 = .ok (.istore 5, 2) := by decide +kernel
theorem dX3_waterBy_29 : decode cX3_waterBy 29 = .ok (.iload 5, 2) := by decide +kernel
theorem dX3_waterBy_31 : decode cX3_waterBy 31 = .ok (.iload_n 1, 1) := by decide +kernel
theorem dX3_waterBy_32 : decode cX3_waterBy 32 = .ok (.if_icmp .gt 33, 3) := by decide +kernel
theorem dX3_waterBy_35 : decode cX3_waterBy 35 = .ok (.iload 4, 2) := by decide +kernel
theorem dX3_waterBy_37 : decode cX3_waterBy 37 = .ok (.aload_n 0, 1) := by decide +kernel
theorem dX3_waterBy_38 : decode cX3_waterBy 38 = .ok (.getfield 11, 3) := by decide +kernel
theorem dX3_waterBy_41 : decode cX3_waterBy 41 = .ok (.iconst 0, 1) := by decide +kernel
theorem dX3_waterBy_42 : decode cX3_waterBy 42 = .ok (.aaload, 1) := by decide +kernel
theorem dX3_waterBy_43 : decode cX3_waterBy 43 = .ok (.iload 5, 2) := by decide +kernel
theorem dX3_waterBy_45 : decode cX3_waterBy 45 = .ok (.iaload, 1) := by decide +kernel
theorem dX3_waterBy_46 : decode cX3_waterBy 46 = .ok (.aload_n 0, 1) := by decide +kernel
theorem dX3_waterBy_47 : decode cX3_waterBy 47 = .ok (.getfield 11, 3) := by decide +kernel
theorem dX3_waterBy_50 : decode cX3_waterBy 50 = .ok (.iconst 1, 1) := by decide +kernel
theorem dX3_waterBy_51 : decode cX3_waterBy 51 = .ok (.aaload, 1) := by decide +kernel
theorem dX3_waterBy_52 : decode cX3_waterBy 52 = .ok (.iload 5, 2) := by decide +kernel
theorem dX3_waterBy_54 : decode cX3_waterBy 54 = .ok (.iaload, 1) := by decide +kernel
theorem dX3_waterBy_55 : decode cX3_waterBy 55 = .ok (.imul, 1) := by decide +kernel
theorem dX3_waterBy_56 : decode cX3_waterBy 56 = .ok (.iadd, 1) := by decide +kernel
theorem dX3_waterBy_57 : decode cX3_waterBy 57 = .ok (.istore 4, 2) := by decide +kernel
theorem dX3_waterBy_59 : decode cX3_waterBy 59 = .ok (.iinc 5 1, 3) := by decide +kernel
theorem dX3_waterBy_62 : decode cX3_waterBy 62 = .ok (.goto (-33), 3) := by decide +kernel
theorem dX3_waterBy_65 : decode cX3_waterBy 65 = .ok (.iload 4, 2) := by decide +kernel
theorem dX3_waterBy_67 : decode cX3_waterBy 67 = .ok (.iload_n 3, 1) := by decide +kernel
theorem dX3_waterBy_68 : decode cX3_waterBy 68 = .ok (.idiv, 1) := by decide +kernel
theorem dX3_waterBy_69 : decode cX3_waterBy 69 = .ok (.ireturn, 1) := by decide +kernel
theorem dX3_take_0 : decode cX3_take 0 = .ok (.iconst 0, 1) := by decide +kernel
theorem dX3_take_1 : decode cX3_take 1 = .ok (.istore_n 2, 1) := by decide +kernel
theorem dX3_take_2 : decode cX3_take 2 = .ok (.iload_n 2, 1) := by decide +kernel
theorem dX3_take_3 : decode cX3_take 3 = .ok (.iconst 2, 1) := by decide +kernel
theorem dX3_take_4 : decode cX3_take 4 = .ok (.if_icmp .gt 24, 3) := by decide +kernel
theorem dX3_take_7 : decode cX3_take 7 = .ok (.aload_n 1, 1) := by decide +kernel
theorem dX3_take_8 : decode cX3_take 8 = .ok (.getfield 11, 3) := by decide +kernel
theorem dX3_take_11 : decode cX3_take 11 = .ok (.iload_n 2, 1) := by decide +kernel
theorem dX3_take_12 : decode cX3_take 12 = .ok (.aaload, 1) := by decide +kernel
theorem dX3_take_13 : decode cX3_take 13 = .ok (.aload_n 0, 1) := by decide +kernel
theorem dX3_take_14 : decode cX3_take 14 = .ok (.getfield 11, 3) := by decide +kernel
theorem dX3_take_17 : decode cX3_take 17 = .ok (.iload_n 2, 1) := by decide +kernel
theorem dX3_take_18 : decode cX3_take 18 = .ok (.aaload, 1) := by decide +kernel
theorem dX3_take_19 : decode cX3_take 19 = .ok (.invokestatic 36, 3) := by decide +kernel
theorem dX3_take_22 : decode cX3_take 22 = .ok (.iinc 2 1, 3) := by decide +kernel
theorem dX3_take_25 : decode cX3_take 25 = .ok (.goto (-23), 3) := by decide +kernel
theorem dX3_take_28 : decode cX3_take 28 = .ok (.aload_n 0, 1) := by decide +kernel
theorem dX3_take_29 : decode cX3_take 29 = .ok (.aload_n 1, 1) := by decide +kernel
theorem dX3_take_30 : decode cX3_take 30 = .ok (.getfield 16, 3) := by decide +kernel
theorem dX3_take_33 : decode cX3_take 33 = .ok (.putfield 16, 3) := by decide +kernel
theorem dX3_take_36 : decode cX3_take 36 = .ok (.aload_n 0, 1) := by decide +kernel
theorem dX3_take_37 : decode cX3_take 37 = .ok (.aload_n 1, 1) := by decide +kernel
theorem dX3_take_38 : decode cX3_take 38 = .ok (.getfield 20, 3) := by decide +kernel
theorem dX3_take_41 : decode cX3_take 41 = .ok (.putfield 20, 3) := by decide +kernel
theorem dX3_take_44 : decode cX3_take 44 = .ok (.return_, 1) := by decide +kernel
theorem dX4_init_0 : decode cX4_init 0 = .ok (.aload_n 0, 1) := by decide +kernel
theorem dX4_init_1 : decode cX4_init 1 = .ok (.invokespecial 3, 3) := by decide +kernel
theorem dX4_init_4 : decode cX4_init 4 = .ok (.aload_n 0, 1) := by decide +kernel
theorem dX4_init_5 : decode cX4_init 5 = .ok (.bipush 6, 2) := by decide +kernel
theorem dX4_init_7 : decode cX4_init 7 = .ok (.newarray .int, 2) := by decide +kernel
theorem dX4_init_9 : decode cX4_init 9 = .ok (.putfield 9, 3) := by decide +kernel
theorem dX4_init_12 : decode cX4_init 12 = .ok (.aload_n 0, 1) := by decide +kernel
theorem dX4_init_13 : decode cX4_init 13 = .ok (.bipush 6, 2) := by decide +kernel
theorem dX4_init_15 : decode cX4_init 15 = .ok (.newarray .int, 2) := by decide +kernel
theorem dX4_init_17 : decode cX4_init 17 = .ok (.putfield 15, 3) := by decide +kernel
theorem dX4_init_20 : decode cX4_init 20 = .ok (.aload_n 0, 1) := by decide +kernel
theorem dX4_init_21 : decode cX4_init 21 = .ok (.bipush 18, 2) := by decide +kernel
theorem dX4_init_23 : decode cX4_init 23 = .ok (.newarray .int, 2) := by decide +kernel
theorem dX4_init_25 : decode cX4_init 25 = .ok (.putfield 18, 3) := by decide +kernel
theorem dX4_init_28 : decode cX4_init 28 = .ok (.aload_n 0, 1) := by decide +kernel
theorem dX4_init_29 : decode cX4_init 29 = .ok (.bipush 18, 2) := by decide +kernel
theorem dX4_init_31 : decode cX4_init 31 = .ok (.newarray .int, 2) := by decide +kernel
theorem dX4_init_33 : decode cX4_init 33 = .ok (.putfield 21, 3) := by decide +kernel
theorem dX4_init_36 : decode cX4_init 36 = .ok (.aload_n 0, 1) := by decide +kernel
theorem dX4_init_37 : decode cX4_init 37 = .ok (.bipush 18, 2) := by decide +kernel
theorem dX4_init_39 : decode cX4_init 39 = .ok (.newarray .int, 2) := by decide +kernel
theorem dX4_init_41 : decode cX4_init 41 = .ok (.putfield 24, 3) := by decide +kernel
theorem dX4_init_44 : decode cX4_init 44 = .ok (.return_, 1) := by decide +kernel
theorem dX4_growth_0 : decode cX4_growth 0 = .ok (.aload_n 1, 1) := by decide +kernel
theorem dX4_growth_1 : decode cX4_growth 1 = .ok (.iload_n 2, 1) := by decide +kernel
theorem dX4_growth_2 : decode cX4_growth 2 = .ok (.aload_n 1, 1) := by decide +kernel
theorem dX4_growth_3 : decode cX4_growth 3 = .ok (.getfield 27, 3) := by decide +kernel
theorem dX4_growth_6 : decode cX4_growth 6 = .ok (.invokevirtual 33, 3) := by decide +kernel
theorem dX4_growth_9 : decode cX4_growth 9 = .ok (.istore_n 3, 1) := by decide +kernel
theorem dX4_growth_10 : decode cX4_growth 10 = .ok (.iload_n 3, 1) := by decide +kernel
theorem dX4_growth_11 : decode cX4_growth 11 = .ok (.ifCond .ne 5, 3) := by decide +kernel
theorem dX4_growth_14 : decode cX4_growth 14 = .ok (.iconst 0, 1) := by decide +kernel
theorem dX4_growth_15 : decode cX4_growth 15 = .ok (.ireturn, 1) := by decide +kernel
theorem dX4_growth_16 : decode cX4_growth 16 = .ok (.iconst 0, 1) := by decide +kernel
theorem dX4_growth_17 : decode cX4_growth 17 = .ok (.istore 4, 2) := by decide +kernel
theorem dX4_growth_19 : decode cX4_growth 19 = .ok (.iload 4, 2) := by decide +kernel
theorem dX4_growth_21 : decode cX4_growth 21 = .ok (.aload_n 0, 1) := by decide +kernel
theorem dX4_growth_22 : decode cX4_growth 22 = .ok (.getfield 37, 3) := by decide +kernel
theorem dX4_growth_25 : decode cX4_growth 25 = .ok (.if_icmp .ge 43, 3) := by decide +kernel
theorem dX4_growth_28 : decode cX4_growth 28 = .ok (.aload_n 0, 1) := by decide +kernel
theorem dX4_growth_29 : decode cX4_growth 29 = .ok (.iload 4, 2) := by decide +kernel
theorem dX4_growth_31 : decode cX4_growth 31 = .ok (.aload_n 1, 1) := by decide +kernel
theorem dX4_growth_32 : decode cX4_growth 32 = .ok (.getfield 40, 3) := by decide +kernel
theorem dX4_growth_35 : decode cX4_growth 35 = .ok (.iconst 0, 1) := by decide +kernel
theorem dX4_growth_36 : decode cX4_growth 36 = .ok (.aaload, 1) := by decide +kernel
theorem dX4_growth_37 : decode cX4_growth 37 = .ok (.iload_n 2, 1) := by decide +kernel
theorem dX4_growth_38 : decode cX4_growth 38 = .ok (.iaload, 1) := by decide +kernel
theorem dX4_growth_39 : decode cX4_growth 39 = .ok (.aload_n 1, 1) := by decide +kernel
theorem dX4_growth_40 : decode cX4_growth 40 = .ok (.getfield 40, 3) := by decide +kernel
theorem dX4_growth_43 : decode cX4_growth 43 = .ok (.iconst 2, 1) := by decide +kernel
theorem dX4_growth_44 : decode cX4_growth 44 = .ok (.aaload, 1) := by decide +kernel
theorem dX4_growth_45 : decode cX4_growth 45 = .ok (.iload_n 2, 1) := by decide +kernel
theorem dX4_growth_46 : decode cX4_growth 46 = .ok (.iaload, 1) := by decide +kernel
theorem dX4_growth_47 : decode cX4_growth 47 = .ok (.iload_n 3, 1) := by decide +kernel
theorem dX4_growth_48 : decode cX4_growth 48 = .ok (.invokevirtual 44, 3) := by decide +kernel
theorem dX4_growth_51 : decode cX4_growth 51 = .ok (.ifCond .eq 11, 3) := by decide +kernel
theorem dX4_growth_54 : decode cX4_growth 54 = .ok (.aload_n 0, 1) := by decide +kernel
theorem dX4_growth_55 : decode cX4_growth 55 = .ok (.getfield 9, 3) := by decide +kernel
theorem dX4_growth_58 : decode cX4_growth 58 = .ok (.iload 4, 2) := by decide +kernel
theorem dX4_growth_60 : decode cX4_growth 60 = .ok (.iaload, 1) := by decide +kernel
theorem dX4_growth_61 : decode cX4_growth 61 = .ok (.ireturn, 1) := by decide +kernel
theorem dX4_growth_62 : decode cX4_growth 62 = .ok (.iinc 4 1, 3) := by decide +kernel
theorem dX4_growth_65 : decode cX4_growth 65 = .ok (.goto (-46), 3) := by decide +kernel
theorem dX4_growth_68 : decode cX4_growth 68 = .ok (.iconst 0, 1) := by decide +kernel
theorem dX4_growth_69 : decode cX4_growth 69 = .ok (.ireturn, 1) := by decide +kernel
theorem dX4_take_0 : decode cX4_take 0 = .ok (.aload_n 1, 1) := by decide +kernel
theorem dX4_take_1 : decode cX4_take 1 = .ok (.getfield 9, 3) := by decide +kernel
theorem dX4_take_4 : decode cX4_take 4 = .ok (.aload_n 0, 1) := by decide +kernel
theorem dX4_take_5 : decode cX4_take 5 = .ok (.getfield 9, 3) := by decide +kernel
theorem dX4_take_8 : decode cX4_take 8 = .ok (.invokestatic 53, 3) := by decide +kernel
theorem dX4_take_11 : decode cX4_take 11 = .ok (.aload_n 1, 1) := by decide +kernel
theorem dX4_take_12 : decode cX4_take 12 = .ok (.getfield 15, 3) := by decide +kernel
theorem dX4_take_15 : decode cX4_take 15 = .ok (.aload_n 0, 1) := by decide +kernel
theorem dX4_take_16 : decode cX4_take 16 = .ok (.getfield 15, 3) := by decide +kernel
theorem dX4_take_19 : decode cX4_take 19 = .ok (.invokestatic 53, 3) := by decide +kernel
theorem dX4_take_22 : decode cX4_take 22 = .ok (.aload_n 1, 1) := by decide +kernel
theorem dX4_take_23 : decode cX4_take 23 = .ok (.getfield 18, 3) := by decide +kernel
theorem dX4_take_26 : decode cX4_take 26 = .ok (.aload_n 0, 1) := by decide +kernel
theorem dX4_take_27 : decode cX4_take 27 = .ok (.getfield 18, 3) := by decide +kernel
theorem dX4_take_30 : decode cX4_take 30 = .ok (.invokestatic 53, 3) := by decide +kernel
theorem dX4_take_33 : decode cX4_take 33 = .ok (.aload_n 1, 1) := by decide +kernel
theorem dX4_take_34 : decode cX4_take 34 = .ok (.getfield 21, 3) := by decide +kernel
theorem dX4_take_37 : decode cX4_take 37 = .ok (.aload_n 0, 1) := by decide +kernel
theorem dX4_take_38 : decode cX4_take 38 = .ok (.getfield 21, 3) := by decide +kernel
theorem dX4_take_41 : decode cX4_take 41 = .ok (.invokestatic 53, 3) := by decide +kernel
theorem dX4_take_44 : decode cX4_take 44 = .ok (.aload_n 1, 1) := by decide +kernel
theorem dX4_take_45 : decode cX4_take 45 = .ok (.getfield 24, 3) := by decide +kernel
theorem dX4_take_48 : decode cX4_take 48 = .ok (.aload_n 0, 1) := by decide +kernel
theorem dX4_take_49 : decode cX4_take 49 = .ok (.getfield 24, 3) := by decide +kernel
theorem dX4_take_52 : decode cX4_take 52 = .ok (.invokestatic 53, 3) := by decide +kernel
theorem dX4_take_55 : decode cX4_take 55 = .ok (.aload_n 0, 1) := by decide +kernel
theorem dX4_take_56 : decode cX4_take 56 = .ok (.aload_n 1, 1) := by decide +kernel
theorem dX4_take_57 : decode cX4_take 57 = .ok (.getfield 37, 3) := by decide +kernel
theorem dX4_take_60 : decode cX4_take 60 = .ok (.putfield 37, 3) := by decide +kernel
theorem dX4_take_63 : decode cX4_take 63 = .ok (.return_, 1) := by decide +kernel
theorem dX5_init_0 : decode cX5_init 0 = .ok (.aload_n 0, 1) := by decide +kernel
theorem dX5_init_1 : decode cX5_init 1 = .ok (.invokespecial 3, 3) := by decide +kernel
theorem dX5_init_4 : decode cX5_init 4 = .ok (.aload_n 0, 1) := by decide +kernel
theorem dX5_init_5 : decode cX5_init 5 = .ok (.bipush 12, 2) := by decide +kernel
theorem dX5_init_7 : decode cX5_init 7 = .ok (.newarray .boolean, 2) := by decide +kernel
theorem dX5_init_9 : decode cX5_init 9 = .ok (.putfield 9, 3) := by decide +kernel
theorem dX5_init_12 : decode cX5_init 12 = .ok (.aload_n 0, 1) := by decide +kernel
theorem dX5_init_13 : decode cX5_init 13 = .ok (.bipush 12, 2) := by decide +kernel
theorem dX5_init_15 : decode cX5_init 15 = .ok (.newarray .boolean, 2) := by decide +kernel
theorem dX5_init_17 : decode cX5_init 17 = .ok (.putfield 15, 3) := by decide +kernel
theorem dX5_init_20 : decode cX5_init 20 = .ok (.aload_n 0, 1) := by decide +kernel
theorem dX5_init_21 : decode cX5_init 21 = .ok (.bipush 24, 2) := by decide +kernel
theorem dX5_init_23 : decode cX5_init 23 = .ok (.newarray .boolean, 2) := by decide +kernel
theorem dX5_init_25 : decode cX5_init 25 = .ok (.putfield 18, 3) := by decide +kernel
theorem dX5_init_28 : decode cX5_init 28 = .ok (.aload_n 0, 1) := by decide +kernel
theorem dX5_init_29 : decode cX5_init 29 = .ok (.bipush 24, 2) := by decide +kernel
theorem dX5_init_31 : decode cX5_init 31 = .ok (.newarray .boolean, 2) := by decide +kernel
theorem dX5_init_33 : decode cX5_init 33 = .ok (.putfield 21, 3) := by decide +kernel
theorem dX5_init_36 : decode cX5_init 36 = .ok (.aload_n 0, 1) := by decide +kernel
theorem dX5_init_37 : decode cX5_init 37 = .ok (.bipush 24, 2) := by decide +kernel
theorem dX5_init_39 : decode cX5_init 39 = .ok (.newarray .int, 2) := by decide +kernel
theorem dX5_init_41 : decode cX5_init 41 = .ok (.putfield 24, 3) := by decide +kernel
theorem dX5_init_44 : decode cX5_init 44 = .ok (.aload_n 0, 1) := by decide +kernel
theorem dX5_init_45 : decode cX5_init 45 = .ok (.sipush 16224, 3) := by decide +kernel
theorem dX5_init_48 : decode cX5_init 48 = .ok (.newarray .long, 2) := by decide +kernel
theorem dX5_init_50 : decode cX5_init 50 = .ok (.putfield 28, 3) := by decide +kernel
theorem dX5_init_53 : decode cX5_init 53 = .ok (.aload_n 0, 1) := by decide +kernel
theorem dX5_init_54 : decode cX5_init 54 = .ok (.bipush 96, 2) := by decide +kernel
theorem dX5_init_56 : decode cX5_init 56 = .ok (.newarray .long, 2) := by decide +kernel
theorem dX5_init_58 : decode cX5_init 58 = .ok (.putfield 32, 3) := by decide +kernel
theorem dX5_init_61 : decode cX5_init 61 = .ok (.return_, 1) := by decide +kernel
theorem dX6_init_0 : decode cX6_init 0 = .ok (.aload_n 0, 1) := by decide +kernel
theorem dX6_init_1 : decode cX6_init 1 = .ok (.invokespecial 3, 3) := by decide +kernel
theorem dX6_init_4 : decode cX6_init 4 = .ok (.aload_n 0, 1) := by decide +kernel
theorem dX6_init_5 : decode cX6_init 5 = .ok (.bipush 80, 2) := by decide +kernel
theorem dX6_init_7 : decode cX6_init 7 = .ok (.newarray .int, 2) := by decide +kernel
theorem dX6_init_9 : decode cX6_init 9 = .ok (.putfield 9, 3) := by decide +kernel
theorem dX6_init_12 : decode cX6_init 12 = .ok (.return_, 1) := by decide +kernel
theorem dX6_readLaw_0 : decode cX6_readLaw 0 = .ok (.aload_n 0, 1) := by decide +kernel
theorem dX6_readLaw_1 : decode cX6_readLaw 1 = .ok (.iconst 0, 1) := by decide +kernel
theorem dX6_readLaw_2 : decode cX6_readLaw 2 = .ok (.putfield 15, 3) := by decide +kernel
theorem dX6_readLaw_5 : decode cX6_readLaw 5 = .ok (.iconst 1, 1) := by decide +kernel
theorem dX6_readLaw_6 : decode cX6_readLaw 6 = .ok (.istore_n 2, 1) := by decide +kernel
theorem dX6_readLaw_7 : decode cX6_readLaw 7 = .ok (.iconst 0, 1) := by decide +kernel
theorem dX6_readLaw_8 : decode cX6_readLaw 8 = .ok (.istore_n 3, 1) := by decide +kernel
theorem dX6_readLaw_9 : decode cX6_readLaw 9 = .ok (.iload_n 3, 1) := by decide +kernel
theorem dX6_readLaw_10 : decode cX6_readLaw 10 = .ok (.bipush 6, 2) := by decide +kernel
theorem dX6_readLaw_12 : decode cX6_readLaw 12 = .ok (.if_icmp .ge 58, 3) := by decide +kernel
theorem dX6_readLaw_15 : decode cX6_readLaw 15 = .ok (.iload_n 2, 1) := by decide +kernel
theorem dX6_readLaw_16 : decode cX6_readLaw 16 = .ok (.ifCond .eq 54, 3) := by decide +kernel
theorem dX6_readLaw_19 : decode cX6_readLaw 19 = .ok (.aload_n 0, 1) := by decide +kernel
theorem dX6_readLaw_20 : decode cX6_readLaw 20 = .ok (.aload_n 1, 1) := by decide +kernel
theorem dX6_readLaw_21 : decode cX6_readLaw 21 = .ok (.iload_n 3, 1) := by decide +kernel
theorem dX6_readLaw_22 : decode cX6_readLaw 22 = .ok (.invokevirtual 19, 3) := by decide +kernel
theorem dX6_readLaw_25 : decode cX6_readLaw 25 = .ok (.ifCond .ne 8, 3) := by decide +kernel
theorem dX6_readLaw_28 : decode cX6_readLaw 28 = .ok (.aload_n 0, 1) := by decide +kernel
theorem dX6_readLaw_29 : decode cX6_readLaw 29 = .ok (.getfield 23, 3) := by decide +kernel
theorem dX6_readLaw_32 : decode cX6_readLaw 32 = .ok (.ireturn, 1) := by decide +kernel
theorem dX6_readLaw_33 : decode cX6_readLaw 33 = .ok (.aload_n 1, 1) := by decide +kernel
theorem dX6_readLaw_34 : decode cX6_readLaw 34 = .ok (.iload_n 3, 1) := by decide +kernel
theorem dX6_readLaw_35 : decode cX6_readLaw 35 = .ok (.iconst 1, 1) := by decide +kernel
theorem dX6_readLaw_36 : decode cX6_readLaw 36 = .ok (.iadd, 1) := by decide +kernel
theorem dX6_readLaw_37 : decode cX6_readLaw 37 = .ok (.putfield 26, 3) := by decide +kernel
theorem dX6_readLaw_40 : decode cX6_readLaw 40 = .ok (.aload_n 1, 1) := by decide +kernel
theorem dX6_readLaw_41 : decode cX6_readLaw 41 = .ok (.getfield 26, 3) := by decide +kernel
theorem dX6_readLaw_44 : decode cX6_readLaw 44 = .ok (.bipush 6, 2) := by decide +kernel
theorem dX6_readLaw_46 : decode cX6_readLaw 46 = .ok (.if_icmp .ge 16, 3) := by decide +kernel
theorem dX6_readLaw_49 : decode cX6_readLaw 49 = .ok (.aload_n 0, 1) := by decide +kernel
theorem dX6_readLaw_50 : decode cX6_readLaw 50 = .ok (.bipush 59, 2) := by decide +kernel
theorem dX6_readLaw_52 : decode cX6_readLaw 52 = .ok (.invokevirtual 31, 3) := by decide +kernel
theorem dX6_readLaw_55 : decode cX6_readLaw 55 = .ok (.ifCond .eq 7, 3) := by decide +kernel
theorem dX6_readLaw_58 : decode cX6_readLaw 58 = .ok (.iconst 1, 1) := by decide +kernel
theorem dX6_readLaw_59 : decode cX6_readLaw 59 = .ok (.goto 4, 3) := by decide +kernel
theorem dX6_readLaw_62 : decode cX6_readLaw 62 = .ok (.iconst 0, 1) := by decide +kernel
theorem dX6_readLaw_63 : decode cX6_readLaw 63 = .ok (.istore_n 2, 1) := by decide +kernel
theorem dX6_readLaw_64 : decode cX6_readLaw 64 = .ok (.iinc 3 1, 3) := by decide +kernel
theorem dX6_readLaw_67 : decode cX6_readLaw 67 = .ok (.goto (-58), 3) := by decide +kernel
theorem dX6_readLaw_70 : decode cX6_readLaw 70 = .ok (.aload_n 0, 1) := by decide +kernel
theorem dX6_readLaw_71 : decode cX6_readLaw 71 = .ok (.invokevirtual 35, 3) := by decide +kernel
theorem dX6_readLaw_74 : decode cX6_readLaw 74 = .ok (.iconst (-1), 1) := by decide +kernel
theorem dX6_readLaw_75 : decode cX6_readLaw 75 = .ok (.if_icmp .eq 14, 3) := by decide +kernel
theorem dX6_readLaw_78 : decode cX6_readLaw 78 = .ok (.aload_n 0, 1) := by decide +kernel
theorem dX6_readLaw_79 : decode cX6_readLaw 79 = .ok (.aload_n 0, 1) := by decide +kernel
theorem dX6_readLaw_80 : decode cX6_readLaw 80 = .ok (.getfield 15, 3) := by decide +kernel
theorem dX6_readLaw_83 : decode cX6_readLaw 83 = .ok (.invokevirtual 39, 3) := by decide +kernel
theorem dX6_readLaw_86 : decode cX6_readLaw 86 = .ok (.ifCond .eq 7, 3) := by decide +kernel
theorem dX6_readLaw_89 : decode cX6_readLaw 89 = .ok (.iconst 0, 1) := by decide +kernel
theorem dX6_readLaw_90 : decode cX6_readLaw 90 = .ok (.goto 7, 3) := by decide +kernel
theorem dX6_readLaw_93 : decode cX6_readLaw 93 = .ok (.aload_n 0, 1) := by decide +kernel
theorem dX6_readLaw_94 : decode cX6_readLaw 94 = .ok (.getfield 23, 3) := by decide +kernel
theorem dX6_readLaw_97 : decode cX6_readLaw 97 = .ok (.ireturn, 1) := by decide +kernel
theorem dX6_readClause_0 : decode cX6_readClause 0 = .ok (.aload_n 1, 1) := by decide +kernel
theorem dX6_readClause_1 : decode cX6_readClause 1 = .ok (.getfield 42, 3) := by decide +kernel
theorem dX6_readClause_4 : decode cX6_readClause 4 = .ok (.iload_n 2, 1) := by decide +kernel
theorem dX6_readClause_5 : decode cX6_readClause 5 = .ok (.iconst 0, 1) := by decide +kernel
theorem dX6_readClause_6 : decode cX6_readClause 6 = .ok (.iastore, 1) := by decide +kernel
theorem dX6_readClause_7 : decode cX6_readClause 7 = .ok (.aload_n 0, 1) := by decide +kernel
theorem dX6_readClause_8 : decode cX6_readClause 8 = .ok (.bipush 42, 2) := by decide +kernel
theorem dX6_readClause_10 : decode cX6_readClause 10 = .ok (.invokevirtual 31, 3) := by decide +kernel
theorem dX6_readClause_13 : decode cX6_readClause 13 = .ok (.ifCond .ne 14, 3) := by decide +kernel
theorem dX6_readClause_16 : decode cX6_readClause 16 = .ok (.aload_n 0, 1) := by decide +kernel
theorem dX6_readClause_17 : decode cX6_readClause 17 = .ok (.aload_n 1, 1) := by decide +kernel
theorem dX6_readClause_18 : decode cX6_readClause 18 = .ok (.iload_n 2, 1) := by decide +kernel
theorem dX6_readClause_19 : decode cX6_readClause 19 = .ok (.invokevirtual 45, 3) := by decide +kernel
theorem dX6_readClause_22 : decode cX6_readClause 22 = .ok (.ifCond .ne 5, 3) := by decide +kernel
theorem dX6_readClause_25 : decode cX6_readClause 25 = .ok (.iconst 0, 1) := by decide +kernel
theorem dX6_readClause_26 : decode cX6_readClause 26 = .ok (.ireturn, 1) := by decide +kernel
theorem dX6_readClause_27 : decode cX6_readClause 27 = .ok (.aload_n 0, 1) := by decide +kernel
theorem dX6_readClause_28 : decode cX6_readClause 28 = .ok (.bipush 58, 2) := by decide +kernel
theorem dX6_readClause_30 : decode cX6_readClause 30 = .ok (.invokevirtual 48, 3) := by decide +kernel
theorem dX6_readClause_33 : decode cX6_readClause 33 = .ok (.ifCond .ne 5, 3) := by decide +kernel
theorem dX6_readClause_36 : decode cX6_readClause 36 = .ok (.iconst 0, 1) := by decide +kernel
theorem dX6_readClause_37 : decode cX6_readClause 37 = .ok (.ireturn, 1) := by decide +kernel
theorem dX6_readClause_38 : decode cX6_readClause 38 = .ok (.aload_n 0, 1) := by decide +kernel
theorem dX6_readClause_39 : decode cX6_readClause 39 = .ok (.invokevirtual 35, 3) := by decide +kernel
theorem dX6_readClause_42 : decode cX6_readClause 42 = .ok (.istore_n 3, 1) := by decide +kernel
theorem dX6_readClause_43 : decode cX6_readClause 43 = .ok (.iload_n 3, 1) := by decide +kernel
theorem dX6_readClause_44 : decode cX6_readClause 44 = .ok (.bipush 48, 2) := by decide +kernel
theorem dX6_readClause_46 : decode cX6_readClause 46 = .ok (.bipush 52, 2) := by decide +kernel
theorem dX6_readClause_48 : decode cX6_readClause 48 = .ok (.invokestatic 51, 3) := by decide +kernel
theorem dX6_readClause_51 : decode cX6_readClause 51 = .ok (.ifCond .ne 12, 3) := by decide +kernel
theorem dX6_readClause_54 : decode cX6_readClause 54 = .ok (.aload_n 0, 1) := by decide +kernel
theorem dX6_readClause_55 : decode cX6_readClause 55 = .ok (.aload_n 0, 1) := by decide +kernel
theorem dX6_readClause_56 : decode cX6_readClause 56 = .ok (.getfield 15, 3) := by decide +kernel
theorem dX6_readClause_59 : decode cX6_readClause 59 = .ok (.invokevirtual 39, 3) := by decide +kernel
theorem dX6_readClause_62 : decode cX6_readClause 62 = .ok (.ireturn, 1) := by decide +kernel
theorem dX6_readClause_63 : decode cX6_readClause 63 = .ok (.aload_n 1, 1) := by decide +kernel
theorem dX6_readClause_64 : decode cX6_readClause 64 = .ok (.getfield 55, 3) := by decide +kernel
theorem dX6_readClause_67 : decode cX6_readClause 67 = .ok (.iload_n 2, 1) := by decide +kernel
theorem dX6_readClause_68 : decode cX6_readClause 68 = .ok (.iload_n 3, 1) := by decide +kernel
theorem dX6_readClause_69 : decode cX6_readClause 69 = .ok (.bipush 48, 2) := by decide +kernel
theorem dX6_readClause_71 : decode cX6_readClause 71 = .ok (.isub, 1) := by decide +kernel
theorem dX6_readClause_72 : decode cX6_readClause 72 = .ok (.iastore, 1) := by decide +kernel
theorem dX6_readClause_73 : decode cX6_readClause 73 = .ok (.aload_n 0, 1) := by decide +kernel
theorem dX6_readClause_74 : decode cX6_readClause 74 = .ok (.dup, 1) := by decide +kernel
theorem dX6_readClause_75 : decode cX6_readClause 75 = .ok (.getfield 15, 3) := by decide +kernel
theorem dX6_readClause_78 : decode cX6_readClause 78 = .ok (.iconst 1, 1) := by decide +kernel
theorem dX6_readClause_79 : decode cX6_readClause 79 = .ok (.iadd, 1) := by decide +kernel
theorem dX6_readClause_80 : decode cX6_readClause 80 = .ok (.putfield 15, 3) := by decide +kernel
theorem dX6_readClause_83 : decode cX6_readClause 83 = .ok (.iconst 1, 1) := by decide +kernel
theorem dX6_readClause_84 : decode cX6_readClause 84 = .ok (.ireturn, 1) := by decide +kernel
theorem dX6_readConditions_0 : decode cX6_readConditions 0 = .ok (.iconst 1, 1) := by decide +kernel
theorem dX6_readConditions_1 : decode cX6_readConditions 1 = .ok (.istore_n 3, 1) := by decide +kernel
theorem dX6_readConditions_2 : decode cX6_readConditions 2 = .ok (.iconst 0, 1) := by decide +kernel
theorem dX6_readConditions_3 : decode cX6_readConditions 3 = .ok (.istore 4, 2) := by decide +kernel
theorem dX6_readConditions_5 : decode cX6_readConditions 5 = .ok (.iload 4, 2) := by decide +kernel
theorem dX6_readConditions_7 : decode cX6_readConditions 7 = .ok (.iconst 3, 1) := by decide +kernel
theorem dX6_readConditions_8 : decode cX6_readConditions 8 = .ok (.if_icmp .ge 174, 3) := by decide +kernel
theorem dX6_readConditions_11 : decode cX6_readConditions 11 = .ok (.iload_n 3, 1) := by decide +kernel
theorem dX6_readConditions_12 : decode cX6_readConditions 12 = .ok (.ifCond .eq 170, 3) := by decide +kernel
theorem dX6_readConditions_15 : decode cX6_readConditions 15 = .ok (.iload_n 2, 1) := by decide +kernel
theorem dX6_readConditions_16 : decode cX6_readConditions 16 = .ok (.iconst 3, 1) := by decide +kernel
theorem dX6_readConditions_17 : decode cX6_readConditions 17 = .ok (.imul, 1) := by decide +kernel
theorem dX6_readConditions_18 : decode cX6_readConditions 18 = .ok (.iload 4, 2) := by decide +kernel
theorem dX6_readConditions_20 : decode cX6_readConditions 20 = .ok (.iadd, 1) := by decide +kernel
theorem dX6_readConditions_21 : decode cX6_readConditions 21 = .ok (.istore 5, 2) := by decide +kernel
theorem dX6_readConditions_23 : decode cX6_readConditions 23 = .ok (.aload_n 1, 1) := by decide +kernel
theorem dX6_readConditions_24 : decode cX6_readConditions 24 = .ok (.getfield 58, 3) := by decide +kernel
theorem dX6_readConditions_27 : decode cX6_readConditions 27 = .ok (.iload 5, 2) := by decide +kernel
theorem dX6_readConditions_29 : decode cX6_readConditions 29 = .ok (.aload_n 0, 1) := by decide +kernel
theorem dX6_readConditions_30 : decode cX6_readConditions 30 = .ok (.invokevirtual 35, 3) := by decide +kernel
theorem dX6_readConditions_33 : decode cX6_readConditions 33 = .ok (.iastore, 1) := by decide +kernel
theorem dX6_readConditions_34 : decode cX6_readConditions 34 = .ok (.aload_n 0, 1) := by decide +kernel
theorem dX6_readConditions_35 : decode cX6_readConditions 35 = .ok (.bipush 97, 2) := by decide +kernel
theorem dX6_readConditions_37 : decode cX6_readConditions 37 = .ok (.invokevirtual 31, 3) := by decide +kernel
theorem dX6_readConditions_40 : decode cX6_readConditions 40 = .ok (.ifCond .ne 30, 3) := by decide +kernel
theorem dX6_readConditions_43 : decode cX6_readConditions 43 = .ok (.aload_n 0, 1) := by decide +kernel
theorem dX6_readConditions_44 : decode cX6_readConditions 44 = .ok (.bipush 104, 2) := by decide +kernel
theorem dX6_readConditions_46 : decode cX6_readConditions 46 = .ok (.invokevirtual 31, 3) := by decide +kernel
theorem dX6_readConditions_49 : decode cX6_readConditions 49 = .ok (.ifCond .ne 21, 3) := by decide +kernel
theorem dX6_readConditions_52 : decode cX6_readConditions 52 = .ok (.aload_n 0, 1) := by decide +kernel
theorem dX6_readConditions_53 : decode cX6_readConditions 53 = .ok (.bipush 119, 2) := by decide +kernel
theorem dX6_readConditions_55 : decode cX6_readConditions 55 = .ok (.invokevirtual 31, 3) := by decide +kernel
theorem dX6_readConditions_58 : decode cX6_readConditions 58 = .ok (.ifCond .ne 12, 3) := by decide +kernel
theorem dX6_readConditions_61 : decode cX6_readConditions 61 = .ok (.aload_n 0, 1) := by decide +kernel
theorem dX6_readConditions_62 : decode cX6_readConditions 62 = .ok (.aload_n 0, 1) := by decide +kernel
theorem dX6_readConditions_63 : decode cX6_readConditions 63 = .ok (.getfield 15, 3) := by decide +kernel
theorem dX6_readConditions_66 : decode cX6_readConditions 66 = .ok (.invokevirtual 39, 3) := by decide +kernel
theorem dX6_readConditions_69 : decode cX6_readConditions 69 = .ok (.ireturn, 1) := by decide +kernel
theorem dX6_readConditions_70 : decode cX6_readConditions 70 = .ok (.aload_n 1, 1) := by decide +kernel
theorem dX6_readConditions_71 : decode cX6_readConditions 71 = .ok (.getfield 61, 3) := by decide +kernel
theorem dX6_readConditions_74 : decode cX6_readConditions 74 = .ok (.iload 5, 2) := by decide +kernel
theorem dX6_readConditions_76 : decode cX6_readConditions 76 = .ok (.aload_n 0, 1) := by decide +kernel
theorem dX6_readConditions_77 : decode cX6_readConditions 77 = .ok (.invokevirtual 35, 3) := by decide +kernel
theorem dX6_readConditions_80 : decode cX6_readConditions 80 = .ok (.iastore, 1) := by decide +kernel
theorem dX6_readConditions_81 : decode cX6_readConditions 81 = .ok (.aload_n 0, 1) := by decide +kernel
theorem dX6_readConditions_82 : decode cX6_readConditions 82 = .ok (.bipush 60, 2) := by decide +kernel
theorem dX6_readConditions_84 : decode cX6_readConditions 84 = .ok (.invokevirtual 31, 3) := by decide +kernel
theorem dX6_readConditions_87 : decode cX6_readConditions 87 = .ok (.ifCond .ne 30, 3) := by decide +kernel
theorem dX6_readConditions_90 : decode cX6_readConditions 90 = .ok (.aload_n 0, 1) := by decide +kernel
theorem dX6_readConditions_91 : decode cX6_readConditions 91 = .ok (.bipush 62, 2) := by decide +kernel
theorem dX6_readConditions_93 : decode cX6_readConditions 93 = .ok (.invokevirtual 31, 3) := by decide +kernel
theorem dX6_readConditions_96 : decode cX6_readConditions 96 = .ok (.ifCond .ne 21, 3) := by decide +kernel
theorem dX6_readConditions_99 : decode cX6_readConditions 99 = .ok (.aload_n 0, 1) := by decide +kernel
theorem dX6_readConditions_100 : decode cX6_readConditions 100 = .ok (.bipush 61, 2) := by decide +kernel
theorem dX6_readConditions_102 : decode cX6_readConditions 102 = .ok (.invokevirtual 31, 3) := by decide +kernel
theorem dX6_readConditions_105 : decode cX6_readConditions 105 = .ok (.ifCond .ne 12, 3) := by decide +kernel
theorem dX6_readConditions_108 : decode cX6_readConditions 108 = .ok (.aload_n 0, 1) := by decide +kernel
theorem dX6_readConditions_109 : decode cX6_readConditions 109 = .ok (.aload_n 0, 1) := by decide +kernel
theorem dX6_readConditions_110 : decode cX6_readConditions 110 = .ok (.getfield 15, 3) := by decide +kernel
theorem dX6_readConditions_113 : decode cX6_readConditions 113 = .ok (.invokevirtual 39, 3) := by decide +kernel
theorem dX6_readConditions_116 : decode cX6_readConditions 116 = .ok (.ireturn, 1) := by decide +kernel
theorem dX6_readConditions_117 : decode cX6_readConditions 117 = .ok (.aload_n 1, 1) := by decide +kernel
theorem dX6_readConditions_118 : decode cX6_readConditions 118 = .ok (.getfield 64, 3) := by decide +kernel
theorem dX6_readConditions_121 : decode cX6_readConditions 121 = .ok (.iload 5, 2) := by decide +kernel
theorem dX6_readConditions_123 : decode cX6_readConditions 123 = .ok (.aload_n 0, 1) := by decide +kernel
theorem dX6_readConditions_124 : decode cX6_readConditions 124 = .ok (.iconst 0, 1) := by decide +kernel
theorem dX6_readConditions_125 : decode cX6_readConditions 125 = .ok (.bipush 99, 2) := by decide +kernel
theorem dX6_readConditions_127 : decode cX6_readConditions 127 = .ok (.invokevirtual 67, 3) := by decide +kernel
theorem dX6_readConditions_130 : decode cX6_readConditions 130 = .ok (.iastore, 1) := by decide +kernel
theorem dX6_readConditions_131 : decode cX6_readConditions 131 = .ok (.aload_n 1, 1) := by decide +kernel
theorem dX6_readConditions_132 : decode cX6_readConditions 132 = .ok (.getfield 64, 3) := by decide +kernel
theorem dX6_readConditions_135 : decode cX6_readConditions 135 = .ok (.iload 5, 2) := by decide +kernel
theorem dX6_readConditions_137 : decode cX6_readConditions 137 = .ok (.iaload, 1) := by decide +kernel
theorem dX6_readConditions_138 : decode cX6_readConditions 138 = .ok (.ifCond .ge 5, 3) := by decide +kernel
theorem dX6_readConditions_141 : decode cX6_readConditions 141 = .ok (.iconst 0, 1) := by decide +kernel
theorem dX6_readConditions_142 : decode cX6_readConditions 142 = .ok (.ireturn, 1) := by decide +kernel
theorem dX6_readConditions_143 : decode cX6_readConditions 143 = .ok (.aload_n 1, 1) := by decide +kernel
theorem dX6_readConditions_144 : decode cX6_readConditions 144 = .ok (.getfield 42, 3) := by decide +kernel
theorem dX6_readConditions_147 : decode cX6_readConditions 147 = .ok (.iload_n 2, 1) := by decide +kernel
theorem dX6_readConditions_148 : decode cX6_readConditions 148 = .ok (.iload 4, 2) := by decide +kernel
theorem dX6_readConditions_150 : decode cX6_readConditions 150 = .ok (.iconst 1, 1) := by decide +kernel
theorem dX6_readConditions_151 : decode cX6_readConditions 151 = .ok (.iadd, 1) := by decide +kernel
theorem dX6_readConditions_152 : decode cX6_readConditions 152 = .ok (.iastore, 1) := by decide +kernel
theorem dX6_readConditions_153 : decode cX6_readConditions 153 = .ok (.iload 4, 2) := by decide +kernel
theorem dX6_readConditions_155 : decode cX6_readConditions 155 = .ok (.iconst 1, 1) := by decide +kernel
theorem dX6_readConditions_156 : decode cX6_readConditions 156 = .ok (.iadd, 1) := by decide +kernel
theorem dX6_readConditions_157 : decode cX6_readConditions 157 = .ok (.iconst 3, 1) := by decide +kernel
theorem dX6_readConditions_158 : decode cX6_readConditions 158 = .ok (.if_icmp .ge 16, 3) := by decide +kernel
theorem dX6_readConditions_161 : decode cX6_readConditions 161 = .ok (.aload_n 0, 1) := by decide +kernel
theorem dX6_readConditions_162 : decode cX6_readConditions 162 = .ok (.bipush 38, 2) := by decide +kernel
theorem dX6_readConditions_164 : decode cX6_readConditions 164 = .ok (.invokevirtual 31, 3) := by decide +kernel
theorem dX6_readConditions_167 : decode cX6_readConditions 167 = .ok (.ifCond .eq 7, 3) := by decide +kernel
theorem dX6_readConditions_170 : decode cX6_readConditions 170 = .ok (.iconst 1, 1) := by decide +kernel
theorem dX6_readConditions_171 : decode cX6_readConditions 171 = .ok (.goto 4, 3) := by decide +kernel
theorem dX6_readConditions_174 : decode cX6_readConditions 174 = .ok (.iconst 0, 1) := by decide +kernel
theorem dX6_readConditions_175 : decode cX6_readConditions 175 = .ok (.istore_n 3, 1) := by decide +kernel
theorem dX6_readConditions_176 : decode cX6_readConditions 176 = .ok (.iinc 4 1, 3) := by decide +kernel
theorem dX6_readConditions_179 : decode cX6_readConditions 179 = .ok (.goto (-174), 3) := by decide +kernel
theorem dX6_readConditions_182 : decode cX6_readConditions 182 = .ok (.iconst 1, 1) := by decide +kernel
theorem dX6_readConditions_183 : decode cX6_readConditions 183 = .ok (.ireturn, 1) := by decide +kernel
theorem dX6_readClaim_0 : decode cX6_readClaim 0 = .ok (.aload_n 0, 1) := by decide +kernel
theorem dX6_readClaim_1 : decode cX6_readClaim 1 = .ok (.iconst 0, 1) := by decide +kernel
theorem dX6_readClaim_2 : decode cX6_readClaim 2 = .ok (.putfield 15, 3) := by decide +kernel
theorem dX6_readClaim_5 : decode cX6_readClaim 5 = .ok (.aload_n 1, 1) := by decide +kernel
theorem dX6_readClaim_6 : decode cX6_readClaim 6 = .ok (.iconst 0, 1) := by decide +kernel
theorem dX6_readClaim_7 : decode cX6_readClaim 7 = .ok (.putfield 71, 3) := by decide +kernel
theorem dX6_readClaim_10 : decode cX6_readClaim 10 = .ok (.iconst 1, 1) := by decide +kernel
theorem dX6_readClaim_11 : decode cX6_readClaim 11 = .ok (.istore_n 2, 1) := by decide +kernel
theorem dX6_readClaim_12 : decode cX6_readClaim 12 = .ok (.iconst 0, 1) := by decide +kernel
theorem dX6_readClaim_13 : decode cX6_readClaim 13 = .ok (.istore_n 3, 1) := by decide +kernel
theorem dX6_readClaim_14 : decode cX6_readClaim 14 = .ok (.iload_n 3, 1) := by decide +kernel
theorem dX6_readClaim_15 : decode cX6_readClaim 15 = .ok (.iconst 2, 1) := by decide +kernel
theorem dX6_readClaim_16 : decode cX6_readClaim 16 = .ok (.if_icmp .ge 91, 3) := by decide +kernel
theorem dX6_readClaim_19 : decode cX6_readClaim 19 = .ok (.iload_n 2, 1) := by decide +kernel
theorem dX6_readClaim_20 : decode cX6_readClaim 20 = .ok (.ifCond .eq 87, 3) := by decide +kernel
theorem dX6_readClaim_23 : decode cX6_readClaim 23 = .ok (.aload_n 0, 1) := by decide +kernel
theorem dX6_readClaim_24 : decode cX6_readClaim 24 = .ok (.aload_n 1, 1) := by decide +kernel
theorem dX6_readClaim_25 : decode cX6_readClaim 25 = .ok (.iload_n 3, 1) := by decide +kernel
theorem dX6_readClaim_26 : decode cX6_readClaim 26 = .ok (.invokevirtual 77, 3) := by decide +kernel
theorem dX6_readClaim_29 : decode cX6_readClaim 29 = .ok (.ifCond .ne 8, 3) := by decide +kernel
theorem dX6_readClaim_32 : decode cX6_readClaim 32 = .ok (.aload_n 0, 1) := by decide +kernel
theorem dX6_readClaim_33 : decode cX6_readClaim 33 = .ok (.getfield 23, 3) := by decide +kernel
theorem dX6_readClaim_36 : decode cX6_readClaim 36 = .ok (.ireturn, 1) := by decide +kernel
theorem dX6_readClaim_37 : decode cX6_readClaim 37 = .ok (.aload_n 1, 1) := by decide +kernel
theorem dX6_readClaim_38 : decode cX6_readClaim 38 = .ok (.iload_n 3, 1) := by decide +kernel
theorem dX6_readClaim_39 : decode cX6_readClaim 39 = .ok (.iconst 1, 1) := by decide +kernel
theorem dX6_readClaim_40 : decode cX6_readClaim 40 = .ok (.iadd, 1) := by decide +kernel
theorem dX6_readClaim_41 : decode cX6_readClaim 41 = .ok (.putfield 81, 3) := by decide +kernel
theorem dX6_readClaim_44 : decode cX6_readClaim 44 = .ok (.aload_n 1, 1) := by decide +kernel
theorem dX6_readClaim_45 : decode cX6_readClaim 45 = .ok (.aload_n 1, 1) := by decide +kernel
theorem dX6_readClaim_46 : decode cX6_readClaim 46 = .ok (.getfield 71, 3) := by decide +kernel
theorem dX6_readClaim_49 : decode cX6_readClaim 49 = .ok (.ifCond .ne 12, 3) := by decide +kernel
theorem dX6_readClaim_52 : decode cX6_readClaim 52 = .ok (.aload_n 0, 1) := by decide +kernel
theorem dX6_readClaim_53 : decode cX6_readClaim 53 = .ok (.invokevirtual 35, 3) := by decide +kernel
theorem dX6_readClaim_56 : decode cX6_readClaim 56 = .ok (.bipush 124, 2) := by decide +kernel
theorem dX6_readClaim_58 : decode cX6_readClaim 58 = .ok (.if_icmp .ne 7, 3) := by decide +kernel
theorem dX6_readClaim_61 : decode cX6_readClaim 61 = .ok (.iconst 1, 1) := by decide +kernel
theorem dX6_readClaim_62 : decode cX6_readClaim 62 = .ok (.goto 4, 3) := by decide +kernel
theorem dX6_readClaim_65 : decode cX6_readClaim 65 = .ok (.iconst 0, 1) := by decide +kernel
theorem dX6_readClaim_66 : decode cX6_readClaim 66 = .ok (.putfield 71, 3) := by decide +kernel
theorem dX6_readClaim_69 : decode cX6_readClaim 69 = .ok (.aload_n 1, 1) := by decide +kernel
theorem dX6_readClaim_70 : decode cX6_readClaim 70 = .ok (.getfield 81, 3) := by decide +kernel
theorem dX6_readClaim_73 : decode cX6_readClaim 73 = .ok (.iconst 2, 1) := by decide +kernel
theorem dX6_readClaim_74 : decode cX6_readClaim 74 = .ok (.if_icmp .ge 25, 3) := by decide +kernel
theorem dX6_readClaim_77 : decode cX6_readClaim 77 = .ok (.aload_n 0, 1) := by decide +kernel
theorem dX6_readClaim_78 : decode cX6_readClaim 78 = .ok (.bipush 124, 2) := by decide +kernel
theorem dX6_readClaim_80 : decode cX6_readClaim 80 = .ok (.invokevirtual 31, 3) := by decide +kernel
theorem dX6_readClaim_83 : decode cX6_readClaim 83 = .ok (.ifCond .ne 12, 3) := by decide +kernel
theorem dX6_readClaim_86 : decode cX6_readClaim 86 = .ok (.aload_n 0, 1) := by decide +kernel
theorem dX6_readClaim_87 : decode cX6_readClaim 87 = .ok (.bipush 38, 2) := by decide +kernel
theorem dX6_readClaim_89 : decode cX6_readClaim 89 = .ok (.invokevirtual 31, 3) := by decide +kernel
theorem dX6_readClaim_92 : decode cX6_readClaim 92 = .ok (.ifCond .eq 7, 3) := by decide +kernel
theorem dX6_readClaim_95 : decode cX6_readClaim 95 = .ok (.iconst 1, 1) := by decide +kernel
theorem dX6_readClaim_96 : decode cX6_readClaim 96 = .ok (.goto 4, 3) := by decide +kernel
theorem dX6_readClaim_99 : decode cX6_readClaim 99 = .ok (.iconst 0, 1) := by decide +kernel
theorem dX6_readClaim_100 : decode cX6_readClaim 100 = .ok (.istore_n 2, 1) := by decide +kernel
theorem dX6_readClaim_101 : decode cX6_readClaim 101 = .ok (.iinc 3 1, 3) := by decide +kernel
theorem dX6_readClaim_104 : decode cX6_readClaim 104 = .ok (.goto (-90), 3) := by decide +kernel
theorem dX6_readClaim_107 : decode cX6_readClaim 107 = .ok (.aload_n 0, 1) := by decide +kernel
theorem dX6_readClaim_108 : decode cX6_readClaim 108 = .ok (.invokevirtual 35, 3) := by decide +kernel
theorem dX6_readClaim_111 : decode cX6_readClaim 111 = .ok (.iconst (-1), 1) := by decide +kernel
theorem dX6_readClaim_112 : decode cX6_readClaim 112 = .ok (.if_icmp .eq 14, 3) := by decide +kernel
theorem dX6_readClaim_115 : decode cX6_readClaim 115 = .ok (.aload_n 0, 1) := by decide +kernel
theorem dX6_readClaim_116 : decode cX6_readClaim 116 = .ok (.aload_n 0, 1) := by decide +kernel
theorem dX6_readClaim_117 : decode cX6_readClaim 117 = .ok (.getfield 15, 3) := by decide +kernel
theorem dX6_readClaim_120 : decode cX6_readClaim 120 = .ok (.invokevirtual 39, 3) := by decide +kernel
theorem dX6_readClaim_123 : decode cX6_readClaim 123 = .ok (.ifCond .eq 7, 3) := by decide +kernel
theorem dX6_readClaim_126 : decode cX6_readClaim 126 = .ok (.iconst 0, 1) := by decide +kernel
theorem dX6_readClaim_127 : decode cX6_readClaim 127 = .ok (.goto 7, 3) := by decide +kernel
theorem dX6_readClaim_130 : decode cX6_readClaim 130 = .ok (.aload_n 0, 1) := by decide +kernel
theorem dX6_readClaim_131 : decode cX6_readClaim 131 = .ok (.getfield 23, 3) := by decide +kernel
theorem dX6_readClaim_134 : decode cX6_readClaim 134 = .ok (.ireturn, 1) := by decide +kernel
theorem dX6_readAtom_0 : decode cX6_readAtom 0 = .ok (.aload_n 1, 1) := by decide +kernel
theorem dX6_readAtom_1 : decode cX6_readAtom 1 = .ok (.getfield 84, 3) := by decide +kernel
theorem dX6_readAtom_4 : decode cX6_readAtom 4 = .ok (.iload_n 2, 1) := by decide +kernel
theorem dX6_readAtom_5 : decode cX6_readAtom 5 = .ok (.aload_n 0, 1) := by decide +kernel
theorem dX6_readAtom_6 : decode cX6_readAtom 6 = .ok (.bipush 33, 2) := by decide +kernel
theorem dX6_readAtom_8 : decode cX6_readAtom 8 = .ok (.invokevirtual 31, 3) := by decide +kernel
theorem dX6_readAtom_11 : decode cX6_readAtom 11 = .ok (.bastore, 1) := by decide +kernel
theorem dX6_readAtom_12 : decode cX6_readAtom 12 = .ok (.aload_n 1, 1) := by decide +kernel
theorem dX6_readAtom_13 : decode cX6_readAtom 13 = .ok (.getfield 88, 3) := by decide +kernel
theorem dX6_readAtom_16 : decode cX6_readAtom 16 = .ok (.iload_n 2, 1) := by decide +kernel
theorem dX6_readAtom_17 : decode cX6_readAtom 17 = .ok (.bipush 42, 2) := by decide +kernel
theorem dX6_readAtom_19 : decode cX6_readAtom 19 = .ok (.iastore, 1) := by decide +kernel
theorem dX6_readAtom_20 : decode cX6_readAtom 20 = .ok (.aload_n 0, 1) := by decide +kernel
theorem dX6_readAtom_21 : decode cX6_readAtom 21 = .ok (.bipush 42, 2) := by decide +kernel
theorem dX6_readAtom_23 : decode cX6_readAtom 23 = .ok (.invokevirtual 31, 3) := by decide +kernel
theorem dX6_readAtom_26 : decode cX6_readAtom 26 = .ok (.ifCond .ne 14, 3) := by decide +kernel
theorem dX6_readAtom_29 : decode cX6_readAtom 29 = .ok (.aload_n 0, 1) := by decide +kernel
theorem dX6_readAtom_30 : decode cX6_readAtom 30 = .ok (.aload_n 1, 1) := by decide +kernel
theorem dX6_readAtom_31 : decode cX6_readAtom 31 = .ok (.iload_n 2, 1) := by decide +kernel
theorem dX6_readAtom_32 : decode cX6_readAtom 32 = .ok (.invokevirtual 91, 3) := by decide +kernel
theorem dX6_readAtom_35 : decode cX6_readAtom 35 = .ok (.ifCond .ne 5, 3) := by decide +kernel
theorem dX6_readAtom_38 : decode cX6_readAtom 38 = .ok (.iconst 0, 1) := by decide +kernel
theorem dX6_readAtom_39 : decode cX6_readAtom 39 = .ok (.ireturn, 1) := by decide +kernel
theorem dX6_readAtom_40 : decode cX6_readAtom 40 = .ok (.aload_n 0, 1) := by decide +kernel
theorem dX6_readAtom_41 : decode cX6_readAtom 41 = .ok (.bipush 64, 2) := by decide +kernel
theorem dX6_readAtom_43 : decode cX6_readAtom 43 = .ok (.invokevirtual 48, 3) := by decide +kernel
theorem dX6_readAtom_46 : decode cX6_readAtom 46 = .ok (.ifCond .ne 5, 3) := by decide +kernel
theorem dX6_readAtom_49 : decode cX6_readAtom 49 = .ok (.iconst 0, 1) := by decide +kernel
theorem dX6_readAtom_50 : decode cX6_readAtom 50 = .ok (.ireturn, 1) := by decide +kernel
theorem dX6_readAtom_51 : decode cX6_readAtom 51 = .ok (.aload_n 1, 1) := by decide +kernel
theorem dX6_readAtom_52 : decode cX6_readAtom 52 = .ok (.getfield 94, 3) := by decide +kernel
theorem dX6_readAtom_55 : decode cX6_readAtom 55 = .ok (.iload_n 2, 1) := by decide +kernel
theorem dX6_readAtom_56 : decode cX6_readAtom 56 = .ok (.aload_n 0, 1) := by decide +kernel
theorem dX6_readAtom_57 : decode cX6_readAtom 57 = .ok (.iconst 0, 1) := by decide +kernel
theorem dX6_readAtom_58 : decode cX6_readAtom 58 = .ok (.bipush 23, 2) := by decide +kernel
theorem dX6_readAtom_60 : decode cX6_readAtom 60 = .ok (.invokevirtual 67, 3) := by decide +kernel
theorem dX6_readAtom_63 : decode cX6_readAtom 63 = .ok (.iastore, 1) := by decide +kernel
theorem dX6_readAtom_64 : decode cX6_readAtom 64 = .ok (.aload_n 1, 1) := by decide +kernel
theorem dX6_readAtom_65 : decode cX6_readAtom 65 = .ok (.getfield 94, 3) := by decide +kernel
theorem dX6_readAtom_68 : decode cX6_readAtom 68 = .ok (.iload_n 2, 1) := by decide +kernel
theorem dX6_readAtom_69 : decode cX6_readAtom 69 = .ok (.iaload, 1) := by decide +kernel
theorem dX6_readAtom_70 : decode cX6_readAtom 70 = .ok (.ifCond .lt 12, 3) := by decide +kernel
theorem dX6_readAtom_73 : decode cX6_readAtom 73 = .ok (.aload_n 0, 1) := by decide +kernel
theorem dX6_readAtom_74 : decode cX6_readAtom 74 = .ok (.bipush 45, 2) := by decide +kernel
theorem dX6_readAtom_76 : decode cX6_readAtom 76 = .ok (.invokevirtual 48, 3) := by decide +kernel
theorem dX6_readAtom_79 : decode cX6_readAtom 79 = .ok (.ifCond .ne 5, 3) := by decide +kernel
theorem dX6_readAtom_82 : decode cX6_readAtom 82 = .ok (.iconst 0, 1) := by decide +kernel
theorem dX6_readAtom_83 : decode cX6_readAtom 83 = .ok (.ireturn, 1) := by decide +kernel
theorem dX6_readAtom_84 : decode cX6_readAtom 84 = .ok (.aload_n 1, 1) := by decide +kernel
theorem dX6_readAtom_85 : decode cX6_readAtom 85 = .ok (.getfield 97, 3) := by decide +kernel
theorem dX6_readAtom_88 : decode cX6_readAtom 88 = .ok (.iload_n 2, 1) := by decide +kernel
theorem dX6_readAtom_89 : decode cX6_readAtom 89 = .ok (.aload_n 0, 1) := by decide +kernel
theorem dX6_readAtom_90 : decode cX6_readAtom 90 = .ok (.aload_n 1, 1) := by decide +kernel
theorem dX6_readAtom_91 : decode cX6_readAtom 91 = .ok (.getfield 94, 3) := by decide +kernel
theorem dX6_readAtom_94 : decode cX6_readAtom 94 = .ok (.iload_n 2, 1) := by decide +kernel
theorem dX6_readAtom_95 : decode cX6_readAtom 95 = .ok (.iaload, 1) := by decide +kernel
theorem dX6_readAtom_96 : decode cX6_readAtom 96 = .ok (.bipush 23, 2) := by decide +kernel
theorem dX6_readAtom_98 : decode cX6_readAtom 98 = .ok (.invokevirtual 67, 3) := by decide +kernel
theorem dX6_readAtom_101 : decode cX6_readAtom 101 = .ok (.iastore, 1) := by decide +kernel
theorem dX6_readAtom_102 : decode cX6_readAtom 102 = .ok (.aload_n 1, 1) := by decide +kernel
theorem dX6_readAtom_103 : decode cX6_readAtom 103 = .ok (.getfield 97, 3) := by decide +kernel
theorem dX6_readAtom_106 : decode cX6_readAtom 106 = .ok (.iload_n 2, 1) := by decide +kernel
theorem dX6_readAtom_107 : decode cX6_readAtom 107 = .ok (.iaload, 1) := by decide +kernel
theorem dX6_readAtom_108 : decode cX6_readAtom 108 = .ok (.ifCond .lt 12, 3) := by decide +kernel
theorem dX6_readAtom_111 : decode cX6_readAtom 111 = .ok (.aload_n 0, 1) := by decide +kernel
theorem dX6_readAtom_112 : decode cX6_readAtom 112 = .ok (.bipush 35, 2) := by decide +kernel
theorem dX6_readAtom_114 : decode cX6_readAtom 114 = .ok (.invokevirtual 48, 3) := by decide +kernel
theorem dX6_readAtom_117 : decode cX6_readAtom 117 = .ok (.ifCond .ne 5, 3) := by decide +kernel
theorem dX6_readAtom_120 : decode cX6_readAtom 120 = .ok (.iconst 0, 1) := by decide +kernel
theorem dX6_readAtom_121 : decode cX6_readAtom 121 = .ok (.ireturn, 1) := by decide +kernel
theorem dX6_readAtom_122 : decode cX6_readAtom 122 = .ok (.aload_n 1, 1) := by decide +kernel
theorem dX6_readAtom_123 : decode cX6_readAtom 123 = .ok (.getfield 100, 3) := by decide +kernel
theorem dX6_readAtom_126 : decode cX6_readAtom 126 = .ok (.iload_n 2, 1) := by decide +kernel
theorem dX6_readAtom_127 : decode cX6_readAtom 127 = .ok (.aload_n 0, 1) := by decide +kernel
theorem dX6_readAtom_128 : decode cX6_readAtom 128 = .ok (.iconst 1, 1) := by decide +kernel
theorem dX6_readAtom_129 : decode cX6_readAtom 129 = .ok (.bipush 12, 2) := by decide +kernel
theorem dX6_readAtom_131 : decode cX6_readAtom 131 = .ok (.invokevirtual 67, 3) := by decide +kernel
theorem dX6_readAtom_134 : decode cX6_readAtom 134 = .ok (.iastore, 1) := by decide +kernel
theorem dX6_readAtom_135 : decode cX6_readAtom 135 = .ok (.aload_n 1, 1) := by decide +kernel
theorem dX6_readAtom_136 : decode cX6_readAtom 136 = .ok (.getfield 100, 3) := by decide +kernel
theorem dX6_readAtom_139 : decode cX6_readAtom 139 = .ok (.iload_n 2, 1) := by decide +kernel
theorem dX6_readAtom_140 : decode cX6_readAtom 140 = .ok (.iaload, 1) := by decide +kernel
theorem dX6_readAtom_141 : decode cX6_readAtom 141 = .ok (.ifCond .lt 7, 3) := by decide +kernel
theorem dX6_readAtom_144 : decode cX6_readAtom 144 = .ok (.iconst 1, 1) := by decide +kernel
theorem dX6_readAtom_145 : decode cX6_readAtom 145 = .ok (.goto 4, 3) := by decide +kernel
theorem dX6_readAtom_148 : decode cX6_readAtom 148 = .ok (.iconst 0, 1) := by decide +kernel
theorem dX6_readAtom_149 : decode cX6_readAtom 149 = .ok (.ireturn, 1) := by decide +kernel
theorem dX6_readWeight_0 : decode cX6_readWeight 0 = .ok (.aload_n 0, 1) := by decide +kernel
theorem dX6_readWeight_1 : decode cX6_readWeight 1 = .ok (.bipush 119, 2) := by decide +kernel
theorem dX6_readWeight_3 : decode cX6_readWeight 3 = .ok (.invokevirtual 48, 3) := by decide +kernel
theorem dX6_readWeight_6 : decode cX6_readWeight 6 = .ok (.ifCond .ne 5, 3) := by decide +kernel
theorem dX6_readWeight_9 : decode cX6_readWeight 9 = .ok (.iconst 0, 1) := by decide +kernel
theorem dX6_readWeight_10 : decode cX6_readWeight 10 = .ok (.ireturn, 1) := by decide +kernel
theorem dX6_readWeight_11 : decode cX6_readWeight 11 = .ok (.aload_n 1, 1) := by decide +kernel
theorem dX6_readWeight_12 : decode cX6_readWeight 12 = .ok (.getfield 88, 3) := by decide +kernel
theorem dX6_readWeight_15 : decode cX6_readWeight 15 = .ok (.iload_n 2, 1) := by decide +kernel
theorem dX6_readWeight_16 : decode cX6_readWeight 16 = .ok (.aload_n 0, 1) := by decide +kernel
theorem dX6_readWeight_17 : decode cX6_readWeight 17 = .ok (.invokevirtual 35, 3) := by decide +kernel
theorem dX6_readWeight_20 : decode cX6_readWeight 20 = .ok (.iastore, 1) := by decide +kernel
theorem dX6_readWeight_21 : decode cX6_readWeight 21 = .ok (.aload_n 0, 1) := by decide +kernel
theorem dX6_readWeight_22 : decode cX6_readWeight 22 = .ok (.bipush 60, 2) := by decide +kernel
theorem dX6_readWeight_24 : decode cX6_readWeight 24 = .ok (.invokevirtual 31, 3) := by decide +kernel
theorem dX6_readWeight_27 : decode cX6_readWeight 27 = .ok (.ifCond .ne 21, 3) := by decide +kernel
theorem dX6_readWeight_30 : decode cX6_readWeight 30 = .ok (.aload_n 0, 1) := by decide +kernel
theorem dX6_readWeight_31 : decode cX6_readWeight 31 = .ok (.bipush 62, 2) := by decide +kernel
theorem dX6_readWeight_33 : decode cX6_readWeight 33 = .ok (.invokevirtual 31, 3) := by decide +kernel
theorem dX6_readWeight_36 : decode cX6_readWeight 36 = .ok (.ifCond .ne 12, 3) := by decide +kernel
theorem dX6_readWeight_39 : decode cX6_readWeight 39 = .ok (.aload_n 0, 1) := by decide +kernel
theorem dX6_readWeight_40 : decode cX6_readWeight 40 = .ok (.aload_n 0, 1) := by decide +kernel
theorem dX6_readWeight_41 : decode cX6_readWeight 41 = .ok (.getfield 15, 3) := by decide +kernel
theorem dX6_readWeight_44 : decode cX6_readWeight 44 = .ok (.invokevirtual 39, 3) := by decide +kernel
theorem dX6_readWeight_47 : decode cX6_readWeight 47 = .ok (.ireturn, 1) := by decide +kernel
theorem dX6_readWeight_48 : decode cX6_readWeight 48 = .ok (.aload_n 0, 1) := by decide +kernel
theorem dX6_readWeight_49 : decode cX6_readWeight 49 = .ok (.invokevirtual 35, 3) := by decide +kernel
theorem dX6_readWeight_52 : decode cX6_readWeight 52 = .ok (.pop, 1) := by decide +kernel
theorem dX6_readWeight_53 : decode cX6_readWeight 53 = .ok (.aload_n 0, 1) := by decide +kernel
theorem dX6_readWeight_54 : decode cX6_readWeight 54 = .ok (.getfield 15, 3) := by decide +kernel
theorem dX6_readWeight_57 : decode cX6_readWeight 57 = .ok (.istore_n 3, 1) := by decide +kernel
theorem dX6_readWeight_58 : decode cX6_readWeight 58 = .ok (.aload_n 0, 1) := by decide +kernel
theorem dX6_readWeight_59 : decode cX6_readWeight 59 = .ok (.bipush 45, 2) := by decide +kernel
theorem dX6_readWeight_61 : decode cX6_readWeight 61 = .ok (.invokevirtual 31, 3) := by decide +kernel
theorem dX6_readWeight_64 : decode cX6_readWeight 64 = .ok (.istore 4, 2) := by decide +kernel
theorem dX6_readWeight_66 : decode cX6_readWeight 66 = .ok (.aload_n 0, 1) := by decide +kernel
theorem dX6_readWeight_67 : decode cX6_readWeight 67 = .ok (.iload_n 3, 1) := by decide +kernel
theorem dX6_readWeight_68 : decode cX6_readWeight 68 = .ok (.iconst 0, 1) := by decide +kernel
theorem dX6_readWeight_69 : decode cX6_readWeight 69 = .ok (.bipush 50, 2) := by decide +kernel
theorem dX6_readWeight_71 : decode cX6_readWeight 71 = .ok (.invokevirtual 103, 3) := by decide +kernel
theorem dX6_readWeight_74 : decode cX6_readWeight 74 = .ok (.istore 5, 2) := by decide +kernel
theorem dX6_readWeight_76 : decode cX6_readWeight 76 = .ok (.aload_n 1, 1) := by decide +kernel
theorem dX6_readWeight_77 : decode cX6_readWeight 77 = .ok (.getfield 107, 3) := by decide +kernel
theorem dX6_readWeight_80 : decode cX6_readWeight 80 = .ok (.iload_n 2, 1) := by decide +kernel
theorem dX6_readWeight_81 : decode cX6_readWeight 81 = .ok (.iload 4, 2) := by decide +kernel
theorem dX6_readWeight_83 : decode cX6_readWeight 83 = .ok (.ifCond .eq 9, 3) := by decide +kernel
theorem dX6_readWeight_86 : decode cX6_readWeight 86 = .ok (.iload 5, 2) := by decide +kernel
theorem dX6_readWeight_88 : decode cX6_readWeight 88 = .ok (.ineg, 1) := by decide +kernel
theorem dX6_readWeight_89 : decode cX6_readWeight 89 = .ok (.goto 5, 3) := by decide +kernel
theorem dX6_readWeight_92 : decode cX6_readWeight 92 = .ok (.iload 5, 2) := by decide +kernel
theorem dX6_readWeight_94 : decode cX6_readWeight 94 = .ok (.iastore, 1) := by decide +kernel
theorem dX6_readWeight_95 : decode cX6_readWeight 95 = .ok (.iload 5, 2) := by decide +kernel
theorem dX6_readWeight_97 : decode cX6_readWeight 97 = .ok (.ifCond .lt 7, 3) := by decide +kernel
theorem dX6_readWeight_100 : decode cX6_readWeight 100 = .ok (.iconst 1, 1) := by decide +kernel
theorem dX6_readWeight_101 : decode cX6_readWeight 101 = .ok (.goto 4, 3) := by decide +kernel
theorem dX6_readWeight_104 : decode cX6_readWeight 104 = .ok (.iconst 0, 1) := by decide +kernel
theorem dX6_readWeight_105 : decode cX6_readWeight 105 = .ok (.ireturn, 1) := by decide +kernel
theorem dX6_look_0 : decode cX6_look 0 = .ok (.aload_n 0, 1) := by decide +kernel
theorem dX6_look_1 : decode cX6_look 1 = .ok (.getfield 15, 3) := by decide +kernel
theorem dX6_look_4 : decode cX6_look 4 = .ok (.aload_n 0, 1) := by decide +kernel
theorem dX6_look_5 : decode cX6_look 5 = .ok (.getfield 110, 3) := by decide +kernel
theorem dX6_look_8 : decode cX6_look 8 = .ok (.if_icmp .ge 30, 3) := by decide +kernel
theorem dX6_look_11 : decode cX6_look 11 = .ok (.aload_n 0, 1) := by decide +kernel
theorem dX6_look_12 : decode cX6_look 12 = .ok (.getfield 9, 3) := by decide +kernel
theorem dX6_look_15 : decode cX6_look 15 = .ok (.aload_n 0, 1) := by decide +kernel
theorem dX6_look_16 : decode cX6_look 16 = .ok (.getfield 15, 3) := by decide +kernel
theorem dX6_look_19 : decode cX6_look 19 = .ok (.iaload, 1) := by decide +kernel
theorem dX6_look_20 : decode cX6_look 20 = .ok (.bipush 32, 2) := by decide +kernel
theorem dX6_look_22 : decode cX6_look 22 = .ok (.if_icmp .ne 16, 3) := by decide +kernel
theorem dX6_look_25 : decode cX6_look 25 = .ok (.aload_n 0, 1) := by decide +kernel
theorem dX6_look_26 : decode cX6_look 26 = .ok (.dup, 1) := by decide +kernel
theorem dX6_look_27 : decode cX6_look 27 = .ok (.getfield 15, 3) := by decide +kernel
theorem dX6_look_30 : decode cX6_look 30 = .ok (.iconst 1, 1) := by decide +kernel
theorem dX6_look_31 : decode cX6_look 31 = .ok (.iadd, 1) := by decide +kernel
theorem dX6_look_32 : decode cX6_look 32 = .ok (.putfield 15, 3) := by decide +kernel
theorem dX6_look_35 : decode cX6_look 35 = .ok (.goto (-35), 3) := by decide +kernel
theorem dX6_look_38 : decode cX6_look 38 = .ok (.aload_n 0, 1) := by decide +kernel
theorem dX6_look_39 : decode cX6_look 39 = .ok (.getfield 15, 3) := by decide +kernel
theorem dX6_look_42 : decode cX6_look 42 = .ok (.aload_n 0, 1) := by decide +kernel
theorem dX6_look_43 : decode cX6_look 43 = .ok (.getfield 110, 3) := by decide +kernel
theorem dX6_look_46 : decode cX6_look 46 = .ok (.if_icmp .ge 15, 3) := by decide +kernel
theorem dX6_look_49 : decode cX6_look 49 = .ok (.aload_n 0, 1) := by decide +kernel
theorem dX6_look_50 : decode cX6_look 50 = .ok (.getfield 9, 3) := by decide +kernel
theorem dX6_look_53 : decode cX6_look 53 = .ok (.aload_n 0, 1) := by decide +kernel
theorem dX6_look_54 : decode cX6_look 54 = .ok (.getfield 15, 3) := by decide +kernel
theorem dX6_look_57 : decode cX6_look 57 = .ok (.iaload, 1) := by decide +kernel
theorem dX6_look_58 : decode cX6_look 58 = .ok (.goto 4, 3) := by decide +kernel
theorem dX6_look_61 : decode cX6_look 61 = .ok (.iconst (-1), 1) := by decide +kernel
theorem dX6_look_62 : decode cX6_look 62 = .ok (.ireturn, 1) := by decide +kernel
theorem dX6_reads_0 : decode cX6_reads 0 = .ok (.aload_n 0, 1) := by decide +kernel
theorem dX6_reads_1 : decode cX6_reads 1 = .ok (.invokevirtual 35, 3) := by decide +kernel
theorem dX6_reads_4 : decode cX6_reads 4 = .ok (.iload_n 1, 1) := by decide +kernel
theorem dX6_reads_5 : decode cX6_reads 5 = .ok (.if_icmp .eq 5, 3) := by decide +kernel
theorem dX6_reads_8 : decode cX6_reads 8 = .ok (.iconst 0, 1) := by decide +kernel
theorem dX6_reads_9 : decode cX6_reads 9 = .ok (.ireturn, 1) := by decide +kernel
theorem dX6_reads_10 : decode cX6_reads 10 = .ok (.aload_n 0, 1) := by decide +kernel
theorem dX6_reads_11 : decode cX6_reads 11 = .ok (.dup, 1) := by decide +kernel
theorem dX6_reads_12 : decode cX6_reads 12 = .ok (.getfield 15, 3) := by decide +kernel
theorem dX6_reads_15 : decode cX6_reads 15 = .ok (.iconst 1, 1) := by decide +kernel
theorem dX6_reads_16 : decode cX6_reads 16 = .ok (.iadd, 1) := by decide +kernel
theorem dX6_reads_17 : decode cX6_reads 17 = .ok (.putfield 15, 3) := by decide +kernel
theorem dX6_reads_20 : decode cX6_reads 20 = .ok (.iconst 1, 1) := by decide +kernel
theorem dX6_reads_21 : decode cX6_reads 21 = .ok (.ireturn, 1) := by decide +kernel
theorem dX6_wants_0 : decode cX6_wants 0 = .ok (.aload_n 0, 1) := by decide +kernel
theorem dX6_wants_1 : decode cX6_wants 1 = .ok (.iload_n 1, 1) := by decide +kernel
theorem dX6_wants_2 : decode cX6_wants 2 = .ok (.invokevirtual 31, 3) := by decide +kernel
theorem dX6_wants_5 : decode cX6_wants 5 = .ok (.ifCond .ne 14, 3) := by decide +kernel
theorem dX6_wants_8 : decode cX6_wants 8 = .ok (.aload_n 0, 1) := by decide +kernel
theorem dX6_wants_9 : decode cX6_wants 9 = .ok (.aload_n 0, 1) := by decide +kernel
theorem dX6_wants_10 : decode cX6_wants 10 = .ok (.getfield 15, 3) := by decide +kernel
theorem dX6_wants_13 : decode cX6_wants 13 = .ok (.invokevirtual 39, 3) := by decide +kernel
theorem dX6_wants_16 : decode cX6_wants 16 = .ok (.ifCond .eq 7, 3) := by decide +kernel
theorem dX6_wants_19 : decode cX6_wants 19 = .ok (.iconst 1, 1) := by decide +kernel
theorem dX6_wants_20 : decode cX6_wants 20 = .ok (.goto 4, 3) := by decide +kernel
theorem dX6_wants_23 : decode cX6_wants 23 = .ok (.iconst 0, 1) := by decide +kernel
theorem dX6_wants_24 : decode cX6_wants 24 = .ok (.ireturn, 1) := by decide +kernel
theorem dX6_fails_0 : decode cX6_fails 0 = .ok (.aload_n 0, 1) := by decide +kernel
theorem dX6_fails_1 : decode cX6_fails 1 = .ok (.bipush (-20), 2) := by decide +kernel
theorem dX6_fails_3 : decode cX6_fails 3 = .ok (.iload_n 1, 1) := by decide +kernel
theorem dX6_fails_4 : decode cX6_fails 4 = .ok (.isub, 1) := by decide +kernel
theorem dX6_fails_5 : decode cX6_fails 5 = .ok (.putfield 23, 3) := by decide +kernel
theorem dX6_fails_8 : decode cX6_fails 8 = .ok (.iconst 0, 1) := by decide +kernel
theorem dX6_fails_9 : decode cX6_fails 9 = .ok (.ireturn, 1) := by decide +kernel
theorem dX7_init_0 : decode cX7_init 0 = .ok (.aload_n 0, 1) := by decide +kernel
theorem dX7_init_1 : decode cX7_init 1 = .ok (.invokespecial 3, 3) := by decide +kernel
theorem dX7_init_4 : decode cX7_init 4 = .ok (.aload_n 0, 1) := by decide +kernel
theorem dX7_init_5 : decode cX7_init 5 = .ok (.bipush 24, 2) := by decide +kernel
theorem dX7_init_7 : decode cX7_init 7 = .ok (.newarray .int, 2) := by decide +kernel
theorem dX7_init_9 : decode cX7_init 9 = .ok (.putfield 9, 3) := by decide +kernel
theorem dX7_init_12 : decode cX7_init 12 = .ok (.return_, 1) := by decide +kernel
theorem dX7_begin_0 : decode cX7_begin 0 = .ok (.aload_n 0, 1) := by decide +kernel
theorem dX7_begin_1 : decode cX7_begin 1 = .ok (.iconst 1, 1) := by decide +kernel
theorem dX7_begin_2 : decode cX7_begin 2 = .ok (.putfield 15, 3) := by decide +kernel
theorem dX7_begin_5 : decode cX7_begin 5 = .ok (.aload_n 0, 1) := by decide +kernel
theorem dX7_begin_6 : decode cX7_begin 6 = .ok (.iload_n 1, 1) := by decide +kernel
theorem dX7_begin_7 : decode cX7_begin 7 = .ok (.putfield 19, 3) := by decide +kernel
theorem dX7_begin_10 : decode cX7_begin 10 = .ok (.aload_n 0, 1) := by decide +kernel
theorem dX7_begin_11 : decode cX7_begin 11 = .ok (.iload_n 2, 1) := by decide +kernel
theorem dX7_begin_12 : decode cX7_begin 12 = .ok (.putfield 23, 3) := by decide +kernel
theorem dX7_begin_15 : decode cX7_begin 15 = .ok (.aload_n 0, 1) := by decide +kernel
theorem dX7_begin_16 : decode cX7_begin 16 = .ok (.getfield 9, 3) := by decide +kernel
theorem dX7_begin_19 : decode cX7_begin 19 = .ok (.iconst 0, 1) := by decide +kernel
theorem dX7_begin_20 : decode cX7_begin 20 = .ok (.invokestatic 26, 3) := by decide +kernel
theorem dX7_begin_23 : decode cX7_begin 23 = .ok (.return_, 1) := by decide +kernel
theorem dX7_refusal_0 : decode cX7_refusal 0 = .ok (.aload_n 0, 1) := by decide +kernel
theorem dX7_refusal_1 : decode cX7_refusal 1 = .ok (.getfield 15, 3) := by decide +kernel
theorem dX7_refusal_4 : decode cX7_refusal 4 = .ok (.ifCond .ne 6, 3) := by decide +kernel
theorem dX7_refusal_7 : decode cX7_refusal 7 = .ok (.bipush (-11), 2) := by decide +kernel
theorem dX7_refusal_9 : decode cX7_refusal 9 = .ok (.ireturn, 1) := by decide +kernel
theorem dX7_refusal_10 : decode cX7_refusal 10 = .ok (.aload_n 0, 1) := by decide +kernel
theorem dX7_refusal_11 : decode cX7_refusal 11 = .ok (.getfield 19, 3) := by decide +kernel
theorem dX7_refusal_14 : decode cX7_refusal 14 = .ok (.iload_n 1, 1) := by decide +kernel
theorem dX7_refusal_15 : decode cX7_refusal 15 = .ok (.if_icmp .eq 6, 3) := by decide +kernel
theorem dX7_refusal_18 : decode cX7_refusal 18 = .ok (.bipush (-12), 2) := by decide +kernel
theorem dX7_refusal_20 : decode cX7_refusal 20 = .ok (.ireturn, 1) := by decide +kernel
theorem dX7_refusal_21 : decode cX7_refusal 21 = .ok (.iload_n 2, 1) := by decide +kernel
theorem dX7_refusal_22 : decode cX7_refusal 22 = .ok (.ifCond .lt 13, 3) := by decide +kernel
theorem dX7_refusal_25 : decode cX7_refusal 25 = .ok (.iload_n 2, 1) := by decide +kernel
theorem dX7_refusal_26 : decode cX7_refusal 26 = .ok (.aload_n 0, 1) := by decide +kernel
theorem dX7_refusal_27 : decode cX7_refusal 27 = .ok (.getfield 23, 3) := by decide +kernel
theorem dX7_refusal_30 : decode cX7_refusal 30 = .ok (.iload_n 3, 1) := by decide +kernel
theorem dX7_refusal_31 : decode cX7_refusal 31 = .ok (.isub, 1) := by decide +kernel
theorem dX7_refusal_32 : decode cX7_refusal 32 = .ok (.if_icmp .le 8, 3) := by decide +kernel
theorem dX7_refusal_35 : decode cX7_refusal 35 = .ok (.bipush (-13), 2) := by decide +kernel
theorem dX7_refusal_37 : decode cX7_refusal 37 = .ok (.goto 4, 3) := by decide +kernel
theorem dX7_refusal_40 : decode cX7_refusal 40 = .ok (.iconst 0, 1) := by decide +kernel
theorem dX7_refusal_41 : decode cX7_refusal 41 = .ok (.ireturn, 1) := by decide +kernel
theorem dX8_init_0 : decode cX8_init 0 = .ok (.aload_n 0, 1) := by decide +kernel
theorem dX8_init_1 : decode cX8_init 1 = .ok (.invokespecial 3, 3) := by decide +kernel
theorem dX8_init_4 : decode cX8_init 4 = .ok (.aload_n 0, 1) := by decide +kernel
theorem dX8_init_5 : decode cX8_init 5 = .ok (.new 9, 3) := by decide +kernel
theorem dX8_init_8 : decode cX8_init 8 = .ok (.dup, 1) := by decide +kernel
theorem dX8_init_9 : decode cX8_init 9 = .ok (.invokespecial 11, 3) := by decide +kernel
theorem dX8_init_12 : decode cX8_init 12 = .ok (.putfield 12, 3) := by decide +kernel
theorem dX8_init_15 : decode cX8_init 15 = .ok (.aload_n 0, 1) := by decide +kernel
theorem dX8_init_16 : decode cX8_init 16 = .ok (.new 18, 3) := by decide +kernel
theorem dX8_init_19 : decode cX8_init 19 = .ok (.dup, 1) := by decide +kernel
theorem dX8_init_20 : decode cX8_init 20 = .ok (.invokespecial 20, 3) := by decide +kernel
theorem dX8_init_23 : decode cX8_init 23 = .ok (.putfield 21, 3) := by decide +kernel
theorem dX8_init_26 : decode cX8_init 26 = .ok (.aload_n 0, 1) := by decide +kernel
theorem dX8_init_27 : decode cX8_init 27 = .ok (.iconst 2, 1) := by decide +kernel
theorem dX8_init_28 : decode cX8_init 28 = .ok (.anewarray 25, 3) := by decide +kernel
theorem dX8_init_31 : decode cX8_init 31 = .ok (.dup, 1) := by decide +kernel
theorem dX8_init_32 : decode cX8_init 32 = .ok (.iconst 0, 1) := by decide +kernel
theorem dX8_init_33 : decode cX8_init 33 = .ok (.new 25, 3) := by decide +kernel
theorem dX8_init_36 : decode cX8_init 36 = .ok (.dup, 1) := by decide +kernel
theorem dX8_init_37 : decode cX8_init 37 = .ok (.invokespecial 27, 3) := by decide +kernel
theorem dX8_init_40 : decode cX8_init 40 = .ok (.aastore, 1) := by decide +kernel
theorem dX8_init_41 : decode cX8_init 41 = .ok (.dup, 1) := by decide +kernel
theorem dX8_init_42 : decode cX8_init 42 = .ok (.iconst 1, 1) := by decide +kernel
theorem dX8_init_43 : decode cX8_init 43 = .ok (.new 25, 3) := by decide +kernel
theorem dX8_init_46 : decode cX8_init 46 = .ok (.dup, 1) := by decide +kernel
theorem dX8_init_47 : decode cX8_init 47 = .ok (.invokespecial 27, 3) := by decide +kernel
theorem dX8_init_50 : decode cX8_init 50 = .ok (.aastore, 1) := by decide +kernel
theorem dX8_init_51 : decode cX8_init 51 = .ok (.putfield 28, 3) := by decide +kernel
theorem dX8_init_54 : decode cX8_init 54 = .ok (.aload_n 0, 1) := by decide +kernel
theorem dX8_init_55 : decode cX8_init 55 = .ok (.new 32, 3) := by decide +kernel
theorem dX8_init_58 : decode cX8_init 58 = .ok (.dup, 1) := by decide +kernel
theorem dX8_init_59 : decode cX8_init 59 = .ok (.invokespecial 34, 3) := by decide +kernel
theorem dX8_init_62 : decode cX8_init 62 = .ok (.putfield 35, 3) := by decide +kernel
theorem dX8_init_65 : decode cX8_init 65 = .ok (.aload_n 0, 1) := by decide +kernel
theorem dX8_init_66 : decode cX8_init 66 = .ok (.iconst 4, 1) := by decide +kernel
theorem dX8_init_67 : decode cX8_init 67 = .ok (.anewarray 39, 3) := by decide +kernel
theorem dX8_init_70 : decode cX8_init 70 = .ok (.dup, 1) := by decide +kernel
theorem dX8_init_71 : decode cX8_init 71 = .ok (.iconst 0, 1) := by decide +kernel
theorem dX8_init_72 : decode cX8_init 72 = .ok (.new 39, 3) := by decide +kernel
theorem dX8_init_75 : decode cX8_init 75 = .ok (.dup, 1) := by decide +kernel
theorem dX8_init_76 : decode cX8_init 76 = .ok (.invokespecial 41, 3) := by decide +kernel
theorem dX8_init_79 : decode cX8_init 79 = .ok (.aastore, 1) := by decide +kernel
theorem dX8_init_80 : decode cX8_init 80 = .ok (.dup, 1) := by decide +kernel
theorem dX8_init_81 : decode cX8_init 81 = .ok (.iconst 1, 1) := by decide +kernel
theorem dX8_init_82 : decode cX8_init 82 = .ok (.new 39, 3) := by decide +kernel
theorem dX8_init_85 : decode cX8_init 85 = .ok (.dup, 1) := by decide +kernel
theorem dX8_init_86 : decode cX8_init 86 = .ok (.invokespecial 41, 3) := by decide +kernel
theorem dX8_init_89 : decode cX8_init 89 = .ok (.aastore, 1) := by decide +kernel
theorem dX8_init_90 : decode cX8_init 90 = .ok (.dup, 1) := by decide +kernel
theorem dX8_init_91 : decode cX8_init 91 = .ok (.iconst 2, 1) := by decide +kernel
theorem dX8_init_92 : decode cX8_init 92 = .ok (.new 39, 3) := by decide +kernel
theorem dX8_init_95 : decode cX8_init 95 = .ok (.dup, 1) := by decide +kernel
theorem dX8_init_96 : decode cX8_init 96 = .ok (.invokespecial 41, 3) := by decide +kernel
theorem dX8_init_99 : decode cX8_init 99 = .ok (.aastore, 1) := by decide +kernel
theorem dX8_init_100 : decode cX8_init 100 = .ok (.dup, 1) := by decide +kernel
theorem dX8_init_101 : decode cX8_init 101 = .ok (.iconst 3, 1) := by decide +kernel
theorem dX8_init_102 : decode cX8_init 102 = .ok (.new 39, 3) := by decide +kernel
theorem dX8_init_105 : decode cX8_init 105 = .ok (.dup, 1) := by decide +kernel
theorem dX8_init_106 : decode cX8_init 106 = .ok (.invokespecial 41, 3) := by decide +kernel
theorem dX8_init_109 : decode cX8_init 109 = .ok (.aastore, 1) := by decide +kernel
theorem dX8_init_110 : decode cX8_init 110 = .ok (.putfield 42, 3) := by decide +kernel
theorem dX8_init_113 : decode cX8_init 113 = .ok (.aload_n 0, 1) := by decide +kernel
theorem dX8_init_114 : decode cX8_init 114 = .ok (.iconst 5, 1) := by decide +kernel
theorem dX8_init_115 : decode cX8_init 115 = .ok (.newarray .int, 2) := by decide +kernel
theorem dX8_init_117 : decode cX8_init 117 = .ok (.putfield 46, 3) := by decide +kernel
theorem dX8_init_120 : decode cX8_init 120 = .ok (.aload_n 0, 1) := by decide +kernel
theorem dX8_init_121 : decode cX8_init 121 = .ok (.iconst 5, 1) := by decide +kernel
theorem dX8_init_122 : decode cX8_init 122 = .ok (.newarray .int, 2) := by decide +kernel
theorem dX8_init_124 : decode cX8_init 124 = .ok (.putfield 50, 3) := by decide +kernel
theorem dX8_init_127 : decode cX8_init 127 = .ok (.return_, 1) := by decide +kernel
theorem dX8_take_0 : decode cX8_take 0 = .ok (.aload_n 0, 1) := by decide +kernel
theorem dX8_take_1 : decode cX8_take 1 = .ok (.getfield 12, 3) := by decide +kernel
theorem dX8_take_4 : decode cX8_take 4 = .ok (.aload_n 1, 1) := by decide +kernel
theorem dX8_take_5 : decode cX8_take 5 = .ok (.getfield 12, 3) := by decide +kernel
theorem dX8_take_8 : decode cX8_take 8 = .ok (.invokevirtual 53, 3) := by decide +kernel
theorem dX8_take_11 : decode cX8_take 11 = .ok (.aload_n 0, 1) := by decide +kernel
theorem dX8_take_12 : decode cX8_take 12 = .ok (.getfield 21, 3) := by decide +kernel
theorem dX8_take_15 : decode cX8_take 15 = .ok (.aload_n 1, 1) := by decide +kernel
theorem dX8_take_16 : decode cX8_take 16 = .ok (.getfield 21, 3) := by decide +kernel
theorem dX8_take_19 : decode cX8_take 19 = .ok (.invokevirtual 57, 3) := by decide +kernel
theorem dX8_take_22 : decode cX8_take 22 = .ok (.aload_n 0, 1) := by decide +kernel
theorem dX8_take_23 : decode cX8_take 23 = .ok (.getfield 35, 3) := by decide +kernel
theorem dX8_take_26 : decode cX8_take 26 = .ok (.aload_n 1, 1) := by decide +kernel
theorem dX8_take_27 : decode cX8_take 27 = .ok (.getfield 35, 3) := by decide +kernel
theorem dX8_take_30 : decode cX8_take 30 = .ok (.invokevirtual 60, 3) := by decide +kernel
theorem dX8_take_33 : decode cX8_take 33 = .ok (.iconst 0, 1) := by decide +kernel
theorem dX8_take_34 : decode cX8_take 34 = .ok (.istore_n 2, 1) := by decide +kernel
theorem dX8_take_35 : decode cX8_take 35 = .ok (.iload_n 2, 1) := by decide +kernel
theorem dX8_take_36 : decode cX8_take 36 = .ok (.iconst 2, 1) := by decide +kernel
theorem dX8_take_37 : decode cX8_take 37 = .ok (.if_icmp .ge 24, 3) := by decide +kernel
theorem dX8_take_40 : decode cX8_take 40 = .ok (.aload_n 0, 1) := by decide +kernel
theorem dX8_take_41 : decode cX8_take 41 = .ok (.getfield 28, 3) := by decide +kernel
theorem dX8_take_44 : decode cX8_take 44 = .ok (.iload_n 2, 1) := by decide +kernel
theorem dX8_take_45 : decode cX8_take 45 = .ok (.aaload, 1) := by decide +kernel
theorem dX8_take_46 : decode cX8_take 46 = .ok (.aload_n 1, 1) := by decide +kernel
theorem dX8_take_47 : decode cX8_take 47 = .ok (.getfield 28, 3) := by decide +kernel
theorem dX8_take_50 : decode cX8_take 50 = .ok (.iload_n 2, 1) := by decide +kernel
theorem dX8_take_51 : decode cX8_take 51 = .ok (.aaload, 1) := by decide +kernel
theorem dX8_take_52 : decode cX8_take 52 = .ok (.invokevirtual 63, 3) := by decide +kernel
theorem dX8_take_55 : decode cX8_take 55 = .ok (.iinc 2 1, 3) := by decide +kernel
theorem dX8_take_58 : decode cX8_take 58 = .ok (.goto (-23), 3) := by decide +kernel
theorem dX8_take_61 : decode cX8_take 61 = .ok (.iconst 0, 1) := by decide +kernel
theorem dX8_take_62 : decode cX8_take 62 = .ok (.istore_n 2, 1) := by decide +kernel
theorem dX8_take_63 : decode cX8_take 63 = .ok (.iload_n 2, 1) := by decide +kernel
theorem dX8_take_64 : decode cX8_take 64 = .ok (.iconst 4, 1) := by decide +kernel
theorem dX8_take_65 : decode cX8_take 65 = .ok (.if_icmp .ge 24, 3) := by decide +kernel
theorem dX8_take_68 : decode cX8_take 68 = .ok (.aload_n 0, 1) := by decide +kernel
theorem dX8_take_69 : decode cX8_take 69 = .ok (.getfield 42, 3) := by decide +kernel
theorem dX8_take_72 : decode cX8_take 72 = .ok (.iload_n 2, 1) := by decide +kernel
theorem dX8_take_73 : decode cX8_take 73 = .ok (.aaload, 1) := by decide +kernel
theorem dX8_take_74 : decode cX8_take 74 = .ok (.aload_n 1, 1) := by decide +kernel
theorem dX8_take_75 : decode cX8_take 75 = .ok (.getfield 42, 3) := by decide +kernel
theorem dX8_take_78 : decode cX8_take 78 = .ok (.iload_n 2, 1) := by decide +kernel
theorem dX8_take_79 : decode cX8_take 79 = .ok (.aaload, 1) := by decide +kernel
theorem dX8_take_80 : decode cX8_take 80 = .ok (.invokevirtual 66, 3) := by decide +kernel
theorem dX8_take_83 : decode cX8_take 83 = .ok (.iinc 2 1, 3) := by decide +kernel
theorem dX8_take_86 : decode cX8_take 86 = .ok (.goto (-23), 3) := by decide +kernel
theorem dX8_take_89 : decode cX8_take 89 = .ok (.aload_n 1, 1) := by decide +kernel
theorem dX8_take_90 : decode cX8_take 90 = .ok (.getfield 46, 3) := by decide +kernel
theorem dX8_take_93 : decode cX8_take 93 = .ok (.aload_n 0, 1) := by decide +kernel
theorem dX8_take_94 : decode cX8_take 94 = .ok (.getfield 46, 3) := by decide +kernel
theorem dX8_take_97 : decode cX8_take 97 = .ok (.invokestatic 69, 3) := by decide +kernel
theorem dX8_take_100 : decode cX8_take 100 = .ok (.aload_n 1, 1) := by decide +kernel
theorem dX8_take_101 : decode cX8_take 101 = .ok (.getfield 50, 3) := by decide +kernel
theorem dX8_take_104 : decode cX8_take 104 = .ok (.aload_n 0, 1) := by decide +kernel
theorem dX8_take_105 : decode cX8_take 105 = .ok (.getfield 50, 3) := by decide +kernel
theorem dX8_take_108 : decode cX8_take 108 = .ok (.invokestatic 69, 3) := by decide +kernel
theorem dX8_take_111 : decode cX8_take 111 = .ok (.aload_n 0, 1) := by decide +kernel
theorem dX8_take_112 : decode cX8_take 112 = .ok (.aload_n 1, 1) := by decide +kernel
theorem dX8_take_113 : decode cX8_take 113 = .ok (.getfield 73, 3) := by decide +kernel
theorem dX8_take_116 : decode cX8_take 116 = .ok (.putfield 73, 3) := by decide +kernel
theorem dX8_take_119 : decode cX8_take 119 = .ok (.aload_n 0, 1) := by decide +kernel
theorem dX8_take_120 : decode cX8_take 120 = .ok (.aload_n 1, 1) := by decide +kernel
theorem dX8_take_121 : decode cX8_take 121 = .ok (.getfield 77, 3) := by decide +kernel
theorem dX8_take_124 : decode cX8_take 124 = .ok (.putfield 77, 3) := by decide +kernel
theorem dX8_take_127 : decode cX8_take 127 = .ok (.return_, 1) := by decide +kernel
theorem dX9_init_0 : decode cX9_init 0 = .ok (.aload_n 0, 1) := by decide +kernel
theorem dX9_init_1 : decode cX9_init 1 = .ok (.invokespecial 3, 3) := by decide +kernel
theorem dX9_init_4 : decode cX9_init 4 = .ok (.aload_n 0, 1) := by decide +kernel
theorem dX9_init_5 : decode cX9_init 5 = .ok (.bipush 12, 2) := by decide +kernel
theorem dX9_init_7 : decode cX9_init 7 = .ok (.newarray .int, 2) := by decide +kernel
theorem dX9_init_9 : decode cX9_init 9 = .ok (.putfield 9, 3) := by decide +kernel
theorem dX9_init_12 : decode cX9_init 12 = .ok (.aload_n 0, 1) := by decide +kernel
theorem dX9_init_13 : decode cX9_init 13 = .ok (.bipush 12, 2) := by decide +kernel
theorem dX9_init_15 : decode cX9_init 15 = .ok (.newarray .int, 2) := by decide +kernel
theorem dX9_init_17 : decode cX9_init 17 = .ok (.putfield 15, 3) := by decide +kernel
theorem dX9_init_20 : decode cX9_init 20 = .ok (.aload_n 0, 1) := by decide +kernel
theorem dX9_init_21 : decode cX9_init 21 = .ok (.bipush 12, 2) := by decide +kernel
theorem dX9_init_23 : decode cX9_init 23 = .ok (.newarray .int, 2) := by decide +kernel
theorem dX9_init_25 : decode cX9_init 25 = .ok (.putfield 18, 3) := by decide +kernel
theorem dX9_init_28 : decode cX9_init 28 = .ok (.aload_n 0, 1) := by decide +kernel
theorem dX9_init_29 : decode cX9_init 29 = .ok (.bipush 12, 2) := by decide +kernel
theorem dX9_init_31 : decode cX9_init 31 = .ok (.newarray .int, 2) := by decide +kernel
theorem dX9_init_33 : decode cX9_init 33 = .ok (.putfield 21, 3) := by decide +kernel
theorem dX9_init_36 : decode cX9_init 36 = .ok (.aload_n 0, 1) := by decide +kernel
theorem dX9_init_37 : decode cX9_init 37 = .ok (.bipush 12, 2) := by decide +kernel
theorem dX9_init_39 : decode cX9_init 39 = .ok (.newarray .int, 2) := by decide +kernel
theorem dX9_init_41 : decode cX9_init 41 = .ok (.putfield 24, 3) := by decide +kernel
theorem dX9_init_44 : decode cX9_init 44 = .ok (.aload_n 0, 1) := by decide +kernel
theorem dX9_init_45 : decode cX9_init 45 = .ok (.bipush 12, 2) := by decide +kernel
theorem dX9_init_47 : decode cX9_init 47 = .ok (.newarray .int, 2) := by decide +kernel
theorem dX9_init_49 : decode cX9_init 49 = .ok (.putfield 27, 3) := by decide +kernel
theorem dX9_init_52 : decode cX9_init 52 = .ok (.aload_n 0, 1) := by decide +kernel
theorem dX9_init_53 : decode cX9_init 53 = .ok (.bipush 12, 2) := by decide +kernel
theorem dX9_init_55 : decode cX9_init 55 = .ok (.newarray .int, 2) := by decide +kernel
theorem dX9_init_57 : decode cX9_init 57 = .ok (.putfield 30, 3) := by decide +kernel
theorem dX9_init_60 : decode cX9_init 60 = .ok (.aload_n 0, 1) := by decide +kernel
theorem dX9_init_61 : decode cX9_init 61 = .ok (.bipush 12, 2) := by decide +kernel
theorem dX9_init_63 : decode cX9_init 63 = .ok (.bipush 96, 2) := by decide +kernel
theorem dX9_init_65 : decode cX9_init 65 = .ok (.multianewarray 33 2, 4) := by decide +kernel
theorem dX9_init_69 : decode cX9_init 69 = .ok (.putfield 35, 3) := by decide +kernel
theorem dX9_init_72 : decode cX9_init 72 = .ok (.aload_n 0, 1) := by decide +kernel
theorem dX9_init_73 : decode cX9_init 73 = .ok (.bipush 12, 2) := by decide +kernel
theorem dX9_init_75 : decode cX9_init 75 = .ok (.bipush 96, 2) := by decide +kernel
theorem dX9_init_77 : decode cX9_init 77 = .ok (.multianewarray 33 2, 4) := by decide +kernel
theorem dX9_init_81 : decode cX9_init 81 = .ok (.putfield 38, 3) := by decide +kernel
theorem dX9_init_84 : decode cX9_init 84 = .ok (.aload_n 0, 1) := by decide +kernel
theorem dX9_init_85 : decode cX9_init 85 = .ok (.bipush 24, 2) := by decide +kernel
theorem dX9_init_87 : decode cX9_init 87 = .ok (.newarray .long, 2) := by decide +kernel
theorem dX9_init_89 : decode cX9_init 89 = .ok (.putfield 41, 3) := by decide +kernel
theorem dX9_init_92 : decode cX9_init 92 = .ok (.aload_n 0, 1) := by decide +kernel
theorem dX9_init_93 : decode cX9_init 93 = .ok (.bipush 24, 2) := by decide +kernel
theorem dX9_init_95 : decode cX9_init 95 = .ok (.newarray .int, 2) := by decide +kernel
theorem dX9_init_97 : decode cX9_init 97 = .ok (.putfield 45, 3) := by decide +kernel
theorem dX9_init_100 : decode cX9_init 100 = .ok (.aload_n 0, 1) := by decide +kernel
theorem dX9_init_101 : decode cX9_init 101 = .ok (.bipush 96, 2) := by decide +kernel
theorem dX9_init_103 : decode cX9_init 103 = .ok (.newarray .long, 2) := by decide +kernel
theorem dX9_init_105 : decode cX9_init 105 = .ok (.putfield 48, 3) := by decide +kernel
theorem dX9_init_108 : decode cX9_init 108 = .ok (.aload_n 0, 1) := by decide +kernel
theorem dX9_init_109 : decode cX9_init 109 = .ok (.bipush 96, 2) := by decide +kernel
theorem dX9_init_111 : decode cX9_init 111 = .ok (.newarray .long, 2) := by decide +kernel
theorem dX9_init_113 : decode cX9_init 113 = .ok (.putfield 51, 3) := by decide +kernel
theorem dX9_init_116 : decode cX9_init 116 = .ok (.return_, 1) := by decide +kernel
theorem dX10_init_0 : decode cX10_init 0 = .ok (.aload_n 0, 1) := by decide +kernel
theorem dX10_init_1 : decode cX10_init 1 = .ok (.invokespecial 3, 3) := by decide +kernel
theorem dX10_init_4 : decode cX10_init 4 = .ok (.aload_n 0, 1) := by decide +kernel
theorem dX10_init_5 : decode cX10_init 5 = .ok (.new 9, 3) := by decide +kernel
theorem dX10_init_8 : decode cX10_init 8 = .ok (.dup, 1) := by decide +kernel
theorem dX10_init_9 : decode cX10_init 9 = .ok (.invokespecial 11, 3) := by decide +kernel
theorem dX10_init_12 : decode cX10_init 12 = .ok (.putfield 12, 3) := by decide +kernel
theorem dX10_init_15 : decode cX10_init 15 = .ok (.aload_n 0, 1) := by decide +kernel
theorem dX10_init_16 : decode cX10_init 16 = .ok (.new 9, 3) := by decide +kernel
theorem dX10_init_19 : decode cX10_init 19 = .ok (.dup, 1) := by decide +kernel
theorem dX10_init_20 : decode cX10_init 20 = .ok (.invokespecial 11, 3) := by decide +kernel
theorem dX10_init_23 : decode cX10_init 23 = .ok (.putfield 16, 3) := by decide +kernel
theorem dX10_init_26 : decode cX10_init 26 = .ok (.aload_n 0, 1) := by decide +kernel
theorem dX10_init_27 : decode cX10_init 27 = .ok (.new 19, 3) := by decide +kernel
theorem dX10_init_30 : decode cX10_init 30 = .ok (.dup, 1) := by decide +kernel
theorem dX10_init_31 : decode cX10_init 31 = .ok (.invokespecial 21, 3) := by decide +kernel
theorem dX10_init_34 : decode cX10_init 34 = .ok (.putfield 22, 3) := by decide +kernel
theorem dX10_init_37 : decode cX10_init 37 = .ok (.aload_n 0, 1) := by decide +kernel
theorem dX10_init_38 : decode cX10_init 38 = .ok (.new 26, 3) := by decide +kernel
theorem dX10_init_41 : decode cX10_init 41 = .ok (.dup, 1) := by decide +kernel
theorem dX10_init_42 : decode cX10_init 42 = .ok (.invokespecial 28, 3) := by decide +kernel
theorem dX10_init_45 : decode cX10_init 45 = .ok (.putfield 29, 3) := by decide +kernel
theorem dX10_init_48 : decode cX10_init 48 = .ok (.aload_n 0, 1) := by decide +kernel
theorem dX10_init_49 : decode cX10_init 49 = .ok (.new 33, 3) := by decide +kernel
theorem dX10_init_52 : decode cX10_init 52 = .ok (.dup, 1) := by decide +kernel
theorem dX10_init_53 : decode cX10_init 53 = .ok (.invokespecial 35, 3) := by decide +kernel
theorem dX10_init_56 : decode cX10_init 56 = .ok (.putfield 36, 3) := by decide +kernel
theorem dX10_init_59 : decode cX10_init 59 = .ok (.aload_n 0, 1) := by decide +kernel
theorem dX10_init_60 : decode cX10_init 60 = .ok (.iconst 4, 1) := by decide +kernel
theorem dX10_init_61 : decode cX10_init 61 = .ok (.anewarray 40, 3) := by decide +kernel
theorem dX10_init_64 : decode cX10_init 64 = .ok (.dup, 1) := by decide +kernel
theorem dX10_init_65 : decode cX10_init 65 = .ok (.iconst 0, 1) := by decide +kernel
theorem dX10_init_66 : decode cX10_init 66 = .ok (.new 40, 3) := by decide +kernel
theorem dX10_init_69 : decode cX10_init 69 = .ok (.dup, 1) := by decide +kernel
theorem dX10_init_70 : decode cX10_init 70 = .ok (.invokespecial 42, 3) := by decide +kernel
theorem dX10_init_73 : decode cX10_init 73 = .ok (.aastore, 1) := by decide +kernel
theorem dX10_init_74 : decode cX10_init 74 = .ok (.dup, 1) := by decide +kernel
theorem dX10_init_75 : decode cX10_init 75 = .ok (.iconst 1, 1) := by decide +kernel
theorem dX10_init_76 : decode cX10_init 76 = .ok (.new 40, 3) := by decide +kernel
theorem dX10_init_79 : decode cX10_init 79 = .ok (.dup, 1) := by decide +kernel
theorem dX10_init_80 : decode cX10_init 80 = .ok (.invokespecial 42, 3) := by decide +kernel
theorem dX10_init_83 : decode cX10_init 83 = .ok (.aastore, 1) := by decide +kernel
theorem dX10_init_84 : decode cX10_init 84 = .ok (.dup, 1) := by decide +kernel
theorem dX10_init_85 : decode cX10_init 85 = .ok (.iconst 2, 1) := by decide +kernel
theorem dX10_init_86 : decode cX10_init 86 = .ok (.new 40, 3) := by decide +kernel
theorem dX10_init_89 : decode cX10_init 89 = .ok (.dup, 1) := by decide +kernel
theorem dX10_init_90 : decode cX10_init 90 = .ok (.invokespecial 42, 3) := by decide +kernel
theorem dX10_init_93 : decode cX10_init 93 = .ok (.aastore, 1) := by decide +kernel
theorem dX10_init_94 : decode cX10_init 94 = .ok (.dup, 1) := by decide +kernel
theorem dX10_init_95 : decode cX10_init 95 = .ok (.iconst 3, 1) := by decide +kernel
theorem dX10_init_96 : decode cX10_init 96 = .ok (.new 40, 3) := by decide +kernel
theorem dX10_init_99 : decode cX10_init 99 = .ok (.dup, 1) := by decide +kernel
theorem dX10_init_100 : decode cX10_init 100 = .ok (.invokespecial 42, 3) := by decide +kernel
theorem dX10_init_103 : decode cX10_init 103 = .ok (.aastore, 1) := by decide +kernel
theorem dX10_init_104 : decode cX10_init 104 = .ok (.putfield 43, 3) := by decide +kernel
theorem dX10_init_107 : decode cX10_init 107 = .ok (.aload_n 0, 1) := by decide +kernel
theorem dX10_init_108 : decode cX10_init 108 = .ok (.iconst 2, 1) := by decide +kernel
theorem dX10_init_109 : decode cX10_init 109 = .ok (.anewarray 47, 3) := by decide +kernel
theorem dX10_init_112 : decode cX10_init 112 = .ok (.dup, 1) := by decide +kernel
theorem dX10_init_113 : decode cX10_init 113 = .ok (.iconst 0, 1) := by decide +kernel
theorem dX10_init_114 : decode cX10_init 114 = .ok (.new 47, 3) := by decide +kernel
theorem dX10_init_117 : decode cX10_init 117 = .ok (.dup, 1) := by decide +kernel
theorem dX10_init_118 : decode cX10_init 118 = .ok (.invokespecial 49, 3) := by decide +kernel
theorem dX10_init_121 : decode cX10_init 121 = .ok (.aastore, 1) := by decide +kernel
theorem dX10_init_122 : decode cX10_init 122 = .ok (.dup, 1) := by decide +kernel
theorem dX10_init_123 : decode cX10_init 123 = .ok (.iconst 1, 1) := by decide +kernel
theorem dX10_init_124 : decode cX10_init 124 = .ok (.new 47, 3) := by decide +kernel
theorem dX10_init_127 : decode cX10_init 127 = .ok (.dup, 1) := by decide +kernel
theorem dX10_init_128 : decode cX10_init 128 = .ok (.invokespecial 49, 3) := by decide +kernel
theorem dX10_init_131 : decode cX10_init 131 = .ok (.aastore, 1) := by decide +kernel
theorem dX10_init_132 : decode cX10_init 132 = .ok (.putfield 50, 3) := by decide +kernel
theorem dX10_init_135 : decode cX10_init 135 = .ok (.aload_n 0, 1) := by decide +kernel
theorem dX10_init_136 : decode cX10_init 136 = .ok (.iconst 2, 1) := by decide +kernel
theorem dX10_init_137 : decode cX10_init 137 = .ok (.newarray .boolean, 2) := by decide +kernel
theorem dX10_init_139 : decode cX10_init 139 = .ok (.putfield 54, 3) := by decide +kernel
theorem dX10_init_142 : decode cX10_init 142 = .ok (.aload_n 0, 1) := by decide +kernel
theorem dX10_init_143 : decode cX10_init 143 = .ok (.new 58, 3) := by decide +kernel
theorem dX10_init_146 : decode cX10_init 146 = .ok (.dup, 1) := by decide +kernel
theorem dX10_init_147 : decode cX10_init 147 = .ok (.invokespecial 60, 3) := by decide +kernel
theorem dX10_init_150 : decode cX10_init 150 = .ok (.putfield 61, 3) := by decide +kernel
theorem dX10_init_153 : decode cX10_init 153 = .ok (.return_, 1) := by decide +kernel
theorem dX10_rain_0 : decode cX10_rain 0 = .ok (.iload_n 1, 1) := by decide +kernel
theorem dX10_rain_1 : decode cX10_rain 1 = .ok (.invokestatic 65, 3) := by decide +kernel
theorem dX10_rain_4 : decode cX10_rain 4 = .ok (.ifCond .eq 20, 3) := by decide +kernel
theorem dX10_rain_7 : decode cX10_rain 7 = .ok (.iload_n 2, 1) := by decide +kernel
theorem dX10_rain_8 : decode cX10_rain 8 = .ok (.iconst 0, 1) := by decide +kernel
theorem dX10_rain_9 : decode cX10_rain 9 = .ok (.iconst 2, 1) := by decide +kernel
theorem dX10_rain_10 : decode cX10_rain 10 = .ok (.invokestatic 69, 3) := by decide +kernel
theorem dX10_rain_13 : decode cX10_rain 13 = .ok (.ifCond .eq 11, 3) := by decide +kernel
theorem dX10_rain_16 : decode cX10_rain 16 = .ok (.iload_n 2, 1) := by decide +kernel
theorem dX10_rain_17 : decode cX10_rain 17 = .ok (.iload_n 3, 1) := by decide +kernel
theorem dX10_rain_18 : decode cX10_rain 18 = .ok (.invokestatic 73, 3) := by decide +kernel
theorem dX10_rain_21 : decode cX10_rain 21 = .ok (.ifCond .ne 7, 3) := by decide +kernel
theorem dX10_rain_24 : decode cX10_rain 24 = .ok (.sipush (-1001), 3) := by decide +kernel
theorem dX10_rain_27 : decode cX10_rain 27 = .ok (.ireturn, 1) := by decide +kernel
theorem dX10_rain_28 : decode cX10_rain 28 = .ok (.aload_n 0, 1) := by decide +kernel
theorem dX10_rain_29 : decode cX10_rain 29 = .ok (.getfield 12, 3) := by decide +kernel
theorem dX10_rain_32 : decode cX10_rain 32 = .ok (.getfield 79, 3) := by decide +kernel
theorem dX10_rain_35 : decode cX10_rain 35 = .ok (.getfield 83, 3) := by decide +kernel
theorem dX10_rain_38 : decode cX10_rain 38 = .ok (.iload_n 2, 1) := by decide +kernel
theorem dX10_rain_39 : decode cX10_rain 39 = .ok (.aaload, 1) := by decide +kernel
theorem dX10_rain_40 : decode cX10_rain 40 = .ok (.iload_n 1, 1) := by decide +kernel
theorem dX10_rain_41 : decode cX10_rain 41 = .ok (.iaload, 1) := by decide +kernel
theorem dX10_rain_42 : decode cX10_rain 42 = .ok (.istore 4, 2) := by decide +kernel
theorem dX10_rain_44 : decode cX10_rain 44 = .ok (.aload_n 0, 1) := by decide +kernel
theorem dX10_rain_45 : decode cX10_rain 45 = .ok (.getfield 12, 3) := by decide +kernel
theorem dX10_rain_48 : decode cX10_rain 48 = .ok (.getfield 79, 3) := by decide +kernel
theorem dX10_rain_51 : decode cX10_rain 51 = .ok (.getfield 83, 3) := by decide +kernel
theorem dX10_rain_54 : decode cX10_rain 54 = .ok (.iload_n 2, 1) := by decide +kernel
theorem dX10_rain_55 : decode cX10_rain 55 = .ok (.aaload, 1) := by decide +kernel
theorem dX10_rain_56 : decode cX10_rain 56 = .ok (.iload_n 1, 1) := by decide +kernel
theorem dX10_rain_57 : decode cX10_rain 57 = .ok (.iload_n 3, 1) := by decide +kernel
theorem dX10_rain_58 : decode cX10_rain 58 = .ok (.iastore, 1) := by decide +kernel
theorem dX10_rain_59 : decode cX10_rain 59 = .ok (.iload 4, 2) := by decide +kernel
theorem dX10_rain_61 : decode cX10_rain 61 = .ok (.ireturn, 1) := by decide +kernel
theorem dX10_rains_0 : decode cX10_rains 0 = .ok (.iload_n 1, 1) := by decide +kernel
theorem dX10_rains_1 : decode cX10_rains 1 = .ok (.iconst 0, 1) := by decide +kernel
theorem dX10_rains_2 : decode cX10_rains 2 = .ok (.iconst 2, 1) := by decide +kernel
theorem dX10_rains_3 : decode cX10_rains 3 = .ok (.invokestatic 69, 3) := by decide +kernel
theorem dX10_rains_6 : decode cX10_rains 6 = .ok (.ifCond .eq 22, 3) := by decide +kernel
theorem dX10_rains_9 : decode cX10_rains 9 = .ok (.iload_n 2, 1) := by decide +kernel
theorem dX10_rains_10 : decode cX10_rains 10 = .ok (.iload_n 3, 1) := by decide +kernel
theorem dX10_rains_11 : decode cX10_rains 11 = .ok (.invokestatic 87, 3) := by decide +kernel
theorem dX10_rains_14 : decode cX10_rains 14 = .ok (.ifCond .eq 14, 3) := by decide +kernel
theorem dX10_rains_17 : decode cX10_rains 17 = .ok (.iload 5, 2) := by decide +kernel
theorem dX10_rains_19 : decode cX10_rains 19 = .ok (.iconst 1, 1) := by decide +kernel
theorem dX10_rains_20 : decode cX10_rains 20 = .ok (.bipush 24, 2) := by decide +kernel
theorem dX10_rains_22 : decode cX10_rains 22 = .ok (.invokestatic 69, 3) := by decide +kernel
theorem dX10_rains_25 : decode cX10_rains 25 = .ok (.ifCond .ne 5, 3) := by decide +kernel
theorem dX10_rains_28 : decode cX10_rains 28 = .ok (.iconst (-1), 1) := by decide +kernel
theorem dX10_rains_29 : decode cX10_rains 29 = .ok (.ireturn, 1) := by decide +kernel
theorem dX10_rains_30 : decode cX10_rains 30 = .ok (.aload_n 0, 1) := by decide +kernel
theorem dX10_rains_31 : decode cX10_rains 31 = .ok (.getfield 43, 3) := by decide +kernel
theorem dX10_rains_34 : decode cX10_rains 34 = .ok (.iload_n 2, 1) := by decide +kernel
theorem dX10_rains_35 : decode cX10_rains 35 = .ok (.aaload, 1) := by decide +kernel
theorem dX10_rains_36 : decode cX10_rains 36 = .ok (.astore 6, 2) := by decide +kernel
theorem dX10_rains_38 : decode cX10_rains 38 = .ok (.aload 6, 2) := by decide +kernel
theorem dX10_rains_40 : decode cX10_rains 40 = .ok (.iload_n 3, 1) := by decide +kernel
theorem dX10_rains_41 : decode cX10_rains 41 = .ok (.iload 4, 2) := by decide +kernel
theorem dX10_rains_43 : decode cX10_rains 43 = .ok (.iload 5, 2) := by decide +kernel
theorem dX10_rains_45 : decode cX10_rains 45 = .ok (.invokevirtual 90, 3) := by decide +kernel
theorem dX10_rains_48 : decode cX10_rains 48 = .ok (.istore 7, 2) := by decide +kernel
theorem dX10_rains_50 : decode cX10_rains 50 = .ok (.iload 7, 2) := by decide +kernel
theorem dX10_rains_52 : decode cX10_rains 52 = .ok (.ifCond .eq 6, 3) := by decide +kernel
theorem dX10_rains_55 : decode cX10_rains 55 = .ok (.iload 7, 2) := by decide +kernel
theorem dX10_rains_57 : decode cX10_rains 57 = .ok (.ireturn, 1) := by decide +kernel
theorem dX10_rains_58 : decode cX10_rains 58 = .ok (.iconst 0, 1) := by decide +kernel
theorem dX10_rains_59 : decode cX10_rains 59 = .ok (.istore 8, 2) := by decide +kernel
theorem dX10_rains_61 : decode cX10_rains 61 = .ok (.iload 8, 2) := by decide +kernel
theorem dX10_rains_63 : decode cX10_rains 63 = .ok (.iload 5, 2) := by decide +kernel
theorem dX10_rains_65 : decode cX10_rains 65 = .ok (.if_icmp .ge 30, 3) := by decide +kernel
theorem dX10_rains_68 : decode cX10_rains 68 = .ok (.iload_n 1, 1) := by decide +kernel
theorem dX10_rains_69 : decode cX10_rains 69 = .ok (.aload 6, 2) := by decide +kernel
theorem dX10_rains_71 : decode cX10_rains 71 = .ok (.getfield 94, 3) := by decide +kernel
theorem dX10_rains_74 : decode cX10_rains 74 = .ok (.iload 4, 2) := by decide +kernel
theorem dX10_rains_76 : decode cX10_rains 76 = .ok (.iload 8, 2) := by decide +kernel
theorem dX10_rains_78 : decode cX10_rains 78 = .ok (.iadd, 1) := by decide +kernel
theorem dX10_rains_79 : decode cX10_rains 79 = .ok (.iaload, 1) := by decide +kernel
theorem dX10_rains_80 : decode cX10_rains 80 = .ok (.invokestatic 73, 3) := by decide +kernel
theorem dX10_rains_83 : decode cX10_rains 83 = .ok (.ifCond .ne 6, 3) := by decide +kernel
theorem dX10_rains_86 : decode cX10_rains 86 = .ok (.bipush (-2), 2) := by decide +kernel
theorem dX10_rains_88 : decode cX10_rains 88 = .ok (.ireturn, 1) := by decide +kernel
theorem dX10_rains_89 : decode cX10_rains 89 = .ok (.iinc 8 1, 3) := by decide +kernel
theorem dX10_rains_92 : decode cX10_rains 92 = .ok (.goto (-31), 3) := by decide +kernel
theorem dX10_rains_95 : decode cX10_rains 95 = .ok (.iconst 0, 1) := by decide +kernel
theorem dX10_rains_96 : decode cX10_rains 96 = .ok (.istore 8, 2) := by decide +kernel
theorem dX10_rains_98 : decode cX10_rains 98 = .ok (.iload 8, 2) := by decide +kernel
theorem dX10_rains_100 : decode cX10_rains 100 = .ok (.iload 5, 2) := by decide +kernel
theorem dX10_rains_102 : decode cX10_rains 102 = .ok (.if_icmp .ge 35, 3) := by decide +kernel
theorem dX10_rains_105 : decode cX10_rains 105 = .ok (.aload_n 0, 1) := by decide +kernel
theorem dX10_rains_106 : decode cX10_rains 106 = .ok (.getfield 12, 3) := by decide +kernel
theorem dX10_rains_109 : decode cX10_rains 109 = .ok (.getfield 79, 3) := by decide +kernel
theorem dX10_rains_112 : decode cX10_rains 112 = .ok (.getfield 83, 3) := by decide +kernel
theorem dX10_rains_115 : decode cX10_rains 115 = .ok (.iload_n 1, 1) := by decide +kernel
theorem dX10_rains_116 : decode cX10_rains 116 = .ok (.aaload, 1) := by decide +kernel
theorem dX10_rains_117 : decode cX10_rains 117 = .ok (.iload 8, 2) := by decide +kernel
theorem dX10_rains_119 : decode cX10_rains 119 = .ok (.aload 6, 2) := by decide +kernel
theorem dX10_rains_121 : decode cX10_rains 121 = .ok (.getfield 94, 3) := by decide +kernel
theorem dX10_rains_124 : decode cX10_rains 124 = .ok (.iload 4, 2) := by decide +kernel
theorem dX10_rains_126 : decode cX10_rains 126 = .ok (.iload 8, 2) := by decide +kernel
theorem dX10_rains_128 : decode cX10_rains 128 = .ok (.iadd, 1) := by decide +kernel
theorem dX10_rains_129 : decode cX10_rains 129 = .ok (.iaload, 1) := by decide +kernel
theorem dX10_rains_130 : decode cX10_rains 130 = .ok (.iastore, 1) := by decide +kernel
theorem dX10_rains_131 : decode cX10_rains 131 = .ok (.iinc 8 1, 3) := by decide +kernel
theorem dX10_rains_134 : decode cX10_rains 134 = .ok (.goto (-36), 3) := by decide +kernel
theorem dX10_rains_137 : decode cX10_rains 137 = .ok (.iload 5, 2) := by decide +kernel
theorem dX10_rains_139 : decode cX10_rains 139 = .ok (.ireturn, 1) := by decide +kernel
theorem dX10_set_0 : decode cX10_set 0 = .ok (.iload_n 1, 1) := by decide +kernel
theorem dX10_set_1 : decode cX10_set 1 = .ok (.iconst 0, 1) := by decide +kernel
theorem dX10_set_2 : decode cX10_set 2 = .ok (.iconst 1, 1) := by decide +kernel
theorem dX10_set_3 : decode cX10_set 3 = .ok (.invokestatic 69, 3) := by decide +kernel
theorem dX10_set_6 : decode cX10_set 6 = .ok (.ifCond .eq 21, 3) := by decide +kernel
theorem dX10_set_9 : decode cX10_set 9 = .ok (.iload_n 2, 1) := by decide +kernel
theorem dX10_set_10 : decode cX10_set 10 = .ok (.iconst 1, 1) := by decide +kernel
theorem dX10_set_11 : decode cX10_set 11 = .ok (.iload_n 1, 1) := by decide +kernel
theorem dX10_set_12 : decode cX10_set 12 = .ok (.ifCond .ne 7, 3) := by decide +kernel
theorem dX10_set_15 : decode cX10_set 15 = .ok (.iconst 5, 1) := by decide +kernel
theorem dX10_set_16 : decode cX10_set 16 = .ok (.goto 5, 3) := by decide +kernel
theorem dX10_set_19 : decode cX10_set 19 = .ok (.bipush 9, 2) := by decide +kernel
theorem dX10_set_21 : decode cX10_set 21 = .ok (.invokestatic 69, 3) := by decide +kernel
theorem dX10_set_24 : decode cX10_set 24 = .ok (.ifCond .ne 5, 3) := by decide +kernel
theorem dX10_set_27 : decode cX10_set 27 = .ok (.iconst (-1), 1) := by decide +kernel
theorem dX10_set_28 : decode cX10_set 28 = .ok (.ireturn, 1) := by decide +kernel
theorem dX10_set_29 : decode cX10_set 29 = .ok (.aload_n 0, 1) := by decide +kernel
theorem dX10_set_30 : decode cX10_set 30 = .ok (.getfield 12, 3) := by decide +kernel
theorem dX10_set_33 : decode cX10_set 33 = .ok (.getfield 79, 3) := by decide +kernel
theorem dX10_set_36 : decode cX10_set 36 = .ok (.astore_n 3, 1) := by decide +kernel
theorem dX10_set_37 : decode cX10_set 37 = .ok (.iload_n 1, 1) := by decide +kernel
theorem dX10_set_38 : decode cX10_set 38 = .ok (.ifCond .ne 10, 3) := by decide +kernel
theorem dX10_set_41 : decode cX10_set 41 = .ok (.aload_n 3, 1) := by decide +kernel
theorem dX10_set_42 : decode cX10_set 42 = .ok (.getfield 98, 3) := by decide +kernel
theorem dX10_set_45 : decode cX10_set 45 = .ok (.goto 7, 3) := by decide +kernel
theorem dX10_set_48 : decode cX10_set 48 = .ok (.aload_n 3, 1) := by decide +kernel
theorem dX10_set_49 : decode cX10_set 49 = .ok (.getfield 102, 3) := by decide +kernel
theorem dX10_set_52 : decode cX10_set 52 = .ok (.istore 4, 2) := by decide +kernel
theorem dX10_set_54 : decode cX10_set 54 = .ok (.iload_n 1, 1) := by decide +kernel
theorem dX10_set_55 : decode cX10_set 55 = .ok (.ifCond .ne 11, 3) := by decide +kernel
theorem dX10_set_58 : decode cX10_set 58 = .ok (.aload_n 3, 1) := by decide +kernel
theorem dX10_set_59 : decode cX10_set 59 = .ok (.iload_n 2, 1) := by decide +kernel
theorem dX10_set_60 : decode cX10_set 60 = .ok (.putfield 98, 3) := by decide +kernel
theorem dX10_set_63 : decode cX10_set 63 = .ok (.goto 8, 3) := by decide +kernel
theorem dX10_set_66 : decode cX10_set 66 = .ok (.aload_n 3, 1) := by decide +kernel
theorem dX10_set_67 : decode cX10_set 67 = .ok (.iload_n 2, 1) := by decide +kernel
theorem dX10_set_68 : decode cX10_set 68 = .ok (.putfield 102, 3) := by decide +kernel
theorem dX10_set_71 : decode cX10_set 71 = .ok (.iload 4, 2) := by decide +kernel
theorem dX10_set_73 : decode cX10_set 73 = .ok (.ireturn, 1) := by decide +kernel
theorem dX10_wet_0 : decode cX10_wet 0 = .ok (.iload_n 1, 1) := by decide +kernel
theorem dX10_wet_1 : decode cX10_wet 1 = .ok (.invokestatic 65, 3) := by decide +kernel
theorem dX10_wet_4 : decode cX10_wet 4 = .ok (.ifCond .eq 27, 3) := by decide +kernel
theorem dX10_wet_7 : decode cX10_wet 7 = .ok (.aload_n 0, 1) := by decide +kernel
theorem dX10_wet_8 : decode cX10_wet 8 = .ok (.getfield 12, 3) := by decide +kernel
theorem dX10_wet_11 : decode cX10_wet 11 = .ok (.getfield 79, 3) := by decide +kernel
theorem dX10_wet_14 : decode cX10_wet 14 = .ok (.iload_n 1, 1) := by decide +kernel
theorem dX10_wet_15 : decode cX10_wet 15 = .ok (.aload_n 0, 1) := by decide +kernel
theorem dX10_wet_16 : decode cX10_wet 16 = .ok (.getfield 12, 3) := by decide +kernel
theorem dX10_wet_19 : decode cX10_wet 19 = .ok (.getfield 79, 3) := by decide +kernel
theorem dX10_wet_22 : decode cX10_wet 22 = .ok (.getfield 98, 3) := by decide +kernel
theorem dX10_wet_25 : decode cX10_wet 25 = .ok (.invokevirtual 105, 3) := by decide +kernel
theorem dX10_wet_28 : decode cX10_wet 28 = .ok (.goto 4, 3) := by decide +kernel
theorem dX10_wet_31 : decode cX10_wet 31 = .ok (.iconst (-1), 1) := by decide +kernel
theorem dX10_wet_32 : decode cX10_wet 32 = .ok (.ireturn, 1) := by decide +kernel
theorem dX10_water_0 : decode cX10_water 0 = .ok (.iload_n 1, 1) := by decide +kernel
theorem dX10_water_1 : decode cX10_water 1 = .ok (.invokestatic 65, 3) := by decide +kernel
theorem dX10_water_4 : decode cX10_water 4 = .ok (.ifCond .eq 27, 3) := by decide +kernel
theorem dX10_water_7 : decode cX10_water 7 = .ok (.aload_n 0, 1) := by decide +kernel
theorem dX10_water_8 : decode cX10_water 8 = .ok (.getfield 12, 3) := by decide +kernel
theorem dX10_water_11 : decode cX10_water 11 = .ok (.getfield 79, 3) := by decide +kernel
theorem dX10_water_14 : decode cX10_water 14 = .ok (.iload_n 1, 1) := by decide +kernel
theorem dX10_water_15 : decode cX10_water 15 = .ok (.aload_n 0, 1) := by decide +kernel
theorem dX10_water_16 : decode cX10_water 16 = .ok (.getfield 12, 3) := by decide +kernel
theorem dX10_water_19 : decode cX10_water 19 = .ok (.getfield 79, 3) := by decide +kernel
theorem dX10_water_22 : decode cX10_water 22 = .ok (.getfield 98, 3) := by decide +kernel
theorem dX10_water_25 : decode cX10_water 25 = .ok (.invokevirtual 109, 3) := by decide +kernel
theorem dX10_water_28 : decode cX10_water 28 = .ok (.goto 6, 3) := by decide +kernel
theorem dX10_water_31 : decode cX10_water 31 = .ok (.sipush (-1001), 3) := by decide +kernel
theorem dX10_water_34 : decode cX10_water 34 = .ok (.ireturn, 1) := by decide +kernel
theorem dX10_type_0 : decode cX10_type 0 = .ok (.iload_n 3, 1) := by decide +kernel
theorem dX10_type_1 : decode cX10_type 1 = .ok (.iconst 1, 1) := by decide +kernel
theorem dX10_type_2 : decode cX10_type 2 = .ok (.bipush 8, 2) := by decide +kernel
theorem dX10_type_4 : decode cX10_type 4 = .ok (.invokestatic 69, 3) := by decide +kernel
theorem dX10_type_7 : decode cX10_type 7 = .ok (.ifCond .ne 5, 3) := by decide +kernel
theorem dX10_type_10 : decode cX10_type 10 = .ok (.iconst (-1), 1) := by decide +kernel
theorem dX10_type_11 : decode cX10_type 11 = .ok (.ireturn, 1) := by decide +kernel
theorem dX10_type_12 : decode cX10_type 12 = .ok (.iconst 0, 1) := by decide +kernel
theorem dX10_type_13 : decode cX10_type 13 = .ok (.istore 4, 2) := by decide +kernel
theorem dX10_type_15 : decode cX10_type 15 = .ok (.iload 4, 2) := by decide +kernel
theorem dX10_type_17 : decode cX10_type 17 = .ok (.iload_n 3, 1) := by decide +kernel
theorem dX10_type_18 : decode cX10_type 18 = .ok (.if_icmp .ge 27, 3) := by decide +kernel
theorem dX10_type_21 : decode cX10_type 21 = .ok (.lload_n 1, 1) := by decide +kernel
theorem dX10_type_22 : decode cX10_type 22 = .ok (.iload 4, 2) := by decide +kernel
theorem dX10_type_24 : decode cX10_type 24 = .ok (.invokestatic 112, 3) := by decide +kernel
theorem dX10_type_27 : decode cX10_type 27 = .ok (.bipush 32, 2) := by decide +kernel
theorem dX10_type_29 : decode cX10_type 29 = .ok (.bipush 126, 2) := by decide +kernel
theorem dX10_type_31 : decode cX10_type 31 = .ok (.invokestatic 69, 3) := by decide +kernel
theorem dX10_type_34 : decode cX10_type 34 = .ok (.ifCond .ne 5, 3) := by decide +kernel
theorem dX10_type_37 : decode cX10_type 37 = .ok (.iconst (-1), 1) := by decide +kernel
theorem dX10_type_38 : decode cX10_type 38 = .ok (.ireturn, 1) := by decide +kernel
theorem dX10_type_39 : decode cX10_type 39 = .ok (.iinc 4 1, 3) := by decide +kernel
theorem dX10_type_42 : decode cX10_type 42 = .ok (.goto (-27), 3) := by decide +kernel
theorem dX10_type_45 : decode cX10_type 45 = .ok (.aload_n 0, 1) := by decide +kernel
theorem dX10_type_46 : decode cX10_type 46 = .ok (.getfield 22, 3) := by decide +kernel
theorem dX10_type_49 : decode cX10_type 49 = .ok (.getfield 116, 3) := by decide +kernel
theorem dX10_type_52 : decode cX10_type 52 = .ok (.iload_n 3, 1) := by decide +kernel
theorem dX10_type_53 : decode cX10_type 53 = .ok (.iadd, 1) := by decide +kernel
theorem dX10_type_54 : decode cX10_type 54 = .ok (.bipush 80, 2) := by decide +kernel
theorem dX10_type_56 : decode cX10_type 56 = .ok (.if_icmp .le 6, 3) := by decide +kernel
theorem dX10_type_59 : decode cX10_type 59 = .ok (.bipush (-3), 2) := by decide +kernel
theorem dX10_type_61 : decode cX10_type 61 = .ok (.ireturn, 1) := by decide +kernel
theorem dX10_type_62 : decode cX10_type 62 = .ok (.iload_n 3, 1) := by decide +kernel
theorem dX10_type_63 : decode cX10_type 63 = .ok (.iconst 1, 1) := by decide +kernel
theorem dX10_type_64 : decode cX10_type 64 = .ok (.isub, 1) := by decide +kernel
theorem dX10_type_65 : decode cX10_type 65 = .ok (.istore 4, 2) := by decide +kernel
theorem dX10_type_67 : decode cX10_type 67 = .ok (.iload 4, 2) := by decide +kernel
theorem dX10_type_69 : decode cX10_type 69 = .ok (.ifCond .lt 43, 3) := by decide +kernel
theorem dX10_type_72 : decode cX10_type 72 = .ok (.aload_n 0, 1) := by decide +kernel
theorem dX10_type_73 : decode cX10_type 73 = .ok (.getfield 22, 3) := by decide +kernel
theorem dX10_type_76 : decode cX10_type 76 = .ok (.getfield 119, 3) := by decide +kernel
theorem dX10_type_79 : decode cX10_type 79 = .ok (.aload_n 0, 1) := by decide +kernel
theorem dX10_type_80 : decode cX10_type 80 = .ok (.getfield 22, 3) := by decide +kernel
theorem dX10_type_83 : decode cX10_type 83 = .ok (.getfield 116, 3) := by decide +kernel
theorem dX10_type_86 : decode cX10_type 86 = .ok (.lload_n 1, 1) := by decide +kernel
theorem dX10_type_87 : decode cX10_type 87 = .ok (.iload 4, 2) := by decide +kernel
theorem dX10_type_89 : decode cX10_type 89 = .ok (.invokestatic 112, 3) := by decide +kernel
theorem dX10_type_92 : decode cX10_type 92 = .ok (.iastore, 1) := by decide +kernel
theorem dX10_type_93 : decode cX10_type 93 = .ok (.aload_n 0, 1) := by decide +kernel
theorem dX10_type_94 : decode cX10_type 94 = .ok (.getfield 22, 3) := by decide +kernel
theorem dX10_type_97 : decode cX10_type 97 = .ok (.dup, 1) := by decide +kernel
theorem dX10_type_98 : decode cX10_type 98 = .ok (.getfield 116, 3) := by decide +kernel
theorem dX10_type_101 : decode cX10_type 101 = .ok (.iconst 1, 1) := by decide +kernel
theorem dX10_type_102 : decode cX10_type 102 = .ok (.iadd, 1) := by decide +kernel
theorem dX10_type_103 : decode cX10_type 103 = .ok (.putfield 116, 3) := by decide +kernel
theorem dX10_type_106 : decode cX10_type 106 = .ok (.iinc 4 (-1), 3) := by decide +kernel
theorem dX10_type_109 : decode cX10_type 109 = .ok (.goto (-42), 3) := by decide +kernel
theorem dX10_type_112 : decode cX10_type 112 = .ok (.aload_n 0, 1) := by decide +kernel
theorem dX10_type_113 : decode cX10_type 113 = .ok (.getfield 22, 3) := by decide +kernel
theorem dX10_type_116 : decode cX10_type 116 = .ok (.getfield 116, 3) := by decide +kernel
theorem dX10_type_119 : decode cX10_type 119 = .ok (.ireturn, 1) := by decide +kernel
theorem dX10_byteOf_0 : decode cX10_byteOf 0 = .ok (.lload_n 0, 1) := by decide +kernel
theorem dX10_byteOf_1 : decode cX10_byteOf 1 = .ok (.bipush 8, 2) := by decide +kernel
theorem dX10_byteOf_3 : decode cX10_byteOf 3 = .ok (.iload_n 2, 1) := by decide +kernel
theorem dX10_byteOf_4 : decode cX10_byteOf 4 = .ok (.imul, 1) := by decide +kernel
theorem dX10_byteOf_5 : decode cX10_byteOf 5 = .ok (.lushr, 1) := by decide +kernel
theorem dX10_byteOf_6 : decode cX10_byteOf 6 = .ok (.l2i, 1) := by decide +kernel
theorem dX10_byteOf_7 : decode cX10_byteOf 7 = .ok (.sipush 255, 3) := by decide +kernel
theorem dX10_byteOf_10 : decode cX10_byteOf 10 = .ok (.iand, 1) := by decide +kernel
theorem dX10_byteOf_11 : decode cX10_byteOf 11 = .ok (.ireturn, 1) := by decide +kernel
theorem dX10_law_0 : decode cX10_law 0 = .ok (.aload_n 0, 1) := by decide +kernel
theorem dX10_law_1 : decode cX10_law 1 = .ok (.getfield 22, 3) := by decide +kernel
theorem dX10_law_4 : decode cX10_law 4 = .ok (.aload_n 0, 1) := by decide +kernel
theorem dX10_law_5 : decode cX10_law 5 = .ok (.getfield 29, 3) := by decide +kernel
theorem dX10_law_8 : decode cX10_law 8 = .ok (.invokevirtual 122, 3) := by decide +kernel
theorem dX10_law_11 : decode cX10_law 11 = .ok (.istore_n 1, 1) := by decide +kernel
theorem dX10_law_12 : decode cX10_law 12 = .ok (.aload_n 0, 1) := by decide +kernel
theorem dX10_law_13 : decode cX10_law 13 = .ok (.getfield 22, 3) := by decide +kernel
theorem dX10_law_16 : decode cX10_law 16 = .ok (.iconst 0, 1) := by decide +kernel
theorem dX10_law_17 : decode cX10_law 17 = .ok (.putfield 116, 3) := by decide +kernel
theorem dX10_law_20 : decode cX10_law 20 = .ok (.iload_n 1, 1) := by decide +kernel
theorem dX10_law_21 : decode cX10_law 21 = .ok (.ifCond .eq 5, 3) := by decide +kernel
theorem dX10_law_24 : decode cX10_law 24 = .ok (.iload_n 1, 1) := by decide +kernel
theorem dX10_law_25 : decode cX10_law 25 = .ok (.ireturn, 1) := by decide +kernel
theorem dX10_law_26 : decode cX10_law 26 = .ok (.aload_n 0, 1) := by decide +kernel
theorem dX10_law_27 : decode cX10_law 27 = .ok (.getfield 12, 3) := by decide +kernel
theorem dX10_law_30 : decode cX10_law 30 = .ok (.getfield 126, 3) := by decide +kernel
theorem dX10_law_33 : decode cX10_law 33 = .ok (.aload_n 0, 1) := by decide +kernel
theorem dX10_law_34 : decode cX10_law 34 = .ok (.getfield 29, 3) := by decide +kernel
theorem dX10_law_37 : decode cX10_law 37 = .ok (.invokevirtual 129, 3) := by decide +kernel
theorem dX10_law_40 : decode cX10_law 40 = .ok (.aload_n 0, 1) := by decide +kernel
theorem dX10_law_41 : decode cX10_law 41 = .ok (.getfield 12, 3) := by decide +kernel
theorem dX10_law_44 : decode cX10_law 44 = .ok (.getfield 126, 3) := by decide +kernel
theorem dX10_law_47 : decode cX10_law 47 = .ok (.getfield 133, 3) := by decide +kernel
theorem dX10_law_50 : decode cX10_law 50 = .ok (.ireturn, 1) := by decide +kernel
theorem dX10_grows_0 : decode cX10_grows 0 = .ok (.iload_n 1, 1) := by decide +kernel
theorem dX10_grows_1 : decode cX10_grows 1 = .ok (.invokestatic 65, 3) := by decide +kernel
theorem dX10_grows_4 : decode cX10_grows 4 = .ok (.ifCond .eq 24, 3) := by decide +kernel
theorem dX10_grows_7 : decode cX10_grows 7 = .ok (.aload_n 0, 1) := by decide +kernel
theorem dX10_grows_8 : decode cX10_grows 8 = .ok (.getfield 12, 3) := by decide +kernel
theorem dX10_grows_11 : decode cX10_grows 11 = .ok (.getfield 126, 3) := by decide +kernel
theorem dX10_grows_14 : decode cX10_grows 14 = .ok (.aload_n 0, 1) := by decide +kernel
theorem dX10_grows_15 : decode cX10_grows 15 = .ok (.getfield 12, 3) := by decide +kernel
theorem dX10_grows_18 : decode cX10_grows 18 = .ok (.getfield 79, 3) := by decide +kernel
theorem dX10_grows_21 : decode cX10_grows 21 = .ok (.iload_n 1, 1) := by decide +kernel
theorem dX10_grows_22 : decode cX10_grows 22 = .ok (.invokevirtual 136, 3) := by decide +kernel
theorem dX10_grows_25 : decode cX10_grows 25 = .ok (.goto 4, 3) := by decide +kernel
theorem dX10_grows_28 : decode cX10_grows 28 = .ok (.iconst (-1), 1) := by decide +kernel
theorem dX10_grows_29 : decode cX10_grows 29 = .ok (.ireturn, 1) := by decide +kernel
theorem dX10_learn_0 : decode cX10_learn 0 = .ok (.iload_n 1, 1) := by decide +kernel
theorem dX10_learn_1 : decode cX10_learn 1 = .ok (.iload_n 2, 1) := by decide +kernel
theorem dX10_learn_2 : decode cX10_learn 2 = .ok (.invokestatic 87, 3) := by decide +kernel
theorem dX10_learn_5 : decode cX10_learn 5 = .ok (.ifCond .eq 25, 3) := by decide +kernel
theorem dX10_learn_8 : decode cX10_learn 8 = .ok (.iload 4, 2) := by decide +kernel
theorem dX10_learn_10 : decode cX10_learn 10 = .ok (.iconst 1, 1) := by decide +kernel
theorem dX10_learn_11 : decode cX10_learn 11 = .ok (.bipush 8, 2) := by decide +kernel
theorem dX10_learn_13 : decode cX10_learn 13 = .ok (.invokestatic 69, 3) := by decide +kernel
theorem dX10_learn_16 : decode cX10_learn 16 = .ok (.ifCond .eq 14, 3) := by decide +kernel
theorem dX10_learn_19 : decode cX10_learn 19 = .ok (.iload 5, 2) := by decide +kernel
theorem dX10_learn_21 : decode cX10_learn 21 = .ok (.iconst 0, 1) := by decide +kernel
theorem dX10_learn_22 : decode cX10_learn 22 = .ok (.bipush 9, 2) := by decide +kernel
theorem dX10_learn_24 : decode cX10_learn 24 = .ok (.invokestatic 69, 3) := by decide +kernel
theorem dX10_learn_27 : decode cX10_learn 27 = .ok (.ifCond .ne 5, 3) := by decide +kernel
theorem dX10_learn_30 : decode cX10_learn 30 = .ok (.iconst (-1), 1) := by decide +kernel
theorem dX10_learn_31 : decode cX10_learn 31 = .ok (.ireturn, 1) := by decide +kernel
theorem dX10_learn_32 : decode cX10_learn 32 = .ok (.aload_n 0, 1) := by decide +kernel
theorem dX10_learn_33 : decode cX10_learn 33 = .ok (.getfield 43, 3) := by decide +kernel
theorem dX10_learn_36 : decode cX10_learn 36 = .ok (.iload_n 1, 1) := by decide +kernel
theorem dX10_learn_37 : decode cX10_learn 37 = .ok (.aaload, 1) := by decide +kernel
theorem dX10_learn_38 : decode cX10_learn 38 = .ok (.astore 6, 2) := by decide +kernel
theorem dX10_learn_40 : decode cX10_learn 40 = .ok (.aload 6, 2) := by decide +kernel
theorem dX10_learn_42 : decode cX10_learn 42 = .ok (.iload_n 2, 1) := by decide +kernel
theorem dX10_learn_43 : decode cX10_learn 43 = .ok (.iload_n 3, 1) := by decide +kernel
theorem dX10_learn_44 : decode cX10_learn 44 = .ok (.iconst 2, 1) := by decide +kernel
theorem dX10_learn_45 : decode cX10_learn 45 = .ok (.iload 4, 2) := by decide +kernel
theorem dX10_learn_47 : decode cX10_learn 47 = .ok (.imul, 1) := by decide +kernel
theorem dX10_learn_48 : decode cX10_learn 48 = .ok (.invokevirtual 90, 3) := by decide +kernel
theorem dX10_learn_51 : decode cX10_learn 51 = .ok (.istore 7, 2) := by decide +kernel
theorem dX10_learn_53 : decode cX10_learn 53 = .ok (.iload 7, 2) := by decide +kernel
theorem dX10_learn_55 : decode cX10_learn 55 = .ok (.ifCond .eq 6, 3) := by decide +kernel
theorem dX10_learn_58 : decode cX10_learn 58 = .ok (.iload 7, 2) := by decide +kernel
theorem dX10_learn_60 : decode cX10_learn 60 = .ok (.ireturn, 1) := by decide +kernel
theorem dX10_learn_61 : decode cX10_learn 61 = .ok (.iconst 0, 1) := by decide +kernel
theorem dX10_learn_62 : decode cX10_learn 62 = .ok (.istore 8, 2) := by decide +kernel
theorem dX10_learn_64 : decode cX10_learn 64 = .ok (.iload 8, 2) := by decide +kernel
theorem dX10_learn_66 : decode cX10_learn 66 = .ok (.iload 4, 2) := by decide +kernel
theorem dX10_learn_68 : decode cX10_learn 68 = .ok (.if_icmp .ge 30, 3) := by decide +kernel
theorem dX10_learn_71 : decode cX10_learn 71 = .ok (.aload 6, 2) := by decide +kernel
theorem dX10_learn_73 : decode cX10_learn 73 = .ok (.getfield 94, 3) := by decide +kernel
theorem dX10_learn_76 : decode cX10_learn 76 = .ok (.iload_n 3, 1) := by decide +kernel
theorem dX10_learn_77 : decode cX10_learn 77 = .ok (.iconst 2, 1) := by decide +kernel
theorem dX10_learn_78 : decode cX10_learn 78 = .ok (.iload 8, 2) := by decide +kernel
theorem dX10_learn_80 : decode cX10_learn 80 = .ok (.imul, 1) := by decide +kernel
theorem dX10_learn_81 : decode cX10_learn 81 = .ok (.iadd, 1) := by decide +kernel
theorem dX10_learn_82 : decode cX10_learn 82 = .ok (.iaload, 1) := by decide +kernel
theorem dX10_learn_83 : decode cX10_learn 83 = .ok (.invokestatic 65, 3) := by decide +kernel
theorem dX10_learn_86 : decode cX10_learn 86 = .ok (.ifCond .ne 6, 3) := by decide +kernel
theorem dX10_learn_89 : decode cX10_learn 89 = .ok (.bipush (-2), 2) := by decide +kernel
theorem dX10_learn_91 : decode cX10_learn 91 = .ok (.ireturn, 1) := by decide +kernel
theorem dX10_learn_92 : decode cX10_learn 92 = .ok (.iinc 8 1, 3) := by decide +kernel
theorem dX10_learn_95 : decode cX10_learn 95 = .ok (.goto (-31), 3) := by decide +kernel
theorem dX10_learn_98 : decode cX10_learn 98 = .ok (.iconst 0, 1) := by decide +kernel
theorem dX10_learn_99 : decode cX10_learn 99 = .ok (.istore 8, 2) := by decide +kernel
theorem dX10_learn_101 : decode cX10_learn 101 = .ok (.iconst 1, 1) := by decide +kernel
theorem dX10_learn_102 : decode cX10_learn 102 = .ok (.istore 9, 2) := by decide +kernel
theorem dX10_learn_104 : decode cX10_learn 104 = .ok (.iload 9, 2) := by decide +kernel
theorem dX10_learn_106 : decode cX10_learn 106 = .ok (.iconst 5, 1) := by decide +kernel
theorem dX10_learn_107 : decode cX10_learn 107 = .ok (.if_icmp .gt 36, 3) := by decide +kernel
theorem dX10_learn_110 : decode cX10_learn 110 = .ok (.aload_n 0, 1) := by decide +kernel
theorem dX10_learn_111 : decode cX10_learn 111 = .ok (.aload 6, 2) := by decide +kernel
theorem dX10_learn_113 : decode cX10_learn 113 = .ok (.iload_n 3, 1) := by decide +kernel
theorem dX10_learn_114 : decode cX10_learn 114 = .ok (.iload 4, 2) := by decide +kernel
theorem dX10_learn_116 : decode cX10_learn 116 = .ok (.iload 5, 2) := by decide +kernel
theorem dX10_learn_118 : decode cX10_learn 118 = .ok (.iload 9, 2) := by decide +kernel
theorem dX10_learn_120 : decode cX10_learn 120 = .ok (.invokevirtual 140, 3) := by decide +kernel
theorem dX10_learn_123 : decode cX10_learn 123 = .ok (.ifCond .eq 14, 3) := by decide +kernel
theorem dX10_learn_126 : decode cX10_learn 126 = .ok (.iload 8, 2) := by decide +kernel
theorem dX10_learn_128 : decode cX10_learn 128 = .ok (.iconst 1, 1) := by decide +kernel
theorem dX10_learn_129 : decode cX10_learn 129 = .ok (.iload 9, 2) := by decide +kernel
theorem dX10_learn_131 : decode cX10_learn 131 = .ok (.iconst 1, 1) := by decide +kernel
theorem dX10_learn_132 : decode cX10_learn 132 = .ok (.isub, 1) := by decide +kernel
theorem dX10_learn_133 : decode cX10_learn 133 = .ok (.ishl, 1) := by decide +kernel
theorem dX10_learn_134 : decode cX10_learn 134 = .ok (.ior, 1) := by decide +kernel
theorem dX10_learn_135 : decode cX10_learn 135 = .ok (.istore 8, 2) := by decide +kernel
theorem dX10_learn_137 : decode cX10_learn 137 = .ok (.iinc 9 1, 3) := by decide +kernel
theorem dX10_learn_140 : decode cX10_learn 140 = .ok (.goto (-36), 3) := by decide +kernel
theorem dX10_learn_143 : decode cX10_learn 143 = .ok (.iload 8, 2) := by decide +kernel
theorem dX10_learn_145 : decode cX10_learn 145 = .ok (.ifCond .ne 8, 3) := by decide +kernel
theorem dX10_learn_148 : decode cX10_learn 148 = .ok (.bipush (-4), 2) := by decide +kernel
theorem dX10_learn_150 : decode cX10_learn 150 = .ok (.goto 5, 3) := by decide +kernel
theorem dX10_learn_153 : decode cX10_learn 153 = .ok (.iload 8, 2) := by decide +kernel
theorem dX10_learn_155 : decode cX10_learn 155 = .ok (.ireturn, 1) := by decide +kernel
theorem dX10_make_0 : decode cX10_make 0 = .ok (.iload_n 1, 1) := by decide +kernel
theorem dX10_make_1 : decode cX10_make 1 = .ok (.invokestatic 144, 3) := by decide +kernel
theorem dX10_make_4 : decode cX10_make 4 = .ok (.ifCond .ne 5, 3) := by decide +kernel
theorem dX10_make_7 : decode cX10_make 7 = .ok (.iconst (-1), 1) := by decide +kernel
theorem dX10_make_8 : decode cX10_make 8 = .ok (.ireturn, 1) := by decide +kernel
theorem dX10_make_9 : decode cX10_make 9 = .ok (.aload_n 0, 1) := by decide +kernel
theorem dX10_make_10 : decode cX10_make 10 = .ok (.getfield 12, 3) := by decide +kernel
theorem dX10_make_13 : decode cX10_make 13 = .ok (.getfield 126, 3) := by decide +kernel
theorem dX10_make_16 : decode cX10_make 16 = .ok (.getfield 133, 3) := by decide +kernel
theorem dX10_make_19 : decode cX10_make 19 = .ok (.ifCond .ne 6, 3) := by decide +kernel
theorem dX10_make_22 : decode cX10_make 22 = .ok (.bipush (-2), 2) := by decide +kernel
theorem dX10_make_24 : decode cX10_make 24 = .ok (.ireturn, 1) := by decide +kernel
theorem dX10_make_25 : decode cX10_make 25 = .ok (.aload_n 0, 1) := by decide +kernel
theorem dX10_make_26 : decode cX10_make 26 = .ok (.getfield 12, 3) := by decide +kernel
theorem dX10_make_29 : decode cX10_make 29 = .ok (.getfield 147, 3) := by decide +kernel
theorem dX10_make_32 : decode cX10_make 32 = .ok (.iload_n 1, 1) := by decide +kernel
theorem dX10_make_33 : decode cX10_make 33 = .ok (.aaload, 1) := by decide +kernel
theorem dX10_make_34 : decode cX10_make 34 = .ok (.aload_n 0, 1) := by decide +kernel
theorem dX10_make_35 : decode cX10_make 35 = .ok (.getfield 12, 3) := by decide +kernel
theorem dX10_make_38 : decode cX10_make 38 = .ok (.getfield 79, 3) := by decide +kernel
theorem dX10_make_41 : decode cX10_make 41 = .ok (.aload_n 0, 1) := by decide +kernel
theorem dX10_make_42 : decode cX10_make 42 = .ok (.getfield 12, 3) := by decide +kernel
theorem dX10_make_45 : decode cX10_make 45 = .ok (.getfield 126, 3) := by decide +kernel
theorem dX10_make_48 : decode cX10_make 48 = .ok (.invokevirtual 151, 3) := by decide +kernel
theorem dX10_make_51 : decode cX10_make 51 = .ok (.aload_n 0, 1) := by decide +kernel
theorem dX10_make_52 : decode cX10_make 52 = .ok (.getfield 12, 3) := by decide +kernel
theorem dX10_make_55 : decode cX10_make 55 = .ok (.getfield 157, 3) := by decide +kernel
theorem dX10_make_58 : decode cX10_make 58 = .ok (.iload_n 1, 1) := by decide +kernel
theorem dX10_make_59 : decode cX10_make 59 = .ok (.iconst 0, 1) := by decide +kernel
theorem dX10_make_60 : decode cX10_make 60 = .ok (.invokevirtual 161, 3) := by decide +kernel
theorem dX10_make_63 : decode cX10_make 63 = .ok (.aload_n 0, 1) := by decide +kernel
theorem dX10_make_64 : decode cX10_make 64 = .ok (.getfield 54, 3) := by decide +kernel
theorem dX10_make_67 : decode cX10_make 67 = .ok (.iload_n 1, 1) := by decide +kernel
theorem dX10_make_68 : decode cX10_make 68 = .ok (.iconst 0, 1) := by decide +kernel
theorem dX10_make_69 : decode cX10_make 69 = .ok (.bastore, 1) := by decide +kernel
theorem dX10_make_70 : decode cX10_make 70 = .ok (.aload_n 0, 1) := by decide +kernel
theorem dX10_make_71 : decode cX10_make 71 = .ok (.getfield 12, 3) := by decide +kernel
theorem dX10_make_74 : decode cX10_make 74 = .ok (.getfield 147, 3) := by decide +kernel
theorem dX10_make_77 : decode cX10_make 77 = .ok (.iload_n 1, 1) := by decide +kernel
theorem dX10_make_78 : decode cX10_make 78 = .ok (.aaload, 1) := by decide +kernel
theorem dX10_make_79 : decode cX10_make 79 = .ok (.getfield 167, 3) := by decide +kernel
theorem dX10_make_82 : decode cX10_make 82 = .ok (.ireturn, 1) := by decide +kernel
theorem dX10_truth_0 : decode cX10_truth 0 = .ok (.aload_n 0, 1) := by decide +kernel
theorem dX10_truth_1 : decode cX10_truth 1 = .ok (.iload_n 1, 1) := by decide +kernel
theorem dX10_truth_2 : decode cX10_truth 2 = .ok (.iload_n 2, 1) := by decide +kernel
theorem dX10_truth_3 : decode cX10_truth 3 = .ok (.invokevirtual 170, 3) := by decide +kernel
theorem dX10_truth_6 : decode cX10_truth 6 = .ok (.ifCond .ne 5, 3) := by decide +kernel
theorem dX10_truth_9 : decode cX10_truth 9 = .ok (.iconst (-1), 1) := by decide +kernel
theorem dX10_truth_10 : decode cX10_truth 10 = .ok (.ireturn, 1) := by decide +kernel
theorem dX10_truth_11 : decode cX10_truth 11 = .ok (.aload_n 0, 1) := by decide +kernel
theorem dX10_truth_12 : decode cX10_truth 12 = .ok (.getfield 12, 3) := by decide +kernel
theorem dX10_truth_15 : decode cX10_truth 15 = .ok (.getfield 147, 3) := by decide +kernel
theorem dX10_truth_18 : decode cX10_truth 18 = .ok (.iload_n 1, 1) := by decide +kernel
theorem dX10_truth_19 : decode cX10_truth 19 = .ok (.aaload, 1) := by decide +kernel
theorem dX10_truth_20 : decode cX10_truth 20 = .ok (.astore_n 3, 1) := by decide +kernel
theorem dX10_truth_21 : decode cX10_truth 21 = .ok (.aload_n 3, 1) := by decide +kernel
theorem dX10_truth_22 : decode cX10_truth 22 = .ok (.getfield 173, 3) := by decide +kernel
theorem dX10_truth_25 : decode cX10_truth 25 = .ok (.ifCond .ne 6, 3) := by decide +kernel
theorem dX10_truth_28 : decode cX10_truth 28 = .ok (.bipush (-2), 2) := by decide +kernel
theorem dX10_truth_30 : decode cX10_truth 30 = .ok (.ireturn, 1) := by decide +kernel
theorem dX10_truth_31 : decode cX10_truth 31 = .ok (.aload_n 3, 1) := by decide +kernel
theorem dX10_truth_32 : decode cX10_truth 32 = .ok (.iload_n 2, 1) := by decide +kernel
theorem dX10_truth_33 : decode cX10_truth 33 = .ok (.invokevirtual 177, 3) := by decide +kernel
theorem dX10_truth_36 : decode cX10_truth 36 = .ok (.ifCond .eq 12, 3) := by decide +kernel
theorem dX10_truth_39 : decode cX10_truth 39 = .ok (.aload_n 3, 1) := by decide +kernel
theorem dX10_truth_40 : decode cX10_truth 40 = .ok (.getfield 180, 3) := by decide +kernel
theorem dX10_truth_43 : decode cX10_truth 43 = .ok (.iload_n 2, 1) := by decide +kernel
theorem dX10_truth_44 : decode cX10_truth 44 = .ok (.iaload, 1) := by decide +kernel
theorem dX10_truth_45 : decode cX10_truth 45 = .ok (.goto 5, 3) := by decide +kernel
theorem dX10_truth_48 : decode cX10_truth 48 = .ok (.bipush (-12), 2) := by decide +kernel
theorem dX10_truth_50 : decode cX10_truth 50 = .ok (.ireturn, 1) := by decide +kernel
theorem dX10_put_0 : decode cX10_put 0 = .ok (.iload_n 1, 1) := by decide +kernel
theorem dX10_put_1 : decode cX10_put 1 = .ok (.invokestatic 144, 3) := by decide +kernel
theorem dX10_put_4 : decode cX10_put 4 = .ok (.ifCond .eq 12, 3) := by decide +kernel
theorem dX10_put_7 : decode cX10_put 7 = .ok (.iload_n 2, 1) := by decide +kernel
theorem dX10_put_8 : decode cX10_put 8 = .ok (.iconst 0, 1) := by decide +kernel
theorem dX10_put_9 : decode cX10_put 9 = .ok (.iconst 2, 1) := by decide +kernel
theorem dX10_put_10 : decode cX10_put 10 = .ok (.invokestatic 69, 3) := by decide +kernel
theorem dX10_put_13 : decode cX10_put 13 = .ok (.ifCond .ne 5, 3) := by decide +kernel
theorem dX10_put_16 : decode cX10_put 16 = .ok (.iconst (-1), 1) := by decide +kernel
theorem dX10_put_17 : decode cX10_put 17 = .ok (.ireturn, 1) := by decide +kernel
theorem dX10_put_18 : decode cX10_put 18 = .ok (.iload_n 2, 1) := by decide +kernel
theorem dX10_put_19 : decode cX10_put 19 = .ok (.ifCond .ne 17, 3) := by decide +kernel
theorem dX10_put_22 : decode cX10_put 22 = .ok (.iload_n 3, 1) := by decide +kernel
theorem dX10_put_23 : decode cX10_put 23 = .ok (.bipush (-50), 2) := by decide +kernel
theorem dX10_put_25 : decode cX10_put 25 = .ok (.bipush 50, 2) := by decide +kernel
theorem dX10_put_27 : decode cX10_put 27 = .ok (.invokestatic 69, 3) := by decide +kernel
theorem dX10_put_30 : decode cX10_put 30 = .ok (.ifCond .ne 12, 3) := by decide +kernel
theorem dX10_put_33 : decode cX10_put 33 = .ok (.goto 7, 3) := by decide +kernel
theorem dX10_put_36 : decode cX10_put 36 = .ok (.iload_n 3, 1) := by decide +kernel
theorem dX10_put_37 : decode cX10_put 37 = .ok (.ifCond .eq 5, 3) := by decide +kernel
theorem dX10_put_40 : decode cX10_put 40 = .ok (.iconst (-1), 1) := by decide +kernel
theorem dX10_put_41 : decode cX10_put 41 = .ok (.ireturn, 1) := by decide +kernel
theorem dX10_put_42 : decode cX10_put 42 = .ok (.aload_n 0, 1) := by decide +kernel
theorem dX10_put_43 : decode cX10_put 43 = .ok (.getfield 12, 3) := by decide +kernel
theorem dX10_put_46 : decode cX10_put 46 = .ok (.getfield 147, 3) := by decide +kernel
theorem dX10_put_49 : decode cX10_put 49 = .ok (.iload_n 1, 1) := by decide +kernel
theorem dX10_put_50 : decode cX10_put 50 = .ok (.aaload, 1) := by decide +kernel
theorem dX10_put_51 : decode cX10_put 51 = .ok (.astore 4, 2) := by decide +kernel
theorem dX10_put_53 : decode cX10_put 53 = .ok (.aload 4, 2) := by decide +kernel
theorem dX10_put_55 : decode cX10_put 55 = .ok (.getfield 167, 3) := by decide +kernel
theorem dX10_put_58 : decode cX10_put 58 = .ok (.bipush 12, 2) := by decide +kernel
theorem dX10_put_60 : decode cX10_put 60 = .ok (.if_icmp .ne 6, 3) := by decide +kernel
theorem dX10_put_63 : decode cX10_put 63 = .ok (.bipush (-3), 2) := by decide +kernel
theorem dX10_put_65 : decode cX10_put 65 = .ok (.ireturn, 1) := by decide +kernel
theorem dX10_put_66 : decode cX10_put 66 = .ok (.aload 4, 2) := by decide +kernel
theorem dX10_put_68 : decode cX10_put 68 = .ok (.iload_n 2, 1) := by decide +kernel
theorem dX10_put_69 : decode cX10_put 69 = .ok (.iload_n 3, 1) := by decide +kernel
theorem dX10_put_70 : decode cX10_put 70 = .ok (.iconst 0, 1) := by decide +kernel
theorem dX10_put_71 : decode cX10_put 71 = .ok (.invokevirtual 183, 3) := by decide +kernel
theorem dX10_put_74 : decode cX10_put 74 = .ok (.aload 4, 2) := by decide +kernel
theorem dX10_put_76 : decode cX10_put 76 = .ok (.iconst 0, 1) := by decide +kernel
theorem dX10_put_77 : decode cX10_put 77 = .ok (.putfield 173, 3) := by decide +kernel
theorem dX10_put_80 : decode cX10_put 80 = .ok (.aload_n 0, 1) := by decide +kernel
theorem dX10_put_81 : decode cX10_put 81 = .ok (.getfield 54, 3) := by decide +kernel
theorem dX10_put_84 : decode cX10_put 84 = .ok (.iload_n 1, 1) := by decide +kernel
theorem dX10_put_85 : decode cX10_put 85 = .ok (.iconst 0, 1) := by decide +kernel
theorem dX10_put_86 : decode cX10_put 86 = .ok (.bastore, 1) := by decide +kernel
theorem dX10_put_87 : decode cX10_put 87 = .ok (.aload 4, 2) := by decide +kernel
theorem dX10_put_89 : decode cX10_put 89 = .ok (.getfield 167, 3) := by decide +kernel
theorem dX10_put_92 : decode cX10_put 92 = .ok (.iconst 1, 1) := by decide +kernel
theorem dX10_put_93 : decode cX10_put 93 = .ok (.isub, 1) := by decide +kernel
theorem dX10_put_94 : decode cX10_put 94 = .ok (.ireturn, 1) := by decide +kernel
theorem dX10_cut_0 : decode cX10_cut 0 = .ok (.aload_n 0, 1) := by decide +kernel
theorem dX10_cut_1 : decode cX10_cut 1 = .ok (.iload_n 1, 1) := by decide +kernel
theorem dX10_cut_2 : decode cX10_cut 2 = .ok (.iload_n 2, 1) := by decide +kernel
theorem dX10_cut_3 : decode cX10_cut 3 = .ok (.invokevirtual 170, 3) := by decide +kernel
theorem dX10_cut_6 : decode cX10_cut 6 = .ok (.ifCond .ne 5, 3) := by decide +kernel
theorem dX10_cut_9 : decode cX10_cut 9 = .ok (.iconst (-1), 1) := by decide +kernel
theorem dX10_cut_10 : decode cX10_cut 10 = .ok (.ireturn, 1) := by decide +kernel
theorem dX10_cut_11 : decode cX10_cut 11 = .ok (.aload_n 0, 1) := by decide +kernel
theorem dX10_cut_12 : decode cX10_cut 12 = .ok (.getfield 12, 3) := by decide +kernel
theorem dX10_cut_15 : decode cX10_cut 15 = .ok (.getfield 147, 3) := by decide +kernel
theorem dX10_cut_18 : decode cX10_cut 18 = .ok (.iload_n 1, 1) := by decide +kernel
theorem dX10_cut_19 : decode cX10_cut 19 = .ok (.aaload, 1) := by decide +kernel
theorem dX10_cut_20 : decode cX10_cut 20 = .ok (.iload_n 2, 1) := by decide +kernel
theorem dX10_cut_21 : decode cX10_cut 21 = .ok (.invokevirtual 187, 3) := by decide +kernel
theorem dX10_cut_24 : decode cX10_cut 24 = .ok (.aload_n 0, 1) := by decide +kernel
theorem dX10_cut_25 : decode cX10_cut 25 = .ok (.getfield 12, 3) := by decide +kernel
theorem dX10_cut_28 : decode cX10_cut 28 = .ok (.getfield 157, 3) := by decide +kernel
theorem dX10_cut_31 : decode cX10_cut 31 = .ok (.iload_n 1, 1) := by decide +kernel
theorem dX10_cut_32 : decode cX10_cut 32 = .ok (.iload_n 2, 1) := by decide +kernel
theorem dX10_cut_33 : decode cX10_cut 33 = .ok (.invokevirtual 161, 3) := by decide +kernel
theorem dX10_cut_36 : decode cX10_cut 36 = .ok (.aload_n 0, 1) := by decide +kernel
theorem dX10_cut_37 : decode cX10_cut 37 = .ok (.getfield 54, 3) := by decide +kernel
theorem dX10_cut_40 : decode cX10_cut 40 = .ok (.iload_n 1, 1) := by decide +kernel
theorem dX10_cut_41 : decode cX10_cut 41 = .ok (.iconst 0, 1) := by decide +kernel
theorem dX10_cut_42 : decode cX10_cut 42 = .ok (.bastore, 1) := by decide +kernel
theorem dX10_cut_43 : decode cX10_cut 43 = .ok (.iload_n 2, 1) := by decide +kernel
theorem dX10_cut_44 : decode cX10_cut 44 = .ok (.ireturn, 1) := by decide +kernel
theorem dX10_thing_0 : decode cX10_thing 0 = .ok (.aload_n 0, 1) := by decide +kernel
theorem dX10_thing_1 : decode cX10_thing 1 = .ok (.iload_n 1, 1) := by decide +kernel
theorem dX10_thing_2 : decode cX10_thing 2 = .ok (.iload_n 2, 1) := by decide +kernel
theorem dX10_thing_3 : decode cX10_thing 3 = .ok (.invokevirtual 170, 3) := by decide +kernel
theorem dX10_thing_6 : decode cX10_thing 6 = .ok (.ifCond .eq 12, 3) := by decide +kernel
theorem dX10_thing_9 : decode cX10_thing 9 = .ok (.iload_n 3, 1) := by decide +kernel
theorem dX10_thing_10 : decode cX10_thing 10 = .ok (.iconst 0, 1) := by decide +kernel
theorem dX10_thing_11 : decode cX10_thing 11 = .ok (.iconst 1, 1) := by decide +kernel
theorem dX10_thing_12 : decode cX10_thing 12 = .ok (.invokestatic 69, 3) := by decide +kernel
theorem dX10_thing_15 : decode cX10_thing 15 = .ok (.ifCond .ne 7, 3) := by decide +kernel
theorem dX10_thing_18 : decode cX10_thing 18 = .ok (.sipush (-1001), 3) := by decide +kernel
theorem dX10_thing_21 : decode cX10_thing 21 = .ok (.ireturn, 1) := by decide +kernel
theorem dX10_thing_22 : decode cX10_thing 22 = .ok (.aload_n 0, 1) := by decide +kernel
theorem dX10_thing_23 : decode cX10_thing 23 = .ok (.getfield 12, 3) := by decide +kernel
theorem dX10_thing_26 : decode cX10_thing 26 = .ok (.getfield 147, 3) := by decide +kernel
theorem dX10_thing_29 : decode cX10_thing 29 = .ok (.iload_n 1, 1) := by decide +kernel
theorem dX10_thing_30 : decode cX10_thing 30 = .ok (.aaload, 1) := by decide +kernel
theorem dX10_thing_31 : decode cX10_thing 31 = .ok (.astore 4, 2) := by decide +kernel
theorem dX10_thing_33 : decode cX10_thing 33 = .ok (.iload_n 3, 1) := by decide +kernel
theorem dX10_thing_34 : decode cX10_thing 34 = .ok (.ifCond .ne 11, 3) := by decide +kernel
theorem dX10_thing_37 : decode cX10_thing 37 = .ok (.aload 4, 2) := by decide +kernel
theorem dX10_thing_39 : decode cX10_thing 39 = .ok (.getfield 191, 3) := by decide +kernel
theorem dX10_thing_42 : decode cX10_thing 42 = .ok (.iload_n 2, 1) := by decide +kernel
theorem dX10_thing_43 : decode cX10_thing 43 = .ok (.iaload, 1) := by decide +kernel
theorem dX10_thing_44 : decode cX10_thing 44 = .ok (.ireturn, 1) := by decide +kernel
theorem dX10_thing_45 : decode cX10_thing 45 = .ok (.aload 4, 2) := by decide +kernel
theorem dX10_thing_47 : decode cX10_thing 47 = .ok (.getfield 191, 3) := by decide +kernel
theorem dX10_thing_50 : decode cX10_thing 50 = .ok (.iload_n 2, 1) := by decide +kernel
theorem dX10_thing_51 : decode cX10_thing 51 = .ok (.iaload, 1) := by decide +kernel
theorem dX10_thing_52 : decode cX10_thing 52 = .ok (.ifCond .ne 13, 3) := by decide +kernel
theorem dX10_thing_55 : decode cX10_thing 55 = .ok (.aload 4, 2) := by decide +kernel
theorem dX10_thing_57 : decode cX10_thing 57 = .ok (.getfield 194, 3) := by decide +kernel
theorem dX10_thing_60 : decode cX10_thing 60 = .ok (.iload_n 2, 1) := by decide +kernel
theorem dX10_thing_61 : decode cX10_thing 61 = .ok (.iaload, 1) := by decide +kernel
theorem dX10_thing_62 : decode cX10_thing 62 = .ok (.goto 6, 3) := by decide +kernel
theorem dX10_thing_65 : decode cX10_thing 65 = .ok (.sipush (-1012), 3) := by decide +kernel
theorem dX10_thing_68 : decode cX10_thing 68 = .ok (.ireturn, 1) := by decide +kernel
theorem dX10_most_0 : decode cX10_most 0 = .ok (.iload_n 1, 1) := by decide +kernel
theorem dX10_most_1 : decode cX10_most 1 = .ok (.invokestatic 144, 3) := by decide +kernel
theorem dX10_most_4 : decode cX10_most 4 = .ok (.ifCond .eq 12, 3) := by decide +kernel
theorem dX10_most_7 : decode cX10_most 7 = .ok (.iload_n 2, 1) := by decide +kernel
theorem dX10_most_8 : decode cX10_most 8 = .ok (.iconst 1, 1) := by decide +kernel
theorem dX10_most_9 : decode cX10_most 9 = .ok (.iconst 4, 1) := by decide +kernel
theorem dX10_most_10 : decode cX10_most 10 = .ok (.invokestatic 69, 3) := by decide +kernel
theorem dX10_most_13 : decode cX10_most 13 = .ok (.ifCond .ne 5, 3) := by decide +kernel
theorem dX10_most_16 : decode cX10_most 16 = .ok (.iconst (-1), 1) := by decide +kernel
theorem dX10_most_17 : decode cX10_most 17 = .ok (.ireturn, 1) := by decide +kernel
theorem dX10_most_18 : decode cX10_most 18 = .ok (.aload_n 0, 1) := by decide +kernel
theorem dX10_most_19 : decode cX10_most 19 = .ok (.getfield 12, 3) := by decide +kernel
theorem dX10_most_22 : decode cX10_most 22 = .ok (.getfield 147, 3) := by decide +kernel
theorem dX10_most_25 : decode cX10_most 25 = .ok (.iload_n 1, 1) := by decide +kernel
theorem dX10_most_26 : decode cX10_most 26 = .ok (.aaload, 1) := by decide +kernel
theorem dX10_most_27 : decode cX10_most 27 = .ok (.getfield 197, 3) := by decide +kernel
theorem dX10_most_30 : decode cX10_most 30 = .ok (.istore_n 3, 1) := by decide +kernel
theorem dX10_most_31 : decode cX10_most 31 = .ok (.aload_n 0, 1) := by decide +kernel
theorem dX10_most_32 : decode cX10_most 32 = .ok (.getfield 12, 3) := by decide +kernel
theorem dX10_most_35 : decode cX10_most 35 = .ok (.getfield 147, 3) := by decide +kernel
theorem dX10_most_38 : decode cX10_most 38 = .ok (.iload_n 1, 1) := by decide +kernel
theorem dX10_most_39 : decode cX10_most 39 = .ok (.aaload, 1) := by decide +kernel
theorem dX10_most_40 : decode cX10_most 40 = .ok (.iload_n 2, 1) := by decide +kernel
theorem dX10_most_41 : decode cX10_most 41 = .ok (.putfield 197, 3) := by decide +kernel
theorem dX10_most_44 : decode cX10_most 44 = .ok (.aload_n 0, 1) := by decide +kernel
theorem dX10_most_45 : decode cX10_most 45 = .ok (.getfield 54, 3) := by decide +kernel
theorem dX10_most_48 : decode cX10_most 48 = .ok (.iload_n 1, 1) := by decide +kernel
theorem dX10_most_49 : decode cX10_most 49 = .ok (.iconst 0, 1) := by decide +kernel
theorem dX10_most_50 : decode cX10_most 50 = .ok (.bastore, 1) := by decide +kernel
theorem dX10_most_51 : decode cX10_most 51 = .ok (.iload_n 3, 1) := by decide +kernel
theorem dX10_most_52 : decode cX10_most 52 = .ok (.ireturn, 1) := by decide +kernel
theorem dX10_stretch_0 : decode cX10_stretch 0 = .ok (.aload_n 0, 1) := by decide +kernel
theorem dX10_stretch_1 : decode cX10_stretch 1 = .ok (.iload_n 1, 1) := by decide +kernel
theorem dX10_stretch_2 : decode cX10_stretch 2 = .ok (.iload_n 3, 1) := by decide +kernel
theorem dX10_stretch_3 : decode cX10_stretch 3 = .ok (.invokevirtual 170, 3) := by decide +kernel
theorem dX10_stretch_6 : decode cX10_stretch 6 = .ok (.ifCond .eq 28, 3) := by decide +kernel
theorem dX10_stretch_9 : decode cX10_stretch 9 = .ok (.aload_n 0, 1) := by decide +kernel
theorem dX10_stretch_10 : decode cX10_stretch 10 = .ok (.iload_n 1, 1) := by decide +kernel
theorem dX10_stretch_11 : decode cX10_stretch 11 = .ok (.iload 4, 2) := by decide +kernel
theorem dX10_stretch_13 : decode cX10_stretch 13 = .ok (.invokevirtual 170, 3) := by decide +kernel
theorem dX10_stretch_16 : decode cX10_stretch 16 = .ok (.ifCond .eq 18, 3) := by decide +kernel
theorem dX10_stretch_19 : decode cX10_stretch 19 = .ok (.iload_n 3, 1) := by decide +kernel
theorem dX10_stretch_20 : decode cX10_stretch 20 = .ok (.iload 4, 2) := by decide +kernel
theorem dX10_stretch_22 : decode cX10_stretch 22 = .ok (.if_icmp .gt 12, 3) := by decide +kernel
theorem dX10_stretch_25 : decode cX10_stretch 25 = .ok (.iload_n 2, 1) := by decide +kernel
theorem dX10_stretch_26 : decode cX10_stretch 26 = .ok (.iload 5, 2) := by decide +kernel
theorem dX10_stretch_28 : decode cX10_stretch 28 = .ok (.invokestatic 200, 3) := by decide +kernel
theorem dX10_stretch_31 : decode cX10_stretch 31 = .ok (.ifCond .ne 5, 3) := by decide +kernel
theorem dX10_stretch_34 : decode cX10_stretch 34 = .ok (.iconst (-1), 1) := by decide +kernel
theorem dX10_stretch_35 : decode cX10_stretch 35 = .ok (.ireturn, 1) := by decide +kernel
theorem dX10_stretch_36 : decode cX10_stretch 36 = .ok (.aload_n 0, 1) := by decide +kernel
theorem dX10_stretch_37 : decode cX10_stretch 37 = .ok (.getfield 12, 3) := by decide +kernel
theorem dX10_stretch_40 : decode cX10_stretch 40 = .ok (.getfield 147, 3) := by decide +kernel
theorem dX10_stretch_43 : decode cX10_stretch 43 = .ok (.iload_n 1, 1) := by decide +kernel
theorem dX10_stretch_44 : decode cX10_stretch 44 = .ok (.aaload, 1) := by decide +kernel
theorem dX10_stretch_45 : decode cX10_stretch 45 = .ok (.astore 6, 2) := by decide +kernel
theorem dX10_stretch_47 : decode cX10_stretch 47 = .ok (.aload 6, 2) := by decide +kernel
theorem dX10_stretch_49 : decode cX10_stretch 49 = .ok (.iload_n 3, 1) := by decide +kernel
theorem dX10_stretch_50 : decode cX10_stretch 50 = .ok (.invokevirtual 177, 3) := by decide +kernel
theorem dX10_stretch_53 : decode cX10_stretch 53 = .ok (.ifCond .eq 13, 3) := by decide +kernel
theorem dX10_stretch_56 : decode cX10_stretch 56 = .ok (.aload 6, 2) := by decide +kernel
theorem dX10_stretch_58 : decode cX10_stretch 58 = .ok (.iload 4, 2) := by decide +kernel
theorem dX10_stretch_60 : decode cX10_stretch 60 = .ok (.invokevirtual 177, 3) := by decide +kernel
theorem dX10_stretch_63 : decode cX10_stretch 63 = .ok (.ifCond .ne 6, 3) := by decide +kernel
theorem dX10_stretch_66 : decode cX10_stretch 66 = .ok (.bipush (-12), 2) := by decide +kernel
theorem dX10_stretch_68 : decode cX10_stretch 68 = .ok (.ireturn, 1) := by decide +kernel
theorem dX10_stretch_69 : decode cX10_stretch 69 = .ok (.aload 6, 2) := by decide +kernel
theorem dX10_stretch_71 : decode cX10_stretch 71 = .ok (.getfield 203, 3) := by decide +kernel
theorem dX10_stretch_74 : decode cX10_stretch 74 = .ok (.bipush 6, 2) := by decide +kernel
theorem dX10_stretch_76 : decode cX10_stretch 76 = .ok (.if_icmp .ne 6, 3) := by decide +kernel
theorem dX10_stretch_79 : decode cX10_stretch 79 = .ok (.bipush (-3), 2) := by decide +kernel
theorem dX10_stretch_81 : decode cX10_stretch 81 = .ok (.ireturn, 1) := by decide +kernel
theorem dX10_stretch_82 : decode cX10_stretch 82 = .ok (.aload 6, 2) := by decide +kernel
theorem dX10_stretch_84 : decode cX10_stretch 84 = .ok (.iload_n 2, 1) := by decide +kernel
theorem dX10_stretch_85 : decode cX10_stretch 85 = .ok (.iload_n 3, 1) := by decide +kernel
theorem dX10_stretch_86 : decode cX10_stretch 86 = .ok (.iload 4, 2) := by decide +kernel
theorem dX10_stretch_88 : decode cX10_stretch 88 = .ok (.iload 5, 2) := by decide +kernel
theorem dX10_stretch_90 : decode cX10_stretch 90 = .ok (.invokevirtual 206, 3) := by decide +kernel
theorem dX10_stretch_93 : decode cX10_stretch 93 = .ok (.aload_n 0, 1) := by decide +kernel
theorem dX10_stretch_94 : decode cX10_stretch 94 = .ok (.getfield 54, 3) := by decide +kernel
theorem dX10_stretch_97 : decode cX10_stretch 97 = .ok (.iload_n 1, 1) := by decide +kernel
theorem dX10_stretch_98 : decode cX10_stretch 98 = .ok (.iconst 0, 1) := by decide +kernel
theorem dX10_stretch_99 : decode cX10_stretch 99 = .ok (.bastore, 1) := by decide +kernel
theorem dX10_stretch_100 : decode cX10_stretch 100 = .ok (.aload 6, 2) := by decide +kernel
theorem dX10_stretch_102 : decode cX10_stretch 102 = .ok (.getfield 203, 3) := by decide +kernel
theorem dX10_stretch_105 : decode cX10_stretch 105 = .ok (.ireturn, 1) := by decide +kernel
theorem dX10_date_0 : decode cX10_date 0 = .ok (.aload_n 0, 1) := by decide +kernel
theorem dX10_date_1 : decode cX10_date 1 = .ok (.iload_n 1, 1) := by decide +kernel
theorem dX10_date_2 : decode cX10_date 2 = .ok (.iload_n 2, 1) := by decide +kernel
theorem dX10_date_3 : decode cX10_date 3 = .ok (.invokevirtual 170, 3) := by decide +kernel
theorem dX10_date_6 : decode cX10_date 6 = .ok (.ifCond .eq 34, 3) := by decide +kernel
theorem dX10_date_9 : decode cX10_date 9 = .ok (.iload_n 3, 1) := by decide +kernel
theorem dX10_date_10 : decode cX10_date 10 = .ok (.invokestatic 65, 3) := by decide +kernel
theorem dX10_date_13 : decode cX10_date 13 = .ok (.ifCond .eq 27, 3) := by decide +kernel
theorem dX10_date_16 : decode cX10_date 16 = .ok (.iload 4, 2) := by decide +kernel
theorem dX10_date_18 : decode cX10_date 18 = .ok (.invokestatic 65, 3) := by decide +kernel
theorem dX10_date_21 : decode cX10_date 21 = .ok (.ifCond .eq 19, 3) := by decide +kernel
theorem dX10_date_24 : decode cX10_date 24 = .ok (.iload_n 3, 1) := by decide +kernel
theorem dX10_date_25 : decode cX10_date 25 = .ok (.iload 4, 2) := by decide +kernel
theorem dX10_date_27 : decode cX10_date 27 = .ok (.if_icmp .gt 13, 3) := by decide +kernel
theorem dX10_date_30 : decode cX10_date 30 = .ok (.iload 5, 2) := by decide +kernel
theorem dX10_date_32 : decode cX10_date 32 = .ok (.iconst 0, 1) := by decide +kernel
theorem dX10_date_33 : decode cX10_date 33 = .ok (.iconst 1, 1) := by decide +kernel
theorem dX10_date_34 : decode cX10_date 34 = .ok (.invokestatic 69, 3) := by decide +kernel
theorem dX10_date_37 : decode cX10_date 37 = .ok (.ifCond .ne 5, 3) := by decide +kernel
theorem dX10_date_40 : decode cX10_date 40 = .ok (.iconst (-1), 1) := by decide +kernel
theorem dX10_date_41 : decode cX10_date 41 = .ok (.ireturn, 1) := by decide +kernel
theorem dX10_date_42 : decode cX10_date 42 = .ok (.aload_n 0, 1) := by decide +kernel
theorem dX10_date_43 : decode cX10_date 43 = .ok (.getfield 12, 3) := by decide +kernel
theorem dX10_date_46 : decode cX10_date 46 = .ok (.getfield 147, 3) := by decide +kernel
theorem dX10_date_49 : decode cX10_date 49 = .ok (.iload_n 1, 1) := by decide +kernel
theorem dX10_date_50 : decode cX10_date 50 = .ok (.aaload, 1) := by decide +kernel
theorem dX10_date_51 : decode cX10_date 51 = .ok (.iload_n 2, 1) := by decide +kernel
theorem dX10_date_52 : decode cX10_date 52 = .ok (.invokevirtual 177, 3) := by decide +kernel
theorem dX10_date_55 : decode cX10_date 55 = .ok (.ifCond .ne 6, 3) := by decide +kernel
theorem dX10_date_58 : decode cX10_date 58 = .ok (.bipush (-12), 2) := by decide +kernel
theorem dX10_date_60 : decode cX10_date 60 = .ok (.ireturn, 1) := by decide +kernel
theorem dX10_date_61 : decode cX10_date 61 = .ok (.aload_n 0, 1) := by decide +kernel
theorem dX10_date_62 : decode cX10_date 62 = .ok (.getfield 12, 3) := by decide +kernel
theorem dX10_date_65 : decode cX10_date 65 = .ok (.getfield 157, 3) := by decide +kernel
theorem dX10_date_68 : decode cX10_date 68 = .ok (.getfield 210, 3) := by decide +kernel
theorem dX10_date_71 : decode cX10_date 71 = .ok (.bipush 8, 2) := by decide +kernel
theorem dX10_date_73 : decode cX10_date 73 = .ok (.if_icmp .ne 6, 3) := by decide +kernel
theorem dX10_date_76 : decode cX10_date 76 = .ok (.bipush (-3), 2) := by decide +kernel
theorem dX10_date_78 : decode cX10_date 78 = .ok (.ireturn, 1) := by decide +kernel
theorem dX10_date_79 : decode cX10_date 79 = .ok (.aload_n 0, 1) := by decide +kernel
theorem dX10_date_80 : decode cX10_date 80 = .ok (.getfield 12, 3) := by decide +kernel
theorem dX10_date_83 : decode cX10_date 83 = .ok (.getfield 157, 3) := by decide +kernel
theorem dX10_date_86 : decode cX10_date 86 = .ok (.iload_n 1, 1) := by decide +kernel
theorem dX10_date_87 : decode cX10_date 87 = .ok (.iload_n 2, 1) := by decide +kernel
theorem dX10_date_88 : decode cX10_date 88 = .ok (.iload_n 3, 1) := by decide +kernel
theorem dX10_date_89 : decode cX10_date 89 = .ok (.iload 4, 2) := by decide +kernel
theorem dX10_date_91 : decode cX10_date 91 = .ok (.iload 5, 2) := by decide +kernel
theorem dX10_date_93 : decode cX10_date 93 = .ok (.invokevirtual 213, 3) := by decide +kernel
theorem dX10_date_96 : decode cX10_date 96 = .ok (.aload_n 0, 1) := by decide +kernel
theorem dX10_date_97 : decode cX10_date 97 = .ok (.getfield 54, 3) := by decide +kernel
theorem dX10_date_100 : decode cX10_date 100 = .ok (.iload_n 1, 1) := by decide +kernel
theorem dX10_date_101 : decode cX10_date 101 = .ok (.iconst 0, 1) := by decide +kernel
theorem dX10_date_102 : decode cX10_date 102 = .ok (.bastore, 1) := by decide +kernel
theorem dX10_date_103 : decode cX10_date 103 = .ok (.aload_n 0, 1) := by decide +kernel
theorem dX10_date_104 : decode cX10_date 104 = .ok (.getfield 12, 3) := by decide +kernel
theorem dX10_date_107 : decode cX10_date 107 = .ok (.getfield 157, 3) := by decide +kernel
theorem dX10_date_110 : decode cX10_date 110 = .ok (.getfield 210, 3) := by decide +kernel
theorem dX10_date_113 : decode cX10_date 113 = .ok (.iconst 1, 1) := by decide +kernel
theorem dX10_date_114 : decode cX10_date 114 = .ok (.isub, 1) := by decide +kernel
theorem dX10_date_115 : decode cX10_date 115 = .ok (.ireturn, 1) := by decide +kernel
theorem dX10_throwOut_0 : decode cX10_throwOut 0 = .ok (.iload_n 1, 1) := by decide +kernel
theorem dX10_throwOut_1 : decode cX10_throwOut 1 = .ok (.iconst 0, 1) := by decide +kernel
theorem dX10_throwOut_2 : decode cX10_throwOut 2 = .ok (.aload_n 0, 1) := by decide +kernel
theorem dX10_throwOut_3 : decode cX10_throwOut 3 = .ok (.getfield 12, 3) := by decide +kernel
theorem dX10_throwOut_6 : decode cX10_throwOut 6 = .ok (.getfield 157, 3) := by decide +kernel
theorem dX10_throwOut_9 : decode cX10_throwOut 9 = .ok (.getfield 210, 3) := by decide +kernel
theorem dX10_throwOut_12 : decode cX10_throwOut 12 = .ok (.iconst 1, 1) := by decide +kernel
theorem dX10_throwOut_13 : decode cX10_throwOut 13 = .ok (.isub, 1) := by decide +kernel
theorem dX10_throwOut_14 : decode cX10_throwOut 14 = .ok (.invokestatic 69, 3) := by decide +kernel
theorem dX10_throwOut_17 : decode cX10_throwOut 17 = .ok (.ifCond .eq 13, 3) := by decide +kernel
theorem dX10_throwOut_20 : decode cX10_throwOut 20 = .ok (.iload_n 2, 1) := by decide +kernel
theorem dX10_throwOut_21 : decode cX10_throwOut 21 = .ok (.iconst 0, 1) := by decide +kernel
theorem dX10_throwOut_22 : decode cX10_throwOut 22 = .ok (.bipush 9, 2) := by decide +kernel
theorem dX10_throwOut_24 : decode cX10_throwOut 24 = .ok (.invokestatic 69, 3) := by decide +kernel
theorem dX10_throwOut_27 : decode cX10_throwOut 27 = .ok (.ifCond .ne 5, 3) := by decide +kernel
theorem dX10_throwOut_30 : decode cX10_throwOut 30 = .ok (.iconst (-1), 1) := by decide +kernel
theorem dX10_throwOut_31 : decode cX10_throwOut 31 = .ok (.ireturn, 1) := by decide +kernel
theorem dX10_throwOut_32 : decode cX10_throwOut 32 = .ok (.aload_n 0, 1) := by decide +kernel
theorem dX10_throwOut_33 : decode cX10_throwOut 33 = .ok (.getfield 12, 3) := by decide +kernel
theorem dX10_throwOut_36 : decode cX10_throwOut 36 = .ok (.getfield 157, 3) := by decide +kernel
theorem dX10_throwOut_39 : decode cX10_throwOut 39 = .ok (.getfield 216, 3) := by decide +kernel
theorem dX10_throwOut_42 : decode cX10_throwOut 42 = .ok (.iload_n 1, 1) := by decide +kernel
theorem dX10_throwOut_43 : decode cX10_throwOut 43 = .ok (.iaload, 1) := by decide +kernel
theorem dX10_throwOut_44 : decode cX10_throwOut 44 = .ok (.istore_n 3, 1) := by decide +kernel
theorem dX10_throwOut_45 : decode cX10_throwOut 45 = .ok (.aload_n 0, 1) := by decide +kernel
theorem dX10_throwOut_46 : decode cX10_throwOut 46 = .ok (.getfield 12, 3) := by decide +kernel
theorem dX10_throwOut_49 : decode cX10_throwOut 49 = .ok (.getfield 157, 3) := by decide +kernel
theorem dX10_throwOut_52 : decode cX10_throwOut 52 = .ok (.getfield 216, 3) := by decide +kernel
theorem dX10_throwOut_55 : decode cX10_throwOut 55 = .ok (.iload_n 1, 1) := by decide +kernel
theorem dX10_throwOut_56 : decode cX10_throwOut 56 = .ok (.iload_n 2, 1) := by decide +kernel
theorem dX10_throwOut_57 : decode cX10_throwOut 57 = .ok (.iastore, 1) := by decide +kernel
theorem dX10_throwOut_58 : decode cX10_throwOut 58 = .ok (.aload_n 0, 1) := by decide +kernel
theorem dX10_throwOut_59 : decode cX10_throwOut 59 = .ok (.getfield 54, 3) := by decide +kernel
theorem dX10_throwOut_62 : decode cX10_throwOut 62 = .ok (.aload_n 0, 1) := by decide +kernel
theorem dX10_throwOut_63 : decode cX10_throwOut 63 = .ok (.getfield 12, 3) := by decide +kernel
theorem dX10_throwOut_66 : decode cX10_throwOut 66 = .ok (.getfield 157, 3) := by decide +kernel
theorem dX10_throwOut_69 : decode cX10_throwOut 69 = .ok (.getfield 219, 3) := by decide +kernel
theorem dX10_throwOut_72 : decode cX10_throwOut 72 = .ok (.iload_n 1, 1) := by decide +kernel
theorem dX10_throwOut_73 : decode cX10_throwOut 73 = .ok (.iaload, 1) := by decide +kernel
theorem dX10_throwOut_74 : decode cX10_throwOut 74 = .ok (.iconst 0, 1) := by decide +kernel
theorem dX10_throwOut_75 : decode cX10_throwOut 75 = .ok (.bastore, 1) := by decide +kernel
theorem dX10_throwOut_76 : decode cX10_throwOut 76 = .ok (.iload_n 3, 1) := by decide +kernel
theorem dX10_throwOut_77 : decode cX10_throwOut 77 = .ok (.ireturn, 1) := by decide +kernel
theorem dX10_count_0 : decode cX10_count 0 = .ok (.iload_n 1, 1) := by decide +kernel
theorem dX10_count_1 : decode cX10_count 1 = .ok (.tableswitch 137 0 7 #[47, 58, 69, 77, 85, 98, 111, 124], 47) := by decide +kernel
theorem dX10_count_48 : decode cX10_count 48 = .ok (.aload_n 0, 1) := by decide +kernel
theorem dX10_count_49 : decode cX10_count 49 = .ok (.getfield 12, 3) := by decide +kernel
theorem dX10_count_52 : decode cX10_count 52 = .ok (.getfield 157, 3) := by decide +kernel
theorem dX10_count_55 : decode cX10_count 55 = .ok (.getfield 210, 3) := by decide +kernel
theorem dX10_count_58 : decode cX10_count 58 = .ok (.ireturn, 1) := by decide +kernel
theorem dX10_count_59 : decode cX10_count 59 = .ok (.aload_n 0, 1) := by decide +kernel
theorem dX10_count_60 : decode cX10_count 60 = .ok (.getfield 12, 3) := by decide +kernel
theorem dX10_count_63 : decode cX10_count 63 = .ok (.getfield 157, 3) := by decide +kernel
theorem dX10_count_66 : decode cX10_count 66 = .ok (.invokevirtual 221, 3) := by decide +kernel
theorem dX10_count_69 : decode cX10_count 69 = .ok (.ireturn, 1) := by decide +kernel
theorem dX10_count_70 : decode cX10_count 70 = .ok (.aload_n 0, 1) := by decide +kernel
theorem dX10_count_71 : decode cX10_count 71 = .ok (.getfield 12, 3) := by decide +kernel
theorem dX10_count_74 : decode cX10_count 74 = .ok (.getfield 225, 3) := by decide +kernel
theorem dX10_count_77 : decode cX10_count 77 = .ok (.ireturn, 1) := by decide +kernel
theorem dX10_count_78 : decode cX10_count 78 = .ok (.aload_n 0, 1) := by decide +kernel
theorem dX10_count_79 : decode cX10_count 79 = .ok (.getfield 12, 3) := by decide +kernel
theorem dX10_count_82 : decode cX10_count 82 = .ok (.getfield 228, 3) := by decide +kernel
theorem dX10_count_85 : decode cX10_count 85 = .ok (.ireturn, 1) := by decide +kernel
theorem dX10_count_86 : decode cX10_count 86 = .ok (.aload_n 0, 1) := by decide +kernel
theorem dX10_count_87 : decode cX10_count 87 = .ok (.getfield 12, 3) := by decide +kernel
theorem dX10_count_90 : decode cX10_count 90 = .ok (.getfield 147, 3) := by decide +kernel
theorem dX10_count_93 : decode cX10_count 93 = .ok (.iconst 0, 1) := by decide +kernel
theorem dX10_count_94 : decode cX10_count 94 = .ok (.aaload, 1) := by decide +kernel
theorem dX10_count_95 : decode cX10_count 95 = .ok (.getfield 167, 3) := by decide +kernel
theorem dX10_count_98 : decode cX10_count 98 = .ok (.ireturn, 1) := by decide +kernel
theorem dX10_count_99 : decode cX10_count 99 = .ok (.aload_n 0, 1) := by decide +kernel
theorem dX10_count_100 : decode cX10_count 100 = .ok (.getfield 12, 3) := by decide +kernel
theorem dX10_count_103 : decode cX10_count 103 = .ok (.getfield 147, 3) := by decide +kernel
theorem dX10_count_106 : decode cX10_count 106 = .ok (.iconst 1, 1) := by decide +kernel
theorem dX10_count_107 : decode cX10_count 107 = .ok (.aaload, 1) := by decide +kernel
theorem dX10_count_108 : decode cX10_count 108 = .ok (.getfield 167, 3) := by decide +kernel
theorem dX10_count_111 : decode cX10_count 111 = .ok (.ireturn, 1) := by decide +kernel
theorem dX10_count_112 : decode cX10_count 112 = .ok (.aload_n 0, 1) := by decide +kernel
theorem dX10_count_113 : decode cX10_count 113 = .ok (.getfield 12, 3) := by decide +kernel
theorem dX10_count_116 : decode cX10_count 116 = .ok (.getfield 147, 3) := by decide +kernel
theorem dX10_count_119 : decode cX10_count 119 = .ok (.iconst 0, 1) := by decide +kernel
theorem dX10_count_120 : decode cX10_count 120 = .ok (.aaload, 1) := by decide +kernel
theorem dX10_count_121 : decode cX10_count 121 = .ok (.invokevirtual 231, 3) := by decide +kernel
theorem dX10_count_124 : decode cX10_count 124 = .ok (.ireturn, 1) := by decide +kernel
theorem dX10_count_125 : decode cX10_count 125 = .ok (.aload_n 0, 1) := by decide +kernel
theorem dX10_count_126 : decode cX10_count 126 = .ok (.getfield 12, 3) := by decide +kernel
theorem dX10_count_129 : decode cX10_count 129 = .ok (.getfield 147, 3) := by decide +kernel
theorem dX10_count_132 : decode cX10_count 132 = .ok (.iconst 1, 1) := by decide +kernel
theorem dX10_count_133 : decode cX10_count 133 = .ok (.aaload, 1) := by decide +kernel
theorem dX10_count_134 : decode cX10_count 134 = .ok (.invokevirtual 231, 3) := by decide +kernel
theorem dX10_count_137 : decode cX10_count 137 = .ok (.ireturn, 1) := by decide +kernel
theorem dX10_count_138 : decode cX10_count 138 = .ok (.iconst (-1), 1) := by decide +kernel
theorem dX10_count_139 : decode cX10_count 139 = .ok (.ireturn, 1) := by decide +kernel
theorem dX10_ways_0 : decode cX10_ways 0 = .ok (.iload_n 1, 1) := by decide +kernel
theorem dX10_ways_1 : decode cX10_ways 1 = .ok (.invokestatic 144, 3) := by decide +kernel
theorem dX10_ways_4 : decode cX10_ways 4 = .ok (.ifCond .ne 7, 3) := by decide +kernel
theorem dX10_ways_7 : decode cX10_ways 7 = .ok (.ldc2_w 234, 3) := by decide +kernel
theorem dX10_ways_10 : decode cX10_ways 10 = .ok (.lreturn, 1) := by decide +kernel
theorem dX10_ways_11 : decode cX10_ways 11 = .ok (.aload_n 0, 1) := by decide +kernel
theorem dX10_ways_12 : decode cX10_ways 12 = .ok (.getfield 12, 3) := by decide +kernel
theorem dX10_ways_15 : decode cX10_ways 15 = .ok (.getfield 147, 3) := by decide +kernel
theorem dX10_ways_18 : decode cX10_ways 18 = .ok (.iload_n 1, 1) := by decide +kernel
theorem dX10_ways_19 : decode cX10_ways 19 = .ok (.aaload, 1) := by decide +kernel
theorem dX10_ways_20 : decode cX10_ways 20 = .ok (.invokevirtual 231, 3) := by decide +kernel
theorem dX10_ways_23 : decode cX10_ways 23 = .ok (.ifCond .ne 9, 3) := by decide +kernel
theorem dX10_ways_26 : decode cX10_ways 26 = .ok (.ldc2_w 236, 3) := by decide +kernel
theorem dX10_ways_29 : decode cX10_ways 29 = .ok (.goto 11, 3) := by decide +kernel
theorem dX10_ways_32 : decode cX10_ways 32 = .ok (.aload_n 0, 1) := by decide +kernel
theorem dX10_ways_33 : decode cX10_ways 33 = .ok (.iload_n 1, 1) := by decide +kernel
theorem dX10_ways_34 : decode cX10_ways 34 = .ok (.invokevirtual 238, 3) := by decide +kernel
theorem dX10_ways_37 : decode cX10_ways 37 = .ok (.getfield 242, 3) := by decide +kernel
theorem dX10_ways_40 : decode cX10_ways 40 = .ok (.lreturn, 1) := by decide +kernel
theorem dX10_ends_0 : decode cX10_ends 0 = .ok (.aload_n 0, 1) := by decide +kernel
theorem dX10_ends_1 : decode cX10_ends 1 = .ok (.iload_n 1, 1) := by decide +kernel
theorem dX10_ends_2 : decode cX10_ends 2 = .ok (.iload_n 2, 1) := by decide +kernel
theorem dX10_ends_3 : decode cX10_ends 3 = .ok (.invokevirtual 170, 3) := by decide +kernel
theorem dX10_ends_6 : decode cX10_ends 6 = .ok (.ifCond .eq 12, 3) := by decide +kernel
theorem dX10_ends_9 : decode cX10_ends 9 = .ok (.iload_n 3, 1) := by decide +kernel
theorem dX10_ends_10 : decode cX10_ends 10 = .ok (.iconst 0, 1) := by decide +kernel
theorem dX10_ends_11 : decode cX10_ends 11 = .ok (.iconst 1, 1) := by decide +kernel
theorem dX10_ends_12 : decode cX10_ends 12 = .ok (.invokestatic 69, 3) := by decide +kernel
theorem dX10_ends_15 : decode cX10_ends 15 = .ok (.ifCond .ne 5, 3) := by decide +kernel
theorem dX10_ends_18 : decode cX10_ends 18 = .ok (.iconst (-1), 1) := by decide +kernel
theorem dX10_ends_19 : decode cX10_ends 19 = .ok (.ireturn, 1) := by decide +kernel
theorem dX10_ends_20 : decode cX10_ends 20 = .ok (.aload_n 0, 1) := by decide +kernel
theorem dX10_ends_21 : decode cX10_ends 21 = .ok (.getfield 12, 3) := by decide +kernel
theorem dX10_ends_24 : decode cX10_ends 24 = .ok (.getfield 147, 3) := by decide +kernel
theorem dX10_ends_27 : decode cX10_ends 27 = .ok (.iload_n 1, 1) := by decide +kernel
theorem dX10_ends_28 : decode cX10_ends 28 = .ok (.aaload, 1) := by decide +kernel
theorem dX10_ends_29 : decode cX10_ends 29 = .ok (.iload_n 2, 1) := by decide +kernel
theorem dX10_ends_30 : decode cX10_ends 30 = .ok (.invokevirtual 177, 3) := by decide +kernel
theorem dX10_ends_33 : decode cX10_ends 33 = .ok (.ifCond .ne 6, 3) := by decide +kernel
theorem dX10_ends_36 : decode cX10_ends 36 = .ok (.bipush (-12), 2) := by decide +kernel
theorem dX10_ends_38 : decode cX10_ends 38 = .ok (.ireturn, 1) := by decide +kernel
theorem dX10_ends_39 : decode cX10_ends 39 = .ok (.aload_n 0, 1) := by decide +kernel
theorem dX10_ends_40 : decode cX10_ends 40 = .ok (.iload_n 1, 1) := by decide +kernel
theorem dX10_ends_41 : decode cX10_ends 41 = .ok (.invokevirtual 238, 3) := by decide +kernel
theorem dX10_ends_44 : decode cX10_ends 44 = .ok (.astore 4, 2) := by decide +kernel
theorem dX10_ends_46 : decode cX10_ends 46 = .ok (.aload 4, 2) := by decide +kernel
theorem dX10_ends_48 : decode cX10_ends 48 = .ok (.getfield 242, 3) := by decide +kernel
theorem dX10_ends_51 : decode cX10_ends 51 = .ok (.lconst 0, 1) := by decide +kernel
theorem dX10_ends_52 : decode cX10_ends 52 = .ok (.lcmp, 1) := by decide +kernel
theorem dX10_ends_53 : decode cX10_ends 53 = .ok (.ifCond .ne 8, 3) := by decide +kernel
theorem dX10_ends_56 : decode cX10_ends 56 = .ok (.bipush (-4), 2) := by decide +kernel
theorem dX10_ends_58 : decode cX10_ends 58 = .ok (.goto 16, 3) := by decide +kernel
theorem dX10_ends_61 : decode cX10_ends 61 = .ok (.aload 4, 2) := by decide +kernel
theorem dX10_ends_63 : decode cX10_ends 63 = .ok (.aload 4, 2) := by decide +kernel
theorem dX10_ends_65 : decode cX10_ends 65 = .ok (.getfield 246, 3) := by decide +kernel
theorem dX10_ends_68 : decode cX10_ends 68 = .ok (.iload_n 2, 1) := by decide +kernel
theorem dX10_ends_69 : decode cX10_ends 69 = .ok (.iaload, 1) := by decide +kernel
theorem dX10_ends_70 : decode cX10_ends 70 = .ok (.iload_n 3, 1) := by decide +kernel
theorem dX10_ends_71 : decode cX10_ends 71 = .ok (.invokevirtual 249, 3) := by decide +kernel
theorem dX10_ends_74 : decode cX10_ends 74 = .ok (.ireturn, 1) := by decide +kernel
theorem dX10_odds_0 : decode cX10_odds 0 = .ok (.aload_n 0, 1) := by decide +kernel
theorem dX10_odds_1 : decode cX10_odds 1 = .ok (.iload_n 1, 1) := by decide +kernel
theorem dX10_odds_2 : decode cX10_odds 2 = .ok (.iload_n 2, 1) := by decide +kernel
theorem dX10_odds_3 : decode cX10_odds 3 = .ok (.invokevirtual 170, 3) := by decide +kernel
theorem dX10_odds_6 : decode cX10_odds 6 = .ok (.ifCond .eq 20, 3) := by decide +kernel
theorem dX10_odds_9 : decode cX10_odds 9 = .ok (.iload_n 3, 1) := by decide +kernel
theorem dX10_odds_10 : decode cX10_odds 10 = .ok (.invokestatic 65, 3) := by decide +kernel
theorem dX10_odds_13 : decode cX10_odds 13 = .ok (.ifCond .eq 13, 3) := by decide +kernel
theorem dX10_odds_16 : decode cX10_odds 16 = .ok (.iload 4, 2) := by decide +kernel
theorem dX10_odds_18 : decode cX10_odds 18 = .ok (.iconst 0, 1) := by decide +kernel
theorem dX10_odds_19 : decode cX10_odds 19 = .ok (.iconst 1, 1) := by decide +kernel
theorem dX10_odds_20 : decode cX10_odds 20 = .ok (.invokestatic 69, 3) := by decide +kernel
theorem dX10_odds_23 : decode cX10_odds 23 = .ok (.ifCond .ne 7, 3) := by decide +kernel
theorem dX10_odds_26 : decode cX10_odds 26 = .ok (.ldc2_w 234, 3) := by decide +kernel
theorem dX10_odds_29 : decode cX10_odds 29 = .ok (.lreturn, 1) := by decide +kernel
theorem dX10_odds_30 : decode cX10_odds 30 = .ok (.aload_n 0, 1) := by decide +kernel
theorem dX10_odds_31 : decode cX10_odds 31 = .ok (.getfield 12, 3) := by decide +kernel
theorem dX10_odds_34 : decode cX10_odds 34 = .ok (.getfield 147, 3) := by decide +kernel
theorem dX10_odds_37 : decode cX10_odds 37 = .ok (.iload_n 1, 1) := by decide +kernel
theorem dX10_odds_38 : decode cX10_odds 38 = .ok (.aaload, 1) := by decide +kernel
theorem dX10_odds_39 : decode cX10_odds 39 = .ok (.iload_n 2, 1) := by decide +kernel
theorem dX10_odds_40 : decode cX10_odds 40 = .ok (.invokevirtual 177, 3) := by decide +kernel
theorem dX10_odds_43 : decode cX10_odds 43 = .ok (.ifCond .ne 7, 3) := by decide +kernel
theorem dX10_odds_46 : decode cX10_odds 46 = .ok (.ldc2_w 252, 3) := by decide +kernel
theorem dX10_odds_49 : decode cX10_odds 49 = .ok (.lreturn, 1) := by decide +kernel
theorem dX10_odds_50 : decode cX10_odds 50 = .ok (.aload_n 0, 1) := by decide +kernel
theorem dX10_odds_51 : decode cX10_odds 51 = .ok (.iload_n 1, 1) := by decide +kernel
theorem dX10_odds_52 : decode cX10_odds 52 = .ok (.invokevirtual 238, 3) := by decide +kernel
theorem dX10_odds_55 : decode cX10_odds 55 = .ok (.astore 5, 2) := by decide +kernel
theorem dX10_odds_57 : decode cX10_odds 57 = .ok (.aload 5, 2) := by decide +kernel
theorem dX10_odds_59 : decode cX10_odds 59 = .ok (.aload 5, 2) := by decide +kernel
theorem dX10_odds_61 : decode cX10_odds 61 = .ok (.getfield 246, 3) := by decide +kernel
theorem dX10_odds_64 : decode cX10_odds 64 = .ok (.iload_n 2, 1) := by decide +kernel
theorem dX10_odds_65 : decode cX10_odds 65 = .ok (.iaload, 1) := by decide +kernel
theorem dX10_odds_66 : decode cX10_odds 66 = .ok (.iload_n 3, 1) := by decide +kernel
theorem dX10_odds_67 : decode cX10_odds 67 = .ok (.invokevirtual 254, 3) := by decide +kernel
theorem dX10_odds_70 : decode cX10_odds 70 = .ok (.aload 5, 2) := by decide +kernel
theorem dX10_odds_72 : decode cX10_odds 72 = .ok (.getfield 242, 3) := by decide +kernel
theorem dX10_odds_75 : decode cX10_odds 75 = .ok (.iload 4, 2) := by decide +kernel
theorem dX10_odds_77 : decode cX10_odds 77 = .ok (.invokestatic 258, 3) := by decide +kernel
theorem dX10_odds_80 : decode cX10_odds 80 = .ok (.lreturn, 1) := by decide +kernel
theorem dX10_span_0 : decode cX10_span 0 = .ok (.aload_n 0, 1) := by decide +kernel
theorem dX10_span_1 : decode cX10_span 1 = .ok (.iload_n 1, 1) := by decide +kernel
theorem dX10_span_2 : decode cX10_span 2 = .ok (.iload_n 2, 1) := by decide +kernel
theorem dX10_span_3 : decode cX10_span 3 = .ok (.iload_n 3, 1) := by decide +kernel
theorem dX10_span_4 : decode cX10_span 4 = .ok (.invokevirtual 262, 3) := by decide +kernel
theorem dX10_span_7 : decode cX10_span 7 = .ok (.ifCond .eq 13, 3) := by decide +kernel
theorem dX10_span_10 : decode cX10_span 10 = .ok (.iload 4, 2) := by decide +kernel
theorem dX10_span_12 : decode cX10_span 12 = .ok (.iconst 0, 1) := by decide +kernel
theorem dX10_span_13 : decode cX10_span 13 = .ok (.iconst 1, 1) := by decide +kernel
theorem dX10_span_14 : decode cX10_span 14 = .ok (.invokestatic 69, 3) := by decide +kernel
theorem dX10_span_17 : decode cX10_span 17 = .ok (.ifCond .ne 5, 3) := by decide +kernel
theorem dX10_span_20 : decode cX10_span 20 = .ok (.iconst (-1), 1) := by decide +kernel
theorem dX10_span_21 : decode cX10_span 21 = .ok (.ireturn, 1) := by decide +kernel
theorem dX10_span_22 : decode cX10_span 22 = .ok (.aload_n 0, 1) := by decide +kernel
theorem dX10_span_23 : decode cX10_span 23 = .ok (.getfield 12, 3) := by decide +kernel
theorem dX10_span_26 : decode cX10_span 26 = .ok (.getfield 147, 3) := by decide +kernel
theorem dX10_span_29 : decode cX10_span 29 = .ok (.iload_n 1, 1) := by decide +kernel
theorem dX10_span_30 : decode cX10_span 30 = .ok (.aaload, 1) := by decide +kernel
theorem dX10_span_31 : decode cX10_span 31 = .ok (.astore 5, 2) := by decide +kernel
theorem dX10_span_33 : decode cX10_span 33 = .ok (.aload 5, 2) := by decide +kernel
theorem dX10_span_35 : decode cX10_span 35 = .ok (.iload_n 2, 1) := by decide +kernel
theorem dX10_span_36 : decode cX10_span 36 = .ok (.invokevirtual 177, 3) := by decide +kernel
theorem dX10_span_39 : decode cX10_span 39 = .ok (.ifCond .eq 12, 3) := by decide +kernel
theorem dX10_span_42 : decode cX10_span 42 = .ok (.aload 5, 2) := by decide +kernel
theorem dX10_span_44 : decode cX10_span 44 = .ok (.iload_n 3, 1) := by decide +kernel
theorem dX10_span_45 : decode cX10_span 45 = .ok (.invokevirtual 177, 3) := by decide +kernel
theorem dX10_span_48 : decode cX10_span 48 = .ok (.ifCond .ne 6, 3) := by decide +kernel
theorem dX10_span_51 : decode cX10_span 51 = .ok (.bipush (-12), 2) := by decide +kernel
theorem dX10_span_53 : decode cX10_span 53 = .ok (.ireturn, 1) := by decide +kernel
theorem dX10_span_54 : decode cX10_span 54 = .ok (.aload_n 0, 1) := by decide +kernel
theorem dX10_span_55 : decode cX10_span 55 = .ok (.iload_n 1, 1) := by decide +kernel
theorem dX10_span_56 : decode cX10_span 56 = .ok (.invokevirtual 238, 3) := by decide +kernel
theorem dX10_span_59 : decode cX10_span 59 = .ok (.astore 6, 2) := by decide +kernel
theorem dX10_span_61 : decode cX10_span 61 = .ok (.aload 6, 2) := by decide +kernel
theorem dX10_span_63 : decode cX10_span 63 = .ok (.aload 6, 2) := by decide +kernel
theorem dX10_span_65 : decode cX10_span 65 = .ok (.getfield 246, 3) := by decide +kernel
theorem dX10_span_68 : decode cX10_span 68 = .ok (.iload_n 2, 1) := by decide +kernel
theorem dX10_span_69 : decode cX10_span 69 = .ok (.iaload, 1) := by decide +kernel
theorem dX10_span_70 : decode cX10_span 70 = .ok (.aload 6, 2) := by decide +kernel
theorem dX10_span_72 : decode cX10_span 72 = .ok (.getfield 246, 3) := by decide +kernel
theorem dX10_span_75 : decode cX10_span 75 = .ok (.iload_n 3, 1) := by decide +kernel
theorem dX10_span_76 : decode cX10_span 76 = .ok (.iaload, 1) := by decide +kernel
theorem dX10_span_77 : decode cX10_span 77 = .ok (.invokevirtual 265, 3) := by decide +kernel
theorem dX10_span_80 : decode cX10_span 80 = .ok (.aload 6, 2) := by decide +kernel
theorem dX10_span_82 : decode cX10_span 82 = .ok (.getfield 242, 3) := by decide +kernel
theorem dX10_span_85 : decode cX10_span 85 = .ok (.lconst 0, 1) := by decide +kernel
theorem dX10_span_86 : decode cX10_span 86 = .ok (.lcmp, 1) := by decide +kernel
theorem dX10_span_87 : decode cX10_span 87 = .ok (.ifCond .ne 8, 3) := by decide +kernel
theorem dX10_span_90 : decode cX10_span 90 = .ok (.bipush (-4), 2) := by decide +kernel
theorem dX10_span_92 : decode cX10_span 92 = .ok (.goto 10, 3) := by decide +kernel
theorem dX10_span_95 : decode cX10_span 95 = .ok (.aload 6, 2) := by decide +kernel
theorem dX10_span_97 : decode cX10_span 97 = .ok (.iload 4, 2) := by decide +kernel
theorem dX10_span_99 : decode cX10_span 99 = .ok (.invokevirtual 268, 3) := by decide +kernel
theorem dX10_span_102 : decode cX10_span 102 = .ok (.ireturn, 1) := by decide +kernel
theorem dX10_apart_0 : decode cX10_apart 0 = .ok (.aload_n 0, 1) := by decide +kernel
theorem dX10_apart_1 : decode cX10_apart 1 = .ok (.iload_n 1, 1) := by decide +kernel
theorem dX10_apart_2 : decode cX10_apart 2 = .ok (.iload_n 2, 1) := by decide +kernel
theorem dX10_apart_3 : decode cX10_apart 3 = .ok (.iload_n 3, 1) := by decide +kernel
theorem dX10_apart_4 : decode cX10_apart 4 = .ok (.invokevirtual 262, 3) := by decide +kernel
theorem dX10_apart_7 : decode cX10_apart 7 = .ok (.ifCond .eq 21, 3) := by decide +kernel
theorem dX10_apart_10 : decode cX10_apart 10 = .ok (.iload 4, 2) := by decide +kernel
theorem dX10_apart_12 : decode cX10_apart 12 = .ok (.invokestatic 65, 3) := by decide +kernel
theorem dX10_apart_15 : decode cX10_apart 15 = .ok (.ifCond .eq 13, 3) := by decide +kernel
theorem dX10_apart_18 : decode cX10_apart 18 = .ok (.iload 5, 2) := by decide +kernel
theorem dX10_apart_20 : decode cX10_apart 20 = .ok (.iconst 0, 1) := by decide +kernel
theorem dX10_apart_21 : decode cX10_apart 21 = .ok (.iconst 1, 1) := by decide +kernel
theorem dX10_apart_22 : decode cX10_apart 22 = .ok (.invokestatic 69, 3) := by decide +kernel
theorem dX10_apart_25 : decode cX10_apart 25 = .ok (.ifCond .ne 7, 3) := by decide +kernel
theorem dX10_apart_28 : decode cX10_apart 28 = .ok (.ldc2_w 234, 3) := by decide +kernel
theorem dX10_apart_31 : decode cX10_apart 31 = .ok (.lreturn, 1) := by decide +kernel
theorem dX10_apart_32 : decode cX10_apart 32 = .ok (.aload_n 0, 1) := by decide +kernel
theorem dX10_apart_33 : decode cX10_apart 33 = .ok (.getfield 12, 3) := by decide +kernel
theorem dX10_apart_36 : decode cX10_apart 36 = .ok (.getfield 147, 3) := by decide +kernel
theorem dX10_apart_39 : decode cX10_apart 39 = .ok (.iload_n 1, 1) := by decide +kernel
theorem dX10_apart_40 : decode cX10_apart 40 = .ok (.aaload, 1) := by decide +kernel
theorem dX10_apart_41 : decode cX10_apart 41 = .ok (.astore 6, 2) := by decide +kernel
theorem dX10_apart_43 : decode cX10_apart 43 = .ok (.aload 6, 2) := by decide +kernel
theorem dX10_apart_45 : decode cX10_apart 45 = .ok (.iload_n 2, 1) := by decide +kernel
theorem dX10_apart_46 : decode cX10_apart 46 = .ok (.invokevirtual 177, 3) := by decide +kernel
theorem dX10_apart_49 : decode cX10_apart 49 = .ok (.ifCond .eq 12, 3) := by decide +kernel
theorem dX10_apart_52 : decode cX10_apart 52 = .ok (.aload 6, 2) := by decide +kernel
theorem dX10_apart_54 : decode cX10_apart 54 = .ok (.iload_n 3, 1) := by decide +kernel
theorem dX10_apart_55 : decode cX10_apart 55 = .ok (.invokevirtual 177, 3) := by decide +kernel
theorem dX10_apart_58 : decode cX10_apart 58 = .ok (.ifCond .ne 7, 3) := by decide +kernel
theorem dX10_apart_61 : decode cX10_apart 61 = .ok (.ldc2_w 252, 3) := by decide +kernel
theorem dX10_apart_64 : decode cX10_apart 64 = .ok (.lreturn, 1) := by decide +kernel
theorem dX10_apart_65 : decode cX10_apart 65 = .ok (.aload_n 0, 1) := by decide +kernel
theorem dX10_apart_66 : decode cX10_apart 66 = .ok (.iload_n 1, 1) := by decide +kernel
theorem dX10_apart_67 : decode cX10_apart 67 = .ok (.invokevirtual 238, 3) := by decide +kernel
theorem dX10_apart_70 : decode cX10_apart 70 = .ok (.astore 7, 2) := by decide +kernel
theorem dX10_apart_72 : decode cX10_apart 72 = .ok (.aload 7, 2) := by decide +kernel
theorem dX10_apart_74 : decode cX10_apart 74 = .ok (.aload 7, 2) := by decide +kernel
theorem dX10_apart_76 : decode cX10_apart 76 = .ok (.getfield 246, 3) := by decide +kernel
theorem dX10_apart_79 : decode cX10_apart 79 = .ok (.iload_n 2, 1) := by decide +kernel
theorem dX10_apart_80 : decode cX10_apart 80 = .ok (.iaload, 1) := by decide +kernel
theorem dX10_apart_81 : decode cX10_apart 81 = .ok (.aload 7, 2) := by decide +kernel
theorem dX10_apart_83 : decode cX10_apart 83 = .ok (.getfield 246, 3) := by decide +kernel
theorem dX10_apart_86 : decode cX10_apart 86 = .ok (.iload_n 3, 1) := by decide +kernel
theorem dX10_apart_87 : decode cX10_apart 87 = .ok (.iaload, 1) := by decide +kernel
theorem dX10_apart_88 : decode cX10_apart 88 = .ok (.invokevirtual 265, 3) := by decide +kernel
theorem dX10_apart_91 : decode cX10_apart 91 = .ok (.lconst 0, 1) := by decide +kernel
theorem dX10_apart_92 : decode cX10_apart 92 = .ok (.lstore 8, 2) := by decide +kernel
theorem dX10_apart_94 : decode cX10_apart 94 = .ok (.iload 4, 2) := by decide +kernel
theorem dX10_apart_96 : decode cX10_apart 96 = .ok (.istore 10, 2) := by decide +kernel
theorem dX10_apart_98 : decode cX10_apart 98 = .ok (.iload 10, 2) := by decide +kernel
theorem dX10_apart_100 : decode cX10_apart 100 = .ok (.bipush 24, 2) := by decide +kernel
theorem dX10_apart_102 : decode cX10_apart 102 = .ok (.if_icmp .ge 22, 3) := by decide +kernel
theorem dX10_apart_105 : decode cX10_apart 105 = .ok (.lload 8, 2) := by decide +kernel
theorem dX10_apart_107 : decode cX10_apart 107 = .ok (.aload 7, 2) := by decide +kernel
theorem dX10_apart_109 : decode cX10_apart 109 = .ok (.getfield 272, 3) := by decide +kernel
theorem dX10_apart_112 : decode cX10_apart 112 = .ok (.iload 10, 2) := by decide +kernel
theorem dX10_apart_114 : decode cX10_apart 114 = .ok (.laload, 1) := by decide +kernel
theorem dX10_apart_115 : decode cX10_apart 115 = .ok (.ladd, 1) := by decide +kernel
theorem dX10_apart_116 : decode cX10_apart 116 = .ok (.lstore 8, 2) := by decide +kernel
theorem dX10_apart_118 : decode cX10_apart 118 = .ok (.iinc 10 1, 3) := by decide +kernel
theorem dX10_apart_121 : decode cX10_apart 121 = .ok (.goto (-23), 3) := by decide +kernel
theorem dX10_apart_124 : decode cX10_apart 124 = .ok (.lload 8, 2) := by decide +kernel
theorem dX10_apart_126 : decode cX10_apart 126 = .ok (.aload 7, 2) := by decide +kernel
theorem dX10_apart_128 : decode cX10_apart 128 = .ok (.getfield 242, 3) := by decide +kernel
theorem dX10_apart_131 : decode cX10_apart 131 = .ok (.iload 5, 2) := by decide +kernel
theorem dX10_apart_133 : decode cX10_apart 133 = .ok (.invokestatic 258, 3) := by decide +kernel
theorem dX10_apart_136 : decode cX10_apart 136 = .ok (.lreturn, 1) := by decide +kernel
theorem dX10_next_0 : decode cX10_next 0 = .ok (.iload_n 1, 1) := by decide +kernel
theorem dX10_next_1 : decode cX10_next 1 = .ok (.invokestatic 144, 3) := by decide +kernel
theorem dX10_next_4 : decode cX10_next 4 = .ok (.ifCond .eq 12, 3) := by decide +kernel
theorem dX10_next_7 : decode cX10_next 7 = .ok (.iload_n 2, 1) := by decide +kernel
theorem dX10_next_8 : decode cX10_next 8 = .ok (.iconst 0, 1) := by decide +kernel
theorem dX10_next_9 : decode cX10_next 9 = .ok (.iconst 1, 1) := by decide +kernel
theorem dX10_next_10 : decode cX10_next 10 = .ok (.invokestatic 69, 3) := by decide +kernel
theorem dX10_next_13 : decode cX10_next 13 = .ok (.ifCond .ne 7, 3) := by decide +kernel
theorem dX10_next_16 : decode cX10_next 16 = .ok (.ldc2_w 234, 3) := by decide +kernel
theorem dX10_next_19 : decode cX10_next 19 = .ok (.lreturn, 1) := by decide +kernel
theorem dX10_next_20 : decode cX10_next 20 = .ok (.aload_n 0, 1) := by decide +kernel
theorem dX10_next_21 : decode cX10_next 21 = .ok (.getfield 12, 3) := by decide +kernel
theorem dX10_next_24 : decode cX10_next 24 = .ok (.getfield 147, 3) := by decide +kernel
theorem dX10_next_27 : decode cX10_next 27 = .ok (.iload_n 1, 1) := by decide +kernel
theorem dX10_next_28 : decode cX10_next 28 = .ok (.aaload, 1) := by decide +kernel
theorem dX10_next_29 : decode cX10_next 29 = .ok (.invokevirtual 231, 3) := by decide +kernel
theorem dX10_next_32 : decode cX10_next 32 = .ok (.ifCond .ne 7, 3) := by decide +kernel
theorem dX10_next_35 : decode cX10_next 35 = .ok (.ldc2_w 236, 3) := by decide +kernel
theorem dX10_next_38 : decode cX10_next 38 = .ok (.lreturn, 1) := by decide +kernel
theorem dX10_next_39 : decode cX10_next 39 = .ok (.aload_n 0, 1) := by decide +kernel
theorem dX10_next_40 : decode cX10_next 40 = .ok (.iload_n 1, 1) := by decide +kernel
theorem dX10_next_41 : decode cX10_next 41 = .ok (.invokevirtual 238, 3) := by decide +kernel
theorem dX10_next_44 : decode cX10_next 44 = .ok (.astore_n 3, 1) := by decide +kernel
theorem dX10_next_45 : decode cX10_next 45 = .ok (.aload_n 3, 1) := by decide +kernel
theorem dX10_next_46 : decode cX10_next 46 = .ok (.getfield 242, 3) := by decide +kernel
theorem dX10_next_49 : decode cX10_next 49 = .ok (.lconst 0, 1) := by decide +kernel
theorem dX10_next_50 : decode cX10_next 50 = .ok (.lcmp, 1) := by decide +kernel
theorem dX10_next_51 : decode cX10_next 51 = .ok (.ifCond .ne 7, 3) := by decide +kernel
theorem dX10_next_54 : decode cX10_next 54 = .ok (.ldc2_w 276, 3) := by decide +kernel
theorem dX10_next_57 : decode cX10_next 57 = .ok (.lreturn, 1) := by decide +kernel
theorem dX10_next_58 : decode cX10_next 58 = .ok (.iconst 0, 1) := by decide +kernel
theorem dX10_next_59 : decode cX10_next 59 = .ok (.istore 4, 2) := by decide +kernel
theorem dX10_next_61 : decode cX10_next 61 = .ok (.iconst 1, 1) := by decide +kernel
theorem dX10_next_62 : decode cX10_next 62 = .ok (.istore 5, 2) := by decide +kernel
theorem dX10_next_64 : decode cX10_next 64 = .ok (.iload 5, 2) := by decide +kernel
theorem dX10_next_66 : decode cX10_next 66 = .ok (.aload_n 3, 1) := by decide +kernel
theorem dX10_next_67 : decode cX10_next 67 = .ok (.getfield 278, 3) := by decide +kernel
theorem dX10_next_70 : decode cX10_next 70 = .ok (.if_icmp .ge 29, 3) := by decide +kernel
theorem dX10_next_73 : decode cX10_next 73 = .ok (.aload_n 3, 1) := by decide +kernel
theorem dX10_next_74 : decode cX10_next 74 = .ok (.iload 5, 2) := by decide +kernel
theorem dX10_next_76 : decode cX10_next 76 = .ok (.invokevirtual 280, 3) := by decide +kernel
theorem dX10_next_79 : decode cX10_next 79 = .ok (.aload_n 3, 1) := by decide +kernel
theorem dX10_next_80 : decode cX10_next 80 = .ok (.iload 4, 2) := by decide +kernel
theorem dX10_next_82 : decode cX10_next 82 = .ok (.invokevirtual 280, 3) := by decide +kernel
theorem dX10_next_85 : decode cX10_next 85 = .ok (.lcmp, 1) := by decide +kernel
theorem dX10_next_86 : decode cX10_next 86 = .ok (.ifCond .ge 7, 3) := by decide +kernel
theorem dX10_next_89 : decode cX10_next 89 = .ok (.iload 5, 2) := by decide +kernel
theorem dX10_next_91 : decode cX10_next 91 = .ok (.istore 4, 2) := by decide +kernel
theorem dX10_next_93 : decode cX10_next 93 = .ok (.iinc 5 1, 3) := by decide +kernel
theorem dX10_next_96 : decode cX10_next 96 = .ok (.goto (-32), 3) := by decide +kernel
theorem dX10_next_99 : decode cX10_next 99 = .ok (.iload_n 2, 1) := by decide +kernel
theorem dX10_next_100 : decode cX10_next 100 = .ok (.ifCond .ne 14, 3) := by decide +kernel
theorem dX10_next_103 : decode cX10_next 103 = .ok (.aload_n 3, 1) := by decide +kernel
theorem dX10_next_104 : decode cX10_next 104 = .ok (.getfield 284, 3) := by decide +kernel
theorem dX10_next_107 : decode cX10_next 107 = .ok (.iload 4, 2) := by decide +kernel
theorem dX10_next_109 : decode cX10_next 109 = .ok (.iaload, 1) := by decide +kernel
theorem dX10_next_110 : decode cX10_next 110 = .ok (.i2l, 1) := by decide +kernel
theorem dX10_next_111 : decode cX10_next 111 = .ok (.goto 9, 3) := by decide +kernel
theorem dX10_next_114 : decode cX10_next 114 = .ok (.aload_n 3, 1) := by decide +kernel
theorem dX10_next_115 : decode cX10_next 115 = .ok (.iload 4, 2) := by decide +kernel
theorem dX10_next_117 : decode cX10_next 117 = .ok (.invokevirtual 280, 3) := by decide +kernel
theorem dX10_next_120 : decode cX10_next 120 = .ok (.lreturn, 1) := by decide +kernel
theorem dX10_mustGo_0 : decode cX10_mustGo 0 = .ok (.iload_n 1, 1) := by decide +kernel
theorem dX10_mustGo_1 : decode cX10_mustGo 1 = .ok (.invokestatic 144, 3) := by decide +kernel
theorem dX10_mustGo_4 : decode cX10_mustGo 4 = .ok (.ifCond .ne 5, 3) := by decide +kernel
theorem dX10_mustGo_7 : decode cX10_mustGo 7 = .ok (.iconst (-1), 1) := by decide +kernel
theorem dX10_mustGo_8 : decode cX10_mustGo 8 = .ok (.ireturn, 1) := by decide +kernel
theorem dX10_mustGo_9 : decode cX10_mustGo 9 = .ok (.aload_n 0, 1) := by decide +kernel
theorem dX10_mustGo_10 : decode cX10_mustGo 10 = .ok (.getfield 12, 3) := by decide +kernel
theorem dX10_mustGo_13 : decode cX10_mustGo 13 = .ok (.getfield 147, 3) := by decide +kernel
theorem dX10_mustGo_16 : decode cX10_mustGo 16 = .ok (.iload_n 1, 1) := by decide +kernel
theorem dX10_mustGo_17 : decode cX10_mustGo 17 = .ok (.aaload, 1) := by decide +kernel
theorem dX10_mustGo_18 : decode cX10_mustGo 18 = .ok (.invokevirtual 231, 3) := by decide +kernel
theorem dX10_mustGo_21 : decode cX10_mustGo 21 = .ok (.ifCond .ne 6, 3) := by decide +kernel
theorem dX10_mustGo_24 : decode cX10_mustGo 24 = .ok (.bipush (-2), 2) := by decide +kernel
theorem dX10_mustGo_26 : decode cX10_mustGo 26 = .ok (.ireturn, 1) := by decide +kernel
theorem dX10_mustGo_27 : decode cX10_mustGo 27 = .ok (.aload_n 0, 1) := by decide +kernel
theorem dX10_mustGo_28 : decode cX10_mustGo 28 = .ok (.getfield 12, 3) := by decide +kernel
theorem dX10_mustGo_31 : decode cX10_mustGo 31 = .ok (.getfield 157, 3) := by decide +kernel
theorem dX10_mustGo_34 : decode cX10_mustGo 34 = .ok (.iload_n 1, 1) := by decide +kernel
theorem dX10_mustGo_35 : decode cX10_mustGo 35 = .ok (.invokevirtual 286, 3) := by decide +kernel
theorem dX10_mustGo_38 : decode cX10_mustGo 38 = .ok (.istore_n 2, 1) := by decide +kernel
theorem dX10_mustGo_39 : decode cX10_mustGo 39 = .ok (.aload_n 0, 1) := by decide +kernel
theorem dX10_mustGo_40 : decode cX10_mustGo 40 = .ok (.iload_n 1, 1) := by decide +kernel
theorem dX10_mustGo_41 : decode cX10_mustGo 41 = .ok (.iconst 0, 1) := by decide +kernel
theorem dX10_mustGo_42 : decode cX10_mustGo 42 = .ok (.invokevirtual 289, 3) := by decide +kernel
theorem dX10_mustGo_45 : decode cX10_mustGo 45 = .ok (.lconst 0, 1) := by decide +kernel
theorem dX10_mustGo_46 : decode cX10_mustGo 46 = .ok (.lcmp, 1) := by decide +kernel
theorem dX10_mustGo_47 : decode cX10_mustGo 47 = .ok (.ifCond .ne 6, 3) := by decide +kernel
theorem dX10_mustGo_50 : decode cX10_mustGo 50 = .ok (.bipush (-4), 2) := by decide +kernel
theorem dX10_mustGo_52 : decode cX10_mustGo 52 = .ok (.ireturn, 1) := by decide +kernel
theorem dX10_mustGo_53 : decode cX10_mustGo 53 = .ok (.iload_n 2, 1) := by decide +kernel
theorem dX10_mustGo_54 : decode cX10_mustGo 54 = .ok (.istore_n 3, 1) := by decide +kernel
theorem dX10_mustGo_55 : decode cX10_mustGo 55 = .ok (.iconst 0, 1) := by decide +kernel
theorem dX10_mustGo_56 : decode cX10_mustGo 56 = .ok (.istore 4, 2) := by decide +kernel
theorem dX10_mustGo_58 : decode cX10_mustGo 58 = .ok (.iload 4, 2) := by decide +kernel
theorem dX10_mustGo_60 : decode cX10_mustGo 60 = .ok (.iload_n 2, 1) := by decide +kernel
theorem dX10_mustGo_61 : decode cX10_mustGo 61 = .ok (.if_icmp .ge 61, 3) := by decide +kernel
theorem dX10_mustGo_64 : decode cX10_mustGo 64 = .ok (.iload 4, 2) := by decide +kernel
theorem dX10_mustGo_66 : decode cX10_mustGo 66 = .ok (.invokestatic 292, 3) := by decide +kernel
theorem dX10_mustGo_69 : decode cX10_mustGo 69 = .ok (.iload_n 3, 1) := by decide +kernel
theorem dX10_mustGo_70 : decode cX10_mustGo 70 = .ok (.invokestatic 292, 3) := by decide +kernel
theorem dX10_mustGo_73 : decode cX10_mustGo 73 = .ok (.if_icmp .ge 7, 3) := by decide +kernel
theorem dX10_mustGo_76 : decode cX10_mustGo 76 = .ok (.iconst 1, 1) := by decide +kernel
theorem dX10_mustGo_77 : decode cX10_mustGo 77 = .ok (.goto 4, 3) := by decide +kernel
theorem dX10_mustGo_80 : decode cX10_mustGo 80 = .ok (.iconst 0, 1) := by decide +kernel
theorem dX10_mustGo_81 : decode cX10_mustGo 81 = .ok (.istore 5, 2) := by decide +kernel
theorem dX10_mustGo_83 : decode cX10_mustGo 83 = .ok (.iload 4, 2) := by decide +kernel
theorem dX10_mustGo_85 : decode cX10_mustGo 85 = .ok (.iload_n 2, 1) := by decide +kernel
theorem dX10_mustGo_86 : decode cX10_mustGo 86 = .ok (.iconst (-1), 1) := by decide +kernel
theorem dX10_mustGo_87 : decode cX10_mustGo 87 = .ok (.ixor, 1) := by decide +kernel
theorem dX10_mustGo_88 : decode cX10_mustGo 88 = .ok (.iand, 1) := by decide +kernel
theorem dX10_mustGo_89 : decode cX10_mustGo 89 = .ok (.ifCond .ne 27, 3) := by decide +kernel
theorem dX10_mustGo_92 : decode cX10_mustGo 92 = .ok (.iload 5, 2) := by decide +kernel
theorem dX10_mustGo_94 : decode cX10_mustGo 94 = .ok (.ifCond .eq 22, 3) := by decide +kernel
theorem dX10_mustGo_97 : decode cX10_mustGo 97 = .ok (.aload_n 0, 1) := by decide +kernel
theorem dX10_mustGo_98 : decode cX10_mustGo 98 = .ok (.iload_n 1, 1) := by decide +kernel
theorem dX10_mustGo_99 : decode cX10_mustGo 99 = .ok (.iload_n 2, 1) := by decide +kernel
theorem dX10_mustGo_100 : decode cX10_mustGo 100 = .ok (.iload 4, 2) := by decide +kernel
theorem dX10_mustGo_102 : decode cX10_mustGo 102 = .ok (.iconst (-1), 1) := by decide +kernel
theorem dX10_mustGo_103 : decode cX10_mustGo 103 = .ok (.ixor, 1) := by decide +kernel
theorem dX10_mustGo_104 : decode cX10_mustGo 104 = .ok (.iand, 1) := by decide +kernel
theorem dX10_mustGo_105 : decode cX10_mustGo 105 = .ok (.invokevirtual 289, 3) := by decide +kernel
theorem dX10_mustGo_108 : decode cX10_mustGo 108 = .ok (.lconst 0, 1) := by decide +kernel
theorem dX10_mustGo_109 : decode cX10_mustGo 109 = .ok (.lcmp, 1) := by decide +kernel
theorem dX10_mustGo_110 : decode cX10_mustGo 110 = .ok (.ifCond .le 6, 3) := by decide +kernel
theorem dX10_mustGo_113 : decode cX10_mustGo 113 = .ok (.iload 4, 2) := by decide +kernel
theorem dX10_mustGo_115 : decode cX10_mustGo 115 = .ok (.istore_n 3, 1) := by decide +kernel
theorem dX10_mustGo_116 : decode cX10_mustGo 116 = .ok (.iinc 4 1, 3) := by decide +kernel
theorem dX10_mustGo_119 : decode cX10_mustGo 119 = .ok (.goto (-61), 3) := by decide +kernel
theorem dX10_mustGo_122 : decode cX10_mustGo 122 = .ok (.iload_n 3, 1) := by decide +kernel
theorem dX10_mustGo_123 : decode cX10_mustGo 123 = .ok (.ireturn, 1) := by decide +kernel
theorem dX10_leans_0 : decode cX10_leans 0 = .ok (.iload_n 1, 1) := by decide +kernel
theorem dX10_leans_1 : decode cX10_leans 1 = .ok (.iconst 0, 1) := by decide +kernel
theorem dX10_leans_2 : decode cX10_leans 2 = .ok (.aload_n 0, 1) := by decide +kernel
theorem dX10_leans_3 : decode cX10_leans 3 = .ok (.getfield 12, 3) := by decide +kernel
theorem dX10_leans_6 : decode cX10_leans 6 = .ok (.getfield 157, 3) := by decide +kernel
theorem dX10_leans_9 : decode cX10_leans 9 = .ok (.getfield 210, 3) := by decide +kernel
theorem dX10_leans_12 : decode cX10_leans 12 = .ok (.iconst 1, 1) := by decide +kernel
theorem dX10_leans_13 : decode cX10_leans 13 = .ok (.isub, 1) := by decide +kernel
theorem dX10_leans_14 : decode cX10_leans 14 = .ok (.invokestatic 69, 3) := by decide +kernel
theorem dX10_leans_17 : decode cX10_leans 17 = .ok (.ifCond .eq 12, 3) := by decide +kernel
theorem dX10_leans_20 : decode cX10_leans 20 = .ok (.iload_n 3, 1) := by decide +kernel
theorem dX10_leans_21 : decode cX10_leans 21 = .ok (.iconst 0, 1) := by decide +kernel
theorem dX10_leans_22 : decode cX10_leans 22 = .ok (.iconst 1, 1) := by decide +kernel
theorem dX10_leans_23 : decode cX10_leans 23 = .ok (.invokestatic 69, 3) := by decide +kernel
theorem dX10_leans_26 : decode cX10_leans 26 = .ok (.ifCond .ne 7, 3) := by decide +kernel
theorem dX10_leans_29 : decode cX10_leans 29 = .ok (.sipush (-1001), 3) := by decide +kernel
theorem dX10_leans_32 : decode cX10_leans 32 = .ok (.ireturn, 1) := by decide +kernel
theorem dX10_leans_33 : decode cX10_leans 33 = .ok (.aload_n 0, 1) := by decide +kernel
theorem dX10_leans_34 : decode cX10_leans 34 = .ok (.getfield 12, 3) := by decide +kernel
theorem dX10_leans_37 : decode cX10_leans 37 = .ok (.getfield 157, 3) := by decide +kernel
theorem dX10_leans_40 : decode cX10_leans 40 = .ok (.getfield 219, 3) := by decide +kernel
theorem dX10_leans_43 : decode cX10_leans 43 = .ok (.iload_n 1, 1) := by decide +kernel
theorem dX10_leans_44 : decode cX10_leans 44 = .ok (.iaload, 1) := by decide +kernel
theorem dX10_leans_45 : decode cX10_leans 45 = .ok (.istore 4, 2) := by decide +kernel
theorem dX10_leans_47 : decode cX10_leans 47 = .ok (.aload_n 0, 1) := by decide +kernel
theorem dX10_leans_48 : decode cX10_leans 48 = .ok (.iload 4, 2) := by decide +kernel
theorem dX10_leans_50 : decode cX10_leans 50 = .ok (.iload_n 2, 1) := by decide +kernel
theorem dX10_leans_51 : decode cX10_leans 51 = .ok (.invokevirtual 170, 3) := by decide +kernel
theorem dX10_leans_54 : decode cX10_leans 54 = .ok (.ifCond .ne 7, 3) := by decide +kernel
theorem dX10_leans_57 : decode cX10_leans 57 = .ok (.sipush (-1001), 3) := by decide +kernel
theorem dX10_leans_60 : decode cX10_leans 60 = .ok (.ireturn, 1) := by decide +kernel
theorem dX10_leans_61 : decode cX10_leans 61 = .ok (.aload_n 0, 1) := by decide +kernel
theorem dX10_leans_62 : decode cX10_leans 62 = .ok (.getfield 12, 3) := by decide +kernel
theorem dX10_leans_65 : decode cX10_leans 65 = .ok (.getfield 147, 3) := by decide +kernel
theorem dX10_leans_68 : decode cX10_leans 68 = .ok (.iload 4, 2) := by decide +kernel
theorem dX10_leans_70 : decode cX10_leans 70 = .ok (.aaload, 1) := by decide +kernel
theorem dX10_leans_71 : decode cX10_leans 71 = .ok (.iload_n 2, 1) := by decide +kernel
theorem dX10_leans_72 : decode cX10_leans 72 = .ok (.invokevirtual 177, 3) := by decide +kernel
theorem dX10_leans_75 : decode cX10_leans 75 = .ok (.ifCond .ne 7, 3) := by decide +kernel
theorem dX10_leans_78 : decode cX10_leans 78 = .ok (.sipush (-1012), 3) := by decide +kernel
theorem dX10_leans_81 : decode cX10_leans 81 = .ok (.ireturn, 1) := by decide +kernel
theorem dX10_leans_82 : decode cX10_leans 82 = .ok (.aload_n 0, 1) := by decide +kernel
theorem dX10_leans_83 : decode cX10_leans 83 = .ok (.getfield 12, 3) := by decide +kernel
theorem dX10_leans_86 : decode cX10_leans 86 = .ok (.getfield 157, 3) := by decide +kernel
theorem dX10_leans_89 : decode cX10_leans 89 = .ok (.iload 4, 2) := by decide +kernel
theorem dX10_leans_91 : decode cX10_leans 91 = .ok (.invokevirtual 286, 3) := by decide +kernel
theorem dX10_leans_94 : decode cX10_leans 94 = .ok (.iconst 1, 1) := by decide +kernel
theorem dX10_leans_95 : decode cX10_leans 95 = .ok (.iload_n 1, 1) := by decide +kernel
theorem dX10_leans_96 : decode cX10_leans 96 = .ok (.ishl, 1) := by decide +kernel
theorem dX10_leans_97 : decode cX10_leans 97 = .ok (.iconst (-1), 1) := by decide +kernel
theorem dX10_leans_98 : decode cX10_leans 98 = .ok (.ixor, 1) := by decide +kernel
theorem dX10_leans_99 : decode cX10_leans 99 = .ok (.iand, 1) := by decide +kernel
theorem dX10_leans_100 : decode cX10_leans 100 = .ok (.istore 5, 2) := by decide +kernel
theorem dX10_leans_102 : decode cX10_leans 102 = .ok (.aload_n 0, 1) := by decide +kernel
theorem dX10_leans_103 : decode cX10_leans 103 = .ok (.iload 4, 2) := by decide +kernel
theorem dX10_leans_105 : decode cX10_leans 105 = .ok (.iload_n 2, 1) := by decide +kernel
theorem dX10_leans_106 : decode cX10_leans 106 = .ok (.iload_n 3, 1) := by decide +kernel
theorem dX10_leans_107 : decode cX10_leans 107 = .ok (.iload 5, 2) := by decide +kernel
theorem dX10_leans_109 : decode cX10_leans 109 = .ok (.iconst 1, 1) := by decide +kernel
theorem dX10_leans_110 : decode cX10_leans 110 = .ok (.iload_n 1, 1) := by decide +kernel
theorem dX10_leans_111 : decode cX10_leans 111 = .ok (.ishl, 1) := by decide +kernel
theorem dX10_leans_112 : decode cX10_leans 112 = .ok (.ior, 1) := by decide +kernel
theorem dX10_leans_113 : decode cX10_leans 113 = .ok (.invokevirtual 304, 3) := by decide +kernel
theorem dX10_leans_116 : decode cX10_leans 116 = .ok (.istore 6, 2) := by decide +kernel
theorem dX10_leans_118 : decode cX10_leans 118 = .ok (.aload_n 0, 1) := by decide +kernel
theorem dX10_leans_119 : decode cX10_leans 119 = .ok (.iload 4, 2) := by decide +kernel
theorem dX10_leans_121 : decode cX10_leans 121 = .ok (.iload_n 2, 1) := by decide +kernel
theorem dX10_leans_122 : decode cX10_leans 122 = .ok (.iload_n 3, 1) := by decide +kernel
theorem dX10_leans_123 : decode cX10_leans 123 = .ok (.iload 5, 2) := by decide +kernel
theorem dX10_leans_125 : decode cX10_leans 125 = .ok (.invokevirtual 304, 3) := by decide +kernel
theorem dX10_leans_128 : decode cX10_leans 128 = .ok (.istore 7, 2) := by decide +kernel
theorem dX10_leans_130 : decode cX10_leans 130 = .ok (.iload 6, 2) := by decide +kernel
theorem dX10_leans_132 : decode cX10_leans 132 = .ok (.ifCond .lt 8, 3) := by decide +kernel
theorem dX10_leans_135 : decode cX10_leans 135 = .ok (.iload 7, 2) := by decide +kernel
theorem dX10_leans_137 : decode cX10_leans 137 = .ok (.ifCond .ge 9, 3) := by decide +kernel
theorem dX10_leans_140 : decode cX10_leans 140 = .ok (.sipush (-1004), 3) := by decide +kernel
theorem dX10_leans_143 : decode cX10_leans 143 = .ok (.goto 8, 3) := by decide +kernel
theorem dX10_leans_146 : decode cX10_leans 146 = .ok (.iload 7, 2) := by decide +kernel
theorem dX10_leans_148 : decode cX10_leans 148 = .ok (.iload 6, 2) := by decide +kernel
theorem dX10_leans_150 : decode cX10_leans 150 = .ok (.isub, 1) := by decide +kernel
theorem dX10_leans_151 : decode cX10_leans 151 = .ok (.ireturn, 1) := by decide +kernel
theorem dX10_judge_0 : decode cX10_judge 0 = .ok (.iload_n 1, 1) := by decide +kernel
theorem dX10_judge_1 : decode cX10_judge 1 = .ok (.invokestatic 144, 3) := by decide +kernel
theorem dX10_judge_4 : decode cX10_judge 4 = .ok (.ifCond .eq 11, 3) := by decide +kernel
theorem dX10_judge_7 : decode cX10_judge 7 = .ok (.iload_n 2, 1) := by decide +kernel
theorem dX10_judge_8 : decode cX10_judge 8 = .ok (.iload_n 3, 1) := by decide +kernel
theorem dX10_judge_9 : decode cX10_judge 9 = .ok (.invokestatic 87, 3) := by decide +kernel
theorem dX10_judge_12 : decode cX10_judge 12 = .ok (.ifCond .ne 5, 3) := by decide +kernel
theorem dX10_judge_15 : decode cX10_judge 15 = .ok (.iconst (-1), 1) := by decide +kernel
theorem dX10_judge_16 : decode cX10_judge 16 = .ok (.ireturn, 1) := by decide +kernel
theorem dX10_judge_17 : decode cX10_judge 17 = .ok (.aload_n 0, 1) := by decide +kernel
theorem dX10_judge_18 : decode cX10_judge 18 = .ok (.getfield 12, 3) := by decide +kernel
theorem dX10_judge_21 : decode cX10_judge 21 = .ok (.getfield 147, 3) := by decide +kernel
theorem dX10_judge_24 : decode cX10_judge 24 = .ok (.iload_n 1, 1) := by decide +kernel
theorem dX10_judge_25 : decode cX10_judge 25 = .ok (.aaload, 1) := by decide +kernel
theorem dX10_judge_26 : decode cX10_judge 26 = .ok (.invokevirtual 231, 3) := by decide +kernel
theorem dX10_judge_29 : decode cX10_judge 29 = .ok (.istore 5, 2) := by decide +kernel
theorem dX10_judge_31 : decode cX10_judge 31 = .ok (.iload 5, 2) := by decide +kernel
theorem dX10_judge_33 : decode cX10_judge 33 = .ok (.ifCond .ne 6, 3) := by decide +kernel
theorem dX10_judge_36 : decode cX10_judge 36 = .ok (.bipush (-2), 2) := by decide +kernel
theorem dX10_judge_38 : decode cX10_judge 38 = .ok (.ireturn, 1) := by decide +kernel
theorem dX10_judge_39 : decode cX10_judge 39 = .ok (.aload_n 0, 1) := by decide +kernel
theorem dX10_judge_40 : decode cX10_judge 40 = .ok (.getfield 43, 3) := by decide +kernel
theorem dX10_judge_43 : decode cX10_judge 43 = .ok (.iload_n 2, 1) := by decide +kernel
theorem dX10_judge_44 : decode cX10_judge 44 = .ok (.aaload, 1) := by decide +kernel
theorem dX10_judge_45 : decode cX10_judge 45 = .ok (.iload_n 3, 1) := by decide +kernel
theorem dX10_judge_46 : decode cX10_judge 46 = .ok (.iload 4, 2) := by decide +kernel
theorem dX10_judge_48 : decode cX10_judge 48 = .ok (.iload 5, 2) := by decide +kernel
theorem dX10_judge_50 : decode cX10_judge 50 = .ok (.invokevirtual 90, 3) := by decide +kernel
theorem dX10_judge_53 : decode cX10_judge 53 = .ok (.istore 6, 2) := by decide +kernel
theorem dX10_judge_55 : decode cX10_judge 55 = .ok (.iload 6, 2) := by decide +kernel
theorem dX10_judge_57 : decode cX10_judge 57 = .ok (.ifCond .eq 6, 3) := by decide +kernel
theorem dX10_judge_60 : decode cX10_judge 60 = .ok (.iload 6, 2) := by decide +kernel
theorem dX10_judge_62 : decode cX10_judge 62 = .ok (.ireturn, 1) := by decide +kernel
theorem dX10_judge_63 : decode cX10_judge 63 = .ok (.aload_n 0, 1) := by decide +kernel
theorem dX10_judge_64 : decode cX10_judge 64 = .ok (.iload_n 1, 1) := by decide +kernel
theorem dX10_judge_65 : decode cX10_judge 65 = .ok (.invokevirtual 238, 3) := by decide +kernel
theorem dX10_judge_68 : decode cX10_judge 68 = .ok (.astore 7, 2) := by decide +kernel
theorem dX10_judge_70 : decode cX10_judge 70 = .ok (.aload 7, 2) := by decide +kernel
theorem dX10_judge_72 : decode cX10_judge 72 = .ok (.aload_n 0, 1) := by decide +kernel
theorem dX10_judge_73 : decode cX10_judge 73 = .ok (.getfield 43, 3) := by decide +kernel
theorem dX10_judge_76 : decode cX10_judge 76 = .ok (.iload_n 2, 1) := by decide +kernel
theorem dX10_judge_77 : decode cX10_judge 77 = .ok (.aaload, 1) := by decide +kernel
theorem dX10_judge_78 : decode cX10_judge 78 = .ok (.getfield 94, 3) := by decide +kernel
theorem dX10_judge_81 : decode cX10_judge 81 = .ok (.iload 4, 2) := by decide +kernel
theorem dX10_judge_83 : decode cX10_judge 83 = .ok (.invokevirtual 311, 3) := by decide +kernel
theorem dX10_judge_86 : decode cX10_judge 86 = .ok (.istore 8, 2) := by decide +kernel
theorem dX10_judge_88 : decode cX10_judge 88 = .ok (.iload 8, 2) := by decide +kernel
theorem dX10_judge_90 : decode cX10_judge 90 = .ok (.ifCond .ge 8, 3) := by decide +kernel
theorem dX10_judge_93 : decode cX10_judge 93 = .ok (.bipush (-4), 2) := by decide +kernel
theorem dX10_judge_95 : decode cX10_judge 95 = .ok (.goto 11, 3) := by decide +kernel
theorem dX10_judge_98 : decode cX10_judge 98 = .ok (.aload 7, 2) := by decide +kernel
theorem dX10_judge_100 : decode cX10_judge 100 = .ok (.getfield 284, 3) := by decide +kernel
theorem dX10_judge_103 : decode cX10_judge 103 = .ok (.iload 8, 2) := by decide +kernel
theorem dX10_judge_105 : decode cX10_judge 105 = .ok (.iaload, 1) := by decide +kernel
theorem dX10_judge_106 : decode cX10_judge 106 = .ok (.ireturn, 1) := by decide +kernel
theorem dX10_oneYear_0 : decode cX10_oneYear 0 = .ok (.aload_n 0, 1) := by decide +kernel
theorem dX10_oneYear_1 : decode cX10_oneYear 1 = .ok (.iconst 0, 1) := by decide +kernel
theorem dX10_oneYear_2 : decode cX10_oneYear 2 = .ok (.iload_n 1, 1) := by decide +kernel
theorem dX10_oneYear_3 : decode cX10_oneYear 3 = .ok (.invokevirtual 170, 3) := by decide +kernel
theorem dX10_oneYear_6 : decode cX10_oneYear 6 = .ok (.ifCond .eq 21, 3) := by decide +kernel
theorem dX10_oneYear_9 : decode cX10_oneYear 9 = .ok (.aload_n 0, 1) := by decide +kernel
theorem dX10_oneYear_10 : decode cX10_oneYear 10 = .ok (.iconst 1, 1) := by decide +kernel
theorem dX10_oneYear_11 : decode cX10_oneYear 11 = .ok (.iload_n 2, 1) := by decide +kernel
theorem dX10_oneYear_12 : decode cX10_oneYear 12 = .ok (.invokevirtual 170, 3) := by decide +kernel
theorem dX10_oneYear_15 : decode cX10_oneYear 15 = .ok (.ifCond .eq 12, 3) := by decide +kernel
theorem dX10_oneYear_18 : decode cX10_oneYear 18 = .ok (.iload_n 3, 1) := by decide +kernel
theorem dX10_oneYear_19 : decode cX10_oneYear 19 = .ok (.iconst 0, 1) := by decide +kernel
theorem dX10_oneYear_20 : decode cX10_oneYear 20 = .ok (.iconst 1, 1) := by decide +kernel
theorem dX10_oneYear_21 : decode cX10_oneYear 21 = .ok (.invokestatic 69, 3) := by decide +kernel
theorem dX10_oneYear_24 : decode cX10_oneYear 24 = .ok (.ifCond .ne 7, 3) := by decide +kernel
theorem dX10_oneYear_27 : decode cX10_oneYear 27 = .ok (.ldc2_w 234, 3) := by decide +kernel
theorem dX10_oneYear_30 : decode cX10_oneYear 30 = .ok (.lreturn, 1) := by decide +kernel
theorem dX10_oneYear_31 : decode cX10_oneYear 31 = .ok (.aload_n 0, 1) := by decide +kernel
theorem dX10_oneYear_32 : decode cX10_oneYear 32 = .ok (.getfield 12, 3) := by decide +kernel
theorem dX10_oneYear_35 : decode cX10_oneYear 35 = .ok (.getfield 147, 3) := by decide +kernel
theorem dX10_oneYear_38 : decode cX10_oneYear 38 = .ok (.iconst 0, 1) := by decide +kernel
theorem dX10_oneYear_39 : decode cX10_oneYear 39 = .ok (.aaload, 1) := by decide +kernel
theorem dX10_oneYear_40 : decode cX10_oneYear 40 = .ok (.iload_n 1, 1) := by decide +kernel
theorem dX10_oneYear_41 : decode cX10_oneYear 41 = .ok (.invokevirtual 177, 3) := by decide +kernel
theorem dX10_oneYear_44 : decode cX10_oneYear 44 = .ok (.ifCond .eq 19, 3) := by decide +kernel
theorem dX10_oneYear_47 : decode cX10_oneYear 47 = .ok (.aload_n 0, 1) := by decide +kernel
theorem dX10_oneYear_48 : decode cX10_oneYear 48 = .ok (.getfield 12, 3) := by decide +kernel
theorem dX10_oneYear_51 : decode cX10_oneYear 51 = .ok (.getfield 147, 3) := by decide +kernel
theorem dX10_oneYear_54 : decode cX10_oneYear 54 = .ok (.iconst 1, 1) := by decide +kernel
theorem dX10_oneYear_55 : decode cX10_oneYear 55 = .ok (.aaload, 1) := by decide +kernel
theorem dX10_oneYear_56 : decode cX10_oneYear 56 = .ok (.iload_n 2, 1) := by decide +kernel
theorem dX10_oneYear_57 : decode cX10_oneYear 57 = .ok (.invokevirtual 177, 3) := by decide +kernel
theorem dX10_oneYear_60 : decode cX10_oneYear 60 = .ok (.ifCond .ne 7, 3) := by decide +kernel
theorem dX10_oneYear_63 : decode cX10_oneYear 63 = .ok (.ldc2_w 252, 3) := by decide +kernel
theorem dX10_oneYear_66 : decode cX10_oneYear 66 = .ok (.lreturn, 1) := by decide +kernel
theorem dX10_oneYear_67 : decode cX10_oneYear 67 = .ok (.aload_n 0, 1) := by decide +kernel
theorem dX10_oneYear_68 : decode cX10_oneYear 68 = .ok (.iconst 0, 1) := by decide +kernel
theorem dX10_oneYear_69 : decode cX10_oneYear 69 = .ok (.invokevirtual 238, 3) := by decide +kernel
theorem dX10_oneYear_72 : decode cX10_oneYear 72 = .ok (.astore 4, 2) := by decide +kernel
theorem dX10_oneYear_74 : decode cX10_oneYear 74 = .ok (.aload_n 0, 1) := by decide +kernel
theorem dX10_oneYear_75 : decode cX10_oneYear 75 = .ok (.iconst 1, 1) := by decide +kernel
theorem dX10_oneYear_76 : decode cX10_oneYear 76 = .ok (.invokevirtual 238, 3) := by decide +kernel
theorem dX10_oneYear_79 : decode cX10_oneYear 79 = .ok (.astore 5, 2) := by decide +kernel
theorem dX10_oneYear_81 : decode cX10_oneYear 81 = .ok (.aload_n 0, 1) := by decide +kernel
theorem dX10_oneYear_82 : decode cX10_oneYear 82 = .ok (.aload 4, 2) := by decide +kernel
theorem dX10_oneYear_84 : decode cX10_oneYear 84 = .ok (.getfield 246, 3) := by decide +kernel
theorem dX10_oneYear_87 : decode cX10_oneYear 87 = .ok (.iload_n 1, 1) := by decide +kernel
theorem dX10_oneYear_88 : decode cX10_oneYear 88 = .ok (.iaload, 1) := by decide +kernel
theorem dX10_oneYear_89 : decode cX10_oneYear 89 = .ok (.aload 5, 2) := by decide +kernel
theorem dX10_oneYear_91 : decode cX10_oneYear 91 = .ok (.getfield 246, 3) := by decide +kernel
theorem dX10_oneYear_94 : decode cX10_oneYear 94 = .ok (.iload_n 2, 1) := by decide +kernel
theorem dX10_oneYear_95 : decode cX10_oneYear 95 = .ok (.iaload, 1) := by decide +kernel
theorem dX10_oneYear_96 : decode cX10_oneYear 96 = .ok (.invokevirtual 324, 3) := by decide +kernel
theorem dX10_oneYear_99 : decode cX10_oneYear 99 = .ok (.lstore 6, 2) := by decide +kernel
theorem dX10_oneYear_101 : decode cX10_oneYear 101 = .ok (.lload 6, 2) := by decide +kernel
theorem dX10_oneYear_103 : decode cX10_oneYear 103 = .ok (.aload 4, 2) := by decide +kernel
theorem dX10_oneYear_105 : decode cX10_oneYear 105 = .ok (.getfield 242, 3) := by decide +kernel
theorem dX10_oneYear_108 : decode cX10_oneYear 108 = .ok (.aload 5, 2) := by decide +kernel
theorem dX10_oneYear_110 : decode cX10_oneYear 110 = .ok (.getfield 242, 3) := by decide +kernel
theorem dX10_oneYear_113 : decode cX10_oneYear 113 = .ok (.lmul, 1) := by decide +kernel
theorem dX10_oneYear_114 : decode cX10_oneYear 114 = .ok (.iload_n 3, 1) := by decide +kernel
theorem dX10_oneYear_115 : decode cX10_oneYear 115 = .ok (.invokestatic 258, 3) := by decide +kernel
theorem dX10_oneYear_118 : decode cX10_oneYear 118 = .ok (.lreturn, 1) := by decide +kernel
theorem dX10_tie_0 : decode cX10_tie 0 = .ok (.iload_n 1, 1) := by decide +kernel
theorem dX10_tie_1 : decode cX10_tie 1 = .ok (.iconst 0, 1) := by decide +kernel
theorem dX10_tie_2 : decode cX10_tie 2 = .ok (.iconst 2, 1) := by decide +kernel
theorem dX10_tie_3 : decode cX10_tie 3 = .ok (.invokestatic 69, 3) := by decide +kernel
theorem dX10_tie_6 : decode cX10_tie 6 = .ok (.ifCond .ne 7, 3) := by decide +kernel
theorem dX10_tie_9 : decode cX10_tie 9 = .ok (.ldc2_w 234, 3) := by decide +kernel
theorem dX10_tie_12 : decode cX10_tie 12 = .ok (.lreturn, 1) := by decide +kernel
theorem dX10_tie_13 : decode cX10_tie 13 = .ok (.aload_n 0, 1) := by decide +kernel
theorem dX10_tie_14 : decode cX10_tie 14 = .ok (.getfield 12, 3) := by decide +kernel
theorem dX10_tie_17 : decode cX10_tie 17 = .ok (.getfield 147, 3) := by decide +kernel
theorem dX10_tie_20 : decode cX10_tie 20 = .ok (.iconst 0, 1) := by decide +kernel
theorem dX10_tie_21 : decode cX10_tie 21 = .ok (.aaload, 1) := by decide +kernel
theorem dX10_tie_22 : decode cX10_tie 22 = .ok (.invokevirtual 231, 3) := by decide +kernel
theorem dX10_tie_25 : decode cX10_tie 25 = .ok (.ifCond .eq 18, 3) := by decide +kernel
theorem dX10_tie_28 : decode cX10_tie 28 = .ok (.aload_n 0, 1) := by decide +kernel
theorem dX10_tie_29 : decode cX10_tie 29 = .ok (.getfield 12, 3) := by decide +kernel
theorem dX10_tie_32 : decode cX10_tie 32 = .ok (.getfield 147, 3) := by decide +kernel
theorem dX10_tie_35 : decode cX10_tie 35 = .ok (.iconst 1, 1) := by decide +kernel
theorem dX10_tie_36 : decode cX10_tie 36 = .ok (.aaload, 1) := by decide +kernel
theorem dX10_tie_37 : decode cX10_tie 37 = .ok (.invokevirtual 231, 3) := by decide +kernel
theorem dX10_tie_40 : decode cX10_tie 40 = .ok (.ifCond .ne 7, 3) := by decide +kernel
theorem dX10_tie_43 : decode cX10_tie 43 = .ok (.ldc2_w 236, 3) := by decide +kernel
theorem dX10_tie_46 : decode cX10_tie 46 = .ok (.lreturn, 1) := by decide +kernel
theorem dX10_tie_47 : decode cX10_tie 47 = .ok (.aload_n 0, 1) := by decide +kernel
theorem dX10_tie_48 : decode cX10_tie 48 = .ok (.iconst 0, 1) := by decide +kernel
theorem dX10_tie_49 : decode cX10_tie 49 = .ok (.invokevirtual 238, 3) := by decide +kernel
theorem dX10_tie_52 : decode cX10_tie 52 = .ok (.astore_n 2, 1) := by decide +kernel
theorem dX10_tie_53 : decode cX10_tie 53 = .ok (.aload_n 0, 1) := by decide +kernel
theorem dX10_tie_54 : decode cX10_tie 54 = .ok (.iconst 1, 1) := by decide +kernel
theorem dX10_tie_55 : decode cX10_tie 55 = .ok (.invokevirtual 238, 3) := by decide +kernel
theorem dX10_tie_58 : decode cX10_tie 58 = .ok (.astore_n 3, 1) := by decide +kernel
theorem dX10_tie_59 : decode cX10_tie 59 = .ok (.aload_n 2, 1) := by decide +kernel
theorem dX10_tie_60 : decode cX10_tie 60 = .ok (.getfield 242, 3) := by decide +kernel
theorem dX10_tie_63 : decode cX10_tie 63 = .ok (.lconst 0, 1) := by decide +kernel
theorem dX10_tie_64 : decode cX10_tie 64 = .ok (.lcmp, 1) := by decide +kernel
theorem dX10_tie_65 : decode cX10_tie 65 = .ok (.ifCond .eq 12, 3) := by decide +kernel
theorem dX10_tie_68 : decode cX10_tie 68 = .ok (.aload_n 3, 1) := by decide +kernel
theorem dX10_tie_69 : decode cX10_tie 69 = .ok (.getfield 242, 3) := by decide +kernel
theorem dX10_tie_72 : decode cX10_tie 72 = .ok (.lconst 0, 1) := by decide +kernel
theorem dX10_tie_73 : decode cX10_tie 73 = .ok (.lcmp, 1) := by decide +kernel
theorem dX10_tie_74 : decode cX10_tie 74 = .ok (.ifCond .ne 7, 3) := by decide +kernel
theorem dX10_tie_77 : decode cX10_tie 77 = .ok (.ldc2_w 276, 3) := by decide +kernel
theorem dX10_tie_80 : decode cX10_tie 80 = .ok (.lreturn, 1) := by decide +kernel
theorem dX10_tie_81 : decode cX10_tie 81 = .ok (.iconst 0, 1) := by decide +kernel
theorem dX10_tie_82 : decode cX10_tie 82 = .ok (.istore 4, 2) := by decide +kernel
theorem dX10_tie_84 : decode cX10_tie 84 = .ok (.iconst 0, 1) := by decide +kernel
theorem dX10_tie_85 : decode cX10_tie 85 = .ok (.istore 5, 2) := by decide +kernel
theorem dX10_tie_87 : decode cX10_tie 87 = .ok (.ldc2_w 234, 3) := by decide +kernel
theorem dX10_tie_90 : decode cX10_tie 90 = .ok (.lstore 6, 2) := by decide +kernel
theorem dX10_tie_92 : decode cX10_tie 92 = .ok (.iconst 0, 1) := by decide +kernel
theorem dX10_tie_93 : decode cX10_tie 93 = .ok (.istore 8, 2) := by decide +kernel
theorem dX10_tie_95 : decode cX10_tie 95 = .ok (.iload 8, 2) := by decide +kernel
theorem dX10_tie_97 : decode cX10_tie 97 = .ok (.aload_n 2, 1) := by decide +kernel
theorem dX10_tie_98 : decode cX10_tie 98 = .ok (.getfield 278, 3) := by decide +kernel
theorem dX10_tie_101 : decode cX10_tie 101 = .ok (.if_icmp .ge 57, 3) := by decide +kernel
theorem dX10_tie_104 : decode cX10_tie 104 = .ok (.iconst 0, 1) := by decide +kernel
theorem dX10_tie_105 : decode cX10_tie 105 = .ok (.istore 9, 2) := by decide +kernel
theorem dX10_tie_107 : decode cX10_tie 107 = .ok (.iload 9, 2) := by decide +kernel
theorem dX10_tie_109 : decode cX10_tie 109 = .ok (.aload_n 3, 1) := by decide +kernel
theorem dX10_tie_110 : decode cX10_tie 110 = .ok (.getfield 278, 3) := by decide +kernel
theorem dX10_tie_113 : decode cX10_tie 113 = .ok (.if_icmp .ge 39, 3) := by decide +kernel
theorem dX10_tie_116 : decode cX10_tie 116 = .ok (.aload_n 0, 1) := by decide +kernel
theorem dX10_tie_117 : decode cX10_tie 117 = .ok (.iload 8, 2) := by decide +kernel
theorem dX10_tie_119 : decode cX10_tie 119 = .ok (.iload 9, 2) := by decide +kernel
theorem dX10_tie_121 : decode cX10_tie 121 = .ok (.invokevirtual 324, 3) := by decide +kernel
theorem dX10_tie_124 : decode cX10_tie 124 = .ok (.lstore 10, 2) := by decide +kernel
theorem dX10_tie_126 : decode cX10_tie 126 = .ok (.lload 10, 2) := by decide +kernel
theorem dX10_tie_128 : decode cX10_tie 128 = .ok (.lload 6, 2) := by decide +kernel
theorem dX10_tie_130 : decode cX10_tie 130 = .ok (.lcmp, 1) := by decide +kernel
theorem dX10_tie_131 : decode cX10_tie 131 = .ok (.ifCond .le 15, 3) := by decide +kernel
theorem dX10_tie_134 : decode cX10_tie 134 = .ok (.lload 10, 2) := by decide +kernel
theorem dX10_tie_136 : decode cX10_tie 136 = .ok (.lstore 6, 2) := by decide +kernel
theorem dX10_tie_138 : decode cX10_tie 138 = .ok (.iload 8, 2) := by decide +kernel
theorem dX10_tie_140 : decode cX10_tie 140 = .ok (.istore 4, 2) := by decide +kernel
theorem dX10_tie_142 : decode cX10_tie 142 = .ok (.iload 9, 2) := by decide +kernel
theorem dX10_tie_144 : decode cX10_tie 144 = .ok (.istore 5, 2) := by decide +kernel
theorem dX10_tie_146 : decode cX10_tie 146 = .ok (.iinc 9 1, 3) := by decide +kernel
theorem dX10_tie_149 : decode cX10_tie 149 = .ok (.goto (-42), 3) := by decide +kernel
theorem dX10_tie_152 : decode cX10_tie 152 = .ok (.iinc 8 1, 3) := by decide +kernel
theorem dX10_tie_155 : decode cX10_tie 155 = .ok (.goto (-60), 3) := by decide +kernel
theorem dX10_tie_158 : decode cX10_tie 158 = .ok (.iload_n 1, 1) := by decide +kernel
theorem dX10_tie_159 : decode cX10_tie 159 = .ok (.ifCond .ne 14, 3) := by decide +kernel
theorem dX10_tie_162 : decode cX10_tie 162 = .ok (.aload_n 2, 1) := by decide +kernel
theorem dX10_tie_163 : decode cX10_tie 163 = .ok (.getfield 284, 3) := by decide +kernel
theorem dX10_tie_166 : decode cX10_tie 166 = .ok (.iload 4, 2) := by decide +kernel
theorem dX10_tie_168 : decode cX10_tie 168 = .ok (.iaload, 1) := by decide +kernel
theorem dX10_tie_169 : decode cX10_tie 169 = .ok (.i2l, 1) := by decide +kernel
theorem dX10_tie_170 : decode cX10_tie 170 = .ok (.goto 21, 3) := by decide +kernel
theorem dX10_tie_173 : decode cX10_tie 173 = .ok (.iload_n 1, 1) := by decide +kernel
theorem dX10_tie_174 : decode cX10_tie 174 = .ok (.iconst 1, 1) := by decide +kernel
theorem dX10_tie_175 : decode cX10_tie 175 = .ok (.if_icmp .ne 14, 3) := by decide +kernel
theorem dX10_tie_178 : decode cX10_tie 178 = .ok (.aload_n 3, 1) := by decide +kernel
theorem dX10_tie_179 : decode cX10_tie 179 = .ok (.getfield 284, 3) := by decide +kernel
theorem dX10_tie_182 : decode cX10_tie 182 = .ok (.iload 5, 2) := by decide +kernel
theorem dX10_tie_184 : decode cX10_tie 184 = .ok (.iaload, 1) := by decide +kernel
theorem dX10_tie_185 : decode cX10_tie 185 = .ok (.i2l, 1) := by decide +kernel
theorem dX10_tie_186 : decode cX10_tie 186 = .ok (.goto 5, 3) := by decide +kernel
theorem dX10_tie_189 : decode cX10_tie 189 = .ok (.lload 6, 2) := by decide +kernel
theorem dX10_tie_191 : decode cX10_tie 191 = .ok (.lreturn, 1) := by decide +kernel
theorem dX10_claim_0 : decode cX10_claim 0 = .ok (.aload_n 0, 1) := by decide +kernel
theorem dX10_claim_1 : decode cX10_claim 1 = .ok (.getfield 22, 3) := by decide +kernel
theorem dX10_claim_4 : decode cX10_claim 4 = .ok (.aload_n 0, 1) := by decide +kernel
theorem dX10_claim_5 : decode cX10_claim 5 = .ok (.getfield 36, 3) := by decide +kernel
theorem dX10_claim_8 : decode cX10_claim 8 = .ok (.invokevirtual 327, 3) := by decide +kernel
theorem dX10_claim_11 : decode cX10_claim 11 = .ok (.istore_n 1, 1) := by decide +kernel
theorem dX10_claim_12 : decode cX10_claim 12 = .ok (.iload_n 1, 1) := by decide +kernel
theorem dX10_claim_13 : decode cX10_claim 13 = .ok (.ifCond .eq 13, 3) := by decide +kernel
theorem dX10_claim_16 : decode cX10_claim 16 = .ok (.aload_n 0, 1) := by decide +kernel
theorem dX10_claim_17 : decode cX10_claim 17 = .ok (.getfield 22, 3) := by decide +kernel
theorem dX10_claim_20 : decode cX10_claim 20 = .ok (.iconst 0, 1) := by decide +kernel
theorem dX10_claim_21 : decode cX10_claim 21 = .ok (.putfield 116, 3) := by decide +kernel
theorem dX10_claim_24 : decode cX10_claim 24 = .ok (.iload_n 1, 1) := by decide +kernel
theorem dX10_claim_25 : decode cX10_claim 25 = .ok (.ireturn, 1) := by decide +kernel
theorem dX10_claim_26 : decode cX10_claim 26 = .ok (.aload_n 0, 1) := by decide +kernel
theorem dX10_claim_27 : decode cX10_claim 27 = .ok (.getfield 12, 3) := by decide +kernel
theorem dX10_claim_30 : decode cX10_claim 30 = .ok (.getfield 225, 3) := by decide +kernel
theorem dX10_claim_33 : decode cX10_claim 33 = .ok (.iconst 4, 1) := by decide +kernel
theorem dX10_claim_34 : decode cX10_claim 34 = .ok (.if_icmp .ne 6, 3) := by decide +kernel
theorem dX10_claim_37 : decode cX10_claim 37 = .ok (.bipush (-3), 2) := by decide +kernel
theorem dX10_claim_39 : decode cX10_claim 39 = .ok (.ireturn, 1) := by decide +kernel
theorem dX10_claim_40 : decode cX10_claim 40 = .ok (.aload_n 0, 1) := by decide +kernel
theorem dX10_claim_41 : decode cX10_claim 41 = .ok (.getfield 22, 3) := by decide +kernel
theorem dX10_claim_44 : decode cX10_claim 44 = .ok (.iconst 0, 1) := by decide +kernel
theorem dX10_claim_45 : decode cX10_claim 45 = .ok (.putfield 116, 3) := by decide +kernel
theorem dX10_claim_48 : decode cX10_claim 48 = .ok (.aload_n 0, 1) := by decide +kernel
theorem dX10_claim_49 : decode cX10_claim 49 = .ok (.getfield 12, 3) := by decide +kernel
theorem dX10_claim_52 : decode cX10_claim 52 = .ok (.getfield 331, 3) := by decide +kernel
theorem dX10_claim_55 : decode cX10_claim 55 = .ok (.aload_n 0, 1) := by decide +kernel
theorem dX10_claim_56 : decode cX10_claim 56 = .ok (.getfield 12, 3) := by decide +kernel
theorem dX10_claim_59 : decode cX10_claim 59 = .ok (.getfield 225, 3) := by decide +kernel
theorem dX10_claim_62 : decode cX10_claim 62 = .ok (.aaload, 1) := by decide +kernel
theorem dX10_claim_63 : decode cX10_claim 63 = .ok (.aload_n 0, 1) := by decide +kernel
theorem dX10_claim_64 : decode cX10_claim 64 = .ok (.getfield 36, 3) := by decide +kernel
theorem dX10_claim_67 : decode cX10_claim 67 = .ok (.invokevirtual 335, 3) := by decide +kernel
theorem dX10_claim_70 : decode cX10_claim 70 = .ok (.aload_n 0, 1) := by decide +kernel
theorem dX10_claim_71 : decode cX10_claim 71 = .ok (.getfield 12, 3) := by decide +kernel
theorem dX10_claim_74 : decode cX10_claim 74 = .ok (.dup, 1) := by decide +kernel
theorem dX10_claim_75 : decode cX10_claim 75 = .ok (.getfield 225, 3) := by decide +kernel
theorem dX10_claim_78 : decode cX10_claim 78 = .ok (.iconst 1, 1) := by decide +kernel
theorem dX10_claim_79 : decode cX10_claim 79 = .ok (.iadd, 1) := by decide +kernel
theorem dX10_claim_80 : decode cX10_claim 80 = .ok (.putfield 225, 3) := by decide +kernel
theorem dX10_claim_83 : decode cX10_claim 83 = .ok (.aload_n 0, 1) := by decide +kernel
theorem dX10_claim_84 : decode cX10_claim 84 = .ok (.getfield 12, 3) := by decide +kernel
theorem dX10_claim_87 : decode cX10_claim 87 = .ok (.getfield 225, 3) := by decide +kernel
theorem dX10_claim_90 : decode cX10_claim 90 = .ok (.iconst 1, 1) := by decide +kernel
theorem dX10_claim_91 : decode cX10_claim 91 = .ok (.isub, 1) := by decide +kernel
theorem dX10_claim_92 : decode cX10_claim 92 = .ok (.ireturn, 1) := by decide +kernel
theorem dX10_chance_0 : decode cX10_chance 0 = .ok (.aload_n 0, 1) := by decide +kernel
theorem dX10_chance_1 : decode cX10_chance 1 = .ok (.iload_n 1, 1) := by decide +kernel
theorem dX10_chance_2 : decode cX10_chance 2 = .ok (.invokevirtual 338, 3) := by decide +kernel
theorem dX10_chance_5 : decode cX10_chance 5 = .ok (.ifCond .eq 19, 3) := by decide +kernel
theorem dX10_chance_8 : decode cX10_chance 8 = .ok (.iload_n 2, 1) := by decide +kernel
theorem dX10_chance_9 : decode cX10_chance 9 = .ok (.invokestatic 144, 3) := by decide +kernel
theorem dX10_chance_12 : decode cX10_chance 12 = .ok (.ifCond .eq 12, 3) := by decide +kernel
theorem dX10_chance_15 : decode cX10_chance 15 = .ok (.iload_n 3, 1) := by decide +kernel
theorem dX10_chance_16 : decode cX10_chance 16 = .ok (.iconst 0, 1) := by decide +kernel
theorem dX10_chance_17 : decode cX10_chance 17 = .ok (.iconst 1, 1) := by decide +kernel
theorem dX10_chance_18 : decode cX10_chance 18 = .ok (.invokestatic 69, 3) := by decide +kernel
theorem dX10_chance_21 : decode cX10_chance 21 = .ok (.ifCond .ne 7, 3) := by decide +kernel
theorem dX10_chance_24 : decode cX10_chance 24 = .ok (.ldc2_w 234, 3) := by decide +kernel
theorem dX10_chance_27 : decode cX10_chance 27 = .ok (.lreturn, 1) := by decide +kernel
theorem dX10_chance_28 : decode cX10_chance 28 = .ok (.aload_n 0, 1) := by decide +kernel
theorem dX10_chance_29 : decode cX10_chance 29 = .ok (.getfield 12, 3) := by decide +kernel
theorem dX10_chance_32 : decode cX10_chance 32 = .ok (.getfield 147, 3) := by decide +kernel
theorem dX10_chance_35 : decode cX10_chance 35 = .ok (.iload_n 2, 1) := by decide +kernel
theorem dX10_chance_36 : decode cX10_chance 36 = .ok (.aaload, 1) := by decide +kernel
theorem dX10_chance_37 : decode cX10_chance 37 = .ok (.invokevirtual 231, 3) := by decide +kernel
theorem dX10_chance_40 : decode cX10_chance 40 = .ok (.ifCond .ne 7, 3) := by decide +kernel
theorem dX10_chance_43 : decode cX10_chance 43 = .ok (.ldc2_w 236, 3) := by decide +kernel
theorem dX10_chance_46 : decode cX10_chance 46 = .ok (.lreturn, 1) := by decide +kernel
theorem dX10_chance_47 : decode cX10_chance 47 = .ok (.aload_n 0, 1) := by decide +kernel
theorem dX10_chance_48 : decode cX10_chance 48 = .ok (.iload_n 2, 1) := by decide +kernel
theorem dX10_chance_49 : decode cX10_chance 49 = .ok (.invokevirtual 238, 3) := by decide +kernel
theorem dX10_chance_52 : decode cX10_chance 52 = .ok (.astore 4, 2) := by decide +kernel
theorem dX10_chance_54 : decode cX10_chance 54 = .ok (.aload 4, 2) := by decide +kernel
theorem dX10_chance_56 : decode cX10_chance 56 = .ok (.getfield 242, 3) := by decide +kernel
theorem dX10_chance_59 : decode cX10_chance 59 = .ok (.lconst 0, 1) := by decide +kernel
theorem dX10_chance_60 : decode cX10_chance 60 = .ok (.lcmp, 1) := by decide +kernel
theorem dX10_chance_61 : decode cX10_chance 61 = .ok (.ifCond .ne 7, 3) := by decide +kernel
theorem dX10_chance_64 : decode cX10_chance 64 = .ok (.ldc2_w 276, 3) := by decide +kernel
theorem dX10_chance_67 : decode cX10_chance 67 = .ok (.lreturn, 1) := by decide +kernel
theorem dX10_chance_68 : decode cX10_chance 68 = .ok (.aload_n 0, 1) := by decide +kernel
theorem dX10_chance_69 : decode cX10_chance 69 = .ok (.getfield 61, 3) := by decide +kernel
theorem dX10_chance_72 : decode cX10_chance 72 = .ok (.aload 4, 2) := by decide +kernel
theorem dX10_chance_74 : decode cX10_chance 74 = .ok (.aload_n 0, 1) := by decide +kernel
theorem dX10_chance_75 : decode cX10_chance 75 = .ok (.getfield 12, 3) := by decide +kernel
theorem dX10_chance_78 : decode cX10_chance 78 = .ok (.getfield 147, 3) := by decide +kernel
theorem dX10_chance_81 : decode cX10_chance 81 = .ok (.iload_n 2, 1) := by decide +kernel
theorem dX10_chance_82 : decode cX10_chance 82 = .ok (.aaload, 1) := by decide +kernel
theorem dX10_chance_83 : decode cX10_chance 83 = .ok (.aload_n 0, 1) := by decide +kernel
theorem dX10_chance_84 : decode cX10_chance 84 = .ok (.getfield 12, 3) := by decide +kernel
theorem dX10_chance_87 : decode cX10_chance 87 = .ok (.getfield 331, 3) := by decide +kernel
theorem dX10_chance_90 : decode cX10_chance 90 = .ok (.iload_n 1, 1) := by decide +kernel
theorem dX10_chance_91 : decode cX10_chance 91 = .ok (.aaload, 1) := by decide +kernel
theorem dX10_chance_92 : decode cX10_chance 92 = .ok (.iconst 0, 1) := by decide +kernel
theorem dX10_chance_93 : decode cX10_chance 93 = .ok (.invokevirtual 341, 3) := by decide +kernel
theorem dX10_chance_96 : decode cX10_chance 96 = .ok (.aload 4, 2) := by decide +kernel
theorem dX10_chance_98 : decode cX10_chance 98 = .ok (.getfield 242, 3) := by decide +kernel
theorem dX10_chance_101 : decode cX10_chance 101 = .ok (.iload_n 3, 1) := by decide +kernel
theorem dX10_chance_102 : decode cX10_chance 102 = .ok (.invokestatic 258, 3) := by decide +kernel
theorem dX10_chance_105 : decode cX10_chance 105 = .ok (.lreturn, 1) := by decide +kernel
theorem dX10_holds_0 : decode cX10_holds 0 = .ok (.aload_n 0, 1) := by decide +kernel
theorem dX10_holds_1 : decode cX10_holds 1 = .ok (.iload_n 1, 1) := by decide +kernel
theorem dX10_holds_2 : decode cX10_holds 2 = .ok (.invokevirtual 338, 3) := by decide +kernel
theorem dX10_holds_5 : decode cX10_holds 5 = .ok (.ifCond .eq 10, 3) := by decide +kernel
theorem dX10_holds_8 : decode cX10_holds 8 = .ok (.iload_n 2, 1) := by decide +kernel
theorem dX10_holds_9 : decode cX10_holds 9 = .ok (.invokestatic 144, 3) := by decide +kernel
theorem dX10_holds_12 : decode cX10_holds 12 = .ok (.ifCond .ne 5, 3) := by decide +kernel
theorem dX10_holds_15 : decode cX10_holds 15 = .ok (.iconst (-1), 1) := by decide +kernel
theorem dX10_holds_16 : decode cX10_holds 16 = .ok (.ireturn, 1) := by decide +kernel
theorem dX10_holds_17 : decode cX10_holds 17 = .ok (.aload_n 0, 1) := by decide +kernel
theorem dX10_holds_18 : decode cX10_holds 18 = .ok (.getfield 12, 3) := by decide +kernel
theorem dX10_holds_21 : decode cX10_holds 21 = .ok (.getfield 147, 3) := by decide +kernel
theorem dX10_holds_24 : decode cX10_holds 24 = .ok (.iload_n 2, 1) := by decide +kernel
theorem dX10_holds_25 : decode cX10_holds 25 = .ok (.aaload, 1) := by decide +kernel
theorem dX10_holds_26 : decode cX10_holds 26 = .ok (.astore_n 3, 1) := by decide +kernel
theorem dX10_holds_27 : decode cX10_holds 27 = .ok (.aload_n 3, 1) := by decide +kernel
theorem dX10_holds_28 : decode cX10_holds 28 = .ok (.getfield 173, 3) := by decide +kernel
theorem dX10_holds_31 : decode cX10_holds 31 = .ok (.ifCond .ne 6, 3) := by decide +kernel
theorem dX10_holds_34 : decode cX10_holds 34 = .ok (.bipush (-2), 2) := by decide +kernel
theorem dX10_holds_36 : decode cX10_holds 36 = .ok (.ireturn, 1) := by decide +kernel
theorem dX10_holds_37 : decode cX10_holds 37 = .ok (.aload_n 0, 1) := by decide +kernel
theorem dX10_holds_38 : decode cX10_holds 38 = .ok (.getfield 12, 3) := by decide +kernel
theorem dX10_holds_41 : decode cX10_holds 41 = .ok (.getfield 331, 3) := by decide +kernel
theorem dX10_holds_44 : decode cX10_holds 44 = .ok (.iload_n 1, 1) := by decide +kernel
theorem dX10_holds_45 : decode cX10_holds 45 = .ok (.aaload, 1) := by decide +kernel
theorem dX10_holds_46 : decode cX10_holds 46 = .ok (.astore 4, 2) := by decide +kernel
theorem dX10_holds_48 : decode cX10_holds 48 = .ok (.aload 4, 2) := by decide +kernel
theorem dX10_holds_50 : decode cX10_holds 50 = .ok (.aload 4, 2) := by decide +kernel
theorem dX10_holds_52 : decode cX10_holds 52 = .ok (.iconst 0, 1) := by decide +kernel
theorem dX10_holds_53 : decode cX10_holds 53 = .ok (.aload_n 3, 1) := by decide +kernel
theorem dX10_holds_54 : decode cX10_holds 54 = .ok (.invokevirtual 345, 3) := by decide +kernel
theorem dX10_holds_57 : decode cX10_holds 57 = .ok (.aload 4, 2) := by decide +kernel
theorem dX10_holds_59 : decode cX10_holds 59 = .ok (.iconst 1, 1) := by decide +kernel
theorem dX10_holds_60 : decode cX10_holds 60 = .ok (.aload_n 3, 1) := by decide +kernel
theorem dX10_holds_61 : decode cX10_holds 61 = .ok (.invokevirtual 345, 3) := by decide +kernel
theorem dX10_holds_64 : decode cX10_holds 64 = .ok (.invokevirtual 349, 3) := by decide +kernel
theorem dX10_holds_67 : decode cX10_holds 67 = .ok (.ifCond .eq 7, 3) := by decide +kernel
theorem dX10_holds_70 : decode cX10_holds 70 = .ok (.iconst 1, 1) := by decide +kernel
theorem dX10_holds_71 : decode cX10_holds 71 = .ok (.goto 4, 3) := by decide +kernel
theorem dX10_holds_74 : decode cX10_holds 74 = .ok (.iconst 0, 1) := by decide +kernel
theorem dX10_holds_75 : decode cX10_holds 75 = .ok (.ireturn, 1) := by decide +kernel
theorem dX10_looked_0 : decode cX10_looked 0 = .ok (.aload_n 0, 1) := by decide +kernel
theorem dX10_looked_1 : decode cX10_looked 1 = .ok (.iload_n 1, 1) := by decide +kernel
theorem dX10_looked_2 : decode cX10_looked 2 = .ok (.invokevirtual 338, 3) := by decide +kernel
theorem dX10_looked_5 : decode cX10_looked 5 = .ok (.ifCond .eq 20, 3) := by decide +kernel
theorem dX10_looked_8 : decode cX10_looked 8 = .ok (.iload_n 2, 1) := by decide +kernel
theorem dX10_looked_9 : decode cX10_looked 9 = .ok (.invokestatic 144, 3) := by decide +kernel
theorem dX10_looked_12 : decode cX10_looked 12 = .ok (.ifCond .eq 13, 3) := by decide +kernel
theorem dX10_looked_15 : decode cX10_looked 15 = .ok (.iload 5, 2) := by decide +kernel
theorem dX10_looked_17 : decode cX10_looked 17 = .ok (.iconst 0, 1) := by decide +kernel
theorem dX10_looked_18 : decode cX10_looked 18 = .ok (.iconst 1, 1) := by decide +kernel
theorem dX10_looked_19 : decode cX10_looked 19 = .ok (.invokestatic 69, 3) := by decide +kernel
theorem dX10_looked_22 : decode cX10_looked 22 = .ok (.ifCond .ne 5, 3) := by decide +kernel
theorem dX10_looked_25 : decode cX10_looked 25 = .ok (.iconst (-1), 1) := by decide +kernel
theorem dX10_looked_26 : decode cX10_looked 26 = .ok (.ireturn, 1) := by decide +kernel
theorem dX10_looked_27 : decode cX10_looked 27 = .ok (.iload 4, 2) := by decide +kernel
theorem dX10_looked_29 : decode cX10_looked 29 = .ok (.iconst 1, 1) := by decide +kernel
theorem dX10_looked_30 : decode cX10_looked 30 = .ok (.sipush 1000, 3) := by decide +kernel
theorem dX10_looked_33 : decode cX10_looked 33 = .ok (.invokestatic 69, 3) := by decide +kernel
theorem dX10_looked_36 : decode cX10_looked 36 = .ok (.ifCond .eq 13, 3) := by decide +kernel
theorem dX10_looked_39 : decode cX10_looked 39 = .ok (.iload_n 3, 1) := by decide +kernel
theorem dX10_looked_40 : decode cX10_looked 40 = .ok (.iconst 0, 1) := by decide +kernel
theorem dX10_looked_41 : decode cX10_looked 41 = .ok (.iload 4, 2) := by decide +kernel
theorem dX10_looked_43 : decode cX10_looked 43 = .ok (.invokestatic 69, 3) := by decide +kernel
theorem dX10_looked_46 : decode cX10_looked 46 = .ok (.ifCond .ne 5, 3) := by decide +kernel
theorem dX10_looked_49 : decode cX10_looked 49 = .ok (.iconst (-1), 1) := by decide +kernel
theorem dX10_looked_50 : decode cX10_looked 50 = .ok (.ireturn, 1) := by decide +kernel
theorem dX10_looked_51 : decode cX10_looked 51 = .ok (.aload_n 0, 1) := by decide +kernel
theorem dX10_looked_52 : decode cX10_looked 52 = .ok (.getfield 12, 3) := by decide +kernel
theorem dX10_looked_55 : decode cX10_looked 55 = .ok (.getfield 147, 3) := by decide +kernel
theorem dX10_looked_58 : decode cX10_looked 58 = .ok (.iload_n 2, 1) := by decide +kernel
theorem dX10_looked_59 : decode cX10_looked 59 = .ok (.aaload, 1) := by decide +kernel
theorem dX10_looked_60 : decode cX10_looked 60 = .ok (.astore 6, 2) := by decide +kernel
theorem dX10_looked_62 : decode cX10_looked 62 = .ok (.aload 6, 2) := by decide +kernel
theorem dX10_looked_64 : decode cX10_looked 64 = .ok (.invokevirtual 231, 3) := by decide +kernel
theorem dX10_looked_67 : decode cX10_looked 67 = .ok (.ifCond .ne 6, 3) := by decide +kernel
theorem dX10_looked_70 : decode cX10_looked 70 = .ok (.bipush (-2), 2) := by decide +kernel
theorem dX10_looked_72 : decode cX10_looked 72 = .ok (.ireturn, 1) := by decide +kernel
theorem dX10_looked_73 : decode cX10_looked 73 = .ok (.aload_n 0, 1) := by decide +kernel
theorem dX10_looked_74 : decode cX10_looked 74 = .ok (.iload_n 2, 1) := by decide +kernel
theorem dX10_looked_75 : decode cX10_looked 75 = .ok (.invokevirtual 238, 3) := by decide +kernel
theorem dX10_looked_78 : decode cX10_looked 78 = .ok (.astore 7, 2) := by decide +kernel
theorem dX10_looked_80 : decode cX10_looked 80 = .ok (.aload 7, 2) := by decide +kernel
theorem dX10_looked_82 : decode cX10_looked 82 = .ok (.getfield 242, 3) := by decide +kernel
theorem dX10_looked_85 : decode cX10_looked 85 = .ok (.lconst 0, 1) := by decide +kernel
theorem dX10_looked_86 : decode cX10_looked 86 = .ok (.lcmp, 1) := by decide +kernel
theorem dX10_looked_87 : decode cX10_looked 87 = .ok (.ifCond .ne 6, 3) := by decide +kernel
theorem dX10_looked_90 : decode cX10_looked 90 = .ok (.bipush (-4), 2) := by decide +kernel
theorem dX10_looked_92 : decode cX10_looked 92 = .ok (.ireturn, 1) := by decide +kernel
theorem dX10_looked_93 : decode cX10_looked 93 = .ok (.bipush 24, 2) := by decide +kernel
theorem dX10_looked_95 : decode cX10_looked 95 = .ok (.aload_n 0, 1) := by decide +kernel
theorem dX10_looked_96 : decode cX10_looked 96 = .ok (.getfield 12, 3) := by decide +kernel
theorem dX10_looked_99 : decode cX10_looked 99 = .ok (.getfield 331, 3) := by decide +kernel
theorem dX10_looked_102 : decode cX10_looked 102 = .ok (.iload_n 1, 1) := by decide +kernel
theorem dX10_looked_103 : decode cX10_looked 103 = .ok (.aaload, 1) := by decide +kernel
theorem dX10_looked_104 : decode cX10_looked 104 = .ok (.invokevirtual 352, 3) := by decide +kernel
theorem dX10_looked_107 : decode cX10_looked 107 = .ok (.isub, 1) := by decide +kernel
theorem dX10_looked_108 : decode cX10_looked 108 = .ok (.istore 8, 2) := by decide +kernel
theorem dX10_looked_110 : decode cX10_looked 110 = .ok (.iload 5, 2) := by decide +kernel
theorem dX10_looked_112 : decode cX10_looked 112 = .ok (.ifCond .ne 6, 3) := by decide +kernel
theorem dX10_looked_115 : decode cX10_looked 115 = .ok (.iload 8, 2) := by decide +kernel
theorem dX10_looked_117 : decode cX10_looked 117 = .ok (.ireturn, 1) := by decide +kernel
theorem dX10_looked_118 : decode cX10_looked 118 = .ok (.iconst 0, 1) := by decide +kernel
theorem dX10_looked_119 : decode cX10_looked 119 = .ok (.istore 9, 2) := by decide +kernel
theorem dX10_looked_121 : decode cX10_looked 121 = .ok (.iconst 0, 1) := by decide +kernel
theorem dX10_looked_122 : decode cX10_looked 122 = .ok (.istore 10, 2) := by decide +kernel
theorem dX10_looked_124 : decode cX10_looked 124 = .ok (.iload 10, 2) := by decide +kernel
theorem dX10_looked_126 : decode cX10_looked 126 = .ok (.iload 8, 2) := by decide +kernel
theorem dX10_looked_128 : decode cX10_looked 128 = .ok (.if_icmp .ge 50, 3) := by decide +kernel
theorem dX10_looked_131 : decode cX10_looked 131 = .ok (.aload_n 0, 1) := by decide +kernel
theorem dX10_looked_132 : decode cX10_looked 132 = .ok (.getfield 61, 3) := by decide +kernel
theorem dX10_looked_135 : decode cX10_looked 135 = .ok (.aload 7, 2) := by decide +kernel
theorem dX10_looked_137 : decode cX10_looked 137 = .ok (.aload 6, 2) := by decide +kernel
theorem dX10_looked_139 : decode cX10_looked 139 = .ok (.aload_n 0, 1) := by decide +kernel
theorem dX10_looked_140 : decode cX10_looked 140 = .ok (.getfield 12, 3) := by decide +kernel
theorem dX10_looked_143 : decode cX10_looked 143 = .ok (.getfield 331, 3) := by decide +kernel
theorem dX10_looked_146 : decode cX10_looked 146 = .ok (.iload_n 1, 1) := by decide +kernel
theorem dX10_looked_147 : decode cX10_looked 147 = .ok (.aaload, 1) := by decide +kernel
theorem dX10_looked_148 : decode cX10_looked 148 = .ok (.iload 10, 2) := by decide +kernel
theorem dX10_looked_150 : decode cX10_looked 150 = .ok (.invokevirtual 341, 3) := by decide +kernel
theorem dX10_looked_153 : decode cX10_looked 153 = .ok (.iload 4, 2) := by decide +kernel
theorem dX10_looked_155 : decode cX10_looked 155 = .ok (.i2l, 1) := by decide +kernel
theorem dX10_looked_156 : decode cX10_looked 156 = .ok (.lmul, 1) := by decide +kernel
theorem dX10_looked_157 : decode cX10_looked 157 = .ok (.aload 7, 2) := by decide +kernel
theorem dX10_looked_159 : decode cX10_looked 159 = .ok (.getfield 242, 3) := by decide +kernel
theorem dX10_looked_162 : decode cX10_looked 162 = .ok (.iload_n 3, 1) := by decide +kernel
theorem dX10_looked_163 : decode cX10_looked 163 = .ok (.i2l, 1) := by decide +kernel
theorem dX10_looked_164 : decode cX10_looked 164 = .ok (.lmul, 1) := by decide +kernel
theorem dX10_looked_165 : decode cX10_looked 165 = .ok (.lcmp, 1) := by decide +kernel
theorem dX10_looked_166 : decode cX10_looked 166 = .ok (.ifCond .lt 6, 3) := by decide +kernel
theorem dX10_looked_169 : decode cX10_looked 169 = .ok (.iinc 9 1, 3) := by decide +kernel
theorem dX10_looked_172 : decode cX10_looked 172 = .ok (.iinc 10 1, 3) := by decide +kernel
theorem dX10_looked_175 : decode cX10_looked 175 = .ok (.goto (-51), 3) := by decide +kernel
theorem dX10_looked_178 : decode cX10_looked 178 = .ok (.iload 9, 2) := by decide +kernel
theorem dX10_looked_180 : decode cX10_looked 180 = .ok (.ireturn, 1) := by decide +kernel
theorem dX10_cause_0 : decode cX10_cause 0 = .ok (.iload_n 1, 1) := by decide +kernel
theorem dX10_cause_1 : decode cX10_cause 1 = .ok (.bipush (-30), 2) := by decide +kernel
theorem dX10_cause_3 : decode cX10_cause 3 = .ok (.bipush 30, 2) := by decide +kernel
theorem dX10_cause_5 : decode cX10_cause 5 = .ok (.invokestatic 69, 3) := by decide +kernel
theorem dX10_cause_8 : decode cX10_cause 8 = .ok (.ifCond .eq 13, 3) := by decide +kernel
theorem dX10_cause_11 : decode cX10_cause 11 = .ok (.iload_n 2, 1) := by decide +kernel
theorem dX10_cause_12 : decode cX10_cause 12 = .ok (.iload_n 1, 1) := by decide +kernel
theorem dX10_cause_13 : decode cX10_cause 13 = .ok (.bipush 30, 2) := by decide +kernel
theorem dX10_cause_15 : decode cX10_cause 15 = .ok (.invokestatic 69, 3) := by decide +kernel
theorem dX10_cause_18 : decode cX10_cause 18 = .ok (.ifCond .ne 5, 3) := by decide +kernel
theorem dX10_cause_21 : decode cX10_cause 21 = .ok (.iconst (-1), 1) := by decide +kernel
theorem dX10_cause_22 : decode cX10_cause 22 = .ok (.ireturn, 1) := by decide +kernel
theorem dX10_cause_23 : decode cX10_cause 23 = .ok (.aload_n 0, 1) := by decide +kernel
theorem dX10_cause_24 : decode cX10_cause 24 = .ok (.getfield 12, 3) := by decide +kernel
theorem dX10_cause_27 : decode cX10_cause 27 = .ok (.getfield 228, 3) := by decide +kernel
theorem dX10_cause_30 : decode cX10_cause 30 = .ok (.iconst 5, 1) := by decide +kernel
theorem dX10_cause_31 : decode cX10_cause 31 = .ok (.if_icmp .ne 6, 3) := by decide +kernel
theorem dX10_cause_34 : decode cX10_cause 34 = .ok (.bipush (-3), 2) := by decide +kernel
theorem dX10_cause_36 : decode cX10_cause 36 = .ok (.ireturn, 1) := by decide +kernel
theorem dX10_cause_37 : decode cX10_cause 37 = .ok (.aload_n 0, 1) := by decide +kernel
theorem dX10_cause_38 : decode cX10_cause 38 = .ok (.getfield 12, 3) := by decide +kernel
theorem dX10_cause_41 : decode cX10_cause 41 = .ok (.getfield 355, 3) := by decide +kernel
theorem dX10_cause_44 : decode cX10_cause 44 = .ok (.aload_n 0, 1) := by decide +kernel
theorem dX10_cause_45 : decode cX10_cause 45 = .ok (.getfield 12, 3) := by decide +kernel
theorem dX10_cause_48 : decode cX10_cause 48 = .ok (.getfield 228, 3) := by decide +kernel
theorem dX10_cause_51 : decode cX10_cause 51 = .ok (.iload_n 1, 1) := by decide +kernel
theorem dX10_cause_52 : decode cX10_cause 52 = .ok (.iastore, 1) := by decide +kernel
theorem dX10_cause_53 : decode cX10_cause 53 = .ok (.aload_n 0, 1) := by decide +kernel
theorem dX10_cause_54 : decode cX10_cause 54 = .ok (.getfield 12, 3) := by decide +kernel
theorem dX10_cause_57 : decode cX10_cause 57 = .ok (.getfield 358, 3) := by decide +kernel
theorem dX10_cause_60 : decode cX10_cause 60 = .ok (.aload_n 0, 1) := by decide +kernel
theorem dX10_cause_61 : decode cX10_cause 61 = .ok (.getfield 12, 3) := by decide +kernel
theorem dX10_cause_64 : decode cX10_cause 64 = .ok (.getfield 228, 3) := by decide +kernel
theorem dX10_cause_67 : decode cX10_cause 67 = .ok (.iload_n 2, 1) := by decide +kernel
theorem dX10_cause_68 : decode cX10_cause 68 = .ok (.iastore, 1) := by decide +kernel
theorem dX10_cause_69 : decode cX10_cause 69 = .ok (.aload_n 0, 1) := by decide +kernel
theorem dX10_cause_70 : decode cX10_cause 70 = .ok (.getfield 12, 3) := by decide +kernel
theorem dX10_cause_73 : decode cX10_cause 73 = .ok (.dup, 1) := by decide +kernel
theorem dX10_cause_74 : decode cX10_cause 74 = .ok (.getfield 228, 3) := by decide +kernel
theorem dX10_cause_77 : decode cX10_cause 77 = .ok (.iconst 1, 1) := by decide +kernel
theorem dX10_cause_78 : decode cX10_cause 78 = .ok (.iadd, 1) := by decide +kernel
theorem dX10_cause_79 : decode cX10_cause 79 = .ok (.putfield 228, 3) := by decide +kernel
theorem dX10_cause_82 : decode cX10_cause 82 = .ok (.aload_n 0, 1) := by decide +kernel
theorem dX10_cause_83 : decode cX10_cause 83 = .ok (.getfield 12, 3) := by decide +kernel
theorem dX10_cause_86 : decode cX10_cause 86 = .ok (.getfield 228, 3) := by decide +kernel
theorem dX10_cause_89 : decode cX10_cause 89 = .ok (.iconst 1, 1) := by decide +kernel
theorem dX10_cause_90 : decode cX10_cause 90 = .ok (.isub, 1) := by decide +kernel
theorem dX10_cause_91 : decode cX10_cause 91 = .ok (.ireturn, 1) := by decide +kernel
theorem dX10_says_0 : decode cX10_says 0 = .ok (.aload_n 0, 1) := by decide +kernel
theorem dX10_says_1 : decode cX10_says 1 = .ok (.iload_n 1, 1) := by decide +kernel
theorem dX10_says_2 : decode cX10_says 2 = .ok (.iload_n 2, 1) := by decide +kernel
theorem dX10_says_3 : decode cX10_says 3 = .ok (.iload_n 3, 1) := by decide +kernel
theorem dX10_says_4 : decode cX10_says 4 = .ok (.invokevirtual 262, 3) := by decide +kernel
theorem dX10_says_7 : decode cX10_says 7 = .ok (.ifCond .eq 13, 3) := by decide +kernel
theorem dX10_says_10 : decode cX10_says 10 = .ok (.iload 4, 2) := by decide +kernel
theorem dX10_says_12 : decode cX10_says 12 = .ok (.iconst 0, 1) := by decide +kernel
theorem dX10_says_13 : decode cX10_says 13 = .ok (.iconst 2, 1) := by decide +kernel
theorem dX10_says_14 : decode cX10_says 14 = .ok (.invokestatic 69, 3) := by decide +kernel
theorem dX10_says_17 : decode cX10_says 17 = .ok (.ifCond .ne 5, 3) := by decide +kernel
theorem dX10_says_20 : decode cX10_says 20 = .ok (.iconst (-1), 1) := by decide +kernel
theorem dX10_says_21 : decode cX10_says 21 = .ok (.ireturn, 1) := by decide +kernel
theorem dX10_says_22 : decode cX10_says 22 = .ok (.aload_n 0, 1) := by decide +kernel
theorem dX10_says_23 : decode cX10_says 23 = .ok (.getfield 12, 3) := by decide +kernel
theorem dX10_says_26 : decode cX10_says 26 = .ok (.getfield 147, 3) := by decide +kernel
theorem dX10_says_29 : decode cX10_says 29 = .ok (.iload_n 1, 1) := by decide +kernel
theorem dX10_says_30 : decode cX10_says 30 = .ok (.aaload, 1) := by decide +kernel
theorem dX10_says_31 : decode cX10_says 31 = .ok (.astore 5, 2) := by decide +kernel
theorem dX10_says_33 : decode cX10_says 33 = .ok (.aload 5, 2) := by decide +kernel
theorem dX10_says_35 : decode cX10_says 35 = .ok (.getfield 191, 3) := by decide +kernel
theorem dX10_says_38 : decode cX10_says 38 = .ok (.iload_n 2, 1) := by decide +kernel
theorem dX10_says_39 : decode cX10_says 39 = .ok (.iaload, 1) := by decide +kernel
theorem dX10_says_40 : decode cX10_says 40 = .ok (.ifCond .ne 13, 3) := by decide +kernel
theorem dX10_says_43 : decode cX10_says 43 = .ok (.aload 5, 2) := by decide +kernel
theorem dX10_says_45 : decode cX10_says 45 = .ok (.getfield 191, 3) := by decide +kernel
theorem dX10_says_48 : decode cX10_says 48 = .ok (.iload_n 3, 1) := by decide +kernel
theorem dX10_says_49 : decode cX10_says 49 = .ok (.iaload, 1) := by decide +kernel
theorem dX10_says_50 : decode cX10_says 50 = .ok (.ifCond .eq 6, 3) := by decide +kernel
theorem dX10_says_53 : decode cX10_says 53 = .ok (.bipush (-12), 2) := by decide +kernel
theorem dX10_says_55 : decode cX10_says 55 = .ok (.ireturn, 1) := by decide +kernel
theorem dX10_says_56 : decode cX10_says 56 = .ok (.aload 5, 2) := by decide +kernel
theorem dX10_says_58 : decode cX10_says 58 = .ok (.getfield 194, 3) := by decide +kernel
theorem dX10_says_61 : decode cX10_says 61 = .ok (.iload_n 3, 1) := by decide +kernel
theorem dX10_says_62 : decode cX10_says 62 = .ok (.iaload, 1) := by decide +kernel
theorem dX10_says_63 : decode cX10_says 63 = .ok (.aload 5, 2) := by decide +kernel
theorem dX10_says_65 : decode cX10_says 65 = .ok (.getfield 194, 3) := by decide +kernel
theorem dX10_says_68 : decode cX10_says 68 = .ok (.iload_n 2, 1) := by decide +kernel
theorem dX10_says_69 : decode cX10_says 69 = .ok (.iaload, 1) := by decide +kernel
theorem dX10_says_70 : decode cX10_says 70 = .ok (.isub, 1) := by decide +kernel
theorem dX10_says_71 : decode cX10_says 71 = .ok (.istore 6, 2) := by decide +kernel
theorem dX10_says_73 : decode cX10_says 73 = .ok (.iconst 0, 1) := by decide +kernel
theorem dX10_says_74 : decode cX10_says 74 = .ok (.istore 7, 2) := by decide +kernel
theorem dX10_says_76 : decode cX10_says 76 = .ok (.iconst 0, 1) := by decide +kernel
theorem dX10_says_77 : decode cX10_says 77 = .ok (.istore 8, 2) := by decide +kernel
theorem dX10_says_79 : decode cX10_says 79 = .ok (.iconst 1, 1) := by decide +kernel
theorem dX10_says_80 : decode cX10_says 80 = .ok (.aload_n 0, 1) := by decide +kernel
theorem dX10_says_81 : decode cX10_says 81 = .ok (.getfield 12, 3) := by decide +kernel
theorem dX10_says_84 : decode cX10_says 84 = .ok (.getfield 228, 3) := by decide +kernel
theorem dX10_says_87 : decode cX10_says 87 = .ok (.ishl, 1) := by decide +kernel
theorem dX10_says_88 : decode cX10_says 88 = .ok (.iconst 1, 1) := by decide +kernel
theorem dX10_says_89 : decode cX10_says 89 = .ok (.isub, 1) := by decide +kernel
theorem dX10_says_90 : decode cX10_says 90 = .ok (.istore 9, 2) := by decide +kernel
theorem dX10_says_92 : decode cX10_says 92 = .ok (.iconst 1, 1) := by decide +kernel
theorem dX10_says_93 : decode cX10_says 93 = .ok (.istore 10, 2) := by decide +kernel
theorem dX10_says_95 : decode cX10_says 95 = .ok (.iload 10, 2) := by decide +kernel
theorem dX10_says_97 : decode cX10_says 97 = .ok (.iconst 1, 1) := by decide +kernel
theorem dX10_says_98 : decode cX10_says 98 = .ok (.aload_n 0, 1) := by decide +kernel
theorem dX10_says_99 : decode cX10_says 99 = .ok (.getfield 12, 3) := by decide +kernel
theorem dX10_says_102 : decode cX10_says 102 = .ok (.getfield 228, 3) := by decide +kernel
theorem dX10_says_105 : decode cX10_says 105 = .ok (.ishl, 1) := by decide +kernel
theorem dX10_says_106 : decode cX10_says 106 = .ok (.if_icmp .ge 55, 3) := by decide +kernel
theorem dX10_says_109 : decode cX10_says 109 = .ok (.aload_n 0, 1) := by decide +kernel
theorem dX10_says_110 : decode cX10_says 110 = .ok (.getfield 12, 3) := by decide +kernel
theorem dX10_says_113 : decode cX10_says 113 = .ok (.iload 10, 2) := by decide +kernel
theorem dX10_says_115 : decode cX10_says 115 = .ok (.iload 6, 2) := by decide +kernel
theorem dX10_says_117 : decode cX10_says 117 = .ok (.invokevirtual 361, 3) := by decide +kernel
theorem dX10_says_120 : decode cX10_says 120 = .ok (.ifCond .eq 35, 3) := by decide +kernel
theorem dX10_says_123 : decode cX10_says 123 = .ok (.iinc 7 1, 3) := by decide +kernel
theorem dX10_says_126 : decode cX10_says 126 = .ok (.iload 9, 2) := by decide +kernel
theorem dX10_says_128 : decode cX10_says 128 = .ok (.iload 10, 2) := by decide +kernel
theorem dX10_says_130 : decode cX10_says 130 = .ok (.iand, 1) := by decide +kernel
theorem dX10_says_131 : decode cX10_says 131 = .ok (.istore 9, 2) := by decide +kernel
theorem dX10_says_133 : decode cX10_says 133 = .ok (.iload 8, 2) := by decide +kernel
theorem dX10_says_135 : decode cX10_says 135 = .ok (.ifCond .eq 16, 3) := by decide +kernel
theorem dX10_says_138 : decode cX10_says 138 = .ok (.iload 10, 2) := by decide +kernel
theorem dX10_says_140 : decode cX10_says 140 = .ok (.invokestatic 292, 3) := by decide +kernel
theorem dX10_says_143 : decode cX10_says 143 = .ok (.iload 8, 2) := by decide +kernel
theorem dX10_says_145 : decode cX10_says 145 = .ok (.invokestatic 292, 3) := by decide +kernel
theorem dX10_says_148 : decode cX10_says 148 = .ok (.if_icmp .ge 7, 3) := by decide +kernel
theorem dX10_says_151 : decode cX10_says 151 = .ok (.iload 10, 2) := by decide +kernel
theorem dX10_says_153 : decode cX10_says 153 = .ok (.istore 8, 2) := by decide +kernel
theorem dX10_says_155 : decode cX10_says 155 = .ok (.iinc 10 1, 3) := by decide +kernel
theorem dX10_says_158 : decode cX10_says 158 = .ok (.goto (-63), 3) := by decide +kernel
theorem dX10_says_161 : decode cX10_says 161 = .ok (.iload 4, 2) := by decide +kernel
theorem dX10_says_163 : decode cX10_says 163 = .ok (.ifCond .ne 6, 3) := by decide +kernel
theorem dX10_says_166 : decode cX10_says 166 = .ok (.iload 7, 2) := by decide +kernel
theorem dX10_says_168 : decode cX10_says 168 = .ok (.ireturn, 1) := by decide +kernel
theorem dX10_says_169 : decode cX10_says 169 = .ok (.iload 7, 2) := by decide +kernel
theorem dX10_says_171 : decode cX10_says 171 = .ok (.ifCond .ne 8, 3) := by decide +kernel
theorem dX10_says_174 : decode cX10_says 174 = .ok (.bipush (-4), 2) := by decide +kernel
theorem dX10_says_176 : decode cX10_says 176 = .ok (.goto 16, 3) := by decide +kernel
theorem dX10_says_179 : decode cX10_says 179 = .ok (.iload 4, 2) := by decide +kernel
theorem dX10_says_181 : decode cX10_says 181 = .ok (.iconst 1, 1) := by decide +kernel
theorem dX10_says_182 : decode cX10_says 182 = .ok (.if_icmp .ne 8, 3) := by decide +kernel
theorem dX10_says_185 : decode cX10_says 185 = .ok (.iload 8, 2) := by decide +kernel
theorem dX10_says_187 : decode cX10_says 187 = .ok (.goto 5, 3) := by decide +kernel
theorem dX10_says_190 : decode cX10_says 190 = .ok (.iload 9, 2) := by decide +kernel
theorem dX10_says_192 : decode cX10_says 192 = .ok (.ireturn, 1) := by decide +kernel
theorem dX10_image_0 : decode cX10_image 0 = .ok (.aload_n 0, 1) := by decide +kernel
theorem dX10_image_1 : decode cX10_image 1 = .ok (.getfield 16, 3) := by decide +kernel
theorem dX10_image_4 : decode cX10_image 4 = .ok (.aload_n 0, 1) := by decide +kernel
theorem dX10_image_5 : decode cX10_image 5 = .ok (.getfield 12, 3) := by decide +kernel
theorem dX10_image_8 : decode cX10_image 8 = .ok (.invokevirtual 364, 3) := by decide +kernel
theorem dX10_image_11 : decode cX10_image 11 = .ok (.aload_n 0, 1) := by decide +kernel
theorem dX10_image_12 : decode cX10_image 12 = .ok (.iconst 1, 1) := by decide +kernel
theorem dX10_image_13 : decode cX10_image 13 = .ok (.putfield 367, 3) := by decide +kernel
theorem dX10_image_16 : decode cX10_image 16 = .ok (.iconst 1, 1) := by decide +kernel
theorem dX10_image_17 : decode cX10_image 17 = .ok (.ireturn, 1) := by decide +kernel
theorem dX10_restore_0 : decode cX10_restore 0 = .ok (.aload_n 0, 1) := by decide +kernel
theorem dX10_restore_1 : decode cX10_restore 1 = .ok (.getfield 367, 3) := by decide +kernel
theorem dX10_restore_4 : decode cX10_restore 4 = .ok (.ifCond .ne 6, 3) := by decide +kernel
theorem dX10_restore_7 : decode cX10_restore 7 = .ok (.bipush (-4), 2) := by decide +kernel
theorem dX10_restore_9 : decode cX10_restore 9 = .ok (.ireturn, 1) := by decide +kernel
theorem dX10_restore_10 : decode cX10_restore 10 = .ok (.aload_n 0, 1) := by decide +kernel
theorem dX10_restore_11 : decode cX10_restore 11 = .ok (.getfield 12, 3) := by decide +kernel
theorem dX10_restore_14 : decode cX10_restore 14 = .ok (.aload_n 0, 1) := by decide +kernel
theorem dX10_restore_15 : decode cX10_restore 15 = .ok (.getfield 16, 3) := by decide +kernel
theorem dX10_restore_18 : decode cX10_restore 18 = .ok (.invokevirtual 364, 3) := by decide +kernel
theorem dX10_restore_21 : decode cX10_restore 21 = .ok (.aload_n 0, 1) := by decide +kernel
theorem dX10_restore_22 : decode cX10_restore 22 = .ok (.getfield 54, 3) := by decide +kernel
theorem dX10_restore_25 : decode cX10_restore 25 = .ok (.iconst 0, 1) := by decide +kernel
theorem dX10_restore_26 : decode cX10_restore 26 = .ok (.iconst 0, 1) := by decide +kernel
theorem dX10_restore_27 : decode cX10_restore 27 = .ok (.bastore, 1) := by decide +kernel
theorem dX10_restore_28 : decode cX10_restore 28 = .ok (.aload_n 0, 1) := by decide +kernel
theorem dX10_restore_29 : decode cX10_restore 29 = .ok (.getfield 54, 3) := by decide +kernel
theorem dX10_restore_32 : decode cX10_restore 32 = .ok (.iconst 1, 1) := by decide +kernel
theorem dX10_restore_33 : decode cX10_restore 33 = .ok (.iconst 0, 1) := by decide +kernel
theorem dX10_restore_34 : decode cX10_restore 34 = .ok (.bastore, 1) := by decide +kernel
theorem dX10_restore_35 : decode cX10_restore 35 = .ok (.iconst 1, 1) := by decide +kernel
theorem dX10_restore_36 : decode cX10_restore 36 = .ok (.ireturn, 1) := by decide +kernel
theorem dX10_sheet_0 : decode cX10_sheet 0 = .ok (.iload_n 1, 1) := by decide +kernel
theorem dX10_sheet_1 : decode cX10_sheet 1 = .ok (.iload_n 2, 1) := by decide +kernel
theorem dX10_sheet_2 : decode cX10_sheet 2 = .ok (.invokestatic 87, 3) := by decide +kernel
theorem dX10_sheet_5 : decode cX10_sheet 5 = .ok (.ifCond .eq 9, 3) := by decide +kernel
theorem dX10_sheet_8 : decode cX10_sheet 8 = .ok (.iload_n 3, 1) := by decide +kernel
theorem dX10_sheet_9 : decode cX10_sheet 9 = .ok (.bipush 24, 2) := by decide +kernel
theorem dX10_sheet_11 : decode cX10_sheet 11 = .ok (.if_icmp .le 5, 3) := by decide +kernel
theorem dX10_sheet_14 : decode cX10_sheet 14 = .ok (.iconst (-1), 1) := by decide +kernel
theorem dX10_sheet_15 : decode cX10_sheet 15 = .ok (.ireturn, 1) := by decide +kernel
theorem dX10_sheet_16 : decode cX10_sheet 16 = .ok (.iload_n 3, 1) := by decide +kernel
theorem dX10_sheet_17 : decode cX10_sheet 17 = .ok (.ifCond .ge 6, 3) := by decide +kernel
theorem dX10_sheet_20 : decode cX10_sheet 20 = .ok (.bipush (-14), 2) := by decide +kernel
theorem dX10_sheet_22 : decode cX10_sheet 22 = .ok (.ireturn, 1) := by decide +kernel
theorem dX10_sheet_23 : decode cX10_sheet 23 = .ok (.aload_n 0, 1) := by decide +kernel
theorem dX10_sheet_24 : decode cX10_sheet 24 = .ok (.getfield 43, 3) := by decide +kernel
theorem dX10_sheet_27 : decode cX10_sheet 27 = .ok (.iload_n 1, 1) := by decide +kernel
theorem dX10_sheet_28 : decode cX10_sheet 28 = .ok (.aaload, 1) := by decide +kernel
theorem dX10_sheet_29 : decode cX10_sheet 29 = .ok (.iload_n 2, 1) := by decide +kernel
theorem dX10_sheet_30 : decode cX10_sheet 30 = .ok (.iload_n 3, 1) := by decide +kernel
theorem dX10_sheet_31 : decode cX10_sheet 31 = .ok (.invokevirtual 370, 3) := by decide +kernel
theorem dX10_sheet_34 : decode cX10_sheet 34 = .ok (.iload_n 3, 1) := by decide +kernel
theorem dX10_sheet_35 : decode cX10_sheet 35 = .ok (.ireturn, 1) := by decide +kernel
theorem dX10_drop_0 : decode cX10_drop 0 = .ok (.iload_n 1, 1) := by decide +kernel
theorem dX10_drop_1 : decode cX10_drop 1 = .ok (.iconst 0, 1) := by decide +kernel
theorem dX10_drop_2 : decode cX10_drop 2 = .ok (.iconst 3, 1) := by decide +kernel
theorem dX10_drop_3 : decode cX10_drop 3 = .ok (.invokestatic 69, 3) := by decide +kernel
theorem dX10_drop_6 : decode cX10_drop 6 = .ok (.ifCond .ne 5, 3) := by decide +kernel
theorem dX10_drop_9 : decode cX10_drop 9 = .ok (.iconst (-1), 1) := by decide +kernel
theorem dX10_drop_10 : decode cX10_drop 10 = .ok (.ireturn, 1) := by decide +kernel
theorem dX10_drop_11 : decode cX10_drop 11 = .ok (.aload_n 0, 1) := by decide +kernel
theorem dX10_drop_12 : decode cX10_drop 12 = .ok (.getfield 43, 3) := by decide +kernel
theorem dX10_drop_15 : decode cX10_drop 15 = .ok (.iload_n 1, 1) := by decide +kernel
theorem dX10_drop_16 : decode cX10_drop 16 = .ok (.aaload, 1) := by decide +kernel
theorem dX10_drop_17 : decode cX10_drop 17 = .ok (.astore_n 2, 1) := by decide +kernel
theorem dX10_drop_18 : decode cX10_drop 18 = .ok (.aload_n 2, 1) := by decide +kernel
theorem dX10_drop_19 : decode cX10_drop 19 = .ok (.getfield 373, 3) := by decide +kernel
theorem dX10_drop_22 : decode cX10_drop 22 = .ok (.ifCond .ne 6, 3) := by decide +kernel
theorem dX10_drop_25 : decode cX10_drop 25 = .ok (.bipush (-11), 2) := by decide +kernel
theorem dX10_drop_27 : decode cX10_drop 27 = .ok (.ireturn, 1) := by decide +kernel
theorem dX10_drop_28 : decode cX10_drop 28 = .ok (.aload_n 2, 1) := by decide +kernel
theorem dX10_drop_29 : decode cX10_drop 29 = .ok (.iconst 0, 1) := by decide +kernel
theorem dX10_drop_30 : decode cX10_drop 30 = .ok (.putfield 373, 3) := by decide +kernel
theorem dX10_drop_33 : decode cX10_drop 33 = .ok (.aload_n 2, 1) := by decide +kernel
theorem dX10_drop_34 : decode cX10_drop 34 = .ok (.getfield 376, 3) := by decide +kernel
theorem dX10_drop_37 : decode cX10_drop 37 = .ok (.ireturn, 1) := by decide +kernel
theorem dX10_item_0 : decode cX10_item 0 = .ok (.iload_n 1, 1) := by decide +kernel
theorem dX10_item_1 : decode cX10_item 1 = .ok (.iload_n 2, 1) := by decide +kernel
theorem dX10_item_2 : decode cX10_item 2 = .ok (.invokestatic 87, 3) := by decide +kernel
theorem dX10_item_5 : decode cX10_item 5 = .ok (.ifCond .ne 5, 3) := by decide +kernel
theorem dX10_item_8 : decode cX10_item 8 = .ok (.iconst (-1), 1) := by decide +kernel
theorem dX10_item_9 : decode cX10_item 9 = .ok (.ireturn, 1) := by decide +kernel
theorem dX10_item_10 : decode cX10_item 10 = .ok (.aload_n 0, 1) := by decide +kernel
theorem dX10_item_11 : decode cX10_item 11 = .ok (.getfield 43, 3) := by decide +kernel
theorem dX10_item_14 : decode cX10_item 14 = .ok (.iload_n 1, 1) := by decide +kernel
theorem dX10_item_15 : decode cX10_item 15 = .ok (.aaload, 1) := by decide +kernel
theorem dX10_item_16 : decode cX10_item 16 = .ok (.iload_n 2, 1) := by decide +kernel
theorem dX10_item_17 : decode cX10_item 17 = .ok (.iload_n 3, 1) := by decide +kernel
theorem dX10_item_18 : decode cX10_item 18 = .ok (.iconst 1, 1) := by decide +kernel
theorem dX10_item_19 : decode cX10_item 19 = .ok (.invokevirtual 90, 3) := by decide +kernel
theorem dX10_item_22 : decode cX10_item 22 = .ok (.istore 5, 2) := by decide +kernel
theorem dX10_item_24 : decode cX10_item 24 = .ok (.iload 5, 2) := by decide +kernel
theorem dX10_item_26 : decode cX10_item 26 = .ok (.ifCond .eq 6, 3) := by decide +kernel
theorem dX10_item_29 : decode cX10_item 29 = .ok (.iload 5, 2) := by decide +kernel
theorem dX10_item_31 : decode cX10_item 31 = .ok (.ireturn, 1) := by decide +kernel
theorem dX10_item_32 : decode cX10_item 32 = .ok (.aload_n 0, 1) := by decide +kernel
theorem dX10_item_33 : decode cX10_item 33 = .ok (.getfield 43, 3) := by decide +kernel
theorem dX10_item_36 : decode cX10_item 36 = .ok (.iload_n 1, 1) := by decide +kernel
theorem dX10_item_37 : decode cX10_item 37 = .ok (.aaload, 1) := by decide +kernel
theorem dX10_item_38 : decode cX10_item 38 = .ok (.iload_n 3, 1) := by decide +kernel
theorem dX10_item_39 : decode cX10_item 39 = .ok (.iload 4, 2) := by decide +kernel
theorem dX10_item_41 : decode cX10_item 41 = .ok (.invokevirtual 379, 3) := by decide +kernel
theorem dX10_item_44 : decode cX10_item 44 = .ok (.iconst 1, 1) := by decide +kernel
theorem dX10_item_45 : decode cX10_item 45 = .ok (.ireturn, 1) := by decide +kernel
theorem dX10_isWithin_0 : decode cX10_isWithin 0 = .ok (.iload_n 0, 1) := by decide +kernel
theorem dX10_isWithin_1 : decode cX10_isWithin 1 = .ok (.iload_n 1, 1) := by decide +kernel
theorem dX10_isWithin_2 : decode cX10_isWithin 2 = .ok (.if_icmp .lt 12, 3) := by decide +kernel
theorem dX10_isWithin_5 : decode cX10_isWithin 5 = .ok (.iload_n 0, 1) := by decide +kernel
theorem dX10_isWithin_6 : decode cX10_isWithin 6 = .ok (.iload_n 2, 1) := by decide +kernel
theorem dX10_isWithin_7 : decode cX10_isWithin 7 = .ok (.if_icmp .gt 7, 3) := by decide +kernel
theorem dX10_isWithin_10 : decode cX10_isWithin 10 = .ok (.iconst 1, 1) := by decide +kernel
theorem dX10_isWithin_11 : decode cX10_isWithin 11 = .ok (.goto 4, 3) := by decide +kernel
theorem dX10_isWithin_14 : decode cX10_isWithin 14 = .ok (.iconst 0, 1) := by decide +kernel
theorem dX10_isWithin_15 : decode cX10_isWithin 15 = .ok (.ireturn, 1) := by decide +kernel
theorem dX10_isYear_0 : decode cX10_isYear 0 = .ok (.iload_n 0, 1) := by decide +kernel
theorem dX10_isYear_1 : decode cX10_isYear 1 = .ok (.iconst 0, 1) := by decide +kernel
theorem dX10_isYear_2 : decode cX10_isYear 2 = .ok (.bipush 23, 2) := by decide +kernel
theorem dX10_isYear_4 : decode cX10_isYear 4 = .ok (.invokestatic 69, 3) := by decide +kernel
theorem dX10_isYear_7 : decode cX10_isYear 7 = .ok (.ireturn, 1) := by decide +kernel
theorem dX10_isCandle_0 : decode cX10_isCandle 0 = .ok (.iload_n 0, 1) := by decide +kernel
theorem dX10_isCandle_1 : decode cX10_isCandle 1 = .ok (.iconst 0, 1) := by decide +kernel
theorem dX10_isCandle_2 : decode cX10_isCandle 2 = .ok (.iconst 1, 1) := by decide +kernel
theorem dX10_isCandle_3 : decode cX10_isCandle 3 = .ok (.invokestatic 69, 3) := by decide +kernel
theorem dX10_isCandle_6 : decode cX10_isCandle 6 = .ok (.ireturn, 1) := by decide +kernel
theorem dX10_isRow_0 : decode cX10_isRow 0 = .ok (.iload_n 0, 1) := by decide +kernel
theorem dX10_isRow_1 : decode cX10_isRow 1 = .ok (.iconst 0, 1) := by decide +kernel
theorem dX10_isRow_2 : decode cX10_isRow 2 = .ok (.iconst 3, 1) := by decide +kernel
theorem dX10_isRow_3 : decode cX10_isRow 3 = .ok (.invokestatic 69, 3) := by decide +kernel
theorem dX10_isRow_6 : decode cX10_isRow 6 = .ok (.ifCond .eq 16, 3) := by decide +kernel
theorem dX10_isRow_9 : decode cX10_isRow 9 = .ok (.iload_n 1, 1) := by decide +kernel
theorem dX10_isRow_10 : decode cX10_isRow 10 = .ok (.iconst 0, 1) := by decide +kernel
theorem dX10_isRow_11 : decode cX10_isRow 11 = .ok (.iconst 2, 1) := by decide +kernel
theorem dX10_isRow_12 : decode cX10_isRow 12 = .ok (.invokestatic 69, 3) := by decide +kernel
theorem dX10_isRow_15 : decode cX10_isRow 15 = .ok (.ifCond .eq 7, 3) := by decide +kernel
theorem dX10_isRow_18 : decode cX10_isRow 18 = .ok (.iconst 1, 1) := by decide +kernel
theorem dX10_isRow_19 : decode cX10_isRow 19 = .ok (.goto 4, 3) := by decide +kernel
theorem dX10_isRow_22 : decode cX10_isRow 22 = .ok (.iconst 0, 1) := by decide +kernel
theorem dX10_isRow_23 : decode cX10_isRow 23 = .ok (.ireturn, 1) := by decide +kernel
theorem dX10_isThing_0 : decode cX10_isThing 0 = .ok (.iload_n 1, 1) := by decide +kernel
theorem dX10_isThing_1 : decode cX10_isThing 1 = .ok (.invokestatic 144, 3) := by decide +kernel
theorem dX10_isThing_4 : decode cX10_isThing 4 = .ok (.ifCond .eq 29, 3) := by decide +kernel
theorem dX10_isThing_7 : decode cX10_isThing 7 = .ok (.iload_n 2, 1) := by decide +kernel
theorem dX10_isThing_8 : decode cX10_isThing 8 = .ok (.iconst 0, 1) := by decide +kernel
theorem dX10_isThing_9 : decode cX10_isThing 9 = .ok (.aload_n 0, 1) := by decide +kernel
theorem dX10_isThing_10 : decode cX10_isThing 10 = .ok (.getfield 12, 3) := by decide +kernel
theorem dX10_isThing_13 : decode cX10_isThing 13 = .ok (.getfield 147, 3) := by decide +kernel
theorem dX10_isThing_16 : decode cX10_isThing 16 = .ok (.iload_n 1, 1) := by decide +kernel
theorem dX10_isThing_17 : decode cX10_isThing 17 = .ok (.aaload, 1) := by decide +kernel
theorem dX10_isThing_18 : decode cX10_isThing 18 = .ok (.getfield 167, 3) := by decide +kernel
theorem dX10_isThing_21 : decode cX10_isThing 21 = .ok (.iconst 1, 1) := by decide +kernel
theorem dX10_isThing_22 : decode cX10_isThing 22 = .ok (.isub, 1) := by decide +kernel
theorem dX10_isThing_23 : decode cX10_isThing 23 = .ok (.invokestatic 69, 3) := by decide +kernel
theorem dX10_isThing_26 : decode cX10_isThing 26 = .ok (.ifCond .eq 7, 3) := by decide +kernel
theorem dX10_isThing_29 : decode cX10_isThing 29 = .ok (.iconst 1, 1) := by decide +kernel
theorem dX10_isThing_30 : decode cX10_isThing 30 = .ok (.goto 4, 3) := by decide +kernel
theorem dX10_isThing_33 : decode cX10_isThing 33 = .ok (.iconst 0, 1) := by decide +kernel
theorem dX10_isThing_34 : decode cX10_isThing 34 = .ok (.ireturn, 1) := by decide +kernel
theorem dX10_isPair_0 : decode cX10_isPair 0 = .ok (.aload_n 0, 1) := by decide +kernel
theorem dX10_isPair_1 : decode cX10_isPair 1 = .ok (.iload_n 1, 1) := by decide +kernel
theorem dX10_isPair_2 : decode cX10_isPair 2 = .ok (.iload_n 2, 1) := by decide +kernel
theorem dX10_isPair_3 : decode cX10_isPair 3 = .ok (.invokevirtual 170, 3) := by decide +kernel
theorem dX10_isPair_6 : decode cX10_isPair 6 = .ok (.ifCond .eq 21, 3) := by decide +kernel
theorem dX10_isPair_9 : decode cX10_isPair 9 = .ok (.aload_n 0, 1) := by decide +kernel
theorem dX10_isPair_10 : decode cX10_isPair 10 = .ok (.iload_n 1, 1) := by decide +kernel
theorem dX10_isPair_11 : decode cX10_isPair 11 = .ok (.iload_n 3, 1) := by decide +kernel
theorem dX10_isPair_12 : decode cX10_isPair 12 = .ok (.invokevirtual 170, 3) := by decide +kernel
theorem dX10_isPair_15 : decode cX10_isPair 15 = .ok (.ifCond .eq 12, 3) := by decide +kernel
theorem dX10_isPair_18 : decode cX10_isPair 18 = .ok (.iload_n 2, 1) := by decide +kernel
theorem dX10_isPair_19 : decode cX10_isPair 19 = .ok (.iload_n 3, 1) := by decide +kernel
theorem dX10_isPair_20 : decode cX10_isPair 20 = .ok (.if_icmp .ge 7, 3) := by decide +kernel
theorem dX10_isPair_23 : decode cX10_isPair 23 = .ok (.iconst 1, 1) := by decide +kernel
theorem dX10_isPair_24 : decode cX10_isPair 24 = .ok (.goto 4, 3) := by decide +kernel
theorem dX10_isPair_27 : decode cX10_isPair 27 = .ok (.iconst 0, 1) := by decide +kernel
theorem dX10_isPair_28 : decode cX10_isPair 28 = .ok (.ireturn, 1) := by decide +kernel
theorem dX10_isClaim_0 : decode cX10_isClaim 0 = .ok (.iload_n 1, 1) := by decide +kernel
theorem dX10_isClaim_1 : decode cX10_isClaim 1 = .ok (.iconst 0, 1) := by decide +kernel
theorem dX10_isClaim_2 : decode cX10_isClaim 2 = .ok (.aload_n 0, 1) := by decide +kernel
theorem dX10_isClaim_3 : decode cX10_isClaim 3 = .ok (.getfield 12, 3) := by decide +kernel
theorem dX10_isClaim_6 : decode cX10_isClaim 6 = .ok (.getfield 225, 3) := by decide +kernel
theorem dX10_isClaim_9 : decode cX10_isClaim 9 = .ok (.iconst 1, 1) := by decide +kernel
theorem dX10_isClaim_10 : decode cX10_isClaim 10 = .ok (.isub, 1) := by decide +kernel
theorem dX10_isClaim_11 : decode cX10_isClaim 11 = .ok (.invokestatic 69, 3) := by decide +kernel
theorem dX10_isClaim_14 : decode cX10_isClaim 14 = .ok (.ireturn, 1) := by decide +kernel
theorem dX10_copyRow_0 : decode cX10_copyRow 0 = .ok (.aload_n 0, 1) := by decide +kernel
theorem dX10_copyRow_1 : decode cX10_copyRow 1 = .ok (.iconst 0, 1) := by decide +kernel
theorem dX10_copyRow_2 : decode cX10_copyRow 2 = .ok (.aload_n 1, 1) := by decide +kernel
theorem dX10_copyRow_3 : decode cX10_copyRow 3 = .ok (.iconst 0, 1) := by decide +kernel
theorem dX10_copyRow_4 : decode cX10_copyRow 4 = .ok (.aload_n 0, 1) := by decide +kernel
theorem dX10_copyRow_5 : decode cX10_copyRow 5 = .ok (.arraylength, 1) := by decide +kernel
theorem dX10_copyRow_6 : decode cX10_copyRow 6 = .ok (.aload_n 1, 1) := by decide +kernel
theorem dX10_copyRow_7 : decode cX10_copyRow 7 = .ok (.arraylength, 1) := by decide +kernel
theorem dX10_copyRow_8 : decode cX10_copyRow 8 = .ok (.invokestatic 382, 3) := by decide +kernel
theorem dX10_copyRow_11 : decode cX10_copyRow 11 = .ok (.invokestatic 385, 3) := by decide +kernel
theorem dX10_copyRow_14 : decode cX10_copyRow 14 = .ok (.return_, 1) := by decide +kernel
theorem dJ7_fill_d0a16_0 : decode cJ7_fill_d0a16 0 = .ok (.iconst 0, 1) := by decide +kernel
theorem dJ7_fill_d0a16_1 : decode cJ7_fill_d0a16 1 = .ok (.istore_n 3, 1) := by decide +kernel
theorem dJ7_fill_d0a16_2 : decode cJ7_fill_d0a16 2 = .ok (.aload_n 0, 1) := by decide +kernel
theorem dJ7_fill_d0a16_3 : decode cJ7_fill_d0a16 3 = .ok (.arraylength, 1) := by decide +kernel
theorem dJ7_fill_d0a16_4 : decode cJ7_fill_d0a16 4 = .ok (.istore 4, 2) := by decide +kernel
theorem dJ7_fill_d0a16_6 : decode cJ7_fill_d0a16 6 = .ok (.iload_n 3, 1) := by decide +kernel
theorem dJ7_fill_d0a16_7 : decode cJ7_fill_d0a16 7 = .ok (.iload 4, 2) := by decide +kernel
theorem dJ7_fill_d0a16_9 : decode cJ7_fill_d0a16 9 = .ok (.if_icmp .ge 13, 3) := by decide +kernel
theorem dJ7_fill_d0a16_12 : decode cJ7_fill_d0a16 12 = .ok (.aload_n 0, 1) := by decide +kernel
theorem dJ7_fill_d0a16_13 : decode cJ7_fill_d0a16 13 = .ok (.iload_n 3, 1) := by decide +kernel
theorem dJ7_fill_d0a16_14 : decode cJ7_fill_d0a16 14 = .ok (.lload_n 1, 1) := by decide +kernel
theorem dJ7_fill_d0a16_15 : decode cJ7_fill_d0a16 15 = .ok (.lastore, 1) := by decide +kernel
theorem dJ7_fill_d0a16_16 : decode cJ7_fill_d0a16 16 = .ok (.iinc 3 1, 3) := by decide +kernel
theorem dJ7_fill_d0a16_19 : decode cJ7_fill_d0a16 19 = .ok (.goto (-13), 3) := by decide +kernel
theorem dJ7_fill_d0a16_22 : decode cJ7_fill_d0a16 22 = .ok (.return_, 1) := by decide +kernel
theorem dJ7_fill_bad5a_0 : decode cJ7_fill_bad5a 0 = .ok (.aload_n 0, 1) := by decide +kernel
theorem dJ7_fill_bad5a_1 : decode cJ7_fill_bad5a 1 = .ok (.arraylength, 1) := by decide +kernel
theorem dJ7_fill_bad5a_2 : decode cJ7_fill_bad5a 2 = .ok (.iload_n 1, 1) := by decide +kernel
theorem dJ7_fill_bad5a_3 : decode cJ7_fill_bad5a 3 = .ok (.iload_n 2, 1) := by decide +kernel
theorem dJ7_fill_bad5a_4 : decode cJ7_fill_bad5a 4 = .ok (.invokestatic 13, 3) := by decide +kernel
theorem dJ7_fill_bad5a_7 : decode cJ7_fill_bad5a 7 = .ok (.iload_n 1, 1) := by decide +kernel
theorem dJ7_fill_bad5a_8 : decode cJ7_fill_bad5a 8 = .ok (.istore 5, 2) := by decide +kernel
theorem dJ7_fill_bad5a_10 : decode cJ7_fill_bad5a 10 = .ok (.iload 5, 2) := by decide +kernel
theorem dJ7_fill_bad5a_12 : decode cJ7_fill_bad5a 12 = .ok (.iload_n 2, 1) := by decide +kernel
theorem dJ7_fill_bad5a_13 : decode cJ7_fill_bad5a 13 = .ok (.if_icmp .ge 14, 3) := by decide +kernel
theorem dJ7_fill_bad5a_16 : decode cJ7_fill_bad5a 16 = .ok (.aload_n 0, 1) := by decide +kernel
theorem dJ7_fill_bad5a_17 : decode cJ7_fill_bad5a 17 = .ok (.iload 5, 2) := by decide +kernel
theorem dJ7_fill_bad5a_19 : decode cJ7_fill_bad5a 19 = .ok (.lload_n 3, 1) := by decide +kernel
theorem dJ7_fill_bad5a_20 : decode cJ7_fill_bad5a 20 = .ok (.lastore, 1) := by decide +kernel
theorem dJ7_fill_bad5a_21 : decode cJ7_fill_bad5a 21 = .ok (.iinc 5 1, 3) := by decide +kernel
theorem dJ7_fill_bad5a_24 : decode cJ7_fill_bad5a 24 = .ok (.goto (-14), 3) := by decide +kernel
theorem dJ7_fill_bad5a_27 : decode cJ7_fill_bad5a 27 = .ok (.return_, 1) := by decide +kernel
theorem dJ7_fill_53178_0 : decode cJ7_fill_53178 0 = .ok (.iconst 0, 1) := by decide +kernel
theorem dJ7_fill_53178_1 : decode cJ7_fill_53178 1 = .ok (.istore_n 2, 1) := by decide +kernel
theorem dJ7_fill_53178_2 : decode cJ7_fill_53178 2 = .ok (.aload_n 0, 1) := by decide +kernel
theorem dJ7_fill_53178_3 : decode cJ7_fill_53178 3 = .ok (.arraylength, 1) := by decide +kernel
theorem dJ7_fill_53178_4 : decode cJ7_fill_53178 4 = .ok (.istore_n 3, 1) := by decide +kernel
theorem dJ7_fill_53178_5 : decode cJ7_fill_53178 5 = .ok (.iload_n 2, 1) := by decide +kernel
theorem dJ7_fill_53178_6 : decode cJ7_fill_53178 6 = .ok (.iload_n 3, 1) := by decide +kernel
theorem dJ7_fill_53178_7 : decode cJ7_fill_53178 7 = .ok (.if_icmp .ge 13, 3) := by decide +kernel
theorem dJ7_fill_53178_10 : decode cJ7_fill_53178 10 = .ok (.aload_n 0, 1) := by decide +kernel
theorem dJ7_fill_53178_11 : decode cJ7_fill_53178 11 = .ok (.iload_n 2, 1) := by decide +kernel
theorem dJ7_fill_53178_12 : decode cJ7_fill_53178 12 = .ok (.iload_n 1, 1) := by decide +kernel
theorem dJ7_fill_53178_13 : decode cJ7_fill_53178 13 = .ok (.iastore, 1) := by decide +kernel
theorem dJ7_fill_53178_14 : decode cJ7_fill_53178 14 = .ok (.iinc 2 1, 3) := by decide +kernel
theorem dJ7_fill_53178_17 : decode cJ7_fill_53178 17 = .ok (.goto (-12), 3) := by decide +kernel
theorem dJ7_fill_53178_20 : decode cJ7_fill_53178 20 = .ok (.return_, 1) := by decide +kernel
