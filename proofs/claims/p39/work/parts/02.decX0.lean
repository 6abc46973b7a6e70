theorem dX0_init_0 : decode cX0_init 0 = .ok (.aload_n 0, 1) := by decide +kernel
theorem dX0_init_1 : decode cX0_init 1 = .ok (.invokespecial 3, 3) := by decide +kernel
theorem dX0_init_4 : decode cX0_init 4 = .ok (.aload_n 0, 1) := by decide +kernel
theorem dX0_init_5 : decode cX0_init 5 = .ok (.bipush 12, 2) := by decide +kernel
theorem dX0_init_7 : decode cX0_init 7 = .ok (.newarray .int, 2) := by decide +kernel
theorem dX0_init_9 : decode cX0_init 9 = .ok (.putfield 9, 3) := by decide +kernel
theorem dX0_init_12 : decode cX0_init 12 = .ok (.aload_n 0, 1) := by decide +kernel
theorem dX0_init_13 : decode cX0_init 13 = .ok (.bipush 12, 2) := by decide +kernel
theorem dX0_init_15 : decode cX0_init 15 = .ok (.newarray .int, 2) := by decide +kernel
theorem dX0_init_17 : decode cX0_init 17 = .ok (.putfield 15, 3) := by decide +kernel
theorem dX0_init_20 : decode cX0_init 20 = .ok (.aload_n 0, 1) := by decide +kernel
theorem dX0_init_21 : decode cX0_init 21 = .ok (.bipush 12, 2) := by decide +kernel
theorem dX0_init_23 : decode cX0_init 23 = .ok (.newarray .int, 2) := by decide +kernel
theorem dX0_init_25 : decode cX0_init 25 = .ok (.putfield 18, 3) := by decide +kernel
theorem dX0_init_28 : decode cX0_init 28 = .ok (.aload_n 0, 1) := by decide +kernel
theorem dX0_init_29 : decode cX0_init 29 = .ok (.bipush 6, 2) := by decide +kernel
theorem dX0_init_31 : decode cX0_init 31 = .ok (.newarray .int, 2) := by decide +kernel
theorem dX0_init_33 : decode cX0_init 33 = .ok (.putfield 21, 3) := by decide +kernel
theorem dX0_init_36 : decode cX0_init 36 = .ok (.aload_n 0, 1) := by decide +kernel
theorem dX0_init_37 : decode cX0_init 37 = .ok (.bipush 6, 2) := by decide +kernel
theorem dX0_init_39 : decode cX0_init 39 = .ok (.newarray .int, 2) := by decide +kernel
theorem dX0_init_41 : decode cX0_init 41 = .ok (.putfield 24, 3) := by decide +kernel
theorem dX0_init_44 : decode cX0_init 44 = .ok (.aload_n 0, 1) := by decide +kernel
theorem dX0_init_45 : decode cX0_init 45 = .ok (.bipush 6, 2) := by decide +kernel
theorem dX0_init_47 : decode cX0_init 47 = .ok (.newarray .int, 2) := by decide +kernel
theorem dX0_init_49 : decode cX0_init 49 = .ok (.putfield 27, 3) := by decide +kernel
theorem dX0_init_52 : decode cX0_init 52 = .ok (.aload_n 0, 1) := by decide +kernel
theorem dX0_init_53 : decode cX0_init 53 = .ok (.bipush 6, 2) := by decide +kernel
theorem dX0_init_55 : decode cX0_init 55 = .ok (.newarray .int, 2) := by decide +kernel
theorem dX0_init_57 : decode cX0_init 57 = .ok (.putfield 30, 3) := by decide +kernel
theorem dX0_init_60 : decode cX0_init 60 = .ok (.aload_n 0, 1) := by decide +kernel
theorem dX0_init_61 : decode cX0_init 61 = .ok (.iconst 2, 1) := by decide +kernel
theorem dX0_init_62 : decode cX0_init 62 = .ok (.putfield 33, 3) := by decide +kernel
theorem dX0_init_65 : decode cX0_init 65 = .ok (.return_, 1) := by decide +kernel
theorem dX0_isPlace_0 : decode cX0_isPlace 0 = .ok (.aload_n 0, 1) := by decide +kernel
theorem dX0_isPlace_1 : decode cX0_isPlace 1 = .ok (.getfield 9, 3) := by decide +kernel
theorem dX0_isPlace_4 : decode cX0_isPlace 4 = .ok (.iload_n 1, 1) := by decide +kernel
theorem dX0_isPlace_5 : decode cX0_isPlace 5 = .ok (.iaload, 1) := by decide +kernel
theorem dX0_isPlace_6 : decode cX0_isPlace 6 = .ok (.iconst 2, 1) := by decide +kernel
theorem dX0_isPlace_7 : decode cX0_isPlace 7 = .ok (.if_icmp .eq 7, 3) := by decide +kernel
theorem dX0_isPlace_10 : decode cX0_isPlace 10 = .ok (.iconst 1, 1) := by decide +kernel
theorem dX0_isPlace_11 : decode cX0_isPlace 11 = .ok (.goto 4, 3) := by decide +kernel
theorem dX0_isPlace_14 : decode cX0_isPlace 14 = .ok (.iconst 0, 1) := by decide +kernel
theorem dX0_isPlace_15 : decode cX0_isPlace 15 = .ok (.ireturn, 1) := by decide +kernel
theorem dX0_places_0 : decode cX0_places 0 = .ok (.iconst 0, 1) := by decide +kernel
theorem dX0_places_1 : decode cX0_places 1 = .ok (.istore_n 1, 1) := by decide +kernel
theorem dX0_places_2 : decode cX0_places 2 = .ok (.iconst 0, 1) := by decide +kernel
theorem dX0_places_3 : decode cX0_places 3 = .ok (.istore_n 2, 1) := by decide +kernel
theorem dX0_places_4 : decode cX0_places 4 = .ok (.iload_n 2, 1) := by decide +kernel
theorem dX0_places_5 : decode cX0_places 5 = .ok (.aload_n 0, 1) := by decide +kernel
theorem dX0_places_6 : decode cX0_places 6 = .ok (.getfield 37, 3) := by decide +kernel
theorem dX0_places_9 : decode cX0_places 9 = .ok (.if_icmp .ge 25, 3) := by decide +kernel
theorem dX0_places_12 : decode cX0_places 12 = .ok (.iload_n 1, 1) := by decide +kernel
theorem dX0_places_13 : decode cX0_places 13 = .ok (.aload_n 0, 1) := by decide +kernel
theorem dX0_places_14 : decode cX0_places 14 = .ok (.iload_n 2, 1) := by decide +kernel
theorem dX0_places_15 : decode cX0_places 15 = .ok (.invokevirtual 40, 3) := by decide +kernel
theorem dX0_places_18 : decode cX0_places 18 = .ok (.ifCond .eq 7, 3) := by decide +kernel
theorem dX0_places_21 : decode cX0_places 21 = .ok (.iconst 1, 1) := by decide +kernel
theorem dX0_places_22 : decode cX0_places 22 = .ok (.goto 4, 3) := by decide +kernel
theorem dX0_places_25 : decode cX0_places 25 = .ok (.iconst 0, 1) := by decide +kernel
theorem dX0_places_26 : decode cX0_places 26 = .ok (.iadd, 1) := by decide +kernel
theorem dX0_places_27 : decode cX0_places 27 = .ok (.istore_n 1, 1) := by decide +kernel
theorem dX0_places_28 : decode cX0_places 28 = .ok (.iinc 2 1, 3) := by decide +kernel
theorem dX0_places_31 : decode cX0_places 31 = .ok (.goto (-27), 3) := by decide +kernel
theorem dX0_places_34 : decode cX0_places 34 = .ok (.iload_n 1, 1) := by decide +kernel
theorem dX0_places_35 : decode cX0_places 35 = .ok (.ireturn, 1) := by decide +kernel
theorem dX0_add_0 : decode cX0_add 0 = .ok (.aload_n 0, 1) := by decide +kernel
theorem dX0_add_1 : decode cX0_add 1 = .ok (.getfield 37, 3) := by decide +kernel
theorem dX0_add_4 : decode cX0_add 4 = .ok (.bipush 12, 2) := by decide +kernel
theorem dX0_add_6 : decode cX0_add 6 = .ok (.if_icmp .ge 43, 3) := by decide +kernel
theorem dX0_add_9 : decode cX0_add 9 = .ok (.aload_n 0, 1) := by decide +kernel
theorem dX0_add_10 : decode cX0_add 10 = .ok (.getfield 9, 3) := by decide +kernel
theorem dX0_add_13 : decode cX0_add 13 = .ok (.aload_n 0, 1) := by decide +kernel
theorem dX0_add_14 : decode cX0_add 14 = .ok (.getfield 37, 3) := by decide +kernel
theorem dX0_add_17 : decode cX0_add 17 = .ok (.iload_n 1, 1) := by decide +kernel
theorem dX0_add_18 : decode cX0_add 18 = .ok (.iastore, 1) := by decide +kernel
theorem dX0_add_19 : decode cX0_add 19 = .ok (.aload_n 0, 1) := by decide +kernel
theorem dX0_add_20 : decode cX0_add 20 = .ok (.getfield 15, 3) := by decide +kernel
theorem dX0_add_23 : decode cX0_add 23 = .ok (.aload_n 0, 1) := by decide +kernel
theorem dX0_add_24 : decode cX0_add 24 = .ok (.getfield 37, 3) := by decide +kernel
theorem dX0_add_27 : decode cX0_add 27 = .ok (.iload_n 2, 1) := by decide +kernel
theorem dX0_add_28 : decode cX0_add 28 = .ok (.iastore, 1) := by decide +kernel
theorem dX0_add_29 : decode cX0_add 29 = .ok (.aload_n 0, 1) := by decide +kernel
theorem dX0_add_30 : decode cX0_add 30 = .ok (.getfield 18, 3) := by decide +kernel
theorem dX0_add_33 : decode cX0_add 33 = .ok (.aload_n 0, 1) := by decide +kernel
theorem dX0_add_34 : decode cX0_add 34 = .ok (.getfield 37, 3) := by decide +kernel
theorem dX0_add_37 : decode cX0_add 37 = .ok (.iload_n 3, 1) := by decide +kernel
theorem dX0_add_38 : decode cX0_add 38 = .ok (.iastore, 1) := by decide +kernel
theorem dX0_add_39 : decode cX0_add 39 = .ok (.aload_n 0, 1) := by decide +kernel
theorem dX0_add_40 : decode cX0_add 40 = .ok (.dup, 1) := by decide +kernel
theorem dX0_add_41 : decode cX0_add 41 = .ok (.getfield 37, 3) := by decide +kernel
theorem dX0_add_44 : decode cX0_add 44 = .ok (.iconst 1, 1) := by decide +kernel
theorem dX0_add_45 : decode cX0_add 45 = .ok (.iadd, 1) := by decide +kernel
theorem dX0_add_46 : decode cX0_add 46 = .ok (.putfield 37, 3) := by decide +kernel
theorem dX0_add_49 : decode cX0_add 49 = .ok (.return_, 1) := by decide +kernel
theorem dX0_grow_0 : decode cX0_grow 0 = .ok (.aload_n 0, 1) := by decide +kernel
theorem dX0_grow_1 : decode cX0_grow 1 = .ok (.iconst 0, 1) := by decide +kernel
theorem dX0_grow_2 : decode cX0_grow 2 = .ok (.putfield 37, 3) := by decide +kernel
theorem dX0_grow_5 : decode cX0_grow 5 = .ok (.aload_n 0, 1) := by decide +kernel
theorem dX0_grow_6 : decode cX0_grow 6 = .ok (.iconst 0, 1) := by decide +kernel
theorem dX0_grow_7 : decode cX0_grow 7 = .ok (.putfield 44, 3) := by decide +kernel
theorem dX0_grow_10 : decode cX0_grow 10 = .ok (.aload_n 0, 1) := by decide +kernel
theorem dX0_grow_11 : decode cX0_grow 11 = .ok (.iconst 1, 1) := by decide +kernel
theorem dX0_grow_12 : decode cX0_grow 12 = .ok (.putfield 47, 3) := by decide +kernel
theorem dX0_grow_15 : decode cX0_grow 15 = .ok (.iconst (-1), 1) := by decide +kernel
theorem dX0_grow_16 : decode cX0_grow 16 = .ok (.istore_n 3, 1) := by decide +kernel
theorem dX0_grow_17 : decode cX0_grow 17 = .ok (.iconst 0, 1) := by decide +kernel
theorem dX0_grow_18 : decode cX0_grow 18 = .ok (.istore 4, 2) := by decide +kernel
theorem dX0_grow_20 : decode cX0_grow 20 = .ok (.iload 4, 2) := by decide +kernel
theorem dX0_grow_22 : decode cX0_grow 22 = .ok (.bipush 24, 2) := by decide +kernel
theorem dX0_grow_24 : decode cX0_grow 24 = .ok (.if_icmp .ge 94, 3) := by decide +kernel
theorem dX0_grow_27 : decode cX0_grow 27 = .ok (.aload_n 2, 1) := by decide +kernel
theorem dX0_grow_28 : decode cX0_grow 28 = .ok (.aload_n 1, 1) := by decide +kernel
theorem dX0_grow_29 : decode cX0_grow 29 = .ok (.iload 4, 2) := by decide +kernel
theorem dX0_grow_31 : decode cX0_grow 31 = .ok (.invokevirtual 51, 3) := by decide +kernel
theorem dX0_grow_34 : decode cX0_grow 34 = .ok (.istore 5, 2) := by decide +kernel
theorem dX0_grow_36 : decode cX0_grow 36 = .ok (.iload 5, 2) := by decide +kernel
theorem dX0_grow_38 : decode cX0_grow 38 = .ok (.ifCond .le 74, 3) := by decide +kernel
theorem dX0_grow_41 : decode cX0_grow 41 = .ok (.iload_n 3, 1) := by decide +kernel
theorem dX0_grow_42 : decode cX0_grow 42 = .ok (.ifCond .lt 24, 3) := by decide +kernel
theorem dX0_grow_45 : decode cX0_grow 45 = .ok (.iload 4, 2) := by decide +kernel
theorem dX0_grow_47 : decode cX0_grow 47 = .ok (.iload_n 3, 1) := by decide +kernel
theorem dX0_grow_48 : decode cX0_grow 48 = .ok (.isub, 1) := by decide +kernel
theorem dX0_grow_49 : decode cX0_grow 49 = .ok (.iconst 1, 1) := by decide +kernel
theorem dX0_grow_50 : decode cX0_grow 50 = .ok (.isub, 1) := by decide +kernel
theorem dX0_grow_51 : decode cX0_grow 51 = .ok (.aload_n 1, 1) := by decide +kernel
theorem dX0_grow_52 : decode cX0_grow 52 = .ok (.getfield 57, 3) := by decide +kernel
theorem dX0_grow_55 : decode cX0_grow 55 = .ok (.if_icmp .lt 11, 3) := by decide +kernel
theorem dX0_grow_58 : decode cX0_grow 58 = .ok (.aload_n 0, 1) := by decide +kernel
theorem dX0_grow_59 : decode cX0_grow 59 = .ok (.iconst 2, 1) := by decide +kernel
theorem dX0_grow_60 : decode cX0_grow 60 = .ok (.iconst 0, 1) := by decide +kernel
theorem dX0_grow_61 : decode cX0_grow 61 = .ok (.iload 4, 2) := by decide +kernel
theorem dX0_grow_63 : decode cX0_grow 63 = .ok (.invokevirtual 62, 3) := by decide +kernel
theorem dX0_grow_66 : decode cX0_grow 66 = .ok (.iconst 0, 1) := by decide +kernel
theorem dX0_grow_67 : decode cX0_grow 67 = .ok (.istore 6, 2) := by decide +kernel
theorem dX0_grow_69 : decode cX0_grow 69 = .ok (.iload 6, 2) := by decide +kernel
theorem dX0_grow_71 : decode cX0_grow 71 = .ok (.iload 5, 2) := by decide +kernel
theorem dX0_grow_73 : decode cX0_grow 73 = .ok (.if_icmp .ge 36, 3) := by decide +kernel
theorem dX0_grow_76 : decode cX0_grow 76 = .ok (.aload_n 0, 1) := by decide +kernel
theorem dX0_grow_77 : decode cX0_grow 77 = .ok (.iconst 0, 1) := by decide +kernel
theorem dX0_grow_78 : decode cX0_grow 78 = .ok (.aload_n 1, 1) := by decide +kernel
theorem dX0_grow_79 : decode cX0_grow 79 = .ok (.iload 4, 2) := by decide +kernel
theorem dX0_grow_81 : decode cX0_grow 81 = .ok (.aload_n 1, 1) := by decide +kernel
theorem dX0_grow_82 : decode cX0_grow 82 = .ok (.getfield 66, 3) := by decide +kernel
theorem dX0_grow_85 : decode cX0_grow 85 = .ok (.invokevirtual 69, 3) := by decide +kernel
theorem dX0_grow_88 : decode cX0_grow 88 = .ok (.aload_n 1, 1) := by decide +kernel
theorem dX0_grow_89 : decode cX0_grow 89 = .ok (.getfield 73, 3) := by decide +kernel
theorem dX0_grow_92 : decode cX0_grow 92 = .ok (.iconst 2, 1) := by decide +kernel
theorem dX0_grow_93 : decode cX0_grow 93 = .ok (.aaload, 1) := by decide +kernel
theorem dX0_grow_94 : decode cX0_grow 94 = .ok (.iload 4, 2) := by decide +kernel
theorem dX0_grow_96 : decode cX0_grow 96 = .ok (.iaload, 1) := by decide +kernel
theorem dX0_grow_97 : decode cX0_grow 97 = .ok (.isub, 1) := by decide +kernel
theorem dX0_grow_98 : decode cX0_grow 98 = .ok (.iload 4, 2) := by decide +kernel
theorem dX0_grow_100 : decode cX0_grow 100 = .ok (.invokevirtual 62, 3) := by decide +kernel
theorem dX0_grow_103 : decode cX0_grow 103 = .ok (.iinc 6 1, 3) := by decide +kernel
theorem dX0_grow_106 : decode cX0_grow 106 = .ok (.goto (-37), 3) := by decide +kernel
theorem dX0_grow_109 : decode cX0_grow 109 = .ok (.iload 4, 2) := by decide +kernel
theorem dX0_grow_111 : decode cX0_grow 111 = .ok (.istore_n 3, 1) := by decide +kernel
theorem dX0_grow_112 : decode cX0_grow 112 = .ok (.iinc 4 1, 3) := by decide +kernel
theorem dX0_grow_115 : decode cX0_grow 115 = .ok (.goto (-95), 3) := by decide +kernel
theorem dX0_grow_118 : decode cX0_grow 118 = .ok (.return_, 1) := by decide +kernel
theorem dX0_addStretch_0 : decode cX0_addStretch 0 = .ok (.aload_n 0, 1) := by decide +kernel
theorem dX0_addStretch_1 : decode cX0_addStretch 1 = .ok (.getfield 21, 3) := by decide +kernel
theorem dX0_addStretch_4 : decode cX0_addStretch 4 = .ok (.aload_n 0, 1) := by decide +kernel
theorem dX0_addStretch_5 : decode cX0_addStretch 5 = .ok (.getfield 44, 3) := by decide +kernel
theorem dX0_addStretch_8 : decode cX0_addStretch 8 = .ok (.iload_n 1, 1) := by decide +kernel
theorem dX0_addStretch_9 : decode cX0_addStretch 9 = .ok (.iastore, 1) := by decide +kernel
theorem dX0_addStretch_10 : decode cX0_addStretch 10 = .ok (.aload_n 0, 1) := by decide +kernel
theorem dX0_addStretch_11 : decode cX0_addStretch 11 = .ok (.getfield 24, 3) := by decide +kernel
theorem dX0_addStretch_14 : decode cX0_addStretch 14 = .ok (.aload_n 0, 1) := by decide +kernel
theorem dX0_addStretch_15 : decode cX0_addStretch 15 = .ok (.getfield 44, 3) := by decide +kernel
theorem dX0_addStretch_18 : decode cX0_addStretch 18 = .ok (.iload_n 2, 1) := by decide +kernel
theorem dX0_addStretch_19 : decode cX0_addStretch 19 = .ok (.iastore, 1) := by decide +kernel
theorem dX0_addStretch_20 : decode cX0_addStretch 20 = .ok (.aload_n 0, 1) := by decide +kernel
theorem dX0_addStretch_21 : decode cX0_addStretch 21 = .ok (.getfield 27, 3) := by decide +kernel
theorem dX0_addStretch_24 : decode cX0_addStretch 24 = .ok (.aload_n 0, 1) := by decide +kernel
theorem dX0_addStretch_25 : decode cX0_addStretch 25 = .ok (.getfield 44, 3) := by decide +kernel
theorem dX0_addStretch_28 : decode cX0_addStretch 28 = .ok (.iload_n 3, 1) := by decide +kernel
theorem dX0_addStretch_29 : decode cX0_addStretch 29 = .ok (.iastore, 1) := by decide +kernel
theorem dX0_addStretch_30 : decode cX0_addStretch 30 = .ok (.aload_n 0, 1) := by decide +kernel
theorem dX0_addStretch_31 : decode cX0_addStretch 31 = .ok (.getfield 30, 3) := by decide +kernel
theorem dX0_addStretch_34 : decode cX0_addStretch 34 = .ok (.aload_n 0, 1) := by decide +kernel
theorem dX0_addStretch_35 : decode cX0_addStretch 35 = .ok (.getfield 44, 3) := by decide +kernel
theorem dX0_addStretch_38 : decode cX0_addStretch 38 = .ok (.iload 4, 2) := by decide +kernel
theorem dX0_addStretch_40 : decode cX0_addStretch 40 = .ok (.iastore, 1) := by decide +kernel
theorem dX0_addStretch_41 : decode cX0_addStretch 41 = .ok (.aload_n 0, 1) := by decide +kernel
theorem dX0_addStretch_42 : decode cX0_addStretch 42 = .ok (.dup, 1) := by decide +kernel
theorem dX0_addStretch_43 : decode cX0_addStretch 43 = .ok (.getfield 44, 3) := by decide +kernel
theorem dX0_addStretch_46 : decode cX0_addStretch 46 = .ok (.iconst 1, 1) := by decide +kernel
theorem dX0_addStretch_47 : decode cX0_addStretch 47 = .ok (.iadd, 1) := by decide +kernel
theorem dX0_addStretch_48 : decode cX0_addStretch 48 = .ok (.putfield 44, 3) := by decide +kernel
theorem dX0_addStretch_51 : decode cX0_addStretch 51 = .ok (.return_, 1) := by decide +kernel
theorem dX0_cutFrom_0 : decode cX0_cutFrom 0 = .ok (.aload_n 0, 1) := by decide +kernel
theorem dX0_cutFrom_1 : decode cX0_cutFrom 1 = .ok (.getfield 44, 3) := by decide +kernel
theorem dX0_cutFrom_4 : decode cX0_cutFrom 4 = .ok (.istore_n 2, 1) := by decide +kernel
theorem dX0_cutFrom_5 : decode cX0_cutFrom 5 = .ok (.aload_n 0, 1) := by decide +kernel
theorem dX0_cutFrom_6 : decode cX0_cutFrom 6 = .ok (.iload_n 1, 1) := by decide +kernel
theorem dX0_cutFrom_7 : decode cX0_cutFrom 7 = .ok (.putfield 37, 3) := by decide +kernel
theorem dX0_cutFrom_10 : decode cX0_cutFrom 10 = .ok (.aload_n 0, 1) := by decide +kernel
theorem dX0_cutFrom_11 : decode cX0_cutFrom 11 = .ok (.iconst 0, 1) := by decide +kernel
theorem dX0_cutFrom_12 : decode cX0_cutFrom 12 = .ok (.putfield 47, 3) := by decide +kernel
theorem dX0_cutFrom_15 : decode cX0_cutFrom 15 = .ok (.aload_n 0, 1) := by decide +kernel
theorem dX0_cutFrom_16 : decode cX0_cutFrom 16 = .ok (.iconst 0, 1) := by decide +kernel
theorem dX0_cutFrom_17 : decode cX0_cutFrom 17 = .ok (.putfield 44, 3) := by decide +kernel
theorem dX0_cutFrom_20 : decode cX0_cutFrom 20 = .ok (.iconst 0, 1) := by decide +kernel
theorem dX0_cutFrom_21 : decode cX0_cutFrom 21 = .ok (.istore_n 3, 1) := by decide +kernel
theorem dX0_cutFrom_22 : decode cX0_cutFrom 22 = .ok (.iload_n 3, 1) := by decide +kernel
theorem dX0_cutFrom_23 : decode cX0_cutFrom 23 = .ok (.iload_n 2, 1) := by decide +kernel
theorem dX0_cutFrom_24 : decode cX0_cutFrom 24 = .ok (.if_icmp .ge 47, 3) := by decide +kernel
theorem dX0_cutFrom_27 : decode cX0_cutFrom 27 = .ok (.aload_n 0, 1) := by decide +kernel
theorem dX0_cutFrom_28 : decode cX0_cutFrom 28 = .ok (.getfield 27, 3) := by decide +kernel
theorem dX0_cutFrom_31 : decode cX0_cutFrom 31 = .ok (.iload_n 3, 1) := by decide +kernel
theorem dX0_cutFrom_32 : decode cX0_cutFrom 32 = .ok (.iaload, 1) := by decide +kernel
theorem dX0_cutFrom_33 : decode cX0_cutFrom 33 = .ok (.iload_n 1, 1) := by decide +kernel
theorem dX0_cutFrom_34 : decode cX0_cutFrom 34 = .ok (.if_icmp .ge 31, 3) := by decide +kernel
theorem dX0_cutFrom_37 : decode cX0_cutFrom 37 = .ok (.aload_n 0, 1) := by decide +kernel
theorem dX0_cutFrom_38 : decode cX0_cutFrom 38 = .ok (.aload_n 0, 1) := by decide +kernel
theorem dX0_cutFrom_39 : decode cX0_cutFrom 39 = .ok (.getfield 21, 3) := by decide +kernel
theorem dX0_cutFrom_42 : decode cX0_cutFrom 42 = .ok (.iload_n 3, 1) := by decide +kernel
theorem dX0_cutFrom_43 : decode cX0_cutFrom 43 = .ok (.iaload, 1) := by decide +kernel
theorem dX0_cutFrom_44 : decode cX0_cutFrom 44 = .ok (.aload_n 0, 1) := by decide +kernel
theorem dX0_cutFrom_45 : decode cX0_cutFrom 45 = .ok (.getfield 24, 3) := by decide +kernel
theorem dX0_cutFrom_48 : decode cX0_cutFrom 48 = .ok (.iload_n 3, 1) := by decide +kernel
theorem dX0_cutFrom_49 : decode cX0_cutFrom 49 = .ok (.iaload, 1) := by decide +kernel
theorem dX0_cutFrom_50 : decode cX0_cutFrom 50 = .ok (.aload_n 0, 1) := by decide +kernel
theorem dX0_cutFrom_51 : decode cX0_cutFrom 51 = .ok (.getfield 27, 3) := by decide +kernel
theorem dX0_cutFrom_54 : decode cX0_cutFrom 54 = .ok (.iload_n 3, 1) := by decide +kernel
theorem dX0_cutFrom_55 : decode cX0_cutFrom 55 = .ok (.iaload, 1) := by decide +kernel
theorem dX0_cutFrom_56 : decode cX0_cutFrom 56 = .ok (.aload_n 0, 1) := by decide +kernel
theorem dX0_cutFrom_57 : decode cX0_cutFrom 57 = .ok (.getfield 30, 3) := by decide +kernel
theorem dX0_cutFrom_60 : decode cX0_cutFrom 60 = .ok (.iload_n 3, 1) := by decide +kernel
theorem dX0_cutFrom_61 : decode cX0_cutFrom 61 = .ok (.iaload, 1) := by decide +kernel
theorem dX0_cutFrom_62 : decode cX0_cutFrom 62 = .ok (.invokevirtual 77, 3) := by decide +kernel
theorem dX0_cutFrom_65 : decode cX0_cutFrom 65 = .ok (.iinc 3 1, 3) := by decide +kernel
theorem dX0_cutFrom_68 : decode cX0_cutFrom 68 = .ok (.goto (-46), 3) := by decide +kernel
theorem dX0_cutFrom_71 : decode cX0_cutFrom 71 = .ok (.return_, 1) := by decide +kernel
theorem dX0_take_0 : decode cX0_take 0 = .ok (.aload_n 1, 1) := by decide +kernel
theorem dX0_take_1 : decode cX0_take 1 = .ok (.getfield 9, 3) := by decide +kernel
theorem dX0_take_4 : decode cX0_take 4 = .ok (.aload_n 0, 1) := by decide +kernel
theorem dX0_take_5 : decode cX0_take 5 = .ok (.getfield 9, 3) := by decide +kernel
theorem dX0_take_8 : decode cX0_take 8 = .ok (.invokestatic 81, 3) := by decide +kernel
theorem dX0_take_11 : decode cX0_take 11 = .ok (.aload_n 1, 1) := by decide +kernel
theorem dX0_take_12 : decode cX0_take 12 = .ok (.getfield 15, 3) := by decide +kernel
theorem dX0_take_15 : decode cX0_take 15 = .ok (.aload_n 0, 1) := by decide +kernel
theorem dX0_take_16 : decode cX0_take 16 = .ok (.getfield 15, 3) := by decide +kernel
theorem dX0_take_19 : decode cX0_take 19 = .ok (.invokestatic 81, 3) := by decide +kernel
theorem dX0_take_22 : decode cX0_take 22 = .ok (.aload_n 1, 1) := by decide +kernel
theorem dX0_take_23 : decode cX0_take 23 = .ok (.getfield 18, 3) := by decide +kernel
theorem dX0_take_26 : decode cX0_take 26 = .ok (.aload_n 0, 1) := by decide +kernel
theorem dX0_take_27 : decode cX0_take 27 = .ok (.getfield 18, 3) := by decide +kernel
theorem dX0_take_30 : decode cX0_take 30 = .ok (.invokestatic 81, 3) := by decide +kernel
theorem dX0_take_33 : decode cX0_take 33 = .ok (.aload_n 1, 1) := by decide +kernel
theorem dX0_take_34 : decode cX0_take 34 = .ok (.getfield 21, 3) := by decide +kernel
theorem dX0_take_37 : decode cX0_take 37 = .ok (.aload_n 0, 1) := by decide +kernel
theorem dX0_take_38 : decode cX0_take 38 = .ok (.getfield 21, 3) := by decide +kernel
theorem dX0_take_41 : decode cX0_take 41 = .ok (.invokestatic 81, 3) := by decide +kernel
theorem dX0_take_44 : decode cX0_take 44 = .ok (.aload_n 1, 1) := by decide +kernel
theorem dX0_take_45 : decode cX0_take 45 = .ok (.getfield 24, 3) := by decide +kernel
theorem dX0_take_48 : decode cX0_take 48 = .ok (.aload_n 0, 1) := by decide +kernel
theorem dX0_take_49 : decode cX0_take 49 = .ok (.getfield 24, 3) := by decide +kernel
theorem dX0_take_52 : decode cX0_take 52 = .ok (.invokestatic 81, 3) := by decide +kernel
theorem dX0_take_55 : decode cX0_take 55 = .ok (.aload_n 1, 1) := by decide +kernel
theorem dX0_take_56 : decode cX0_take 56 = .ok (.getfield 27, 3) := by decide +kernel
theorem dX0_take_59 : decode cX0_take 59 = .ok (.aload_n 0, 1) := by decide +kernel
theorem dX0_take_60 : decode cX0_take 60 = .ok (.getfield 27, 3) := by decide +kernel
theorem dX0_take_63 : decode cX0_take 63 = .ok (.invokestatic 81, 3) := by decide +kernel
theorem dX0_take_66 : decode cX0_take 66 = .ok (.aload_n 1, 1) := by decide +kernel
theorem dX0_take_67 : decode cX0_take 67 = .ok (.getfield 30, 3) := by decide +kernel
theorem dX0_take_70 : decode cX0_take 70 = .ok (.aload_n 0, 1) := by decide +kernel
theorem dX0_take_71 : decode cX0_take 71 = .ok (.getfield 30, 3) := by decide +kernel
theorem dX0_take_74 : decode cX0_take 74 = .ok (.invokestatic 81, 3) := by decide +kernel
theorem dX0_take_77 : decode cX0_take 77 = .ok (.aload_n 0, 1) := by decide +kernel
theorem dX0_take_78 : decode cX0_take 78 = .ok (.aload_n 1, 1) := by decide +kernel
theorem dX0_take_79 : decode cX0_take 79 = .ok (.getfield 37, 3) := by decide +kernel
theorem dX0_take_82 : decode cX0_take 82 = .ok (.putfield 37, 3) := by decide +kernel
theorem dX0_take_85 : decode cX0_take 85 = .ok (.aload_n 0, 1) := by decide +kernel
theorem dX0_take_86 : decode cX0_take 86 = .ok (.aload_n 1, 1) := by decide +kernel
theorem dX0_take_87 : decode cX0_take 87 = .ok (.getfield 44, 3) := by decide +kernel
theorem dX0_take_90 : decode cX0_take 90 = .ok (.putfield 44, 3) := by decide +kernel
theorem dX0_take_93 : decode cX0_take 93 = .ok (.aload_n 0, 1) := by decide +kernel
theorem dX0_take_94 : decode cX0_take 94 = .ok (.aload_n 1, 1) := by decide +kernel
theorem dX0_take_95 : decode cX0_take 95 = .ok (.getfield 33, 3) := by decide +kernel
theorem dX0_take_98 : decode cX0_take 98 = .ok (.putfield 33, 3) := by decide +kernel
theorem dX0_take_101 : decode cX0_take 101 = .ok (.aload_n 0, 1) := by decide +kernel
theorem dX0_take_102 : decode cX0_take 102 = .ok (.aload_n 1, 1) := by decide +kernel
theorem dX0_take_103 : decode cX0_take 103 = .ok (.getfield 47, 3) := by decide +kernel
theorem dX0_take_106 : decode cX0_take 106 = .ok (.putfield 47, 3) := by decide +kernel
theorem dX0_take_109 : decode cX0_take 109 = .ok (.return_, 1) := by decide +kernel
theorem dX1_init_0 : decode cX1_init 0 = .ok (.aload_n 0, 1) := by decide +kernel
theorem dX1_init_1 : decode cX1_init 1 = .ok (.invokespecial 3, 3) := by decide +kernel
theorem dX1_init_4 : decode cX1_init 4 = .ok (.aload_n 0, 1) := by decide +kernel
theorem dX1_init_5 : decode cX1_init 5 = .ok (.iconst 2, 1) := by decide +kernel
theorem dX1_init_6 : decode cX1_init 6 = .ok (.newarray .int, 2) := by decide +kernel
theorem dX1_init_8 : decode cX1_init 8 = .ok (.putfield 9, 3) := by decide +kernel
theorem dX1_init_11 : decode cX1_init 11 = .ok (.aload_n 0, 1) := by decide +kernel
theorem dX1_init_12 : decode cX1_init 12 = .ok (.iconst 2, 1) := by decide +kernel
theorem dX1_init_13 : decode cX1_init 13 = .ok (.newarray .int, 2) := by decide +kernel
theorem dX1_init_15 : decode cX1_init 15 = .ok (.putfield 15, 3) := by decide +kernel
theorem dX1_init_18 : decode cX1_init 18 = .ok (.aload_n 0, 1) := by decide +kernel
theorem dX1_init_19 : decode cX1_init 19 = .ok (.iconst 2, 1) := by decide +kernel
theorem dX1_init_20 : decode cX1_init 20 = .ok (.newarray .int, 2) := by decide +kernel
theorem dX1_init_22 : decode cX1_init 22 = .ok (.putfield 18, 3) := by decide +kernel
theorem dX1_init_25 : decode cX1_init 25 = .ok (.aload_n 0, 1) := by decide +kernel
theorem dX1_init_26 : decode cX1_init 26 = .ok (.iconst 2, 1) := by decide +kernel
theorem dX1_init_27 : decode cX1_init 27 = .ok (.newarray .int, 2) := by decide +kernel
theorem dX1_init_29 : decode cX1_init 29 = .ok (.putfield 21, 3) := by decide +kernel
theorem dX1_init_32 : decode cX1_init 32 = .ok (.aload_n 0, 1) := by decide +kernel
theorem dX1_init_33 : decode cX1_init 33 = .ok (.iconst 2, 1) := by decide +kernel
theorem dX1_init_34 : decode cX1_init 34 = .ok (.newarray .int, 2) := by decide +kernel
theorem dX1_init_36 : decode cX1_init 36 = .ok (.putfield 24, 3) := by decide +kernel
theorem dX1_init_39 : decode cX1_init 39 = .ok (.aload_n 0, 1) := by decide +kernel
theorem dX1_init_40 : decode cX1_init 40 = .ok (.iconst 2, 1) := by decide +kernel
theorem dX1_init_41 : decode cX1_init 41 = .ok (.newarray .boolean, 2) := by decide +kernel
theorem dX1_init_43 : decode cX1_init 43 = .ok (.putfield 27, 3) := by decide +kernel
theorem dX1_init_46 : decode cX1_init 46 = .ok (.return_, 1) := by decide +kernel
theorem dX1_counts_0 : decode cX1_counts 0 = .ok (.aload_n 0, 1) := by decide +kernel
theorem dX1_counts_1 : decode cX1_counts 1 = .ok (.getfield 9, 3) := by decide +kernel
theorem dX1_counts_4 : decode cX1_counts 4 = .ok (.iload_n 1, 1) := by decide +kernel
theorem dX1_counts_5 : decode cX1_counts 5 = .ok (.iaload, 1) := by decide +kernel
theorem dX1_counts_6 : decode cX1_counts 6 = .ok (.bipush 42, 2) := by decide +kernel
theorem dX1_counts_8 : decode cX1_counts 8 = .ok (.if_icmp .ne 9, 3) := by decide +kernel
theorem dX1_counts_11 : decode cX1_counts 11 = .ok (.aload_n 2, 1) := by decide +kernel
theorem dX1_counts_12 : decode cX1_counts 12 = .ok (.iload_n 3, 1) := by decide +kernel
theorem dX1_counts_13 : decode cX1_counts 13 = .ok (.invokevirtual 31, 3) := by decide +kernel
theorem dX1_counts_16 : decode cX1_counts 16 = .ok (.ireturn, 1) := by decide +kernel
theorem dX1_counts_17 : decode cX1_counts 17 = .ok (.aload_n 2, 1) := by decide +kernel
theorem dX1_counts_18 : decode cX1_counts 18 = .ok (.getfield 37, 3) := by decide +kernel
theorem dX1_counts_21 : decode cX1_counts 21 = .ok (.iload_n 3, 1) := by decide +kernel
theorem dX1_counts_22 : decode cX1_counts 22 = .ok (.iaload, 1) := by decide +kernel
theorem dX1_counts_23 : decode cX1_counts 23 = .ok (.istore 4, 2) := by decide +kernel
theorem dX1_counts_25 : decode cX1_counts 25 = .ok (.aload_n 0, 1) := by decide +kernel
theorem dX1_counts_26 : decode cX1_counts 26 = .ok (.getfield 9, 3) := by decide +kernel
theorem dX1_counts_29 : decode cX1_counts 29 = .ok (.iload_n 1, 1) := by decide +kernel
theorem dX1_counts_30 : decode cX1_counts 30 = .ok (.iaload, 1) := by decide +kernel
theorem dX1_counts_31 : decode cX1_counts 31 = .ok (.bipush 60, 2) := by decide +kernel
theorem dX1_counts_33 : decode cX1_counts 33 = .ok (.if_icmp .ne 22, 3) := by decide +kernel
theorem dX1_counts_36 : decode cX1_counts 36 = .ok (.iload 4, 2) := by decide +kernel
theorem dX1_counts_38 : decode cX1_counts 38 = .ok (.aload_n 0, 1) := by decide +kernel
theorem dX1_counts_39 : decode cX1_counts 39 = .ok (.getfield 15, 3) := by decide +kernel
theorem dX1_counts_42 : decode cX1_counts 42 = .ok (.iload_n 1, 1) := by decide +kernel
theorem dX1_counts_43 : decode cX1_counts 43 = .ok (.iaload, 1) := by decide +kernel
theorem dX1_counts_44 : decode cX1_counts 44 = .ok (.if_icmp .ge 7, 3) := by decide +kernel
theorem dX1_counts_47 : decode cX1_counts 47 = .ok (.iconst 1, 1) := by decide +kernel
theorem dX1_counts_48 : decode cX1_counts 48 = .ok (.goto 23, 3) := by decide +kernel
theorem dX1_counts_51 : decode cX1_counts 51 = .ok (.iconst 0, 1) := by decide +kernel
theorem dX1_counts_52 : decode cX1_counts 52 = .ok (.goto 19, 3) := by decide +kernel
theorem dX1_counts_55 : decode cX1_counts 55 = .ok (.iload 4, 2) := by decide +kernel
theorem dX1_counts_57 : decode cX1_counts 57 = .ok (.aload_n 0, 1) := by decide +kernel
theorem dX1_counts_58 : decode cX1_counts 58 = .ok (.getfield 15, 3) := by decide +kernel
theorem dX1_counts_61 : decode cX1_counts 61 = .ok (.iload_n 1, 1) := by decide +kernel
theorem dX1_counts_62 : decode cX1_counts 62 = .ok (.iaload, 1) := by decide +kernel
theorem dX1_counts_63 : decode cX1_counts 63 = .ok (.if_icmp .le 7, 3) := by decide +kernel
theorem dX1_counts_66 : decode cX1_counts 66 = .ok (.iconst 1, 1) := by decide +kernel
theorem dX1_counts_67 : decode cX1_counts 67 = .ok (.goto 4, 3) := by decide +kernel
theorem dX1_counts_70 : decode cX1_counts 70 = .ok (.iconst 0, 1) := by decide +kernel
theorem dX1_counts_71 : decode cX1_counts 71 = .ok (.istore 5, 2) := by decide +kernel
theorem dX1_counts_73 : decode cX1_counts 73 = .ok (.aload_n 2, 1) := by decide +kernel
theorem dX1_counts_74 : decode cX1_counts 74 = .ok (.getfield 38, 3) := by decide +kernel
theorem dX1_counts_77 : decode cX1_counts 77 = .ok (.iload_n 3, 1) := by decide +kernel
theorem dX1_counts_78 : decode cX1_counts 78 = .ok (.iaload, 1) := by decide +kernel
theorem dX1_counts_79 : decode cX1_counts 79 = .ok (.ifCond .ne 12, 3) := by decide +kernel
theorem dX1_counts_82 : decode cX1_counts 82 = .ok (.iload 5, 2) := by decide +kernel
theorem dX1_counts_84 : decode cX1_counts 84 = .ok (.ifCond .eq 7, 3) := by decide +kernel
theorem dX1_counts_87 : decode cX1_counts 87 = .ok (.iconst 1, 1) := by decide +kernel
theorem dX1_counts_88 : decode cX1_counts 88 = .ok (.goto 4, 3) := by decide +kernel
theorem dX1_counts_91 : decode cX1_counts 91 = .ok (.iconst 0, 1) := by decide +kernel
theorem dX1_counts_92 : decode cX1_counts 92 = .ok (.ireturn, 1) := by decide +kernel
theorem dX1_seenInTruth_0 : decode cX1_seenInTruth 0 = .ok (.iconst 0, 1) := by decide +kernel
theorem dX1_seenInTruth_1 : decode cX1_seenInTruth 1 = .ok (.istore_n 3, 1) := by decide +kernel
theorem dX1_seenInTruth_2 : decode cX1_seenInTruth 2 = .ok (.iconst 0, 1) := by decide +kernel
theorem dX1_seenInTruth_3 : decode cX1_seenInTruth 3 = .ok (.istore 4, 2) := by decide +kernel
theorem dX1_seenInTruth_5 : decode cX1_seenInTruth 5 = .ok (.iload 4, 2) := by decide +kernel
theorem dX1_seenInTruth_7 : decode cX1_seenInTruth 7 = .ok (.aload_n 2, 1) := by decide +kernel
theorem dX1_seenInTruth_8 : decode cX1_seenInTruth 8 = .ok (.getfield 41, 3) := by decide +kernel
theorem dX1_seenInTruth_11 : decode cX1_seenInTruth 11 = .ok (.if_icmp .ge 48, 3) := by decide +kernel
theorem dX1_seenInTruth_14 : decode cX1_seenInTruth 14 = .ok (.aload_n 0, 1) := by decide +kernel
theorem dX1_seenInTruth_15 : decode cX1_seenInTruth 15 = .ok (.iload_n 1, 1) := by decide +kernel
theorem dX1_seenInTruth_16 : decode cX1_seenInTruth 16 = .ok (.aload_n 2, 1) := by decide +kernel
theorem dX1_seenInTruth_17 : decode cX1_seenInTruth 17 = .ok (.iload 4, 2) := by decide +kernel
theorem dX1_seenInTruth_19 : decode cX1_seenInTruth 19 = .ok (.invokevirtual 45, 3) := by decide +kernel
theorem dX1_seenInTruth_22 : decode cX1_seenInTruth 22 = .ok (.ifCond .eq 31, 3) := by decide +kernel
theorem dX1_seenInTruth_25 : decode cX1_seenInTruth 25 = .ok (.aload_n 2, 1) := by decide +kernel
theorem dX1_seenInTruth_26 : decode cX1_seenInTruth 26 = .ok (.getfield 49, 3) := by decide +kernel
theorem dX1_seenInTruth_29 : decode cX1_seenInTruth 29 = .ok (.iload 4, 2) := by decide +kernel
theorem dX1_seenInTruth_31 : decode cX1_seenInTruth 31 = .ok (.iaload, 1) := by decide +kernel
theorem dX1_seenInTruth_32 : decode cX1_seenInTruth 32 = .ok (.aload_n 0, 1) := by decide +kernel
theorem dX1_seenInTruth_33 : decode cX1_seenInTruth 33 = .ok (.getfield 18, 3) := by decide +kernel
theorem dX1_seenInTruth_36 : decode cX1_seenInTruth 36 = .ok (.iload_n 1, 1) := by decide +kernel
theorem dX1_seenInTruth_37 : decode cX1_seenInTruth 37 = .ok (.iaload, 1) := by decide +kernel
theorem dX1_seenInTruth_38 : decode cX1_seenInTruth 38 = .ok (.aload_n 0, 1) := by decide +kernel
theorem dX1_seenInTruth_39 : decode cX1_seenInTruth 39 = .ok (.getfield 21, 3) := by decide +kernel
theorem dX1_seenInTruth_42 : decode cX1_seenInTruth 42 = .ok (.iload_n 1, 1) := by decide +kernel
theorem dX1_seenInTruth_43 : decode cX1_seenInTruth 43 = .ok (.iaload, 1) := by decide +kernel
theorem dX1_seenInTruth_44 : decode cX1_seenInTruth 44 = .ok (.invokestatic 52, 3) := by decide +kernel
theorem dX1_seenInTruth_47 : decode cX1_seenInTruth 47 = .ok (.ifCond .eq 6, 3) := by decide +kernel
theorem dX1_seenInTruth_50 : decode cX1_seenInTruth 50 = .ok (.iinc 3 1, 3) := by decide +kernel
theorem dX1_seenInTruth_53 : decode cX1_seenInTruth 53 = .ok (.iinc 4 1, 3) := by decide +kernel
theorem dX1_seenInTruth_56 : decode cX1_seenInTruth 56 = .ok (.goto (-51), 3) := by decide +kernel
theorem dX1_seenInTruth_59 : decode cX1_seenInTruth 59 = .ok (.iload_n 3, 1) := by decide +kernel
theorem dX1_seenInTruth_60 : decode cX1_seenInTruth 60 = .ok (.ireturn, 1) := by decide +kernel
theorem dX1_isSo_0 : decode cX1_isSo 0 = .ok (.iload_n 1, 1) := by decide +kernel
theorem dX1_isSo_1 : decode cX1_isSo 1 = .ok (.aload_n 0, 1) := by decide +kernel
theorem dX1_isSo_2 : decode cX1_isSo 2 = .ok (.getfield 24, 3) := by decide +kernel
theorem dX1_isSo_5 : decode cX1_isSo 5 = .ok (.iconst 0, 1) := by decide +kernel
theorem dX1_isSo_6 : decode cX1_isSo 6 = .ok (.iaload, 1) := by decide +kernel
theorem dX1_isSo_7 : decode cX1_isSo 7 = .ok (.if_icmp .lt 7, 3) := by decide +kernel
theorem dX1_isSo_10 : decode cX1_isSo 10 = .ok (.iconst 1, 1) := by decide +kernel
theorem dX1_isSo_11 : decode cX1_isSo 11 = .ok (.goto 4, 3) := by decide +kernel
theorem dX1_isSo_14 : decode cX1_isSo 14 = .ok (.iconst 0, 1) := by decide +kernel
theorem dX1_isSo_15 : decode cX1_isSo 15 = .ok (.aload_n 0, 1) := by decide +kernel
theorem dX1_isSo_16 : decode cX1_isSo 16 = .ok (.getfield 27, 3) := by decide +kernel
theorem dX1_isSo_19 : decode cX1_isSo 19 = .ok (.iconst 0, 1) := by decide +kernel
theorem dX1_isSo_20 : decode cX1_isSo 20 = .ok (.baload, 1) := by decide +kernel
theorem dX1_isSo_21 : decode cX1_isSo 21 = .ok (.if_icmp .eq 7, 3) := by decide +kernel
theorem dX1_isSo_24 : decode cX1_isSo 24 = .ok (.iconst 1, 1) := by decide +kernel
theorem dX1_isSo_25 : decode cX1_isSo 25 = .ok (.goto 4, 3) := by decide +kernel
theorem dX1_isSo_28 : decode cX1_isSo 28 = .ok (.iconst 0, 1) := by decide +kernel
theorem dX1_isSo_29 : decode cX1_isSo 29 = .ok (.istore_n 3, 1) := by decide +kernel
theorem dX1_isSo_30 : decode cX1_isSo 30 = .ok (.iload_n 2, 1) := by decide +kernel
theorem dX1_isSo_31 : decode cX1_isSo 31 = .ok (.aload_n 0, 1) := by decide +kernel
theorem dX1_isSo_32 : decode cX1_isSo 32 = .ok (.getfield 24, 3) := by decide +kernel
theorem dX1_isSo_35 : decode cX1_isSo 35 = .ok (.iconst 1, 1) := by decide +kernel
theorem dX1_isSo_36 : decode cX1_isSo 36 = .ok (.iaload, 1) := by decide +kernel
theorem dX1_isSo_37 : decode cX1_isSo 37 = .ok (.if_icmp .lt 7, 3) := by decide +kernel
theorem dX1_isSo_40 : decode cX1_isSo 40 = .ok (.iconst 1, 1) := by decide +kernel
theorem dX1_isSo_41 : decode cX1_isSo 41 = .ok (.goto 4, 3) := by decide +kernel
theorem dX1_isSo_44 : decode cX1_isSo 44 = .ok (.iconst 0, 1) := by decide +kernel
theorem dX1_isSo_45 : decode cX1_isSo 45 = .ok (.aload_n 0, 1) := by decide +kernel
theorem dX1_isSo_46 : decode cX1_isSo 46 = .ok (.getfield 27, 3) := by decide +kernel
theorem dX1_isSo_49 : decode cX1_isSo 49 = .ok (.iconst 1, 1) := by decide +kernel
theorem dX1_isSo_50 : decode cX1_isSo 50 = .ok (.baload, 1) := by decide +kernel
theorem dX1_isSo_51 : decode cX1_isSo 51 = .ok (.if_icmp .eq 7, 3) := by decide +kernel
theorem dX1_isSo_54 : decode cX1_isSo 54 = .ok (.iconst 1, 1) := by decide +kernel
theorem dX1_isSo_55 : decode cX1_isSo 55 = .ok (.goto 4, 3) := by decide +kernel
theorem dX1_isSo_58 : decode cX1_isSo 58 = .ok (.iconst 0, 1) := by decide +kernel
theorem dX1_isSo_59 : decode cX1_isSo 59 = .ok (.istore 4, 2) := by decide +kernel
theorem dX1_isSo_61 : decode cX1_isSo 61 = .ok (.aload_n 0, 1) := by decide +kernel
theorem dX1_isSo_62 : decode cX1_isSo 62 = .ok (.getfield 56, 3) := by decide +kernel
theorem dX1_isSo_65 : decode cX1_isSo 65 = .ok (.iconst 1, 1) := by decide +kernel
theorem dX1_isSo_66 : decode cX1_isSo 66 = .ok (.if_icmp .ne 5, 3) := by decide +kernel
theorem dX1_isSo_69 : decode cX1_isSo 69 = .ok (.iload_n 3, 1) := by decide +kernel
theorem dX1_isSo_70 : decode cX1_isSo 70 = .ok (.ireturn, 1) := by decide +kernel
theorem dX1_isSo_71 : decode cX1_isSo 71 = .ok (.aload_n 0, 1) := by decide +kernel
theorem dX1_isSo_72 : decode cX1_isSo 72 = .ok (.getfield 59, 3) := by decide +kernel
theorem dX1_isSo_75 : decode cX1_isSo 75 = .ok (.ifCond .eq 20, 3) := by decide +kernel
theorem dX1_isSo_78 : decode cX1_isSo 78 = .ok (.iload_n 3, 1) := by decide +kernel
theorem dX1_isSo_79 : decode cX1_isSo 79 = .ok (.ifCond .ne 8, 3) := by decide +kernel
theorem dX1_isSo_82 : decode cX1_isSo 82 = .ok (.iload 4, 2) := by decide +kernel
theorem dX1_isSo_84 : decode cX1_isSo 84 = .ok (.ifCond .eq 7, 3) := by decide +kernel
theorem dX1_isSo_87 : decode cX1_isSo 87 = .ok (.iconst 1, 1) := by decide +kernel
theorem dX1_isSo_88 : decode cX1_isSo 88 = .ok (.goto 21, 3) := by decide +kernel
theorem dX1_isSo_91 : decode cX1_isSo 91 = .ok (.iconst 0, 1) := by decide +kernel
theorem dX1_isSo_92 : decode cX1_isSo 92 = .ok (.goto 17, 3) := by decide +kernel
theorem dX1_isSo_95 : decode cX1_isSo 95 = .ok (.iload_n 3, 1) := by decide +kernel
theorem dX1_isSo_96 : decode cX1_isSo 96 = .ok (.ifCond .eq 12, 3) := by decide +kernel
theorem dX1_isSo_99 : decode cX1_isSo 99 = .ok (.iload 4, 2) := by decide +kernel
theorem dX1_isSo_101 : decode cX1_isSo 101 = .ok (.ifCond .eq 7, 3) := by decide +kernel
theorem dX1_isSo_104 : decode cX1_isSo 104 = .ok (.iconst 1, 1) := by decide +kernel
theorem dX1_isSo_105 : decode cX1_isSo 105 = .ok (.goto 4, 3) := by decide +kernel
theorem dX1_isSo_108 : decode cX1_isSo 108 = .ok (.iconst 0, 1) := by decide +kernel
theorem dX1_isSo_109 : decode cX1_isSo 109 = .ok (.ireturn, 1) := by decide +kernel
theorem dX1_latest_0 : decode cX1_latest 0 = .ok (.aload_n 0, 1) := by decide +kernel
theorem dX1_latest_1 : decode cX1_latest 1 = .ok (.getfield 56, 3) := by decide +kernel
theorem dX1_latest_4 : decode cX1_latest 4 = .ok (.iconst 1, 1) := by decide +kernel
theorem dX1_latest_5 : decode cX1_latest 5 = .ok (.if_icmp .ne 12, 3) := by decide +kernel
theorem dX1_latest_8 : decode cX1_latest 8 = .ok (.aload_n 0, 1) := by decide +kernel
theorem dX1_latest_9 : decode cX1_latest 9 = .ok (.getfield 21, 3) := by decide +kernel
theorem dX1_latest_12 : decode cX1_latest 12 = .ok (.iconst 0, 1) := by decide +kernel
theorem dX1_latest_13 : decode cX1_latest 13 = .ok (.iaload, 1) := by decide +kernel
theorem dX1_latest_14 : decode cX1_latest 14 = .ok (.goto 18, 3) := by decide +kernel
theorem dX1_latest_17 : decode cX1_latest 17 = .ok (.aload_n 0, 1) := by decide +kernel
theorem dX1_latest_18 : decode cX1_latest 18 = .ok (.getfield 21, 3) := by decide +kernel
theorem dX1_latest_21 : decode cX1_latest 21 = .ok (.iconst 0, 1) := by decide +kernel
theorem dX1_latest_22 : decode cX1_latest 22 = .ok (.iaload, 1) := by decide +kernel
theorem dX1_latest_23 : decode cX1_latest 23 = .ok (.aload_n 0, 1) := by decide +kernel
theorem dX1_latest_24 : decode cX1_latest 24 = .ok (.getfield 21, 3) := by decide +kernel
theorem dX1_latest_27 : decode cX1_latest 27 = .ok (.iconst 1, 1) := by decide +kernel
theorem dX1_latest_28 : decode cX1_latest 28 = .ok (.iaload, 1) := by decide +kernel
theorem dX1_latest_29 : decode cX1_latest 29 = .ok (.invokestatic 63, 3) := by decide +kernel
theorem dX1_latest_32 : decode cX1_latest 32 = .ok (.ireturn, 1) := by decide +kernel
theorem dX1_take_0 : decode cX1_take 0 = .ok (.aload_n 1, 1) := by decide +kernel
theorem dX1_take_1 : decode cX1_take 1 = .ok (.getfield 9, 3) := by decide +kernel
theorem dX1_take_4 : decode cX1_take 4 = .ok (.aload_n 0, 1) := by decide +kernel
theorem dX1_take_5 : decode cX1_take 5 = .ok (.getfield 9, 3) := by decide +kernel
theorem dX1_take_8 : decode cX1_take 8 = .ok (.invokestatic 69, 3) := by decide +kernel
theorem dX1_take_11 : decode cX1_take 11 = .ok (.aload_n 1, 1) := by decide +kernel
theorem dX1_take_12 : decode cX1_take 12 = .ok (.getfield 15, 3) := by decide +kernel
theorem dX1_take_15 : decode cX1_take 15 = .ok (.aload_n 0, 1) := by decide +kernel
theorem dX1_take_16 : decode cX1_take 16 = .ok (.getfield 15, 3) := by decide +kernel
theorem dX1_take_19 : decode cX1_take 19 = .ok (.invokestatic 69, 3) := by decide +kernel
theorem dX1_take_22 : decode cX1_take 22 = .ok (.aload_n 1, 1) := by decide +kernel
theorem dX1_take_23 : decode cX1_take 23 = .ok (.getfield 18, 3) := by decide +kernel
theorem dX1_take_26 : decode cX1_take 26 = .ok (.aload_n 0, 1) := by decide +kernel
theorem dX1_take_27 : decode cX1_take 27 = .ok (.getfield 18, 3) := by decide +kernel
theorem dX1_take_30 : decode cX1_take 30 = .ok (.invokestatic 69, 3) := by decide +kernel
theorem dX1_take_33 : decode cX1_take 33 = .ok (.aload_n 1, 1) := by decide +kernel
theorem dX1_take_34 : decode cX1_take 34 = .ok (.getfield 21, 3) := by decide +kernel
theorem dX1_take_37 : decode cX1_take 37 = .ok (.aload_n 0, 1) := by decide +kernel
theorem dX1_take_38 : decode cX1_take 38 = .ok (.getfield 21, 3) := by decide +kernel
theorem dX1_take_41 : decode cX1_take 41 = .ok (.invokestatic 69, 3) := by decide +kernel
theorem dX1_take_44 : decode cX1_take 44 = .ok (.aload_n 1, 1) := by decide +kernel
theorem dX1_take_45 : decode cX1_take 45 = .ok (.getfield 24, 3) := by decide +kernel
theorem dX1_take_48 : decode cX1_take 48 = .ok (.aload_n 0, 1) := by decide +kernel
theorem dX1_take_49 : decode cX1_take 49 = .ok (.getfield 24, 3) := by decide +kernel
theorem dX1_take_52 : decode cX1_take 52 = .ok (.invokestatic 69, 3) := by decide +kernel
theorem dX1_take_55 : decode cX1_take 55 = .ok (.iconst 0, 1) := by decide +kernel
theorem dX1_take_56 : decode cX1_take 56 = .ok (.istore_n 2, 1) := by decide +kernel
theorem dX1_take_57 : decode cX1_take 57 = .ok (.iload_n 2, 1) := by decide +kernel
theorem dX1_take_58 : decode cX1_take 58 = .ok (.iconst 2, 1) := by decide +kernel
theorem dX1_take_59 : decode cX1_take 59 = .ok (.if_icmp .ge 21, 3) := by decide +kernel
theorem dX1_take_62 : decode cX1_take 62 = .ok (.aload_n 0, 1) := by decide +kernel
theorem dX1_take_63 : decode cX1_take 63 = .ok (.getfield 27, 3) := by decide +kernel
theorem dX1_take_66 : decode cX1_take 66 = .ok (.iload_n 2, 1) := by decide +kernel
theorem dX1_take_67 : decode cX1_take 67 = .ok (.aload_n 1, 1) := by decide +kernel
theorem dX1_take_68 : decode cX1_take 68 = .ok (.getfield 27, 3) := by decide +kernel
theorem dX1_take_71 : decode cX1_take 71 = .ok (.iload_n 2, 1) := by decide +kernel
theorem dX1_take_72 : decode cX1_take 72 = .ok (.baload, 1) := by decide +kernel
theorem dX1_take_73 : decode cX1_take 73 = .ok (.bastore, 1) := by decide +kernel
theorem dX1_take_74 : decode cX1_take 74 = .ok (.iinc 2 1, 3) := by decide +kernel
theorem dX1_take_77 : decode cX1_take 77 = .ok (.goto (-20), 3) := by decide +kernel
theorem dX1_take_80 : decode cX1_take 80 = .ok (.aload_n 0, 1) := by decide +kernel
theorem dX1_take_81 : decode cX1_take 81 = .ok (.aload_n 1, 1) := by decide +kernel
theorem dX1_take_82 : decode cX1_take 82 = .ok (.getfield 56, 3) := by decide +kernel
theorem dX1_take_85 : decode cX1_take 85 = .ok (.putfield 56, 3) := by decide +kernel
theorem dX1_take_88 : decode cX1_take 88 = .ok (.aload_n 0, 1) := by decide +kernel
theorem dX1_take_89 : decode cX1_take 89 = .ok (.aload_n 1, 1) := by decide +kernel
theorem dX1_take_90 : decode cX1_take 90 = .ok (.getfield 59, 3) := by decide +kernel
theorem dX1_take_93 : decode cX1_take 93 = .ok (.putfield 59, 3) := by decide +kernel
theorem dX1_take_96 : decode cX1_take 96 = .ok (.return_, 1) := by decide +kernel
theorem dX2_init_0 : decode cX2_init 0 = .ok (.aload_n 0, 1) := by decide +kernel
theorem dX2_init_1 : decode cX2_init 1 = .ok (.invokespecial 3, 3) := by decide +kernel
theorem dX2_init_4 : decode cX2_init 4 = .ok (.aload_n 0, 1) := by decide +kernel
theorem dX2_init_5 : decode cX2_init 5 = .ok (.bipush 8, 2) := by decide +kernel
theorem dX2_init_7 : decode cX2_init 7 = .ok (.newarray .int, 2) := by decide +kernel
theorem dX2_init_9 : decode cX2_init 9 = .ok (.putfield 9, 3) := by decide +kernel
theorem dX2_init_12 : decode cX2_init 12 = .ok (.aload_n 0, 1) := by decide +kernel
theorem dX2_init_13 : decode cX2_init 13 = .ok (.bipush 8, 2) := by decide +kernel
theorem dX2_init_15 : decode cX2_init 15 = .ok (.newarray .int, 2) := by decide +kernel
theorem dX2_init_17 : decode cX2_init 17 = .ok (.putfield 15, 3) := by decide +kernel
theorem dX2_init_20 : decode cX2_init 20 = .ok (.aload_n 0, 1) := by decide +kernel
theorem dX2_init_21 : decode cX2_init 21 = .ok (.bipush 8, 2) := by decide +kernel
theorem dX2_init_23 : decode cX2_init 23 = .ok (.newarray .int, 2) := by decide +kernel
theorem dX2_init_25 : decode cX2_init 25 = .ok (.putfield 18, 3) := by decide +kernel
theorem dX2_init_28 : decode cX2_init 28 = .ok (.aload_n 0, 1) := by decide +kernel
theorem dX2_init_29 : decode cX2_init 29 = .ok (.bipush 8, 2) := by decide +kernel
theorem dX2_init_31 : decode cX2_init 31 = .ok (.newarray .int, 2) := by decide +kernel
theorem dX2_init_33 : decode cX2_init 33 = .ok (.putfield 21, 3) := by decide +kernel
theorem dX2_init_36 : decode cX2_init 36 = .ok (.aload_n 0, 1) := by decide +kernel
theorem dX2_init_37 : decode cX2_init 37 = .ok (.bipush 8, 2) := by decide +kernel
theorem dX2_init_39 : decode cX2_init 39 = .ok (.newarray .int, 2) := by decide +kernel
theorem dX2_init_41 : decode cX2_init 41 = .ok (.putfield 24, 3) := by decide +kernel
theorem dX2_init_44 : decode cX2_init 44 = .ok (.aload_n 0, 1) := by decide +kernel
theorem dX2_init_45 : decode cX2_init 45 = .ok (.bipush 8, 2) := by decide +kernel
theorem dX2_init_47 : decode cX2_init 47 = .ok (.newarray .int, 2) := by decide +kernel
theorem dX2_init_49 : decode cX2_init 49 = .ok (.putfield 27, 3) := by decide +kernel
theorem dX2_init_52 : decode cX2_init 52 = .ok (.return_, 1) := by decide +kernel
theorem dX2_add_0 : decode cX2_add 0 = .ok (.aload_n 0, 1) := by decide +kernel
theorem dX2_add_1 : decode cX2_add 1 = .ok (.getfield 9, 3) := by decide +kernel
theorem dX2_add_4 : decode cX2_add 4 = .ok (.aload_n 0, 1) := by decide +kernel
theorem dX2_add_5 : decode cX2_add 5 = .ok (.getfield 30, 3) := by decide +kernel
theorem dX2_add_8 : decode cX2_add 8 = .ok (.iload_n 1, 1) := by decide +kernel
theorem dX2_add_9 : decode cX2_add 9 = .ok (.iastore, 1) := by decide +kernel
theorem dX2_add_10 : decode cX2_add 10 = .ok (.aload_n 0, 1) := by decide +kernel
theorem dX2_add_11 : decode cX2_add 11 = .ok (.getfield 15, 3) := by decide +kernel
theorem dX2_add_14 : decode cX2_add 14 = .ok (.aload_n 0, 1) := by decide +kernel
theorem dX2_add_15 : decode cX2_add 15 = .ok (.getfield 30, 3) := by decide +kernel
theorem dX2_add_18 : decode cX2_add 18 = .ok (.iload_n 2, 1) := by decide +kernel
theorem dX2_add_19 : decode cX2_add 19 = .ok (.iastore, 1) := by decide +kernel
theorem dX2_add_20 : decode cX2_add 20 = .ok (.aload_n 0, 1) := by decide +kernel
theorem dX2_add_21 : decode cX2_add 21 = .ok (.getfield 18, 3) := by decide +kernel
theorem dX2_add_24 : decode cX2_add 24 = .ok (.aload_n 0, 1) := by decide +kernel
theorem dX2_add_25 : decode cX2_add 25 = .ok (.getfield 30, 3) := by decide +kernel
theorem dX2_add_28 : decode cX2_add 28 = .ok (.iload_n 3, 1) := by decide +kernel
theorem dX2_add_29 : decode cX2_add 29 = .ok (.iastore, 1) := by decide +kernel
theorem dX2_add_30 : decode cX2_add 30 = .ok (.aload_n 0, 1) := by decide +kernel
theorem dX2_add_31 : decode cX2_add 31 = .ok (.getfield 21, 3) := by decide +kernel
theorem dX2_add_34 : decode cX2_add 34 = .ok (.aload_n 0, 1) := by decide +kernel
theorem dX2_add_35 : decode cX2_add 35 = .ok (.getfield 30, 3) := by decide +kernel
theorem dX2_add_38 : decode cX2_add 38 = .ok (.iload 4, 2) := by decide +kernel
theorem dX2_add_40 : decode cX2_add 40 = .ok (.iastore, 1) := by decide +kernel
theorem dX2_add_41 : decode cX2_add 41 = .ok (.aload_n 0, 1) := by decide +kernel
theorem dX2_add_42 : decode cX2_add 42 = .ok (.getfield 24, 3) := by decide +kernel
theorem dX2_add_45 : decode cX2_add 45 = .ok (.aload_n 0, 1) := by decide +kernel
theorem dX2_add_46 : decode cX2_add 46 = .ok (.getfield 30, 3) := by decide +kernel
theorem dX2_add_49 : decode cX2_add 49 = .ok (.iload 5, 2) := by decide +kernel
theorem dX2_add_51 : decode cX2_add 51 = .ok (.iastore, 1) := by decide +kernel
theorem dX2_add_52 : decode cX2_add 52 = .ok (.aload_n 0, 1) := by decide +kernel
theorem dX2_add_53 : decode cX2_add 53 = .ok (.getfield 27, 3) := by decide +kernel
theorem dX2_add_56 : decode cX2_add 56 = .ok (.aload_n 0, 1) := by decide +kernel
theorem dX2_add_57 : decode cX2_add 57 = .ok (.getfield 30, 3) := by decide +kernel
theorem dX2_add_60 : decode cX2_add 60 = .ok (.iconst 0, 1) := by decide +kernel
theorem dX2_add_61 : decode cX2_add 61 = .ok (.iastore, 1) := by decide +kernel
theorem dX2_add_62 : decode cX2_add 62 = .ok (.aload_n 0, 1) := by decide +kernel
theorem dX2_add_63 : decode cX2_add 63 = .ok (.dup, 1) := by decide +kernel
theorem dX2_add_64 : decode cX2_add 64 = .ok (.getfield 30, 3) := by decide +kernel
theorem dX2_add_67 : decode cX2_add 67 = .ok (.iconst 1, 1) := by decide +kernel
theorem dX2_add_68 : decode cX2_add 68 = .ok (.iadd, 1) := by decide +kernel
theorem dX2_add_69 : decode cX2_add 69 = .ok (.putfield 30, 3) := by decide +kernel
theorem dX2_add_72 : decode cX2_add 72 = .ok (.return_, 1) := by decide +kernel
theorem dX2_removeFrom_0 : decode cX2_removeFrom 0 = .ok (.aload_n 0, 1) := by decide +kernel
theorem dX2_removeFrom_1 : decode cX2_removeFrom 1 = .ok (.getfield 30, 3) := by decide +kernel
theorem dX2_removeFrom_4 : decode cX2_removeFrom 4 = .ok (.istore_n 3, 1) := by decide +kernel
theorem dX2_removeFrom_5 : decode cX2_removeFrom 5 = .ok (.aload_n 0, 1) := by decide +kernel
theorem dX2_removeFrom_6 : decode cX2_removeFrom 6 = .ok (.iconst 0, 1) := by decide +kernel
theorem dX2_removeFrom_7 : decode cX2_removeFrom 7 = .ok (.putfield 30, 3) := by decide +kernel
theorem dX2_removeFrom_10 : decode cX2_removeFrom 10 = .ok (.iconst 0, 1) := by decide +kernel
theorem dX2_removeFrom_11 : decode cX2_removeFrom 11 = .ok (.istore 4, 2) := by decide +kernel
theorem dX2_removeFrom_13 : decode cX2_removeFrom 13 = .ok (.iload 4, 2) := by decide +kernel
theorem dX2_removeFrom_15 : decode cX2_removeFrom 15 = .ok (.iload_n 3, 1) := by decide +kernel
theorem dX2_removeFrom_16 : decode cX2_removeFrom 16 = .ok (.if_icmp .ge 92, 3) := by decide +kernel
theorem dX2_removeFrom_19 : decode cX2_removeFrom 19 = .ok (.aload_n 0, 1) := by decide +kernel
theorem dX2_removeFrom_20 : decode cX2_removeFrom 20 = .ok (.getfield 9, 3) := by decide +kernel
theorem dX2_removeFrom_23 : decode cX2_removeFrom 23 = .ok (.iload 4, 2) := by decide +kernel
theorem dX2_removeFrom_25 : decode cX2_removeFrom 25 = .ok (.iaload, 1) := by decide +kernel
theorem dX2_removeFrom_26 : decode cX2_removeFrom 26 = .ok (.iload_n 1, 1) := by decide +kernel
theorem dX2_removeFrom_27 : decode cX2_removeFrom 27 = .ok (.if_icmp .ne 14, 3) := by decide +kernel
theorem dX2_removeFrom_30 : decode cX2_removeFrom 30 = .ok (.aload_n 0, 1) := by decide +kernel
theorem dX2_removeFrom_31 : decode cX2_removeFrom 31 = .ok (.getfield 15, 3) := by decide +kernel
theorem dX2_removeFrom_34 : decode cX2_removeFrom 34 = .ok (.iload 4, 2) := by decide +kernel
theorem dX2_removeFrom_36 : decode cX2_removeFrom 36 = .ok (.iaload, 1) := by decide +kernel
theorem dX2_removeFrom_37 : decode cX2_removeFrom 37 = .ok (.iload_n 2, 1) := by decide +kernel
theorem dX2_removeFrom_38 : decode cX2_removeFrom 38 = .ok (.if_icmp .ge 64, 3) := by decide +kernel
theorem dX2_removeFrom_41 : decode cX2_removeFrom 41 = .ok (.aload_n 0, 1) := by decide +kernel
theorem dX2_removeFrom_42 : decode cX2_removeFrom 42 = .ok (.getfield 27, 3) := by decide +kernel
theorem dX2_removeFrom_45 : decode cX2_removeFrom 45 = .ok (.iload 4, 2) := by decide +kernel
theorem dX2_removeFrom_47 : decode cX2_removeFrom 47 = .ok (.iaload, 1) := by decide +kernel
theorem dX2_removeFrom_48 : decode cX2_removeFrom 48 = .ok (.istore 5, 2) := by decide +kernel
theorem dX2_removeFrom_50 : decode cX2_removeFrom 50 = .ok (.aload_n 0, 1) := by decide +kernel
theorem dX2_removeFrom_51 : decode cX2_removeFrom 51 = .ok (.aload_n 0, 1) := by decide +kernel
theorem dX2_removeFrom_52 : decode cX2_removeFrom 52 = .ok (.getfield 9, 3) := by decide +kernel
theorem dX2_removeFrom_55 : decode cX2_removeFrom 55 = .ok (.iload 4, 2) := by decide +kernel
theorem dX2_removeFrom_57 : decode cX2_removeFrom 57 = .ok (.iaload, 1) := by decide +kernel
theorem dX2_removeFrom_58 : decode cX2_removeFrom 58 = .ok (.aload_n 0, 1) := by decide +kernel
theorem dX2_removeFrom_59 : decode cX2_removeFrom 59 = .ok (.getfield 15, 3) := by decide +kernel
theorem dX2_removeFrom_62 : decode cX2_removeFrom 62 = .ok (.iload 4, 2) := by decide +kernel
theorem dX2_removeFrom_64 : decode cX2_removeFrom 64 = .ok (.iaload, 1) := by decide +kernel
theorem dX2_removeFrom_65 : decode cX2_removeFrom 65 = .ok (.aload_n 0, 1) := by decide +kernel
theorem dX2_removeFrom_66 : decode cX2_removeFrom 66 = .ok (.getfield 18, 3) := by decide +kernel
theorem dX2_removeFrom_69 : decode cX2_removeFrom 69 = .ok (.iload 4, 2) := by decide +kernel
theorem dX2_removeFrom_71 : decode cX2_removeFrom 71 = .ok (.iaload, 1) := by decide +kernel
theorem dX2_removeFrom_72 : decode cX2_removeFrom 72 = .ok (.aload_n 0, 1) := by decide +kernel
theorem dX2_removeFrom_73 : decode cX2_removeFrom 73 = .ok (.getfield 21, 3) := by decide +kernel
theorem dX2_removeFrom_76 : decode cX2_removeFrom 76 = .ok (.iload 4, 2) := by decide +kernel
theorem dX2_removeFrom_78 : decode cX2_removeFrom 78 = .ok (.iaload, 1) := by decide +kernel
theorem dX2_removeFrom_79 : decode cX2_removeFrom 79 = .ok (.aload_n 0, 1) := by decide +kernel
theorem dX2_removeFrom_80 : decode cX2_removeFrom 80 = .ok (.getfield 24, 3) := by decide +kernel
theorem dX2_removeFrom_83 : decode cX2_removeFrom 83 = .ok (.iload 4, 2) := by decide +kernel
theorem dX2_removeFrom_85 : decode cX2_removeFrom 85 = .ok (.iaload, 1) := by decide +kernel
theorem dX2_removeFrom_86 : decode cX2_removeFrom 86 = .ok (.invokevirtual 34, 3) := by decide +kernel
theorem dX2_removeFrom_89 : decode cX2_removeFrom 89 = .ok (.aload_n 0, 1) := by decide +kernel
theorem dX2_removeFrom_90 : decode cX2_removeFrom 90 = .ok (.getfield 27, 3) := by decide +kernel
theorem dX2_removeFrom_93 : decode cX2_removeFrom 93 = .ok (.aload_n 0, 1) := by decide +kernel
theorem dX2_removeFrom_94 : decode cX2_removeFrom 94 = .ok (.getfield 30, 3) := by decide +kernel
theorem dX2_removeFrom_97 : decode cX2_removeFrom 97 = .ok (.iconst 1, 1) := by decide +kernel
theorem dX2_removeFrom_98 : decode cX2_removeFrom 98 = .ok (.isub, 1) := by decide +kernel
theorem dX2_removeFrom_99 : decode cX2_removeFrom 99 = .ok (.iload 5, 2) := by decide +kernel
theorem dX2_removeFrom_101 : decode cX2_removeFrom 101 = .ok (.iastore, 1) := by decide +kernel
theorem dX2_removeFrom_102 : decode cX2_removeFrom 102 = .ok (.iinc 4 1, 3) := by decide +kernel
theorem dX2_removeFrom_105 : decode cX2_removeFrom 105 = .ok (.goto (-92), 3) := by decide +kernel
theorem dX2_removeFrom_108 : decode cX2_removeFrom 108 = .ok (.return_, 1) := by decide +kernel
theorem dX2_thrown_0 : decode cX2_thrown 0 = .ok (.iconst 0, 1) := by decide +kernel
theorem dX2_thrown_1 : decode cX2_thrown 1 = .ok (.istore_n 1, 1) := by decide +kernel
theorem dX2_thrown_2 : decode cX2_thrown 2 = .ok (.iconst 0, 1) := by decide +kernel
theorem dX2_thrown_3 : decode cX2_thrown 3 = .ok (.istore_n 2, 1) := by decide +kernel
theorem dX2_thrown_4 : decode cX2_thrown 4 = .ok (.iload_n 2, 1) := by decide +kernel
theorem dX2_thrown_5 : decode cX2_thrown 5 = .ok (.aload_n 0, 1) := by decide +kernel
theorem dX2_thrown_6 : decode cX2_thrown 6 = .ok (.getfield 30, 3) := by decide +kernel
theorem dX2_thrown_9 : decode cX2_thrown 9 = .ok (.if_icmp .ge 26, 3) := by decide +kernel
theorem dX2_thrown_12 : decode cX2_thrown 12 = .ok (.iload_n 1, 1) := by decide +kernel
theorem dX2_thrown_13 : decode cX2_thrown 13 = .ok (.aload_n 0, 1) := by decide +kernel
theorem dX2_thrown_14 : decode cX2_thrown 14 = .ok (.getfield 27, 3) := by decide +kernel
theorem dX2_thrown_17 : decode cX2_thrown 17 = .ok (.iload_n 2, 1) := by decide +kernel
theorem dX2_thrown_18 : decode cX2_thrown 18 = .ok (.iaload, 1) := by decide +kernel
theorem dX2_thrown_19 : decode cX2_thrown 19 = .ok (.ifCond .ne 7, 3) := by decide +kernel
theorem dX2_thrown_22 : decode cX2_thrown 22 = .ok (.iconst 0, 1) := by decide +kernel
theorem dX2_thrown_23 : decode cX2_thrown 23 = .ok (.goto 4, 3) := by decide +kernel
theorem dX2_thrown_26 : decode cX2_thrown 26 = .ok (.iconst 1, 1) := by decide +kernel
theorem dX2_thrown_27 : decode cX2_thrown 27 = .ok (.iadd, 1) := by decide +kernel
theorem dX2_thrown_28 : decode cX2_thrown 28 = .ok (.istore_n 1, 1) := by decide +kernel
theorem dX2_thrown_29 : decode cX2_thrown 29 = .ok (.iinc 2 1, 3) := by decide +kernel
theorem dX2_thrown_32 : decode cX2_thrown 32 = .ok (.goto (-28), 3) := by decide +kernel
theorem dX2_thrown_35 : decode cX2_thrown 35 = .ok (.iload_n 1, 1) := by decide +kernel
theorem dX2_thrown_36 : decode cX2_thrown 36 = .ok (.ireturn, 1) := by decide +kernel
theorem dX2_binding_0 : decode cX2_binding 0 = .ok (.iconst 0, 1) := by decide +kernel
theorem dX2_binding_1 : decode cX2_binding 1 = .ok (.istore_n 2, 1) := by decide +kernel
theorem dX2_binding_2 : decode cX2_binding 2 = .ok (.iconst 0, 1) := by decide +kernel
theorem dX2_binding_3 : decode cX2_binding 3 = .ok (.istore_n 3, 1) := by decide +kernel
theorem dX2_binding_4 : decode cX2_binding 4 = .ok (.iload_n 3, 1) := by decide +kernel
theorem dX2_binding_5 : decode cX2_binding 5 = .ok (.aload_n 0, 1) := by decide +kernel
theorem dX2_binding_6 : decode cX2_binding 6 = .ok (.getfield 30, 3) := by decide +kernel
theorem dX2_binding_9 : decode cX2_binding 9 = .ok (.if_icmp .ge 34, 3) := by decide +kernel
theorem dX2_binding_12 : decode cX2_binding 12 = .ok (.aload_n 0, 1) := by decide +kernel
theorem dX2_binding_13 : decode cX2_binding 13 = .ok (.getfield 9, 3) := by decide +kernel
theorem dX2_binding_16 : decode cX2_binding 16 = .ok (.iload_n 3, 1) := by decide +kernel
theorem dX2_binding_17 : decode cX2_binding 17 = .ok (.iaload, 1) := by decide +kernel
theorem dX2_binding_18 : decode cX2_binding 18 = .ok (.iload_n 1, 1) := by decide +kernel
theorem dX2_binding_19 : decode cX2_binding 19 = .ok (.if_icmp .ne 18, 3) := by decide +kernel
theorem dX2_binding_22 : decode cX2_binding 22 = .ok (.aload_n 0, 1) := by decide +kernel
theorem dX2_binding_23 : decode cX2_binding 23 = .ok (.getfield 27, 3) := by decide +kernel
theorem dX2_binding_26 : decode cX2_binding 26 = .ok (.iload_n 3, 1) := by decide +kernel
theorem dX2_binding_27 : decode cX2_binding 27 = .ok (.iaload, 1) := by decide +kernel
theorem dX2_binding_28 : decode cX2_binding 28 = .ok (.ifCond .ne 9, 3) := by decide +kernel
theorem dX2_binding_31 : decode cX2_binding 31 = .ok (.iload_n 2, 1) := by decide +kernel
theorem dX2_binding_32 : decode cX2_binding 32 = .ok (.iconst 1, 1) := by decide +kernel
theorem dX2_binding_33 : decode cX2_binding 33 = .ok (.iload_n 3, 1) := by decide +kernel
theorem dX2_binding_34 : decode cX2_binding 34 = .ok (.ishl, 1) := by decide +kernel
theorem dX2_binding_35 : decode cX2_binding 35 = .ok (.ior, 1) := by decide +kernel
theorem dX2_binding_36 : decode cX2_binding 36 = .ok (.istore_n 2, 1) := by decide +kernel
theorem dX2_binding_37 : decode cX2_binding 37 = .ok (.iinc 3 1, 3) := by decide +kernel
theorem dX2_binding_40 : decode cX2_binding 40 = .ok (.goto (-36), 3) := by decide +kernel
theorem dX2_binding_43 : decode cX2_binding 43 = .ok (.iload_n 2, 1) := by decide +kernel
theorem dX2_binding_44 : decode cX2_binding 44 = .ok (.ireturn, 1) := by decide +kernel
theorem dX2_take_0 : decode cX2_take 0 = .ok (.aload_n 1, 1) := by decide +kernel
theorem dX2_take_1 : decode cX2_take 1 = .ok (.getfield 9, 3) := by decide +kernel
theorem dX2_take_4 : decode cX2_take 4 = .ok (.aload_n 0, 1) := by decide +kernel
theorem dX2_take_5 : decode cX2_take 5 = .ok (.getfield 9, 3) := by decide +kernel
theorem dX2_take_8 : decode cX2_take 8 = .ok (.invokestatic 38, 3) := by decide +kernel
theorem dX2_take_11 : decode cX2_take 11 = .ok (.aload_n 1, 1) := by decide +kernel
theorem dX2_take_12 : decode cX2_take 12 = .ok (.getfield 15, 3) := by decide +kernel
theorem dX2_take_15 : decode cX2_take 15 = .ok (.aload_n 0, 1) := by decide +kernel
theorem dX2_take_16 : decode cX2_take 16 = .ok (.getfield 15, 3) := by decide +kernel
theorem dX2_take_19 : decode cX2_take 19 = .ok (.invokestatic 38, 3) := by decide +kernel
theorem dX2_take_22 : decode cX2_take 22 = .ok (.aload_n 1, 1) := by decide +kernel
theorem dX2_take_23 : decode cX2_take 23 = .ok (.getfield 18, 3) := by decide +kernel
theorem dX2_take_26 : decode cX2_take 26 = .ok (.aload_n 0, 1) := by decide +kernel
theorem dX2_take_27 : decode cX2_take 27 = .ok (.getfield 18, 3) := by decide +kernel
theorem dX2_take_30 : decode cX2_take 30 = .ok (.invokestatic 38, 3) := by decide +kernel
theorem dX2_take_33 : decode cX2_take 33 = .ok (.aload_n 1, 1) := by decide +kernel
theorem dX2_take_34 : decode cX2_take 34 = .ok (.getfield 21, 3) := by decide +kernel
theorem dX2_take_37 : decode cX2_take 37 = .ok (.aload_n 0, 1) := by decide +kernel
theorem dX2_take_38 : decode cX2_take 38 = .ok (.getfield 21, 3) := by decide +kernel
theorem dX2_take_41 : decode cX2_take 41 = .ok (.invokestatic 38, 3) := by decide +kernel
theorem dX2_take_44 : decode cX2_take 44 = .ok (.aload_n 1, 1) := by decide +kernel
theorem dX2_take_45 : decode cX2_take 45 = .ok (.getfield 24, 3) := by decide +kernel
theorem dX2_take_48 : decode cX2_take 48 = .ok (.aload_n 0, 1) := by decide +kernel
theorem dX2_take_49 : decode cX2_take 49 = .ok (.getfield 24, 3) := by decide +kernel
theorem dX2_take_52 : decode cX2_take 52 = .ok (.invokestatic 38, 3) := by decide +kernel
theorem dX2_take_55 : decode cX2_take 55 = .ok (.aload_n 1, 1) := by decide +kernel
theorem dX2_take_56 : decode cX2_take 56 = .ok (.getfield 27, 3) := by decide +kernel
theorem dX2_take_59 : decode cX2_take 59 = .ok (.aload_n 0, 1) := by decide +kernel
theorem dX2_take_60 : decode cX2_take 60 = .ok (.getfield 27, 3) := by decide +kernel
theorem dX2_take_63 : decode cX2_take 63 = .ok (.invokestatic 38, 3) := by decide +kernel
theorem dX2_take_66 : decode cX2_take 66 = .ok (.aload_n 0, 1) := by decide +kernel
theorem dX2_take_67 : decode cX2_take 67 = .ok (.aload_n 1, 1) := by decide +kernel
theorem dX2_take_68 : decode cX2_take 68 = .ok (.getfield 30, 3) := by decide +kernel
theorem dX2_take_71 : decode cX2_take 71 = .ok (.putfield 30, 3) := by decide +kernel
theorem dX2_take_74 : decode cX2_take 74 = .ok (.return_, 1) := by decide +kernel
theorem dX3_init_0 : decode cX3_init 0 = .ok (.aload_n 0, 1) := by decide +kernel
theorem dX3_init_1 : decode cX3_init 1 = .ok (.invokespecial 3, 3) := by decide +kernel
theorem dX3_init_4 : decode cX3_init 4 = .ok (.aload_n 0, 1) := by decide +kernel
theorem dX3_init_5 : decode cX3_init 5 = .ok (.iconst 3, 1) := by decide +kernel
theorem dX3_init_6 : decode cX3_init 6 = .ok (.bipush 24, 2) := by decide +kernel
theorem dX3_init_8 : decode cX3_init 8 = .ok (.multianewarray 9 2, 4) := by decide +kernel
theorem dX3_init_12 : decode cX3_init 12 = .ok (.putfield 11, 3) := by decide +kernel
theorem dX3_init_15 : decode cX3_init 15 = .ok (.aload_n 0, 1) := by decide +kernel
theorem dX3_init_16 : decode cX3_init 16 = .ok (.iconst 1, 1) := by decide +kernel
theorem dX3_init_17 : decode cX3_init 17 = .ok (.putfield 16, 3) := by decide +kernel
theorem dX3_init_20 : decode cX3_init 20 = .ok (.aload_n 0, 1) := by decide +kernel
theorem dX3_init_21 : decode cX3_init 21 = .ok (.iconst 3, 1) := by decide +kernel
theorem dX3_init_22 : decode cX3_init 22 = .ok (.putfield 20, 3) := by decide +kernel
theorem dX3_init_25 : decode cX3_init 25 = .ok (.return_, 1) := by decide +kernel
theorem dX3_fits_0 : decode cX3_fits 0 = .ok (.iload_n 0, 1) := by decide +kernel
theorem dX3_fits_1 : decode cX3_fits 1 = .ok (.iconst 1, 1) := by decide +kernel
theorem dX3_fits_2 : decode cX3_fits 2 = .ok (.if_icmp .ne 14, 3) := by decide +kernel
theorem dX3_fits_5 : decode cX3_fits 5 = .ok (.iload_n 1, 1) := by decide +kernel
theorem dX3_fits_6 : decode cX3_fits 6 = .ok (.bipush (-20), 2) := by decide +kernel
theorem dX3_fits_8 : decode cX3_fits 8 = .ok (.bipush 20, 2) := by decide +kernel
theorem dX3_fits_10 : decode cX3_fits 10 = .ok (.invokestatic 23, 3) := by decide +kernel
theorem dX3_fits_13 : decode cX3_fits 13 = .ok (.goto 10, 3) := by decide +kernel
theorem dX3_fits_16 : decode cX3_fits 16 = .ok (.iload_n 1, 1) := by decide +kernel
theorem dX3_fits_17 : decode cX3_fits 17 = .ok (.iconst 0, 1) := by decide +kernel
theorem dX3_fits_18 : decode cX3_fits 18 = .ok (.bipush 9, 2) := by decide +kernel
theorem dX3_fits_20 : decode cX3_fits 20 = .ok (.invokestatic 23, 3) := by decide +kernel
theorem dX3_fits_23 : decode cX3_fits 23 = .ok (.ireturn, 1) := by decide +kernel
theorem dX3_wetBy_0 : decode cX3_wetBy 0 = .ok (.iconst 0, 1) := by decide +kernel
theorem dX3_wetBy_1 : decode cX3_wetBy 1 = .ok (.istore_n 3, 1) := by decide +kernel
theorem dX3_wetBy_2 : decode cX3_wetBy 2 = .ok (.iconst 0, 1) := by decide +kernel
theorem dX3_wetBy_3 : decode cX3_wetBy 3 = .ok (.iload_n 1, 1) := by decide +kernel
theorem dX3_wetBy_4 : decode cX3_wetBy 4 = .ok (.iload_n 2, 1) := by decide +kernel
theorem dX3_wetBy_5 : decode cX3_wetBy 5 = .ok (.isub, 1) := by decide +kernel
theorem dX3_wetBy_6 : decode cX3_wetBy 6 = .ok (.iconst 1, 1) := by decide +kernel
theorem dX3_wetBy_7 : decode cX3_wetBy 7 = .ok (.iadd, 1) := by decide +kernel
theorem dX3_wetBy_8 : decode cX3_wetBy 8 = .ok (.invokestatic 27, 3) := by decide +kernel
theorem dX3_wetBy_11 : decode cX3_wetBy 11 = .ok (.istore 4, 2) := by decide +kernel
theorem dX3_wetBy_13 : decode cX3_wetBy 13 = .ok (.iload 4, 2) := by decide +kernel
theorem dX3_wetBy_15 : decode cX3_wetBy 15 = .ok (.iload_n 1, 1) := by decide +kernel
theorem dX3_wetBy_16 : decode cX3_wetBy 16 = .ok (.if_icmp .gt 21, 3) := by decide +kernel
theorem dX3_wetBy_19 : decode cX3_wetBy 19 = .ok (.iload_n 3, 1) := by decide +kernel
theorem dX3_wetBy_20 : decode cX3_wetBy 20 = .ok (.aload_n 0, 1) := by decide +kernel
theorem dX3_wetBy_21 : decode cX3_wetBy 21 = .ok (.getfield 11, 3) := by decide +kernel
theorem dX3_wetBy_24 : decode cX3_wetBy 24 = .ok (.iconst 0, 1) := by decide +kernel
theorem dX3_wetBy_25 : decode cX3_wetBy 25 = .ok (.aaload, 1) := by decide +kernel
theorem dX3_wetBy_26 : decode cX3_wetBy 26 = .ok (.iload 4, 2) := by decide +kernel
theorem dX3_wetBy_28 : decode cX3_wetBy 28 = .ok (.iaload, 1) := by decide +kernel
theorem dX3_wetBy_29 : decode cX3_wetBy 29 = .ok (.iadd, 1) := by decide +kernel
theorem dX3_wetBy_30 : decode cX3_wetBy 30 = .ok (.istore_n 3, 1) := by decide +kernel
theorem dX3_wetBy_31 : decode cX3_wetBy 31 = .ok (.iinc 4 1, 3) := by decide +kernel
theorem dX3_wetBy_34 : decode cX3_wetBy 34 = .ok (.goto (-21), 3) := by decide +kernel
theorem dX3_wetBy_37 : decode cX3_wetBy 37 = .ok (.iload_n 3, 1) := by decide +kernel
theorem dX3_wetBy_38 : decode cX3_wetBy 38 = .ok (.ireturn, 1) := by decide +kernel
theorem dX3_waterBy_0 : decode cX3_waterBy 0 = .ok (.aload_n 0, 1) := by decide +kernel
theorem dX3_waterBy_1 : decode cX3_waterBy 1 = .ok (.iload_n 1, 1) := by decide +kernel
theorem dX3_waterBy_2 : decode cX3_waterBy 2 = .ok (.iload_n 2, 1) := by decide +kernel
theorem dX3_waterBy_3 : decode cX3_waterBy 3 = .ok (.invokevirtual 33, 3) := by decide +kernel
theorem dX3_waterBy_6 : decode cX3_waterBy 6 = .ok (.istore_n 3, 1) := by decide +kernel
theorem dX3_waterBy_7 : decode cX3_waterBy 7 = .ok (.iload_n 3, 1) := by decide +kernel
theorem dX3_waterBy_8 : decode cX3_waterBy 8 = .ok (.ifCond .ne 7, 3) := by decide +kernel
theorem dX3_waterBy_11 : decode cX3_waterBy 11 = .ok (.sipush (-1004), 3) := by decide +kernel
theorem dX3_waterBy_14 : decode cX3_waterBy 14 = .ok (.ireturn, 1) := by decide +kernel
theorem dX3_waterBy_15 : decode cX3_waterBy 15 = .ok (.iconst 0, 1) := by decide +kernel
theorem dX3_waterBy_16 : decode cX3_waterBy 16 = .ok (.istore 4, 2) := by decide +kernel
theorem dX3_waterBy_18 : decode cX3_waterBy 18 = .ok (.iconst 0, 1) := by decide +kernel
theorem dX3_waterBy_19 : decode cX3_waterBy 19 = .ok (.iload_n 1, 1) := by decide +kernel
theorem dX3_waterBy_20 : decode cX3_waterBy 20 = .ok (.iload_n 2, 1) := by decide +kernel
theorem dX3_waterBy_21 : decode cX3_waterBy 21 = .ok (.isub, 1) := by decide +kernel
theorem dX3_waterBy_22 : decode cX3_waterBy 22 = .ok (.iconst 1, 1) := by decide +kernel
theorem dX3_waterBy_23 : decode cX3_waterBy 23 = .ok (.iadd, 1) := by decide +kernel
theorem dX3_waterBy_24 : decode cX3_waterBy 24 = .ok (.invokestatic 27, 3) := by decide +kernel
theorem dX3_waterBy_27 : decode cX3_waterBy 27 = .ok (.istore 5, 2) := by decide +kernel
theorem dX3_waterBy_29 : decode cX3_waterBy 29 = .ok (.iload 5, 2) := by decide +kernel
theorem dX3_waterBy_31 : decode cX3_waterBy 31 = .ok (.iload_n 1, 1) := by decide +kernel
theorem dX3_waterBy_32 : decode cX3_waterBy 32 = .ok (.if_icmp .gt 33, 3) := by decide +kernel
theorem dX3_waterBy_35 : decode cX3_waterBy 35 = .ok (.iload 4, 2) := by decide +kernel
theorem dX3_waterBy_37 : decode cX3_waterBy 37 = .ok (.aload_n 0, 1) := by decide +kernel
theorem dX3_waterBy_38 : decode cX3_waterBy 38 = .ok (.getfield 11, 3) := by decide +kernel
theorem dX3_waterBy_41 : decode cX3_waterBy 41 = .ok (.iconst 0, 1) := by decide +kernel
theorem dX3_waterBy_42 : decode cX3_waterBy 42 = .ok (.aaload, 1) := by decide +kernel
theorem dX3_waterBy_43 : decode cX3_waterBy 43 = .ok (.iload 5, 2) := by decide +kernel
theorem dX3_waterBy_45 : decode cX3_waterBy 45 = .ok (.iaload, 1) := by decide +kernel
theorem dX3_waterBy_46 : decode cX3_waterBy 46 = .ok (.aload_n 0, 1) := by decide +kernel
theorem dX3_waterBy_47 : decode cX3_waterBy 47 = .ok (.getfield 11, 3) := by decide +kernel
theorem dX3_waterBy_50 : decode cX3_waterBy 50 = .ok (.iconst 1, 1) := by decide +kernel
theorem dX3_waterBy_51 : decode cX3_waterBy 51 = .ok (.aaload, 1) := by decide +kernel
theorem dX3_waterBy_52 : decode cX3_waterBy 52 = .ok (.iload 5, 2) := by decide +kernel
theorem dX3_waterBy_54 : decode cX3_waterBy 54 = .ok (.iaload, 1) := by decide +kernel
theorem dX3_waterBy_55 : decode cX3_waterBy 55 = .ok (.imul, 1) := by decide +kernel
theorem dX3_waterBy_56 : decode cX3_waterBy 56 = .ok (.iadd, 1) := by decide +kernel
theorem dX3_waterBy_57 : decode cX3_waterBy 57 = .ok (.istore 4, 2) := by decide +kernel
theorem dX3_waterBy_59 : decode cX3_waterBy 59 = .ok (.iinc 5 1, 3) := by decide +kernel
theorem dX3_waterBy_62 : decode cX3_waterBy 62 = .ok (.goto (-33), 3) := by decide +kernel
theorem dX3_waterBy_65 : decode cX3_waterBy 65 = .ok (.iload 4, 2) := by decide +kernel
theorem dX3_waterBy_67 : decode cX3_waterBy 67 = .ok (.iload_n 3, 1) := by decide +kernel
theorem dX3_waterBy_68 : decode cX3_waterBy 68 = .ok (.idiv, 1) := by decide +kernel
theorem dX3_waterBy_69 : decode cX3_waterBy 69 = .ok (.ireturn, 1) := by decide +kernel
theorem dX3_take_0 : decode cX3_take 0 = .ok (.iconst 0, 1) := by decide +kernel
theorem dX3_take_1 : decode cX3_take 1 = .ok (.istore_n 2, 1) := by decide +kernel
theorem dX3_take_2 : decode cX3_take 2 = .ok (.iload_n 2, 1) := by decide +kernel
theorem dX3_take_3 : decode cX3_take 3 = .ok (.iconst 2, 1) := by decide +kernel
theorem dX3_take_4 : decode cX3_take 4 = .ok (.if_icmp .gt 24, 3) := by decide +kernel
theorem dX3_take_7 : decode cX3_take 7 = .ok (.aload_n 1, 1) := by decide +kernel
theorem dX3_take_8 : decode cX3_take 8 = .ok (.getfield 11, 3) := by decide +kernel
theorem dX3_take_11 : decode cX3_take 11 = .ok (.iload_n 2, 1) := by decide +kernel
theorem dX3_take_12 : decode cX3_take 12 = .ok (.aaload, 1) := by decide +kernel
theorem dX3_take_13 : decode cX3_take 13 = .ok (.aload_n 0, 1) := by decide +kernel
theorem dX3_take_14 : decode cX3_take 14 = .ok (.getfield 11, 3) := by decide +kernel
theorem dX3_take_17 : decode cX3_take 17 = .ok (.iload_n 2, 1) := by decide +kernel
theorem dX3_take_18 : decode cX3_take 18 = .ok (.aaload, 1) := by decide +kernel
theorem dX3_take_19 : decode cX3_take 19 = .ok (.invokestatic 36, 3) := by decide +kernel
theorem dX3_take_22 : decode cX3_take 22 = .ok (.iinc 2 1, 3) := by decide +kernel
theorem dX3_take_25 : decode cX3_take 25 = .ok (.goto (-23), 3) := by decide +kernel
theorem dX3_take_28 : decode cX3_take 28 = .ok (.aload_n 0, 1) := by decide +kernel
theorem dX3_take_29 : decode cX3_take 29 = .ok (.aload_n 1, 1) := by decide +kernel
theorem dX3_take_30 : decode cX3_take 30 = .ok (.getfield 16, 3) := by decide +kernel
theorem dX3_take_33 : decode cX3_take 33 = .ok (.putfield 16, 3) := by decide +kernel
theorem dX3_take_36 : decode cX3_take 36 = .ok (.aload_n 0, 1) := by decide +kernel
theorem dX3_take_37 : decode cX3_take 37 = .ok (.aload_n 1, 1) := by decide +kernel
theorem dX3_take_38 : decode cX3_take 38 = .ok (.getfield 20, 3) := by decide +kernel
theorem dX3_take_41 : decode cX3_take 41 = .ok (.putfield 20, 3) := by decide +kernel
theorem dX3_take_44 : decode cX3_take 44 = .ok (.return_, 1) := by decide +kernel
theorem dX4_init_0 : decode cX4_init 0 = .ok (.aload_n 0, 1) := by decide +kernel
theorem dX4_init_1 : decode cX4_init 1 = .ok (.invokespecial 3, 3) := by decide +kernel
theorem dX4_init_4 : decode cX4_init 4 = .ok (.aload_n 0, 1) := by decide +kernel
theorem dX4_init_5 : decode cX4_init 5 = .ok (.bipush 6, 2) := by decide +kernel
theorem dX4_init_7 : decode cX4_init 7 = .ok (.newarray .int, 2) := by decide +kernel
theorem dX4_init_9 : decode cX4_init 9 = .ok (.putfield 9, 3) := by decide +kernel
theorem dX4_init_12 : decode cX4_init 12 = .ok (.aload_n 0, 1) := by decide +kernel
theorem dX4_init_13 : decode cX4_init 13 = .ok (.bipush 6, 2) := by decide +kernel
theorem dX4_init_15 : decode cX4_init 15 = .ok (.newarray .int, 2) := by decide +kernel
theorem dX4_init_17 : decode cX4_init 17 = .ok (.putfield 15, 3) := by decide +kernel
theorem dX4_init_20 : decode cX4_init 20 = .ok (.aload_n 0, 1) := by decide +kernel
theorem dX4_init_21 : decode cX4_init 21 = .ok (.bipush 18, 2) := by decide +kernel
theorem dX4_init_23 : decode cX4_init 23 = .ok (.newarray .int, 2) := by decide +kernel
theorem dX4_init_25 : decode cX4_init 25 = .ok (.putfield 18, 3) := by decide +kernel
theorem dX4_init_28 : decode cX4_init 28 = .ok (.aload_n 0, 1) := by decide +kernel
theorem dX4_init_29 : decode cX4_init 29 = .ok (.bipush 18, 2) := by decide +kernel
theorem dX4_init_31 : decode cX4_init 31 = .ok (.newarray .int, 2) := by decide +kernel
theorem dX4_init_33 : decode cX4_init 33 = .ok (.putfield 21, 3) := by decide +kernel
theorem dX4_init_36 : decode cX4_init 36 = .ok (.aload_n 0, 1) := by decide +kernel
theorem dX4_init_37 : decode cX4_init 37 = .ok (.bipush 18, 2) := by decide +kernel
theorem dX4_init_39 : decode cX4_init 39 = .ok (.newarray .int, 2) := by decide +kernel
theorem dX4_init_41 : decode cX4_init 41 = .ok (.putfield 24, 3) := by decide +kernel
theorem dX4_init_44 : decode cX4_init 44 = .ok (.return_, 1) := by decide +kernel
theorem dX4_growth_0 : decode cX4_growth 0 = .ok (.aload_n 1, 1) := by decide +kernel
theorem dX4_growth_1 : decode cX4_growth 1 = .ok (.iload_n 2, 1) := by decide +kernel
theorem dX4_growth_2 : decode cX4_growth 2 = .ok (.aload_n 1, 1) := by decide +kernel
theorem dX4_growth_3 : decode cX4_growth 3 = .ok (.getfield 27, 3) := by decide +kernel
theorem dX4_growth_6 : decode cX4_growth 6 = .ok (.invokevirtual 33, 3) := by decide +kernel
theorem dX4_growth_9 : decode cX4_growth 9 = .ok (.istore_n 3, 1) := by decide +kernel
theorem dX4_growth_10 : decode cX4_growth 10 = .ok (.iload_n 3, 1) := by decide +kernel
theorem dX4_growth_11 : decode cX4_growth 11 = .ok (.ifCond .ne 5, 3) := by decide +kernel
theorem dX4_growth_14 : decode cX4_growth 14 = .ok (.iconst 0, 1) := by decide +kernel
theorem dX4_growth_15 : decode cX4_growth 15 = .ok (.ireturn, 1) := by decide +kernel
theorem dX4_growth_16 : decode cX4_growth 16 = .ok (.iconst 0, 1) := by decide +kernel
theorem dX4_growth_17 : decode cX4_growth 17 = .ok (.istore 4, 2) := by decide +kernel
theorem dX4_growth_19 : decode cX4_growth 19 = .ok (.iload 4, 2) := by decide +kernel
theorem dX4_growth_21 : decode cX4_growth 21 = .ok (.aload_n 0, 1) := by decide +kernel
theorem dX4_growth_22 : decode cX4_growth 22 = .ok (.getfield 37, 3) := by decide +kernel
theorem dX4_growth_25 : decode cX4_growth 25 = .ok (.if_icmp .ge 43, 3) := by decide +kernel
theorem dX4_growth_28 : decode cX4_growth 28 = .ok (.aload_n 0, 1) := by decide +kernel
theorem dX4_growth_29 : decode cX4_growth 29 = .ok (.iload 4, 2) := by decide +kernel
theorem dX4_growth_31 : decode cX4_growth 31 = .ok (.aload_n 1, 1) := by decide +kernel
theorem dX4_growth_32 : decode cX4_growth 32 = .ok (.getfield 40, 3) := by decide +kernel
theorem dX4_growth_35 : decode cX4_growth 35 = .ok (.iconst 0, 1) := by decide +kernel
theorem dX4_growth_36 : decode cX4_growth 36 = .ok (.aaload, 1) := by decide +kernel
theorem dX4_growth_37 : decode cX4_growth 37 = .ok (.iload_n 2, 1) := by decide +kernel
theorem dX4_growth_38 : decode cX4_growth 38 = .ok (.iaload, 1) := by decide +kernel
theorem dX4_growth_39 : decode cX4_growth 39 = .ok (.aload_n 1, 1) := by decide +kernel
theorem dX4_growth_40 : decode cX4_growth 40 = .ok (.getfield 40, 3) := by decide +kernel
theorem dX4_growth_43 : decode cX4_growth 43 = .ok (.iconst 2, 1) := by decide +kernel
theorem dX4_growth_44 : decode cX4_growth 44 = .ok (.aaload, 1) := by decide +kernel
theorem dX4_growth_45 : decode cX4_growth 45 = .ok (.iload_n 2, 1) := by decide +kernel
theorem dX4_growth_46 : decode cX4_growth 46 = .ok (.iaload, 1) := by decide +kernel
theorem dX4_growth_47 : decode cX4_growth 47 = .ok (.iload_n 3, 1) := by decide +kernel
theorem dX4_growth_48 : decode cX4_growth 48 = .ok (.invokevirtual 44, 3) := by decide +kernel
theorem dX4_growth_51 : decode cX4_growth 51 = .ok (.ifCond .eq 11, 3) := by decide +kernel
theorem dX4_growth_54 : decode cX4_growth 54 = .ok (.aload_n 0, 1) := by decide +kernel
theorem dX4_growth_55 : decode cX4_growth 55 = .ok (.getfield 9, 3) := by decide +kernel
theorem dX4_growth_58 : decode cX4_growth 58 = .ok (.iload 4, 2) := by decide +kernel
theorem dX4_growth_60 : decode cX4_growth 60 = .ok (.iaload, 1) := by decide +kernel
theorem dX4_growth_61 : decode cX4_growth 61 = .ok (.ireturn, 1) := by decide +kernel
theorem dX4_growth_62 : decode cX4_growth 62 = .ok (.iinc 4 1, 3) := by decide +kernel
theorem dX4_growth_65 : decode cX4_growth 65 = .ok (.goto (-46), 3) := by decide +kernel
theorem dX4_growth_68 : decode cX4_growth 68 = .ok (.iconst 0, 1) := by decide +kernel
theorem dX4_growth_69 : decode cX4_growth 69 = .ok (.ireturn, 1) := by decide +kernel
theorem dX4_isMet_0 : decode cX4_isMet 0 = .ok (.iconst 0, 1) := by decide +kernel
theorem dX4_isMet_1 : decode cX4_isMet 1 = .ok (.istore 5, 2) := by decide +kernel
theorem dX4_isMet_3 : decode cX4_isMet 3 = .ok (.iload 5, 2) := by decide +kernel
theorem dX4_isMet_5 : decode cX4_isMet 5 = .ok (.aload_n 0, 1) := by decide +kernel
theorem dX4_isMet_6 : decode cX4_isMet 6 = .ok (.getfield 15, 3) := by decide +kernel
theorem dX4_isMet_9 : decode cX4_isMet 9 = .ok (.iload_n 1, 1) := by decide +kernel
theorem dX4_isMet_10 : decode cX4_isMet 10 = .ok (.iaload, 1) := by decide +kernel
theorem dX4_isMet_11 : decode cX4_isMet 11 = .ok (.if_icmp .ge 111, 3) := by decide +kernel
theorem dX4_isMet_14 : decode cX4_isMet 14 = .ok (.iload_n 1, 1) := by decide +kernel
theorem dX4_isMet_15 : decode cX4_isMet 15 = .ok (.iconst 3, 1) := by decide +kernel
theorem dX4_isMet_16 : decode cX4_isMet 16 = .ok (.imul, 1) := by decide +kernel
theorem dX4_isMet_17 : decode cX4_isMet 17 = .ok (.iload 5, 2) := by decide +kernel
theorem dX4_isMet_19 : decode cX4_isMet 19 = .ok (.iadd, 1) := by decide +kernel
theorem dX4_isMet_20 : decode cX4_isMet 20 = .ok (.istore 6, 2) := by decide +kernel
theorem dX4_isMet_22 : decode cX4_isMet 22 = .ok (.aload_n 0, 1) := by decide +kernel
theorem dX4_isMet_23 : decode cX4_isMet 23 = .ok (.getfield 18, 3) := by decide +kernel
theorem dX4_isMet_26 : decode cX4_isMet 26 = .ok (.iload 6, 2) := by decide +kernel
theorem dX4_isMet_28 : decode cX4_isMet 28 = .ok (.iaload, 1) := by decide +kernel
theorem dX4_isMet_29 : decode cX4_isMet 29 = .ok (.bipush 97, 2) := by decide +kernel
theorem dX4_isMet_31 : decode cX4_isMet 31 = .ok (.if_icmp .ne 7, 3) := by decide +kernel
theorem dX4_isMet_34 : decode cX4_isMet 34 = .ok (.iload_n 2, 1) := by decide +kernel
theorem dX4_isMet_35 : decode cX4_isMet 35 = .ok (.goto 21, 3) := by decide +kernel
theorem dX4_isMet_38 : decode cX4_isMet 38 = .ok (.aload_n 0, 1) := by decide +kernel
theorem dX4_isMet_39 : decode cX4_isMet 39 = .ok (.getfield 18, 3) := by decide +kernel
theorem dX4_isMet_42 : decode cX4_isMet 42 = .ok (.iload 6, 2) := by decide +kernel
theorem dX4_isMet_44 : decode cX4_isMet 44 = .ok (.iaload, 1) := by decide +kernel
theorem dX4_isMet_45 : decode cX4_isMet 45 = .ok (.bipush 104, 2) := by decide +kernel
theorem dX4_isMet_47 : decode cX4_isMet 47 = .ok (.if_icmp .ne 7, 3) := by decide +kernel
theorem dX4_isMet_50 : decode cX4_isMet 50 = .ok (.iload_n 3, 1) := by decide +kernel
theorem dX4_isMet_51 : decode cX4_isMet 51 = .ok (.goto 5, 3) := by decide +kernel
theorem dX4_isMet_54 : decode cX4_isMet 54 = .ok (.iload 4, 2) := by decide +kernel
theorem dX4_isMet_56 : decode cX4_isMet 56 = .ok (.istore 7, 2) := by decide +kernel
theorem dX4_isMet_58 : decode cX4_isMet 58 = .ok (.iload 7, 2) := by decide +kernel
theorem dX4_isMet_60 : decode cX4_isMet 60 = .ok (.aload_n 0, 1) := by decide +kernel
theorem dX4_isMet_61 : decode cX4_isMet 61 = .ok (.getfield 24, 3) := by decide +kernel
theorem dX4_isMet_64 : decode cX4_isMet 64 = .ok (.iload 6, 2) := by decide +kernel
theorem dX4_isMet_66 : decode cX4_isMet 66 = .ok (.iaload, 1) := by decide +kernel
theorem dX4_isMet_67 : decode cX4_isMet 67 = .ok (.invokestatic 48, 3) := by decide +kernel
theorem dX4_isMet_70 : decode cX4_isMet 70 = .ok (.istore 8, 2) := by decide +kernel
theorem dX4_isMet_72 : decode cX4_isMet 72 = .ok (.aload_n 0, 1) := by decide +kernel
theorem dX4_isMet_73 : decode cX4_isMet 73 = .ok (.getfield 21, 3) := by decide +kernel
theorem dX4_isMet_76 : decode cX4_isMet 76 = .ok (.iload 6, 2) := by decide +kernel
theorem dX4_isMet_78 : decode cX4_isMet 78 = .ok (.iaload, 1) := by decide +kernel
theorem dX4_isMet_79 : decode cX4_isMet 79 = .ok (.bipush 60, 2) := by decide +kernel
theorem dX4_isMet_81 : decode cX4_isMet 81 = .ok (.if_icmp .ne 7, 3) := by decide +kernel
theorem dX4_isMet_84 : decode cX4_isMet 84 = .ok (.iconst (-1), 1) := by decide +kernel
theorem dX4_isMet_85 : decode cX4_isMet 85 = .ok (.goto 20, 3) := by decide +kernel
theorem dX4_isMet_88 : decode cX4_isMet 88 = .ok (.aload_n 0, 1) := by decide +kernel
theorem dX4_isMet_89 : decode cX4_isMet 89 = .ok (.getfield 21, 3) := by decide +kernel
theorem dX4_isMet_92 : decode cX4_isMet 92 = .ok (.iload 6, 2) := by decide +kernel
theorem dX4_isMet_94 : decode cX4_isMet 94 = .ok (.iaload, 1) := by decide +kernel
theorem dX4_isMet_95 : decode cX4_isMet 95 = .ok (.bipush 62, 2) := by decide +kernel
theorem dX4_isMet_97 : decode cX4_isMet 97 = .ok (.if_icmp .ne 7, 3) := by decide +kernel
theorem dX4_isMet_100 : decode cX4_isMet 100 = .ok (.iconst 1, 1) := by decide +kernel
theorem dX4_isMet_101 : decode cX4_isMet 101 = .ok (.goto 4, 3) := by decide +kernel
theorem dX4_isMet_104 : decode cX4_isMet 104 = .ok (.iconst 0, 1) := by decide +kernel
theorem dX4_isMet_105 : decode cX4_isMet 105 = .ok (.istore 9, 2) := by decide +kernel
theorem dX4_isMet_107 : decode cX4_isMet 107 = .ok (.iload 8, 2) := by decide +kernel
theorem dX4_isMet_109 : decode cX4_isMet 109 = .ok (.iload 9, 2) := by decide +kernel
theorem dX4_isMet_111 : decode cX4_isMet 111 = .ok (.if_icmp .eq 5, 3) := by decide +kernel
theorem dX4_isMet_114 : decode cX4_isMet 114 = .ok (.iconst 0, 1) := by decide +kernel
theorem dX4_isMet_115 : decode cX4_isMet 115 = .ok (.ireturn, 1) := by decide +kernel
theorem dX4_isMet_116 : decode cX4_isMet 116 = .ok (.iinc 5 1, 3) := by decide +kernel
theorem dX4_isMet_119 : decode cX4_isMet 119 = .ok (.goto (-116), 3) := by decide +kernel
theorem dX4_isMet_122 : decode cX4_isMet 122 = .ok (.iconst 1, 1) := by decide +kernel
theorem dX4_isMet_123 : decode cX4_isMet 123 = .ok (.ireturn, 1) := by decide +kernel
theorem dX4_take_0 : decode cX4_take 0 = .ok (.aload_n 1, 1) := by decide +kernel
theorem dX4_take_1 : decode cX4_take 1 = .ok (.getfield 9, 3) := by decide +kernel
theorem dX4_take_4 : decode cX4_take 4 = .ok (.aload_n 0, 1) := by decide +kernel
theorem dX4_take_5 : decode cX4_take 5 = .ok (.getfield 9, 3) := by decide +kernel
theorem dX4_take_8 : decode cX4_take 8 = .ok (.invokestatic 53, 3) := by decide +kernel
theorem dX4_take_11 : decode cX4_take 11 = .ok (.aload_n 1, 1) := by decide +kernel
theorem dX4_take_12 : decode cX4_take 12 = .ok (.getfield 15, 3) := by decide +kernel
theorem dX4_take_15 : decode cX4_take 15 = .ok (.aload_n 0, 1) := by decide +kernel
theorem dX4_take_16 : decode cX4_take 16 = .ok (.getfield 15, 3) := by decide +kernel
theorem dX4_take_19 : decode cX4_take 19 = .ok (.invokestatic 53, 3) := by decide +kernel
theorem dX4_take_22 : decode cX4_take 22 = .ok (.aload_n 1, 1) := by decide +kernel
theorem dX4_take_23 : decode cX4_take 23 = .ok (.getfield 18, 3) := by decide +kernel
theorem dX4_take_26 : decode cX4_take 26 = .ok (.aload_n 0, 1) := by decide +kernel
theorem dX4_take_27 : decode cX4_take 27 = .ok (.getfield 18, 3) := by decide +kernel
theorem dX4_take_30 : decode cX4_take 30 = .ok (.invokestatic 53, 3) := by decide +kernel
theorem dX4_take_33 : decode cX4_take 33 = .ok (.aload_n 1, 1) := by decide +kernel
theorem dX4_take_34 : decode cX4_take 34 = .ok (.getfield 21, 3) := by decide +kernel
theorem dX4_take_37 : decode cX4_take 37 = .ok (.aload_n 0, 1) := by decide +kernel
theorem dX4_take_38 : decode cX4_take 38 = .ok (.getfield 21, 3) := by decide +kernel
theorem dX4_take_41 : decode cX4_take 41 = .ok (.invokestatic 53, 3) := by decide +kernel
theorem dX4_take_44 : decode cX4_take 44 = .ok (.aload_n 1, 1) := by decide +kernel
theorem dX4_take_45 : decode cX4_take 45 = .ok (.getfield 24, 3) := by decide +kernel
theorem dX4_take_48 : decode cX4_take 48 = .ok (.aload_n 0, 1) := by decide +kernel
theorem dX4_take_49 : decode cX4_take 49 = .ok (.getfield 24, 3) := by decide +kernel
theorem dX4_take_52 : decode cX4_take 52 = .ok (.invokestatic 53, 3) := by decide +kernel
theorem dX4_take_55 : decode cX4_take 55 = .ok (.aload_n 0, 1) := by decide +kernel
theorem dX4_take_56 : decode cX4_take 56 = .ok (.aload_n 1, 1) := by decide +kernel
theorem dX4_take_57 : decode cX4_take 57 = .ok (.getfield 37, 3) := by decide +kernel
theorem dX4_take_60 : decode cX4_take 60 = .ok (.putfield 37, 3) := by decide +kernel
theorem dX4_take_63 : decode cX4_take 63 = .ok (.return_, 1) := by decide +kernel
theorem dX5_init_0 : decode cX5_init 0 = .ok (.aload_n 0, 1) := by decide +kernel
theorem dX5_init_1 : decode cX5_init 1 = .ok (.invokespecial 3, 3) := by decide +kernel
theorem dX5_init_4 : decode cX5_init 4 = .ok (.aload_n 0, 1) := by decide +kernel
theorem dX5_init_5 : decode cX5_init 5 = .ok (.bipush 12, 2) := by decide +kernel
theorem dX5_init_7 : decode cX5_init 7 = .ok (.newarray .boolean, 2) := by decide +kernel
theorem dX5_init_9 : decode cX5_init 9 = .ok (.putfield 9, 3) := by decide +kernel
theorem dX5_init_12 : decode cX5_init 12 = .ok (.aload_n 0, 1) := by decide +kernel
theorem dX5_init_13 : decode cX5_init 13 = .ok (.bipush 12, 2) := by decide +kernel
theorem dX5_init_15 : decode cX5_init 15 = .ok (.newarray .boolean, 2) := by decide +kernel
theorem dX5_init_17 : decode cX5_init 17 = .ok (.putfield 15, 3) := by decide +kernel
theorem dX5_init_20 : decode cX5_init 20 = .ok (.aload_n 0, 1) := by decide +kernel
theorem dX5_init_21 : decode cX5_init 21 = .ok (.bipush 24, 2) := by decide +kernel
theorem dX5_init_23 : decode cX5_init 23 = .ok (.newarray .boolean, 2) := by decide +kernel
theorem dX5_init_25 : decode cX5_init 25 = .ok (.putfield 18, 3) := by decide +kernel
theorem dX5_init_28 : decode cX5_init 28 = .ok (.aload_n 0, 1) := by decide +kernel
theorem dX5_init_29 : decode cX5_init 29 = .ok (.bipush 24, 2) := by decide +kernel
theorem dX5_init_31 : decode cX5_init 31 = .ok (.newarray .boolean, 2) := by decide +kernel
theorem dX5_init_33 : decode cX5_init 33 = .ok (.putfield 21, 3) := by decide +kernel
theorem dX5_init_36 : decode cX5_init 36 = .ok (.aload_n 0, 1) := by decide +kernel
theorem dX5_init_37 : decode cX5_init 37 = .ok (.bipush 24, 2) := by decide +kernel
theorem dX5_init_39 : decode cX5_init 39 = .ok (.newarray .int, 2) := by decide +kernel
theorem dX5_init_41 : decode cX5_init 41 = .ok (.putfield 24, 3) := by decide +kernel
theorem dX5_init_44 : decode cX5_init 44 = .ok (.aload_n 0, 1) := by decide +kernel
theorem dX5_init_45 : decode cX5_init 45 = .ok (.sipush 16224, 3) := by decide +kernel
theorem dX5_init_48 : decode cX5_init 48 = .ok (.newarray .long, 2) := by decide +kernel
theorem dX5_init_50 : decode cX5_init 50 = .ok (.putfield 28, 3) := by decide +kernel
theorem dX5_init_53 : decode cX5_init 53 = .ok (.aload_n 0, 1) := by decide +kernel
theorem dX5_init_54 : decode cX5_init 54 = .ok (.bipush 96, 2) := by decide +kernel
theorem dX5_init_56 : decode cX5_init 56 = .ok (.newarray .long, 2) := by decide +kernel
theorem dX5_init_58 : decode cX5_init 58 = .ok (.putfield 32, 3) := by decide +kernel
theorem dX5_init_61 : decode cX5_init 61 = .ok (.return_, 1) := by decide +kernel
theorem dX5_waysSo_0 : decode cX5_waysSo 0 = .ok (.aload_n 1, 1) := by decide +kernel
theorem dX5_waysSo_1 : decode cX5_waysSo 1 = .ok (.getfield 35, 3) := by decide +kernel
theorem dX5_waysSo_4 : decode cX5_waysSo 4 = .ok (.ifCond .ne 5, 3) := by decide +kernel
theorem dX5_waysSo_7 : decode cX5_waysSo 7 = .ok (.lconst 0, 1) := by decide +kernel
theorem dX5_waysSo_8 : decode cX5_waysSo 8 = .ok (.lreturn, 1) := by decide +kernel
theorem dX5_waysSo_9 : decode cX5_waysSo 9 = .ok (.aload_n 0, 1) := by decide +kernel
theorem dX5_waysSo_10 : decode cX5_waysSo 10 = .ok (.aload_n 1, 1) := by decide +kernel
theorem dX5_waysSo_11 : decode cX5_waysSo 11 = .ok (.aload_n 2, 1) := by decide +kernel
theorem dX5_waysSo_12 : decode cX5_waysSo 12 = .ok (.aload_n 3, 1) := by decide +kernel
theorem dX5_waysSo_13 : decode cX5_waysSo 13 = .ok (.iload 4, 2) := by decide +kernel
theorem dX5_waysSo_15 : decode cX5_waysSo 15 = .ok (.invokevirtual 41, 3) := by decide +kernel
theorem dX5_waysSo_18 : decode cX5_waysSo 18 = .ok (.aload_n 0, 1) := by decide +kernel
theorem dX5_waysSo_19 : decode cX5_waysSo 19 = .ok (.getfield 28, 3) := by decide +kernel
theorem dX5_waysSo_22 : decode cX5_waysSo 22 = .ok (.iconst 0, 1) := by decide +kernel
theorem dX5_waysSo_23 : decode cX5_waysSo 23 = .ok (.aload_n 0, 1) := by decide +kernel
theorem dX5_waysSo_24 : decode cX5_waysSo 24 = .ok (.getfield 45, 3) := by decide +kernel
theorem dX5_waysSo_27 : decode cX5_waysSo 27 = .ok (.iconst 1, 1) := by decide +kernel
theorem dX5_waysSo_28 : decode cX5_waysSo 28 = .ok (.iadd, 1) := by decide +kernel
theorem dX5_waysSo_29 : decode cX5_waysSo 29 = .ok (.aload_n 0, 1) := by decide +kernel
theorem dX5_waysSo_30 : decode cX5_waysSo 30 = .ok (.getfield 48, 3) := by decide +kernel
theorem dX5_waysSo_33 : decode cX5_waysSo 33 = .ok (.iconst 1, 1) := by decide +kernel
theorem dX5_waysSo_34 : decode cX5_waysSo 34 = .ok (.iadd, 1) := by decide +kernel
theorem dX5_waysSo_35 : decode cX5_waysSo 35 = .ok (.imul, 1) := by decide +kernel
theorem dX5_waysSo_36 : decode cX5_waysSo 36 = .ok (.bipush 96, 2) := by decide +kernel
theorem dX5_waysSo_38 : decode cX5_waysSo 38 = .ok (.imul, 1) := by decide +kernel
theorem dX5_waysSo_39 : decode cX5_waysSo 39 = .ok (.lconst 0, 1) := by decide +kernel
theorem dX5_waysSo_40 : decode cX5_waysSo 40 = .ok (.invokestatic 51, 3) := by decide +kernel
theorem dX5_waysSo_43 : decode cX5_waysSo 43 = .ok (.aload_n 0, 1) := by decide +kernel
theorem dX5_waysSo_44 : decode cX5_waysSo 44 = .ok (.iconst 0, 1) := by decide +kernel
theorem dX5_waysSo_45 : decode cX5_waysSo 45 = .ok (.iconst 0, 1) := by decide +kernel
theorem dX5_waysSo_46 : decode cX5_waysSo 46 = .ok (.iconst 0, 1) := by decide +kernel
theorem dX5_waysSo_47 : decode cX5_waysSo 47 = .ok (.invokevirtual 57, 3) := by decide +kernel
theorem dX5_waysSo_50 : decode cX5_waysSo 50 = .ok (.aload_n 1, 1) := by decide +kernel
theorem dX5_waysSo_51 : decode cX5_waysSo 51 = .ok (.aload_n 0, 1) := by decide +kernel
theorem dX5_waysSo_52 : decode cX5_waysSo 52 = .ok (.getfield 28, 3) := by decide +kernel
theorem dX5_waysSo_55 : decode cX5_waysSo 55 = .ok (.aload_n 0, 1) := by decide +kernel
theorem dX5_waysSo_56 : decode cX5_waysSo 56 = .ok (.getfield 24, 3) := by decide +kernel
theorem dX5_waysSo_59 : decode cX5_waysSo 59 = .ok (.invokevirtual 61, 3) := by decide +kernel
theorem dX5_waysSo_62 : decode cX5_waysSo 62 = .ok (.iconst 1, 1) := by decide +kernel
theorem dX5_waysSo_63 : decode cX5_waysSo 63 = .ok (.istore 5, 2) := by decide +kernel
theorem dX5_waysSo_65 : decode cX5_waysSo 65 = .ok (.iload 5, 2) := by decide +kernel
theorem dX5_waysSo_67 : decode cX5_waysSo 67 = .ok (.aload_n 1, 1) := by decide +kernel
theorem dX5_waysSo_68 : decode cX5_waysSo 68 = .ok (.getfield 35, 3) := by decide +kernel
theorem dX5_waysSo_71 : decode cX5_waysSo 71 = .ok (.if_icmp .ge 16, 3) := by decide +kernel
theorem dX5_waysSo_74 : decode cX5_waysSo 74 = .ok (.aload_n 0, 1) := by decide +kernel
theorem dX5_waysSo_75 : decode cX5_waysSo 75 = .ok (.aload_n 1, 1) := by decide +kernel
theorem dX5_waysSo_76 : decode cX5_waysSo 76 = .ok (.iload 5, 2) := by decide +kernel
theorem dX5_waysSo_78 : decode cX5_waysSo 78 = .ok (.invokevirtual 65, 3) := by decide +kernel
theorem dX5_waysSo_81 : decode cX5_waysSo 81 = .ok (.iinc 5 1, 3) := by decide +kernel
theorem dX5_waysSo_84 : decode cX5_waysSo 84 = .ok (.goto (-19), 3) := by decide +kernel
theorem dX5_waysSo_87 : decode cX5_waysSo 87 = .ok (.aload_n 0, 1) := by decide +kernel
theorem dX5_waysSo_88 : decode cX5_waysSo 88 = .ok (.aload_n 3, 1) := by decide +kernel
theorem dX5_waysSo_89 : decode cX5_waysSo 89 = .ok (.invokevirtual 69, 3) := by decide +kernel
theorem dX5_waysSo_92 : decode cX5_waysSo 92 = .ok (.lreturn, 1) := by decide +kernel
theorem dX5_ask_0 : decode cX5_ask 0 = .ok (.aload_n 0, 1) := by decide +kernel
theorem dX5_ask_1 : decode cX5_ask 1 = .ok (.iconst 0, 1) := by decide +kernel
theorem dX5_ask_2 : decode cX5_ask 2 = .ok (.aload_n 1, 1) := by decide +kernel
theorem dX5_ask_3 : decode cX5_ask 3 = .ok (.aload_n 2, 1) := by decide +kernel
theorem dX5_ask_4 : decode cX5_ask 4 = .ok (.aload_n 3, 1) := by decide +kernel
theorem dX5_ask_5 : decode cX5_ask 5 = .ok (.invokestatic 73, 3) := by decide +kernel
theorem dX5_ask_8 : decode cX5_ask 8 = .ok (.putfield 45, 3) := by decide +kernel
theorem dX5_ask_11 : decode cX5_ask 11 = .ok (.aload_n 0, 1) := by decide +kernel
theorem dX5_ask_12 : decode cX5_ask 12 = .ok (.iconst 1, 1) := by decide +kernel
theorem dX5_ask_13 : decode cX5_ask 13 = .ok (.aload_n 1, 1) := by decide +kernel
theorem dX5_ask_14 : decode cX5_ask 14 = .ok (.aload_n 2, 1) := by decide +kernel
theorem dX5_ask_15 : decode cX5_ask 15 = .ok (.aload_n 3, 1) := by decide +kernel
theorem dX5_ask_16 : decode cX5_ask 16 = .ok (.invokestatic 73, 3) := by decide +kernel
theorem dX5_ask_19 : decode cX5_ask 19 = .ok (.putfield 48, 3) := by decide +kernel
theorem dX5_ask_22 : decode cX5_ask 22 = .ok (.iconst 0, 1) := by decide +kernel
theorem dX5_ask_23 : decode cX5_ask 23 = .ok (.istore 5, 2) := by decide +kernel
theorem dX5_ask_25 : decode cX5_ask 25 = .ok (.iload 5, 2) := by decide +kernel
theorem dX5_ask_27 : decode cX5_ask 27 = .ok (.aload_n 1, 1) := by decide +kernel
theorem dX5_ask_28 : decode cX5_ask 28 = .ok (.getfield 35, 3) := by decide +kernel
theorem dX5_ask_31 : decode cX5_ask 31 = .ok (.if_icmp .ge 49, 3) := by decide +kernel
theorem dX5_ask_34 : decode cX5_ask 34 = .ok (.aload_n 0, 1) := by decide +kernel
theorem dX5_ask_35 : decode cX5_ask 35 = .ok (.getfield 9, 3) := by decide +kernel
theorem dX5_ask_38 : decode cX5_ask 38 = .ok (.iload 5, 2) := by decide +kernel
theorem dX5_ask_40 : decode cX5_ask 40 = .ok (.aload_n 3, 1) := by decide +kernel
theorem dX5_ask_41 : decode cX5_ask 41 = .ok (.iconst 0, 1) := by decide +kernel
theorem dX5_ask_42 : decode cX5_ask 42 = .ok (.aload_n 2, 1) := by decide +kernel
theorem dX5_ask_43 : decode cX5_ask 43 = .ok (.aload_n 1, 1) := by decide +kernel
theorem dX5_ask_44 : decode cX5_ask 44 = .ok (.getfield 77, 3) := by decide +kernel
theorem dX5_ask_47 : decode cX5_ask 47 = .ok (.iload 5, 2) := by decide +kernel
theorem dX5_ask_49 : decode cX5_ask 49 = .ok (.iaload, 1) := by decide +kernel
theorem dX5_ask_50 : decode cX5_ask 50 = .ok (.invokevirtual 80, 3) := by decide +kernel
theorem dX5_ask_53 : decode cX5_ask 53 = .ok (.bastore, 1) := by decide +kernel
theorem dX5_ask_54 : decode cX5_ask 54 = .ok (.aload_n 0, 1) := by decide +kernel
theorem dX5_ask_55 : decode cX5_ask 55 = .ok (.getfield 15, 3) := by decide +kernel
theorem dX5_ask_58 : decode cX5_ask 58 = .ok (.iload 5, 2) := by decide +kernel
theorem dX5_ask_60 : decode cX5_ask 60 = .ok (.aload_n 3, 1) := by decide +kernel
theorem dX5_ask_61 : decode cX5_ask 61 = .ok (.iconst 1, 1) := by decide +kernel
theorem dX5_ask_62 : decode cX5_ask 62 = .ok (.aload_n 2, 1) := by decide +kernel
theorem dX5_ask_63 : decode cX5_ask 63 = .ok (.aload_n 1, 1) := by decide +kernel
theorem dX5_ask_64 : decode cX5_ask 64 = .ok (.getfield 77, 3) := by decide +kernel
theorem dX5_ask_67 : decode cX5_ask 67 = .ok (.iload 5, 2) := by decide +kernel
theorem dX5_ask_69 : decode cX5_ask 69 = .ok (.iaload, 1) := by decide +kernel
theorem dX5_ask_70 : decode cX5_ask 70 = .ok (.invokevirtual 80, 3) := by decide +kernel
theorem dX5_ask_73 : decode cX5_ask 73 = .ok (.bastore, 1) := by decide +kernel
theorem dX5_ask_74 : decode cX5_ask 74 = .ok (.iinc 5 1, 3) := by decide +kernel
theorem dX5_ask_77 : decode cX5_ask 77 = .ok (.goto (-52), 3) := by decide +kernel
theorem dX5_ask_80 : decode cX5_ask 80 = .ok (.iconst 0, 1) := by decide +kernel
theorem dX5_ask_81 : decode cX5_ask 81 = .ok (.istore 5, 2) := by decide +kernel
theorem dX5_ask_83 : decode cX5_ask 83 = .ok (.iload 5, 2) := by decide +kernel
theorem dX5_ask_85 : decode cX5_ask 85 = .ok (.bipush 24, 2) := by decide +kernel
theorem dX5_ask_87 : decode cX5_ask 87 = .ok (.if_icmp .ge 63, 3) := by decide +kernel
theorem dX5_ask_90 : decode cX5_ask 90 = .ok (.aload_n 0, 1) := by decide +kernel
theorem dX5_ask_91 : decode cX5_ask 91 = .ok (.getfield 18, 3) := by decide +kernel
theorem dX5_ask_94 : decode cX5_ask 94 = .ok (.iload 5, 2) := by decide +kernel
theorem dX5_ask_96 : decode cX5_ask 96 = .ok (.iload 5, 2) := by decide +kernel
theorem dX5_ask_98 : decode cX5_ask 98 = .ok (.iload 4, 2) := by decide +kernel
theorem dX5_ask_100 : decode cX5_ask 100 = .ok (.isub, 1) := by decide +kernel
theorem dX5_ask_101 : decode cX5_ask 101 = .ok (.aload_n 3, 1) := by decide +kernel
theorem dX5_ask_102 : decode cX5_ask 102 = .ok (.getfield 86, 3) := by decide +kernel
theorem dX5_ask_105 : decode cX5_ask 105 = .ok (.iconst 0, 1) := by decide +kernel
theorem dX5_ask_106 : decode cX5_ask 106 = .ok (.iaload, 1) := by decide +kernel
theorem dX5_ask_107 : decode cX5_ask 107 = .ok (.aload_n 3, 1) := by decide +kernel
theorem dX5_ask_108 : decode cX5_ask 108 = .ok (.getfield 89, 3) := by decide +kernel
theorem dX5_ask_111 : decode cX5_ask 111 = .ok (.iconst 0, 1) := by decide +kernel
theorem dX5_ask_112 : decode cX5_ask 112 = .ok (.iaload, 1) := by decide +kernel
theorem dX5_ask_113 : decode cX5_ask 113 = .ok (.invokestatic 92, 3) := by decide +kernel
theorem dX5_ask_116 : decode cX5_ask 116 = .ok (.bastore, 1) := by decide +kernel
theorem dX5_ask_117 : decode cX5_ask 117 = .ok (.aload_n 0, 1) := by decide +kernel
theorem dX5_ask_118 : decode cX5_ask 118 = .ok (.getfield 21, 3) := by decide +kernel
theorem dX5_ask_121 : decode cX5_ask 121 = .ok (.iload 5, 2) := by decide +kernel
theorem dX5_ask_123 : decode cX5_ask 123 = .ok (.iload 5, 2) := by decide +kernel
theorem dX5_ask_125 : decode cX5_ask 125 = .ok (.iload 4, 2) := by decide +kernel
theorem dX5_ask_127 : decode cX5_ask 127 = .ok (.isub, 1) := by decide +kernel
theorem dX5_ask_128 : decode cX5_ask 128 = .ok (.aload_n 3, 1) := by decide +kernel
theorem dX5_ask_129 : decode cX5_ask 129 = .ok (.getfield 86, 3) := by decide +kernel
theorem dX5_ask_132 : decode cX5_ask 132 = .ok (.iconst 1, 1) := by decide +kernel
theorem dX5_ask_133 : decode cX5_ask 133 = .ok (.iaload, 1) := by decide +kernel
theorem dX5_ask_134 : decode cX5_ask 134 = .ok (.aload_n 3, 1) := by decide +kernel
theorem dX5_ask_135 : decode cX5_ask 135 = .ok (.getfield 89, 3) := by decide +kernel
theorem dX5_ask_138 : decode cX5_ask 138 = .ok (.iconst 1, 1) := by decide +kernel
theorem dX5_ask_139 : decode cX5_ask 139 = .ok (.iaload, 1) := by decide +kernel
theorem dX5_ask_140 : decode cX5_ask 140 = .ok (.invokestatic 92, 3) := by decide +kernel
theorem dX5_ask_143 : decode cX5_ask 143 = .ok (.bastore, 1) := by decide +kernel
theorem dX5_ask_144 : decode cX5_ask 144 = .ok (.iinc 5 1, 3) := by decide +kernel
theorem dX5_ask_147 : decode cX5_ask 147 = .ok (.goto (-64), 3) := by decide +kernel
theorem dX5_ask_150 : decode cX5_ask 150 = .ok (.return_, 1) := by decide +kernel
theorem dX5_goalOf_0 : decode cX5_goalOf 0 = .ok (.aload_n 3, 1) := by decide +kernel
theorem dX5_goalOf_1 : decode cX5_goalOf 1 = .ok (.getfield 89, 3) := by decide +kernel
theorem dX5_goalOf_4 : decode cX5_goalOf 4 = .ok (.iload_n 0, 1) := by decide +kernel
theorem dX5_goalOf_5 : decode cX5_goalOf 5 = .ok (.iaload, 1) := by decide +kernel
theorem dX5_goalOf_6 : decode cX5_goalOf 6 = .ok (.aload_n 3, 1) := by decide +kernel
theorem dX5_goalOf_7 : decode cX5_goalOf 7 = .ok (.getfield 86, 3) := by decide +kernel
theorem dX5_goalOf_10 : decode cX5_goalOf 10 = .ok (.iload_n 0, 1) := by decide +kernel
theorem dX5_goalOf_11 : decode cX5_goalOf 11 = .ok (.iaload, 1) := by decide +kernel
theorem dX5_goalOf_12 : decode cX5_goalOf 12 = .ok (.isub, 1) := by decide +kernel
theorem dX5_goalOf_13 : decode cX5_goalOf 13 = .ok (.iconst 1, 1) := by decide +kernel
theorem dX5_goalOf_14 : decode cX5_goalOf 14 = .ok (.iadd, 1) := by decide +kernel
theorem dX5_goalOf_15 : decode cX5_goalOf 15 = .ok (.aload_n 1, 1) := by decide +kernel
theorem dX5_goalOf_16 : decode cX5_goalOf 16 = .ok (.getfield 96, 3) := by decide +kernel
theorem dX5_goalOf_19 : decode cX5_goalOf 19 = .ok (.imul, 1) := by decide +kernel
theorem dX5_goalOf_20 : decode cX5_goalOf 20 = .ok (.istore 4, 2) := by decide +kernel
theorem dX5_goalOf_22 : decode cX5_goalOf 22 = .ok (.iconst 0, 1) := by decide +kernel
theorem dX5_goalOf_23 : decode cX5_goalOf 23 = .ok (.istore 5, 2) := by decide +kernel
theorem dX5_goalOf_25 : decode cX5_goalOf 25 = .ok (.iconst 0, 1) := by decide +kernel
theorem dX5_goalOf_26 : decode cX5_goalOf 26 = .ok (.istore 6, 2) := by decide +kernel
theorem dX5_goalOf_28 : decode cX5_goalOf 28 = .ok (.iload 6, 2) := by decide +kernel
theorem dX5_goalOf_30 : decode cX5_goalOf 30 = .ok (.aload_n 1, 1) := by decide +kernel
theorem dX5_goalOf_31 : decode cX5_goalOf 31 = .ok (.getfield 35, 3) := by decide +kernel
theorem dX5_goalOf_34 : decode cX5_goalOf 34 = .ok (.if_icmp .ge 35, 3) := by decide +kernel
theorem dX5_goalOf_37 : decode cX5_goalOf 37 = .ok (.iload 5, 2) := by decide +kernel
theorem dX5_goalOf_39 : decode cX5_goalOf 39 = .ok (.aload_n 3, 1) := by decide +kernel
theorem dX5_goalOf_40 : decode cX5_goalOf 40 = .ok (.iload_n 0, 1) := by decide +kernel
theorem dX5_goalOf_41 : decode cX5_goalOf 41 = .ok (.aload_n 2, 1) := by decide +kernel
theorem dX5_goalOf_42 : decode cX5_goalOf 42 = .ok (.aload_n 1, 1) := by decide +kernel
theorem dX5_goalOf_43 : decode cX5_goalOf 43 = .ok (.getfield 77, 3) := by decide +kernel
theorem dX5_goalOf_46 : decode cX5_goalOf 46 = .ok (.iload 6, 2) := by decide +kernel
theorem dX5_goalOf_48 : decode cX5_goalOf 48 = .ok (.iaload, 1) := by decide +kernel
theorem dX5_goalOf_49 : decode cX5_goalOf 49 = .ok (.invokevirtual 80, 3) := by decide +kernel
theorem dX5_goalOf_52 : decode cX5_goalOf 52 = .ok (.ifCond .eq 7, 3) := by decide +kernel
theorem dX5_goalOf_55 : decode cX5_goalOf 55 = .ok (.iconst 1, 1) := by decide +kernel
theorem dX5_goalOf_56 : decode cX5_goalOf 56 = .ok (.goto 4, 3) := by decide +kernel
theorem dX5_goalOf_59 : decode cX5_goalOf 59 = .ok (.iconst 0, 1) := by decide +kernel
theorem dX5_goalOf_60 : decode cX5_goalOf 60 = .ok (.iadd, 1) := by decide +kernel
theorem dX5_goalOf_61 : decode cX5_goalOf 61 = .ok (.istore 5, 2) := by decide +kernel
theorem dX5_goalOf_63 : decode cX5_goalOf 63 = .ok (.iinc 6 1, 3) := by decide +kernel
theorem dX5_goalOf_66 : decode cX5_goalOf 66 = .ok (.goto (-38), 3) := by decide +kernel
theorem dX5_goalOf_69 : decode cX5_goalOf 69 = .ok (.iload_n 0, 1) := by decide +kernel
theorem dX5_goalOf_70 : decode cX5_goalOf 70 = .ok (.aload_n 3, 1) := by decide +kernel
theorem dX5_goalOf_71 : decode cX5_goalOf 71 = .ok (.getfield 99, 3) := by decide +kernel
theorem dX5_goalOf_74 : decode cX5_goalOf 74 = .ok (.if_icmp .ge 23, 3) := by decide +kernel
theorem dX5_goalOf_77 : decode cX5_goalOf 77 = .ok (.aload_n 3, 1) := by decide +kernel
theorem dX5_goalOf_78 : decode cX5_goalOf 78 = .ok (.getfield 102, 3) := by decide +kernel
theorem dX5_goalOf_81 : decode cX5_goalOf 81 = .ok (.iload_n 0, 1) := by decide +kernel
theorem dX5_goalOf_82 : decode cX5_goalOf 82 = .ok (.iaload, 1) := by decide +kernel
theorem dX5_goalOf_83 : decode cX5_goalOf 83 = .ok (.iload 4, 2) := by decide +kernel
theorem dX5_goalOf_85 : decode cX5_goalOf 85 = .ok (.iload 5, 2) := by decide +kernel
theorem dX5_goalOf_87 : decode cX5_goalOf 87 = .ok (.invokestatic 105, 3) := by decide +kernel
theorem dX5_goalOf_90 : decode cX5_goalOf 90 = .ok (.if_icmp .gt 7, 3) := by decide +kernel
theorem dX5_goalOf_93 : decode cX5_goalOf 93 = .ok (.iconst 1, 1) := by decide +kernel
theorem dX5_goalOf_94 : decode cX5_goalOf 94 = .ok (.goto 4, 3) := by decide +kernel
theorem dX5_goalOf_97 : decode cX5_goalOf 97 = .ok (.iconst 0, 1) := by decide +kernel
theorem dX5_goalOf_98 : decode cX5_goalOf 98 = .ok (.istore 6, 2) := by decide +kernel
theorem dX5_goalOf_100 : decode cX5_goalOf 100 = .ok (.iload 6, 2) := by decide +kernel
theorem dX5_goalOf_102 : decode cX5_goalOf 102 = .ok (.ifCond .eq 12, 3) := by decide +kernel
theorem dX5_goalOf_105 : decode cX5_goalOf 105 = .ok (.aload_n 3, 1) := by decide +kernel
theorem dX5_goalOf_106 : decode cX5_goalOf 106 = .ok (.getfield 102, 3) := by decide +kernel
theorem dX5_goalOf_109 : decode cX5_goalOf 109 = .ok (.iload_n 0, 1) := by decide +kernel
theorem dX5_goalOf_110 : decode cX5_goalOf 110 = .ok (.iaload, 1) := by decide +kernel
theorem dX5_goalOf_111 : decode cX5_goalOf 111 = .ok (.goto 4, 3) := by decide +kernel
theorem dX5_goalOf_114 : decode cX5_goalOf 114 = .ok (.iconst 0, 1) := by decide +kernel
theorem dX5_goalOf_115 : decode cX5_goalOf 115 = .ok (.ireturn, 1) := by decide +kernel
theorem dX5_advanceAll_0 : decode cX5_advanceAll 0 = .ok (.aload_n 0, 1) := by decide +kernel
theorem dX5_advanceAll_1 : decode cX5_advanceAll 1 = .ok (.getfield 45, 3) := by decide +kernel
theorem dX5_advanceAll_4 : decode cX5_advanceAll 4 = .ok (.iload_n 2, 1) := by decide +kernel
theorem dX5_advanceAll_5 : decode cX5_advanceAll 5 = .ok (.invokestatic 105, 3) := by decide +kernel
theorem dX5_advanceAll_8 : decode cX5_advanceAll 8 = .ok (.istore_n 3, 1) := by decide +kernel
theorem dX5_advanceAll_9 : decode cX5_advanceAll 9 = .ok (.iload_n 3, 1) := by decide +kernel
theorem dX5_advanceAll_10 : decode cX5_advanceAll 10 = .ok (.ifCond .lt 66, 3) := by decide +kernel
theorem dX5_advanceAll_13 : decode cX5_advanceAll 13 = .ok (.aload_n 0, 1) := by decide +kernel
theorem dX5_advanceAll_14 : decode cX5_advanceAll 14 = .ok (.getfield 48, 3) := by decide +kernel
theorem dX5_advanceAll_17 : decode cX5_advanceAll 17 = .ok (.iload_n 2, 1) := by decide +kernel
theorem dX5_advanceAll_18 : decode cX5_advanceAll 18 = .ok (.invokestatic 105, 3) := by decide +kernel
theorem dX5_advanceAll_21 : decode cX5_advanceAll 21 = .ok (.istore 4, 2) := by decide +kernel
theorem dX5_advanceAll_23 : decode cX5_advanceAll 23 = .ok (.iload 4, 2) := by decide +kernel
theorem dX5_advanceAll_25 : decode cX5_advanceAll 25 = .ok (.ifCond .lt 45, 3) := by decide +kernel
theorem dX5_advanceAll_28 : decode cX5_advanceAll 28 = .ok (.aload_n 0, 1) := by decide +kernel
theorem dX5_advanceAll_29 : decode cX5_advanceAll 29 = .ok (.aload_n 0, 1) := by decide +kernel
theorem dX5_advanceAll_30 : decode cX5_advanceAll 30 = .ok (.iload_n 3, 1) := by decide +kernel
theorem dX5_advanceAll_31 : decode cX5_advanceAll 31 = .ok (.iload 4, 2) := by decide +kernel
theorem dX5_advanceAll_33 : decode cX5_advanceAll 33 = .ok (.invokevirtual 111, 3) := by decide +kernel
theorem dX5_advanceAll_36 : decode cX5_advanceAll 36 = .ok (.invokevirtual 114, 3) := by decide +kernel
theorem dX5_advanceAll_39 : decode cX5_advanceAll 39 = .ok (.aload_n 0, 1) := by decide +kernel
theorem dX5_advanceAll_40 : decode cX5_advanceAll 40 = .ok (.iload_n 3, 1) := by decide +kernel
theorem dX5_advanceAll_41 : decode cX5_advanceAll 41 = .ok (.iload 4, 2) := by decide +kernel
theorem dX5_advanceAll_43 : decode cX5_advanceAll 43 = .ok (.iload_n 2, 1) := by decide +kernel
theorem dX5_advanceAll_44 : decode cX5_advanceAll 44 = .ok (.invokevirtual 57, 3) := by decide +kernel
theorem dX5_advanceAll_47 : decode cX5_advanceAll 47 = .ok (.aload_n 1, 1) := by decide +kernel
theorem dX5_advanceAll_48 : decode cX5_advanceAll 48 = .ok (.aload_n 0, 1) := by decide +kernel
theorem dX5_advanceAll_49 : decode cX5_advanceAll 49 = .ok (.getfield 32, 3) := by decide +kernel
theorem dX5_advanceAll_52 : decode cX5_advanceAll 52 = .ok (.aload_n 0, 1) := by decide +kernel
theorem dX5_advanceAll_53 : decode cX5_advanceAll 53 = .ok (.getfield 28, 3) := by decide +kernel
theorem dX5_advanceAll_56 : decode cX5_advanceAll 56 = .ok (.iload_n 2, 1) := by decide +kernel
theorem dX5_advanceAll_57 : decode cX5_advanceAll 57 = .ok (.aload_n 0, 1) := by decide +kernel
theorem dX5_advanceAll_58 : decode cX5_advanceAll 58 = .ok (.getfield 24, 3) := by decide +kernel
theorem dX5_advanceAll_61 : decode cX5_advanceAll 61 = .ok (.invokevirtual 118, 3) := by decide +kernel
theorem dX5_advanceAll_64 : decode cX5_advanceAll 64 = .ok (.iinc 4 (-1), 3) := by decide +kernel
theorem dX5_advanceAll_67 : decode cX5_advanceAll 67 = .ok (.goto (-44), 3) := by decide +kernel
theorem dX5_advanceAll_70 : decode cX5_advanceAll 70 = .ok (.iinc 3 (-1), 3) := by decide +kernel
theorem dX5_advanceAll_73 : decode cX5_advanceAll 73 = .ok (.goto (-64), 3) := by decide +kernel
theorem dX5_advanceAll_76 : decode cX5_advanceAll 76 = .ok (.return_, 1) := by decide +kernel
theorem dX5_lift_0 : decode cX5_lift 0 = .ok (.iload_n 1, 1) := by decide +kernel
theorem dX5_lift_1 : decode cX5_lift 1 = .ok (.bipush 96, 2) := by decide +kernel
theorem dX5_lift_3 : decode cX5_lift 3 = .ok (.imul, 1) := by decide +kernel
theorem dX5_lift_4 : decode cX5_lift 4 = .ok (.istore_n 2, 1) := by decide +kernel
theorem dX5_lift_5 : decode cX5_lift 5 = .ok (.aload_n 0, 1) := by decide +kernel
theorem dX5_lift_6 : decode cX5_lift 6 = .ok (.getfield 28, 3) := by decide +kernel
theorem dX5_lift_9 : decode cX5_lift 9 = .ok (.iload_n 2, 1) := by decide +kernel
theorem dX5_lift_10 : decode cX5_lift 10 = .ok (.aload_n 0, 1) := by decide +kernel
theorem dX5_lift_11 : decode cX5_lift 11 = .ok (.getfield 32, 3) := by decide +kernel
theorem dX5_lift_14 : decode cX5_lift 14 = .ok (.iconst 0, 1) := by decide +kernel
theorem dX5_lift_15 : decode cX5_lift 15 = .ok (.bipush 96, 2) := by decide +kernel
theorem dX5_lift_17 : decode cX5_lift 17 = .ok (.invokestatic 122, 3) := by decide +kernel
theorem dX5_lift_20 : decode cX5_lift 20 = .ok (.aload_n 0, 1) := by decide +kernel
theorem dX5_lift_21 : decode cX5_lift 21 = .ok (.getfield 28, 3) := by decide +kernel
theorem dX5_lift_24 : decode cX5_lift 24 = .ok (.iload_n 2, 1) := by decide +kernel
theorem dX5_lift_25 : decode cX5_lift 25 = .ok (.iload_n 2, 1) := by decide +kernel
theorem dX5_lift_26 : decode cX5_lift 26 = .ok (.bipush 96, 2) := by decide +kernel
theorem dX5_lift_28 : decode cX5_lift 28 = .ok (.iadd, 1) := by decide +kernel
theorem dX5_lift_29 : decode cX5_lift 29 = .ok (.lconst 0, 1) := by decide +kernel
theorem dX5_lift_30 : decode cX5_lift 30 = .ok (.invokestatic 51, 3) := by decide +kernel
theorem dX5_lift_33 : decode cX5_lift 33 = .ok (.return_, 1) := by decide +kernel
theorem dX5_tellMarks_0 : decode cX5_tellMarks 0 = .ok (.iload_n 1, 1) := by decide +kernel
theorem dX5_tellMarks_1 : decode cX5_tellMarks 1 = .ok (.aload_n 0, 1) := by decide +kernel
theorem dX5_tellMarks_2 : decode cX5_tellMarks 2 = .ok (.getfield 45, 3) := by decide +kernel
theorem dX5_tellMarks_5 : decode cX5_tellMarks 5 = .ok (.if_icmp .ge 16, 3) := by decide +kernel
theorem dX5_tellMarks_8 : decode cX5_tellMarks 8 = .ok (.aload_n 0, 1) := by decide +kernel
theorem dX5_tellMarks_9 : decode cX5_tellMarks 9 = .ok (.getfield 9, 3) := by decide +kernel
theorem dX5_tellMarks_12 : decode cX5_tellMarks 12 = .ok (.iload_n 3, 1) := by decide +kernel
theorem dX5_tellMarks_13 : decode cX5_tellMarks 13 = .ok (.baload, 1) := by decide +kernel
theorem dX5_tellMarks_14 : decode cX5_tellMarks 14 = .ok (.ifCond .eq 7, 3) := by decide +kernel
theorem dX5_tellMarks_17 : decode cX5_tellMarks 17 = .ok (.iconst 1, 1) := by decide +kernel
theorem dX5_tellMarks_18 : decode cX5_tellMarks 18 = .ok (.goto 4, 3) := by decide +kernel
theorem dX5_tellMarks_21 : decode cX5_tellMarks 21 = .ok (.iconst 0, 1) := by decide +kernel
theorem dX5_tellMarks_22 : decode cX5_tellMarks 22 = .ok (.istore 4, 2) := by decide +kernel
theorem dX5_tellMarks_24 : decode cX5_tellMarks 24 = .ok (.iload_n 2, 1) := by decide +kernel
theorem dX5_tellMarks_25 : decode cX5_tellMarks 25 = .ok (.aload_n 0, 1) := by decide +kernel
theorem dX5_tellMarks_26 : decode cX5_tellMarks 26 = .ok (.getfield 48, 3) := by decide +kernel
theorem dX5_tellMarks_29 : decode cX5_tellMarks 29 = .ok (.if_icmp .ge 16, 3) := by decide +kernel
theorem dX5_tellMarks_32 : decode cX5_tellMarks 32 = .ok (.aload_n 0, 1) := by decide +kernel
theorem dX5_tellMarks_33 : decode cX5_tellMarks 33 = .ok (.getfield 15, 3) := by decide +kernel
theorem dX5_tellMarks_36 : decode cX5_tellMarks 36 = .ok (.iload_n 3, 1) := by decide +kernel
theorem dX5_tellMarks_37 : decode cX5_tellMarks 37 = .ok (.baload, 1) := by decide +kernel
theorem dX5_tellMarks_38 : decode cX5_tellMarks 38 = .ok (.ifCond .eq 7, 3) := by decide +kernel
theorem dX5_tellMarks_41 : decode cX5_tellMarks 41 = .ok (.iconst 1, 1) := by decide +kernel
theorem dX5_tellMarks_42 : decode cX5_tellMarks 42 = .ok (.goto 4, 3) := by decide +kernel
theorem dX5_tellMarks_45 : decode cX5_tellMarks 45 = .ok (.iconst 0, 1) := by decide +kernel
theorem dX5_tellMarks_46 : decode cX5_tellMarks 46 = .ok (.istore 5, 2) := by decide +kernel
theorem dX5_tellMarks_48 : decode cX5_tellMarks 48 = .ok (.iconst 0, 1) := by decide +kernel
theorem dX5_tellMarks_49 : decode cX5_tellMarks 49 = .ok (.istore 6, 2) := by decide +kernel
theorem dX5_tellMarks_51 : decode cX5_tellMarks 51 = .ok (.iload 6, 2) := by decide +kernel
theorem dX5_tellMarks_53 : decode cX5_tellMarks 53 = .ok (.bipush 24, 2) := by decide +kernel
theorem dX5_tellMarks_55 : decode cX5_tellMarks 55 = .ok (.if_icmp .ge 72, 3) := by decide +kernel
theorem dX5_tellMarks_58 : decode cX5_tellMarks 58 = .ok (.iload 4, 2) := by decide +kernel
theorem dX5_tellMarks_60 : decode cX5_tellMarks 60 = .ok (.ifCond .eq 17, 3) := by decide +kernel
theorem dX5_tellMarks_63 : decode cX5_tellMarks 63 = .ok (.aload_n 0, 1) := by decide +kernel
theorem dX5_tellMarks_64 : decode cX5_tellMarks 64 = .ok (.getfield 18, 3) := by decide +kernel
theorem dX5_tellMarks_67 : decode cX5_tellMarks 67 = .ok (.iload 6, 2) := by decide +kernel
theorem dX5_tellMarks_69 : decode cX5_tellMarks 69 = .ok (.baload, 1) := by decide +kernel
theorem dX5_tellMarks_70 : decode cX5_tellMarks 70 = .ok (.ifCond .eq 7, 3) := by decide +kernel
theorem dX5_tellMarks_73 : decode cX5_tellMarks 73 = .ok (.iconst 1, 1) := by decide +kernel
theorem dX5_tellMarks_74 : decode cX5_tellMarks 74 = .ok (.goto 4, 3) := by decide +kernel
theorem dX5_tellMarks_77 : decode cX5_tellMarks 77 = .ok (.iconst 0, 1) := by decide +kernel
theorem dX5_tellMarks_78 : decode cX5_tellMarks 78 = .ok (.istore 7, 2) := by decide +kernel
theorem dX5_tellMarks_80 : decode cX5_tellMarks 80 = .ok (.iload 5, 2) := by decide +kernel
theorem dX5_tellMarks_82 : decode cX5_tellMarks 82 = .ok (.ifCond .eq 17, 3) := by decide +kernel
theorem dX5_tellMarks_85 : decode cX5_tellMarks 85 = .ok (.aload_n 0, 1) := by decide +kernel
theorem dX5_tellMarks_86 : decode cX5_tellMarks 86 = .ok (.getfield 21, 3) := by decide +kernel
theorem dX5_tellMarks_89 : decode cX5_tellMarks 89 = .ok (.iload 6, 2) := by decide +kernel
theorem dX5_tellMarks_91 : decode cX5_tellMarks 91 = .ok (.baload, 1) := by decide +kernel
theorem dX5_tellMarks_92 : decode cX5_tellMarks 92 = .ok (.ifCond .eq 7, 3) := by decide +kernel
theorem dX5_tellMarks_95 : decode cX5_tellMarks 95 = .ok (.iconst 1, 1) := by decide +kernel
theorem dX5_tellMarks_96 : decode cX5_tellMarks 96 = .ok (.goto 4, 3) := by decide +kernel
theorem dX5_tellMarks_99 : decode cX5_tellMarks 99 = .ok (.iconst 0, 1) := by decide +kernel
theorem dX5_tellMarks_100 : decode cX5_tellMarks 100 = .ok (.istore 8, 2) := by decide +kernel
theorem dX5_tellMarks_102 : decode cX5_tellMarks 102 = .ok (.aload_n 0, 1) := by decide +kernel
theorem dX5_tellMarks_103 : decode cX5_tellMarks 103 = .ok (.getfield 24, 3) := by decide +kernel
theorem dX5_tellMarks_106 : decode cX5_tellMarks 106 = .ok (.iload 6, 2) := by decide +kernel
theorem dX5_tellMarks_108 : decode cX5_tellMarks 108 = .ok (.aload_n 0, 1) := by decide +kernel
theorem dX5_tellMarks_109 : decode cX5_tellMarks 109 = .ok (.iload_n 1, 1) := by decide +kernel
theorem dX5_tellMarks_110 : decode cX5_tellMarks 110 = .ok (.iload 7, 2) := by decide +kernel
theorem dX5_tellMarks_112 : decode cX5_tellMarks 112 = .ok (.iadd, 1) := by decide +kernel
theorem dX5_tellMarks_113 : decode cX5_tellMarks 113 = .ok (.iload_n 2, 1) := by decide +kernel
theorem dX5_tellMarks_114 : decode cX5_tellMarks 114 = .ok (.iload 8, 2) := by decide +kernel
theorem dX5_tellMarks_116 : decode cX5_tellMarks 116 = .ok (.iadd, 1) := by decide +kernel
theorem dX5_tellMarks_117 : decode cX5_tellMarks 117 = .ok (.invokevirtual 111, 3) := by decide +kernel
theorem dX5_tellMarks_120 : decode cX5_tellMarks 120 = .ok (.iastore, 1) := by decide +kernel
theorem dX5_tellMarks_121 : decode cX5_tellMarks 121 = .ok (.iinc 6 1, 3) := by decide +kernel
theorem dX5_tellMarks_124 : decode cX5_tellMarks 124 = .ok (.goto (-73), 3) := by decide +kernel
theorem dX5_tellMarks_127 : decode cX5_tellMarks 127 = .ok (.return_, 1) := by decide +kernel
theorem dX5_markOf_0 : decode cX5_markOf 0 = .ok (.iload_n 1, 1) := by decide +kernel
theorem dX5_markOf_1 : decode cX5_markOf 1 = .ok (.aload_n 0, 1) := by decide +kernel
theorem dX5_markOf_2 : decode cX5_markOf 2 = .ok (.getfield 48, 3) := by decide +kernel
theorem dX5_markOf_5 : decode cX5_markOf 5 = .ok (.iconst 1, 1) := by decide +kernel
theorem dX5_markOf_6 : decode cX5_markOf 6 = .ok (.iadd, 1) := by decide +kernel
theorem dX5_markOf_7 : decode cX5_markOf 7 = .ok (.imul, 1) := by decide +kernel
theorem dX5_markOf_8 : decode cX5_markOf 8 = .ok (.iload_n 2, 1) := by decide +kernel
theorem dX5_markOf_9 : decode cX5_markOf 9 = .ok (.iadd, 1) := by decide +kernel
theorem dX5_markOf_10 : decode cX5_markOf 10 = .ok (.ireturn, 1) := by decide +kernel
theorem dX5_sumSo_0 : decode cX5_sumSo 0 = .ok (.lconst 0, 1) := by decide +kernel
theorem dX5_sumSo_1 : decode cX5_sumSo 1 = .ok (.lstore_n 2, 1) := by decide +kernel
theorem dX5_sumSo_2 : decode cX5_sumSo 2 = .ok (.iconst 0, 1) := by decide +kernel
theorem dX5_sumSo_3 : decode cX5_sumSo 3 = .ok (.istore 4, 2) := by decide +kernel
theorem dX5_sumSo_5 : decode cX5_sumSo 5 = .ok (.iload 4, 2) := by decide +kernel
theorem dX5_sumSo_7 : decode cX5_sumSo 7 = .ok (.aload_n 0, 1) := by decide +kernel
theorem dX5_sumSo_8 : decode cX5_sumSo 8 = .ok (.getfield 45, 3) := by decide +kernel
theorem dX5_sumSo_11 : decode cX5_sumSo 11 = .ok (.if_icmp .gt 84, 3) := by decide +kernel
theorem dX5_sumSo_14 : decode cX5_sumSo 14 = .ok (.iconst 0, 1) := by decide +kernel
theorem dX5_sumSo_15 : decode cX5_sumSo 15 = .ok (.istore 5, 2) := by decide +kernel
theorem dX5_sumSo_17 : decode cX5_sumSo 17 = .ok (.iload 5, 2) := by decide +kernel
theorem dX5_sumSo_19 : decode cX5_sumSo 19 = .ok (.aload_n 0, 1) := by decide +kernel
theorem dX5_sumSo_20 : decode cX5_sumSo 20 = .ok (.getfield 48, 3) := by decide +kernel
theorem dX5_sumSo_23 : decode cX5_sumSo 23 = .ok (.if_icmp .gt 66, 3) := by decide +kernel
theorem dX5_sumSo_26 : decode cX5_sumSo 26 = .ok (.aload_n 0, 1) := by decide +kernel
theorem dX5_sumSo_27 : decode cX5_sumSo 27 = .ok (.iload 4, 2) := by decide +kernel
theorem dX5_sumSo_29 : decode cX5_sumSo 29 = .ok (.iload 5, 2) := by decide +kernel
theorem dX5_sumSo_31 : decode cX5_sumSo 31 = .ok (.invokevirtual 111, 3) := by decide +kernel
theorem dX5_sumSo_34 : decode cX5_sumSo 34 = .ok (.bipush 96, 2) := by decide +kernel
theorem dX5_sumSo_36 : decode cX5_sumSo 36 = .ok (.imul, 1) := by decide +kernel
theorem dX5_sumSo_37 : decode cX5_sumSo 37 = .ok (.istore 6, 2) := by decide +kernel
theorem dX5_sumSo_39 : decode cX5_sumSo 39 = .ok (.aload_n 1, 1) := by decide +kernel
theorem dX5_sumSo_40 : decode cX5_sumSo 40 = .ok (.iload 4, 2) := by decide +kernel
theorem dX5_sumSo_42 : decode cX5_sumSo 42 = .ok (.iload 5, 2) := by decide +kernel
theorem dX5_sumSo_44 : decode cX5_sumSo 44 = .ok (.invokevirtual 128, 3) := by decide +kernel
theorem dX5_sumSo_47 : decode cX5_sumSo 47 = .ok (.istore 7, 2) := by decide +kernel
theorem dX5_sumSo_49 : decode cX5_sumSo 49 = .ok (.iconst 0, 1) := by decide +kernel
theorem dX5_sumSo_50 : decode cX5_sumSo 50 = .ok (.istore 8, 2) := by decide +kernel
theorem dX5_sumSo_52 : decode cX5_sumSo 52 = .ok (.iload 8, 2) := by decide +kernel
theorem dX5_sumSo_54 : decode cX5_sumSo 54 = .ok (.bipush 96, 2) := by decide +kernel
theorem dX5_sumSo_56 : decode cX5_sumSo 56 = .ok (.if_icmp .ge 27, 3) := by decide +kernel
theorem dX5_sumSo_59 : decode cX5_sumSo 59 = .ok (.iload 7, 2) := by decide +kernel
theorem dX5_sumSo_61 : decode cX5_sumSo 61 = .ok (.ifCond .eq 22, 3) := by decide +kernel
theorem dX5_sumSo_64 : decode cX5_sumSo 64 = .ok (.lload_n 2, 1) := by decide +kernel
theorem dX5_sumSo_65 : decode cX5_sumSo 65 = .ok (.aload_n 0, 1) := by decide +kernel
theorem dX5_sumSo_66 : decode cX5_sumSo 66 = .ok (.getfield 28, 3) := by decide +kernel
theorem dX5_sumSo_69 : decode cX5_sumSo 69 = .ok (.iload 6, 2) := by decide +kernel
theorem dX5_sumSo_71 : decode cX5_sumSo 71 = .ok (.iload 8, 2) := by decide +kernel
theorem dX5_sumSo_73 : decode cX5_sumSo 73 = .ok (.iadd, 1) := by decide +kernel
theorem dX5_sumSo_74 : decode cX5_sumSo 74 = .ok (.laload, 1) := by decide +kernel
theorem dX5_sumSo_75 : decode cX5_sumSo 75 = .ok (.ladd, 1) := by decide +kernel
theorem dX5_sumSo_76 : decode cX5_sumSo 76 = .ok (.lstore_n 2, 1) := by decide +kernel
theorem dX5_sumSo_77 : decode cX5_sumSo 77 = .ok (.iinc 8 1, 3) := by decide +kernel
theorem dX5_sumSo_80 : decode cX5_sumSo 80 = .ok (.goto (-28), 3) := by decide +kernel
theorem dX5_sumSo_83 : decode cX5_sumSo 83 = .ok (.iinc 5 1, 3) := by decide +kernel
theorem dX5_sumSo_86 : decode cX5_sumSo 86 = .ok (.goto (-69), 3) := by decide +kernel
theorem dX5_sumSo_89 : decode cX5_sumSo 89 = .ok (.iinc 4 1, 3) := by decide +kernel
theorem dX5_sumSo_92 : decode cX5_sumSo 92 = .ok (.goto (-87), 3) := by decide +kernel
theorem dX5_sumSo_95 : decode cX5_sumSo 95 = .ok (.lload_n 2, 1) := by decide +kernel
theorem dX5_sumSo_96 : decode cX5_sumSo 96 = .ok (.lreturn, 1) := by decide +kernel
theorem dX6_init_0 : decode cX6_init 0 = .ok (.aload_n 0, 1) := by decide +kernel
theorem dX6_init_1 : decode cX6_init 1 = .ok (.invokespecial 3, 3) := by decide +kernel
theorem dX6_init_4 : decode cX6_init 4 = .ok (.aload_n 0, 1) := by decide +kernel
theorem dX6_init_5 : decode cX6_init 5 = .ok (.bipush 80, 2) := by decide +kernel
theorem dX6_init_7 : decode cX6_init 7 = .ok (.newarray .int, 2) := by decide +kernel
theorem dX6_init_9 : decode cX6_init 9 = .ok (.putfield 9, 3) := by decide +kernel
theorem dX6_init_12 : decode cX6_init 12 = .ok (.return_, 1) := by decide +kernel
theorem dX6_readLaw_0 : decode cX6_readLaw 0 = .ok (.aload_n 0, 1) := by decide +kernel
theorem dX6_readLaw_1 : decode cX6_readLaw 1 = .ok (.iconst 0, 1) := by decide +kernel
theorem dX6_readLaw_2 : decode cX6_readLaw 2 = .ok (.putfield 15, 3) := by decide +kernel
theorem dX6_readLaw_5 : decode cX6_readLaw 5 = .ok (.iconst 1, 1) := by decide +kernel
theorem dX6_readLaw_6 : decode cX6_readLaw 6 = .ok (.istore_n 2, 1) := by decide +kernel
theorem dX6_readLaw_7 : decode cX6_readLaw 7 = .ok (.iconst 0, 1) := by decide +kernel
theorem dX6_readLaw_8 : decode cX6_readLaw 8 = .ok (.istore_n 3, 1) := by decide +kernel
theorem dX6_readLaw_9 : decode cX6_readLaw 9 = .ok (.iload_n 3, 1) := by decide +kernel
theorem dX6_readLaw_10 : decode cX6_readLaw 10 = .ok (.bipush 6, 2) := by decide +kernel
theorem dX6_readLaw_12 : decode cX6_readLaw 12 = .ok (.if_icmp .ge 58, 3) := by decide +kernel
theorem dX6_readLaw_15 : decode cX6_readLaw 15 = .ok (.iload_n 2, 1) := by decide +kernel
theorem dX6_readLaw_16 : decode cX6_readLaw 16 = .ok (.ifCond .eq 54, 3) := by decide +kernel
theorem dX6_readLaw_19 : decode cX6_readLaw 19 = .ok (.aload_n 0, 1) := by decide +kernel
theorem dX6_readLaw_20 : decode cX6_readLaw 20 = .ok (.aload_n 1, 1) := by decide +kernel
theorem dX6_readLaw_21 : decode cX6_readLaw 21 = .ok (.iload_n 3, 1) := by decide +kernel
theorem dX6_readLaw_22 : decode cX6_readLaw 22 = .ok (.invokevirtual 19, 3) := by decide +kernel
theorem dX6_readLaw_25 : decode cX6_readLaw 25 = .ok (.ifCond .ne 8, 3) := by decide +kernel
theorem dX6_readLaw_28 : decode cX6_readLaw 28 = .ok (.aload_n 0, 1) := by decide +kernel
theorem dX6_readLaw_29 : decode cX6_readLaw 29 = .ok (.getfield 23, 3) := by decide +kernel
theorem dX6_readLaw_32 : decode cX6_readLaw 32 = .ok (.ireturn, 1) := by decide +kernel
theorem dX6_readLaw_33 : decode cX6_readLaw 33 = .ok (.aload_n 1, 1) := by decide +kernel
theorem dX6_readLaw_34 : decode cX6_readLaw 34 = .ok (.iload_n 3, 1) := by decide +kernel
theorem dX6_readLaw_35 : decode cX6_readLaw 35 = .ok (.iconst 1, 1) := by decide +kernel
theorem dX6_readLaw_36 : decode cX6_readLaw 36 = .ok (.iadd, 1) := by decide +kernel
theorem dX6_readLaw_37 : decode cX6_readLaw 37 = .ok (.putfield 26, 3) := by decide +kernel
theorem dX6_readLaw_40 : decode cX6_readLaw 40 = .ok (.aload_n 1, 1) := by decide +kernel
theorem dX6_readLaw_41 : decode cX6_readLaw 41 = .ok (.getfield 26, 3) := by decide +kernel
theorem dX6_readLaw_44 : decode cX6_readLaw 44 = .ok (.bipush 6, 2) := by decide +kernel
theorem dX6_readLaw_46 : decode cX6_readLaw 46 = .ok (.if_icmp .ge 16, 3) := by decide +kernel
theorem dX6_readLaw_49 : decode cX6_readLaw 49 = .ok (.aload_n 0, 1) := by decide +kernel
theorem dX6_readLaw_50 : decode cX6_readLaw 50 = .ok (.bipush 59, 2) := by decide +kernel
theorem dX6_readLaw_52 : decode cX6_readLaw 52 = .ok (.invokevirtual 31, 3) := by decide +kernel
theorem dX6_readLaw_55 : decode cX6_readLaw 55 = .ok (.ifCond .eq 7, 3) := by decide +kernel
theorem dX6_readLaw_58 : decode cX6_readLaw 58 = .ok (.iconst 1, 1) := by decide +kernel
theorem dX6_readLaw_59 : decode cX6_readLaw 59 = .ok (.goto 4, 3) := by decide +kernel
theorem dX6_readLaw_62 : decode cX6_readLaw 62 = .ok (.iconst 0, 1) := by decide +kernel
theorem dX6_readLaw_63 : decode cX6_readLaw 63 = .ok (.istore_n 2, 1) := by decide +kernel
theorem dX6_readLaw_64 : decode cX6_readLaw 64 = .ok (.iinc 3 1, 3) := by decide +kernel
theorem dX6_readLaw_67 : decode cX6_readLaw 67 = .ok (.goto (-58), 3) := by decide +kernel
theorem dX6_readLaw_70 : decode cX6_readLaw 70 = .ok (.aload_n 0, 1) := by decide +kernel
theorem dX6_readLaw_71 : decode cX6_readLaw 71 = .ok (.invokevirtual 35, 3) := by decide +kernel
theorem dX6_readLaw_74 : decode cX6_readLaw 74 = .ok (.iconst (-1), 1) := by decide +kernel
theorem dX6_readLaw_75 : decode cX6_readLaw 75 = .ok (.if_icmp .eq 14, 3) := by decide +kernel
theorem dX6_readLaw_78 : decode cX6_readLaw 78 = .ok (.aload_n 0, 1) := by decide +kernel
theorem dX6_readLaw_79 : decode cX6_readLaw 79 = .ok (.aload_n 0, 1) := by decide +kernel
theorem dX6_readLaw_80 : decode cX6_readLaw 80 = .ok (.getfield 15, 3) := by decide +kernel
theorem dX6_readLaw_83 : decode cX6_readLaw 83 = .ok (.invokevirtual 39, 3) := by decide +kernel
theorem dX6_readLaw_86 : decode cX6_readLaw 86 = .ok (.ifCond .eq 7, 3) := by decide +kernel
theorem dX6_readLaw_89 : decode cX6_readLaw 89 = .ok (.iconst 0, 1) := by decide +kernel
theorem dX6_readLaw_90 : decode cX6_readLaw 90 = .ok (.goto 7, 3) := by decide +kernel
theorem dX6_readLaw_93 : decode cX6_readLaw 93 = .ok (.aload_n 0, 1) := by decide +kernel
theorem dX6_readLaw_94 : decode cX6_readLaw 94 = .ok (.getfield 23, 3) := by decide +kernel
theorem dX6_readLaw_97 : decode cX6_readLaw 97 = .ok (.ireturn, 1) := by decide +kernel
theorem dX6_readClause_0 : decode cX6_readClause 0 = .ok (.aload_n 1, 1) := by decide +kernel
theorem dX6_readClause_1 : decode cX6_readClause 1 = .ok (.getfield 42, 3) := by decide +kernel
theorem dX6_readClause_4 : decode cX6_readClause 4 = .ok (.iload_n 2, 1) := by decide +kernel
theorem dX6_readClause_5 : decode cX6_readClause 5 = .ok (.iconst 0, 1) := by decide +kernel
theorem dX6_readClause_6 : decode cX6_readClause 6 = .ok (.iastore, 1) := by decide +kernel
theorem dX6_readClause_7 : decode cX6_readClause 7 = .ok (.aload_n 0, 1) := by decide +kernel
theorem dX6_readClause_8 : decode cX6_readClause 8 = .ok (.bipush 42, 2) := by decide +kernel
theorem dX6_readClause_10 : decode cX6_readClause 10 = .ok (.invokevirtual 31, 3) := by decide +kernel
theorem dX6_readClause_13 : decode cX6_readClause 13 = .ok (.ifCond .ne 14, 3) := by decide +kernel
theorem dX6_readClause_16 : decode cX6_readClause 16 = .ok (.aload_n 0, 1) := by decide +kernel
theorem dX6_readClause_17 : decode cX6_readClause 17 = .ok (.aload_n 1, 1) := by decide +kernel
theorem dX6_readClause_18 : decode cX6_readClause 18 = .ok (.iload_n 2, 1) := by decide +kernel
theorem dX6_readClause_19 : decode cX6_readClause 19 = .ok (.invokevirtual 45, 3) := by decide +kernel
theorem dX6_readClause_22 : decode cX6_readClause 22 = .ok (.ifCond .ne 5, 3) := by decide +kernel
theorem dX6_readClause_25 : decode cX6_readClause 25 = .ok (.iconst 0, 1) := by decide +kernel
theorem dX6_readClause_26 : decode cX6_readClause 26 = .ok (.ireturn, 1) := by decide +kernel
theorem dX6_readClause_27 : decode cX6_readClause 27 = .ok (.aload_n 0, 1) := by decide +kernel
theorem dX6_readClause_28 : decode cX6_readClause 28 = .ok (.bipush 58, 2) := by decide +kernel
theorem dX6_readClause_30 : decode cX6_readClause 30 = .ok (.invokevirtual 48, 3) := by decide +kernel
theorem dX6_readClause_33 : decode cX6_readClause 33 = .ok (.ifCond .ne 5, 3) := by decide +kernel
theorem dX6_readClause_36 : decode cX6_readClause 36 = .ok (.iconst 0, 1) := by decide +kernel
theorem dX6_readClause_37 : decode cX6_readClause 37 = .ok (.ireturn, 1) := by decide +kernel
theorem dX6_readClause_38 : decode cX6_readClause 38 = .ok (.aload_n 0, 1) := by decide +kernel
theorem dX6_readClause_39 : decode cX6_readClause 39 = .ok (.invokevirtual 35, 3) := by decide +kernel
theorem dX6_readClause_42 : decode cX6_readClause 42 = .ok (.istore_n 3, 1) := by decide +kernel
theorem dX6_readClause_43 : decode cX6_readClause 43 = .ok (.iload_n 3, 1) := by decide +kernel
theorem dX6_readClause_44 : decode cX6_readClause 44 = .ok (.bipush 48, 2) := by decide +kernel
theorem dX6_readClause_46 : decode cX6_readClause 46 = .ok (.bipush 52, 2) := by decide +kernel
theorem dX6_readClause_48 : decode cX6_readClause 48 = .ok (.invokestatic 51, 3) := by decide +kernel
theorem dX6_readClause_51 : decode cX6_readClause 51 = .ok (.ifCond .ne 12, 3) := by decide +kernel
theorem dX6_readClause_54 : decode cX6_readClause 54 = .ok (.aload_n 0, 1) := by decide +kernel
theorem dX6_readClause_55 : decode cX6_readClause 55 = .ok (.aload_n 0, 1) := by decide +kernel
theorem dX6_readClause_56 : decode cX6_readClause 56 = .ok (.getfield 15, 3) := by decide +kernel
theorem dX6_readClause_59 : decode cX6_readClause 59 = .ok (.invokevirtual 39, 3) := by decide +kernel
theorem dX6_readClause_62 : decode cX6_readClause 62 = .ok (.ireturn, 1) := by decide +kernel
theorem dX6_readClause_63 : decode cX6_readClause 63 = .ok (.aload_n 1, 1) := by decide +kernel
theorem dX6_readClause_64 : decode cX6_readClause 64 = .ok (.getfield 55, 3) := by decide +kernel
theorem dX6_readClause_67 : decode cX6_readClause 67 = .ok (.iload_n 2, 1) := by decide +kernel
theorem dX6_readClause_68 : decode cX6_readClause 68 = .ok (.iload_n 3, 1) := by decide +kernel
theorem dX6_readClause_69 : decode cX6_readClause 69 = .ok (.bipush 48, 2) := by decide +kernel
theorem dX6_readClause_71 : decode cX6_readClause 71 = .ok (.isub, 1) := by decide +kernel
theorem dX6_readClause_72 : decode cX6_readClause 72 = .ok (.iastore, 1) := by decide +kernel
theorem dX6_readClause_73 : decode cX6_readClause 73 = .ok (.aload_n 0, 1) := by decide +kernel
theorem dX6_readClause_74 : decode cX6_readClause 74 = .ok (.dup, 1) := by decide +kernel
theorem dX6_readClause_75 : decode cX6_readClause 75 = .ok (.getfield 15, 3) := by decide +kernel
theorem dX6_readClause_78 : decode cX6_readClause 78 = .ok (.iconst 1, 1) := by decide +kernel
theorem dX6_readClause_79 : decode cX6_readClause 79 = .ok (.iadd, 1) := by decide +kernel
theorem dX6_readClause_80 : decode cX6_readClause 80 = .ok (.putfield 15, 3) := by decide +kernel
theorem dX6_readClause_83 : decode cX6_readClause 83 = .ok (.iconst 1, 1) := by decide +kernel
theorem dX6_readClause_84 : decode cX6_readClause 84 = .ok (.ireturn, 1) := by decide +kernel
theorem dX6_readConditions_0 : decode cX6_readConditions 0 = .ok (.iconst 1, 1) := by decide +kernel
theorem dX6_readConditions_1 : decode cX6_readConditions 1 = .ok (.istore_n 3, 1) := by decide +kernel
theorem dX6_readConditions_2 : decode cX6_readConditions 2 = .ok (.iconst 0, 1) := by decide +kernel
theorem dX6_readConditions_3 : decode cX6_readConditions 3 = .ok (.istore 4, 2) := by decide +kernel
theorem dX6_readConditions_5 : decode cX6_readConditions 5 = .ok (.iload 4, 2) := by decide +kernel
theorem dX6_readConditions_7 : decode cX6_readConditions 7 = .ok (.iconst 3, 1) := by decide +kernel
theorem dX6_readConditions_8 : decode cX6_readConditions 8 = .ok (.if_icmp .ge 174, 3) := by decide +kernel
theorem dX6_readConditions_11 : decode cX6_readConditions 11 = .ok (.iload_n 3, 1) := by decide +kernel
theorem dX6_readConditions_12 : decode cX6_readConditions 12 = .ok (.ifCond .eq 170, 3) := by decide +kernel
theorem dX6_readConditions_15 : decode cX6_readConditions 15 = .ok (.iload_n 2, 1) := by decide +kernel
theorem dX6_readConditions_16 : decode cX6_readConditions 16 = .ok (.iconst 3, 1) := by decide +kernel
theorem dX6_readConditions_17 : decode cX6_readConditions 17 = .ok (.imul, 1) := by decide +kernel
theorem dX6_readConditions_18 : decode cX6_readConditions 18 = .ok (.iload 4, 2) := by decide +kernel
theorem dX6_readConditions_20 : decode cX6_readConditions 20 = .ok (.iadd, 1) := by decide +kernel
theorem dX6_readConditions_21 : decode cX6_readConditions 21 = .ok (.istore 5, 2) := by decide +kernel
theorem dX6_readConditions_23 : decode cX6_readConditions 23 = .ok (.aload_n 1, 1) := by decide +kernel
theorem dX6_readConditions_24 : decode cX6_readConditions 24 = .ok (.getfield 58, 3) := by decide +kernel
theorem dX6_readConditions_27 : decode cX6_readConditions 27 = .ok (.iload 5, 2) := by decide +kernel
theorem dX6_readConditions_29 : decode cX6_readConditions 29 = .ok (.aload_n 0, 1) := by decide +kernel
theorem dX6_readConditions_30 : decode cX6_readConditions 30 = .ok (.invokevirtual 35, 3) := by decide +kernel
theorem dX6_readConditions_33 : decode cX6_readConditions 33 = .ok (.iastore, 1) := by decide +kernel
theorem dX6_readConditions_34 : decode cX6_readConditions 34 = .ok (.aload_n 0, 1) := by decide +kernel
theorem dX6_readConditions_35 : decode cX6_readConditions 35 = .ok (.bipush 97, 2) := by decide +kernel
theorem dX6_readConditions_37 : decode cX6_readConditions 37 = .ok (.invokevirtual 31, 3) := by decide +kernel
theorem dX6_readConditions_40 : decode cX6_readConditions 40 = .ok (.ifCond .ne 30, 3) := by decide +kernel
theorem dX6_readConditions_43 : decode cX6_readConditions 43 = .ok (.aload_n 0, 1) := by decide +kernel
theorem dX6_readConditions_44 : decode cX6_readConditions 44 = .ok (.bipush 104, 2) := by decide +kernel
theorem dX6_readConditions_46 : decode cX6_readConditions 46 = .ok (.invokevirtual 31, 3) := by decide +kernel
theorem dX6_readConditions_49 : decode cX6_readConditions 49 = .ok (.ifCond .ne 21, 3) := by decide +kernel
theorem dX6_readConditions_52 : decode cX6_readConditions 52 = .ok (.aload_n 0, 1) := by decide +kernel
theorem dX6_readConditions_53 : decode cX6_readConditions 53 = .ok (.bipush 119, 2) := by decide +kernel
theorem dX6_readConditions_55 : decode cX6_readConditions 55 = .ok (.invokevirtual 31, 3) := by decide +kernel
theorem dX6_readConditions_58 : decode cX6_readConditions 58 = .ok (.ifCond .ne 12, 3) := by decide +kernel
theorem dX6_readConditions_61 : decode cX6_readConditions 61 = .ok (.aload_n 0, 1) := by decide +kernel
theorem dX6_readConditions_62 : decode cX6_readConditions 62 = .ok (.aload_n 0, 1) := by decide +kernel
theorem dX6_readConditions_63 : decode cX6_readConditions 63 = .ok (.getfield 15, 3) := by decide +kernel
theorem dX6_readConditions_66 : decode cX6_readConditions 66 = .ok (.invokevirtual 39, 3) := by decide +kernel
theorem dX6_readConditions_69 : decode cX6_readConditions 69 = .ok (.ireturn, 1) := by decide +kernel
theorem dX6_readConditions_70 : decode cX6_readConditions 70 = .ok (.aload_n 1, 1) := by decide +kernel
theorem dX6_readConditions_71 : decode cX6_readConditions 71 = .ok (.getfield 61, 3) := by decide +kernel
theorem dX6_readConditions_74 : decode cX6_readConditions 74 = .ok (.iload 5, 2) := by decide +kernel
theorem dX6_readConditions_76 : decode cX6_readConditions 76 = .ok (.aload_n 0, 1) := by decide +kernel
theorem dX6_readConditions_77 : decode cX6_readConditions 77 = .ok (.invokevirtual 35, 3) := by decide +kernel
theorem dX6_readConditions_80 : decode cX6_readConditions 80 = .ok (.iastore, 1) := by decide +kernel
theorem dX6_readConditions_81 : decode cX6_readConditions 81 = .ok (.aload_n 0, 1) := by decide +kernel
theorem dX6_readConditions_82 : decode cX6_readConditions 82 = .ok (.bipush 60, 2) := by decide +kernel
theorem dX6_readConditions_84 : decode cX6_readConditions 84 = .ok (.invokevirtual 31, 3) := by decide +kernel
theorem dX6_readConditions_87 : decode cX6_readConditions 87 = .ok (.ifCond .ne 30, 3) := by decide +kernel
theorem dX6_readConditions_90 : decode cX6_readConditions 90 = .ok (.aload_n 0, 1) := by decide +kernel
theorem dX6_readConditions_91 : decode cX6_readConditions 91 = .ok (.bipush 62, 2) := by decide +kernel
theorem dX6_readConditions_93 : decode cX6_readConditions 93 = .ok (.invokevirtual 31, 3) := by decide +kernel
theorem dX6_readConditions_96 : decode cX6_readConditions 96 = .ok (.ifCond .ne 21, 3) := by decide +kernel
theorem dX6_readConditions_99 : decode cX6_readConditions 99 = .ok (.aload_n 0, 1) := by decide +kernel
theorem dX6_readConditions_100 : decode cX6_readConditions 100 = .ok (.bipush 61, 2) := by decide +kernel
theorem dX6_readConditions_102 : decode cX6_readConditions 102 = .ok (.invokevirtual 31, 3) := by decide +kernel
theorem dX6_readConditions_105 : decode cX6_readConditions 105 = .ok (.ifCond .ne 12, 3) := by decide +kernel
theorem dX6_readConditions_108 : decode cX6_readConditions 108 = .ok (.aload_n 0, 1) := by decide +kernel
theorem dX6_readConditions_109 : decode cX6_readConditions 109 = .ok (.aload_n 0, 1) := by decide +kernel
theorem dX6_readConditions_110 : decode cX6_readConditions 110 = .ok (.getfield 15, 3) := by decide +kernel
theorem dX6_readConditions_113 : decode cX6_readConditions 113 = .ok (.invokevirtual 39, 3) := by decide +kernel
theorem dX6_readConditions_116 : decode cX6_readConditions 116 = .ok (.ireturn, 1) := by decide +kernel
theorem dX6_readConditions_117 : decode cX6_readConditions 117 = .ok (.aload_n 1, 1) := by decide +kernel
theorem dX6_readConditions_118 : decode cX6_readConditions 118 = .ok (.getfield 64, 3) := by decide +kernel
theorem dX6_readConditions_121 : decode cX6_readConditions 121 = .ok (.iload 5, 2) := by decide +kernel
theorem dX6_readConditions_123 : decode cX6_readConditions 123 = .ok (.aload_n 0, 1) := by decide +kernel
theorem dX6_readConditions_124 : decode cX6_readConditions 124 = .ok (.iconst 0, 1) := by decide +kernel
theorem dX6_readConditions_125 : decode cX6_readConditions 125 = .ok (.bipush 99, 2) := by decide +kernel
theorem dX6_readConditions_127 : decode cX6_readConditions 127 = .ok (.invokevirtual 67, 3) := by decide +kernel
theorem dX6_readConditions_130 : decode cX6_readConditions 130 = .ok (.iastore, 1) := by decide +kernel
theorem dX6_readConditions_131 : decode cX6_readConditions 131 = .ok (.aload_n 1, 1) := by decide +kernel
theorem dX6_readConditions_132 : decode cX6_readConditions 132 = .ok (.getfield 64, 3) := by decide +kernel
theorem dX6_readConditions_135 : decode cX6_readConditions 135 = .ok (.iload 5, 2) := by decide +kernel
theorem dX6_readConditions_137 : decode cX6_readConditions 137 = .ok (.iaload, 1) := by decide +kernel
theorem dX6_readConditions_138 : decode cX6_readConditions 138 = .ok (.ifCond .ge 5, 3) := by decide +kernel
theorem dX6_readConditions_141 : decode cX6_readConditions 141 = .ok (.iconst 0, 1) := by decide +kernel
theorem dX6_readConditions_142 : decode cX6_readConditions 142 = .ok (.ireturn, 1) := by decide +kernel
theorem dX6_readConditions_143 : decode cX6_readConditions 143 = .ok (.aload_n 1, 1) := by decide +kernel
theorem dX6_readConditions_144 : decode cX6_readConditions 144 = .ok (.getfield 42, 3) := by decide +kernel
theorem dX6_readConditions_147 : decode cX6_readConditions 147 = .ok (.iload_n 2, 1) := by decide +kernel
theorem dX6_readConditions_148 : decode cX6_readConditions 148 = .ok (.iload 4, 2) := by decide +kernel
theorem dX6_readConditions_150 : decode cX6_readConditions 150 = .ok (.iconst 1, 1) := by decide +kernel
theorem dX6_readConditions_151 : decode cX6_readConditions 151 = .ok (.iadd, 1) := by decide +kernel
theorem dX6_readConditions_152 : decode cX6_readConditions 152 = .ok (.iastore, 1) := by decide +kernel
theorem dX6_readConditions_153 : decode cX6_readConditions 153 = .ok (.iload 4, 2) := by decide +kernel
theorem dX6_readConditions_155 : decode cX6_readConditions 155 = .ok (.iconst 1, 1) := by decide +kernel
theorem dX6_readConditions_156 : decode cX6_readConditions 156 = .ok (.iadd, 1) := by decide +kernel
theorem dX6_readConditions_157 : decode cX6_readConditions 157 = .ok (.iconst 3, 1) := by decide +kernel
theorem dX6_readConditions_158 : decode cX6_readConditions 158 = .ok (.if_icmp .ge 16, 3) := by decide +kernel
theorem dX6_readConditions_161 : decode cX6_readConditions 161 = .ok (.aload_n 0, 1) := by decide +kernel
theorem dX6_readConditions_162 : decode cX6_readConditions 162 = .ok (.bipush 38, 2) := by decide +kernel
theorem dX6_readConditions_164 : decode cX6_readConditions 164 = .ok (.invokevirtual 31, 3) := by decide +kernel
theorem dX6_readConditions_167 : decode cX6_readConditions 167 = .ok (.ifCond .eq 7, 3) := by decide +kernel
theorem dX6_readConditions_170 : decode cX6_readConditions 170 = .ok (.iconst 1, 1) := by decide +kernel
theorem dX6_readConditions_171 : decode cX6_readConditions 171 = .ok (.goto 4, 3) := by decide +kernel
theorem dX6_readConditions_174 : decode cX6_readConditions 174 = .ok (.iconst 0, 1) := by decide +kernel
theorem dX6_readConditions_175 : decode cX6_readConditions 175 = .ok (.istore_n 3, 1) := by decide +kernel
theorem dX6_readConditions_176 : decode cX6_readConditions 176 = .ok (.iinc 4 1, 3) := by decide +kernel
theorem dX6_readConditions_179 : decode cX6_readConditions 179 = .ok (.goto (-174), 3) := by decide +kernel
theorem dX6_readConditions_182 : decode cX6_readConditions 182 = .ok (.iconst 1, 1) := by decide +kernel
theorem dX6_readConditions_183 : decode cX6_readConditions 183 = .ok (.ireturn, 1) := by decide +kernel
theorem dX6_readClaim_0 : decode cX6_readClaim 0 = .ok (.aload_n 0, 1) := by decide +kernel
theorem dX6_readClaim_1 : decode cX6_readClaim 1 = .ok (.iconst 0, 1) := by decide +kernel
theorem dX6_readClaim_2 : decode cX6_readClaim 2 = .ok (.putfield 15, 3) := by decide +kernel
theorem dX6_readClaim_5 : decode cX6_readClaim 5 = .ok (.aload_n 1, 1) := by decide +kernel
theorem dX6_readClaim_6 : decode cX6_readClaim 6 = .ok (.iconst 0, 1) := by decide +kernel
theorem dX6_readClaim_7 : decode cX6_readClaim 7 = .ok (.putfield 71, 3) := by decide +kernel
theorem dX6_readClaim_10 : decode cX6_readClaim 10 = .ok (.iconst 1, 1) := by decide +kernel
theorem dX6_readClaim_11 : decode cX6_readClaim 11 = .ok (.istore_n 2, 1) := by decide +kernel
theorem dX6_readClaim_12 : decode cX6_readClaim 12 = .ok (.iconst 0, 1) := by decide +kernel
theorem dX6_readClaim_13 : decode cX6_readClaim 13 = .ok (.istore_n 3, 1) := by decide +kernel
theorem dX6_readClaim_14 : decode cX6_readClaim 14 = .ok (.iload_n 3, 1) := by decide +kernel
theorem dX6_readClaim_15 : decode cX6_readClaim 15 = .ok (.iconst 2, 1) := by decide +kernel
theorem dX6_readClaim_16 : decode cX6_readClaim 16 = .ok (.if_icmp .ge 91, 3) := by decide +kernel
theorem dX6_readClaim_19 : decode cX6_readClaim 19 = .ok (.iload_n 2, 1) := by decide +kernel
theorem dX6_readClaim_20 : decode cX6_readClaim 20 = .ok (.ifCond .eq 87, 3) := by decide +kernel
theorem dX6_readClaim_23 : decode cX6_readClaim 23 = .ok (.aload_n 0, 1) := by decide +kernel
theorem dX6_readClaim_24 : decode cX6_readClaim 24 = .ok (.aload_n 1, 1) := by decide +kernel
theorem dX6_readClaim_25 : decode cX6_readClaim 25 = .ok (.iload_n 3, 1) := by decide +kernel
theorem dX6_readClaim_26 : decode cX6_readClaim 26 = .ok (.invokevirtual 77, 3) := by decide +kernel
theorem dX6_readClaim_29 : decode cX6_readClaim 29 = .ok (.ifCond .ne 8, 3) := by decide +kernel
theorem dX6_readClaim_32 : decode cX6_readClaim 32 = .ok (.aload_n 0, 1) := by decide +kernel
theorem dX6_readClaim_33 : decode cX6_readClaim 33 = .ok (.getfield 23, 3) := by decide +kernel
theorem dX6_readClaim_36 : decode cX6_readClaim 36 = .ok (.ireturn, 1) := by decide +kernel
theorem dX6_readClaim_37 : decode cX6_readClaim 37 = .ok (.aload_n 1, 1) := by decide +kernel
theorem dX6_readClaim_38 : decode cX6_readClaim 38 = .ok (.iload_n 3, 1) := by decide +kernel
theorem dX6_readClaim_39 : decode cX6_readClaim 39 = .ok (.iconst 1, 1) := by decide +kernel
theorem dX6_readClaim_40 : decode cX6_readClaim 40 = .ok (.iadd, 1) := by decide +kernel
theorem dX6_readClaim_41 : decode cX6_readClaim 41 = .ok (.putfield 81, 3) := by decide +kernel
theorem dX6_readClaim_44 : decode cX6_readClaim 44 = .ok (.aload_n 1, 1) := by decide +kernel
theorem dX6_readClaim_45 : decode cX6_readClaim 45 = .ok (.aload_n 1, 1) := by decide +kernel
theorem dX6_readClaim_46 : decode cX6_readClaim 46 = .ok (.getfield 71, 3) := by decide +kernel
theorem dX6_readClaim_49 : decode cX6_readClaim 49 = .ok (.ifCond .ne 12, 3) := by decide +kernel
theorem dX6_readClaim_52 : decode cX6_readClaim 52 = .ok (.aload_n 0, 1) := by decide +kernel
theorem dX6_readClaim_53 : decode cX6_readClaim 53 = .ok (.invokevirtual 35, 3) := by decide +kernel
theorem dX6_readClaim_56 : decode cX6_readClaim 56 = .ok (.bipush 124, 2) := by decide +kernel
theorem dX6_readClaim_58 : decode cX6_readClaim 58 = .ok (.if_icmp .ne 7, 3) := by decide +kernel
theorem dX6_readClaim_61 : decode cX6_readClaim 61 = .ok (.iconst 1, 1) := by decide +kernel
theorem dX6_readClaim_62 : decode cX6_readClaim 62 = .ok (.goto 4, 3) := by decide +kernel
theorem dX6_readClaim_65 : decode cX6_readClaim 65 = .ok (.iconst 0, 1) := by decide +kernel
theorem dX6_readClaim_66 : decode cX6_readClaim 66 = .ok (.putfield 71, 3) := by decide +kernel
theorem dX6_readClaim_69 : decode cX6_readClaim 69 = .ok (.aload_n 1, 1) := by decide +kernel
theorem dX6_readClaim_70 : decode cX6_readClaim 70 = .ok (.getfield 81, 3) := by decide +kernel
theorem dX6_readClaim_73 : decode cX6_readClaim 73 = .ok (.iconst 2, 1) := by decide +kernel
theorem dX6_readClaim_74 : decode cX6_readClaim 74 = .ok (.if_icmp .ge 25, 3) := by decide +kernel
theorem dX6_readClaim_77 : decode cX6_readClaim 77 = .ok (.aload_n 0, 1) := by decide +kernel
theorem dX6_readClaim_78 : decode cX6_readClaim 78 = .ok (.bipush 124, 2) := by decide +kernel
theorem dX6_readClaim_80 : decode cX6_readClaim 80 = .ok (.invokevirtual 31, 3) := by decide +kernel
theorem dX6_readClaim_83 : decode cX6_readClaim 83 = .ok (.ifCond .ne 12, 3) := by decide +kernel
theorem dX6_readClaim_86 : decode cX6_readClaim 86 = .ok (.aload_n 0, 1) := by decide +kernel
theorem dX6_readClaim_87 : decode cX6_readClaim 87 = .ok (.bipush 38, 2) := by decide +kernel
theorem dX6_readClaim_89 : decode cX6_readClaim 89 = .ok (.invokevirtual 31, 3) := by decide +kernel
theorem dX6_readClaim_92 : decode cX6_readClaim 92 = .ok (.ifCond .eq 7, 3) := by decide +kernel
theorem dX6_readClaim_95 : decode cX6_readClaim 95 = .ok (.iconst 1, 1) := by decide +kernel
theorem dX6_readClaim_96 : decode cX6_readClaim 96 = .ok (.goto 4, 3) := by decide +kernel
theorem dX6_readClaim_99 : decode cX6_readClaim 99 = .ok (.iconst 0, 1) := by decide +kernel
theorem dX6_readClaim_100 : decode cX6_readClaim 100 = .ok (.istore_n 2, 1) := by decide +kernel
theorem dX6_readClaim_101 : decode cX6_readClaim 101 = .ok (.iinc 3 1, 3) := by decide +kernel
theorem dX6_readClaim_104 : decode cX6_readClaim 104 = .ok (.goto (-90), 3) := by decide +kernel
theorem dX6_readClaim_107 : decode cX6_readClaim 107 = .ok (.aload_n 0, 1) := by decide +kernel
theorem dX6_readClaim_108 : decode cX6_readClaim 108 = .ok (.invokevirtual 35, 3) := by decide +kernel
theorem dX6_readClaim_111 : decode cX6_readClaim 111 = .ok (.iconst (-1), 1) := by decide +kernel
theorem dX6_readClaim_112 : decode cX6_readClaim 112 = .ok (.if_icmp .eq 14, 3) := by decide +kernel
theorem dX6_readClaim_115 : decode cX6_readClaim 115 = .ok (.aload_n 0, 1) := by decide +kernel
theorem dX6_readClaim_116 : decode cX6_readClaim 116 = .ok (.aload_n 0, 1) := by decide +kernel
theorem dX6_readClaim_117 : decode cX6_readClaim 117 = .ok (.getfield 15, 3) := by decide +kernel
theorem dX6_readClaim_120 : decode cX6_readClaim 120 = .ok (.invokevirtual 39, 3) := by decide +kernel
theorem dX6_readClaim_123 : decode cX6_readClaim 123 = .ok (.ifCond .eq 7, 3) := by decide +kernel
theorem dX6_readClaim_126 : decode cX6_readClaim 126 = .ok (.iconst 0, 1) := by decide +kernel
theorem dX6_readClaim_127 : decode cX6_readClaim 127 = .ok (.goto 7, 3) := by decide +kernel
theorem dX6_readClaim_130 : decode cX6_readClaim 130 = .ok (.aload_n 0, 1) := by decide +kernel
theorem dX6_readClaim_131 : decode cX6_readClaim 131 = .ok (.getfield 23, 3) := by decide +kernel
theorem dX6_readClaim_134 : decode cX6_readClaim 134 = .ok (.ireturn, 1) := by decide +kernel
theorem dX6_readAtom_0 : decode cX6_readAtom 0 = .ok (.aload_n 1, 1) := by decide +kernel
theorem dX6_readAtom_1 : decode cX6_readAtom 1 = .ok (.getfield 84, 3) := by decide +kernel
theorem dX6_readAtom_4 : decode cX6_readAtom 4 = .ok (.iload_n 2, 1) := by decide +kernel
theorem dX6_readAtom_5 : decode cX6_readAtom 5 = .ok (.aload_n 0, 1) := by decide +kernel
theorem dX6_readAtom_6 : decode cX6_readAtom 6 = .ok (.bipush 33, 2) := by decide +kernel
theorem dX6_readAtom_8 : decode cX6_readAtom 8 = .ok (.invokevirtual 31, 3) := by decide +kernel
theorem dX6_readAtom_11 : decode cX6_readAtom 11 = .ok (.bastore, 1) := by decide +kernel
theorem dX6_readAtom_12 : decode cX6_readAtom 12 = .ok (.aload_n 1, 1) := by decide +kernel
theorem dX6_readAtom_13 : decode cX6_readAtom 13 = .ok (.getfield 88, 3) := by decide +kernel
theorem dX6_readAtom_16 : decode cX6_readAtom 16 = .ok (.iload_n 2, 1) := by decide +kernel
theorem dX6_readAtom_17 : decode cX6_readAtom 17 = .ok (.bipush 42, 2) := by decide +kernel
theorem dX6_readAtom_19 : decode cX6_readAtom 19 = .ok (.iastore, 1) := by decide +kernel
theorem dX6_readAtom_20 : decode cX6_readAtom 20 = .ok (.aload_n 0, 1) := by decide +kernel
theorem dX6_readAtom_21 : decode cX6_readAtom 21 = .ok (.bipush 42, 2) := by decide +kernel
theorem dX6_readAtom_23 : decode cX6_readAtom 23 = .ok (.invokevirtual 31, 3) := by decide +kernel
theorem dX6_readAtom_26 : decode cX6_readAtom 26 = .ok (.ifCond .ne 14, 3) := by decide +kernel
theorem dX6_readAtom_29 : decode cX6_readAtom 29 = .ok (.aload_n 0, 1) := by decide +kernel
theorem dX6_readAtom_30 : decode cX6_readAtom 30 = .ok (.aload_n 1, 1) := by decide +kernel
theorem dX6_readAtom_31 : decode cX6_readAtom 31 = .ok (.iload_n 2, 1) := by decide +kernel
theorem dX6_readAtom_32 : decode cX6_readAtom 32 = .ok (.invokevirtual 91, 3) := by decide +kernel
theorem dX6_readAtom_35 : decode cX6_readAtom 35 = .ok (.ifCond .ne 5, 3) := by decide +kernel
theorem dX6_readAtom_38 : decode cX6_readAtom 38 = .ok (.iconst 0, 1) := by decide +kernel
theorem dX6_readAtom_39 : decode cX6_readAtom 39 = .ok (.ireturn, 1) := by decide +kernel
theorem dX6_readAtom_40 : decode cX6_readAtom 40 = .ok (.aload_n 0, 1) := by decide +kernel
theorem dX6_readAtom_41 : decode cX6_readAtom 41 = .ok (.bipush 64, 2) := by decide +kernel
theorem dX6_readAtom_43 : decode cX6_readAtom 43 = .ok (.invokevirtual 48, 3) := by decide +kernel
theorem dX6_readAtom_46 : decode cX6_readAtom 46 = .ok (.ifCond .ne 5, 3) := by decide +kernel
theorem dX6_readAtom_49 : decode cX6_readAtom 49 = .ok (.iconst 0, 1) := by decide +kernel
theorem dX6_readAtom_50 : decode cX6_readAtom 50 = .ok (.ireturn, 1) := by decide +kernel
theorem dX6_readAtom_51 : decode cX6_readAtom 51 = .ok (.aload_n 1, 1) := by decide +kernel
theorem dX6_readAtom_52 : decode cX6_readAtom 52 = .ok (.getfield 94, 3) := by decide +kernel
theorem dX6_readAtom_55 : decode cX6_readAtom 55 = .ok (.iload_n 2, 1) := by decide +kernel
theorem dX6_readAtom_56 : decode cX6_readAtom 56 = .ok (.aload_n 0, 1) := by decide +kernel
theorem dX6_readAtom_57 : decode cX6_readAtom 57 = .ok (.iconst 0, 1) := by decide +kernel
theorem dX6_readAtom_58 : decode cX6_readAtom 58 = .ok (.bipush 23, 2) := by decide +kernel
theorem dX6_readAtom_60 : decode cX6_readAtom 60 = .ok (.invokevirtual 67, 3) := by decide +kernel
theorem dX6_readAtom_63 : decode cX6_readAtom 63 = .ok (.iastore, 1) := by decide +kernel
theorem dX6_readAtom_64 : decode cX6_readAtom 64 = .ok (.aload_n 1, 1) := by decide +kernel
theorem dX6_readAtom_65 : decode cX6_readAtom 65 = .ok (.getfield 94, 3) := by decide +kernel
theorem dX6_readAtom_68 : decode cX6_readAtom 68 = .ok (.iload_n 2, 1) := by decide +kernel
theorem dX6_readAtom_69 : decode cX6_readAtom 69 = .ok (.iaload, 1) := by decide +kernel
theorem dX6_readAtom_70 : decode cX6_readAtom 70 = .ok (.ifCond .lt 12, 3) := by decide +kernel
theorem dX6_readAtom_73 : decode cX6_readAtom 73 = .ok (.aload_n 0, 1) := by decide +kernel
theorem dX6_readAtom_74 : decode cX6_readAtom 74 = .ok (.bipush 45, 2) := by decide +kernel
theorem dX6_readAtom_76 : decode cX6_readAtom 76 = .ok (.invokevirtual 48, 3) := by decide +kernel
theorem dX6_readAtom_79 : decode cX6_readAtom 79 = .ok (.ifCond .ne 5, 3) := by decide +kernel
theorem dX6_readAtom_82 : decode cX6_readAtom 82 = .ok (.iconst 0, 1) := by decide +kernel
theorem dX6_readAtom_83 : decode cX6_readAtom 83 = .ok (.ireturn, 1) := by decide +kernel
theorem dX6_readAtom_84 : decode cX6_readAtom 84 = .ok (.aload_n 1, 1) := by decide +kernel
theorem dX6_readAtom_85 : decode cX6_readAtom 85 = .ok (.getfield 97, 3) := by decide +kernel
theorem dX6_readAtom_88 : decode cX6_readAtom 88 = .ok (.iload_n 2, 1) := by decide +kernel
theorem dX6_readAtom_89 : decode cX6_readAtom 89 = .ok (.aload_n 0, 1) := by decide +kernel
theorem dX6_readAtom_90 : decode cX6_readAtom 90 = .ok (.aload_n 1, 1) := by decide +kernel
theorem dX6_readAtom_91 : decode cX6_readAtom 91 = .ok (.getfield 94, 3) := by decide +kernel
theorem dX6_readAtom_94 : decode cX6_readAtom 94 = .ok (.iload_n 2, 1) := by decide +kernel
theorem dX6_readAtom_95 : decode cX6_readAtom 95 = .ok (.iaload, 1) := by decide +kernel
theorem dX6_readAtom_96 : decode cX6_readAtom 96 = .ok (.bipush 23, 2) := by decide +kernel
theorem dX6_readAtom_98 : decode cX6_readAtom 98 = .ok (.invokevirtual 67, 3) := by decide +kernel
theorem dX6_readAtom_101 : decode cX6_readAtom 101 = .ok (.iastore, 1) := by decide +kernel
theorem dX6_readAtom_102 : decode cX6_readAtom 102 = .ok (.aload_n 1, 1) := by decide +kernel
theorem dX6_readAtom_103 : decode cX6_readAtom 103 = .ok (.getfield 97, 3) := by decide +kernel
theorem dX6_readAtom_106 : decode cX6_readAtom 106 = .ok (.iload_n 2, 1) := by decide +kernel
theorem dX6_readAtom_107 : decode cX6_readAtom 107 = .ok (.iaload, 1) := by decide +kernel
theorem dX6_readAtom_108 : decode cX6_readAtom 108 = .ok (.ifCond .lt 12, 3) := by decide +kernel
theorem dX6_readAtom_111 : decode cX6_readAtom 111 = .ok (.aload_n 0, 1) := by decide +kernel
